-- ===== PART A: goes FIRST, ahead of the names: the tables' words, and 'selects' of the private methods out of them =====
/-- a private method of a class that the tables say can be made, by its rows of tables_1 -/
def lw_okq (q : MethodName × Nat) : Prop := (q.1.cls ≠ "java/lang/invoke/MethodHandle" ∧ q.1.cls ≠ "java/lang/invoke/VarHandle") ∧ Cond.instantiable q.1.cls q.2 ∈ tables_1 ∧ Cond.privateMethod q.1 ∈ tables_1 ∧ Cond.instanceMethod q.1 ∈ tables_1
theorem lw_p0 : lw_okq (⟨"DogsPostman", "refuse", "(I)I"⟩, 12) := ⟨⟨by decide +kernel, by decide +kernel⟩, List.mem_of_getElem? (i := 15) (by decide +kernel), List.mem_of_getElem? (i := 160) (by decide +kernel), List.mem_of_getElem? (i := 161) (by decide +kernel)⟩
theorem lw_p1 : lw_okq (⟨"DogsPostman", "lookAhead", "(I)V"⟩, 12) := ⟨⟨by decide +kernel, by decide +kernel⟩, List.mem_of_getElem? (i := 15) (by decide +kernel), List.mem_of_getElem? (i := 427) (by decide +kernel), List.mem_of_getElem? (i := 428) (by decide +kernel)⟩
theorem lw_p2 : lw_okq (⟨"DogsPostman", "winsByBribing", "(II)Z"⟩, 12) := ⟨⟨by decide +kernel, by decide +kernel⟩, List.mem_of_getElem? (i := 15) (by decide +kernel), List.mem_of_getElem? (i := 455) (by decide +kernel), List.mem_of_getElem? (i := 456) (by decide +kernel)⟩
theorem lw_p3 : lw_okq (⟨"DogsPostman", "fillGains", "(II)V"⟩, 12) := ⟨⟨by decide +kernel, by decide +kernel⟩, List.mem_of_getElem? (i := 15) (by decide +kernel), List.mem_of_getElem? (i := 513) (by decide +kernel), List.mem_of_getElem? (i := 514) (by decide +kernel)⟩
theorem lw_p4 : lw_okq (⟨"DogsPostman", "mayChoose", "(I)Z"⟩, 12) := ⟨⟨by decide +kernel, by decide +kernel⟩, List.mem_of_getElem? (i := 15) (by decide +kernel), List.mem_of_getElem? (i := 517) (by decide +kernel), List.mem_of_getElem? (i := 518) (by decide +kernel)⟩
theorem lw_p5 : lw_okq (⟨"DogsPostman", "rests", "(II)Z"⟩, 12) := ⟨⟨by decide +kernel, by decide +kernel⟩, List.mem_of_getElem? (i := 15) (by decide +kernel), List.mem_of_getElem? (i := 527) (by decide +kernel), List.mem_of_getElem? (i := 528) (by decide +kernel)⟩
theorem lw_p6 : lw_okq (⟨"DogsPostman", "counted", "(I)I"⟩, 12) := ⟨⟨by decide +kernel, by decide +kernel⟩, List.mem_of_getElem? (i := 15) (by decide +kernel), List.mem_of_getElem? (i := 568) (by decide +kernel), List.mem_of_getElem? (i := 569) (by decide +kernel)⟩
theorem lw_p7 : lw_okq (⟨"DogsPostmanModel", "begin", "()V"⟩, 34) := ⟨⟨by decide +kernel, by decide +kernel⟩, List.mem_of_getElem? (i := 583) (by decide +kernel), List.mem_of_getElem? (i := 589) (by decide +kernel), List.mem_of_getElem? (i := 590) (by decide +kernel)⟩
theorem lw_p8 : lw_okq (⟨"DogsPostmanModel", "bad", "()I"⟩, 34) := ⟨⟨by decide +kernel, by decide +kernel⟩, List.mem_of_getElem? (i := 583) (by decide +kernel), List.mem_of_getElem? (i := 707) (by decide +kernel), List.mem_of_getElem? (i := 708) (by decide +kernel)⟩
theorem lw_p9 : lw_okq (⟨"DogsPostmanModel", "full", "()I"⟩, 34) := ⟨⟨by decide +kernel, by decide +kernel⟩, List.mem_of_getElem? (i := 583) (by decide +kernel), List.mem_of_getElem? (i := 711) (by decide +kernel), List.mem_of_getElem? (i := 712) (by decide +kernel)⟩
theorem lw_p10 : lw_okq (⟨"DogsPostmanModel", "addMan", "(II)I"⟩, 34) := ⟨⟨by decide +kernel, by decide +kernel⟩, List.mem_of_getElem? (i := 583) (by decide +kernel), List.mem_of_getElem? (i := 715) (by decide +kernel), List.mem_of_getElem? (i := 716) (by decide +kernel)⟩
theorem lw_p11 : lw_okq (⟨"DogsPostmanModel", "addDog", "(IIII)I"⟩, 34) := ⟨⟨by decide +kernel, by decide +kernel⟩, List.mem_of_getElem? (i := 583) (by decide +kernel), List.mem_of_getElem? (i := 723) (by decide +kernel), List.mem_of_getElem? (i := 724) (by decide +kernel)⟩
theorem lw_p12 : lw_okq (⟨"DogsPostmanModel", "readsVillage", "()I"⟩, 34) := ⟨⟨by decide +kernel, by decide +kernel⟩, List.mem_of_getElem? (i := 583) (by decide +kernel), List.mem_of_getElem? (i := 739) (by decide +kernel), List.mem_of_getElem? (i := 740) (by decide +kernel)⟩
theorem lw_p13 : lw_okq (⟨"DogsPostmanModel", "skip", "()V"⟩, 34) := ⟨⟨by decide +kernel, by decide +kernel⟩, List.mem_of_getElem? (i := 583) (by decide +kernel), List.mem_of_getElem? (i := 743) (by decide +kernel), List.mem_of_getElem? (i := 744) (by decide +kernel)⟩
theorem lw_p14 : lw_okq (⟨"DogsPostmanModel", "here", "()I"⟩, 34) := ⟨⟨by decide +kernel, by decide +kernel⟩, List.mem_of_getElem? (i := 583) (by decide +kernel), List.mem_of_getElem? (i := 747) (by decide +kernel), List.mem_of_getElem? (i := 748) (by decide +kernel)⟩
theorem lw_p15 : lw_okq (⟨"DogsPostmanModel", "wordHere", "()I"⟩, 34) := ⟨⟨by decide +kernel, by decide +kernel⟩, List.mem_of_getElem? (i := 583) (by decide +kernel), List.mem_of_getElem? (i := 751) (by decide +kernel), List.mem_of_getElem? (i := 752) (by decide +kernel)⟩
def lw_privs_1 : List (MethodName × Nat) := [(⟨"DogsPostman", "refuse", "(I)I"⟩, 12), (⟨"DogsPostman", "lookAhead", "(I)V"⟩, 12), (⟨"DogsPostman", "winsByBribing", "(II)Z"⟩, 12), (⟨"DogsPostman", "fillGains", "(II)V"⟩, 12), (⟨"DogsPostman", "mayChoose", "(I)Z"⟩, 12), (⟨"DogsPostman", "rests", "(II)Z"⟩, 12), (⟨"DogsPostman", "counted", "(I)I"⟩, 12), (⟨"DogsPostmanModel", "begin", "()V"⟩, 34), (⟨"DogsPostmanModel", "bad", "()I"⟩, 34), (⟨"DogsPostmanModel", "full", "()I"⟩, 34), (⟨"DogsPostmanModel", "addMan", "(II)I"⟩, 34), (⟨"DogsPostmanModel", "addDog", "(IIII)I"⟩, 34), (⟨"DogsPostmanModel", "readsVillage", "()I"⟩, 34), (⟨"DogsPostmanModel", "skip", "()V"⟩, 34), (⟨"DogsPostmanModel", "here", "()I"⟩, 34), (⟨"DogsPostmanModel", "wordHere", "()I"⟩, 34)]
theorem lw_r1 : ∀ q ∈ lw_privs_1, lw_okq q := List.forall_mem_cons.mpr ⟨lw_p0, List.forall_mem_cons.mpr ⟨lw_p1, List.forall_mem_cons.mpr ⟨lw_p2, List.forall_mem_cons.mpr ⟨lw_p3, List.forall_mem_cons.mpr ⟨lw_p4, List.forall_mem_cons.mpr ⟨lw_p5, List.forall_mem_cons.mpr ⟨lw_p6, List.forall_mem_cons.mpr ⟨lw_p7, List.forall_mem_cons.mpr ⟨lw_p8, List.forall_mem_cons.mpr ⟨lw_p9, List.forall_mem_cons.mpr ⟨lw_p10, List.forall_mem_cons.mpr ⟨lw_p11, List.forall_mem_cons.mpr ⟨lw_p12, List.forall_mem_cons.mpr ⟨lw_p13, List.forall_mem_cons.mpr ⟨lw_p14, List.forall_mem_cons.mpr ⟨lw_p15, fun _ h => absurd h List.not_mem_nil⟩⟩⟩⟩⟩⟩⟩⟩⟩⟩⟩⟩⟩⟩⟩⟩
theorem lw_p16 : lw_okq (⟨"DogsPostmanModel", "wordSize", "()I"⟩, 34) := ⟨⟨by decide +kernel, by decide +kernel⟩, List.mem_of_getElem? (i := 583) (by decide +kernel), List.mem_of_getElem? (i := 755) (by decide +kernel), List.mem_of_getElem? (i := 756) (by decide +kernel)⟩
theorem lw_p17 : lw_okq (⟨"DogsPostmanModel", "letter", "(I)I"⟩, 34) := ⟨⟨by decide +kernel, by decide +kernel⟩, List.mem_of_getElem? (i := 583) (by decide +kernel), List.mem_of_getElem? (i := 762) (by decide +kernel), List.mem_of_getElem? (i := 763) (by decide +kernel)⟩
theorem lw_p18 : lw_okq (⟨"DogsPostmanModel", "ends", "()Z"⟩, 34) := ⟨⟨by decide +kernel, by decide +kernel⟩, List.mem_of_getElem? (i := 583) (by decide +kernel), List.mem_of_getElem? (i := 766) (by decide +kernel), List.mem_of_getElem? (i := 767) (by decide +kernel)⟩
theorem lw_p19 : lw_okq (⟨"DogsPostmanModel", "readsItem", "()Z"⟩, 34) := ⟨⟨by decide +kernel, by decide +kernel⟩, List.mem_of_getElem? (i := 583) (by decide +kernel), List.mem_of_getElem? (i := 770) (by decide +kernel), List.mem_of_getElem? (i := 771) (by decide +kernel)⟩
theorem lw_p20 : lw_okq (⟨"DogsPostmanModel", "readsMan", "()Z"⟩, 34) := ⟨⟨by decide +kernel, by decide +kernel⟩, List.mem_of_getElem? (i := 583) (by decide +kernel), List.mem_of_getElem? (i := 774) (by decide +kernel), List.mem_of_getElem? (i := 775) (by decide +kernel)⟩
theorem lw_p21 : lw_okq (⟨"DogsPostmanModel", "number", "(II)Z"⟩, 34) := ⟨⟨by decide +kernel, by decide +kernel⟩, List.mem_of_getElem? (i := 583) (by decide +kernel), List.mem_of_getElem? (i := 778) (by decide +kernel), List.mem_of_getElem? (i := 779) (by decide +kernel)⟩
theorem lw_p22 : lw_okq (⟨"DogsPostmanModel", "readsDog", "()Z"⟩, 34) := ⟨⟨by decide +kernel, by decide +kernel⟩, List.mem_of_getElem? (i := 583) (by decide +kernel), List.mem_of_getElem? (i := 785) (by decide +kernel), List.mem_of_getElem? (i := 786) (by decide +kernel)⟩
theorem lw_p23 : lw_okq (⟨"DogsPostmanModel", "readsBribe", "()Z"⟩, 34) := ⟨⟨by decide +kernel, by decide +kernel⟩, List.mem_of_getElem? (i := 583) (by decide +kernel), List.mem_of_getElem? (i := 789) (by decide +kernel), List.mem_of_getElem? (i := 790) (by decide +kernel)⟩
theorem lw_p24 : lw_okq (⟨"DogsPostmanModel", "isMan", "(I)Z"⟩, 34) := ⟨⟨by decide +kernel, by decide +kernel⟩, List.mem_of_getElem? (i := 583) (by decide +kernel), List.mem_of_getElem? (i := 800) (by decide +kernel), List.mem_of_getElem? (i := 801) (by decide +kernel)⟩
theorem lw_p25 : lw_okq (⟨"DogsPostmanModel", "isDog", "(I)Z"⟩, 34) := ⟨⟨by decide +kernel, by decide +kernel⟩, List.mem_of_getElem? (i := 583) (by decide +kernel), List.mem_of_getElem? (i := 804) (by decide +kernel), List.mem_of_getElem? (i := 805) (by decide +kernel)⟩
theorem lw_p26 : lw_okq (⟨"DogsPostmanModel", "no", "()I"⟩, 34) := ⟨⟨by decide +kernel, by decide +kernel⟩, List.mem_of_getElem? (i := 583) (by decide +kernel), List.mem_of_getElem? (i := 808) (by decide +kernel), List.mem_of_getElem? (i := 809) (by decide +kernel)⟩
theorem lw_p27 : lw_okq (⟨"DogsPostmanModel", "notes", "()V"⟩, 34) := ⟨⟨by decide +kernel, by decide +kernel⟩, List.mem_of_getElem? (i := 583) (by decide +kernel), List.mem_of_getElem? (i := 812) (by decide +kernel), List.mem_of_getElem? (i := 813) (by decide +kernel)⟩
theorem lw_p28 : lw_okq (⟨"DogsPostmanModel", "lays", "([II)V"⟩, 34) := ⟨⟨by decide +kernel, by decide +kernel⟩, List.mem_of_getElem? (i := 583) (by decide +kernel), List.mem_of_getElem? (i := 816) (by decide +kernel), List.mem_of_getElem? (i := 817) (by decide +kernel)⟩
theorem lw_p29 : lw_okq (⟨"DogsPostmanModel", "pass", "()V"⟩, 34) := ⟨⟨by decide +kernel, by decide +kernel⟩, List.mem_of_getElem? (i := 583) (by decide +kernel), List.mem_of_getElem? (i := 824) (by decide +kernel), List.mem_of_getElem? (i := 825) (by decide +kernel)⟩
theorem lw_p30 : lw_okq (⟨"DogsPostmanModel", "firstOf", "(I)I"⟩, 34) := ⟨⟨by decide +kernel, by decide +kernel⟩, List.mem_of_getElem? (i := 583) (by decide +kernel), List.mem_of_getElem? (i := 828) (by decide +kernel), List.mem_of_getElem? (i := 829) (by decide +kernel)⟩
theorem lw_p31 : lw_okq (⟨"DogsPostmanModel", "comesTo", "(III)I"⟩, 34) := ⟨⟨by decide +kernel, by decide +kernel⟩, List.mem_of_getElem? (i := 583) (by decide +kernel), List.mem_of_getElem? (i := 832) (by decide +kernel), List.mem_of_getElem? (i := 833) (by decide +kernel)⟩
def lw_privs_2 : List (MethodName × Nat) := [(⟨"DogsPostmanModel", "wordSize", "()I"⟩, 34), (⟨"DogsPostmanModel", "letter", "(I)I"⟩, 34), (⟨"DogsPostmanModel", "ends", "()Z"⟩, 34), (⟨"DogsPostmanModel", "readsItem", "()Z"⟩, 34), (⟨"DogsPostmanModel", "readsMan", "()Z"⟩, 34), (⟨"DogsPostmanModel", "number", "(II)Z"⟩, 34), (⟨"DogsPostmanModel", "readsDog", "()Z"⟩, 34), (⟨"DogsPostmanModel", "readsBribe", "()Z"⟩, 34), (⟨"DogsPostmanModel", "isMan", "(I)Z"⟩, 34), (⟨"DogsPostmanModel", "isDog", "(I)Z"⟩, 34), (⟨"DogsPostmanModel", "no", "()I"⟩, 34), (⟨"DogsPostmanModel", "notes", "()V"⟩, 34), (⟨"DogsPostmanModel", "lays", "([II)V"⟩, 34), (⟨"DogsPostmanModel", "pass", "()V"⟩, 34), (⟨"DogsPostmanModel", "firstOf", "(I)I"⟩, 34), (⟨"DogsPostmanModel", "comesTo", "(III)I"⟩, 34)]
theorem lw_r2 : ∀ q ∈ lw_privs_2, lw_okq q := List.forall_mem_cons.mpr ⟨lw_p16, List.forall_mem_cons.mpr ⟨lw_p17, List.forall_mem_cons.mpr ⟨lw_p18, List.forall_mem_cons.mpr ⟨lw_p19, List.forall_mem_cons.mpr ⟨lw_p20, List.forall_mem_cons.mpr ⟨lw_p21, List.forall_mem_cons.mpr ⟨lw_p22, List.forall_mem_cons.mpr ⟨lw_p23, List.forall_mem_cons.mpr ⟨lw_p24, List.forall_mem_cons.mpr ⟨lw_p25, List.forall_mem_cons.mpr ⟨lw_p26, List.forall_mem_cons.mpr ⟨lw_p27, List.forall_mem_cons.mpr ⟨lw_p28, List.forall_mem_cons.mpr ⟨lw_p29, List.forall_mem_cons.mpr ⟨lw_p30, List.forall_mem_cons.mpr ⟨lw_p31, fun _ h => absurd h List.not_mem_nil⟩⟩⟩⟩⟩⟩⟩⟩⟩⟩⟩⟩⟩⟩⟩⟩
theorem lw_p32 : lw_okq (⟨"DogsPostmanModel", "isBitten", "(III)Z"⟩, 34) := ⟨⟨by decide +kernel, by decide +kernel⟩, List.mem_of_getElem? (i := 583) (by decide +kernel), List.mem_of_getElem? (i := 836) (by decide +kernel), List.mem_of_getElem? (i := 837) (by decide +kernel)⟩
theorem lw_p33 : lw_okq (⟨"DogsPostmanModel", "postman", "()I"⟩, 34) := ⟨⟨by decide +kernel, by decide +kernel⟩, List.mem_of_getElem? (i := 583) (by decide +kernel), List.mem_of_getElem? (i := 849) (by decide +kernel), List.mem_of_getElem? (i := 850) (by decide +kernel)⟩
theorem lw_p34 : lw_okq (⟨"DogsPostmanModel", "takes", "([II)V"⟩, 34) := ⟨⟨by decide +kernel, by decide +kernel⟩, List.mem_of_getElem? (i := 583) (by decide +kernel), List.mem_of_getElem? (i := 857) (by decide +kernel), List.mem_of_getElem? (i := 858) (by decide +kernel)⟩
theorem lw_p35 : lw_okq (⟨"DogsPostmanModel", "puts", "()V"⟩, 34) := ⟨⟨by decide +kernel, by decide +kernel⟩, List.mem_of_getElem? (i := 583) (by decide +kernel), List.mem_of_getElem? (i := 877) (by decide +kernel), List.mem_of_getElem? (i := 878) (by decide +kernel)⟩
theorem lw_p36 : lw_okq (⟨"DogsPostmanModel", "back", "()V"⟩, 34) := ⟨⟨by decide +kernel, by decide +kernel⟩, List.mem_of_getElem? (i := 583) (by decide +kernel), List.mem_of_getElem? (i := 881) (by decide +kernel), List.mem_of_getElem? (i := 882) (by decide +kernel)⟩
theorem lw_p37 : lw_okq (⟨"DogsPostmanModel", "wonIn", "(II)I"⟩, 34) := ⟨⟨by decide +kernel, by decide +kernel⟩, List.mem_of_getElem? (i := 583) (by decide +kernel), List.mem_of_getElem? (i := 889) (by decide +kernel), List.mem_of_getElem? (i := 890) (by decide +kernel)⟩
theorem lw_p38 : lw_okq (⟨"DogsPostmanModel", "nextVillage", "()I"⟩, 34) := ⟨⟨by decide +kernel, by decide +kernel⟩, List.mem_of_getElem? (i := 583) (by decide +kernel), List.mem_of_getElem? (i := 893) (by decide +kernel), List.mem_of_getElem? (i := 894) (by decide +kernel)⟩
theorem lw_p39 : lw_okq (⟨"DogsPostmanModel", "hungerOf", "(I)I"⟩, 34) := ⟨⟨by decide +kernel, by decide +kernel⟩, List.mem_of_getElem? (i := 583) (by decide +kernel), List.mem_of_getElem? (i := 905) (by decide +kernel), List.mem_of_getElem? (i := 906) (by decide +kernel)⟩
theorem lw_p40 : lw_okq (⟨"DogsPostmanModel", "kindsOf", "(I)I"⟩, 34) := ⟨⟨by decide +kernel, by decide +kernel⟩, List.mem_of_getElem? (i := 583) (by decide +kernel), List.mem_of_getElem? (i := 933) (by decide +kernel), List.mem_of_getElem? (i := 934) (by decide +kernel)⟩
theorem lw_p41 : lw_okq (⟨"DogsPostmanModel", "ten", "()I"⟩, 34) := ⟨⟨by decide +kernel, by decide +kernel⟩, List.mem_of_getElem? (i := 583) (by decide +kernel), List.mem_of_getElem? (i := 946) (by decide +kernel), List.mem_of_getElem? (i := 947) (by decide +kernel)⟩
theorem lw_p42 : lw_okq (⟨"DogsPostmanModel", "isChoice", "(I)Z"⟩, 34) := ⟨⟨by decide +kernel, by decide +kernel⟩, List.mem_of_getElem? (i := 583) (by decide +kernel), List.mem_of_getElem? (i := 950) (by decide +kernel), List.mem_of_getElem? (i := 951) (by decide +kernel)⟩
theorem lw_p43 : lw_okq (⟨"DogsPostmanModel", "rests", "(IIII)Z"⟩, 34) := ⟨⟨by decide +kernel, by decide +kernel⟩, List.mem_of_getElem? (i := 583) (by decide +kernel), List.mem_of_getElem? (i := 954) (by decide +kernel), List.mem_of_getElem? (i := 955) (by decide +kernel)⟩
theorem lw_p44 : lw_okq (⟨"DogsPostmanModel", "gets", "(III)I"⟩, 34) := ⟨⟨by decide +kernel, by decide +kernel⟩, List.mem_of_getElem? (i := 583) (by decide +kernel), List.mem_of_getElem? (i := 958) (by decide +kernel), List.mem_of_getElem? (i := 959) (by decide +kernel)⟩
theorem lw_p45 : lw_okq (⟨"DogsPostmanModel", "lay", "(JJ)V"⟩, 34) := ⟨⟨by decide +kernel, by decide +kernel⟩, List.mem_of_getElem? (i := 583) (by decide +kernel), List.mem_of_getElem? (i := 967) (by decide +kernel), List.mem_of_getElem? (i := 968) (by decide +kernel)⟩
theorem lw_p46 : lw_okq (⟨"DogsPostmanModel", "countOf", "(I)I"⟩, 34) := ⟨⟨by decide +kernel, by decide +kernel⟩, List.mem_of_getElem? (i := 583) (by decide +kernel), List.mem_of_getElem? (i := 1001) (by decide +kernel), List.mem_of_getElem? (i := 1002) (by decide +kernel)⟩
theorem lw_p47 : lw_okq (⟨"DogsPostmanModel", "mix", "(J)V"⟩, 34) := ⟨⟨by decide +kernel, by decide +kernel⟩, List.mem_of_getElem? (i := 583) (by decide +kernel), List.mem_of_getElem? (i := 1013) (by decide +kernel), List.mem_of_getElem? (i := 1014) (by decide +kernel)⟩
def lw_privs_3 : List (MethodName × Nat) := [(⟨"DogsPostmanModel", "isBitten", "(III)Z"⟩, 34), (⟨"DogsPostmanModel", "postman", "()I"⟩, 34), (⟨"DogsPostmanModel", "takes", "([II)V"⟩, 34), (⟨"DogsPostmanModel", "puts", "()V"⟩, 34), (⟨"DogsPostmanModel", "back", "()V"⟩, 34), (⟨"DogsPostmanModel", "wonIn", "(II)I"⟩, 34), (⟨"DogsPostmanModel", "nextVillage", "()I"⟩, 34), (⟨"DogsPostmanModel", "hungerOf", "(I)I"⟩, 34), (⟨"DogsPostmanModel", "kindsOf", "(I)I"⟩, 34), (⟨"DogsPostmanModel", "ten", "()I"⟩, 34), (⟨"DogsPostmanModel", "isChoice", "(I)Z"⟩, 34), (⟨"DogsPostmanModel", "rests", "(IIII)Z"⟩, 34), (⟨"DogsPostmanModel", "gets", "(III)I"⟩, 34), (⟨"DogsPostmanModel", "lay", "(JJ)V"⟩, 34), (⟨"DogsPostmanModel", "countOf", "(I)I"⟩, 34), (⟨"DogsPostmanModel", "mix", "(J)V"⟩, 34)]
theorem lw_r3 : ∀ q ∈ lw_privs_3, lw_okq q := List.forall_mem_cons.mpr ⟨lw_p32, List.forall_mem_cons.mpr ⟨lw_p33, List.forall_mem_cons.mpr ⟨lw_p34, List.forall_mem_cons.mpr ⟨lw_p35, List.forall_mem_cons.mpr ⟨lw_p36, List.forall_mem_cons.mpr ⟨lw_p37, List.forall_mem_cons.mpr ⟨lw_p38, List.forall_mem_cons.mpr ⟨lw_p39, List.forall_mem_cons.mpr ⟨lw_p40, List.forall_mem_cons.mpr ⟨lw_p41, List.forall_mem_cons.mpr ⟨lw_p42, List.forall_mem_cons.mpr ⟨lw_p43, List.forall_mem_cons.mpr ⟨lw_p44, List.forall_mem_cons.mpr ⟨lw_p45, List.forall_mem_cons.mpr ⟨lw_p46, List.forall_mem_cons.mpr ⟨lw_p47, fun _ h => absurd h List.not_mem_nil⟩⟩⟩⟩⟩⟩⟩⟩⟩⟩⟩⟩⟩⟩⟩⟩
def lw_privs : List (MethodName × Nat) := lw_privs_1 ++ (lw_privs_2 ++ (lw_privs_3))
def lw_tbl : List Cond := k2_sels lw_privs ++ tables_1
theorem lw_privs_ok : ∀ q ∈ lw_privs, lw_okq q := by
  show ∀ q ∈ lw_privs_1 ++ (lw_privs_2 ++ (lw_privs_3)), lw_okq q
  exact List.forall_mem_append.mpr ⟨lw_r1, List.forall_mem_append.mpr ⟨lw_r2, lw_r3⟩⟩

/-! ===== BEGIN words of one list among another's, by their places ===== -/
theorem goodIn_r {big : List Cond} (ws : List Cond) (ps : List Nat) (hp : ws = ps.filterMap (fun i => big[i]?)) (h : ws.all goodWord = true) : GoodIn big ws := by
  intro w hw
  have h1 := List.all_eq_true.mp h w hw
  rw [hp] at hw
  obtain ⟨i, -, hi⟩ := List.mem_filterMap.mp hw
  have hm : w ∈ big := by first | exact List.mem_of_getElem? hi | exact List.getElem?_mem hi
  exact ⟨hm, good_of_word h1⟩
theorem goodIn_app {big a b : List Cond} (ha : GoodIn big a) (hb : GoodIn big b) : GoodIn big (a ++ b) := fun w h => (List.mem_append.mp h).elim (ha w) (hb w)
theorem goodIn_ca {big a b : List Cond} {c : Cond} (ha : GoodIn big (c :: a)) (hb : GoodIn big b) : GoodIn big (c :: (a ++ b)) := fun w h => (List.mem_cons.mp h).elim (fun e => ha w (List.mem_cons.mpr (Or.inl e))) (fun h => (List.mem_append.mp h).elim (fun h => ha w (List.mem_cons.mpr (Or.inr h))) (hb w))
theorem goodIn_sub {big ws : List Cond} (hm : ∀ w ∈ ws, w ∈ big) (h : ws.all goodWord = true) : GoodIn big ws := fun w hw => ⟨hm w hw, good_of_word (List.all_eq_true.mp h w hw)⟩
/-! ===== END ===== -/

/-! ===== BEGIN printed: names, fields, word lists, decode rows ===== -/
def RX0 : String := "DogsPostman$Kinds"
def TX0 : u_T := fun k => match k with
  | _ => ("", "", "", false)
def tyX0 : Nat → FieldType := fun k => match k with
  | _ => .int
abbrev wsX00 : List Cond := u_ws RX0 TX0 0
theorem nmX0 : ∀ a, a < 0 → ∀ b, b < 0 → a ≠ b → (TX0 a).2.1 ≠ (TX0 b).2.1 := by decide +kernel
theorem tyX0_ok : ∀ k, k < 0 → parseFieldDescriptor (TX0 k).2.2.1 = some (tyX0 k) := by decide +kernel
abbrev cX0_wouldBite : ByteArray := prog_2_method_2_code
def yX0_wouldBite : MethodName := ⟨RX0, "wouldBite", "(IZI)Z"⟩
abbrev cX0_bites : ByteArray := prog_2_method_3_code
def yX0_bites : MethodName := ⟨RX0, "bites", "(I)I"⟩
abbrev cX0_width : ByteArray := prog_2_method_4_code
def yX0_width : MethodName := ⟨RX0, "width", "(II)I"⟩
abbrev cX0_biting : ByteArray := prog_2_method_5_code
def yX0_biting : MethodName := ⟨RX0, "biting", "(ZI)I"⟩
def RX1 : String := "DogsPostman$Reader"
def TX1 : u_T := fun k => match k with
  | 0 => ("DogsPostman$Reader", "text", "LDogsPostman$Text;", true)
  | 1 => ("DogsPostman$Reader", "into", "LDogsPostman$Village;", true)
  | 2 => ("DogsPostman$Reader", "sort", "I", false)
  | 3 => ("DogsPostman$Reader", "at", "I", false)
  | 4 => ("DogsPostman$Reader", "behind", "I", false)
  | _ => ("DogsPostman$Reader", "value", "I", false)
def tyX1 : Nat → FieldType := fun k => match k with
  | 0 => .object "DogsPostman$Text"
  | 1 => .object "DogsPostman$Village"
  | 2 => .int
  | 3 => .int
  | 4 => .int
  | _ => .int
abbrev wsX10 : List Cond := u_ws RX1 TX1 6
theorem nmX1 : ∀ a, a < 6 → ∀ b, b < 6 → a ≠ b → (TX1 a).2.1 ≠ (TX1 b).2.1 := by decide +kernel
theorem tyX1_ok : ∀ k, k < 6 → parseFieldDescriptor (TX1 k).2.2.1 = some (tyX1 k) := by decide +kernel
abbrev cX1_init : ByteArray := prog_3_method_1_code
def yX1_init : MethodName := ⟨RX1, "<init>", "(LDogsPostman$Text;LDogsPostman$Village;)V"⟩
abbrev cX1_readVillage : ByteArray := prog_3_method_2_code
def yX1_readVillage : MethodName := ⟨RX1, "readVillage", "()I"⟩
abbrev cX1_readItem : ByteArray := prog_3_method_3_code
def yX1_readItem : MethodName := ⟨RX1, "readItem", "()Z"⟩
abbrev cX1_readMan : ByteArray := prog_3_method_4_code
def yX1_readMan : MethodName := ⟨RX1, "readMan", "()Z"⟩
abbrev cX1_readDog : ByteArray := prog_3_method_5_code
def yX1_readDog : MethodName := ⟨RX1, "readDog", "()Z"⟩
abbrev cX1_readBribe : ByteArray := prog_3_method_6_code
def yX1_readBribe : MethodName := ⟨RX1, "readBribe", "()Z"⟩
abbrev cX1_numberNext : ByteArray := prog_3_method_7_code
def yX1_numberNext : MethodName := ⟨RX1, "numberNext", "(II)Z"⟩
abbrev cX1_semicolonNext : ByteArray := prog_3_method_8_code
def yX1_semicolonNext : MethodName := ⟨RX1, "semicolonNext", "()Z"⟩
abbrev cX1_wordHere : ByteArray := prog_3_method_9_code
def yX1_wordHere : MethodName := ⟨RX1, "wordHere", "(Ljava/lang/String;)Z"⟩
abbrev cX1_next : ByteArray := prog_3_method_10_code
def yX1_next : MethodName := ⟨RX1, "next", "()V"⟩
abbrev cX1_takeNumber : ByteArray := prog_3_method_11_code
def yX1_takeNumber : MethodName := ⟨RX1, "takeNumber", "(I)V"⟩
abbrev cX1_isLetter : ByteArray := prog_3_method_12_code
def yX1_isLetter : MethodName := ⟨RX1, "isLetter", "(I)Z"⟩
abbrev cX1_isFigure : ByteArray := prog_3_method_13_code
def yX1_isFigure : MethodName := ⟨RX1, "isFigure", "(I)Z"⟩
def RX2 : String := "DogsPostman$Text"
def TX2 : u_T := fun k => match k with
  | 0 => ("DogsPostman$Text", "bytes", "[B", true)
  | _ => ("DogsPostman$Text", "length", "I", false)
def tyX2 : Nat → FieldType := fun k => match k with
  | 0 => .array .byte
  | _ => .int
abbrev wsX20 : List Cond := u_ws RX2 TX2 2
theorem nmX2 : ∀ a, a < 2 → ∀ b, b < 2 → a ≠ b → (TX2 a).2.1 ≠ (TX2 b).2.1 := by decide +kernel
theorem tyX2_ok : ∀ k, k < 2 → parseFieldDescriptor (TX2 k).2.2.1 = some (tyX2 k) := by decide +kernel
abbrev cX2_init : ByteArray := prog_4_method_1_code
def yX2_init : MethodName := ⟨RX2, "<init>", "()V"⟩
abbrev cX2_add : ByteArray := prog_4_method_2_code
def yX2_add : MethodName := ⟨RX2, "add", "(I)I"⟩
abbrev cX2_at : ByteArray := prog_4_method_3_code
def yX2_at : MethodName := ⟨RX2, "at", "(I)I"⟩
def RX3 : String := "DogsPostman$Village"
def TX3 : u_T := fun k => match k with
  | 0 => ("DogsPostman$Village", "men", "I", false)
  | 1 => ("DogsPostman$Village", "dogs", "I", false)
  | 2 => ("DogsPostman$Village", "asleep", "I", false)
  | 3 => ("DogsPostman$Village", "round", "I", false)
  | 4 => ("DogsPostman$Village", "notes", "I", false)
  | 5 => ("DogsPostman$Village", "pasts", "I", false)
  | 6 => ("DogsPostman$Village", "boots", "[I", true)
  | 7 => ("DogsPostman$Village", "ham", "[I", true)
  | 8 => ("DogsPostman$Village", "holes", "[I", true)
  | 9 => ("DogsPostman$Village", "kind", "[I", true)
  | 10 => ("DogsPostman$Village", "weight", "[I", true)
  | 11 => ("DogsPostman$Village", "hunger", "[I", true)
  | 12 => ("DogsPostman$Village", "favourite", "[I", true)
  | 13 => ("DogsPostman$Village", "noted", "[I", true)
  | _ => ("DogsPostman$Village", "past", "[I", true)
def tyX3 : Nat → FieldType := fun k => match k with
  | 0 => .int
  | 1 => .int
  | 2 => .int
  | 3 => .int
  | 4 => .int
  | 5 => .int
  | 6 => .array .int
  | 7 => .array .int
  | 8 => .array .int
  | 9 => .array .int
  | 10 => .array .int
  | 11 => .array .int
  | 12 => .array .int
  | 13 => .array .int
  | _ => .array .int
abbrev wsX30 : List Cond := u_ws RX3 TX3 15
theorem nmX3 : ∀ a, a < 15 → ∀ b, b < 15 → a ≠ b → (TX3 a).2.1 ≠ (TX3 b).2.1 := by decide +kernel
theorem tyX3_ok : ∀ k, k < 15 → parseFieldDescriptor (TX3 k).2.2.1 = some (tyX3 k) := by decide +kernel
abbrev cX3_init : ByteArray := prog_5_method_1_code
def yX3_init : MethodName := ⟨RX3, "<init>", "()V"⟩
abbrev cX3_empty : ByteArray := prog_5_method_2_code
def yX3_empty : MethodName := ⟨RX3, "empty", "()V"⟩
abbrev cX3_takeFrom : ByteArray := prog_5_method_3_code
def yX3_takeFrom : MethodName := ⟨RX3, "takeFrom", "(LDogsPostman$Village;)V"⟩
abbrev cX3_hasMan : ByteArray := prog_5_method_4_code
def yX3_hasMan : MethodName := ⟨RX3, "hasMan", "(I)Z"⟩
abbrev cX3_hasDog : ByteArray := prog_5_method_5_code
def yX3_hasDog : MethodName := ⟨RX3, "hasDog", "(I)Z"⟩
abbrev cX3_isIn : ByteArray := prog_5_method_6_code
def yX3_isIn : MethodName := ⟨RX3, "isIn", "(II)Z"⟩
abbrev cX3_isAsleep : ByteArray := prog_5_method_7_code
def yX3_isAsleep : MethodName := ⟨RX3, "isAsleep", "(I)Z"⟩
abbrev cX3_everyDog : ByteArray := prog_5_method_8_code
def yX3_everyDog : MethodName := ⟨RX3, "everyDog", "()I"⟩
abbrev cX3_addMan : ByteArray := prog_5_method_9_code
def yX3_addMan : MethodName := ⟨RX3, "addMan", "(II)I"⟩
abbrev cX3_addDog : ByteArray := prog_5_method_10_code
def yX3_addDog : MethodName := ⟨RX3, "addDog", "(IIII)I"⟩
abbrev cX3_mayBribe : ByteArray := prog_5_method_11_code
def yX3_mayBribe : MethodName := ⟨RX3, "mayBribe", "(II)Z"⟩
abbrev cX3_putToSleep : ByteArray := prog_5_method_12_code
def yX3_putToSleep : MethodName := ⟨RX3, "putToSleep", "(II)V"⟩
abbrev cX3_hungerOf : ByteArray := prog_5_method_13_code
def yX3_hungerOf : MethodName := ⟨RX3, "hungerOf", "(I)I"⟩
abbrev cX3_keepPast : ByteArray := prog_5_method_14_code
def yX3_keepPast : MethodName := ⟨RX3, "keepPast", "()V"⟩
abbrev cX3_goBack : ByteArray := prog_5_method_15_code
def yX3_goBack : MethodName := ⟨RX3, "goBack", "()V"⟩
abbrev cX3_startOf : ByteArray := prog_5_method_16_code
def yX3_startOf : MethodName := ⟨RX3, "startOf", "(I)I"⟩
abbrev cX3_bittenBy : ByteArray := prog_5_method_17_code
def yX3_bittenBy : MethodName := ⟨RX3, "bittenBy", "(II)I"⟩
abbrev cX3_bitersOf : ByteArray := prog_5_method_18_code
def yX3_bitersOf : MethodName := ⟨RX3, "bitersOf", "(III)I"⟩
abbrev cX3_widthTo : ByteArray := prog_5_method_19_code
def yX3_widthTo : MethodName := ⟨RX3, "widthTo", "(III)I"⟩
abbrev cX3_addRound : ByteArray := prog_5_method_20_code
def yX3_addRound : MethodName := ⟨RX3, "addRound", "([III)V"⟩
abbrev cX3_addNote : ByteArray := prog_5_method_21_code
def yX3_addNote : MethodName := ⟨RX3, "addNote", "(IIII)I"⟩
abbrev cX3_kindsBy : ByteArray := prog_5_method_22_code
def yX3_kindsBy : MethodName := ⟨RX3, "kindsBy", "(I)I"⟩
abbrev cX3_digestOn : ByteArray := prog_5_method_23_code
def yX3_digestOn : MethodName := ⟨RX3, "digestOn", "(J)J"⟩
def RX4 : String := "DogsPostman"
def TX4 : u_T := fun k => match k with
  | 0 => ("DogsPostman", "now", "LDogsPostman$Village;", true)
  | 1 => ("DogsPostman", "spare", "LDogsPostman$Village;", true)
  | 2 => ("DogsPostman", "images", "[LDogsPostman$Village;", true)
  | 3 => ("DogsPostman", "text", "LDogsPostman$Text;", true)
  | 4 => ("DogsPostman", "above", "I", false)
  | 5 => ("DogsPostman", "below", "I", false)
  | 6 => ("DogsPostman", "badCalls", "I", false)
  | 7 => ("DogsPostman", "noCalls", "I", false)
  | 8 => ("DogsPostman", "fullCalls", "I", false)
  | 9 => ("DogsPostman", "row", "[I", true)
  | 10 => ("DogsPostman", "gainA", "[I", true)
  | _ => ("DogsPostman", "gainB", "[I", true)
def tyX4 : Nat → FieldType := fun k => match k with
  | 0 => .object "DogsPostman$Village"
  | 1 => .object "DogsPostman$Village"
  | 2 => .array (.object "DogsPostman$Village")
  | 3 => .object "DogsPostman$Text"
  | 4 => .int
  | 5 => .int
  | 6 => .int
  | 7 => .int
  | 8 => .int
  | 9 => .array .int
  | 10 => .array .int
  | _ => .array .int
abbrev wsX40 : List Cond := u_ws RX4 TX4 12
theorem nmX4 : ∀ a, a < 12 → ∀ b, b < 12 → a ≠ b → (TX4 a).2.1 ≠ (TX4 b).2.1 := by decide +kernel
theorem tyX4_ok : ∀ k, k < 12 → parseFieldDescriptor (TX4 k).2.2.1 = some (tyX4 k) := by decide +kernel
abbrev cX4_init : ByteArray := prog_1_method_1_code
def yX4_init : MethodName := ⟨RX4, "<init>", "()V"⟩
abbrev cX4_village : ByteArray := prog_1_method_2_code
def yX4_village : MethodName := ⟨RX4, "village", "()I"⟩
abbrev cX4_man : ByteArray := prog_1_method_3_code
def yX4_man : MethodName := ⟨RX4, "man", "(II)I"⟩
abbrev cX4_dog : ByteArray := prog_1_method_4_code
def yX4_dog : MethodName := ⟨RX4, "dog", "(IIII)I"⟩
abbrev cX4_type : ByteArray := prog_1_method_5_code
def yX4_type : MethodName := ⟨RX4, "type", "(I)I"⟩
abbrev cX4_clear : ByteArray := prog_1_method_6_code
def yX4_clear : MethodName := ⟨RX4, "clear", "()I"⟩
abbrev cX4_read : ByteArray := prog_1_method_7_code
def yX4_read : MethodName := ⟨RX4, "read", "()I"⟩
abbrev cX4_bribe : ByteArray := prog_1_method_8_code
def yX4_bribe : MethodName := ⟨RX4, "bribe", "(II)I"⟩
abbrev cX4_round : ByteArray := prog_1_method_9_code
def yX4_round : MethodName := ⟨RX4, "round", "(I)I"⟩
abbrev cX4_undo : ByteArray := prog_1_method_10_code
def yX4_undo : MethodName := ⟨RX4, "undo", "()I"⟩
abbrev cX4_of : ByteArray := prog_1_method_11_code
def yX4_of : MethodName := ⟨RX4, "of", "(II)I"⟩
abbrev cX4_about : ByteArray := prog_1_method_12_code
def yX4_about : MethodName := ⟨RX4, "about", "(II)I"⟩
abbrev cX4_bitten : ByteArray := prog_1_method_13_code
def yX4_bitten : MethodName := ⟨RX4, "bitten", "(II)I"⟩
abbrev cX4_then : ByteArray := prog_1_method_14_code
def yX4_then : MethodName := ⟨RX4, "then", "(II)I"⟩
abbrev cX4_won : ByteArray := prog_1_method_15_code
def yX4_won : MethodName := ⟨RX4, "won", "(II)I"⟩
abbrev cX4_letters : ByteArray := prog_1_method_16_code
def yX4_letters : MethodName := ⟨RX4, "letters", "()I"⟩
abbrev cX4_bribes : ByteArray := prog_1_method_17_code
def yX4_bribes : MethodName := ⟨RX4, "bribes", "(II)I"⟩
abbrev cX4_still : ByteArray := prog_1_method_18_code
def yX4_still : MethodName := ⟨RX4, "still", "(I)I"⟩
abbrev cX4_first : ByteArray := prog_1_method_19_code
def yX4_first : MethodName := ⟨RX4, "first", "(II)I"⟩
abbrev cX4_slept : ByteArray := prog_1_method_20_code
def yX4_slept : MethodName := ⟨RX4, "slept", "(IIII)I"⟩
abbrev cX4_note : ByteArray := prog_1_method_21_code
def yX4_note : MethodName := ⟨RX4, "note", "(IIII)I"⟩
abbrev cX4_forget : ByteArray := prog_1_method_22_code
def yX4_forget : MethodName := ⟨RX4, "forget", "()I"⟩
abbrev cX4_is : ByteArray := prog_1_method_23_code
def yX4_is : MethodName := ⟨RX4, "is", "(I)I"⟩
abbrev cX4_send : ByteArray := prog_1_method_24_code
def yX4_send : MethodName := ⟨RX4, "send", "(I)I"⟩
abbrev cX4_two : ByteArray := prog_1_method_25_code
def yX4_two : MethodName := ⟨RX4, "two", "(III)I"⟩
abbrev cX4_strays : ByteArray := prog_1_method_26_code
def yX4_strays : MethodName := ⟨RX4, "strays", "(II)I"⟩
abbrev cX4_villages : ByteArray := prog_1_method_27_code
def yX4_villages : MethodName := ⟨RX4, "villages", "(II)I"⟩
abbrev cX4_part : ByteArray := prog_1_method_28_code
def yX4_part : MethodName := ⟨RX4, "part", "(I)J"⟩
abbrev cX4_image : ByteArray := prog_1_method_29_code
def yX4_image : MethodName := ⟨RX4, "image", "(I)I"⟩
abbrev cX4_from : ByteArray := prog_1_method_30_code
def yX4_from : MethodName := ⟨RX4, "from", "(I)I"⟩
abbrev cX4_status : ByteArray := prog_1_method_31_code
def yX4_status : MethodName := ⟨RX4, "status", "(I)I"⟩
abbrev cX4_count : ByteArray := prog_1_method_32_code
def yX4_count : MethodName := ⟨RX4, "count", "(I)I"⟩
abbrev cX4_digest : ByteArray := prog_1_method_33_code
def yX4_digest : MethodName := ⟨RX4, "digest", "()J"⟩
abbrev cX4_within : ByteArray := prog_1_method_34_code
def yX4_within : MethodName := ⟨RX4, "within", "(III)Z"⟩
abbrev cX4_refuse : ByteArray := prog_1_method_35_code
def yX4_refuse : MethodName := ⟨RX4, "refuse", "(I)I"⟩
abbrev cX4_counted : ByteArray := prog_1_method_36_code
def yX4_counted : MethodName := ⟨RX4, "counted", "(I)I"⟩
abbrev cX4_lookAhead : ByteArray := prog_1_method_37_code
def yX4_lookAhead : MethodName := ⟨RX4, "lookAhead", "(I)V"⟩
abbrev cX4_winsByBribing : ByteArray := prog_1_method_38_code
def yX4_winsByBribing : MethodName := ⟨RX4, "winsByBribing", "(II)Z"⟩
abbrev cX4_postmanOf : ByteArray := prog_1_method_39_code
def yX4_postmanOf : MethodName := ⟨RX4, "postmanOf", "([II)I"⟩
abbrev cX4_leaverOf : ByteArray := prog_1_method_40_code
def yX4_leaverOf : MethodName := ⟨RX4, "leaverOf", "([II)I"⟩
abbrev cX4_mayChoose : ByteArray := prog_1_method_41_code
def yX4_mayChoose : MethodName := ⟨RX4, "mayChoose", "(I)Z"⟩
abbrev cX4_fillGains : ByteArray := prog_1_method_42_code
def yX4_fillGains : MethodName := ⟨RX4, "fillGains", "(II)V"⟩
abbrev cX4_doorOf : ByteArray := prog_1_method_43_code
def yX4_doorOf : MethodName := ⟨RX4, "doorOf", "(I)I"⟩
abbrev cX4_priceOf : ByteArray := prog_1_method_44_code
def yX4_priceOf : MethodName := ⟨RX4, "priceOf", "(I)I"⟩
abbrev cX4_rests : ByteArray := prog_1_method_45_code
def yX4_rests : MethodName := ⟨RX4, "rests", "(II)Z"⟩
abbrev cX4_commonDivisor : ByteArray := prog_1_method_46_code
def yX4_commonDivisor : MethodName := ⟨RX4, "commonDivisor", "(II)I"⟩
def RX5 : String := "DogsPostmanModel"
def TX5 : u_T := fun k => match k with
  | 0 => ("DogsPostmanModel", "refused", "[I", true)
  | 1 => ("DogsPostmanModel", "men", "I", false)
  | 2 => ("DogsPostmanModel", "many", "I", false)
  | 3 => ("DogsPostmanModel", "now", "I", false)
  | 4 => ("DogsPostmanModel", "asleep", "I", false)
  | 5 => ("DogsPostmanModel", "noteMany", "I", false)
  | 6 => ("DogsPostmanModel", "boots", "[I", true)
  | 7 => ("DogsPostmanModel", "ham", "[I", true)
  | 8 => ("DogsPostmanModel", "holes", "[I", true)
  | 9 => ("DogsPostmanModel", "kinds", "[I", true)
  | 10 => ("DogsPostmanModel", "weights", "[I", true)
  | 11 => ("DogsPostmanModel", "hungers", "[I", true)
  | 12 => ("DogsPostmanModel", "favourites", "[I", true)
  | 13 => ("DogsPostmanModel", "noteDog", "[I", true)
  | 14 => ("DogsPostmanModel", "noteFavourite", "[I", true)
  | 15 => ("DogsPostmanModel", "noteBoots", "[I", true)
  | 16 => ("DogsPostmanModel", "noteBit", "[I", true)
  | 17 => ("DogsPostmanModel", "text", "[I", true)
  | 18 => ("DogsPostmanModel", "typed", "I", false)
  | 19 => ("DogsPostmanModel", "readAt", "I", false)
  | 20 => ("DogsPostmanModel", "readMen", "I", false)
  | 21 => ("DogsPostmanModel", "readMany", "I", false)
  | 22 => ("DogsPostmanModel", "readAsleep", "I", false)
  | 23 => ("DogsPostmanModel", "readMan", "[I", true)
  | 24 => ("DogsPostmanModel", "readDog", "[I", true)
  | 25 => ("DogsPostmanModel", "readNumber", "I", false)
  | 26 => ("DogsPostmanModel", "ahead", "[I", true)
  | 27 => ("DogsPostmanModel", "undoMany", "I", false)
  | 28 => ("DogsPostmanModel", "aside", "[I", true)
  | 29 => ("DogsPostmanModel", "above", "J", false)
  | 30 => ("DogsPostmanModel", "below", "J", false)
  | 31 => ("DogsPostmanModel", "images", "[I", true)
  | 32 => ("DogsPostmanModel", "isKept", "[I", true)
  | _ => ("DogsPostmanModel", "h0", "J", false)
def tyX5 : Nat → FieldType := fun k => match k with
  | 0 => .array .int
  | 1 => .int
  | 2 => .int
  | 3 => .int
  | 4 => .int
  | 5 => .int
  | 6 => .array .int
  | 7 => .array .int
  | 8 => .array .int
  | 9 => .array .int
  | 10 => .array .int
  | 11 => .array .int
  | 12 => .array .int
  | 13 => .array .int
  | 14 => .array .int
  | 15 => .array .int
  | 16 => .array .int
  | 17 => .array .int
  | 18 => .int
  | 19 => .int
  | 20 => .int
  | 21 => .int
  | 22 => .int
  | 23 => .array .int
  | 24 => .array .int
  | 25 => .int
  | 26 => .array .int
  | 27 => .int
  | 28 => .array .int
  | 29 => .long
  | 30 => .long
  | 31 => .array .int
  | 32 => .array .int
  | _ => .long
abbrev wsX50 : List Cond := u_ws RX5 TX5 34
theorem nmX5 : ∀ a, a < 34 → ∀ b, b < 34 → a ≠ b → (TX5 a).2.1 ≠ (TX5 b).2.1 := by decide +kernel
theorem tyX5_ok : ∀ k, k < 34 → parseFieldDescriptor (TX5 k).2.2.1 = some (tyX5 k) := by decide +kernel
abbrev cX5_bad : ByteArray := prog_7_method_1_code
def yX5_bad : MethodName := ⟨RX5, "bad", "()I"⟩
abbrev cX5_ten : ByteArray := prog_7_method_2_code
def yX5_ten : MethodName := ⟨RX5, "ten", "()I"⟩
abbrev cX5_no : ByteArray := prog_7_method_3_code
def yX5_no : MethodName := ⟨RX5, "no", "()I"⟩
abbrev cX5_full : ByteArray := prog_7_method_4_code
def yX5_full : MethodName := ⟨RX5, "full", "()I"⟩
abbrev cX5_in : ByteArray := prog_7_method_5_code
def yX5_in : MethodName := ⟨RX5, "in", "(III)Z"⟩
abbrev cX5_has : ByteArray := prog_7_method_6_code
def yX5_has : MethodName := ⟨RX5, "has", "(II)Z"⟩
abbrev cX5_bits : ByteArray := prog_7_method_7_code
def yX5_bits : MethodName := ⟨RX5, "bits", "(I)I"⟩
abbrev cX5_init : ByteArray := prog_7_method_8_code
def yX5_init : MethodName := ⟨RX5, "<init>", "()V"⟩
abbrev cX5_begin : ByteArray := prog_7_method_9_code
def yX5_begin : MethodName := ⟨RX5, "begin", "()V"⟩
abbrev cX5_isMan : ByteArray := prog_7_method_10_code
def yX5_isMan : MethodName := ⟨RX5, "isMan", "(I)Z"⟩
abbrev cX5_isDog : ByteArray := prog_7_method_11_code
def yX5_isDog : MethodName := ⟨RX5, "isDog", "(I)Z"⟩
abbrev cX5_village : ByteArray := prog_7_method_12_code
def yX5_village : MethodName := ⟨RX5, "village", "()I"⟩
abbrev cX5_addMan : ByteArray := prog_7_method_13_code
def yX5_addMan : MethodName := ⟨RX5, "addMan", "(II)I"⟩
abbrev cX5_addDog : ByteArray := prog_7_method_14_code
def yX5_addDog : MethodName := ⟨RX5, "addDog", "(IIII)I"⟩
abbrev cX5_man : ByteArray := prog_7_method_15_code
def yX5_man : MethodName := ⟨RX5, "man", "(II)I"⟩
abbrev cX5_dog : ByteArray := prog_7_method_16_code
def yX5_dog : MethodName := ⟨RX5, "dog", "(IIII)I"⟩
abbrev cX5_type : ByteArray := prog_7_method_17_code
def yX5_type : MethodName := ⟨RX5, "type", "(I)I"⟩
abbrev cX5_clear : ByteArray := prog_7_method_18_code
def yX5_clear : MethodName := ⟨RX5, "clear", "()I"⟩
abbrev cX5_here : ByteArray := prog_7_method_19_code
def yX5_here : MethodName := ⟨RX5, "here", "()I"⟩
abbrev cX5_skip : ByteArray := prog_7_method_20_code
def yX5_skip : MethodName := ⟨RX5, "skip", "()V"⟩
abbrev cX5_isLetter : ByteArray := prog_7_method_21_code
def yX5_isLetter : MethodName := ⟨RX5, "isLetter", "(I)Z"⟩
abbrev cX5_isFigure : ByteArray := prog_7_method_22_code
def yX5_isFigure : MethodName := ⟨RX5, "isFigure", "(I)Z"⟩
abbrev cX5_wordSize : ByteArray := prog_7_method_23_code
def yX5_wordSize : MethodName := ⟨RX5, "wordSize", "()I"⟩
abbrev cX5_letter : ByteArray := prog_7_method_24_code
def yX5_letter : MethodName := ⟨RX5, "letter", "(I)I"⟩
abbrev cX5_wordHere : ByteArray := prog_7_method_25_code
def yX5_wordHere : MethodName := ⟨RX5, "wordHere", "()I"⟩
abbrev cX5_number : ByteArray := prog_7_method_26_code
def yX5_number : MethodName := ⟨RX5, "number", "(II)Z"⟩
abbrev cX5_ends : ByteArray := prog_7_method_27_code
def yX5_ends : MethodName := ⟨RX5, "ends", "()Z"⟩
abbrev cX5_readsMan : ByteArray := prog_7_method_28_code
def yX5_readsMan : MethodName := ⟨RX5, "readsMan", "()Z"⟩
abbrev cX5_readsDog : ByteArray := prog_7_method_29_code
def yX5_readsDog : MethodName := ⟨RX5, "readsDog", "()Z"⟩
abbrev cX5_readsBribe : ByteArray := prog_7_method_30_code
def yX5_readsBribe : MethodName := ⟨RX5, "readsBribe", "()Z"⟩
abbrev cX5_readsItem : ByteArray := prog_7_method_31_code
def yX5_readsItem : MethodName := ⟨RX5, "readsItem", "()Z"⟩
abbrev cX5_readsVillage : ByteArray := prog_7_method_32_code
def yX5_readsVillage : MethodName := ⟨RX5, "readsVillage", "()I"⟩
abbrev cX5_read : ByteArray := prog_7_method_33_code
def yX5_read : MethodName := ⟨RX5, "read", "()I"⟩
abbrev cX5_bitesBy : ByteArray := prog_7_method_34_code
def yX5_bitesBy : MethodName := ⟨RX5, "bitesBy", "(IZI)Z"⟩
abbrev cX5_bitesMany : ByteArray := prog_7_method_35_code
def yX5_bitesMany : MethodName := ⟨RX5, "bitesMany", "(I)I"⟩
abbrev cX5_holeBy : ByteArray := prog_7_method_36_code
def yX5_holeBy : MethodName := ⟨RX5, "holeBy", "(II)I"⟩
abbrev cX5_isBitten : ByteArray := prog_7_method_37_code
def yX5_isBitten : MethodName := ⟨RX5, "isBitten", "(III)Z"⟩
abbrev cX5_comesTo : ByteArray := prog_7_method_38_code
def yX5_comesTo : MethodName := ⟨RX5, "comesTo", "(III)I"⟩
abbrev cX5_firstOf : ByteArray := prog_7_method_39_code
def yX5_firstOf : MethodName := ⟨RX5, "firstOf", "(I)I"⟩
abbrev cX5_pass : ByteArray := prog_7_method_40_code
def yX5_pass : MethodName := ⟨RX5, "pass", "()V"⟩
abbrev cX5_postman : ByteArray := prog_7_method_41_code
def yX5_postman : MethodName := ⟨RX5, "postman", "()I"⟩
abbrev cX5_nextVillage : ByteArray := prog_7_method_42_code
def yX5_nextVillage : MethodName := ⟨RX5, "nextVillage", "()I"⟩
abbrev cX5_lays : ByteArray := prog_7_method_43_code
def yX5_lays : MethodName := ⟨RX5, "lays", "([II)V"⟩
abbrev cX5_takes : ByteArray := prog_7_method_44_code
def yX5_takes : MethodName := ⟨RX5, "takes", "([II)V"⟩
abbrev cX5_notes : ByteArray := prog_7_method_45_code
def yX5_notes : MethodName := ⟨RX5, "notes", "()V"⟩
abbrev cX5_puts : ByteArray := prog_7_method_46_code
def yX5_puts : MethodName := ⟨RX5, "puts", "()V"⟩
abbrev cX5_back : ByteArray := prog_7_method_47_code
def yX5_back : MethodName := ⟨RX5, "back", "()V"⟩
abbrev cX5_bribe : ByteArray := prog_7_method_48_code
def yX5_bribe : MethodName := ⟨RX5, "bribe", "(II)I"⟩
abbrev cX5_round : ByteArray := prog_7_method_49_code
def yX5_round : MethodName := ⟨RX5, "round", "(I)I"⟩
abbrev cX5_undo : ByteArray := prog_7_method_50_code
def yX5_undo : MethodName := ⟨RX5, "undo", "()I"⟩
abbrev cX5_of : ByteArray := prog_7_method_51_code
def yX5_of : MethodName := ⟨RX5, "of", "(II)I"⟩
abbrev cX5_about : ByteArray := prog_7_method_52_code
def yX5_about : MethodName := ⟨RX5, "about", "(II)I"⟩
abbrev cX5_bitten : ByteArray := prog_7_method_53_code
def yX5_bitten : MethodName := ⟨RX5, "bitten", "(II)I"⟩
abbrev cX5_then : ByteArray := prog_7_method_54_code
def yX5_then : MethodName := ⟨RX5, "then", "(II)I"⟩
abbrev cX5_wonIn : ByteArray := prog_7_method_55_code
def yX5_wonIn : MethodName := ⟨RX5, "wonIn", "(II)I"⟩
abbrev cX5_won : ByteArray := prog_7_method_56_code
def yX5_won : MethodName := ⟨RX5, "won", "(II)I"⟩
abbrev cX5_letters : ByteArray := prog_7_method_57_code
def yX5_letters : MethodName := ⟨RX5, "letters", "()I"⟩
abbrev cX5_hungerOf : ByteArray := prog_7_method_58_code
def yX5_hungerOf : MethodName := ⟨RX5, "hungerOf", "(I)I"⟩
abbrev cX5_bribes : ByteArray := prog_7_method_59_code
def yX5_bribes : MethodName := ⟨RX5, "bribes", "(II)I"⟩
abbrev cX5_still : ByteArray := prog_7_method_60_code
def yX5_still : MethodName := ⟨RX5, "still", "(I)I"⟩
abbrev cX5_first : ByteArray := prog_7_method_61_code
def yX5_first : MethodName := ⟨RX5, "first", "(II)I"⟩
abbrev cX5_slept : ByteArray := prog_7_method_62_code
def yX5_slept : MethodName := ⟨RX5, "slept", "(IIII)I"⟩
abbrev cX5_note : ByteArray := prog_7_method_63_code
def yX5_note : MethodName := ⟨RX5, "note", "(IIII)I"⟩
abbrev cX5_forget : ByteArray := prog_7_method_64_code
def yX5_forget : MethodName := ⟨RX5, "forget", "()I"⟩
abbrev cX5_kindsOf : ByteArray := prog_7_method_65_code
def yX5_kindsOf : MethodName := ⟨RX5, "kindsOf", "(I)I"⟩
abbrev cX5_is : ByteArray := prog_7_method_66_code
def yX5_is : MethodName := ⟨RX5, "is", "(I)I"⟩
abbrev cX5_send : ByteArray := prog_7_method_67_code
def yX5_send : MethodName := ⟨RX5, "send", "(I)I"⟩
abbrev cX5_gets : ByteArray := prog_7_method_68_code
def yX5_gets : MethodName := ⟨RX5, "gets", "(III)I"⟩
abbrev cX5_isChoice : ByteArray := prog_7_method_69_code
def yX5_isChoice : MethodName := ⟨RX5, "isChoice", "(I)Z"⟩
abbrev cX5_rests : ByteArray := prog_7_method_70_code
def yX5_rests : MethodName := ⟨RX5, "rests", "(IIII)Z"⟩
abbrev cX5_two : ByteArray := prog_7_method_71_code
def yX5_two : MethodName := ⟨RX5, "two", "(III)I"⟩
abbrev cX5_lay : ByteArray := prog_7_method_72_code
def yX5_lay : MethodName := ⟨RX5, "lay", "(JJ)V"⟩
abbrev cX5_strays : ByteArray := prog_7_method_73_code
def yX5_strays : MethodName := ⟨RX5, "strays", "(II)I"⟩
abbrev cX5_villages : ByteArray := prog_7_method_74_code
def yX5_villages : MethodName := ⟨RX5, "villages", "(II)I"⟩
abbrev cX5_part : ByteArray := prog_7_method_75_code
def yX5_part : MethodName := ⟨RX5, "part", "(I)J"⟩
abbrev cX5_image : ByteArray := prog_7_method_76_code
def yX5_image : MethodName := ⟨RX5, "image", "(I)I"⟩
abbrev cX5_from : ByteArray := prog_7_method_77_code
def yX5_from : MethodName := ⟨RX5, "from", "(I)I"⟩
abbrev cX5_status : ByteArray := prog_7_method_78_code
def yX5_status : MethodName := ⟨RX5, "status", "(I)I"⟩
abbrev cX5_countOf : ByteArray := prog_7_method_79_code
def yX5_countOf : MethodName := ⟨RX5, "countOf", "(I)I"⟩
abbrev cX5_count : ByteArray := prog_7_method_80_code
def yX5_count : MethodName := ⟨RX5, "count", "(I)I"⟩
abbrev cX5_mix : ByteArray := prog_7_method_81_code
def yX5_mix : MethodName := ⟨RX5, "mix", "(J)V"⟩
abbrev cX5_digest : ByteArray := prog_7_method_82_code
def yX5_digest : MethodName := ⟨RX5, "digest", "()J"⟩
def RJ6 : String := "java/lang/Integer"
def TJ6 : u_T := fun k => match k with
  | _ => ("", "", "", false)
def tyJ6 : Nat → FieldType := fun k => match k with
  | _ => .int
abbrev wsJ60 : List Cond := u_ws RJ6 TJ6 0
theorem nmJ6 : ∀ a, a < 0 → ∀ b, b < 0 → a ≠ b → (TJ6 a).2.1 ≠ (TJ6 b).2.1 := by decide +kernel
theorem tyJ6_ok : ∀ k, k < 0 → parseFieldDescriptor (TJ6 k).2.2.1 = some (tyJ6 k) := by decide +kernel
abbrev cJ6_bitCount_0f7a4 : ByteArray := prog_8_method_49_code
def yJ6_bitCount_0f7a4 : MethodName := ⟨RJ6, "bitCount", "(I)I"⟩
def RJ9 : String := "java/lang/Math"
def TJ9 : u_T := fun k => match k with
  | _ => ("", "", "", false)
def tyJ9 : Nat → FieldType := fun k => match k with
  | _ => .int
abbrev wsJ90 : List Cond := u_ws RJ9 TJ9 0
theorem nmJ9 : ∀ a, a < 0 → ∀ b, b < 0 → a ≠ b → (TJ9 a).2.1 ≠ (TJ9 b).2.1 := by decide +kernel
theorem tyJ9_ok : ∀ k, k < 0 → parseFieldDescriptor (TJ9 k).2.2.1 = some (tyJ9 k) := by decide +kernel
abbrev cJ9_max_7cf53 : ByteArray := prog_9_method_65_code
def yJ9_max_7cf53 : MethodName := ⟨RJ9, "max", "(II)I"⟩
def RJ0 : String := "java/lang/String"
def TJ0 : u_T := fun k => match k with
  | _ => ("", "", "", false)
def tyJ0 : Nat → FieldType := fun k => match k with
  | _ => .int
abbrev wsJ00 : List Cond := u_ws RJ0 TJ0 0
theorem nmJ0 : ∀ a, a < 0 → ∀ b, b < 0 → a ≠ b → (TJ0 a).2.1 ≠ (TJ0 b).2.1 := by decide +kernel
theorem tyJ0_ok : ∀ k, k < 0 → parseFieldDescriptor (TJ0 k).2.2.1 = some (tyJ0 k) := by decide +kernel
abbrev cJ0_length_8abf5 : ByteArray := prog_10_method_54_code
def yJ0_length_8abf5 : MethodName := ⟨RJ0, "length", "()I"⟩
abbrev cJ0_charAt_5068e : ByteArray := prog_10_method_56_code
def yJ0_charAt_5068e : MethodName := ⟨RJ0, "charAt", "(I)C"⟩
abbrev cJ0_coder_7d493 : ByteArray := prog_10_method_152_code
def yJ0_coder_7d493 : MethodName := ⟨RJ0, "coder", "()B"⟩
abbrev cJ0_isLatin1_aae02 : ByteArray := prog_10_method_154_code
def yJ0_isLatin1_aae02 : MethodName := ⟨RJ0, "isLatin1", "()Z"⟩
abbrev cJ0_checkIndex_df160 : ByteArray := prog_10_method_155_code
def yJ0_checkIndex_df160 : MethodName := ⟨RJ0, "checkIndex", "(II)V"⟩
def RJ1 : String := "java/lang/StringLatin1"
def TJ1 : u_T := fun k => match k with
  | _ => ("", "", "", false)
def tyJ1 : Nat → FieldType := fun k => match k with
  | _ => .int
abbrev wsJ10 : List Cond := u_ws RJ1 TJ1 0
theorem nmJ1 : ∀ a, a < 0 → ∀ b, b < 0 → a ≠ b → (TJ1 a).2.1 ≠ (TJ1 b).2.1 := by decide +kernel
theorem tyJ1_ok : ∀ k, k < 0 → parseFieldDescriptor (TJ1 k).2.2.1 = some (tyJ1 k) := by decide +kernel
abbrev cJ1_charAt_3b067 : ByteArray := prog_11_method_2_code
def yJ1_charAt_3b067 : MethodName := ⟨RJ1, "charAt", "([BI)C"⟩
def RJ2 : String := "java/lang/StringUTF16"
def TJ2 : u_T := fun k => match k with
  | _ => ("", "", "", false)
def tyJ2 : Nat → FieldType := fun k => match k with
  | _ => .int
abbrev wsJ20 : List Cond := u_ws RJ2 TJ2 0
theorem nmJ2 : ∀ a, a < 0 → ∀ b, b < 0 → a ≠ b → (TJ2 a).2.1 ≠ (TJ2 b).2.1 := by decide +kernel
theorem tyJ2_ok : ∀ k, k < 0 → parseFieldDescriptor (TJ2 k).2.2.1 = some (tyJ2 k) := by decide +kernel
abbrev cJ2_getChar_3b067 : ByteArray := prog_12_method_5_code
def yJ2_getChar_3b067 : MethodName := ⟨RJ2, "getChar", "([BI)C"⟩
abbrev cJ2_length_9d52b : ByteArray := prog_12_method_6_code
def yJ2_length_9d52b : MethodName := ⟨RJ2, "length", "([B)I"⟩
abbrev cJ2_charAt_3b067 : ByteArray := prog_12_method_83_code
def yJ2_charAt_3b067 : MethodName := ⟨RJ2, "charAt", "([BI)C"⟩
abbrev cJ2_checkIndex_2214a : ByteArray := prog_12_method_91_code
def yJ2_checkIndex_2214a : MethodName := ⟨RJ2, "checkIndex", "(I[B)V"⟩
def RJ10 : String := "java/lang/System"
def TJ10 : u_T := fun k => match k with
  | _ => ("", "", "", false)
def tyJ10 : Nat → FieldType := fun k => match k with
  | _ => .int
abbrev wsJ100 : List Cond := u_ws RJ10 TJ10 0
theorem nmJ10 : ∀ a, a < 0 → ∀ b, b < 0 → a ≠ b → (TJ10 a).2.1 ≠ (TJ10 b).2.1 := by decide +kernel
theorem tyJ10_ok : ∀ k, k < 0 → parseFieldDescriptor (TJ10 k).2.2.1 = some (tyJ10 k) := by decide +kernel
def RJ3 : String := "jdk/internal/util/Preconditions"
def TJ3 : u_T := fun k => match k with
  | _ => ("", "", "", false)
def tyJ3 : Nat → FieldType := fun k => match k with
  | _ => .int
abbrev wsJ30 : List Cond := u_ws RJ3 TJ3 0
theorem nmJ3 : ∀ a, a < 0 → ∀ b, b < 0 → a ≠ b → (TJ3 a).2.1 ≠ (TJ3 b).2.1 := by decide +kernel
theorem tyJ3_ok : ∀ k, k < 0 → parseFieldDescriptor (TJ3 k).2.2.1 = some (tyJ3 k) := by decide +kernel
abbrev cJ3_checkIndex_8e157 : ByteArray := prog_14_method_11_code
def yJ3_checkIndex_8e157 : MethodName := ⟨RJ3, "checkIndex", "(IILjava/util/function/BiFunction;)I"⟩
def RL : String := "DogsPostmanLaw"
abbrev cL_law : ByteArray := code
def yL_law : MethodName := ⟨RL, "law", "([I)Z"⟩
abbrev vwCl : List vw_C := [(RX1, TX1, 6), (RX2, TX2, 2), (RX3, TX3, 15), (RX4, TX4, 12), (RX5, TX5, 34)]
