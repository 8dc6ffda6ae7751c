section
-- ===== PART A: goes FIRST, ahead of the names: the tables' words, and 'selects' of the private methods out of them =====
/-- a private method of a class that the tables say can be made, by its rows of tables_1 -/
def lw_okq (q : MethodName × Nat) : Prop := (q.1.cls ≠ "java/lang/invoke/MethodHandle" ∧ q.1.cls ≠ "java/lang/invoke/VarHandle") ∧ Cond.instantiable q.1.cls q.2 ∈ tables_1 ∧ Cond.privateMethod q.1 ∈ tables_1 ∧ Cond.instanceMethod q.1 ∈ tables_1
theorem lw_p0 : lw_okq (⟨"DogsPostman", "refuse", "(I)I"⟩, 12) := ⟨⟨by decide +kernel, by decide +kernel⟩, List.mem_of_getElem? (i := 15) (by decide +kernel), List.mem_of_getElem? (i := 160) (by decide +kernel), List.mem_of_getElem? (i := 161) (by decide +kernel)⟩
theorem lw_p1 : lw_okq (⟨"DogsPostman", "lookAhead", "(I)V"⟩, 12) := ⟨⟨by decide +kernel, by decide +kernel⟩, List.mem_of_getElem? (i := 15) (by decide +kernel), List.mem_of_getElem? (i := 427) (by decide +kernel), List.mem_of_getElem? (i := 428) (by decide +kernel)⟩
theorem lw_p2 : lw_okq (⟨"DogsPostman", "winsByBribing", "(II)Z"⟩, 12) := ⟨⟨by decide +kernel, by decide +kernel⟩, List.mem_of_getElem? (i := 15) (by decide +kernel), List.mem_of_getElem? (i := 455) (by decide +kernel), List.mem_of_getElem? (i := 456) (by decide +kernel)⟩
theorem lw_p3 : lw_okq (⟨"DogsPostman", "fillGains", "(II)V"⟩, 12) := ⟨⟨by decide +kernel, by decide +kernel⟩, List.mem_of_getElem? (i := 15) (by decide +kernel), List.mem_of_getElem? (i := 513) (by decide +kernel), List.mem_of_getElem? (i := 514) (by decide +kernel)⟩
theorem lw_p4 : lw_okq (⟨"DogsPostman", "mayChoose", "(I)Z"⟩, 12) := ⟨⟨by decide +kernel, by decide +kernel⟩, List.mem_of_getElem? (i := 15) (by decide +kernel), List.mem_of_getElem? (i := 517) (by decide +kernel), List.mem_of_getElem? (i := 518) (by decide +kernel)⟩
theorem lw_p5 : lw_okq (⟨"DogsPostman", "rests", "(II)Z"⟩, 12) := ⟨⟨by decide +kernel, by decide +kernel⟩, List.mem_of_getElem? (i := 15) (by decide +kernel), List.mem_of_getElem? (i := 527) (by decide +kernel), List.mem_of_getElem? (i := 528) (by decide +kernel)⟩
theorem lw_p6 : lw_okq (⟨"DogsPostman", "counted", "(I)I"⟩, 12) := ⟨⟨by decide +kernel, by decide +kernel⟩, List.mem_of_getElem? (i := 15) (by decide +kernel), List.mem_of_getElem? (i := 568) (by decide +kernel), List.mem_of_getElem? (i := 569) (by decide +kernel)⟩
theorem lw_p7 : lw_okq (⟨"DogsPostmanModel", "begin", "()V"⟩, 34) := ⟨⟨by decide +kernel, by decide +kernel⟩, List.mem_of_getElem? (i := 583) (by decide +kernel), List.mem_of_getElem? (i := 589) (by decide +kernel), List.mem_of_getElem? (i := 590) (by decide +kernel)⟩
theorem lw_p8 : lw_okq (⟨"DogsPostmanModel", "bad", "()I"⟩, 34) := ⟨⟨by decide +kernel, by decide +kernel⟩, List.mem_of_getElem? (i := 583) (by decide +kernel), List.mem_of_getElem? (i := 707) (by decide +kernel), List.mem_of_getElem? (i := 708) (by decide +kernel)⟩
theorem lw_p9 : lw_okq (⟨"DogsPostmanModel", "full", "()I"⟩, 34) := ⟨⟨by decide +kernel, by decide +kernel⟩, List.mem_of_getElem? (i := 583) (by decide +kernel), List.mem_of_getElem? (i := 711) (by decide +kernel), List.mem_of_getElem? (i := 712) (by decide +kernel)⟩
theorem lw_p10 : lw_okq (⟨"DogsPostmanModel", "addMan", "(II)I"⟩, 34) := ⟨⟨by decide +kernel, by decide +kernel⟩, List.mem_of_getElem? (i := 583) (by decide +kernel), List.mem_of_getElem? (i := 715) (by decide +kernel), List.mem_of_getElem? (i := 716) (by decide +kernel)⟩
theorem lw_p11 : lw_okq (⟨"DogsPostmanModel", "addDog", "(IIII)I"⟩, 34) := ⟨⟨by decide +kernel, by decide +kernel⟩, List.mem_of_getElem? (i := 583) (by decide +kernel), List.mem_of_getElem? (i := 723) (by decide +kernel), List.mem_of_getElem? (i := 724) (by decide +kernel)⟩
theorem lw_p12 : lw_okq (⟨"DogsPostmanModel", "readsVillage", "()I"⟩, 34) := ⟨⟨by decide +kernel, by decide +kernel⟩, List.mem_of_getElem? (i := 583) (by decide +kernel), List.mem_of_getElem? (i := 739) (by decide +kernel), List.mem_of_getElem? (i := 740) (by decide +kernel)⟩
theorem lw_p13 : lw_okq (⟨"DogsPostmanModel", "skip", "()V"⟩, 34) := ⟨⟨by decide +kernel, by decide +kernel⟩, List.mem_of_getElem? (i := 583) (by decide +kernel), List.mem_of_getElem? (i := 743) (by decide +kernel), List.mem_of_getElem? (i := 744) (by decide +kernel)⟩
theorem lw_p14 : lw_okq (⟨"DogsPostmanModel", "here", "()I"⟩, 34) := ⟨⟨by decide +kernel, by decide +kernel⟩, List.mem_of_getElem? (i := 583) (by decide +kernel), List.mem_of_getElem? (i := 747) (by decide +kernel), List.mem_of_getElem? (i := 748) (by decide +kernel)⟩
theorem lw_p15 : lw_okq (⟨"DogsPostmanModel", "wordHere", "()I"⟩, 34) := ⟨⟨by decide +kernel, by decide +kernel⟩, List.mem_of_getElem? (i := 583) (by decide +kernel), List.mem_of_getElem? (i := 751) (by decide +kernel), List.mem_of_getElem? (i := 752) (by decide +kernel)⟩
def lw_privs_1 : List (MethodName × Nat) := [(⟨"DogsPostman", "refuse", "(I)I"⟩, 12), (⟨"DogsPostman", "lookAhead", "(I)V"⟩, 12), (⟨"DogsPostman", "winsByBribing", "(II)Z"⟩, 12), (⟨"DogsPostman", "fillGains", "(II)V"⟩, 12), (⟨"DogsPostman", "mayChoose", "(I)Z"⟩, 12), (⟨"DogsPostman", "rests", "(II)Z"⟩, 12), (⟨"DogsPostman", "counted", "(I)I"⟩, 12), (⟨"DogsPostmanModel", "begin", "()V"⟩, 34), (⟨"DogsPostmanModel", "bad", "()I"⟩, 34), (⟨"DogsPostmanModel", "full", "()I"⟩, 34), (⟨"DogsPostmanModel", "addMan", "(II)I"⟩, 34), (⟨"DogsPostmanModel", "addDog", "(IIII)I"⟩, 34), (⟨"DogsPostmanModel", "readsVillage", "()I"⟩, 34), (⟨"DogsPostmanModel", "skip", "()V"⟩, 34), (⟨"DogsPostmanModel", "here", "()I"⟩, 34), (⟨"DogsPostmanModel", "wordHere", "()I"⟩, 34)]
theorem lw_r1 : ∀ q ∈ lw_privs_1, lw_okq q := List.forall_mem_cons.mpr ⟨lw_p0, List.forall_mem_cons.mpr ⟨lw_p1, List.forall_mem_cons.mpr ⟨lw_p2, List.forall_mem_cons.mpr ⟨lw_p3, List.forall_mem_cons.mpr ⟨lw_p4, List.forall_mem_cons.mpr ⟨lw_p5, List.forall_mem_cons.mpr ⟨lw_p6, List.forall_mem_cons.mpr ⟨lw_p7, List.forall_mem_cons.mpr ⟨lw_p8, List.forall_mem_cons.mpr ⟨lw_p9, List.forall_mem_cons.mpr ⟨lw_p10, List.forall_mem_cons.mpr ⟨lw_p11, List.forall_mem_cons.mpr ⟨lw_p12, List.forall_mem_cons.mpr ⟨lw_p13, List.forall_mem_cons.mpr ⟨lw_p14, List.forall_mem_cons.mpr ⟨lw_p15, fun _ h => absurd h List.not_mem_nil⟩⟩⟩⟩⟩⟩⟩⟩⟩⟩⟩⟩⟩⟩⟩⟩
theorem lw_p16 : lw_okq (⟨"DogsPostmanModel", "wordSize", "()I"⟩, 34) := ⟨⟨by decide +kernel, by decide +kernel⟩, List.mem_of_getElem? (i := 583) (by decide +kernel), List.mem_of_getElem? (i := 755) (by decide +kernel), List.mem_of_getElem? (i := 756) (by decide +kernel)⟩
theorem lw_p17 : lw_okq (⟨"DogsPostmanModel", "letter", "(I)I"⟩, 34) := ⟨⟨by decide +kernel, by decide +kernel⟩, List.mem_of_getElem? (i := 583) (by decide +kernel), List.mem_of_getElem? (i := 762) (by decide +kernel), List.mem_of_getElem? (i := 763) (by decide +kernel)⟩
theorem lw_p18 : lw_okq (⟨"DogsPostmanModel", "ends", "()Z"⟩, 34) := ⟨⟨by decide +kernel, by decide +kernel⟩, List.mem_of_getElem? (i := 583) (by decide +kernel), List.mem_of_getElem? (i := 766) (by decide +kernel), List.mem_of_getElem? (i := 767) (by decide +kernel)⟩
theorem lw_p19 : lw_okq (⟨"DogsPostmanModel", "readsItem", "()Z"⟩, 34) := ⟨⟨by decide +kernel, by decide +kernel⟩, List.mem_of_getElem? (i := 583) (by decide +kernel), List.mem_of_getElem? (i := 770) (by decide +kernel), List.mem_of_getElem? (i := 771) (by decide +kernel)⟩
theorem lw_p20 : lw_okq (⟨"DogsPostmanModel", "readsMan", "()Z"⟩, 34) := ⟨⟨by decide +kernel, by decide +kernel⟩, List.mem_of_getElem? (i := 583) (by decide +kernel), List.mem_of_getElem? (i := 774) (by decide +kernel), List.mem_of_getElem? (i := 775) (by decide +kernel)⟩
theorem lw_p21 : lw_okq (⟨"DogsPostmanModel", "number", "(II)Z"⟩, 34) := ⟨⟨by decide +kernel, by decide +kernel⟩, List.mem_of_getElem? (i := 583) (by decide +kernel), List.mem_of_getElem? (i := 778) (by decide +kernel), List.mem_of_getElem? (i := 779) (by decide +kernel)⟩
theorem lw_p22 : lw_okq (⟨"DogsPostmanModel", "readsDog", "()Z"⟩, 34) := ⟨⟨by decide +kernel, by decide +kernel⟩, List.mem_of_getElem? (i := 583) (by decide +kernel), List.mem_of_getElem? (i := 785) (by decide +kernel), List.mem_of_getElem? (i := 786) (by decide +kernel)⟩
theorem lw_p23 : lw_okq (⟨"DogsPostmanModel", "readsBribe", "()Z"⟩, 34) := ⟨⟨by decide +kernel, by decide +kernel⟩, List.mem_of_getElem? (i := 583) (by decide +kernel), List.mem_of_getElem? (i := 789) (by decide +kernel), List.mem_of_getElem? (i := 790) (by decide +kernel)⟩
theorem lw_p24 : lw_okq (⟨"DogsPostmanModel", "isMan", "(I)Z"⟩, 34) := ⟨⟨by decide +kernel, by decide +kernel⟩, List.mem_of_getElem? (i := 583) (by decide +kernel), List.mem_of_getElem? (i := 800) (by decide +kernel), List.mem_of_getElem? (i := 801) (by decide +kernel)⟩
theorem lw_p25 : lw_okq (⟨"DogsPostmanModel", "isDog", "(I)Z"⟩, 34) := ⟨⟨by decide +kernel, by decide +kernel⟩, List.mem_of_getElem? (i := 583) (by decide +kernel), List.mem_of_getElem? (i := 804) (by decide +kernel), List.mem_of_getElem? (i := 805) (by decide +kernel)⟩
theorem lw_p26 : lw_okq (⟨"DogsPostmanModel", "no", "()I"⟩, 34) := ⟨⟨by decide +kernel, by decide +kernel⟩, List.mem_of_getElem? (i := 583) (by decide +kernel), List.mem_of_getElem? (i := 808) (by decide +kernel), List.mem_of_getElem? (i := 809) (by decide +kernel)⟩
theorem lw_p27 : lw_okq (⟨"DogsPostmanModel", "notes", "()V"⟩, 34) := ⟨⟨by decide +kernel, by decide +kernel⟩, List.mem_of_getElem? (i := 583) (by decide +kernel), List.mem_of_getElem? (i := 812) (by decide +kernel), List.mem_of_getElem? (i := 813) (by decide +kernel)⟩
theorem lw_p28 : lw_okq (⟨"DogsPostmanModel", "lays", "([II)V"⟩, 34) := ⟨⟨by decide +kernel, by decide +kernel⟩, List.mem_of_getElem? (i := 583) (by decide +kernel), List.mem_of_getElem? (i := 816) (by decide +kernel), List.mem_of_getElem? (i := 817) (by decide +kernel)⟩
theorem lw_p29 : lw_okq (⟨"DogsPostmanModel", "pass", "()V"⟩, 34) := ⟨⟨by decide +kernel, by decide +kernel⟩, List.mem_of_getElem? (i := 583) (by decide +kernel), List.mem_of_getElem? (i := 824) (by decide +kernel), List.mem_of_getElem? (i := 825) (by decide +kernel)⟩
theorem lw_p30 : lw_okq (⟨"DogsPostmanModel", "firstOf", "(I)I"⟩, 34) := ⟨⟨by decide +kernel, by decide +kernel⟩, List.mem_of_getElem? (i := 583) (by decide +kernel), List.mem_of_getElem? (i := 828) (by decide +kernel), List.mem_of_getElem? (i := 829) (by decide +kernel)⟩
theorem lw_p31 : lw_okq (⟨"DogsPostmanModel", "comesTo", "(III)I"⟩, 34) := ⟨⟨by decide +kernel, by decide +kernel⟩, List.mem_of_getElem? (i := 583) (by decide +kernel), List.mem_of_getElem? (i := 832) (by decide +kernel), List.mem_of_getElem? (i := 833) (by decide +kernel)⟩
def lw_privs_2 : List (MethodName × Nat) := [(⟨"DogsPostmanModel", "wordSize", "()I"⟩, 34), (⟨"DogsPostmanModel", "letter", "(I)I"⟩, 34), (⟨"DogsPostmanModel", "ends", "()Z"⟩, 34), (⟨"DogsPostmanModel", "readsItem", "()Z"⟩, 34), (⟨"DogsPostmanModel", "readsMan", "()Z"⟩, 34), (⟨"DogsPostmanModel", "number", "(II)Z"⟩, 34), (⟨"DogsPostmanModel", "readsDog", "()Z"⟩, 34), (⟨"DogsPostmanModel", "readsBribe", "()Z"⟩, 34), (⟨"DogsPostmanModel", "isMan", "(I)Z"⟩, 34), (⟨"DogsPostmanModel", "isDog", "(I)Z"⟩, 34), (⟨"DogsPostmanModel", "no", "()I"⟩, 34), (⟨"DogsPostmanModel", "notes", "()V"⟩, 34), (⟨"DogsPostmanModel", "lays", "([II)V"⟩, 34), (⟨"DogsPostmanModel", "pass", "()V"⟩, 34), (⟨"DogsPostmanModel", "firstOf", "(I)I"⟩, 34), (⟨"DogsPostmanModel", "comesTo", "(III)I"⟩, 34)]
theorem lw_r2 : ∀ q ∈ lw_privs_2, lw_okq q := List.forall_mem_cons.mpr ⟨lw_p16, List.forall_mem_cons.mpr ⟨lw_p17, List.forall_mem_cons.mpr ⟨lw_p18, List.forall_mem_cons.mpr ⟨lw_p19, List.forall_mem_cons.mpr ⟨lw_p20, List.forall_mem_cons.mpr ⟨lw_p21, List.forall_mem_cons.mpr ⟨lw_p22, List.forall_mem_cons.mpr ⟨lw_p23, List.forall_mem_cons.mpr ⟨lw_p24, List.forall_mem_cons.mpr ⟨lw_p25, List.forall_mem_cons.mpr ⟨lw_p26, List.forall_mem_cons.mpr ⟨lw_p27, List.forall_mem_cons.mpr ⟨lw_p28, List.forall_mem_cons.mpr ⟨lw_p29, List.forall_mem_cons.mpr ⟨lw_p30, List.forall_mem_cons.mpr ⟨lw_p31, fun _ h => absurd h List.not_mem_nil⟩⟩⟩⟩⟩⟩⟩⟩⟩⟩⟩⟩⟩⟩⟩⟩
theorem lw_p32 : lw_okq (⟨"DogsPostmanModel", "isBitten", "(III)Z"⟩, 34) := ⟨⟨by decide +kernel, by decide +kernel⟩, List.mem_of_getElem? (i := 583) (by decide +kernel), List.mem_of_getElem? (i := 836) (by decide +kernel), List.mem_of_getElem? (i := 837) (by decide +kernel)⟩
theorem lw_p33 : lw_okq (⟨"DogsPostmanModel", "postman", "()I"⟩, 34) := ⟨⟨by decide +kernel, by decide +kernel⟩, List.mem_of_getElem? (i := 583) (by decide +kernel), List.mem_of_getElem? (i := 849) (by decide +kernel), List.mem_of_getElem? (i := 850) (by decide +kernel)⟩
theorem lw_p34 : lw_okq (⟨"DogsPostmanModel", "takes", "([II)V"⟩, 34) := ⟨⟨by decide +kernel, by decide +kernel⟩, List.mem_of_getElem? (i := 583) (by decide +kernel), List.mem_of_getElem? (i := 857) (by decide +kernel), List.mem_of_getElem? (i := 858) (by decide +kernel)⟩
theorem lw_p35 : lw_okq (⟨"DogsPostmanModel", "puts", "()V"⟩, 34) := ⟨⟨by decide +kernel, by decide +kernel⟩, List.mem_of_getElem? (i := 583) (by decide +kernel), List.mem_of_getElem? (i := 877) (by decide +kernel), List.mem_of_getElem? (i := 878) (by decide +kernel)⟩
theorem lw_p36 : lw_okq (⟨"DogsPostmanModel", "back", "()V"⟩, 34) := ⟨⟨by decide +kernel, by decide +kernel⟩, List.mem_of_getElem? (i := 583) (by decide +kernel), List.mem_of_getElem? (i := 881) (by decide +kernel), List.mem_of_getElem? (i := 882) (by decide +kernel)⟩
theorem lw_p37 : lw_okq (⟨"DogsPostmanModel", "wonIn", "(II)I"⟩, 34) := ⟨⟨by decide +kernel, by decide +kernel⟩, List.mem_of_getElem? (i := 583) (by decide +kernel), List.mem_of_getElem? (i := 889) (by decide +kernel), List.mem_of_getElem? (i := 890) (by decide +kernel)⟩
theorem lw_p38 : lw_okq (⟨"DogsPostmanModel", "nextVillage", "()I"⟩, 34) := ⟨⟨by decide +kernel, by decide +kernel⟩, List.mem_of_getElem? (i := 583) (by decide +kernel), List.mem_of_getElem? (i := 893) (by decide +kernel), List.mem_of_getElem? (i := 894) (by decide +kernel)⟩
theorem lw_p39 : lw_okq (⟨"DogsPostmanModel", "hungerOf", "(I)I"⟩, 34) := ⟨⟨by decide +kernel, by decide +kernel⟩, List.mem_of_getElem? (i := 583) (by decide +kernel), List.mem_of_getElem? (i := 905) (by decide +kernel), List.mem_of_getElem? (i := 906) (by decide +kernel)⟩
theorem lw_p40 : lw_okq (⟨"DogsPostmanModel", "kindsOf", "(I)I"⟩, 34) := ⟨⟨by decide +kernel, by decide +kernel⟩, List.mem_of_getElem? (i := 583) (by decide +kernel), List.mem_of_getElem? (i := 933) (by decide +kernel), List.mem_of_getElem? (i := 934) (by decide +kernel)⟩
theorem lw_p41 : lw_okq (⟨"DogsPostmanModel", "ten", "()I"⟩, 34) := ⟨⟨by decide +kernel, by decide +kernel⟩, List.mem_of_getElem? (i := 583) (by decide +kernel), List.mem_of_getElem? (i := 946) (by decide +kernel), List.mem_of_getElem? (i := 947) (by decide +kernel)⟩
theorem lw_p42 : lw_okq (⟨"DogsPostmanModel", "isChoice", "(I)Z"⟩, 34) := ⟨⟨by decide +kernel, by decide +kernel⟩, List.mem_of_getElem? (i := 583) (by decide +kernel), List.mem_of_getElem? (i := 950) (by decide +kernel), List.mem_of_getElem? (i := 951) (by decide +kernel)⟩
theorem lw_p43 : lw_okq (⟨"DogsPostmanModel", "rests", "(IIII)Z"⟩, 34) := ⟨⟨by decide +kernel, by decide +kernel⟩, List.mem_of_getElem? (i := 583) (by decide +kernel), List.mem_of_getElem? (i := 954) (by decide +kernel), List.mem_of_getElem? (i := 955) (by decide +kernel)⟩
theorem lw_p44 : lw_okq (⟨"DogsPostmanModel", "gets", "(III)I"⟩, 34) := ⟨⟨by decide +kernel, by decide +kernel⟩, List.mem_of_getElem? (i := 583) (by decide +kernel), List.mem_of_getElem? (i := 958) (by decide +kernel), List.mem_of_getElem? (i := 959) (by decide +kernel)⟩
theorem lw_p45 : lw_okq (⟨"DogsPostmanModel", "lay", "(JJ)V"⟩, 34) := ⟨⟨by decide +kernel, by decide +kernel⟩, List.mem_of_getElem? (i := 583) (by decide +kernel), List.mem_of_getElem? (i := 967) (by decide +kernel), List.mem_of_getElem? (i := 968) (by decide +kernel)⟩
theorem lw_p46 : lw_okq (⟨"DogsPostmanModel", "countOf", "(I)I"⟩, 34) := ⟨⟨by decide +kernel, by decide +kernel⟩, List.mem_of_getElem? (i := 583) (by decide +kernel), List.mem_of_getElem? (i := 1001) (by decide +kernel), List.mem_of_getElem? (i := 1002) (by decide +kernel)⟩
theorem lw_p47 : lw_okq (⟨"DogsPostmanModel", "mix", "(J)V"⟩, 34) := ⟨⟨by decide +kernel, by decide +kernel⟩, List.mem_of_getElem? (i := 583) (by decide +kernel), List.mem_of_getElem? (i := 1013) (by decide +kernel), List.mem_of_getElem? (i := 1014) (by decide +kernel)⟩
def lw_privs_3 : List (MethodName × Nat) := [(⟨"DogsPostmanModel", "isBitten", "(III)Z"⟩, 34), (⟨"DogsPostmanModel", "postman", "()I"⟩, 34), (⟨"DogsPostmanModel", "takes", "([II)V"⟩, 34), (⟨"DogsPostmanModel", "puts", "()V"⟩, 34), (⟨"DogsPostmanModel", "back", "()V"⟩, 34), (⟨"DogsPostmanModel", "wonIn", "(II)I"⟩, 34), (⟨"DogsPostmanModel", "nextVillage", "()I"⟩, 34), (⟨"DogsPostmanModel", "hungerOf", "(I)I"⟩, 34), (⟨"DogsPostmanModel", "kindsOf", "(I)I"⟩, 34), (⟨"DogsPostmanModel", "ten", "()I"⟩, 34), (⟨"DogsPostmanModel", "isChoice", "(I)Z"⟩, 34), (⟨"DogsPostmanModel", "rests", "(IIII)Z"⟩, 34), (⟨"DogsPostmanModel", "gets", "(III)I"⟩, 34), (⟨"DogsPostmanModel", "lay", "(JJ)V"⟩, 34), (⟨"DogsPostmanModel", "countOf", "(I)I"⟩, 34), (⟨"DogsPostmanModel", "mix", "(J)V"⟩, 34)]
theorem lw_r3 : ∀ q ∈ lw_privs_3, lw_okq q := List.forall_mem_cons.mpr ⟨lw_p32, List.forall_mem_cons.mpr ⟨lw_p33, List.forall_mem_cons.mpr ⟨lw_p34, List.forall_mem_cons.mpr ⟨lw_p35, List.forall_mem_cons.mpr ⟨lw_p36, List.forall_mem_cons.mpr ⟨lw_p37, List.forall_mem_cons.mpr ⟨lw_p38, List.forall_mem_cons.mpr ⟨lw_p39, List.forall_mem_cons.mpr ⟨lw_p40, List.forall_mem_cons.mpr ⟨lw_p41, List.forall_mem_cons.mpr ⟨lw_p42, List.forall_mem_cons.mpr ⟨lw_p43, List.forall_mem_cons.mpr ⟨lw_p44, List.forall_mem_cons.mpr ⟨lw_p45, List.forall_mem_cons.mpr ⟨lw_p46, List.forall_mem_cons.mpr ⟨lw_p47, fun _ h => absurd h List.not_mem_nil⟩⟩⟩⟩⟩⟩⟩⟩⟩⟩⟩⟩⟩⟩⟩⟩
def lw_privs : List (MethodName × Nat) := lw_privs_1 ++ (lw_privs_2 ++ (lw_privs_3))
def lw_tbl : List Cond := k2_sels lw_privs ++ tables_1
theorem lw_privs_ok : ∀ q ∈ lw_privs, lw_okq q := by
  show ∀ q ∈ lw_privs_1 ++ (lw_privs_2 ++ (lw_privs_3)), lw_okq q
  exact List.forall_mem_append.mpr ⟨lw_r1, List.forall_mem_append.mpr ⟨lw_r2, lw_r3⟩⟩

/-! ===== BEGIN words of one list among another's, by their places ===== -/
theorem goodIn_r {big : List Cond} (ws : List Cond) (ps : List Nat) (hp : ws = ps.filterMap (fun i => big[i]?)) (h : ws.all goodWord = true) : GoodIn big ws := by
  intro w hw
  have h1 := List.all_eq_true.mp h w hw
  rw [hp] at hw
  obtain ⟨i, -, hi⟩ := List.mem_filterMap.mp hw
  have hm : w ∈ big := by first | exact List.mem_of_getElem? hi | exact List.getElem?_mem hi
  exact ⟨hm, good_of_word h1⟩
theorem goodIn_app {big a b : List Cond} (ha : GoodIn big a) (hb : GoodIn big b) : GoodIn big (a ++ b) := fun w h => (List.mem_append.mp h).elim (ha w) (hb w)
theorem goodIn_ca {big a b : List Cond} {c : Cond} (ha : GoodIn big (c :: a)) (hb : GoodIn big b) : GoodIn big (c :: (a ++ b)) := fun w h => (List.mem_cons.mp h).elim (fun e => ha w (List.mem_cons.mpr (Or.inl e))) (fun h => (List.mem_append.mp h).elim (fun h => ha w (List.mem_cons.mpr (Or.inr h))) (hb w))
theorem goodIn_sub {big ws : List Cond} (hm : ∀ w ∈ ws, w ∈ big) (h : ws.all goodWord = true) : GoodIn big ws := fun w hw => ⟨hm w hw, good_of_word (List.all_eq_true.mp h w hw)⟩
/-! ===== END ===== -/

/-! ===== BEGIN printed: names, fields, word lists, decode rows ===== -/
def RX0 : String := "DogsPostman$Kinds"
def TX0 : u_T := fun k => match k with
  | _ => ("", "", "", false)
def tyX0 : Nat → FieldType := fun k => match k with
  | _ => .int
abbrev wsX00 : List Cond := u_ws RX0 TX0 0
theorem nmX0 : ∀ a, a < 0 → ∀ b, b < 0 → a ≠ b → (TX0 a).2.1 ≠ (TX0 b).2.1 := by decide +kernel
theorem tyX0_ok : ∀ k, k < 0 → parseFieldDescriptor (TX0 k).2.2.1 = some (tyX0 k) := by decide +kernel
abbrev cX0_wouldBite : ByteArray := prog_2_method_2_code
def yX0_wouldBite : MethodName := ⟨RX0, "wouldBite", "(IZI)Z"⟩
abbrev cX0_bites : ByteArray := prog_2_method_3_code
def yX0_bites : MethodName := ⟨RX0, "bites", "(I)I"⟩
abbrev cX0_width : ByteArray := prog_2_method_4_code
def yX0_width : MethodName := ⟨RX0, "width", "(II)I"⟩
abbrev cX0_biting : ByteArray := prog_2_method_5_code
def yX0_biting : MethodName := ⟨RX0, "biting", "(ZI)I"⟩
def RX1 : String := "DogsPostman$Reader"
def TX1 : u_T := fun k => match k with
  | 0 => ("DogsPostman$Reader", "text", "LDogsPostman$Text;", true)
  | 1 => ("DogsPostman$Reader", "into", "LDogsPostman$Village;", true)
  | 2 => ("DogsPostman$Reader", "sort", "I", false)
  | 3 => ("DogsPostman$Reader", "at", "I", false)
  | 4 => ("DogsPostman$Reader", "behind", "I", false)
  | _ => ("DogsPostman$Reader", "value", "I", false)
def tyX1 : Nat → FieldType := fun k => match k with
  | 0 => .object "DogsPostman$Text"
  | 1 => .object "DogsPostman$Village"
  | 2 => .int
  | 3 => .int
  | 4 => .int
  | _ => .int
abbrev wsX10 : List Cond := u_ws RX1 TX1 6
theorem nmX1 : ∀ a, a < 6 → ∀ b, b < 6 → a ≠ b → (TX1 a).2.1 ≠ (TX1 b).2.1 := by decide +kernel
theorem tyX1_ok : ∀ k, k < 6 → parseFieldDescriptor (TX1 k).2.2.1 = some (tyX1 k) := by decide +kernel
abbrev cX1_init : ByteArray := prog_3_method_1_code
def yX1_init : MethodName := ⟨RX1, "<init>", "(LDogsPostman$Text;LDogsPostman$Village;)V"⟩
abbrev cX1_readVillage : ByteArray := prog_3_method_2_code
def yX1_readVillage : MethodName := ⟨RX1, "readVillage", "()I"⟩
abbrev cX1_readItem : ByteArray := prog_3_method_3_code
def yX1_readItem : MethodName := ⟨RX1, "readItem", "()Z"⟩
abbrev cX1_readMan : ByteArray := prog_3_method_4_code
def yX1_readMan : MethodName := ⟨RX1, "readMan", "()Z"⟩
abbrev cX1_readDog : ByteArray := prog_3_method_5_code
def yX1_readDog : MethodName := ⟨RX1, "readDog", "()Z"⟩
abbrev cX1_readBribe : ByteArray := prog_3_method_6_code
def yX1_readBribe : MethodName := ⟨RX1, "readBribe", "()Z"⟩
abbrev cX1_numberNext : ByteArray := prog_3_method_7_code
def yX1_numberNext : MethodName := ⟨RX1, "numberNext", "(II)Z"⟩
abbrev cX1_semicolonNext : ByteArray := prog_3_method_8_code
def yX1_semicolonNext : MethodName := ⟨RX1, "semicolonNext", "()Z"⟩
abbrev cX1_wordHere : ByteArray := prog_3_method_9_code
def yX1_wordHere : MethodName := ⟨RX1, "wordHere", "(Ljava/lang/String;)Z"⟩
abbrev cX1_next : ByteArray := prog_3_method_10_code
def yX1_next : MethodName := ⟨RX1, "next", "()V"⟩
abbrev cX1_takeNumber : ByteArray := prog_3_method_11_code
def yX1_takeNumber : MethodName := ⟨RX1, "takeNumber", "(I)V"⟩
abbrev cX1_isLetter : ByteArray := prog_3_method_12_code
def yX1_isLetter : MethodName := ⟨RX1, "isLetter", "(I)Z"⟩
abbrev cX1_isFigure : ByteArray := prog_3_method_13_code
def yX1_isFigure : MethodName := ⟨RX1, "isFigure", "(I)Z"⟩
def RX2 : String := "DogsPostman$Text"
def TX2 : u_T := fun k => match k with
  | 0 => ("DogsPostman$Text", "bytes", "[B", true)
  | _ => ("DogsPostman$Text", "length", "I", false)
def tyX2 : Nat → FieldType := fun k => match k with
  | 0 => .array .byte
  | _ => .int
abbrev wsX20 : List Cond := u_ws RX2 TX2 2
theorem nmX2 : ∀ a, a < 2 → ∀ b, b < 2 → a ≠ b → (TX2 a).2.1 ≠ (TX2 b).2.1 := by decide +kernel
theorem tyX2_ok : ∀ k, k < 2 → parseFieldDescriptor (TX2 k).2.2.1 = some (tyX2 k) := by decide +kernel
abbrev cX2_init : ByteArray := prog_4_method_1_code
def yX2_init : MethodName := ⟨RX2, "<init>", "()V"⟩
abbrev cX2_add : ByteArray := prog_4_method_2_code
def yX2_add : MethodName := ⟨RX2, "add", "(I)I"⟩
abbrev cX2_at : ByteArray := prog_4_method_3_code
def yX2_at : MethodName := ⟨RX2, "at", "(I)I"⟩
def RX3 : String := "DogsPostman$Village"
def TX3 : u_T := fun k => match k with
  | 0 => ("DogsPostman$Village", "men", "I", false)
  | 1 => ("DogsPostman$Village", "dogs", "I", false)
  | 2 => ("DogsPostman$Village", "asleep", "I", false)
  | 3 => ("DogsPostman$Village", "round", "I", false)
  | 4 => ("DogsPostman$Village", "notes", "I", false)
  | 5 => ("DogsPostman$Village", "pasts", "I", false)
  | 6 => ("DogsPostman$Village", "boots", "[I", true)
  | 7 => ("DogsPostman$Village", "ham", "[I", true)
  | 8 => ("DogsPostman$Village", "holes", "[I", true)
  | 9 => ("DogsPostman$Village", "kind", "[I", true)
  | 10 => ("DogsPostman$Village", "weight", "[I", true)
  | 11 => ("DogsPostman$Village", "hunger", "[I", true)
  | 12 => ("DogsPostman$Village", "favourite", "[I", true)
  | 13 => ("DogsPostman$Village", "noted", "[I", true)
  | _ => ("DogsPostman$Village", "past", "[I", true)
def tyX3 : Nat → FieldType := fun k => match k with
  | 0 => .int
  | 1 => .int
  | 2 => .int
  | 3 => .int
  | 4 => .int
  | 5 => .int
  | 6 => .array .int
  | 7 => .array .int
  | 8 => .array .int
  | 9 => .array .int
  | 10 => .array .int
  | 11 => .array .int
  | 12 => .array .int
  | 13 => .array .int
  | _ => .array .int
abbrev wsX30 : List Cond := u_ws RX3 TX3 15
theorem nmX3 : ∀ a, a < 15 → ∀ b, b < 15 → a ≠ b → (TX3 a).2.1 ≠ (TX3 b).2.1 := by decide +kernel
theorem tyX3_ok : ∀ k, k < 15 → parseFieldDescriptor (TX3 k).2.2.1 = some (tyX3 k) := by decide +kernel
abbrev cX3_init : ByteArray := prog_5_method_1_code
def yX3_init : MethodName := ⟨RX3, "<init>", "()V"⟩
abbrev cX3_empty : ByteArray := prog_5_method_2_code
def yX3_empty : MethodName := ⟨RX3, "empty", "()V"⟩
abbrev cX3_takeFrom : ByteArray := prog_5_method_3_code
def yX3_takeFrom : MethodName := ⟨RX3, "takeFrom", "(LDogsPostman$Village;)V"⟩
abbrev cX3_hasMan : ByteArray := prog_5_method_4_code
def yX3_hasMan : MethodName := ⟨RX3, "hasMan", "(I)Z"⟩
abbrev cX3_hasDog : ByteArray := prog_5_method_5_code
def yX3_hasDog : MethodName := ⟨RX3, "hasDog", "(I)Z"⟩
abbrev cX3_isIn : ByteArray := prog_5_method_6_code
def yX3_isIn : MethodName := ⟨RX3, "isIn", "(II)Z"⟩
abbrev cX3_isAsleep : ByteArray := prog_5_method_7_code
def yX3_isAsleep : MethodName := ⟨RX3, "isAsleep", "(I)Z"⟩
abbrev cX3_everyDog : ByteArray := prog_5_method_8_code
def yX3_everyDog : MethodName := ⟨RX3, "everyDog", "()I"⟩
abbrev cX3_addMan : ByteArray := prog_5_method_9_code
def yX3_addMan : MethodName := ⟨RX3, "addMan", "(II)I"⟩
abbrev cX3_addDog : ByteArray := prog_5_method_10_code
def yX3_addDog : MethodName := ⟨RX3, "addDog", "(IIII)I"⟩
abbrev cX3_mayBribe : ByteArray := prog_5_method_11_code
def yX3_mayBribe : MethodName := ⟨RX3, "mayBribe", "(II)Z"⟩
abbrev cX3_putToSleep : ByteArray := prog_5_method_12_code
def yX3_putToSleep : MethodName := ⟨RX3, "putToSleep", "(II)V"⟩
abbrev cX3_hungerOf : ByteArray := prog_5_method_13_code
def yX3_hungerOf : MethodName := ⟨RX3, "hungerOf", "(I)I"⟩
abbrev cX3_keepPast : ByteArray := prog_5_method_14_code
def yX3_keepPast : MethodName := ⟨RX3, "keepPast", "()V"⟩
abbrev cX3_goBack : ByteArray := prog_5_method_15_code
def yX3_goBack : MethodName := ⟨RX3, "goBack", "()V"⟩
abbrev cX3_startOf : ByteArray := prog_5_method_16_code
def yX3_startOf : MethodName := ⟨RX3, "startOf", "(I)I"⟩
abbrev cX3_bittenBy : ByteArray := prog_5_method_17_code
def yX3_bittenBy : MethodName := ⟨RX3, "bittenBy", "(II)I"⟩
abbrev cX3_bitersOf : ByteArray := prog_5_method_18_code
def yX3_bitersOf : MethodName := ⟨RX3, "bitersOf", "(III)I"⟩
abbrev cX3_widthTo : ByteArray := prog_5_method_19_code
def yX3_widthTo : MethodName := ⟨RX3, "widthTo", "(III)I"⟩
abbrev cX3_addRound : ByteArray := prog_5_method_20_code
def yX3_addRound : MethodName := ⟨RX3, "addRound", "([III)V"⟩
abbrev cX3_addNote : ByteArray := prog_5_method_21_code
def yX3_addNote : MethodName := ⟨RX3, "addNote", "(IIII)I"⟩
abbrev cX3_kindsBy : ByteArray := prog_5_method_22_code
def yX3_kindsBy : MethodName := ⟨RX3, "kindsBy", "(I)I"⟩
abbrev cX3_digestOn : ByteArray := prog_5_method_23_code
def yX3_digestOn : MethodName := ⟨RX3, "digestOn", "(J)J"⟩
def RX4 : String := "DogsPostman"
def TX4 : u_T := fun k => match k with
  | 0 => ("DogsPostman", "now", "LDogsPostman$Village;", true)
  | 1 => ("DogsPostman", "spare", "LDogsPostman$Village;", true)
  | 2 => ("DogsPostman", "images", "[LDogsPostman$Village;", true)
  | 3 => ("DogsPostman", "text", "LDogsPostman$Text;", true)
  | 4 => ("DogsPostman", "above", "I", false)
  | 5 => ("DogsPostman", "below", "I", false)
  | 6 => ("DogsPostman", "badCalls", "I", false)
  | 7 => ("DogsPostman", "noCalls", "I", false)
  | 8 => ("DogsPostman", "fullCalls", "I", false)
  | 9 => ("DogsPostman", "row", "[I", true)
  | 10 => ("DogsPostman", "gainA", "[I", true)
  | _ => ("DogsPostman", "gainB", "[I", true)
def tyX4 : Nat → FieldType := fun k => match k with
  | 0 => .object "DogsPostman$Village"
  | 1 => .object "DogsPostman$Village"
  | 2 => .array (.object "DogsPostman$Village")
  | 3 => .object "DogsPostman$Text"
  | 4 => .int
  | 5 => .int
  | 6 => .int
  | 7 => .int
  | 8 => .int
  | 9 => .array .int
  | 10 => .array .int
  | _ => .array .int
abbrev wsX40 : List Cond := u_ws RX4 TX4 12
theorem nmX4 : ∀ a, a < 12 → ∀ b, b < 12 → a ≠ b → (TX4 a).2.1 ≠ (TX4 b).2.1 := by decide +kernel
theorem tyX4_ok : ∀ k, k < 12 → parseFieldDescriptor (TX4 k).2.2.1 = some (tyX4 k) := by decide +kernel
abbrev cX4_init : ByteArray := prog_1_method_1_code
def yX4_init : MethodName := ⟨RX4, "<init>", "()V"⟩
abbrev cX4_village : ByteArray := prog_1_method_2_code
def yX4_village : MethodName := ⟨RX4, "village", "()I"⟩
abbrev cX4_man : ByteArray := prog_1_method_3_code
def yX4_man : MethodName := ⟨RX4, "man", "(II)I"⟩
abbrev cX4_dog : ByteArray := prog_1_method_4_code
def yX4_dog : MethodName := ⟨RX4, "dog", "(IIII)I"⟩
abbrev cX4_type : ByteArray := prog_1_method_5_code
def yX4_type : MethodName := ⟨RX4, "type", "(I)I"⟩
abbrev cX4_clear : ByteArray := prog_1_method_6_code
def yX4_clear : MethodName := ⟨RX4, "clear", "()I"⟩
abbrev cX4_read : ByteArray := prog_1_method_7_code
def yX4_read : MethodName := ⟨RX4, "read", "()I"⟩
abbrev cX4_bribe : ByteArray := prog_1_method_8_code
def yX4_bribe : MethodName := ⟨RX4, "bribe", "(II)I"⟩
abbrev cX4_round : ByteArray := prog_1_method_9_code
def yX4_round : MethodName := ⟨RX4, "round", "(I)I"⟩
abbrev cX4_undo : ByteArray := prog_1_method_10_code
def yX4_undo : MethodName := ⟨RX4, "undo", "()I"⟩
abbrev cX4_of : ByteArray := prog_1_method_11_code
def yX4_of : MethodName := ⟨RX4, "of", "(II)I"⟩
abbrev cX4_about : ByteArray := prog_1_method_12_code
def yX4_about : MethodName := ⟨RX4, "about", "(II)I"⟩
abbrev cX4_bitten : ByteArray := prog_1_method_13_code
def yX4_bitten : MethodName := ⟨RX4, "bitten", "(II)I"⟩
abbrev cX4_then : ByteArray := prog_1_method_14_code
def yX4_then : MethodName := ⟨RX4, "then", "(II)I"⟩
abbrev cX4_won : ByteArray := prog_1_method_15_code
def yX4_won : MethodName := ⟨RX4, "won", "(II)I"⟩
abbrev cX4_letters : ByteArray := prog_1_method_16_code
def yX4_letters : MethodName := ⟨RX4, "letters", "()I"⟩
abbrev cX4_bribes : ByteArray := prog_1_method_17_code
def yX4_bribes : MethodName := ⟨RX4, "bribes", "(II)I"⟩
abbrev cX4_still : ByteArray := prog_1_method_18_code
def yX4_still : MethodName := ⟨RX4, "still", "(I)I"⟩
abbrev cX4_first : ByteArray := prog_1_method_19_code
def yX4_first : MethodName := ⟨RX4, "first", "(II)I"⟩
abbrev cX4_slept : ByteArray := prog_1_method_20_code
def yX4_slept : MethodName := ⟨RX4, "slept", "(IIII)I"⟩
abbrev cX4_note : ByteArray := prog_1_method_21_code
def yX4_note : MethodName := ⟨RX4, "note", "(IIII)I"⟩
abbrev cX4_forget : ByteArray := prog_1_method_22_code
def yX4_forget : MethodName := ⟨RX4, "forget", "()I"⟩
abbrev cX4_is : ByteArray := prog_1_method_23_code
def yX4_is : MethodName := ⟨RX4, "is", "(I)I"⟩
abbrev cX4_send : ByteArray := prog_1_method_24_code
def yX4_send : MethodName := ⟨RX4, "send", "(I)I"⟩
abbrev cX4_two : ByteArray := prog_1_method_25_code
def yX4_two : MethodName := ⟨RX4, "two", "(III)I"⟩
abbrev cX4_strays : ByteArray := prog_1_method_26_code
def yX4_strays : MethodName := ⟨RX4, "strays", "(II)I"⟩
abbrev cX4_villages : ByteArray := prog_1_method_27_code
def yX4_villages : MethodName := ⟨RX4, "villages", "(II)I"⟩
abbrev cX4_part : ByteArray := prog_1_method_28_code
def yX4_part : MethodName := ⟨RX4, "part", "(I)J"⟩
abbrev cX4_image : ByteArray := prog_1_method_29_code
def yX4_image : MethodName := ⟨RX4, "image", "(I)I"⟩
abbrev cX4_from : ByteArray := prog_1_method_30_code
def yX4_from : MethodName := ⟨RX4, "from", "(I)I"⟩
abbrev cX4_status : ByteArray := prog_1_method_31_code
def yX4_status : MethodName := ⟨RX4, "status", "(I)I"⟩
abbrev cX4_count : ByteArray := prog_1_method_32_code
def yX4_count : MethodName := ⟨RX4, "count", "(I)I"⟩
abbrev cX4_digest : ByteArray := prog_1_method_33_code
def yX4_digest : MethodName := ⟨RX4, "digest", "()J"⟩
abbrev cX4_within : ByteArray := prog_1_method_34_code
def yX4_within : MethodName := ⟨RX4, "within", "(III)Z"⟩
abbrev cX4_refuse : ByteArray := prog_1_method_35_code
def yX4_refuse : MethodName := ⟨RX4, "refuse", "(I)I"⟩
abbrev cX4_counted : ByteArray := prog_1_method_36_code
def yX4_counted : MethodName := ⟨RX4, "counted", "(I)I"⟩
abbrev cX4_lookAhead : ByteArray := prog_1_method_37_code
def yX4_lookAhead : MethodName := ⟨RX4, "lookAhead", "(I)V"⟩
abbrev cX4_winsByBribing : ByteArray := prog_1_method_38_code
def yX4_winsByBribing : MethodName := ⟨RX4, "winsByBribing", "(II)Z"⟩
abbrev cX4_postmanOf : ByteArray := prog_1_method_39_code
def yX4_postmanOf : MethodName := ⟨RX4, "postmanOf", "([II)I"⟩
abbrev cX4_leaverOf : ByteArray := prog_1_method_40_code
def yX4_leaverOf : MethodName := ⟨RX4, "leaverOf", "([II)I"⟩
abbrev cX4_mayChoose : ByteArray := prog_1_method_41_code
def yX4_mayChoose : MethodName := ⟨RX4, "mayChoose", "(I)Z"⟩
abbrev cX4_fillGains : ByteArray := prog_1_method_42_code
def yX4_fillGains : MethodName := ⟨RX4, "fillGains", "(II)V"⟩
abbrev cX4_doorOf : ByteArray := prog_1_method_43_code
def yX4_doorOf : MethodName := ⟨RX4, "doorOf", "(I)I"⟩
abbrev cX4_priceOf : ByteArray := prog_1_method_44_code
def yX4_priceOf : MethodName := ⟨RX4, "priceOf", "(I)I"⟩
abbrev cX4_rests : ByteArray := prog_1_method_45_code
def yX4_rests : MethodName := ⟨RX4, "rests", "(II)Z"⟩
abbrev cX4_commonDivisor : ByteArray := prog_1_method_46_code
def yX4_commonDivisor : MethodName := ⟨RX4, "commonDivisor", "(II)I"⟩
def RX5 : String := "DogsPostmanModel"
def TX5 : u_T := fun k => match k with
  | 0 => ("DogsPostmanModel", "refused", "[I", true)
  | 1 => ("DogsPostmanModel", "men", "I", false)
  | 2 => ("DogsPostmanModel", "many", "I", false)
  | 3 => ("DogsPostmanModel", "now", "I", false)
  | 4 => ("DogsPostmanModel", "asleep", "I", false)
  | 5 => ("DogsPostmanModel", "noteMany", "I", false)
  | 6 => ("DogsPostmanModel", "boots", "[I", true)
  | 7 => ("DogsPostmanModel", "ham", "[I", true)
  | 8 => ("DogsPostmanModel", "holes", "[I", true)
  | 9 => ("DogsPostmanModel", "kinds", "[I", true)
  | 10 => ("DogsPostmanModel", "weights", "[I", true)
  | 11 => ("DogsPostmanModel", "hungers", "[I", true)
  | 12 => ("DogsPostmanModel", "favourites", "[I", true)
  | 13 => ("DogsPostmanModel", "noteDog", "[I", true)
  | 14 => ("DogsPostmanModel", "noteFavourite", "[I", true)
  | 15 => ("DogsPostmanModel", "noteBoots", "[I", true)
  | 16 => ("DogsPostmanModel", "noteBit", "[I", true)
  | 17 => ("DogsPostmanModel", "text", "[I", true)
  | 18 => ("DogsPostmanModel", "typed", "I", false)
  | 19 => ("DogsPostmanModel", "readAt", "I", false)
  | 20 => ("DogsPostmanModel", "readMen", "I", false)
  | 21 => ("DogsPostmanModel", "readMany", "I", false)
  | 22 => ("DogsPostmanModel", "readAsleep", "I", false)
  | 23 => ("DogsPostmanModel", "readMan", "[I", true)
  | 24 => ("DogsPostmanModel", "readDog", "[I", true)
  | 25 => ("DogsPostmanModel", "readNumber", "I", false)
  | 26 => ("DogsPostmanModel", "ahead", "[I", true)
  | 27 => ("DogsPostmanModel", "undoMany", "I", false)
  | 28 => ("DogsPostmanModel", "aside", "[I", true)
  | 29 => ("DogsPostmanModel", "above", "J", false)
  | 30 => ("DogsPostmanModel", "below", "J", false)
  | 31 => ("DogsPostmanModel", "images", "[I", true)
  | 32 => ("DogsPostmanModel", "isKept", "[I", true)
  | _ => ("DogsPostmanModel", "h0", "J", false)
def tyX5 : Nat → FieldType := fun k => match k with
  | 0 => .array .int
  | 1 => .int
  | 2 => .int
  | 3 => .int
  | 4 => .int
  | 5 => .int
  | 6 => .array .int
  | 7 => .array .int
  | 8 => .array .int
  | 9 => .array .int
  | 10 => .array .int
  | 11 => .array .int
  | 12 => .array .int
  | 13 => .array .int
  | 14 => .array .int
  | 15 => .array .int
  | 16 => .array .int
  | 17 => .array .int
  | 18 => .int
  | 19 => .int
  | 20 => .int
  | 21 => .int
  | 22 => .int
  | 23 => .array .int
  | 24 => .array .int
  | 25 => .int
  | 26 => .array .int
  | 27 => .int
  | 28 => .array .int
  | 29 => .long
  | 30 => .long
  | 31 => .array .int
  | 32 => .array .int
  | _ => .long
abbrev wsX50 : List Cond := u_ws RX5 TX5 34
theorem nmX5 : ∀ a, a < 34 → ∀ b, b < 34 → a ≠ b → (TX5 a).2.1 ≠ (TX5 b).2.1 := by decide +kernel
theorem tyX5_ok : ∀ k, k < 34 → parseFieldDescriptor (TX5 k).2.2.1 = some (tyX5 k) := by decide +kernel
abbrev cX5_bad : ByteArray := prog_7_method_1_code
def yX5_bad : MethodName := ⟨RX5, "bad", "()I"⟩
abbrev cX5_ten : ByteArray := prog_7_method_2_code
def yX5_ten : MethodName := ⟨RX5, "ten", "()I"⟩
abbrev cX5_no : ByteArray := prog_7_method_3_code
def yX5_no : MethodName := ⟨RX5, "no", "()I"⟩
abbrev cX5_full : ByteArray := prog_7_method_4_code
def yX5_full : MethodName := ⟨RX5, "full", "()I"⟩
abbrev cX5_in : ByteArray := prog_7_method_5_code
def yX5_in : MethodName := ⟨RX5, "in", "(III)Z"⟩
abbrev cX5_has : ByteArray := prog_7_method_6_code
def yX5_has : MethodName := ⟨RX5, "has", "(II)Z"⟩
abbrev cX5_bits : ByteArray := prog_7_method_7_code
def yX5_bits : MethodName := ⟨RX5, "bits", "(I)I"⟩
abbrev cX5_init : ByteArray := prog_7_method_8_code
def yX5_init : MethodName := ⟨RX5, "<init>", "()V"⟩
abbrev cX5_begin : ByteArray := prog_7_method_9_code
def yX5_begin : MethodName := ⟨RX5, "begin", "()V"⟩
abbrev cX5_isMan : ByteArray := prog_7_method_10_code
def yX5_isMan : MethodName := ⟨RX5, "isMan", "(I)Z"⟩
abbrev cX5_isDog : ByteArray := prog_7_method_11_code
def yX5_isDog : MethodName := ⟨RX5, "isDog", "(I)Z"⟩
abbrev cX5_village : ByteArray := prog_7_method_12_code
def yX5_village : MethodName := ⟨RX5, "village", "()I"⟩
abbrev cX5_addMan : ByteArray := prog_7_method_13_code
def yX5_addMan : MethodName := ⟨RX5, "addMan", "(II)I"⟩
abbrev cX5_addDog : ByteArray := prog_7_method_14_code
def yX5_addDog : MethodName := ⟨RX5, "addDog", "(IIII)I"⟩
abbrev cX5_man : ByteArray := prog_7_method_15_code
def yX5_man : MethodName := ⟨RX5, "man", "(II)I"⟩
abbrev cX5_dog : ByteArray := prog_7_method_16_code
def yX5_dog : MethodName := ⟨RX5, "dog", "(IIII)I"⟩
abbrev cX5_type : ByteArray := prog_7_method_17_code
def yX5_type : MethodName := ⟨RX5, "type", "(I)I"⟩
abbrev cX5_clear : ByteArray := prog_7_method_18_code
def yX5_clear : MethodName := ⟨RX5, "clear", "()I"⟩
abbrev cX5_here : ByteArray := prog_7_method_19_code
def yX5_here : MethodName := ⟨RX5, "here", "()I"⟩
abbrev cX5_skip : ByteArray := prog_7_method_20_code
def yX5_skip : MethodName := ⟨RX5, "skip", "()V"⟩
abbrev cX5_isLetter : ByteArray := prog_7_method_21_code
def yX5_isLetter : MethodName := ⟨RX5, "isLetter", "(I)Z"⟩
abbrev cX5_isFigure : ByteArray := prog_7_method_22_code
def yX5_isFigure : MethodName := ⟨RX5, "isFigure", "(I)Z"⟩
abbrev cX5_wordSize : ByteArray := prog_7_method_23_code
def yX5_wordSize : MethodName := ⟨RX5, "wordSize", "()I"⟩
abbrev cX5_letter : ByteArray := prog_7_method_24_code
def yX5_letter : MethodName := ⟨RX5, "letter", "(I)I"⟩
abbrev cX5_wordHere : ByteArray := prog_7_method_25_code
def yX5_wordHere : MethodName := ⟨RX5, "wordHere", "()I"⟩
abbrev cX5_number : ByteArray := prog_7_method_26_code
def yX5_number : MethodName := ⟨RX5, "number", "(II)Z"⟩
abbrev cX5_ends : ByteArray := prog_7_method_27_code
def yX5_ends : MethodName := ⟨RX5, "ends", "()Z"⟩
abbrev cX5_readsMan : ByteArray := prog_7_method_28_code
def yX5_readsMan : MethodName := ⟨RX5, "readsMan", "()Z"⟩
abbrev cX5_readsDog : ByteArray := prog_7_method_29_code
def yX5_readsDog : MethodName := ⟨RX5, "readsDog", "()Z"⟩
abbrev cX5_readsBribe : ByteArray := prog_7_method_30_code
def yX5_readsBribe : MethodName := ⟨RX5, "readsBribe", "()Z"⟩
abbrev cX5_readsItem : ByteArray := prog_7_method_31_code
def yX5_readsItem : MethodName := ⟨RX5, "readsItem", "()Z"⟩
abbrev cX5_readsVillage : ByteArray := prog_7_method_32_code
def yX5_readsVillage : MethodName := ⟨RX5, "readsVillage", "()I"⟩
abbrev cX5_read : ByteArray := prog_7_method_33_code
def yX5_read : MethodName := ⟨RX5, "read", "()I"⟩
abbrev cX5_bitesBy : ByteArray := prog_7_method_34_code
def yX5_bitesBy : MethodName := ⟨RX5, "bitesBy", "(IZI)Z"⟩
abbrev cX5_bitesMany : ByteArray := prog_7_method_35_code
def yX5_bitesMany : MethodName := ⟨RX5, "bitesMany", "(I)I"⟩
abbrev cX5_holeBy : ByteArray := prog_7_method_36_code
def yX5_holeBy : MethodName := ⟨RX5, "holeBy", "(II)I"⟩
abbrev cX5_isBitten : ByteArray := prog_7_method_37_code
def yX5_isBitten : MethodName := ⟨RX5, "isBitten", "(III)Z"⟩
abbrev cX5_comesTo : ByteArray := prog_7_method_38_code
def yX5_comesTo : MethodName := ⟨RX5, "comesTo", "(III)I"⟩
abbrev cX5_firstOf : ByteArray := prog_7_method_39_code
def yX5_firstOf : MethodName := ⟨RX5, "firstOf", "(I)I"⟩
abbrev cX5_pass : ByteArray := prog_7_method_40_code
def yX5_pass : MethodName := ⟨RX5, "pass", "()V"⟩
abbrev cX5_postman : ByteArray := prog_7_method_41_code
def yX5_postman : MethodName := ⟨RX5, "postman", "()I"⟩
abbrev cX5_nextVillage : ByteArray := prog_7_method_42_code
def yX5_nextVillage : MethodName := ⟨RX5, "nextVillage", "()I"⟩
abbrev cX5_lays : ByteArray := prog_7_method_43_code
def yX5_lays : MethodName := ⟨RX5, "lays", "([II)V"⟩
abbrev cX5_takes : ByteArray := prog_7_method_44_code
def yX5_takes : MethodName := ⟨RX5, "takes", "([II)V"⟩
abbrev cX5_notes : ByteArray := prog_7_method_45_code
def yX5_notes : MethodName := ⟨RX5, "notes", "()V"⟩
abbrev cX5_puts : ByteArray := prog_7_method_46_code
def yX5_puts : MethodName := ⟨RX5, "puts", "()V"⟩
abbrev cX5_back : ByteArray := prog_7_method_47_code
def yX5_back : MethodName := ⟨RX5, "back", "()V"⟩
abbrev cX5_bribe : ByteArray := prog_7_method_48_code
def yX5_bribe : MethodName := ⟨RX5, "bribe", "(II)I"⟩
abbrev cX5_round : ByteArray := prog_7_method_49_code
def yX5_round : MethodName := ⟨RX5, "round", "(I)I"⟩
abbrev cX5_undo : ByteArray := prog_7_method_50_code
def yX5_undo : MethodName := ⟨RX5, "undo", "()I"⟩
abbrev cX5_of : ByteArray := prog_7_method_51_code
def yX5_of : MethodName := ⟨RX5, "of", "(II)I"⟩
abbrev cX5_about : ByteArray := prog_7_method_52_code
def yX5_about : MethodName := ⟨RX5, "about", "(II)I"⟩
abbrev cX5_bitten : ByteArray := prog_7_method_53_code
def yX5_bitten : MethodName := ⟨RX5, "bitten", "(II)I"⟩
abbrev cX5_then : ByteArray := prog_7_method_54_code
def yX5_then : MethodName := ⟨RX5, "then", "(II)I"⟩
abbrev cX5_wonIn : ByteArray := prog_7_method_55_code
def yX5_wonIn : MethodName := ⟨RX5, "wonIn", "(II)I"⟩
abbrev cX5_won : ByteArray := prog_7_method_56_code
def yX5_won : MethodName := ⟨RX5, "won", "(II)I"⟩
abbrev cX5_letters : ByteArray := prog_7_method_57_code
def yX5_letters : MethodName := ⟨RX5, "letters", "()I"⟩
abbrev cX5_hungerOf : ByteArray := prog_7_method_58_code
def yX5_hungerOf : MethodName := ⟨RX5, "hungerOf", "(I)I"⟩
abbrev cX5_bribes : ByteArray := prog_7_method_59_code
def yX5_bribes : MethodName := ⟨RX5, "bribes", "(II)I"⟩
abbrev cX5_still : ByteArray := prog_7_method_60_code
def yX5_still : MethodName := ⟨RX5, "still", "(I)I"⟩
abbrev cX5_first : ByteArray := prog_7_method_61_code
def yX5_first : MethodName := ⟨RX5, "first", "(II)I"⟩
abbrev cX5_slept : ByteArray := prog_7_method_62_code
def yX5_slept : MethodName := ⟨RX5, "slept", "(IIII)I"⟩
abbrev cX5_note : ByteArray := prog_7_method_63_code
def yX5_note : MethodName := ⟨RX5, "note", "(IIII)I"⟩
abbrev cX5_forget : ByteArray := prog_7_method_64_code
def yX5_forget : MethodName := ⟨RX5, "forget", "()I"⟩
abbrev cX5_kindsOf : ByteArray := prog_7_method_65_code
def yX5_kindsOf : MethodName := ⟨RX5, "kindsOf", "(I)I"⟩
abbrev cX5_is : ByteArray := prog_7_method_66_code
def yX5_is : MethodName := ⟨RX5, "is", "(I)I"⟩
abbrev cX5_send : ByteArray := prog_7_method_67_code
def yX5_send : MethodName := ⟨RX5, "send", "(I)I"⟩
abbrev cX5_gets : ByteArray := prog_7_method_68_code
def yX5_gets : MethodName := ⟨RX5, "gets", "(III)I"⟩
abbrev cX5_isChoice : ByteArray := prog_7_method_69_code
def yX5_isChoice : MethodName := ⟨RX5, "isChoice", "(I)Z"⟩
abbrev cX5_rests : ByteArray := prog_7_method_70_code
def yX5_rests : MethodName := ⟨RX5, "rests", "(IIII)Z"⟩
abbrev cX5_two : ByteArray := prog_7_method_71_code
def yX5_two : MethodName := ⟨RX5, "two", "(III)I"⟩
abbrev cX5_lay : ByteArray := prog_7_method_72_code
def yX5_lay : MethodName := ⟨RX5, "lay", "(JJ)V"⟩
abbrev cX5_strays : ByteArray := prog_7_method_73_code
def yX5_strays : MethodName := ⟨RX5, "strays", "(II)I"⟩
abbrev cX5_villages : ByteArray := prog_7_method_74_code
def yX5_villages : MethodName := ⟨RX5, "villages", "(II)I"⟩
abbrev cX5_part : ByteArray := prog_7_method_75_code
def yX5_part : MethodName := ⟨RX5, "part", "(I)J"⟩
abbrev cX5_image : ByteArray := prog_7_method_76_code
def yX5_image : MethodName := ⟨RX5, "image", "(I)I"⟩
abbrev cX5_from : ByteArray := prog_7_method_77_code
def yX5_from : MethodName := ⟨RX5, "from", "(I)I"⟩
abbrev cX5_status : ByteArray := prog_7_method_78_code
def yX5_status : MethodName := ⟨RX5, "status", "(I)I"⟩
abbrev cX5_countOf : ByteArray := prog_7_method_79_code
def yX5_countOf : MethodName := ⟨RX5, "countOf", "(I)I"⟩
abbrev cX5_count : ByteArray := prog_7_method_80_code
def yX5_count : MethodName := ⟨RX5, "count", "(I)I"⟩
abbrev cX5_mix : ByteArray := prog_7_method_81_code
def yX5_mix : MethodName := ⟨RX5, "mix", "(J)V"⟩
abbrev cX5_digest : ByteArray := prog_7_method_82_code
def yX5_digest : MethodName := ⟨RX5, "digest", "()J"⟩
def RJ6 : String := "java/lang/Integer"
def TJ6 : u_T := fun k => match k with
  | _ => ("", "", "", false)
def tyJ6 : Nat → FieldType := fun k => match k with
  | _ => .int
abbrev wsJ60 : List Cond := u_ws RJ6 TJ6 0
theorem nmJ6 : ∀ a, a < 0 → ∀ b, b < 0 → a ≠ b → (TJ6 a).2.1 ≠ (TJ6 b).2.1 := by decide +kernel
theorem tyJ6_ok : ∀ k, k < 0 → parseFieldDescriptor (TJ6 k).2.2.1 = some (tyJ6 k) := by decide +kernel
abbrev cJ6_bitCount_0f7a4 : ByteArray := prog_8_method_49_code
def yJ6_bitCount_0f7a4 : MethodName := ⟨RJ6, "bitCount", "(I)I"⟩
def RJ9 : String := "java/lang/Math"
def TJ9 : u_T := fun k => match k with
  | _ => ("", "", "", false)
def tyJ9 : Nat → FieldType := fun k => match k with
  | _ => .int
abbrev wsJ90 : List Cond := u_ws RJ9 TJ9 0
theorem nmJ9 : ∀ a, a < 0 → ∀ b, b < 0 → a ≠ b → (TJ9 a).2.1 ≠ (TJ9 b).2.1 := by decide +kernel
theorem tyJ9_ok : ∀ k, k < 0 → parseFieldDescriptor (TJ9 k).2.2.1 = some (tyJ9 k) := by decide +kernel
abbrev cJ9_max_7cf53 : ByteArray := prog_9_method_65_code
def yJ9_max_7cf53 : MethodName := ⟨RJ9, "max", "(II)I"⟩
def RJ0 : String := "java/lang/String"
def TJ0 : u_T := fun k => match k with
  | _ => ("", "", "", false)
def tyJ0 : Nat → FieldType := fun k => match k with
  | _ => .int
abbrev wsJ00 : List Cond := u_ws RJ0 TJ0 0
theorem nmJ0 : ∀ a, a < 0 → ∀ b, b < 0 → a ≠ b → (TJ0 a).2.1 ≠ (TJ0 b).2.1 := by decide +kernel
theorem tyJ0_ok : ∀ k, k < 0 → parseFieldDescriptor (TJ0 k).2.2.1 = some (tyJ0 k) := by decide +kernel
abbrev cJ0_length_8abf5 : ByteArray := prog_10_method_54_code
def yJ0_length_8abf5 : MethodName := ⟨RJ0, "length", "()I"⟩
abbrev cJ0_charAt_5068e : ByteArray := prog_10_method_56_code
def yJ0_charAt_5068e : MethodName := ⟨RJ0, "charAt", "(I)C"⟩
abbrev cJ0_coder_7d493 : ByteArray := prog_10_method_152_code
def yJ0_coder_7d493 : MethodName := ⟨RJ0, "coder", "()B"⟩
abbrev cJ0_isLatin1_aae02 : ByteArray := prog_10_method_154_code
def yJ0_isLatin1_aae02 : MethodName := ⟨RJ0, "isLatin1", "()Z"⟩
abbrev cJ0_checkIndex_df160 : ByteArray := prog_10_method_155_code
def yJ0_checkIndex_df160 : MethodName := ⟨RJ0, "checkIndex", "(II)V"⟩
def RJ1 : String := "java/lang/StringLatin1"
def TJ1 : u_T := fun k => match k with
  | _ => ("", "", "", false)
def tyJ1 : Nat → FieldType := fun k => match k with
  | _ => .int
abbrev wsJ10 : List Cond := u_ws RJ1 TJ1 0
theorem nmJ1 : ∀ a, a < 0 → ∀ b, b < 0 → a ≠ b → (TJ1 a).2.1 ≠ (TJ1 b).2.1 := by decide +kernel
theorem tyJ1_ok : ∀ k, k < 0 → parseFieldDescriptor (TJ1 k).2.2.1 = some (tyJ1 k) := by decide +kernel
abbrev cJ1_charAt_3b067 : ByteArray := prog_11_method_2_code
def yJ1_charAt_3b067 : MethodName := ⟨RJ1, "charAt", "([BI)C"⟩
def RJ2 : String := "java/lang/StringUTF16"
def TJ2 : u_T := fun k => match k with
  | _ => ("", "", "", false)
def tyJ2 : Nat → FieldType := fun k => match k with
  | _ => .int
abbrev wsJ20 : List Cond := u_ws RJ2 TJ2 0
theorem nmJ2 : ∀ a, a < 0 → ∀ b, b < 0 → a ≠ b → (TJ2 a).2.1 ≠ (TJ2 b).2.1 := by decide +kernel
theorem tyJ2_ok : ∀ k, k < 0 → parseFieldDescriptor (TJ2 k).2.2.1 = some (tyJ2 k) := by decide +kernel
abbrev cJ2_getChar_3b067 : ByteArray := prog_12_method_5_code
def yJ2_getChar_3b067 : MethodName := ⟨RJ2, "getChar", "([BI)C"⟩
abbrev cJ2_length_9d52b : ByteArray := prog_12_method_6_code
def yJ2_length_9d52b : MethodName := ⟨RJ2, "length", "([B)I"⟩
abbrev cJ2_charAt_3b067 : ByteArray := prog_12_method_83_code
def yJ2_charAt_3b067 : MethodName := ⟨RJ2, "charAt", "([BI)C"⟩
abbrev cJ2_checkIndex_2214a : ByteArray := prog_12_method_91_code
def yJ2_checkIndex_2214a : MethodName := ⟨RJ2, "checkIndex", "(I[B)V"⟩
def RJ10 : String := "java/lang/System"
def TJ10 : u_T := fun k => match k with
  | _ => ("", "", "", false)
def tyJ10 : Nat → FieldType := fun k => match k with
  | _ => .int
abbrev wsJ100 : List Cond := u_ws RJ10 TJ10 0
theorem nmJ10 : ∀ a, a < 0 → ∀ b, b < 0 → a ≠ b → (TJ10 a).2.1 ≠ (TJ10 b).2.1 := by decide +kernel
theorem tyJ10_ok : ∀ k, k < 0 → parseFieldDescriptor (TJ10 k).2.2.1 = some (tyJ10 k) := by decide +kernel
def RJ3 : String := "jdk/internal/util/Preconditions"
def TJ3 : u_T := fun k => match k with
  | _ => ("", "", "", false)
def tyJ3 : Nat → FieldType := fun k => match k with
  | _ => .int
abbrev wsJ30 : List Cond := u_ws RJ3 TJ3 0
theorem nmJ3 : ∀ a, a < 0 → ∀ b, b < 0 → a ≠ b → (TJ3 a).2.1 ≠ (TJ3 b).2.1 := by decide +kernel
theorem tyJ3_ok : ∀ k, k < 0 → parseFieldDescriptor (TJ3 k).2.2.1 = some (tyJ3 k) := by decide +kernel
abbrev cJ3_checkIndex_8e157 : ByteArray := prog_14_method_11_code
def yJ3_checkIndex_8e157 : MethodName := ⟨RJ3, "checkIndex", "(IILjava/util/function/BiFunction;)I"⟩
def RL : String := "DogsPostmanLaw"
abbrev cL_law : ByteArray := code
def yL_law : MethodName := ⟨RL, "law", "([I)Z"⟩
abbrev vwCl : List vw_C := [(RX1, TX1, 6), (RX2, TX2, 2), (RX3, TX3, 15), (RX4, TX4, 12), (RX5, TX5, 34)]
end
section
/-- the words that every method may use: the tables' words that stay -/
def BG : List Cond := lw_tbl.filter goodWord
theorem bg {w : Cond} (h : w ∈ lw_tbl) (hg : goodWord w = true) : w ∈ BG := List.mem_filter.mpr ⟨h, hg⟩
theorem bg_in {w : Cond} (h : w ∈ BG) : w ∈ lw_tbl := (List.mem_filter.mp h).1
theorem bg_good {w : Cond} (h : w ∈ BG) : (w.onTables && w.keeps) = true ∨ ∃ ty, w = .arrayClass ty := good_of_word (List.mem_filter.mp h).2
theorem tb1 {w : Cond} {i : Nat} (h : tables_1_1[i]? = some w) (hg : goodWord w = true) : w ∈ BG := bg (List.mem_append_right _ (List.mem_append_left _ (List.mem_of_getElem? h))) hg
theorem tb2 {w : Cond} {i : Nat} (h : tables_1_2[i]? = some w) (hg : goodWord w = true) : w ∈ BG := bg (List.mem_append_right _ (List.mem_append_right _ (List.mem_append_left _ (List.mem_of_getElem? h)))) hg
theorem tb3 {w : Cond} {i : Nat} (h : tables_1_3[i]? = some w) (hg : goodWord w = true) : w ∈ BG := bg (List.mem_append_right _ (List.mem_append_right _ (List.mem_append_right _ (List.mem_append_left _ (List.mem_of_getElem? h))))) hg
theorem tb4 {w : Cond} {i : Nat} (h : tables_1_4[i]? = some w) (hg : goodWord w = true) : w ∈ BG := bg (List.mem_append_right _ (List.mem_append_right _ (List.mem_append_right _ (List.mem_append_right _ (List.mem_append_left _ (List.mem_of_getElem? h)))))) hg
theorem tb5 {w : Cond} {i : Nat} (h : tables_1_5[i]? = some w) (hg : goodWord w = true) : w ∈ BG := bg (List.mem_append_right _ (List.mem_append_right _ (List.mem_append_right _ (List.mem_append_right _ (List.mem_append_right _ (List.mem_of_getElem? h)))))) hg
theorem tbs {w : Cond} {i : Nat} (h : (k2_sels lw_privs)[i]? = some w) (hg : goodWord w = true) : w ∈ BG := bg (List.mem_append_left _ (List.mem_of_getElem? h)) hg
theorem b_in_L : Cond.initialized RL ∈ BG := tb1 (i := 0) (by decide +kernel) (by decide +kernel)
theorem b_in_X4 : Cond.initialized RX4 ∈ BG := tb1 (i := 1) (by decide +kernel) (by decide +kernel)
theorem b_in_X3 : Cond.initialized RX3 ∈ BG := tb1 (i := 2) (by decide +kernel) (by decide +kernel)
theorem b_in_X2 : Cond.initialized RX2 ∈ BG := tb1 (i := 3) (by decide +kernel) (by decide +kernel)
theorem b_in_X5 : Cond.initialized RX5 ∈ BG := tb1 (i := 4) (by decide +kernel) (by decide +kernel)
theorem b_in_X1 : Cond.initialized RX1 ∈ BG := tb1 (i := 5) (by decide +kernel) (by decide +kernel)
theorem b_in_J0 : Cond.initialized RJ0 ∈ BG := tb1 (i := 6) (by decide +kernel) (by decide +kernel)
theorem b_in_J1 : Cond.initialized RJ1 ∈ BG := tb1 (i := 7) (by decide +kernel) (by decide +kernel)
theorem b_in_J3 : Cond.initialized RJ3 ∈ BG := tb1 (i := 8) (by decide +kernel) (by decide +kernel)
theorem b_in_J2 : Cond.initialized RJ2 ∈ BG := tb1 (i := 9) (by decide +kernel) (by decide +kernel)
theorem b_in_J10 : Cond.initialized RJ10 ∈ BG := tb1 (i := 10) (by decide +kernel) (by decide +kernel)
theorem b_in_X0 : Cond.initialized RX0 ∈ BG := tb1 (i := 11) (by decide +kernel) (by decide +kernel)
theorem b_in_J6 : Cond.initialized RJ6 ∈ BG := tb1 (i := 12) (by decide +kernel) (by decide +kernel)
theorem b_in_J9 : Cond.initialized RJ9 ∈ BG := tb1 (i := 13) (by decide +kernel) (by decide +kernel)
theorem b_cl_L_7 : Cond.classLink RL 7 RX4 ∈ BG := tb1 (i := 14) (by decide +kernel) (by decide +kernel)
theorem b_is_X4 : Cond.instantiable RX4 12 ∈ BG := tb1 (i := 15) (by decide +kernel) (by decide +kernel)
theorem b_ml_L_9 : Cond.methodLink RL 9 yX4_init ∈ BG := tb1 (i := 16) (by decide +kernel) (by decide +kernel)
theorem b_inm_yX4_init : Cond.instanceMethod yX4_init ∈ BG := tb1 (i := 17) (by decide +kernel) (by decide +kernel)
theorem b_co_yX4_init : Cond.code yX4_init cX4_init 1 none ∈ BG := tb1 (i := 18) (by decide +kernel) (by decide +kernel)
theorem b_ml_X4_1 : Cond.methodLink RX4 1 objectInit ∈ BG := tb1 (i := 19) (by decide +kernel) (by decide +kernel)
theorem b_inm_objectInit : Cond.instanceMethod objectInit ∈ BG := tb1 (i := 20) (by decide +kernel) (by decide +kernel)
theorem b_co_objectInit : Cond.code objectInit ⟨#[0xb1]⟩ 1 none ∈ BG := tb1 (i := 21) (by decide +kernel) (by decide +kernel)
theorem b_cl_X4_7 : Cond.classLink RX4 7 RX3 ∈ BG := tb1 (i := 22) (by decide +kernel) (by decide +kernel)
theorem b_is_X3 : Cond.instantiable RX3 15 ∈ BG := tb1 (i := 23) (by decide +kernel) (by decide +kernel)
theorem b_ml_X4_9 : Cond.methodLink RX4 9 yX3_init ∈ BG := tb1 (i := 24) (by decide +kernel) (by decide +kernel)
theorem b_inm_yX3_init : Cond.instanceMethod yX3_init ∈ BG := tb1 (i := 25) (by decide +kernel) (by decide +kernel)
theorem b_co_yX3_init : Cond.code yX3_init cX3_init 1 none ∈ BG := tb1 (i := 26) (by decide +kernel) (by decide +kernel)
theorem b_ml_X3_3 : Cond.methodLink RX3 3 objectInit ∈ BG := tb1 (i := 27) (by decide +kernel) (by decide +kernel)
theorem b_fl_X3_39 : Cond.fieldLink RX3 39 "DogsPostman$Village" "men" "I" ∈ BG := tb1 (i := 28) (by decide +kernel) (by decide +kernel)
theorem b_fl_X4_61 : Cond.fieldLink RX4 61 "DogsPostman$Village" "men" "I" ∈ BG := tb1 (i := 29) (by decide +kernel) (by decide +kernel)
theorem b_fl_X1_59 : Cond.fieldLink RX1 59 "DogsPostman$Village" "men" "I" ∈ BG := tb1 (i := 30) (by decide +kernel) (by decide +kernel)
theorem b_fl_X4_47 : Cond.fieldLink RX4 47 "DogsPostman$Village" "dogs" "I" ∈ BG := tb1 (i := 31) (by decide +kernel) (by decide +kernel)
theorem b_fl_X3_43 : Cond.fieldLink RX3 43 "DogsPostman$Village" "dogs" "I" ∈ BG := tb1 (i := 32) (by decide +kernel) (by decide +kernel)
theorem b_fl_X1_73 : Cond.fieldLink RX1 73 "DogsPostman$Village" "dogs" "I" ∈ BG := tb1 (i := 33) (by decide +kernel) (by decide +kernel)
theorem b_fl_X3_46 : Cond.fieldLink RX3 46 "DogsPostman$Village" "asleep" "I" ∈ BG := tb1 (i := 34) (by decide +kernel) (by decide +kernel)
theorem b_fl_X4_121 : Cond.fieldLink RX4 121 "DogsPostman$Village" "asleep" "I" ∈ BG := tb1 (i := 35) (by decide +kernel) (by decide +kernel)
theorem b_fl_X3_49 : Cond.fieldLink RX3 49 "DogsPostman$Village" "round" "I" ∈ BG := tb1 (i := 36) (by decide +kernel) (by decide +kernel)
theorem b_fl_X4_115 : Cond.fieldLink RX4 115 "DogsPostman$Village" "round" "I" ∈ BG := tb1 (i := 37) (by decide +kernel) (by decide +kernel)
theorem b_fl_X3_52 : Cond.fieldLink RX3 52 "DogsPostman$Village" "notes" "I" ∈ BG := tb1 (i := 38) (by decide +kernel) (by decide +kernel)
theorem b_fl_X4_190 : Cond.fieldLink RX4 190 "DogsPostman$Village" "notes" "I" ∈ BG := tb1 (i := 39) (by decide +kernel) (by decide +kernel)
theorem b_fl_X3_55 : Cond.fieldLink RX3 55 "DogsPostman$Village" "pasts" "I" ∈ BG := tb1 (i := 40) (by decide +kernel) (by decide +kernel)
theorem b_fl_X4_132 : Cond.fieldLink RX4 132 "DogsPostman$Village" "pasts" "I" ∈ BG := tb1 (i := 41) (by decide +kernel) (by decide +kernel)
theorem b_fl_X3_9 : Cond.fieldLink RX3 9 "DogsPostman$Village" "boots" "[I" ∈ BG := tb1 (i := 42) (by decide +kernel) (by decide +kernel)
theorem b_fl_X4_138 : Cond.fieldLink RX4 138 "DogsPostman$Village" "boots" "[I" ∈ BG := tb1 (i := 43) (by decide +kernel) (by decide +kernel)
theorem b_fl_X3_15 : Cond.fieldLink RX3 15 "DogsPostman$Village" "ham" "[I" ∈ BG := tb1 (i := 44) (by decide +kernel) (by decide +kernel)
theorem b_fl_X4_112 : Cond.fieldLink RX4 112 "DogsPostman$Village" "ham" "[I" ∈ BG := tb1 (i := 45) (by decide +kernel) (by decide +kernel)
theorem b_fl_X3_18 : Cond.fieldLink RX3 18 "DogsPostman$Village" "holes" "[I" ∈ BG := tb1 (i := 46) (by decide +kernel) (by decide +kernel)
theorem b_fl_X4_118 : Cond.fieldLink RX4 118 "DogsPostman$Village" "holes" "[I" ∈ BG := tb1 (i := 47) (by decide +kernel) (by decide +kernel)
theorem b_fl_X3_21 : Cond.fieldLink RX3 21 "DogsPostman$Village" "kind" "[I" ∈ BG := tb1 (i := 48) (by decide +kernel) (by decide +kernel)
theorem b_fl_X4_141 : Cond.fieldLink RX4 141 "DogsPostman$Village" "kind" "[I" ∈ BG := tb1 (i := 49) (by decide +kernel) (by decide +kernel)
theorem b_fl_X3_24 : Cond.fieldLink RX3 24 "DogsPostman$Village" "weight" "[I" ∈ BG := tb1 (i := 50) (by decide +kernel) (by decide +kernel)
theorem b_fl_X4_144 : Cond.fieldLink RX4 144 "DogsPostman$Village" "weight" "[I" ∈ BG := tb1 (i := 51) (by decide +kernel) (by decide +kernel)
theorem b_fl_X3_27 : Cond.fieldLink RX3 27 "DogsPostman$Village" "hunger" "[I" ∈ BG := tb1 (i := 52) (by decide +kernel) (by decide +kernel)
theorem b_fl_X4_147 : Cond.fieldLink RX4 147 "DogsPostman$Village" "hunger" "[I" ∈ BG := tb1 (i := 53) (by decide +kernel) (by decide +kernel)
theorem b_fl_X3_30 : Cond.fieldLink RX3 30 "DogsPostman$Village" "favourite" "[I" ∈ BG := tb1 (i := 54) (by decide +kernel) (by decide +kernel)
theorem b_fl_X4_150 : Cond.fieldLink RX4 150 "DogsPostman$Village" "favourite" "[I" ∈ BG := tb1 (i := 55) (by decide +kernel) (by decide +kernel)
theorem b_fl_X3_33 : Cond.fieldLink RX3 33 "DogsPostman$Village" "noted" "[I" ∈ BG := tb1 (i := 56) (by decide +kernel) (by decide +kernel)
theorem b_fl_X3_36 : Cond.fieldLink RX3 36 "DogsPostman$Village" "past" "[I" ∈ BG := tb1 (i := 57) (by decide +kernel) (by decide +kernel)
theorem b_ac_int : Cond.arrayClass .int ∈ BG := tb1 (i := 89) (by decide +kernel) (by decide +kernel)
theorem b_cl_X4_23 : Cond.classLink RX4 23 RX2 ∈ BG := tb1 (i := 91) (by decide +kernel) (by decide +kernel)
theorem b_is_X2 : Cond.instantiable RX2 2 ∈ BG := tb1 (i := 92) (by decide +kernel) (by decide +kernel)
theorem b_ml_X4_25 : Cond.methodLink RX4 25 yX2_init ∈ BG := tb1 (i := 93) (by decide +kernel) (by decide +kernel)
theorem b_inm_yX2_init : Cond.instanceMethod yX2_init ∈ BG := tb1 (i := 94) (by decide +kernel) (by decide +kernel)
theorem b_co_yX2_init : Cond.code yX2_init cX2_init 1 none ∈ BG := tb1 (i := 95) (by decide +kernel) (by decide +kernel)
theorem b_ml_X2_3 : Cond.methodLink RX2 3 objectInit ∈ BG := tb1 (i := 96) (by decide +kernel) (by decide +kernel)
theorem b_fl_X2_9 : Cond.fieldLink RX2 9 "DogsPostman$Text" "bytes" "[B" ∈ BG := tb1 (i := 97) (by decide +kernel) (by decide +kernel)
theorem b_fl_X2_15 : Cond.fieldLink RX2 15 "DogsPostman$Text" "length" "I" ∈ BG := tb1 (i := 98) (by decide +kernel) (by decide +kernel)
theorem b_fl_X4_72 : Cond.fieldLink RX4 72 "DogsPostman$Text" "length" "I" ∈ BG := tb1 (i := 99) (by decide +kernel) (by decide +kernel)
theorem b_fl_X1_108 : Cond.fieldLink RX1 108 "DogsPostman$Text" "length" "I" ∈ BG := tb1 (i := 100) (by decide +kernel) (by decide +kernel)
theorem b_ac_byte : Cond.arrayClass .byte ∈ BG := tb1 (i := 106) (by decide +kernel) (by decide +kernel)
theorem b_fl_X4_10 : Cond.fieldLink RX4 10 "DogsPostman" "now" "LDogsPostman$Village;" ∈ BG := tb1 (i := 107) (by decide +kernel) (by decide +kernel)
theorem b_fl_X4_16 : Cond.fieldLink RX4 16 "DogsPostman" "spare" "LDogsPostman$Village;" ∈ BG := tb1 (i := 108) (by decide +kernel) (by decide +kernel)
theorem b_fl_X4_19 : Cond.fieldLink RX4 19 "DogsPostman" "images" "[LDogsPostman$Village;" ∈ BG := tb1 (i := 109) (by decide +kernel) (by decide +kernel)
theorem b_fl_X4_26 : Cond.fieldLink RX4 26 "DogsPostman" "text" "LDogsPostman$Text;" ∈ BG := tb1 (i := 110) (by decide +kernel) (by decide +kernel)
theorem b_fl_X4_30 : Cond.fieldLink RX4 30 "DogsPostman" "above" "I" ∈ BG := tb1 (i := 111) (by decide +kernel) (by decide +kernel)
theorem b_fl_X4_34 : Cond.fieldLink RX4 34 "DogsPostman" "below" "I" ∈ BG := tb1 (i := 112) (by decide +kernel) (by decide +kernel)
theorem b_fl_X4_233 : Cond.fieldLink RX4 233 "DogsPostman" "badCalls" "I" ∈ BG := tb1 (i := 113) (by decide +kernel) (by decide +kernel)
theorem b_fl_X4_236 : Cond.fieldLink RX4 236 "DogsPostman" "noCalls" "I" ∈ BG := tb1 (i := 114) (by decide +kernel) (by decide +kernel)
theorem b_fl_X4_239 : Cond.fieldLink RX4 239 "DogsPostman" "fullCalls" "I" ∈ BG := tb1 (i := 115) (by decide +kernel) (by decide +kernel)
theorem b_fl_X4_37 : Cond.fieldLink RX4 37 "DogsPostman" "row" "[I" ∈ BG := tb1 (i := 116) (by decide +kernel) (by decide +kernel)
theorem b_fl_X4_41 : Cond.fieldLink RX4 41 "DogsPostman" "gainA" "[I" ∈ BG := tb1 (i := 117) (by decide +kernel) (by decide +kernel)
theorem b_fl_X4_44 : Cond.fieldLink RX4 44 "DogsPostman" "gainB" "[I" ∈ BG := tb1 (i := 118) (by decide +kernel) (by decide +kernel)
theorem b_ml_L_13 : Cond.methodLink RL 13 yX4_village ∈ BG := tb1 (i := 144) (by decide +kernel) (by decide +kernel)
theorem b_inm_yX4_village : Cond.instanceMethod yX4_village ∈ BG := tb1 (i := 145) (by decide +kernel) (by decide +kernel)
theorem b_se_yX4_village : Cond.selects RX4 yX4_village yX4_village ∈ BG := tb1 (i := 146) (by decide +kernel) (by decide +kernel)
theorem b_co_yX4_village : Cond.code yX4_village cX4_village 2 (some .int) ∈ BG := tb1 (i := 147) (by decide +kernel) (by decide +kernel)
theorem b_ml_X4_50 : Cond.methodLink RX4 50 yX3_empty ∈ BG := tb1 (i := 148) (by decide +kernel) (by decide +kernel)
theorem b_inm_yX3_empty : Cond.instanceMethod yX3_empty ∈ BG := tb1 (i := 149) (by decide +kernel) (by decide +kernel)
theorem b_se_yX3_empty : Cond.selects RX3 yX3_empty yX3_empty ∈ BG := tb1 (i := 150) (by decide +kernel) (by decide +kernel)
theorem b_co_yX3_empty : Cond.code yX3_empty cX3_empty 1 none ∈ BG := tb1 (i := 151) (by decide +kernel) (by decide +kernel)
theorem b_ml_L_18 : Cond.methodLink RL 18 yX4_man ∈ BG := tb1 (i := 152) (by decide +kernel) (by decide +kernel)
theorem b_inm_yX4_man : Cond.instanceMethod yX4_man ∈ BG := tb1 (i := 153) (by decide +kernel) (by decide +kernel)
theorem b_se_yX4_man : Cond.selects RX4 yX4_man yX4_man ∈ BG := tb1 (i := 154) (by decide +kernel) (by decide +kernel)
theorem b_co_yX4_man : Cond.code yX4_man cX4_man 3 (some .int) ∈ BG := tb1 (i := 155) (by decide +kernel) (by decide +kernel)
theorem b_ml_X4_53 : Cond.methodLink RX4 53 yX4_within ∈ BG := tb1 (i := 156) (by decide +kernel) (by decide +kernel)
theorem b_stm_yX4_within : Cond.static yX4_within ∈ BG := tb1 (i := 157) (by decide +kernel) (by decide +kernel)
theorem b_co_yX4_within : Cond.code yX4_within cX4_within 3 (some .boolean) ∈ BG := tb1 (i := 158) (by decide +kernel) (by decide +kernel)
theorem b_ml_X4_57 : Cond.methodLink RX4 57 yX4_refuse ∈ BG := tb1 (i := 159) (by decide +kernel) (by decide +kernel)
theorem b_inm_yX4_refuse : Cond.instanceMethod yX4_refuse ∈ BG := tb1 (i := 161) (by decide +kernel) (by decide +kernel)
theorem b_co_yX4_refuse : Cond.code yX4_refuse cX4_refuse 2 (some .int) ∈ BG := tb1 (i := 162) (by decide +kernel) (by decide +kernel)
theorem b_ml_X4_64 : Cond.methodLink RX4 64 yX3_addMan ∈ BG := tb1 (i := 163) (by decide +kernel) (by decide +kernel)
theorem b_inm_yX3_addMan : Cond.instanceMethod yX3_addMan ∈ BG := tb1 (i := 164) (by decide +kernel) (by decide +kernel)
theorem b_se_yX3_addMan : Cond.selects RX3 yX3_addMan yX3_addMan ∈ BG := tb1 (i := 165) (by decide +kernel) (by decide +kernel)
theorem b_co_yX3_addMan : Cond.code yX3_addMan cX3_addMan 3 (some .int) ∈ BG := tb1 (i := 166) (by decide +kernel) (by decide +kernel)
theorem b_ml_L_23 : Cond.methodLink RL 23 yX4_dog ∈ BG := tb1 (i := 167) (by decide +kernel) (by decide +kernel)
theorem b_inm_yX4_dog : Cond.instanceMethod yX4_dog ∈ BG := tb1 (i := 168) (by decide +kernel) (by decide +kernel)
theorem b_se_yX4_dog : Cond.selects RX4 yX4_dog yX4_dog ∈ BG := tb1 (i := 169) (by decide +kernel) (by decide +kernel)
theorem b_co_yX4_dog : Cond.code yX4_dog cX4_dog 5 (some .int) ∈ BG := tb1 (i := 170) (by decide +kernel) (by decide +kernel)
theorem b_ml_X4_68 : Cond.methodLink RX4 68 yX3_addDog ∈ BG := tb1 (i := 171) (by decide +kernel) (by decide +kernel)
theorem b_inm_yX3_addDog : Cond.instanceMethod yX3_addDog ∈ BG := tb1 (i := 172) (by decide +kernel) (by decide +kernel)
theorem b_se_yX3_addDog : Cond.selects RX3 yX3_addDog yX3_addDog ∈ BG := tb1 (i := 173) (by decide +kernel) (by decide +kernel)
theorem b_co_yX3_addDog : Cond.code yX3_addDog cX3_addDog 5 (some .int) ∈ BG := tb1 (i := 174) (by decide +kernel) (by decide +kernel)
theorem b_ml_L_28 : Cond.methodLink RL 28 yX4_type ∈ BG := tb1 (i := 175) (by decide +kernel) (by decide +kernel)
theorem b_inm_yX4_type : Cond.instanceMethod yX4_type ∈ BG := tb1 (i := 176) (by decide +kernel) (by decide +kernel)
theorem b_se_yX4_type : Cond.selects RX4 yX4_type yX4_type ∈ BG := tb1 (i := 177) (by decide +kernel) (by decide +kernel)
theorem b_co_yX4_type : Cond.code yX4_type cX4_type 2 (some .int) ∈ BG := tb1 (i := 178) (by decide +kernel) (by decide +kernel)
theorem b_ml_X4_75 : Cond.methodLink RX4 75 yX2_add ∈ BG := tb1 (i := 179) (by decide +kernel) (by decide +kernel)
theorem b_inm_yX2_add : Cond.instanceMethod yX2_add ∈ BG := tb1 (i := 180) (by decide +kernel) (by decide +kernel)
theorem b_se_yX2_add : Cond.selects RX2 yX2_add yX2_add ∈ BG := tb1 (i := 181) (by decide +kernel) (by decide +kernel)
theorem b_co_yX2_add : Cond.code yX2_add cX2_add 2 (some .int) ∈ BG := tb1 (i := 182) (by decide +kernel) (by decide +kernel)
theorem b_ml_L_33 : Cond.methodLink RL 33 yX4_clear ∈ BG := tb1 (i := 183) (by decide +kernel) (by decide +kernel)
theorem b_inm_yX4_clear : Cond.instanceMethod yX4_clear ∈ BG := tb1 (i := 184) (by decide +kernel) (by decide +kernel)
theorem b_se_yX4_clear : Cond.selects RX4 yX4_clear yX4_clear ∈ BG := tb1 (i := 185) (by decide +kernel) (by decide +kernel)
theorem b_co_yX4_clear : Cond.code yX4_clear cX4_clear 2 (some .int) ∈ BG := tb1 (i := 186) (by decide +kernel) (by decide +kernel)
theorem b_ml_L_37 : Cond.methodLink RL 37 yX4_read ∈ BG := tb1 (i := 187) (by decide +kernel) (by decide +kernel)
theorem b_inm_yX4_read : Cond.instanceMethod yX4_read ∈ BG := tb1 (i := 188) (by decide +kernel) (by decide +kernel)
theorem b_se_yX4_read : Cond.selects RX4 yX4_read yX4_read ∈ BG := tb1 (i := 189) (by decide +kernel) (by decide +kernel)
theorem b_co_yX4_read : Cond.code yX4_read cX4_read 3 (some .int) ∈ BG := tb1 (i := 190) (by decide +kernel) (by decide +kernel)
theorem b_cl_X4_78 : Cond.classLink RX4 78 RX1 ∈ BG := tb1 (i := 191) (by decide +kernel) (by decide +kernel)
theorem b_is_X1 : Cond.instantiable RX1 6 ∈ BG := tb1 (i := 192) (by decide +kernel) (by decide +kernel)
theorem b_ml_X4_80 : Cond.methodLink RX4 80 yX1_init ∈ BG := tb1 (i := 193) (by decide +kernel) (by decide +kernel)
theorem b_inm_yX1_init : Cond.instanceMethod yX1_init ∈ BG := tb1 (i := 194) (by decide +kernel) (by decide +kernel)
theorem b_co_yX1_init : Cond.code yX1_init cX1_init 3 none ∈ BG := tb1 (i := 195) (by decide +kernel) (by decide +kernel)
theorem b_ml_X1_3 : Cond.methodLink RX1 3 objectInit ∈ BG := tb1 (i := 196) (by decide +kernel) (by decide +kernel)
theorem b_fl_X1_9 : Cond.fieldLink RX1 9 "DogsPostman$Reader" "text" "LDogsPostman$Text;" ∈ BG := tb1 (i := 197) (by decide +kernel) (by decide +kernel)
theorem b_fl_X1_15 : Cond.fieldLink RX1 15 "DogsPostman$Reader" "into" "LDogsPostman$Village;" ∈ BG := tb1 (i := 198) (by decide +kernel) (by decide +kernel)
theorem b_fl_X1_37 : Cond.fieldLink RX1 37 "DogsPostman$Reader" "sort" "I" ∈ BG := tb1 (i := 199) (by decide +kernel) (by decide +kernel)
theorem b_fl_X4_87 : Cond.fieldLink RX4 87 "DogsPostman$Reader" "at" "I" ∈ BG := tb1 (i := 200) (by decide +kernel) (by decide +kernel)
theorem b_fl_X1_90 : Cond.fieldLink RX1 90 "DogsPostman$Reader" "at" "I" ∈ BG := tb1 (i := 201) (by decide +kernel) (by decide +kernel)
theorem b_fl_X1_87 : Cond.fieldLink RX1 87 "DogsPostman$Reader" "behind" "I" ∈ BG := tb1 (i := 202) (by decide +kernel) (by decide +kernel)
theorem b_fl_X1_66 : Cond.fieldLink RX1 66 "DogsPostman$Reader" "value" "I" ∈ BG := tb1 (i := 203) (by decide +kernel) (by decide +kernel)
theorem b_ml_X4_83 : Cond.methodLink RX4 83 yX1_readVillage ∈ BG := tb1 (i := 217) (by decide +kernel) (by decide +kernel)
theorem b_inm_yX1_readVillage : Cond.instanceMethod yX1_readVillage ∈ BG := tb1 (i := 218) (by decide +kernel) (by decide +kernel)
theorem b_se_yX1_readVillage : Cond.selects RX1 yX1_readVillage yX1_readVillage ∈ BG := tb1 (i := 219) (by decide +kernel) (by decide +kernel)
theorem b_co_yX1_readVillage : Cond.code yX1_readVillage cX1_readVillage 3 (some .int) ∈ BG := tb1 (i := 220) (by decide +kernel) (by decide +kernel)
theorem b_ml_X1_19 : Cond.methodLink RX1 19 yX3_empty ∈ BG := tb1 (i := 221) (by decide +kernel) (by decide +kernel)
theorem b_ml_X1_24 : Cond.methodLink RX1 24 yX1_next ∈ BG := tb1 (i := 222) (by decide +kernel) (by decide +kernel)
theorem b_inm_yX1_next : Cond.instanceMethod yX1_next ∈ BG := tb1 (i := 223) (by decide +kernel) (by decide +kernel)
theorem b_se_yX1_next : Cond.selects RX1 yX1_next yX1_next ∈ BG := tb1 (i := 224) (by decide +kernel) (by decide +kernel)
theorem b_co_yX1_next : Cond.code yX1_next cX1_next 2 none ∈ BG := tb1 (i := 225) (by decide +kernel) (by decide +kernel)
theorem b_ml_X1_99 : Cond.methodLink RX1 99 yX2_at ∈ BG := tb1 (i := 226) (by decide +kernel) (by decide +kernel)
theorem b_inm_yX2_at : Cond.instanceMethod yX2_at ∈ BG := tb1 (i := 227) (by decide +kernel) (by decide +kernel)
theorem b_se_yX2_at : Cond.selects RX2 yX2_at yX2_at ∈ BG := tb1 (i := 228) (by decide +kernel) (by decide +kernel)
theorem b_co_yX2_at : Cond.code yX2_at cX2_at 2 (some .int) ∈ BG := tb1 (i := 229) (by decide +kernel) (by decide +kernel)
theorem b_ml_X1_110 : Cond.methodLink RX1 110 yX1_isLetter ∈ BG := tb1 (i := 230) (by decide +kernel) (by decide +kernel)
theorem b_stm_yX1_isLetter : Cond.static yX1_isLetter ∈ BG := tb1 (i := 231) (by decide +kernel) (by decide +kernel)
theorem b_co_yX1_isLetter : Cond.code yX1_isLetter cX1_isLetter 1 (some .boolean) ∈ BG := tb1 (i := 232) (by decide +kernel) (by decide +kernel)
theorem b_ml_X1_114 : Cond.methodLink RX1 114 yX1_isFigure ∈ BG := tb1 (i := 233) (by decide +kernel) (by decide +kernel)
theorem b_stm_yX1_isFigure : Cond.static yX1_isFigure ∈ BG := tb1 (i := 234) (by decide +kernel) (by decide +kernel)
theorem b_co_yX1_isFigure : Cond.code yX1_isFigure cX1_isFigure 1 (some .boolean) ∈ BG := tb1 (i := 235) (by decide +kernel) (by decide +kernel)
theorem b_ml_X1_117 : Cond.methodLink RX1 117 yX1_takeNumber ∈ BG := tb1 (i := 236) (by decide +kernel) (by decide +kernel)
theorem b_inm_yX1_takeNumber : Cond.instanceMethod yX1_takeNumber ∈ BG := tb1 (i := 237) (by decide +kernel) (by decide +kernel)
theorem b_se_yX1_takeNumber : Cond.selects RX1 yX1_takeNumber yX1_takeNumber ∈ BG := tb1 (i := 238) (by decide +kernel) (by decide +kernel)
theorem b_co_yX1_takeNumber : Cond.code yX1_takeNumber cX1_takeNumber 2 none ∈ BG := tb1 (i := 239) (by decide +kernel) (by decide +kernel)
theorem b_ml_X1_29 : Cond.methodLink RX1 29 yX1_wordHere ∈ BG := tb2 (i := 1) (by decide +kernel) (by decide +kernel)
theorem b_inm_yX1_wordHere : Cond.instanceMethod yX1_wordHere ∈ BG := tb2 (i := 2) (by decide +kernel) (by decide +kernel)
theorem b_se_yX1_wordHere : Cond.selects RX1 yX1_wordHere yX1_wordHere ∈ BG := tb2 (i := 3) (by decide +kernel) (by decide +kernel)
theorem b_co_yX1_wordHere : Cond.code yX1_wordHere cX1_wordHere 3 (some .boolean) ∈ BG := tb2 (i := 4) (by decide +kernel) (by decide +kernel)
theorem b_ml_X1_93 : Cond.methodLink RX1 93 yJ0_length_8abf5 ∈ BG := tb2 (i := 5) (by decide +kernel) (by decide +kernel)
theorem b_inm_yJ0_length_8abf5 : Cond.instanceMethod yJ0_length_8abf5 ∈ BG := tb2 (i := 6) (by decide +kernel) (by decide +kernel)
theorem b_se_yJ0_length_8abf5 : Cond.selects RJ0 yJ0_length_8abf5 yJ0_length_8abf5 ∈ BG := tb2 (i := 7) (by decide +kernel) (by decide +kernel)
theorem b_co_yJ0_length_8abf5 : Cond.code yJ0_length_8abf5 cJ0_length_8abf5 1 (some .int) ∈ BG := tb2 (i := 8) (by decide +kernel) (by decide +kernel)
theorem b_ml_J0_335 : Cond.methodLink RJ0 335 yJ0_coder_7d493 ∈ BG := tb2 (i := 9) (by decide +kernel) (by decide +kernel)
theorem b_inm_yJ0_coder_7d493 : Cond.instanceMethod yJ0_coder_7d493 ∈ BG := tb2 (i := 10) (by decide +kernel) (by decide +kernel)
theorem b_se_yJ0_coder_7d493 : Cond.selects RJ0 yJ0_coder_7d493 yJ0_coder_7d493 ∈ BG := tb2 (i := 11) (by decide +kernel) (by decide +kernel)
theorem b_co_yJ0_coder_7d493 : Cond.code yJ0_coder_7d493 cJ0_coder_7d493 1 (some .byte) ∈ BG := tb2 (i := 12) (by decide +kernel) (by decide +kernel)
theorem b_fl_J0_38 : Cond.fieldLink RJ0 38 "java/lang/String" "COMPACT_STRINGS" "Z" ∈ BG := tb2 (i := 13) (by decide +kernel) (by decide +kernel)
theorem b_ml_X1_104 : Cond.methodLink RX1 104 yJ0_charAt_5068e ∈ BG := tb2 (i := 15) (by decide +kernel) (by decide +kernel)
theorem b_inm_yJ0_charAt_5068e : Cond.instanceMethod yJ0_charAt_5068e ∈ BG := tb2 (i := 16) (by decide +kernel) (by decide +kernel)
theorem b_se_yJ0_charAt_5068e : Cond.selects RJ0 yJ0_charAt_5068e yJ0_charAt_5068e ∈ BG := tb2 (i := 17) (by decide +kernel) (by decide +kernel)
theorem b_co_yJ0_charAt_5068e : Cond.code yJ0_charAt_5068e cJ0_charAt_5068e 2 (some .char) ∈ BG := tb2 (i := 18) (by decide +kernel) (by decide +kernel)
theorem b_ml_J0_492 : Cond.methodLink RJ0 492 yJ0_isLatin1_aae02 ∈ BG := tb2 (i := 19) (by decide +kernel) (by decide +kernel)
theorem b_inm_yJ0_isLatin1_aae02 : Cond.instanceMethod yJ0_isLatin1_aae02 ∈ BG := tb2 (i := 20) (by decide +kernel) (by decide +kernel)
theorem b_se_yJ0_isLatin1_aae02 : Cond.selects RJ0 yJ0_isLatin1_aae02 yJ0_isLatin1_aae02 ∈ BG := tb2 (i := 21) (by decide +kernel) (by decide +kernel)
theorem b_co_yJ0_isLatin1_aae02 : Cond.code yJ0_isLatin1_aae02 cJ0_isLatin1_aae02 1 (some .boolean) ∈ BG := tb2 (i := 22) (by decide +kernel) (by decide +kernel)
theorem b_ml_J0_495 : Cond.methodLink RJ0 495 yJ1_charAt_3b067 ∈ BG := tb2 (i := 23) (by decide +kernel) (by decide +kernel)
theorem b_stm_yJ1_charAt_3b067 : Cond.static yJ1_charAt_3b067 ∈ BG := tb2 (i := 24) (by decide +kernel) (by decide +kernel)
theorem b_co_yJ1_charAt_3b067 : Cond.code yJ1_charAt_3b067 cJ1_charAt_3b067 2 (some .char) ∈ BG := tb2 (i := 25) (by decide +kernel) (by decide +kernel)
theorem b_ml_J1_9 : Cond.methodLink RJ1 9 yJ0_checkIndex_df160 ∈ BG := tb2 (i := 26) (by decide +kernel) (by decide +kernel)
theorem b_stm_yJ0_checkIndex_df160 : Cond.static yJ0_checkIndex_df160 ∈ BG := tb2 (i := 27) (by decide +kernel) (by decide +kernel)
theorem b_co_yJ0_checkIndex_df160 : Cond.code yJ0_checkIndex_df160 cJ0_checkIndex_df160 2 none ∈ BG := tb2 (i := 28) (by decide +kernel) (by decide +kernel)
theorem b_fl_J0_1053 : Cond.fieldLink RJ0 1053 "jdk/internal/util/Preconditions" "SIOOBE_FORMATTER" "Ljava/util/function/BiFunction;" ∈ BG := tb2 (i := 29) (by decide +kernel) (by decide +kernel)
theorem b_ml_J0_1059 : Cond.methodLink RJ0 1059 yJ3_checkIndex_8e157 ∈ BG := tb2 (i := 31) (by decide +kernel) (by decide +kernel)
theorem b_stm_yJ3_checkIndex_8e157 : Cond.static yJ3_checkIndex_8e157 ∈ BG := tb2 (i := 32) (by decide +kernel) (by decide +kernel)
theorem b_co_yJ3_checkIndex_8e157 : Cond.code yJ3_checkIndex_8e157 cJ3_checkIndex_8e157 3 (some .int) ∈ BG := tb2 (i := 33) (by decide +kernel) (by decide +kernel)
theorem b_ml_J0_498 : Cond.methodLink RJ0 498 yJ2_charAt_3b067 ∈ BG := tb2 (i := 34) (by decide +kernel) (by decide +kernel)
theorem b_stm_yJ2_charAt_3b067 : Cond.static yJ2_charAt_3b067 ∈ BG := tb2 (i := 35) (by decide +kernel) (by decide +kernel)
theorem b_co_yJ2_charAt_3b067 : Cond.code yJ2_charAt_3b067 cJ2_charAt_3b067 2 (some .char) ∈ BG := tb2 (i := 36) (by decide +kernel) (by decide +kernel)
theorem b_ml_J2_67 : Cond.methodLink RJ2 67 yJ2_checkIndex_2214a ∈ BG := tb2 (i := 37) (by decide +kernel) (by decide +kernel)
theorem b_stm_yJ2_checkIndex_2214a : Cond.static yJ2_checkIndex_2214a ∈ BG := tb2 (i := 38) (by decide +kernel) (by decide +kernel)
theorem b_co_yJ2_checkIndex_2214a : Cond.code yJ2_checkIndex_2214a cJ2_checkIndex_2214a 2 none ∈ BG := tb2 (i := 39) (by decide +kernel) (by decide +kernel)
theorem b_ml_J2_48 : Cond.methodLink RJ2 48 yJ2_length_9d52b ∈ BG := tb2 (i := 40) (by decide +kernel) (by decide +kernel)
theorem b_stm_yJ2_length_9d52b : Cond.static yJ2_length_9d52b ∈ BG := tb2 (i := 41) (by decide +kernel) (by decide +kernel)
theorem b_co_yJ2_length_9d52b : Cond.code yJ2_length_9d52b cJ2_length_9d52b 1 (some .int) ∈ BG := tb2 (i := 42) (by decide +kernel) (by decide +kernel)
theorem b_ml_J2_414 : Cond.methodLink RJ2 414 yJ0_checkIndex_df160 ∈ BG := tb2 (i := 43) (by decide +kernel) (by decide +kernel)
theorem b_ml_J2_71 : Cond.methodLink RJ2 71 yJ2_getChar_3b067 ∈ BG := tb2 (i := 44) (by decide +kernel) (by decide +kernel)
theorem b_stm_yJ2_getChar_3b067 : Cond.static yJ2_getChar_3b067 ∈ BG := tb2 (i := 45) (by decide +kernel) (by decide +kernel)
theorem b_co_yJ2_getChar_3b067 : Cond.code yJ2_getChar_3b067 cJ2_getChar_3b067 2 (some .char) ∈ BG := tb2 (i := 46) (by decide +kernel) (by decide +kernel)
theorem b_fl_J2_44 : Cond.fieldLink RJ2 44 "java/lang/StringUTF16" "$assertionsDisabled" "Z" ∈ BG := tb2 (i := 47) (by decide +kernel) (by decide +kernel)
theorem b_fl_J2_59 : Cond.fieldLink RJ2 59 "java/lang/StringUTF16" "HI_BYTE_SHIFT" "I" ∈ BG := tb2 (i := 49) (by decide +kernel) (by decide +kernel)
theorem b_fl_J2_63 : Cond.fieldLink RJ2 63 "java/lang/StringUTF16" "LO_BYTE_SHIFT" "I" ∈ BG := tb2 (i := 51) (by decide +kernel) (by decide +kernel)
theorem b_ml_X1_33 : Cond.methodLink RX1 33 yX1_semicolonNext ∈ BG := tb2 (i := 53) (by decide +kernel) (by decide +kernel)
theorem b_inm_yX1_semicolonNext : Cond.instanceMethod yX1_semicolonNext ∈ BG := tb2 (i := 54) (by decide +kernel) (by decide +kernel)
theorem b_se_yX1_semicolonNext : Cond.selects RX1 yX1_semicolonNext yX1_semicolonNext ∈ BG := tb2 (i := 55) (by decide +kernel) (by decide +kernel)
theorem b_co_yX1_semicolonNext : Cond.code yX1_semicolonNext cX1_semicolonNext 1 (some .boolean) ∈ BG := tb2 (i := 56) (by decide +kernel) (by decide +kernel)
theorem b_ml_X1_41 : Cond.methodLink RX1 41 yX1_readItem ∈ BG := tb2 (i := 57) (by decide +kernel) (by decide +kernel)
theorem b_inm_yX1_readItem : Cond.instanceMethod yX1_readItem ∈ BG := tb2 (i := 58) (by decide +kernel) (by decide +kernel)
theorem b_se_yX1_readItem : Cond.selects RX1 yX1_readItem yX1_readItem ∈ BG := tb2 (i := 59) (by decide +kernel) (by decide +kernel)
theorem b_co_yX1_readItem : Cond.code yX1_readItem cX1_readItem 1 (some .boolean) ∈ BG := tb2 (i := 60) (by decide +kernel) (by decide +kernel)
theorem b_ml_X1_46 : Cond.methodLink RX1 46 yX1_readMan ∈ BG := tb2 (i := 62) (by decide +kernel) (by decide +kernel)
theorem b_inm_yX1_readMan : Cond.instanceMethod yX1_readMan ∈ BG := tb2 (i := 63) (by decide +kernel) (by decide +kernel)
theorem b_se_yX1_readMan : Cond.selects RX1 yX1_readMan yX1_readMan ∈ BG := tb2 (i := 64) (by decide +kernel) (by decide +kernel)
theorem b_co_yX1_readMan : Cond.code yX1_readMan cX1_readMan 2 (some .boolean) ∈ BG := tb2 (i := 65) (by decide +kernel) (by decide +kernel)
theorem b_ml_X1_62 : Cond.methodLink RX1 62 yX1_numberNext ∈ BG := tb2 (i := 66) (by decide +kernel) (by decide +kernel)
theorem b_inm_yX1_numberNext : Cond.instanceMethod yX1_numberNext ∈ BG := tb2 (i := 67) (by decide +kernel) (by decide +kernel)
theorem b_se_yX1_numberNext : Cond.selects RX1 yX1_numberNext yX1_numberNext ∈ BG := tb2 (i := 68) (by decide +kernel) (by decide +kernel)
theorem b_co_yX1_numberNext : Cond.code yX1_numberNext cX1_numberNext 3 (some .boolean) ∈ BG := tb2 (i := 69) (by decide +kernel) (by decide +kernel)
theorem b_ml_X1_69 : Cond.methodLink RX1 69 yX3_addMan ∈ BG := tb2 (i := 70) (by decide +kernel) (by decide +kernel)
theorem b_ml_X1_51 : Cond.methodLink RX1 51 yX1_readDog ∈ BG := tb2 (i := 72) (by decide +kernel) (by decide +kernel)
theorem b_inm_yX1_readDog : Cond.instanceMethod yX1_readDog ∈ BG := tb2 (i := 73) (by decide +kernel) (by decide +kernel)
theorem b_se_yX1_readDog : Cond.selects RX1 yX1_readDog yX1_readDog ∈ BG := tb2 (i := 74) (by decide +kernel) (by decide +kernel)
theorem b_co_yX1_readDog : Cond.code yX1_readDog cX1_readDog 4 (some .boolean) ∈ BG := tb2 (i := 75) (by decide +kernel) (by decide +kernel)
theorem b_ml_X1_76 : Cond.methodLink RX1 76 yX3_addDog ∈ BG := tb2 (i := 76) (by decide +kernel) (by decide +kernel)
theorem b_ml_X1_56 : Cond.methodLink RX1 56 yX1_readBribe ∈ BG := tb2 (i := 78) (by decide +kernel) (by decide +kernel)
theorem b_inm_yX1_readBribe : Cond.instanceMethod yX1_readBribe ∈ BG := tb2 (i := 79) (by decide +kernel) (by decide +kernel)
theorem b_se_yX1_readBribe : Cond.selects RX1 yX1_readBribe yX1_readBribe ∈ BG := tb2 (i := 80) (by decide +kernel) (by decide +kernel)
theorem b_co_yX1_readBribe : Cond.code yX1_readBribe cX1_readBribe 2 (some .boolean) ∈ BG := tb2 (i := 81) (by decide +kernel) (by decide +kernel)
theorem b_ml_X1_80 : Cond.methodLink RX1 80 yX3_mayBribe ∈ BG := tb2 (i := 82) (by decide +kernel) (by decide +kernel)
theorem b_inm_yX3_mayBribe : Cond.instanceMethod yX3_mayBribe ∈ BG := tb2 (i := 83) (by decide +kernel) (by decide +kernel)
theorem b_se_yX3_mayBribe : Cond.selects RX3 yX3_mayBribe yX3_mayBribe ∈ BG := tb2 (i := 84) (by decide +kernel) (by decide +kernel)
theorem b_co_yX3_mayBribe : Cond.code yX3_mayBribe cX3_mayBribe 3 (some .boolean) ∈ BG := tb2 (i := 85) (by decide +kernel) (by decide +kernel)
theorem b_ml_X3_68 : Cond.methodLink RX3 68 yX3_isAsleep ∈ BG := tb2 (i := 86) (by decide +kernel) (by decide +kernel)
theorem b_inm_yX3_isAsleep : Cond.instanceMethod yX3_isAsleep ∈ BG := tb2 (i := 87) (by decide +kernel) (by decide +kernel)
theorem b_se_yX3_isAsleep : Cond.selects RX3 yX3_isAsleep yX3_isAsleep ∈ BG := tb2 (i := 88) (by decide +kernel) (by decide +kernel)
theorem b_co_yX3_isAsleep : Cond.code yX3_isAsleep cX3_isAsleep 2 (some .boolean) ∈ BG := tb2 (i := 89) (by decide +kernel) (by decide +kernel)
theorem b_ml_X3_64 : Cond.methodLink RX3 64 yX3_isIn ∈ BG := tb2 (i := 90) (by decide +kernel) (by decide +kernel)
theorem b_stm_yX3_isIn : Cond.static yX3_isIn ∈ BG := tb2 (i := 91) (by decide +kernel) (by decide +kernel)
theorem b_co_yX3_isIn : Cond.code yX3_isIn cX3_isIn 2 (some .boolean) ∈ BG := tb2 (i := 92) (by decide +kernel) (by decide +kernel)
theorem b_ml_X1_83 : Cond.methodLink RX1 83 yX3_putToSleep ∈ BG := tb2 (i := 93) (by decide +kernel) (by decide +kernel)
theorem b_inm_yX3_putToSleep : Cond.instanceMethod yX3_putToSleep ∈ BG := tb2 (i := 94) (by decide +kernel) (by decide +kernel)
theorem b_se_yX3_putToSleep : Cond.selects RX3 yX3_putToSleep yX3_putToSleep ∈ BG := tb2 (i := 95) (by decide +kernel) (by decide +kernel)
theorem b_co_yX3_putToSleep : Cond.code yX3_putToSleep cX3_putToSleep 3 none ∈ BG := tb2 (i := 96) (by decide +kernel) (by decide +kernel)
theorem b_ml_X4_90 : Cond.methodLink RX4 90 yX3_takeFrom ∈ BG := tb2 (i := 97) (by decide +kernel) (by decide +kernel)
theorem b_inm_yX3_takeFrom : Cond.instanceMethod yX3_takeFrom ∈ BG := tb2 (i := 98) (by decide +kernel) (by decide +kernel)
theorem b_se_yX3_takeFrom : Cond.selects RX3 yX3_takeFrom yX3_takeFrom ∈ BG := tb2 (i := 99) (by decide +kernel) (by decide +kernel)
theorem b_co_yX3_takeFrom : Cond.code yX3_takeFrom cX3_takeFrom 2 none ∈ BG := tb2 (i := 100) (by decide +kernel) (by decide +kernel)
theorem b_ml_X3_58 : Cond.methodLink RX3 58 arraycopyName ∈ BG := tb2 (i := 101) (by decide +kernel) (by decide +kernel)
theorem b_stm_arraycopyName : Cond.static arraycopyName ∈ BG := tb2 (i := 102) (by decide +kernel) (by decide +kernel)
theorem b_nam_arraycopyName : Cond.native arraycopyName ∈ BG := tb2 (i := 103) (by decide +kernel) (by decide +kernel)
theorem b_ml_L_41 : Cond.methodLink RL 41 yX4_bribe ∈ BG := tb2 (i := 104) (by decide +kernel) (by decide +kernel)
theorem b_inm_yX4_bribe : Cond.instanceMethod yX4_bribe ∈ BG := tb2 (i := 105) (by decide +kernel) (by decide +kernel)
theorem b_se_yX4_bribe : Cond.selects RX4 yX4_bribe yX4_bribe ∈ BG := tb2 (i := 106) (by decide +kernel) (by decide +kernel)
theorem b_co_yX4_bribe : Cond.code yX4_bribe cX4_bribe 3 (some .int) ∈ BG := tb2 (i := 107) (by decide +kernel) (by decide +kernel)
theorem b_ml_X4_94 : Cond.methodLink RX4 94 yX3_hasMan ∈ BG := tb2 (i := 108) (by decide +kernel) (by decide +kernel)
theorem b_inm_yX3_hasMan : Cond.instanceMethod yX3_hasMan ∈ BG := tb2 (i := 109) (by decide +kernel) (by decide +kernel)
theorem b_se_yX3_hasMan : Cond.selects RX3 yX3_hasMan yX3_hasMan ∈ BG := tb2 (i := 110) (by decide +kernel) (by decide +kernel)
theorem b_co_yX3_hasMan : Cond.code yX3_hasMan cX3_hasMan 2 (some .boolean) ∈ BG := tb2 (i := 111) (by decide +kernel) (by decide +kernel)
theorem b_ml_X4_98 : Cond.methodLink RX4 98 yX3_hasDog ∈ BG := tb2 (i := 112) (by decide +kernel) (by decide +kernel)
theorem b_inm_yX3_hasDog : Cond.instanceMethod yX3_hasDog ∈ BG := tb2 (i := 113) (by decide +kernel) (by decide +kernel)
theorem b_se_yX3_hasDog : Cond.selects RX3 yX3_hasDog yX3_hasDog ∈ BG := tb2 (i := 114) (by decide +kernel) (by decide +kernel)
theorem b_co_yX3_hasDog : Cond.code yX3_hasDog cX3_hasDog 2 (some .boolean) ∈ BG := tb2 (i := 115) (by decide +kernel) (by decide +kernel)
theorem b_ml_X4_101 : Cond.methodLink RX4 101 yX3_mayBribe ∈ BG := tb2 (i := 116) (by decide +kernel) (by decide +kernel)
theorem b_ml_X4_105 : Cond.methodLink RX4 105 yX3_keepPast ∈ BG := tb2 (i := 117) (by decide +kernel) (by decide +kernel)
theorem b_inm_yX3_keepPast : Cond.instanceMethod yX3_keepPast ∈ BG := tb2 (i := 118) (by decide +kernel) (by decide +kernel)
theorem b_se_yX3_keepPast : Cond.selects RX3 yX3_keepPast yX3_keepPast ∈ BG := tb2 (i := 119) (by decide +kernel) (by decide +kernel)
theorem b_co_yX3_keepPast : Cond.code yX3_keepPast cX3_keepPast 2 none ∈ BG := tb2 (i := 120) (by decide +kernel) (by decide +kernel)
theorem b_ml_X4_108 : Cond.methodLink RX4 108 yX3_putToSleep ∈ BG := tb2 (i := 121) (by decide +kernel) (by decide +kernel)
theorem b_ml_L_45 : Cond.methodLink RL 45 yX4_round ∈ BG := tb2 (i := 122) (by decide +kernel) (by decide +kernel)
theorem b_inm_yX4_round : Cond.instanceMethod yX4_round ∈ BG := tb2 (i := 123) (by decide +kernel) (by decide +kernel)
theorem b_se_yX4_round : Cond.selects RX4 yX4_round yX4_round ∈ BG := tb2 (i := 124) (by decide +kernel) (by decide +kernel)
theorem b_co_yX4_round : Cond.code yX4_round cX4_round 3 (some .int) ∈ BG := tb2 (i := 125) (by decide +kernel) (by decide +kernel)
theorem b_ml_X4_124 : Cond.methodLink RX4 124 yX3_addRound ∈ BG := tb2 (i := 126) (by decide +kernel) (by decide +kernel)
theorem b_inm_yX3_addRound : Cond.instanceMethod yX3_addRound ∈ BG := tb2 (i := 127) (by decide +kernel) (by decide +kernel)
theorem b_se_yX3_addRound : Cond.selects RX3 yX3_addRound yX3_addRound ∈ BG := tb2 (i := 128) (by decide +kernel) (by decide +kernel)
theorem b_co_yX3_addRound : Cond.code yX3_addRound cX3_addRound 8 none ∈ BG := tb2 (i := 129) (by decide +kernel) (by decide +kernel)
theorem b_ml_X3_89 : Cond.methodLink RX3 89 yX3_startOf ∈ BG := tb2 (i := 130) (by decide +kernel) (by decide +kernel)
theorem b_inm_yX3_startOf : Cond.instanceMethod yX3_startOf ∈ BG := tb2 (i := 131) (by decide +kernel) (by decide +kernel)
theorem b_se_yX3_startOf : Cond.selects RX3 yX3_startOf yX3_startOf ∈ BG := tb2 (i := 132) (by decide +kernel) (by decide +kernel)
theorem b_co_yX3_startOf : Cond.code yX3_startOf cX3_startOf 2 (some .int) ∈ BG := tb2 (i := 133) (by decide +kernel) (by decide +kernel)
theorem b_ml_X3_82 : Cond.methodLink RX3 82 yX3_bittenBy ∈ BG := tb2 (i := 134) (by decide +kernel) (by decide +kernel)
theorem b_inm_yX3_bittenBy : Cond.instanceMethod yX3_bittenBy ∈ BG := tb2 (i := 135) (by decide +kernel) (by decide +kernel)
theorem b_se_yX3_bittenBy : Cond.selects RX3 yX3_bittenBy yX3_bittenBy ∈ BG := tb2 (i := 136) (by decide +kernel) (by decide +kernel)
theorem b_co_yX3_bittenBy : Cond.code yX3_bittenBy cX3_bittenBy 7 (some .int) ∈ BG := tb2 (i := 137) (by decide +kernel) (by decide +kernel)
theorem b_ml_X3_72 : Cond.methodLink RX3 72 yX0_bites ∈ BG := tb2 (i := 138) (by decide +kernel) (by decide +kernel)
theorem b_stm_yX0_bites : Cond.static yX0_bites ∈ BG := tb2 (i := 139) (by decide +kernel) (by decide +kernel)
theorem b_co_yX0_bites : Cond.code yX0_bites cX0_bites 1 (some .int) ∈ BG := tb2 (i := 140) (by decide +kernel) (by decide +kernel)
theorem b_ml_X3_78 : Cond.methodLink RX3 78 yX0_wouldBite ∈ BG := tb2 (i := 141) (by decide +kernel) (by decide +kernel)
theorem b_stm_yX0_wouldBite : Cond.static yX0_wouldBite ∈ BG := tb2 (i := 142) (by decide +kernel) (by decide +kernel)
theorem b_co_yX0_wouldBite : Cond.code yX0_wouldBite cX0_wouldBite 3 (some .boolean) ∈ BG := tb2 (i := 143) (by decide +kernel) (by decide +kernel)
theorem b_ml_X3_86 : Cond.methodLink RX3 86 yX0_width ∈ BG := tb2 (i := 144) (by decide +kernel) (by decide +kernel)
theorem b_stm_yX0_width : Cond.static yX0_width ∈ BG := tb2 (i := 145) (by decide +kernel) (by decide +kernel)
theorem b_co_yX0_width : Cond.code yX0_width cX0_width 2 (some .int) ∈ BG := tb2 (i := 146) (by decide +kernel) (by decide +kernel)
theorem b_ml_X4_128 : Cond.methodLink RX4 128 yX4_postmanOf ∈ BG := tb2 (i := 147) (by decide +kernel) (by decide +kernel)
theorem b_stm_yX4_postmanOf : Cond.static yX4_postmanOf ∈ BG := tb2 (i := 148) (by decide +kernel) (by decide +kernel)
theorem b_co_yX4_postmanOf : Cond.code yX4_postmanOf cX4_postmanOf 4 (some .int) ∈ BG := tb2 (i := 149) (by decide +kernel) (by decide +kernel)
theorem b_ml_L_49 : Cond.methodLink RL 49 yX4_undo ∈ BG := tb2 (i := 150) (by decide +kernel) (by decide +kernel)
theorem b_inm_yX4_undo : Cond.instanceMethod yX4_undo ∈ BG := tb2 (i := 151) (by decide +kernel) (by decide +kernel)
theorem b_se_yX4_undo : Cond.selects RX4 yX4_undo yX4_undo ∈ BG := tb2 (i := 152) (by decide +kernel) (by decide +kernel)
theorem b_co_yX4_undo : Cond.code yX4_undo cX4_undo 1 (some .int) ∈ BG := tb2 (i := 153) (by decide +kernel) (by decide +kernel)
theorem b_ml_X4_135 : Cond.methodLink RX4 135 yX3_goBack ∈ BG := tb2 (i := 154) (by decide +kernel) (by decide +kernel)
theorem b_inm_yX3_goBack : Cond.instanceMethod yX3_goBack ∈ BG := tb2 (i := 155) (by decide +kernel) (by decide +kernel)
theorem b_se_yX3_goBack : Cond.selects RX3 yX3_goBack yX3_goBack ∈ BG := tb2 (i := 156) (by decide +kernel) (by decide +kernel)
theorem b_co_yX3_goBack : Cond.code yX3_goBack cX3_goBack 2 none ∈ BG := tb2 (i := 157) (by decide +kernel) (by decide +kernel)
theorem b_ml_L_53 : Cond.methodLink RL 53 yX4_of ∈ BG := tb2 (i := 158) (by decide +kernel) (by decide +kernel)
theorem b_inm_yX4_of : Cond.instanceMethod yX4_of ∈ BG := tb2 (i := 159) (by decide +kernel) (by decide +kernel)
theorem b_se_yX4_of : Cond.selects RX4 yX4_of yX4_of ∈ BG := tb2 (i := 160) (by decide +kernel) (by decide +kernel)
theorem b_co_yX4_of : Cond.code yX4_of cX4_of 3 (some .int) ∈ BG := tb2 (i := 161) (by decide +kernel) (by decide +kernel)
theorem b_ml_L_57 : Cond.methodLink RL 57 yX4_about ∈ BG := tb2 (i := 162) (by decide +kernel) (by decide +kernel)
theorem b_inm_yX4_about : Cond.instanceMethod yX4_about ∈ BG := tb2 (i := 163) (by decide +kernel) (by decide +kernel)
theorem b_se_yX4_about : Cond.selects RX4 yX4_about yX4_about ∈ BG := tb2 (i := 164) (by decide +kernel) (by decide +kernel)
theorem b_co_yX4_about : Cond.code yX4_about cX4_about 3 (some .int) ∈ BG := tb2 (i := 165) (by decide +kernel) (by decide +kernel)
theorem b_ml_X4_153 : Cond.methodLink RX4 153 yX3_isAsleep ∈ BG := tb2 (i := 166) (by decide +kernel) (by decide +kernel)
theorem b_ml_X4_156 : Cond.methodLink RX4 156 yX0_width ∈ BG := tb2 (i := 167) (by decide +kernel) (by decide +kernel)
theorem b_ml_X4_161 : Cond.methodLink RX4 161 yX0_bites ∈ BG := tb2 (i := 168) (by decide +kernel) (by decide +kernel)
theorem b_ml_L_61 : Cond.methodLink RL 61 yX4_bitten ∈ BG := tb2 (i := 169) (by decide +kernel) (by decide +kernel)
theorem b_inm_yX4_bitten : Cond.instanceMethod yX4_bitten ∈ BG := tb2 (i := 170) (by decide +kernel) (by decide +kernel)
theorem b_se_yX4_bitten : Cond.selects RX4 yX4_bitten yX4_bitten ∈ BG := tb2 (i := 171) (by decide +kernel) (by decide +kernel)
theorem b_co_yX4_bitten : Cond.code yX4_bitten cX4_bitten 4 (some .int) ∈ BG := tb2 (i := 172) (by decide +kernel) (by decide +kernel)
theorem b_ml_X4_164 : Cond.methodLink RX4 164 yX3_startOf ∈ BG := tb2 (i := 173) (by decide +kernel) (by decide +kernel)
theorem b_ml_X4_167 : Cond.methodLink RX4 167 yX3_bitersOf ∈ BG := tb2 (i := 174) (by decide +kernel) (by decide +kernel)
theorem b_inm_yX3_bitersOf : Cond.instanceMethod yX3_bitersOf ∈ BG := tb2 (i := 175) (by decide +kernel) (by decide +kernel)
theorem b_se_yX3_bitersOf : Cond.selects RX3 yX3_bitersOf yX3_bitersOf ∈ BG := tb2 (i := 176) (by decide +kernel) (by decide +kernel)
theorem b_co_yX3_bitersOf : Cond.code yX3_bitersOf cX3_bitersOf 6 (some .int) ∈ BG := tb2 (i := 177) (by decide +kernel) (by decide +kernel)
theorem b_ml_X4_171 : Cond.methodLink RX4 171 yX3_widthTo ∈ BG := tb2 (i := 178) (by decide +kernel) (by decide +kernel)
theorem b_inm_yX3_widthTo : Cond.instanceMethod yX3_widthTo ∈ BG := tb2 (i := 179) (by decide +kernel) (by decide +kernel)
theorem b_se_yX3_widthTo : Cond.selects RX3 yX3_widthTo yX3_widthTo ∈ BG := tb2 (i := 180) (by decide +kernel) (by decide +kernel)
theorem b_co_yX3_widthTo : Cond.code yX3_widthTo cX3_widthTo 6 (some .int) ∈ BG := tb2 (i := 181) (by decide +kernel) (by decide +kernel)
theorem b_ml_L_65 : Cond.methodLink RL 65 yX4_then ∈ BG := tb2 (i := 182) (by decide +kernel) (by decide +kernel)
theorem b_inm_yX4_then : Cond.instanceMethod yX4_then ∈ BG := tb2 (i := 183) (by decide +kernel) (by decide +kernel)
theorem b_se_yX4_then : Cond.selects RX4 yX4_then yX4_then ∈ BG := tb2 (i := 184) (by decide +kernel) (by decide +kernel)
theorem b_co_yX4_then : Cond.code yX4_then cX4_then 3 (some .int) ∈ BG := tb2 (i := 185) (by decide +kernel) (by decide +kernel)
theorem b_ml_X4_174 : Cond.methodLink RX4 174 yX4_lookAhead ∈ BG := tb2 (i := 186) (by decide +kernel) (by decide +kernel)
theorem b_inm_yX4_lookAhead : Cond.instanceMethod yX4_lookAhead ∈ BG := tb2 (i := 188) (by decide +kernel) (by decide +kernel)
theorem b_co_yX4_lookAhead : Cond.code yX4_lookAhead cX4_lookAhead 3 none ∈ BG := tb2 (i := 189) (by decide +kernel) (by decide +kernel)
theorem b_ml_X4_253 : Cond.methodLink RX4 253 arraycopyName ∈ BG := tb2 (i := 190) (by decide +kernel) (by decide +kernel)
theorem b_ml_L_69 : Cond.methodLink RL 69 yX4_won ∈ BG := tb2 (i := 191) (by decide +kernel) (by decide +kernel)
theorem b_inm_yX4_won : Cond.instanceMethod yX4_won ∈ BG := tb2 (i := 192) (by decide +kernel) (by decide +kernel)
theorem b_se_yX4_won : Cond.selects RX4 yX4_won yX4_won ∈ BG := tb2 (i := 193) (by decide +kernel) (by decide +kernel)
theorem b_co_yX4_won : Cond.code yX4_won cX4_won 3 (some .int) ∈ BG := tb2 (i := 194) (by decide +kernel) (by decide +kernel)
theorem b_ml_X4_178 : Cond.methodLink RX4 178 yX4_leaverOf ∈ BG := tb2 (i := 195) (by decide +kernel) (by decide +kernel)
theorem b_stm_yX4_leaverOf : Cond.static yX4_leaverOf ∈ BG := tb2 (i := 196) (by decide +kernel) (by decide +kernel)
theorem b_co_yX4_leaverOf : Cond.code yX4_leaverOf cX4_leaverOf 4 (some .int) ∈ BG := tb2 (i := 197) (by decide +kernel) (by decide +kernel)
theorem b_ml_L_73 : Cond.methodLink RL 73 yX4_letters ∈ BG := tb2 (i := 198) (by decide +kernel) (by decide +kernel)
theorem b_inm_yX4_letters : Cond.instanceMethod yX4_letters ∈ BG := tb2 (i := 199) (by decide +kernel) (by decide +kernel)
theorem b_se_yX4_letters : Cond.selects RX4 yX4_letters yX4_letters ∈ BG := tb2 (i := 200) (by decide +kernel) (by decide +kernel)
theorem b_co_yX4_letters : Cond.code yX4_letters cX4_letters 4 (some .int) ∈ BG := tb2 (i := 201) (by decide +kernel) (by decide +kernel)
theorem b_ml_L_77 : Cond.methodLink RL 77 yX4_bribes ∈ BG := tb2 (i := 202) (by decide +kernel) (by decide +kernel)
theorem b_inm_yX4_bribes : Cond.instanceMethod yX4_bribes ∈ BG := tb2 (i := 203) (by decide +kernel) (by decide +kernel)
theorem b_se_yX4_bribes : Cond.selects RX4 yX4_bribes yX4_bribes ∈ BG := tb2 (i := 204) (by decide +kernel) (by decide +kernel)
theorem b_co_yX4_bribes : Cond.code yX4_bribes cX4_bribes 8 (some .int) ∈ BG := tb2 (i := 205) (by decide +kernel) (by decide +kernel)
theorem b_ml_X4_181 : Cond.methodLink RX4 181 yX3_everyDog ∈ BG := tb2 (i := 206) (by decide +kernel) (by decide +kernel)
theorem b_inm_yX3_everyDog : Cond.instanceMethod yX3_everyDog ∈ BG := tb2 (i := 207) (by decide +kernel) (by decide +kernel)
theorem b_se_yX3_everyDog : Cond.selects RX3 yX3_everyDog yX3_everyDog ∈ BG := tb2 (i := 208) (by decide +kernel) (by decide +kernel)
theorem b_co_yX3_everyDog : Cond.code yX3_everyDog cX3_everyDog 1 (some .int) ∈ BG := tb2 (i := 209) (by decide +kernel) (by decide +kernel)
theorem b_ml_X4_184 : Cond.methodLink RX4 184 yX3_hungerOf ∈ BG := tb2 (i := 210) (by decide +kernel) (by decide +kernel)
theorem b_inm_yX3_hungerOf : Cond.instanceMethod yX3_hungerOf ∈ BG := tb2 (i := 211) (by decide +kernel) (by decide +kernel)
theorem b_se_yX3_hungerOf : Cond.selects RX3 yX3_hungerOf yX3_hungerOf ∈ BG := tb2 (i := 212) (by decide +kernel) (by decide +kernel)
theorem b_co_yX3_hungerOf : Cond.code yX3_hungerOf cX3_hungerOf 4 (some .int) ∈ BG := tb2 (i := 213) (by decide +kernel) (by decide +kernel)
theorem b_ml_X4_187 : Cond.methodLink RX4 187 yX4_winsByBribing ∈ BG := tb2 (i := 214) (by decide +kernel) (by decide +kernel)
theorem b_inm_yX4_winsByBribing : Cond.instanceMethod yX4_winsByBribing ∈ BG := tb2 (i := 216) (by decide +kernel) (by decide +kernel)
theorem b_co_yX4_winsByBribing : Cond.code yX4_winsByBribing cX4_winsByBribing 3 (some .boolean) ∈ BG := tb2 (i := 217) (by decide +kernel) (by decide +kernel)
theorem b_ml_L_81 : Cond.methodLink RL 81 yX4_still ∈ BG := tb2 (i := 218) (by decide +kernel) (by decide +kernel)
theorem b_inm_yX4_still : Cond.instanceMethod yX4_still ∈ BG := tb2 (i := 219) (by decide +kernel) (by decide +kernel)
theorem b_se_yX4_still : Cond.selects RX4 yX4_still yX4_still ∈ BG := tb2 (i := 220) (by decide +kernel) (by decide +kernel)
theorem b_co_yX4_still : Cond.code yX4_still cX4_still 3 (some .int) ∈ BG := tb2 (i := 221) (by decide +kernel) (by decide +kernel)
theorem b_ml_L_85 : Cond.methodLink RL 85 yX4_first ∈ BG := tb2 (i := 222) (by decide +kernel) (by decide +kernel)
theorem b_inm_yX4_first : Cond.instanceMethod yX4_first ∈ BG := tb2 (i := 223) (by decide +kernel) (by decide +kernel)
theorem b_se_yX4_first : Cond.selects RX4 yX4_first yX4_first ∈ BG := tb2 (i := 224) (by decide +kernel) (by decide +kernel)
theorem b_co_yX4_first : Cond.code yX4_first cX4_first 7 (some .int) ∈ BG := tb2 (i := 225) (by decide +kernel) (by decide +kernel)
theorem b_ml_L_89 : Cond.methodLink RL 89 yX4_slept ∈ BG := tb2 (i := 226) (by decide +kernel) (by decide +kernel)
theorem b_inm_yX4_slept : Cond.instanceMethod yX4_slept ∈ BG := tb2 (i := 227) (by decide +kernel) (by decide +kernel)
theorem b_se_yX4_slept : Cond.selects RX4 yX4_slept yX4_slept ∈ BG := tb2 (i := 228) (by decide +kernel) (by decide +kernel)
theorem b_co_yX4_slept : Cond.code yX4_slept cX4_slept 11 (some .int) ∈ BG := tb2 (i := 229) (by decide +kernel) (by decide +kernel)
theorem b_ml_L_93 : Cond.methodLink RL 93 yX4_note ∈ BG := tb2 (i := 230) (by decide +kernel) (by decide +kernel)
theorem b_inm_yX4_note : Cond.instanceMethod yX4_note ∈ BG := tb2 (i := 231) (by decide +kernel) (by decide +kernel)
theorem b_se_yX4_note : Cond.selects RX4 yX4_note yX4_note ∈ BG := tb2 (i := 232) (by decide +kernel) (by decide +kernel)
theorem b_co_yX4_note : Cond.code yX4_note cX4_note 5 (some .int) ∈ BG := tb2 (i := 233) (by decide +kernel) (by decide +kernel)
theorem b_ml_X4_193 : Cond.methodLink RX4 193 yX3_addNote ∈ BG := tb2 (i := 234) (by decide +kernel) (by decide +kernel)
theorem b_inm_yX3_addNote : Cond.instanceMethod yX3_addNote ∈ BG := tb2 (i := 235) (by decide +kernel) (by decide +kernel)
theorem b_se_yX3_addNote : Cond.selects RX3 yX3_addNote yX3_addNote ∈ BG := tb2 (i := 236) (by decide +kernel) (by decide +kernel)
theorem b_co_yX3_addNote : Cond.code yX3_addNote cX3_addNote 6 (some .int) ∈ BG := tb2 (i := 237) (by decide +kernel) (by decide +kernel)
theorem b_ml_L_97 : Cond.methodLink RL 97 yX4_forget ∈ BG := tb2 (i := 238) (by decide +kernel) (by decide +kernel)
theorem b_inm_yX4_forget : Cond.instanceMethod yX4_forget ∈ BG := tb2 (i := 239) (by decide +kernel) (by decide +kernel)
theorem b_se_yX4_forget : Cond.selects RX4 yX4_forget yX4_forget ∈ BG := tb3 (i := 0) (by decide +kernel) (by decide +kernel)
theorem b_co_yX4_forget : Cond.code yX4_forget cX4_forget 2 (some .int) ∈ BG := tb3 (i := 1) (by decide +kernel) (by decide +kernel)
theorem b_ml_L_101 : Cond.methodLink RL 101 yX4_is ∈ BG := tb3 (i := 2) (by decide +kernel) (by decide +kernel)
theorem b_inm_yX4_is : Cond.instanceMethod yX4_is ∈ BG := tb3 (i := 3) (by decide +kernel) (by decide +kernel)
theorem b_se_yX4_is : Cond.selects RX4 yX4_is yX4_is ∈ BG := tb3 (i := 4) (by decide +kernel) (by decide +kernel)
theorem b_co_yX4_is : Cond.code yX4_is cX4_is 2 (some .int) ∈ BG := tb3 (i := 5) (by decide +kernel) (by decide +kernel)
theorem b_ml_X4_196 : Cond.methodLink RX4 196 yX3_kindsBy ∈ BG := tb3 (i := 6) (by decide +kernel) (by decide +kernel)
theorem b_inm_yX3_kindsBy : Cond.instanceMethod yX3_kindsBy ∈ BG := tb3 (i := 7) (by decide +kernel) (by decide +kernel)
theorem b_se_yX3_kindsBy : Cond.selects RX3 yX3_kindsBy yX3_kindsBy ∈ BG := tb3 (i := 8) (by decide +kernel) (by decide +kernel)
theorem b_co_yX3_kindsBy : Cond.code yX3_kindsBy cX3_kindsBy 6 (some .int) ∈ BG := tb3 (i := 9) (by decide +kernel) (by decide +kernel)
theorem b_ml_X3_92 : Cond.methodLink RX3 92 yX0_biting ∈ BG := tb3 (i := 10) (by decide +kernel) (by decide +kernel)
theorem b_stm_yX0_biting : Cond.static yX0_biting ∈ BG := tb3 (i := 11) (by decide +kernel) (by decide +kernel)
theorem b_co_yX0_biting : Cond.code yX0_biting cX0_biting 4 (some .int) ∈ BG := tb3 (i := 12) (by decide +kernel) (by decide +kernel)
theorem b_ml_X0_11 : Cond.methodLink RX0 11 yX0_wouldBite ∈ BG := tb3 (i := 13) (by decide +kernel) (by decide +kernel)
theorem b_ml_L_105 : Cond.methodLink RL 105 yX4_send ∈ BG := tb3 (i := 14) (by decide +kernel) (by decide +kernel)
theorem b_inm_yX4_send : Cond.instanceMethod yX4_send ∈ BG := tb3 (i := 15) (by decide +kernel) (by decide +kernel)
theorem b_se_yX4_send : Cond.selects RX4 yX4_send yX4_send ∈ BG := tb3 (i := 16) (by decide +kernel) (by decide +kernel)
theorem b_co_yX4_send : Cond.code yX4_send cX4_send 8 (some .int) ∈ BG := tb3 (i := 17) (by decide +kernel) (by decide +kernel)
theorem b_ml_X4_199 : Cond.methodLink RX4 199 yX0_biting ∈ BG := tb3 (i := 18) (by decide +kernel) (by decide +kernel)
theorem b_ml_X4_203 : Cond.methodLink RX4 203 yJ6_bitCount_0f7a4 ∈ BG := tb3 (i := 19) (by decide +kernel) (by decide +kernel)
theorem b_stm_yJ6_bitCount_0f7a4 : Cond.static yJ6_bitCount_0f7a4 ∈ BG := tb3 (i := 20) (by decide +kernel) (by decide +kernel)
theorem b_co_yJ6_bitCount_0f7a4 : Cond.code yJ6_bitCount_0f7a4 cJ6_bitCount_0f7a4 1 (some .int) ∈ BG := tb3 (i := 21) (by decide +kernel) (by decide +kernel)
theorem b_ct_J6_265 : Cond.constant RJ6 265 (1431655765) ∈ BG := tb3 (i := 22) (by decide +kernel) (by decide +kernel)
theorem b_ct_J6_266 : Cond.constant RJ6 266 (858993459) ∈ BG := tb3 (i := 23) (by decide +kernel) (by decide +kernel)
theorem b_ct_J6_267 : Cond.constant RJ6 267 (252645135) ∈ BG := tb3 (i := 24) (by decide +kernel) (by decide +kernel)
theorem b_ml_X4_208 : Cond.methodLink RX4 208 yJ9_max_7cf53 ∈ BG := tb3 (i := 25) (by decide +kernel) (by decide +kernel)
theorem b_stm_yJ9_max_7cf53 : Cond.static yJ9_max_7cf53 ∈ BG := tb3 (i := 26) (by decide +kernel) (by decide +kernel)
theorem b_co_yJ9_max_7cf53 : Cond.code yJ9_max_7cf53 cJ9_max_7cf53 2 (some .int) ∈ BG := tb3 (i := 27) (by decide +kernel) (by decide +kernel)
theorem b_ml_L_109 : Cond.methodLink RL 109 yX4_two ∈ BG := tb3 (i := 28) (by decide +kernel) (by decide +kernel)
theorem b_inm_yX4_two : Cond.instanceMethod yX4_two ∈ BG := tb3 (i := 29) (by decide +kernel) (by decide +kernel)
theorem b_se_yX4_two : Cond.selects RX4 yX4_two yX4_two ∈ BG := tb3 (i := 30) (by decide +kernel) (by decide +kernel)
theorem b_co_yX4_two : Cond.code yX4_two cX4_two 7 (some .int) ∈ BG := tb3 (i := 31) (by decide +kernel) (by decide +kernel)
theorem b_ml_X4_213 : Cond.methodLink RX4 213 yX4_fillGains ∈ BG := tb3 (i := 32) (by decide +kernel) (by decide +kernel)
theorem b_inm_yX4_fillGains : Cond.instanceMethod yX4_fillGains ∈ BG := tb3 (i := 34) (by decide +kernel) (by decide +kernel)
theorem b_co_yX4_fillGains : Cond.code yX4_fillGains cX4_fillGains 7 none ∈ BG := tb3 (i := 35) (by decide +kernel) (by decide +kernel)
theorem b_ml_X4_259 : Cond.methodLink RX4 259 yX4_mayChoose ∈ BG := tb3 (i := 36) (by decide +kernel) (by decide +kernel)
theorem b_inm_yX4_mayChoose : Cond.instanceMethod yX4_mayChoose ∈ BG := tb3 (i := 38) (by decide +kernel) (by decide +kernel)
theorem b_co_yX4_mayChoose : Cond.code yX4_mayChoose cX4_mayChoose 2 (some .boolean) ∈ BG := tb3 (i := 39) (by decide +kernel) (by decide +kernel)
theorem b_ml_X4_262 : Cond.methodLink RX4 262 yX4_doorOf ∈ BG := tb3 (i := 40) (by decide +kernel) (by decide +kernel)
theorem b_stm_yX4_doorOf : Cond.static yX4_doorOf ∈ BG := tb3 (i := 41) (by decide +kernel) (by decide +kernel)
theorem b_co_yX4_doorOf : Cond.code yX4_doorOf cX4_doorOf 1 (some .int) ∈ BG := tb3 (i := 42) (by decide +kernel) (by decide +kernel)
theorem b_ml_X4_265 : Cond.methodLink RX4 265 yX4_priceOf ∈ BG := tb3 (i := 43) (by decide +kernel) (by decide +kernel)
theorem b_stm_yX4_priceOf : Cond.static yX4_priceOf ∈ BG := tb3 (i := 44) (by decide +kernel) (by decide +kernel)
theorem b_co_yX4_priceOf : Cond.code yX4_priceOf cX4_priceOf 1 (some .int) ∈ BG := tb3 (i := 45) (by decide +kernel) (by decide +kernel)
theorem b_ml_X4_216 : Cond.methodLink RX4 216 yX4_rests ∈ BG := tb3 (i := 46) (by decide +kernel) (by decide +kernel)
theorem b_inm_yX4_rests : Cond.instanceMethod yX4_rests ∈ BG := tb3 (i := 48) (by decide +kernel) (by decide +kernel)
theorem b_co_yX4_rests : Cond.code yX4_rests cX4_rests 5 (some .boolean) ∈ BG := tb3 (i := 49) (by decide +kernel) (by decide +kernel)
theorem b_ml_L_114 : Cond.methodLink RL 114 yX4_strays ∈ BG := tb3 (i := 50) (by decide +kernel) (by decide +kernel)
theorem b_inm_yX4_strays : Cond.instanceMethod yX4_strays ∈ BG := tb3 (i := 51) (by decide +kernel) (by decide +kernel)
theorem b_se_yX4_strays : Cond.selects RX4 yX4_strays yX4_strays ∈ BG := tb3 (i := 52) (by decide +kernel) (by decide +kernel)
theorem b_co_yX4_strays : Cond.code yX4_strays cX4_strays 6 (some .int) ∈ BG := tb3 (i := 53) (by decide +kernel) (by decide +kernel)
theorem b_ml_X4_219 : Cond.methodLink RX4 219 yX4_commonDivisor ∈ BG := tb3 (i := 54) (by decide +kernel) (by decide +kernel)
theorem b_stm_yX4_commonDivisor : Cond.static yX4_commonDivisor ∈ BG := tb3 (i := 55) (by decide +kernel) (by decide +kernel)
theorem b_co_yX4_commonDivisor : Cond.code yX4_commonDivisor cX4_commonDivisor 6 (some .int) ∈ BG := tb3 (i := 56) (by decide +kernel) (by decide +kernel)
theorem b_ml_L_118 : Cond.methodLink RL 118 yX4_villages ∈ BG := tb3 (i := 57) (by decide +kernel) (by decide +kernel)
theorem b_inm_yX4_villages : Cond.instanceMethod yX4_villages ∈ BG := tb3 (i := 58) (by decide +kernel) (by decide +kernel)
theorem b_se_yX4_villages : Cond.selects RX4 yX4_villages yX4_villages ∈ BG := tb3 (i := 59) (by decide +kernel) (by decide +kernel)
theorem b_co_yX4_villages : Cond.code yX4_villages cX4_villages 8 (some .int) ∈ BG := tb3 (i := 60) (by decide +kernel) (by decide +kernel)
theorem b_ct_X4_222 : Cond.constant RX4 222 (999999) ∈ BG := tb3 (i := 61) (by decide +kernel) (by decide +kernel)
theorem b_ct_X4_223 : Cond.constantLong RX4 223 (1103515245) ∈ BG := tb3 (i := 62) (by decide +kernel) (by decide +kernel)
theorem b_ct_X4_225 : Cond.constantLong RX4 225 (12345) ∈ BG := tb3 (i := 63) (by decide +kernel) (by decide +kernel)
theorem b_ct_X4_227 : Cond.constantLong RX4 227 (2147483648) ∈ BG := tb3 (i := 64) (by decide +kernel) (by decide +kernel)
theorem b_ct_X4_229 : Cond.constantLong RX4 229 (65536) ∈ BG := tb3 (i := 65) (by decide +kernel) (by decide +kernel)
theorem b_ct_X4_231 : Cond.constantLong RX4 231 (128) ∈ BG := tb3 (i := 66) (by decide +kernel) (by decide +kernel)
theorem b_ml_L_122 : Cond.methodLink RL 122 yX4_part ∈ BG := tb3 (i := 67) (by decide +kernel) (by decide +kernel)
theorem b_inm_yX4_part : Cond.instanceMethod yX4_part ∈ BG := tb3 (i := 68) (by decide +kernel) (by decide +kernel)
theorem b_se_yX4_part : Cond.selects RX4 yX4_part yX4_part ∈ BG := tb3 (i := 69) (by decide +kernel) (by decide +kernel)
theorem b_co_yX4_part : Cond.code yX4_part cX4_part 2 (some .long) ∈ BG := tb3 (i := 70) (by decide +kernel) (by decide +kernel)
theorem b_ml_L_127 : Cond.methodLink RL 127 yX4_image ∈ BG := tb3 (i := 71) (by decide +kernel) (by decide +kernel)
theorem b_inm_yX4_image : Cond.instanceMethod yX4_image ∈ BG := tb3 (i := 72) (by decide +kernel) (by decide +kernel)
theorem b_se_yX4_image : Cond.selects RX4 yX4_image yX4_image ∈ BG := tb3 (i := 73) (by decide +kernel) (by decide +kernel)
theorem b_co_yX4_image : Cond.code yX4_image cX4_image 3 (some .int) ∈ BG := tb3 (i := 74) (by decide +kernel) (by decide +kernel)
theorem b_ml_L_131 : Cond.methodLink RL 131 yX4_from ∈ BG := tb3 (i := 75) (by decide +kernel) (by decide +kernel)
theorem b_inm_yX4_from : Cond.instanceMethod yX4_from ∈ BG := tb3 (i := 76) (by decide +kernel) (by decide +kernel)
theorem b_se_yX4_from : Cond.selects RX4 yX4_from yX4_from ∈ BG := tb3 (i := 77) (by decide +kernel) (by decide +kernel)
theorem b_co_yX4_from : Cond.code yX4_from cX4_from 3 (some .int) ∈ BG := tb3 (i := 78) (by decide +kernel) (by decide +kernel)
theorem b_ml_L_135 : Cond.methodLink RL 135 yX4_status ∈ BG := tb3 (i := 79) (by decide +kernel) (by decide +kernel)
theorem b_inm_yX4_status : Cond.instanceMethod yX4_status ∈ BG := tb3 (i := 80) (by decide +kernel) (by decide +kernel)
theorem b_se_yX4_status : Cond.selects RX4 yX4_status yX4_status ∈ BG := tb3 (i := 81) (by decide +kernel) (by decide +kernel)
theorem b_co_yX4_status : Cond.code yX4_status cX4_status 2 (some .int) ∈ BG := tb3 (i := 82) (by decide +kernel) (by decide +kernel)
theorem b_ml_L_139 : Cond.methodLink RL 139 yX4_count ∈ BG := tb3 (i := 83) (by decide +kernel) (by decide +kernel)
theorem b_inm_yX4_count : Cond.instanceMethod yX4_count ∈ BG := tb3 (i := 84) (by decide +kernel) (by decide +kernel)
theorem b_se_yX4_count : Cond.selects RX4 yX4_count yX4_count ∈ BG := tb3 (i := 85) (by decide +kernel) (by decide +kernel)
theorem b_co_yX4_count : Cond.code yX4_count cX4_count 2 (some .int) ∈ BG := tb3 (i := 86) (by decide +kernel) (by decide +kernel)
theorem b_ml_X4_242 : Cond.methodLink RX4 242 yX4_counted ∈ BG := tb3 (i := 87) (by decide +kernel) (by decide +kernel)
theorem b_inm_yX4_counted : Cond.instanceMethod yX4_counted ∈ BG := tb3 (i := 89) (by decide +kernel) (by decide +kernel)
theorem b_co_yX4_counted : Cond.code yX4_counted cX4_counted 2 (some .int) ∈ BG := tb3 (i := 90) (by decide +kernel) (by decide +kernel)
theorem b_ml_L_143 : Cond.methodLink RL 143 yX4_digest ∈ BG := tb3 (i := 91) (by decide +kernel) (by decide +kernel)
theorem b_inm_yX4_digest : Cond.instanceMethod yX4_digest ∈ BG := tb3 (i := 92) (by decide +kernel) (by decide +kernel)
theorem b_se_yX4_digest : Cond.selects RX4 yX4_digest yX4_digest ∈ BG := tb3 (i := 93) (by decide +kernel) (by decide +kernel)
theorem b_co_yX4_digest : Cond.code yX4_digest cX4_digest 4 (some .long) ∈ BG := tb3 (i := 94) (by decide +kernel) (by decide +kernel)
theorem b_ct_X4_245 : Cond.constantLong RX4 245 (1367) ∈ BG := tb3 (i := 95) (by decide +kernel) (by decide +kernel)
theorem b_ct_X4_247 : Cond.constantLong RX4 247 (31) ∈ BG := tb3 (i := 96) (by decide +kernel) (by decide +kernel)
theorem b_ml_X4_249 : Cond.methodLink RX4 249 yX3_digestOn ∈ BG := tb3 (i := 97) (by decide +kernel) (by decide +kernel)
theorem b_inm_yX3_digestOn : Cond.instanceMethod yX3_digestOn ∈ BG := tb3 (i := 98) (by decide +kernel) (by decide +kernel)
theorem b_se_yX3_digestOn : Cond.selects RX3 yX3_digestOn yX3_digestOn ∈ BG := tb3 (i := 99) (by decide +kernel) (by decide +kernel)
theorem b_co_yX3_digestOn : Cond.code yX3_digestOn cX3_digestOn 6 (some .long) ∈ BG := tb3 (i := 100) (by decide +kernel) (by decide +kernel)
theorem b_ct_X3_96 : Cond.constantLong RX3 96 (31) ∈ BG := tb3 (i := 101) (by decide +kernel) (by decide +kernel)
theorem b_cl_L_10 : Cond.classLink RL 10 RX5 ∈ BG := tb3 (i := 102) (by decide +kernel) (by decide +kernel)
theorem b_is_X5 : Cond.instantiable RX5 34 ∈ BG := tb3 (i := 103) (by decide +kernel) (by decide +kernel)
theorem b_ml_L_12 : Cond.methodLink RL 12 yX5_init ∈ BG := tb3 (i := 104) (by decide +kernel) (by decide +kernel)
theorem b_inm_yX5_init : Cond.instanceMethod yX5_init ∈ BG := tb3 (i := 105) (by decide +kernel) (by decide +kernel)
theorem b_co_yX5_init : Cond.code yX5_init cX5_init 1 none ∈ BG := tb3 (i := 106) (by decide +kernel) (by decide +kernel)
theorem b_ml_X5_7 : Cond.methodLink RX5 7 objectInit ∈ BG := tb3 (i := 107) (by decide +kernel) (by decide +kernel)
theorem b_ml_X5_71 : Cond.methodLink RX5 71 yX5_begin ∈ BG := tb3 (i := 108) (by decide +kernel) (by decide +kernel)
theorem b_inm_yX5_begin : Cond.instanceMethod yX5_begin ∈ BG := tb3 (i := 110) (by decide +kernel) (by decide +kernel)
theorem b_co_yX5_begin : Cond.code yX5_begin cX5_begin 1 none ∈ BG := tb3 (i := 111) (by decide +kernel) (by decide +kernel)
theorem b_fl_X5_1 : Cond.fieldLink RX5 1 "DogsPostmanModel" "refused" "[I" ∈ BG := tb3 (i := 112) (by decide +kernel) (by decide +kernel)
theorem b_fl_X5_74 : Cond.fieldLink RX5 74 "DogsPostmanModel" "men" "I" ∈ BG := tb3 (i := 113) (by decide +kernel) (by decide +kernel)
theorem b_fl_X5_78 : Cond.fieldLink RX5 78 "DogsPostmanModel" "many" "I" ∈ BG := tb3 (i := 114) (by decide +kernel) (by decide +kernel)
theorem b_fl_X5_81 : Cond.fieldLink RX5 81 "DogsPostmanModel" "now" "I" ∈ BG := tb3 (i := 115) (by decide +kernel) (by decide +kernel)
theorem b_fl_X5_84 : Cond.fieldLink RX5 84 "DogsPostmanModel" "asleep" "I" ∈ BG := tb3 (i := 116) (by decide +kernel) (by decide +kernel)
theorem b_fl_X5_87 : Cond.fieldLink RX5 87 "DogsPostmanModel" "noteMany" "I" ∈ BG := tb3 (i := 117) (by decide +kernel) (by decide +kernel)
theorem b_fl_X5_13 : Cond.fieldLink RX5 13 "DogsPostmanModel" "boots" "[I" ∈ BG := tb3 (i := 118) (by decide +kernel) (by decide +kernel)
theorem b_fl_X5_16 : Cond.fieldLink RX5 16 "DogsPostmanModel" "ham" "[I" ∈ BG := tb3 (i := 119) (by decide +kernel) (by decide +kernel)
theorem b_fl_X5_19 : Cond.fieldLink RX5 19 "DogsPostmanModel" "holes" "[I" ∈ BG := tb3 (i := 120) (by decide +kernel) (by decide +kernel)
theorem b_fl_X5_22 : Cond.fieldLink RX5 22 "DogsPostmanModel" "kinds" "[I" ∈ BG := tb3 (i := 121) (by decide +kernel) (by decide +kernel)
theorem b_fl_X5_25 : Cond.fieldLink RX5 25 "DogsPostmanModel" "weights" "[I" ∈ BG := tb3 (i := 122) (by decide +kernel) (by decide +kernel)
theorem b_fl_X5_28 : Cond.fieldLink RX5 28 "DogsPostmanModel" "hungers" "[I" ∈ BG := tb3 (i := 123) (by decide +kernel) (by decide +kernel)
theorem b_fl_X5_31 : Cond.fieldLink RX5 31 "DogsPostmanModel" "favourites" "[I" ∈ BG := tb3 (i := 124) (by decide +kernel) (by decide +kernel)
theorem b_fl_X5_34 : Cond.fieldLink RX5 34 "DogsPostmanModel" "noteDog" "[I" ∈ BG := tb3 (i := 125) (by decide +kernel) (by decide +kernel)
theorem b_fl_X5_37 : Cond.fieldLink RX5 37 "DogsPostmanModel" "noteFavourite" "[I" ∈ BG := tb3 (i := 126) (by decide +kernel) (by decide +kernel)
theorem b_fl_X5_40 : Cond.fieldLink RX5 40 "DogsPostmanModel" "noteBoots" "[I" ∈ BG := tb3 (i := 127) (by decide +kernel) (by decide +kernel)
theorem b_fl_X5_43 : Cond.fieldLink RX5 43 "DogsPostmanModel" "noteBit" "[I" ∈ BG := tb3 (i := 128) (by decide +kernel) (by decide +kernel)
theorem b_fl_X5_46 : Cond.fieldLink RX5 46 "DogsPostmanModel" "text" "[I" ∈ BG := tb3 (i := 129) (by decide +kernel) (by decide +kernel)
theorem b_fl_X5_112 : Cond.fieldLink RX5 112 "DogsPostmanModel" "typed" "I" ∈ BG := tb3 (i := 130) (by decide +kernel) (by decide +kernel)
theorem b_fl_X5_115 : Cond.fieldLink RX5 115 "DogsPostmanModel" "readAt" "I" ∈ BG := tb3 (i := 131) (by decide +kernel) (by decide +kernel)
theorem b_fl_X5_145 : Cond.fieldLink RX5 145 "DogsPostmanModel" "readMen" "I" ∈ BG := tb3 (i := 132) (by decide +kernel) (by decide +kernel)
theorem b_fl_X5_152 : Cond.fieldLink RX5 152 "DogsPostmanModel" "readMany" "I" ∈ BG := tb3 (i := 133) (by decide +kernel) (by decide +kernel)
theorem b_fl_X5_155 : Cond.fieldLink RX5 155 "DogsPostmanModel" "readAsleep" "I" ∈ BG := tb3 (i := 134) (by decide +kernel) (by decide +kernel)
theorem b_fl_X5_49 : Cond.fieldLink RX5 49 "DogsPostmanModel" "readMan" "[I" ∈ BG := tb3 (i := 135) (by decide +kernel) (by decide +kernel)
theorem b_fl_X5_52 : Cond.fieldLink RX5 52 "DogsPostmanModel" "readDog" "[I" ∈ BG := tb3 (i := 136) (by decide +kernel) (by decide +kernel)
theorem b_fl_X5_138 : Cond.fieldLink RX5 138 "DogsPostmanModel" "readNumber" "I" ∈ BG := tb3 (i := 137) (by decide +kernel) (by decide +kernel)
theorem b_fl_X5_55 : Cond.fieldLink RX5 55 "DogsPostmanModel" "ahead" "[I" ∈ BG := tb3 (i := 138) (by decide +kernel) (by decide +kernel)
theorem b_fl_X5_90 : Cond.fieldLink RX5 90 "DogsPostmanModel" "undoMany" "I" ∈ BG := tb3 (i := 139) (by decide +kernel) (by decide +kernel)
theorem b_fl_X5_58 : Cond.fieldLink RX5 58 "DogsPostmanModel" "aside" "[I" ∈ BG := tb3 (i := 140) (by decide +kernel) (by decide +kernel)
theorem b_fl_X5_256 : Cond.fieldLink RX5 256 "DogsPostmanModel" "above" "J" ∈ BG := tb3 (i := 141) (by decide +kernel) (by decide +kernel)
theorem b_fl_X5_61 : Cond.fieldLink RX5 61 "DogsPostmanModel" "below" "J" ∈ BG := tb3 (i := 142) (by decide +kernel) (by decide +kernel)
theorem b_fl_X5_65 : Cond.fieldLink RX5 65 "DogsPostmanModel" "images" "[I" ∈ BG := tb3 (i := 143) (by decide +kernel) (by decide +kernel)
theorem b_fl_X5_68 : Cond.fieldLink RX5 68 "DogsPostmanModel" "isKept" "[I" ∈ BG := tb3 (i := 144) (by decide +kernel) (by decide +kernel)
theorem b_fl_X5_284 : Cond.fieldLink RX5 284 "DogsPostmanModel" "h0" "J" ∈ BG := tb3 (i := 145) (by decide +kernel) (by decide +kernel)
theorem b_ml_L_17 : Cond.methodLink RL 17 yX5_village ∈ BG := tb3 (i := 215) (by decide +kernel) (by decide +kernel)
theorem b_inm_yX5_village : Cond.instanceMethod yX5_village ∈ BG := tb3 (i := 216) (by decide +kernel) (by decide +kernel)
theorem b_se_yX5_village : Cond.selects RX5 yX5_village yX5_village ∈ BG := tb3 (i := 217) (by decide +kernel) (by decide +kernel)
theorem b_co_yX5_village : Cond.code yX5_village cX5_village 2 (some .int) ∈ BG := tb3 (i := 218) (by decide +kernel) (by decide +kernel)
theorem b_ml_L_22 : Cond.methodLink RL 22 yX5_man ∈ BG := tb3 (i := 219) (by decide +kernel) (by decide +kernel)
theorem b_inm_yX5_man : Cond.instanceMethod yX5_man ∈ BG := tb3 (i := 220) (by decide +kernel) (by decide +kernel)
theorem b_se_yX5_man : Cond.selects RX5 yX5_man yX5_man ∈ BG := tb3 (i := 221) (by decide +kernel) (by decide +kernel)
theorem b_co_yX5_man : Cond.code yX5_man cX5_man 3 (some .int) ∈ BG := tb3 (i := 222) (by decide +kernel) (by decide +kernel)
theorem b_ml_X5_93 : Cond.methodLink RX5 93 yX5_in ∈ BG := tb3 (i := 223) (by decide +kernel) (by decide +kernel)
theorem b_stm_yX5_in : Cond.static yX5_in ∈ BG := tb3 (i := 224) (by decide +kernel) (by decide +kernel)
theorem b_co_yX5_in : Cond.code yX5_in cX5_in 3 (some .boolean) ∈ BG := tb3 (i := 225) (by decide +kernel) (by decide +kernel)
theorem b_ml_X5_97 : Cond.methodLink RX5 97 yX5_bad ∈ BG := tb3 (i := 226) (by decide +kernel) (by decide +kernel)
theorem b_inm_yX5_bad : Cond.instanceMethod yX5_bad ∈ BG := tb3 (i := 228) (by decide +kernel) (by decide +kernel)
theorem b_co_yX5_bad : Cond.code yX5_bad cX5_bad 1 (some .int) ∈ BG := tb3 (i := 229) (by decide +kernel) (by decide +kernel)
theorem b_ml_X5_101 : Cond.methodLink RX5 101 yX5_full ∈ BG := tb3 (i := 230) (by decide +kernel) (by decide +kernel)
theorem b_inm_yX5_full : Cond.instanceMethod yX5_full ∈ BG := tb3 (i := 232) (by decide +kernel) (by decide +kernel)
theorem b_co_yX5_full : Cond.code yX5_full cX5_full 1 (some .int) ∈ BG := tb3 (i := 233) (by decide +kernel) (by decide +kernel)
theorem b_ml_X5_104 : Cond.methodLink RX5 104 yX5_addMan ∈ BG := tb3 (i := 234) (by decide +kernel) (by decide +kernel)
theorem b_inm_yX5_addMan : Cond.instanceMethod yX5_addMan ∈ BG := tb3 (i := 236) (by decide +kernel) (by decide +kernel)
theorem b_co_yX5_addMan : Cond.code yX5_addMan cX5_addMan 3 (some .int) ∈ BG := tb3 (i := 237) (by decide +kernel) (by decide +kernel)
theorem b_ml_L_27 : Cond.methodLink RL 27 yX5_dog ∈ BG := tb3 (i := 238) (by decide +kernel) (by decide +kernel)
theorem b_inm_yX5_dog : Cond.instanceMethod yX5_dog ∈ BG := tb3 (i := 239) (by decide +kernel) (by decide +kernel)
theorem b_se_yX5_dog : Cond.selects RX5 yX5_dog yX5_dog ∈ BG := tb4 (i := 0) (by decide +kernel) (by decide +kernel)
theorem b_co_yX5_dog : Cond.code yX5_dog cX5_dog 5 (some .int) ∈ BG := tb4 (i := 1) (by decide +kernel) (by decide +kernel)
theorem b_ml_X5_108 : Cond.methodLink RX5 108 yX5_addDog ∈ BG := tb4 (i := 2) (by decide +kernel) (by decide +kernel)
theorem b_inm_yX5_addDog : Cond.instanceMethod yX5_addDog ∈ BG := tb4 (i := 4) (by decide +kernel) (by decide +kernel)
theorem b_co_yX5_addDog : Cond.code yX5_addDog cX5_addDog 5 (some .int) ∈ BG := tb4 (i := 5) (by decide +kernel) (by decide +kernel)
theorem b_ml_L_32 : Cond.methodLink RL 32 yX5_type ∈ BG := tb4 (i := 6) (by decide +kernel) (by decide +kernel)
theorem b_inm_yX5_type : Cond.instanceMethod yX5_type ∈ BG := tb4 (i := 7) (by decide +kernel) (by decide +kernel)
theorem b_se_yX5_type : Cond.selects RX5 yX5_type yX5_type ∈ BG := tb4 (i := 8) (by decide +kernel) (by decide +kernel)
theorem b_co_yX5_type : Cond.code yX5_type cX5_type 2 (some .int) ∈ BG := tb4 (i := 9) (by decide +kernel) (by decide +kernel)
theorem b_ml_L_36 : Cond.methodLink RL 36 yX5_clear ∈ BG := tb4 (i := 10) (by decide +kernel) (by decide +kernel)
theorem b_inm_yX5_clear : Cond.instanceMethod yX5_clear ∈ BG := tb4 (i := 11) (by decide +kernel) (by decide +kernel)
theorem b_se_yX5_clear : Cond.selects RX5 yX5_clear yX5_clear ∈ BG := tb4 (i := 12) (by decide +kernel) (by decide +kernel)
theorem b_co_yX5_clear : Cond.code yX5_clear cX5_clear 2 (some .int) ∈ BG := tb4 (i := 13) (by decide +kernel) (by decide +kernel)
theorem b_ml_L_40 : Cond.methodLink RL 40 yX5_read ∈ BG := tb4 (i := 14) (by decide +kernel) (by decide +kernel)
theorem b_inm_yX5_read : Cond.instanceMethod yX5_read ∈ BG := tb4 (i := 15) (by decide +kernel) (by decide +kernel)
theorem b_se_yX5_read : Cond.selects RX5 yX5_read yX5_read ∈ BG := tb4 (i := 16) (by decide +kernel) (by decide +kernel)
theorem b_co_yX5_read : Cond.code yX5_read cX5_read 3 (some .int) ∈ BG := tb4 (i := 17) (by decide +kernel) (by decide +kernel)
theorem b_ml_X5_176 : Cond.methodLink RX5 176 yX5_readsVillage ∈ BG := tb4 (i := 18) (by decide +kernel) (by decide +kernel)
theorem b_inm_yX5_readsVillage : Cond.instanceMethod yX5_readsVillage ∈ BG := tb4 (i := 20) (by decide +kernel) (by decide +kernel)
theorem b_co_yX5_readsVillage : Cond.code yX5_readsVillage cX5_readsVillage 2 (some .int) ∈ BG := tb4 (i := 21) (by decide +kernel) (by decide +kernel)
theorem b_ml_X5_132 : Cond.methodLink RX5 132 yX5_skip ∈ BG := tb4 (i := 22) (by decide +kernel) (by decide +kernel)
theorem b_inm_yX5_skip : Cond.instanceMethod yX5_skip ∈ BG := tb4 (i := 24) (by decide +kernel) (by decide +kernel)
theorem b_co_yX5_skip : Cond.code yX5_skip cX5_skip 1 none ∈ BG := tb4 (i := 25) (by decide +kernel) (by decide +kernel)
theorem b_ml_X5_118 : Cond.methodLink RX5 118 yX5_here ∈ BG := tb4 (i := 26) (by decide +kernel) (by decide +kernel)
theorem b_inm_yX5_here : Cond.instanceMethod yX5_here ∈ BG := tb4 (i := 28) (by decide +kernel) (by decide +kernel)
theorem b_co_yX5_here : Cond.code yX5_here cX5_here 1 (some .int) ∈ BG := tb4 (i := 29) (by decide +kernel) (by decide +kernel)
theorem b_ml_X5_161 : Cond.methodLink RX5 161 yX5_wordHere ∈ BG := tb4 (i := 30) (by decide +kernel) (by decide +kernel)
theorem b_inm_yX5_wordHere : Cond.instanceMethod yX5_wordHere ∈ BG := tb4 (i := 32) (by decide +kernel) (by decide +kernel)
theorem b_co_yX5_wordHere : Cond.code yX5_wordHere cX5_wordHere 2 (some .int) ∈ BG := tb4 (i := 33) (by decide +kernel) (by decide +kernel)
theorem b_ml_X5_125 : Cond.methodLink RX5 125 yX5_wordSize ∈ BG := tb4 (i := 34) (by decide +kernel) (by decide +kernel)
theorem b_inm_yX5_wordSize : Cond.instanceMethod yX5_wordSize ∈ BG := tb4 (i := 36) (by decide +kernel) (by decide +kernel)
theorem b_co_yX5_wordSize : Cond.code yX5_wordSize cX5_wordSize 2 (some .int) ∈ BG := tb4 (i := 37) (by decide +kernel) (by decide +kernel)
theorem b_ml_X5_121 : Cond.methodLink RX5 121 yX5_isLetter ∈ BG := tb4 (i := 38) (by decide +kernel) (by decide +kernel)
theorem b_stm_yX5_isLetter : Cond.static yX5_isLetter ∈ BG := tb4 (i := 39) (by decide +kernel) (by decide +kernel)
theorem b_co_yX5_isLetter : Cond.code yX5_isLetter cX5_isLetter 1 (some .boolean) ∈ BG := tb4 (i := 40) (by decide +kernel) (by decide +kernel)
theorem b_ml_X5_128 : Cond.methodLink RX5 128 yX5_letter ∈ BG := tb4 (i := 41) (by decide +kernel) (by decide +kernel)
theorem b_inm_yX5_letter : Cond.instanceMethod yX5_letter ∈ BG := tb4 (i := 43) (by decide +kernel) (by decide +kernel)
theorem b_co_yX5_letter : Cond.code yX5_letter cX5_letter 2 (some .int) ∈ BG := tb4 (i := 44) (by decide +kernel) (by decide +kernel)
theorem b_ml_X5_148 : Cond.methodLink RX5 148 yX5_ends ∈ BG := tb4 (i := 45) (by decide +kernel) (by decide +kernel)
theorem b_inm_yX5_ends : Cond.instanceMethod yX5_ends ∈ BG := tb4 (i := 47) (by decide +kernel) (by decide +kernel)
theorem b_co_yX5_ends : Cond.code yX5_ends cX5_ends 1 (some .boolean) ∈ BG := tb4 (i := 48) (by decide +kernel) (by decide +kernel)
theorem b_ml_X5_173 : Cond.methodLink RX5 173 yX5_readsItem ∈ BG := tb4 (i := 49) (by decide +kernel) (by decide +kernel)
theorem b_inm_yX5_readsItem : Cond.instanceMethod yX5_readsItem ∈ BG := tb4 (i := 51) (by decide +kernel) (by decide +kernel)
theorem b_co_yX5_readsItem : Cond.code yX5_readsItem cX5_readsItem 2 (some .boolean) ∈ BG := tb4 (i := 52) (by decide +kernel) (by decide +kernel)
theorem b_ml_X5_164 : Cond.methodLink RX5 164 yX5_readsMan ∈ BG := tb4 (i := 53) (by decide +kernel) (by decide +kernel)
theorem b_inm_yX5_readsMan : Cond.instanceMethod yX5_readsMan ∈ BG := tb4 (i := 55) (by decide +kernel) (by decide +kernel)
theorem b_co_yX5_readsMan : Cond.code yX5_readsMan cX5_readsMan 1 (some .boolean) ∈ BG := tb4 (i := 56) (by decide +kernel) (by decide +kernel)
theorem b_ml_X5_141 : Cond.methodLink RX5 141 yX5_number ∈ BG := tb4 (i := 57) (by decide +kernel) (by decide +kernel)
theorem b_inm_yX5_number : Cond.instanceMethod yX5_number ∈ BG := tb4 (i := 59) (by decide +kernel) (by decide +kernel)
theorem b_co_yX5_number : Cond.code yX5_number cX5_number 5 (some .boolean) ∈ BG := tb4 (i := 60) (by decide +kernel) (by decide +kernel)
theorem b_ml_X5_135 : Cond.methodLink RX5 135 yX5_isFigure ∈ BG := tb4 (i := 61) (by decide +kernel) (by decide +kernel)
theorem b_stm_yX5_isFigure : Cond.static yX5_isFigure ∈ BG := tb4 (i := 62) (by decide +kernel) (by decide +kernel)
theorem b_co_yX5_isFigure : Cond.code yX5_isFigure cX5_isFigure 1 (some .boolean) ∈ BG := tb4 (i := 63) (by decide +kernel) (by decide +kernel)
theorem b_ml_X5_167 : Cond.methodLink RX5 167 yX5_readsDog ∈ BG := tb4 (i := 64) (by decide +kernel) (by decide +kernel)
theorem b_inm_yX5_readsDog : Cond.instanceMethod yX5_readsDog ∈ BG := tb4 (i := 66) (by decide +kernel) (by decide +kernel)
theorem b_co_yX5_readsDog : Cond.code yX5_readsDog cX5_readsDog 4 (some .boolean) ∈ BG := tb4 (i := 67) (by decide +kernel) (by decide +kernel)
theorem b_ml_X5_170 : Cond.methodLink RX5 170 yX5_readsBribe ∈ BG := tb4 (i := 68) (by decide +kernel) (by decide +kernel)
theorem b_inm_yX5_readsBribe : Cond.instanceMethod yX5_readsBribe ∈ BG := tb4 (i := 70) (by decide +kernel) (by decide +kernel)
theorem b_co_yX5_readsBribe : Cond.code yX5_readsBribe cX5_readsBribe 4 (some .boolean) ∈ BG := tb4 (i := 71) (by decide +kernel) (by decide +kernel)
theorem b_ml_X5_158 : Cond.methodLink RX5 158 yX5_has ∈ BG := tb4 (i := 72) (by decide +kernel) (by decide +kernel)
theorem b_stm_yX5_has : Cond.static yX5_has ∈ BG := tb4 (i := 73) (by decide +kernel) (by decide +kernel)
theorem b_co_yX5_has : Cond.code yX5_has cX5_has 2 (some .boolean) ∈ BG := tb4 (i := 74) (by decide +kernel) (by decide +kernel)
theorem b_ml_L_44 : Cond.methodLink RL 44 yX5_bribe ∈ BG := tb4 (i := 75) (by decide +kernel) (by decide +kernel)
theorem b_inm_yX5_bribe : Cond.instanceMethod yX5_bribe ∈ BG := tb4 (i := 76) (by decide +kernel) (by decide +kernel)
theorem b_se_yX5_bribe : Cond.selects RX5 yX5_bribe yX5_bribe ∈ BG := tb4 (i := 77) (by decide +kernel) (by decide +kernel)
theorem b_co_yX5_bribe : Cond.code yX5_bribe cX5_bribe 3 (some .int) ∈ BG := tb4 (i := 78) (by decide +kernel) (by decide +kernel)
theorem b_ml_X5_206 : Cond.methodLink RX5 206 yX5_isMan ∈ BG := tb4 (i := 79) (by decide +kernel) (by decide +kernel)
theorem b_inm_yX5_isMan : Cond.instanceMethod yX5_isMan ∈ BG := tb4 (i := 81) (by decide +kernel) (by decide +kernel)
theorem b_co_yX5_isMan : Cond.code yX5_isMan cX5_isMan 2 (some .boolean) ∈ BG := tb4 (i := 82) (by decide +kernel) (by decide +kernel)
theorem b_ml_X5_209 : Cond.methodLink RX5 209 yX5_isDog ∈ BG := tb4 (i := 83) (by decide +kernel) (by decide +kernel)
theorem b_inm_yX5_isDog : Cond.instanceMethod yX5_isDog ∈ BG := tb4 (i := 85) (by decide +kernel) (by decide +kernel)
theorem b_co_yX5_isDog : Cond.code yX5_isDog cX5_isDog 2 (some .boolean) ∈ BG := tb4 (i := 86) (by decide +kernel) (by decide +kernel)
theorem b_ml_X5_212 : Cond.methodLink RX5 212 yX5_no ∈ BG := tb4 (i := 87) (by decide +kernel) (by decide +kernel)
theorem b_inm_yX5_no : Cond.instanceMethod yX5_no ∈ BG := tb4 (i := 89) (by decide +kernel) (by decide +kernel)
theorem b_co_yX5_no : Cond.code yX5_no cX5_no 1 (some .int) ∈ BG := tb4 (i := 90) (by decide +kernel) (by decide +kernel)
theorem b_ml_X5_215 : Cond.methodLink RX5 215 yX5_notes ∈ BG := tb4 (i := 91) (by decide +kernel) (by decide +kernel)
theorem b_inm_yX5_notes : Cond.instanceMethod yX5_notes ∈ BG := tb4 (i := 93) (by decide +kernel) (by decide +kernel)
theorem b_co_yX5_notes : Cond.code yX5_notes cX5_notes 2 none ∈ BG := tb4 (i := 94) (by decide +kernel) (by decide +kernel)
theorem b_ml_X5_199 : Cond.methodLink RX5 199 yX5_lays ∈ BG := tb4 (i := 95) (by decide +kernel) (by decide +kernel)
theorem b_inm_yX5_lays : Cond.instanceMethod yX5_lays ∈ BG := tb4 (i := 97) (by decide +kernel) (by decide +kernel)
theorem b_co_yX5_lays : Cond.code yX5_lays cX5_lays 4 none ∈ BG := tb4 (i := 98) (by decide +kernel) (by decide +kernel)
theorem b_ml_L_48 : Cond.methodLink RL 48 yX5_round ∈ BG := tb4 (i := 99) (by decide +kernel) (by decide +kernel)
theorem b_inm_yX5_round : Cond.instanceMethod yX5_round ∈ BG := tb4 (i := 100) (by decide +kernel) (by decide +kernel)
theorem b_se_yX5_round : Cond.selects RX5 yX5_round yX5_round ∈ BG := tb4 (i := 101) (by decide +kernel) (by decide +kernel)
theorem b_co_yX5_round : Cond.code yX5_round cX5_round 3 (some .int) ∈ BG := tb4 (i := 102) (by decide +kernel) (by decide +kernel)
theorem b_ml_X5_218 : Cond.methodLink RX5 218 yX5_pass ∈ BG := tb4 (i := 103) (by decide +kernel) (by decide +kernel)
theorem b_inm_yX5_pass : Cond.instanceMethod yX5_pass ∈ BG := tb4 (i := 105) (by decide +kernel) (by decide +kernel)
theorem b_co_yX5_pass : Cond.code yX5_pass cX5_pass 2 none ∈ BG := tb4 (i := 106) (by decide +kernel) (by decide +kernel)
theorem b_ml_X5_192 : Cond.methodLink RX5 192 yX5_firstOf ∈ BG := tb4 (i := 107) (by decide +kernel) (by decide +kernel)
theorem b_inm_yX5_firstOf : Cond.instanceMethod yX5_firstOf ∈ BG := tb4 (i := 109) (by decide +kernel) (by decide +kernel)
theorem b_co_yX5_firstOf : Cond.code yX5_firstOf cX5_firstOf 2 (some .int) ∈ BG := tb4 (i := 110) (by decide +kernel) (by decide +kernel)
theorem b_ml_X5_195 : Cond.methodLink RX5 195 yX5_comesTo ∈ BG := tb4 (i := 111) (by decide +kernel) (by decide +kernel)
theorem b_inm_yX5_comesTo : Cond.instanceMethod yX5_comesTo ∈ BG := tb4 (i := 113) (by decide +kernel) (by decide +kernel)
theorem b_co_yX5_comesTo : Cond.code yX5_comesTo cX5_comesTo 6 (some .int) ∈ BG := tb4 (i := 114) (by decide +kernel) (by decide +kernel)
theorem b_ml_X5_186 : Cond.methodLink RX5 186 yX5_isBitten ∈ BG := tb4 (i := 115) (by decide +kernel) (by decide +kernel)
theorem b_inm_yX5_isBitten : Cond.instanceMethod yX5_isBitten ∈ BG := tb4 (i := 117) (by decide +kernel) (by decide +kernel)
theorem b_co_yX5_isBitten : Cond.code yX5_isBitten cX5_isBitten 9 (some .boolean) ∈ BG := tb4 (i := 118) (by decide +kernel) (by decide +kernel)
theorem b_ml_X5_179 : Cond.methodLink RX5 179 yX5_bitesMany ∈ BG := tb4 (i := 119) (by decide +kernel) (by decide +kernel)
theorem b_stm_yX5_bitesMany : Cond.static yX5_bitesMany ∈ BG := tb4 (i := 120) (by decide +kernel) (by decide +kernel)
theorem b_co_yX5_bitesMany : Cond.code yX5_bitesMany cX5_bitesMany 1 (some .int) ∈ BG := tb4 (i := 121) (by decide +kernel) (by decide +kernel)
theorem b_ml_X5_182 : Cond.methodLink RX5 182 yX5_bitesBy ∈ BG := tb4 (i := 122) (by decide +kernel) (by decide +kernel)
theorem b_stm_yX5_bitesBy : Cond.static yX5_bitesBy ∈ BG := tb4 (i := 123) (by decide +kernel) (by decide +kernel)
theorem b_co_yX5_bitesBy : Cond.code yX5_bitesBy cX5_bitesBy 3 (some .boolean) ∈ BG := tb4 (i := 124) (by decide +kernel) (by decide +kernel)
theorem b_ml_X5_189 : Cond.methodLink RX5 189 yX5_holeBy ∈ BG := tb4 (i := 125) (by decide +kernel) (by decide +kernel)
theorem b_stm_yX5_holeBy : Cond.static yX5_holeBy ∈ BG := tb4 (i := 126) (by decide +kernel) (by decide +kernel)
theorem b_co_yX5_holeBy : Cond.code yX5_holeBy cX5_holeBy 2 (some .int) ∈ BG := tb4 (i := 127) (by decide +kernel) (by decide +kernel)
theorem b_ml_X5_221 : Cond.methodLink RX5 221 yX5_postman ∈ BG := tb4 (i := 128) (by decide +kernel) (by decide +kernel)
theorem b_inm_yX5_postman : Cond.instanceMethod yX5_postman ∈ BG := tb4 (i := 130) (by decide +kernel) (by decide +kernel)
theorem b_co_yX5_postman : Cond.code yX5_postman cX5_postman 3 (some .int) ∈ BG := tb4 (i := 131) (by decide +kernel) (by decide +kernel)
theorem b_ml_L_52 : Cond.methodLink RL 52 yX5_undo ∈ BG := tb4 (i := 132) (by decide +kernel) (by decide +kernel)
theorem b_inm_yX5_undo : Cond.instanceMethod yX5_undo ∈ BG := tb4 (i := 133) (by decide +kernel) (by decide +kernel)
theorem b_se_yX5_undo : Cond.selects RX5 yX5_undo yX5_undo ∈ BG := tb4 (i := 134) (by decide +kernel) (by decide +kernel)
theorem b_co_yX5_undo : Cond.code yX5_undo cX5_undo 1 (some .int) ∈ BG := tb4 (i := 135) (by decide +kernel) (by decide +kernel)
theorem b_ml_X5_203 : Cond.methodLink RX5 203 yX5_takes ∈ BG := tb4 (i := 136) (by decide +kernel) (by decide +kernel)
theorem b_inm_yX5_takes : Cond.instanceMethod yX5_takes ∈ BG := tb4 (i := 138) (by decide +kernel) (by decide +kernel)
theorem b_co_yX5_takes : Cond.code yX5_takes cX5_takes 4 none ∈ BG := tb4 (i := 139) (by decide +kernel) (by decide +kernel)
theorem b_ml_L_56 : Cond.methodLink RL 56 yX5_of ∈ BG := tb4 (i := 140) (by decide +kernel) (by decide +kernel)
theorem b_inm_yX5_of : Cond.instanceMethod yX5_of ∈ BG := tb4 (i := 141) (by decide +kernel) (by decide +kernel)
theorem b_se_yX5_of : Cond.selects RX5 yX5_of yX5_of ∈ BG := tb4 (i := 142) (by decide +kernel) (by decide +kernel)
theorem b_co_yX5_of : Cond.code yX5_of cX5_of 3 (some .int) ∈ BG := tb4 (i := 143) (by decide +kernel) (by decide +kernel)
theorem b_ml_L_60 : Cond.methodLink RL 60 yX5_about ∈ BG := tb4 (i := 144) (by decide +kernel) (by decide +kernel)
theorem b_inm_yX5_about : Cond.instanceMethod yX5_about ∈ BG := tb4 (i := 145) (by decide +kernel) (by decide +kernel)
theorem b_se_yX5_about : Cond.selects RX5 yX5_about yX5_about ∈ BG := tb4 (i := 146) (by decide +kernel) (by decide +kernel)
theorem b_co_yX5_about : Cond.code yX5_about cX5_about 3 (some .int) ∈ BG := tb4 (i := 147) (by decide +kernel) (by decide +kernel)
theorem b_ml_L_64 : Cond.methodLink RL 64 yX5_bitten ∈ BG := tb4 (i := 148) (by decide +kernel) (by decide +kernel)
theorem b_inm_yX5_bitten : Cond.instanceMethod yX5_bitten ∈ BG := tb4 (i := 149) (by decide +kernel) (by decide +kernel)
theorem b_se_yX5_bitten : Cond.selects RX5 yX5_bitten yX5_bitten ∈ BG := tb4 (i := 150) (by decide +kernel) (by decide +kernel)
theorem b_co_yX5_bitten : Cond.code yX5_bitten cX5_bitten 5 (some .int) ∈ BG := tb4 (i := 151) (by decide +kernel) (by decide +kernel)
theorem b_ml_L_68 : Cond.methodLink RL 68 yX5_then ∈ BG := tb4 (i := 152) (by decide +kernel) (by decide +kernel)
theorem b_inm_yX5_then : Cond.instanceMethod yX5_then ∈ BG := tb4 (i := 153) (by decide +kernel) (by decide +kernel)
theorem b_se_yX5_then : Cond.selects RX5 yX5_then yX5_then ∈ BG := tb4 (i := 154) (by decide +kernel) (by decide +kernel)
theorem b_co_yX5_then : Cond.code yX5_then cX5_then 4 (some .int) ∈ BG := tb4 (i := 155) (by decide +kernel) (by decide +kernel)
theorem b_ml_X5_224 : Cond.methodLink RX5 224 yX5_puts ∈ BG := tb4 (i := 156) (by decide +kernel) (by decide +kernel)
theorem b_inm_yX5_puts : Cond.instanceMethod yX5_puts ∈ BG := tb4 (i := 158) (by decide +kernel) (by decide +kernel)
theorem b_co_yX5_puts : Cond.code yX5_puts cX5_puts 1 none ∈ BG := tb4 (i := 159) (by decide +kernel) (by decide +kernel)
theorem b_ml_X5_227 : Cond.methodLink RX5 227 yX5_back ∈ BG := tb4 (i := 160) (by decide +kernel) (by decide +kernel)
theorem b_inm_yX5_back : Cond.instanceMethod yX5_back ∈ BG := tb4 (i := 162) (by decide +kernel) (by decide +kernel)
theorem b_co_yX5_back : Cond.code yX5_back cX5_back 1 none ∈ BG := tb4 (i := 163) (by decide +kernel) (by decide +kernel)
theorem b_ml_L_72 : Cond.methodLink RL 72 yX5_won ∈ BG := tb4 (i := 164) (by decide +kernel) (by decide +kernel)
theorem b_inm_yX5_won : Cond.instanceMethod yX5_won ∈ BG := tb4 (i := 165) (by decide +kernel) (by decide +kernel)
theorem b_se_yX5_won : Cond.selects RX5 yX5_won yX5_won ∈ BG := tb4 (i := 166) (by decide +kernel) (by decide +kernel)
theorem b_co_yX5_won : Cond.code yX5_won cX5_won 3 (some .int) ∈ BG := tb4 (i := 167) (by decide +kernel) (by decide +kernel)
theorem b_ml_X5_233 : Cond.methodLink RX5 233 yX5_wonIn ∈ BG := tb4 (i := 168) (by decide +kernel) (by decide +kernel)
theorem b_inm_yX5_wonIn : Cond.instanceMethod yX5_wonIn ∈ BG := tb4 (i := 170) (by decide +kernel) (by decide +kernel)
theorem b_co_yX5_wonIn : Cond.code yX5_wonIn cX5_wonIn 4 (some .int) ∈ BG := tb4 (i := 171) (by decide +kernel) (by decide +kernel)
theorem b_ml_X5_230 : Cond.methodLink RX5 230 yX5_nextVillage ∈ BG := tb4 (i := 172) (by decide +kernel) (by decide +kernel)
theorem b_inm_yX5_nextVillage : Cond.instanceMethod yX5_nextVillage ∈ BG := tb4 (i := 174) (by decide +kernel) (by decide +kernel)
theorem b_co_yX5_nextVillage : Cond.code yX5_nextVillage cX5_nextVillage 3 (some .int) ∈ BG := tb4 (i := 175) (by decide +kernel) (by decide +kernel)
theorem b_ml_L_76 : Cond.methodLink RL 76 yX5_letters ∈ BG := tb4 (i := 176) (by decide +kernel) (by decide +kernel)
theorem b_inm_yX5_letters : Cond.instanceMethod yX5_letters ∈ BG := tb4 (i := 177) (by decide +kernel) (by decide +kernel)
theorem b_se_yX5_letters : Cond.selects RX5 yX5_letters yX5_letters ∈ BG := tb4 (i := 178) (by decide +kernel) (by decide +kernel)
theorem b_co_yX5_letters : Cond.code yX5_letters cX5_letters 4 (some .int) ∈ BG := tb4 (i := 179) (by decide +kernel) (by decide +kernel)
theorem b_ml_L_80 : Cond.methodLink RL 80 yX5_bribes ∈ BG := tb4 (i := 180) (by decide +kernel) (by decide +kernel)
theorem b_inm_yX5_bribes : Cond.instanceMethod yX5_bribes ∈ BG := tb4 (i := 181) (by decide +kernel) (by decide +kernel)
theorem b_se_yX5_bribes : Cond.selects RX5 yX5_bribes yX5_bribes ∈ BG := tb4 (i := 182) (by decide +kernel) (by decide +kernel)
theorem b_co_yX5_bribes : Cond.code yX5_bribes cX5_bribes 7 (some .int) ∈ BG := tb4 (i := 183) (by decide +kernel) (by decide +kernel)
theorem b_ml_X5_236 : Cond.methodLink RX5 236 yX5_hungerOf ∈ BG := tb4 (i := 184) (by decide +kernel) (by decide +kernel)
theorem b_inm_yX5_hungerOf : Cond.instanceMethod yX5_hungerOf ∈ BG := tb4 (i := 186) (by decide +kernel) (by decide +kernel)
theorem b_co_yX5_hungerOf : Cond.code yX5_hungerOf cX5_hungerOf 4 (some .int) ∈ BG := tb4 (i := 187) (by decide +kernel) (by decide +kernel)
theorem b_ml_L_84 : Cond.methodLink RL 84 yX5_still ∈ BG := tb4 (i := 188) (by decide +kernel) (by decide +kernel)
theorem b_inm_yX5_still : Cond.instanceMethod yX5_still ∈ BG := tb4 (i := 189) (by decide +kernel) (by decide +kernel)
theorem b_se_yX5_still : Cond.selects RX5 yX5_still yX5_still ∈ BG := tb4 (i := 190) (by decide +kernel) (by decide +kernel)
theorem b_co_yX5_still : Cond.code yX5_still cX5_still 4 (some .int) ∈ BG := tb4 (i := 191) (by decide +kernel) (by decide +kernel)
theorem b_ml_L_88 : Cond.methodLink RL 88 yX5_first ∈ BG := tb4 (i := 192) (by decide +kernel) (by decide +kernel)
theorem b_inm_yX5_first : Cond.instanceMethod yX5_first ∈ BG := tb4 (i := 193) (by decide +kernel) (by decide +kernel)
theorem b_se_yX5_first : Cond.selects RX5 yX5_first yX5_first ∈ BG := tb4 (i := 194) (by decide +kernel) (by decide +kernel)
theorem b_co_yX5_first : Cond.code yX5_first cX5_first 5 (some .int) ∈ BG := tb4 (i := 195) (by decide +kernel) (by decide +kernel)
theorem b_ml_L_92 : Cond.methodLink RL 92 yX5_slept ∈ BG := tb4 (i := 196) (by decide +kernel) (by decide +kernel)
theorem b_inm_yX5_slept : Cond.instanceMethod yX5_slept ∈ BG := tb4 (i := 197) (by decide +kernel) (by decide +kernel)
theorem b_se_yX5_slept : Cond.selects RX5 yX5_slept yX5_slept ∈ BG := tb4 (i := 198) (by decide +kernel) (by decide +kernel)
theorem b_co_yX5_slept : Cond.code yX5_slept cX5_slept 9 (some .int) ∈ BG := tb4 (i := 199) (by decide +kernel) (by decide +kernel)
theorem b_ml_L_96 : Cond.methodLink RL 96 yX5_note ∈ BG := tb4 (i := 200) (by decide +kernel) (by decide +kernel)
theorem b_inm_yX5_note : Cond.instanceMethod yX5_note ∈ BG := tb4 (i := 201) (by decide +kernel) (by decide +kernel)
theorem b_se_yX5_note : Cond.selects RX5 yX5_note yX5_note ∈ BG := tb4 (i := 202) (by decide +kernel) (by decide +kernel)
theorem b_co_yX5_note : Cond.code yX5_note cX5_note 5 (some .int) ∈ BG := tb4 (i := 203) (by decide +kernel) (by decide +kernel)
theorem b_ml_L_100 : Cond.methodLink RL 100 yX5_forget ∈ BG := tb4 (i := 204) (by decide +kernel) (by decide +kernel)
theorem b_inm_yX5_forget : Cond.instanceMethod yX5_forget ∈ BG := tb4 (i := 205) (by decide +kernel) (by decide +kernel)
theorem b_se_yX5_forget : Cond.selects RX5 yX5_forget yX5_forget ∈ BG := tb4 (i := 206) (by decide +kernel) (by decide +kernel)
theorem b_co_yX5_forget : Cond.code yX5_forget cX5_forget 2 (some .int) ∈ BG := tb4 (i := 207) (by decide +kernel) (by decide +kernel)
theorem b_ml_L_104 : Cond.methodLink RL 104 yX5_is ∈ BG := tb4 (i := 208) (by decide +kernel) (by decide +kernel)
theorem b_inm_yX5_is : Cond.instanceMethod yX5_is ∈ BG := tb4 (i := 209) (by decide +kernel) (by decide +kernel)
theorem b_se_yX5_is : Cond.selects RX5 yX5_is yX5_is ∈ BG := tb4 (i := 210) (by decide +kernel) (by decide +kernel)
theorem b_co_yX5_is : Cond.code yX5_is cX5_is 2 (some .int) ∈ BG := tb4 (i := 211) (by decide +kernel) (by decide +kernel)
theorem b_ml_X5_239 : Cond.methodLink RX5 239 yX5_kindsOf ∈ BG := tb4 (i := 212) (by decide +kernel) (by decide +kernel)
theorem b_inm_yX5_kindsOf : Cond.instanceMethod yX5_kindsOf ∈ BG := tb4 (i := 214) (by decide +kernel) (by decide +kernel)
theorem b_co_yX5_kindsOf : Cond.code yX5_kindsOf cX5_kindsOf 7 (some .int) ∈ BG := tb4 (i := 215) (by decide +kernel) (by decide +kernel)
theorem b_ml_L_108 : Cond.methodLink RL 108 yX5_send ∈ BG := tb4 (i := 216) (by decide +kernel) (by decide +kernel)
theorem b_inm_yX5_send : Cond.instanceMethod yX5_send ∈ BG := tb4 (i := 217) (by decide +kernel) (by decide +kernel)
theorem b_se_yX5_send : Cond.selects RX5 yX5_send yX5_send ∈ BG := tb4 (i := 218) (by decide +kernel) (by decide +kernel)
theorem b_co_yX5_send : Cond.code yX5_send cX5_send 10 (some .int) ∈ BG := tb4 (i := 219) (by decide +kernel) (by decide +kernel)
theorem b_ct_X5_242 : Cond.constant RX5 242 (1048576) ∈ BG := tb4 (i := 220) (by decide +kernel) (by decide +kernel)
theorem b_ml_L_113 : Cond.methodLink RL 113 yX5_two ∈ BG := tb4 (i := 221) (by decide +kernel) (by decide +kernel)
theorem b_inm_yX5_two : Cond.instanceMethod yX5_two ∈ BG := tb4 (i := 222) (by decide +kernel) (by decide +kernel)
theorem b_se_yX5_two : Cond.selects RX5 yX5_two yX5_two ∈ BG := tb4 (i := 223) (by decide +kernel) (by decide +kernel)
theorem b_co_yX5_two : Cond.code yX5_two cX5_two 8 (some .int) ∈ BG := tb4 (i := 224) (by decide +kernel) (by decide +kernel)
theorem b_ml_X5_249 : Cond.methodLink RX5 249 yX5_ten ∈ BG := tb4 (i := 225) (by decide +kernel) (by decide +kernel)
theorem b_inm_yX5_ten : Cond.instanceMethod yX5_ten ∈ BG := tb4 (i := 227) (by decide +kernel) (by decide +kernel)
theorem b_co_yX5_ten : Cond.code yX5_ten cX5_ten 1 (some .int) ∈ BG := tb4 (i := 228) (by decide +kernel) (by decide +kernel)
theorem b_ml_X5_243 : Cond.methodLink RX5 243 yX5_isChoice ∈ BG := tb4 (i := 229) (by decide +kernel) (by decide +kernel)
theorem b_inm_yX5_isChoice : Cond.instanceMethod yX5_isChoice ∈ BG := tb4 (i := 231) (by decide +kernel) (by decide +kernel)
theorem b_co_yX5_isChoice : Cond.code yX5_isChoice cX5_isChoice 2 (some .boolean) ∈ BG := tb4 (i := 232) (by decide +kernel) (by decide +kernel)
theorem b_ml_X5_252 : Cond.methodLink RX5 252 yX5_rests ∈ BG := tb4 (i := 233) (by decide +kernel) (by decide +kernel)
theorem b_inm_yX5_rests : Cond.instanceMethod yX5_rests ∈ BG := tb4 (i := 235) (by decide +kernel) (by decide +kernel)
theorem b_co_yX5_rests : Cond.code yX5_rests cX5_rests 7 (some .boolean) ∈ BG := tb4 (i := 236) (by decide +kernel) (by decide +kernel)
theorem b_ml_X5_246 : Cond.methodLink RX5 246 yX5_gets ∈ BG := tb4 (i := 237) (by decide +kernel) (by decide +kernel)
theorem b_inm_yX5_gets : Cond.instanceMethod yX5_gets ∈ BG := tb4 (i := 239) (by decide +kernel) (by decide +kernel)
theorem b_co_yX5_gets : Cond.code yX5_gets cX5_gets 5 (some .int) ∈ BG := tb5 (i := 0) (by decide +kernel) (by decide +kernel)
theorem b_ml_L_117 : Cond.methodLink RL 117 yX5_strays ∈ BG := tb5 (i := 1) (by decide +kernel) (by decide +kernel)
theorem b_inm_yX5_strays : Cond.instanceMethod yX5_strays ∈ BG := tb5 (i := 2) (by decide +kernel) (by decide +kernel)
theorem b_se_yX5_strays : Cond.selects RX5 yX5_strays yX5_strays ∈ BG := tb5 (i := 3) (by decide +kernel) (by decide +kernel)
theorem b_co_yX5_strays : Cond.code yX5_strays cX5_strays 3 (some .int) ∈ BG := tb5 (i := 4) (by decide +kernel) (by decide +kernel)
theorem b_ct_X5_259 : Cond.constantLong RX5 259 (10) ∈ BG := tb5 (i := 5) (by decide +kernel) (by decide +kernel)
theorem b_ml_X5_261 : Cond.methodLink RX5 261 yX5_lay ∈ BG := tb5 (i := 6) (by decide +kernel) (by decide +kernel)
theorem b_inm_yX5_lay : Cond.instanceMethod yX5_lay ∈ BG := tb5 (i := 8) (by decide +kernel) (by decide +kernel)
theorem b_co_yX5_lay : Cond.code yX5_lay cX5_lay 11 none ∈ BG := tb5 (i := 9) (by decide +kernel) (by decide +kernel)
theorem b_ml_L_121 : Cond.methodLink RL 121 yX5_villages ∈ BG := tb5 (i := 10) (by decide +kernel) (by decide +kernel)
theorem b_inm_yX5_villages : Cond.instanceMethod yX5_villages ∈ BG := tb5 (i := 11) (by decide +kernel) (by decide +kernel)
theorem b_se_yX5_villages : Cond.selects RX5 yX5_villages yX5_villages ∈ BG := tb5 (i := 12) (by decide +kernel) (by decide +kernel)
theorem b_co_yX5_villages : Cond.code yX5_villages cX5_villages 6 (some .int) ∈ BG := tb5 (i := 13) (by decide +kernel) (by decide +kernel)
theorem b_ct_X5_265 : Cond.constant RX5 265 (999999) ∈ BG := tb5 (i := 14) (by decide +kernel) (by decide +kernel)
theorem b_ct_X5_266 : Cond.constantLong RX5 266 (1103515245) ∈ BG := tb5 (i := 15) (by decide +kernel) (by decide +kernel)
theorem b_ct_X5_268 : Cond.constantLong RX5 268 (12345) ∈ BG := tb5 (i := 16) (by decide +kernel) (by decide +kernel)
theorem b_ct_X5_270 : Cond.constantLong RX5 270 (2147483648) ∈ BG := tb5 (i := 17) (by decide +kernel) (by decide +kernel)
theorem b_ct_X5_272 : Cond.constantLong RX5 272 (65536) ∈ BG := tb5 (i := 18) (by decide +kernel) (by decide +kernel)
theorem b_ct_X5_274 : Cond.constantLong RX5 274 (128) ∈ BG := tb5 (i := 19) (by decide +kernel) (by decide +kernel)
theorem b_ml_L_126 : Cond.methodLink RL 126 yX5_part ∈ BG := tb5 (i := 20) (by decide +kernel) (by decide +kernel)
theorem b_inm_yX5_part : Cond.instanceMethod yX5_part ∈ BG := tb5 (i := 21) (by decide +kernel) (by decide +kernel)
theorem b_se_yX5_part : Cond.selects RX5 yX5_part yX5_part ∈ BG := tb5 (i := 22) (by decide +kernel) (by decide +kernel)
theorem b_co_yX5_part : Cond.code yX5_part cX5_part 2 (some .long) ∈ BG := tb5 (i := 23) (by decide +kernel) (by decide +kernel)
theorem b_ml_L_130 : Cond.methodLink RL 130 yX5_image ∈ BG := tb5 (i := 24) (by decide +kernel) (by decide +kernel)
theorem b_inm_yX5_image : Cond.instanceMethod yX5_image ∈ BG := tb5 (i := 25) (by decide +kernel) (by decide +kernel)
theorem b_se_yX5_image : Cond.selects RX5 yX5_image yX5_image ∈ BG := tb5 (i := 26) (by decide +kernel) (by decide +kernel)
theorem b_co_yX5_image : Cond.code yX5_image cX5_image 4 (some .int) ∈ BG := tb5 (i := 27) (by decide +kernel) (by decide +kernel)
theorem b_ml_L_134 : Cond.methodLink RL 134 yX5_from ∈ BG := tb5 (i := 28) (by decide +kernel) (by decide +kernel)
theorem b_inm_yX5_from : Cond.instanceMethod yX5_from ∈ BG := tb5 (i := 29) (by decide +kernel) (by decide +kernel)
theorem b_se_yX5_from : Cond.selects RX5 yX5_from yX5_from ∈ BG := tb5 (i := 30) (by decide +kernel) (by decide +kernel)
theorem b_co_yX5_from : Cond.code yX5_from cX5_from 4 (some .int) ∈ BG := tb5 (i := 31) (by decide +kernel) (by decide +kernel)
theorem b_ml_L_138 : Cond.methodLink RL 138 yX5_status ∈ BG := tb5 (i := 32) (by decide +kernel) (by decide +kernel)
theorem b_inm_yX5_status : Cond.instanceMethod yX5_status ∈ BG := tb5 (i := 33) (by decide +kernel) (by decide +kernel)
theorem b_se_yX5_status : Cond.selects RX5 yX5_status yX5_status ∈ BG := tb5 (i := 34) (by decide +kernel) (by decide +kernel)
theorem b_co_yX5_status : Cond.code yX5_status cX5_status 2 (some .int) ∈ BG := tb5 (i := 35) (by decide +kernel) (by decide +kernel)
theorem b_ml_L_142 : Cond.methodLink RL 142 yX5_count ∈ BG := tb5 (i := 36) (by decide +kernel) (by decide +kernel)
theorem b_inm_yX5_count : Cond.instanceMethod yX5_count ∈ BG := tb5 (i := 37) (by decide +kernel) (by decide +kernel)
theorem b_se_yX5_count : Cond.selects RX5 yX5_count yX5_count ∈ BG := tb5 (i := 38) (by decide +kernel) (by decide +kernel)
theorem b_co_yX5_count : Cond.code yX5_count cX5_count 2 (some .int) ∈ BG := tb5 (i := 39) (by decide +kernel) (by decide +kernel)
theorem b_ml_X5_279 : Cond.methodLink RX5 279 yX5_countOf ∈ BG := tb5 (i := 40) (by decide +kernel) (by decide +kernel)
theorem b_inm_yX5_countOf : Cond.instanceMethod yX5_countOf ∈ BG := tb5 (i := 42) (by decide +kernel) (by decide +kernel)
theorem b_co_yX5_countOf : Cond.code yX5_countOf cX5_countOf 2 (some .int) ∈ BG := tb5 (i := 43) (by decide +kernel) (by decide +kernel)
theorem b_ml_X5_276 : Cond.methodLink RX5 276 yX5_bits ∈ BG := tb5 (i := 44) (by decide +kernel) (by decide +kernel)
theorem b_stm_yX5_bits : Cond.static yX5_bits ∈ BG := tb5 (i := 45) (by decide +kernel) (by decide +kernel)
theorem b_co_yX5_bits : Cond.code yX5_bits cX5_bits 3 (some .int) ∈ BG := tb5 (i := 46) (by decide +kernel) (by decide +kernel)
theorem b_ml_L_147 : Cond.methodLink RL 147 yX5_digest ∈ BG := tb5 (i := 47) (by decide +kernel) (by decide +kernel)
theorem b_inm_yX5_digest : Cond.instanceMethod yX5_digest ∈ BG := tb5 (i := 48) (by decide +kernel) (by decide +kernel)
theorem b_se_yX5_digest : Cond.selects RX5 yX5_digest yX5_digest ∈ BG := tb5 (i := 49) (by decide +kernel) (by decide +kernel)
theorem b_co_yX5_digest : Cond.code yX5_digest cX5_digest 2 (some .long) ∈ BG := tb5 (i := 50) (by decide +kernel) (by decide +kernel)
theorem b_ct_X5_287 : Cond.constantLong RX5 287 (1367) ∈ BG := tb5 (i := 51) (by decide +kernel) (by decide +kernel)
theorem b_ml_X5_289 : Cond.methodLink RX5 289 yX5_mix ∈ BG := tb5 (i := 52) (by decide +kernel) (by decide +kernel)
theorem b_inm_yX5_mix : Cond.instanceMethod yX5_mix ∈ BG := tb5 (i := 54) (by decide +kernel) (by decide +kernel)
theorem b_co_yX5_mix : Cond.code yX5_mix cX5_mix 3 none ∈ BG := tb5 (i := 55) (by decide +kernel) (by decide +kernel)
theorem b_ct_X5_282 : Cond.constantLong RX5 282 (31) ∈ BG := tb5 (i := 56) (by decide +kernel) (by decide +kernel)
theorem b_fl_J0_9 : Cond.fieldLink RJ0 9 "java/lang/String" "value" "[B" ∈ BG := tb5 (i := 57) (by decide +kernel) (by decide +kernel)
theorem b_fl_J0_15 : Cond.fieldLink RJ0 15 "java/lang/String" "coder" "B" ∈ BG := tb5 (i := 58) (by decide +kernel) (by decide +kernel)
theorem b_se_yX4_refuse : Cond.selects RX4 yX4_refuse yX4_refuse ∈ BG := tbs (i := 0) (by decide +kernel) (by decide +kernel)
theorem b_se_yX4_lookAhead : Cond.selects RX4 yX4_lookAhead yX4_lookAhead ∈ BG := tbs (i := 1) (by decide +kernel) (by decide +kernel)
theorem b_se_yX4_winsByBribing : Cond.selects RX4 yX4_winsByBribing yX4_winsByBribing ∈ BG := tbs (i := 2) (by decide +kernel) (by decide +kernel)
theorem b_se_yX4_fillGains : Cond.selects RX4 yX4_fillGains yX4_fillGains ∈ BG := tbs (i := 3) (by decide +kernel) (by decide +kernel)
theorem b_se_yX4_mayChoose : Cond.selects RX4 yX4_mayChoose yX4_mayChoose ∈ BG := tbs (i := 4) (by decide +kernel) (by decide +kernel)
theorem b_se_yX4_rests : Cond.selects RX4 yX4_rests yX4_rests ∈ BG := tbs (i := 5) (by decide +kernel) (by decide +kernel)
theorem b_se_yX4_counted : Cond.selects RX4 yX4_counted yX4_counted ∈ BG := tbs (i := 6) (by decide +kernel) (by decide +kernel)
theorem b_se_yX5_begin : Cond.selects RX5 yX5_begin yX5_begin ∈ BG := tbs (i := 7) (by decide +kernel) (by decide +kernel)
theorem b_se_yX5_bad : Cond.selects RX5 yX5_bad yX5_bad ∈ BG := tbs (i := 8) (by decide +kernel) (by decide +kernel)
theorem b_se_yX5_full : Cond.selects RX5 yX5_full yX5_full ∈ BG := tbs (i := 9) (by decide +kernel) (by decide +kernel)
theorem b_se_yX5_addMan : Cond.selects RX5 yX5_addMan yX5_addMan ∈ BG := tbs (i := 10) (by decide +kernel) (by decide +kernel)
theorem b_se_yX5_addDog : Cond.selects RX5 yX5_addDog yX5_addDog ∈ BG := tbs (i := 11) (by decide +kernel) (by decide +kernel)
theorem b_se_yX5_readsVillage : Cond.selects RX5 yX5_readsVillage yX5_readsVillage ∈ BG := tbs (i := 12) (by decide +kernel) (by decide +kernel)
theorem b_se_yX5_skip : Cond.selects RX5 yX5_skip yX5_skip ∈ BG := tbs (i := 13) (by decide +kernel) (by decide +kernel)
theorem b_se_yX5_here : Cond.selects RX5 yX5_here yX5_here ∈ BG := tbs (i := 14) (by decide +kernel) (by decide +kernel)
theorem b_se_yX5_wordHere : Cond.selects RX5 yX5_wordHere yX5_wordHere ∈ BG := tbs (i := 15) (by decide +kernel) (by decide +kernel)
theorem b_se_yX5_wordSize : Cond.selects RX5 yX5_wordSize yX5_wordSize ∈ BG := tbs (i := 16) (by decide +kernel) (by decide +kernel)
theorem b_se_yX5_letter : Cond.selects RX5 yX5_letter yX5_letter ∈ BG := tbs (i := 17) (by decide +kernel) (by decide +kernel)
theorem b_se_yX5_ends : Cond.selects RX5 yX5_ends yX5_ends ∈ BG := tbs (i := 18) (by decide +kernel) (by decide +kernel)
theorem b_se_yX5_readsItem : Cond.selects RX5 yX5_readsItem yX5_readsItem ∈ BG := tbs (i := 19) (by decide +kernel) (by decide +kernel)
theorem b_se_yX5_readsMan : Cond.selects RX5 yX5_readsMan yX5_readsMan ∈ BG := tbs (i := 20) (by decide +kernel) (by decide +kernel)
theorem b_se_yX5_number : Cond.selects RX5 yX5_number yX5_number ∈ BG := tbs (i := 21) (by decide +kernel) (by decide +kernel)
theorem b_se_yX5_readsDog : Cond.selects RX5 yX5_readsDog yX5_readsDog ∈ BG := tbs (i := 22) (by decide +kernel) (by decide +kernel)
theorem b_se_yX5_readsBribe : Cond.selects RX5 yX5_readsBribe yX5_readsBribe ∈ BG := tbs (i := 23) (by decide +kernel) (by decide +kernel)
theorem b_se_yX5_isMan : Cond.selects RX5 yX5_isMan yX5_isMan ∈ BG := tbs (i := 24) (by decide +kernel) (by decide +kernel)
theorem b_se_yX5_isDog : Cond.selects RX5 yX5_isDog yX5_isDog ∈ BG := tbs (i := 25) (by decide +kernel) (by decide +kernel)
theorem b_se_yX5_no : Cond.selects RX5 yX5_no yX5_no ∈ BG := tbs (i := 26) (by decide +kernel) (by decide +kernel)
theorem b_se_yX5_notes : Cond.selects RX5 yX5_notes yX5_notes ∈ BG := tbs (i := 27) (by decide +kernel) (by decide +kernel)
theorem b_se_yX5_lays : Cond.selects RX5 yX5_lays yX5_lays ∈ BG := tbs (i := 28) (by decide +kernel) (by decide +kernel)
theorem b_se_yX5_pass : Cond.selects RX5 yX5_pass yX5_pass ∈ BG := tbs (i := 29) (by decide +kernel) (by decide +kernel)
theorem b_se_yX5_firstOf : Cond.selects RX5 yX5_firstOf yX5_firstOf ∈ BG := tbs (i := 30) (by decide +kernel) (by decide +kernel)
theorem b_se_yX5_comesTo : Cond.selects RX5 yX5_comesTo yX5_comesTo ∈ BG := tbs (i := 31) (by decide +kernel) (by decide +kernel)
theorem b_se_yX5_isBitten : Cond.selects RX5 yX5_isBitten yX5_isBitten ∈ BG := tbs (i := 32) (by decide +kernel) (by decide +kernel)
theorem b_se_yX5_postman : Cond.selects RX5 yX5_postman yX5_postman ∈ BG := tbs (i := 33) (by decide +kernel) (by decide +kernel)
theorem b_se_yX5_takes : Cond.selects RX5 yX5_takes yX5_takes ∈ BG := tbs (i := 34) (by decide +kernel) (by decide +kernel)
theorem b_se_yX5_puts : Cond.selects RX5 yX5_puts yX5_puts ∈ BG := tbs (i := 35) (by decide +kernel) (by decide +kernel)
theorem b_se_yX5_back : Cond.selects RX5 yX5_back yX5_back ∈ BG := tbs (i := 36) (by decide +kernel) (by decide +kernel)
theorem b_se_yX5_wonIn : Cond.selects RX5 yX5_wonIn yX5_wonIn ∈ BG := tbs (i := 37) (by decide +kernel) (by decide +kernel)
theorem b_se_yX5_nextVillage : Cond.selects RX5 yX5_nextVillage yX5_nextVillage ∈ BG := tbs (i := 38) (by decide +kernel) (by decide +kernel)
theorem b_se_yX5_hungerOf : Cond.selects RX5 yX5_hungerOf yX5_hungerOf ∈ BG := tbs (i := 39) (by decide +kernel) (by decide +kernel)
theorem b_se_yX5_kindsOf : Cond.selects RX5 yX5_kindsOf yX5_kindsOf ∈ BG := tbs (i := 40) (by decide +kernel) (by decide +kernel)
theorem b_se_yX5_ten : Cond.selects RX5 yX5_ten yX5_ten ∈ BG := tbs (i := 41) (by decide +kernel) (by decide +kernel)
theorem b_se_yX5_isChoice : Cond.selects RX5 yX5_isChoice yX5_isChoice ∈ BG := tbs (i := 42) (by decide +kernel) (by decide +kernel)
theorem b_se_yX5_rests : Cond.selects RX5 yX5_rests yX5_rests ∈ BG := tbs (i := 43) (by decide +kernel) (by decide +kernel)
theorem b_se_yX5_gets : Cond.selects RX5 yX5_gets yX5_gets ∈ BG := tbs (i := 44) (by decide +kernel) (by decide +kernel)
theorem b_se_yX5_lay : Cond.selects RX5 yX5_lay yX5_lay ∈ BG := tbs (i := 45) (by decide +kernel) (by decide +kernel)
theorem b_se_yX5_countOf : Cond.selects RX5 yX5_countOf yX5_countOf ∈ BG := tbs (i := 46) (by decide +kernel) (by decide +kernel)
theorem b_se_yX5_mix : Cond.selects RX5 yX5_mix yX5_mix ∈ BG := tbs (i := 47) (by decide +kernel) (by decide +kernel)
theorem inB0 : ∀ w ∈ wsX00, w ∈ BG := fun w h => bg ((show ∀ w ∈ wsX00, w ∈ lw_tbl by decide +kernel) w h) ((show ∀ w ∈ wsX00, goodWord w = true by decide +kernel) w h)
theorem inB1 : ∀ w ∈ wsX10, w ∈ BG := fun w h => bg ((show ∀ w ∈ wsX10, w ∈ lw_tbl by decide +kernel) w h) ((show ∀ w ∈ wsX10, goodWord w = true by decide +kernel) w h)
theorem inB2 : ∀ w ∈ wsX20, w ∈ BG := fun w h => bg ((show ∀ w ∈ wsX20, w ∈ lw_tbl by decide +kernel) w h) ((show ∀ w ∈ wsX20, goodWord w = true by decide +kernel) w h)
theorem inB3 : ∀ w ∈ wsX30, w ∈ BG := fun w h => bg ((show ∀ w ∈ wsX30, w ∈ lw_tbl by decide +kernel) w h) ((show ∀ w ∈ wsX30, goodWord w = true by decide +kernel) w h)
theorem inB4 : ∀ w ∈ wsX40, w ∈ BG := fun w h => bg ((show ∀ w ∈ wsX40, w ∈ lw_tbl by decide +kernel) w h) ((show ∀ w ∈ wsX40, goodWord w = true by decide +kernel) w h)
theorem inB5 : ∀ w ∈ wsX50, w ∈ BG := fun w h => bg ((show ∀ w ∈ wsX50, w ∈ lw_tbl by decide +kernel) w h) ((show ∀ w ∈ wsX50, goodWord w = true by decide +kernel) w h)
end
section
theorem dX0_wouldBite_0 : decode cX0_wouldBite 0 = .ok (.iload_n 0, 1) := by decide +kernel
theorem dX0_wouldBite_1 : decode cX0_wouldBite 1 = .ok (.tableswitch 64 2 5 #[31, 41, 31, 53], 31) := by decide +kernel
theorem dX0_wouldBite_32 : decode cX0_wouldBite 32 = .ok (.iload_n 1, 1) := by decide +kernel
theorem dX0_wouldBite_33 : decode cX0_wouldBite 33 = .ok (.ifCond .ne 7, 3) := by decide +kernel
theorem dX0_wouldBite_36 : decode cX0_wouldBite 36 = .ok (.iconst 1, 1) := by decide +kernel
theorem dX0_wouldBite_37 : decode cX0_wouldBite 37 = .ok (.goto 4, 3) := by decide +kernel
theorem dX0_wouldBite_40 : decode cX0_wouldBite 40 = .ok (.iconst 0, 1) := by decide +kernel
theorem dX0_wouldBite_41 : decode cX0_wouldBite 41 = .ok (.ireturn, 1) := by decide +kernel
theorem dX0_wouldBite_42 : decode cX0_wouldBite 42 = .ok (.iload_n 2, 1) := by decide +kernel
theorem dX0_wouldBite_43 : decode cX0_wouldBite 43 = .ok (.bipush 8, 2) := by decide +kernel
theorem dX0_wouldBite_45 : decode cX0_wouldBite 45 = .ok (.if_icmp .ge 7, 3) := by decide +kernel
theorem dX0_wouldBite_48 : decode cX0_wouldBite 48 = .ok (.iconst 1, 1) := by decide +kernel
theorem dX0_wouldBite_49 : decode cX0_wouldBite 49 = .ok (.goto 4, 3) := by decide +kernel
theorem dX0_wouldBite_52 : decode cX0_wouldBite 52 = .ok (.iconst 0, 1) := by decide +kernel
theorem dX0_wouldBite_53 : decode cX0_wouldBite 53 = .ok (.ireturn, 1) := by decide +kernel
theorem dX0_wouldBite_54 : decode cX0_wouldBite 54 = .ok (.iload_n 2, 1) := by decide +kernel
theorem dX0_wouldBite_55 : decode cX0_wouldBite 55 = .ok (.iconst 5, 1) := by decide +kernel
theorem dX0_wouldBite_56 : decode cX0_wouldBite 56 = .ok (.if_icmp .ge 7, 3) := by decide +kernel
theorem dX0_wouldBite_59 : decode cX0_wouldBite 59 = .ok (.iconst 1, 1) := by decide +kernel
theorem dX0_wouldBite_60 : decode cX0_wouldBite 60 = .ok (.goto 4, 3) := by decide +kernel
theorem dX0_wouldBite_63 : decode cX0_wouldBite 63 = .ok (.iconst 0, 1) := by decide +kernel
theorem dX0_wouldBite_64 : decode cX0_wouldBite 64 = .ok (.ireturn, 1) := by decide +kernel
theorem dX0_wouldBite_65 : decode cX0_wouldBite 65 = .ok (.iload_n 1, 1) := by decide +kernel
theorem dX0_wouldBite_66 : decode cX0_wouldBite 66 = .ok (.ifCond .ne 13, 3) := by decide +kernel
theorem dX0_wouldBite_69 : decode cX0_wouldBite 69 = .ok (.iload_n 2, 1) := by decide +kernel
theorem dX0_wouldBite_70 : decode cX0_wouldBite 70 = .ok (.bipush 8, 2) := by decide +kernel
theorem dX0_wouldBite_72 : decode cX0_wouldBite 72 = .ok (.if_icmp .ge 7, 3) := by decide +kernel
theorem dX0_wouldBite_75 : decode cX0_wouldBite 75 = .ok (.iconst 1, 1) := by decide +kernel
theorem dX0_wouldBite_76 : decode cX0_wouldBite 76 = .ok (.goto 4, 3) := by decide +kernel
theorem dX0_wouldBite_79 : decode cX0_wouldBite 79 = .ok (.iconst 0, 1) := by decide +kernel
theorem dX0_wouldBite_80 : decode cX0_wouldBite 80 = .ok (.ireturn, 1) := by decide +kernel
theorem dX0_bites_0 : decode cX0_bites 0 = .ok (.iload_n 0, 1) := by decide +kernel
theorem dX0_bites_1 : decode cX0_bites 1 = .ok (.tableswitch 31 3 5 #[27, 29, 27], 27) := by decide +kernel
theorem dX0_bites_28 : decode cX0_bites 28 = .ok (.iconst 3, 1) := by decide +kernel
theorem dX0_bites_29 : decode cX0_bites 29 = .ok (.ireturn, 1) := by decide +kernel
theorem dX0_bites_30 : decode cX0_bites 30 = .ok (.iconst 1, 1) := by decide +kernel
theorem dX0_bites_31 : decode cX0_bites 31 = .ok (.ireturn, 1) := by decide +kernel
theorem dX0_bites_32 : decode cX0_bites 32 = .ok (.iconst 2, 1) := by decide +kernel
theorem dX0_bites_33 : decode cX0_bites 33 = .ok (.ireturn, 1) := by decide +kernel
theorem dX0_width_0 : decode cX0_width 0 = .ok (.iload_n 0, 1) := by decide +kernel
theorem dX0_width_1 : decode cX0_width 1 = .ok (.tableswitch 45 1 5 #[35, 37, 45, 37, 41], 35) := by decide +kernel
theorem dX0_width_36 : decode cX0_width 36 = .ok (.iconst 0, 1) := by decide +kernel
theorem dX0_width_37 : decode cX0_width 37 = .ok (.ireturn, 1) := by decide +kernel
theorem dX0_width_38 : decode cX0_width 38 = .ok (.iconst 2, 1) := by decide +kernel
theorem dX0_width_39 : decode cX0_width 39 = .ok (.iload_n 1, 1) := by decide +kernel
theorem dX0_width_40 : decode cX0_width 40 = .ok (.imul, 1) := by decide +kernel
theorem dX0_width_41 : decode cX0_width 41 = .ok (.ireturn, 1) := by decide +kernel
theorem dX0_width_42 : decode cX0_width 42 = .ok (.iload_n 1, 1) := by decide +kernel
theorem dX0_width_43 : decode cX0_width 43 = .ok (.iconst 1, 1) := by decide +kernel
theorem dX0_width_44 : decode cX0_width 44 = .ok (.iadd, 1) := by decide +kernel
theorem dX0_width_45 : decode cX0_width 45 = .ok (.ireturn, 1) := by decide +kernel
theorem dX0_width_46 : decode cX0_width 46 = .ok (.iload_n 1, 1) := by decide +kernel
theorem dX0_width_47 : decode cX0_width 47 = .ok (.ireturn, 1) := by decide +kernel
theorem dX0_biting_0 : decode cX0_biting 0 = .ok (.iconst 0, 1) := by decide +kernel
theorem dX0_biting_1 : decode cX0_biting 1 = .ok (.istore_n 2, 1) := by decide +kernel
theorem dX0_biting_2 : decode cX0_biting 2 = .ok (.iconst 0, 1) := by decide +kernel
theorem dX0_biting_3 : decode cX0_biting 3 = .ok (.istore_n 3, 1) := by decide +kernel
theorem dX0_biting_4 : decode cX0_biting 4 = .ok (.iload_n 3, 1) := by decide +kernel
theorem dX0_biting_5 : decode cX0_biting 5 = .ok (.bipush 6, 2) := by decide +kernel
theorem dX0_biting_7 : decode cX0_biting 7 = .ok (.if_icmp .ge 24, 3) := by decide +kernel
theorem dX0_biting_10 : decode cX0_biting 10 = .ok (.iload_n 3, 1) := by decide +kernel
theorem dX0_biting_11 : decode cX0_biting 11 = .ok (.iload_n 0, 1) := by decide +kernel
theorem dX0_biting_12 : decode cX0_biting 12 = .ok (.iload_n 1, 1) := by decide +kernel
theorem dX0_biting_13 : decode cX0_biting 13 = .ok (.invokestatic 11, 3) := by decide +kernel
theorem dX0_biting_16 : decode cX0_biting 16 = .ok (.ifCond .eq 9, 3) := by decide +kernel
theorem dX0_biting_19 : decode cX0_biting 19 = .ok (.iload_n 2, 1) := by decide +kernel
theorem dX0_biting_20 : decode cX0_biting 20 = .ok (.iconst 1, 1) := by decide +kernel
theorem dX0_biting_21 : decode cX0_biting 21 = .ok (.iload_n 3, 1) := by decide +kernel
theorem dX0_biting_22 : decode cX0_biting 22 = .ok (.ishl, 1) := by decide +kernel
theorem dX0_biting_23 : decode cX0_biting 23 = .ok (.ior, 1) := by decide +kernel
theorem dX0_biting_24 : decode cX0_biting 24 = .ok (.istore_n 2, 1) := by decide +kernel
theorem dX0_biting_25 : decode cX0_biting 25 = .ok (.iinc 3 1, 3) := by decide +kernel
theorem dX0_biting_28 : decode cX0_biting 28 = .ok (.goto (-24), 3) := by decide +kernel
theorem dX0_biting_31 : decode cX0_biting 31 = .ok (.iload_n 2, 1) := by decide +kernel
theorem dX0_biting_32 : decode cX0_biting 32 = .ok (.ireturn, 1) := by decide +kernel
theorem dX1_init_0 : decode cX1_init 0 = .ok (.aload_n 0, 1) := by decide +kernel
theorem dX1_init_1 : decode cX1_init 1 = .ok (.invokespecial 3, 3) := by decide +kernel
theorem dX1_init_4 : decode cX1_init 4 = .ok (.aload_n 0, 1) := by decide +kernel
theorem dX1_init_5 : decode cX1_init 5 = .ok (.aload_n 1, 1) := by decide +kernel
theorem dX1_init_6 : decode cX1_init 6 = .ok (.putfield 9, 3) := by decide +kernel
theorem dX1_init_9 : decode cX1_init 9 = .ok (.aload_n 0, 1) := by decide +kernel
theorem dX1_init_10 : decode cX1_init 10 = .ok (.aload_n 2, 1) := by decide +kernel
theorem dX1_init_11 : decode cX1_init 11 = .ok (.putfield 15, 3) := by decide +kernel
theorem dX1_init_14 : decode cX1_init 14 = .ok (.return_, 1) := by decide +kernel
theorem dX1_readVillage_0 : decode cX1_readVillage 0 = .ok (.aload_n 0, 1) := by decide +kernel
theorem dX1_readVillage_1 : decode cX1_readVillage 1 = .ok (.getfield 15, 3) := by decide +kernel
theorem dX1_readVillage_4 : decode cX1_readVillage 4 = .ok (.invokevirtual 19, 3) := by decide +kernel
theorem dX1_readVillage_7 : decode cX1_readVillage 7 = .ok (.aload_n 0, 1) := by decide +kernel
theorem dX1_readVillage_8 : decode cX1_readVillage 8 = .ok (.invokevirtual 24, 3) := by decide +kernel
theorem dX1_readVillage_11 : decode cX1_readVillage 11 = .ok (.aload_n 0, 1) := by decide +kernel
theorem dX1_readVillage_12 : decode cX1_readVillage 12 = .ok (.ldc 27, 2) := by decide +kernel
theorem dX1_readVillage_14 : decode cX1_readVillage 14 = .ok (.invokevirtual 29, 3) := by decide +kernel
theorem dX1_readVillage_17 : decode cX1_readVillage 17 = .ok (.ifCond .eq 10, 3) := by decide +kernel
theorem dX1_readVillage_20 : decode cX1_readVillage 20 = .ok (.aload_n 0, 1) := by decide +kernel
theorem dX1_readVillage_21 : decode cX1_readVillage 21 = .ok (.invokevirtual 33, 3) := by decide +kernel
theorem dX1_readVillage_24 : decode cX1_readVillage 24 = .ok (.ifCond .ne 5, 3) := by decide +kernel
theorem dX1_readVillage_27 : decode cX1_readVillage 27 = .ok (.iconst (-1), 1) := by decide +kernel
theorem dX1_readVillage_28 : decode cX1_readVillage 28 = .ok (.ireturn, 1) := by decide +kernel
theorem dX1_readVillage_29 : decode cX1_readVillage 29 = .ok (.iconst 1, 1) := by decide +kernel
theorem dX1_readVillage_30 : decode cX1_readVillage 30 = .ok (.istore_n 1, 1) := by decide +kernel
theorem dX1_readVillage_31 : decode cX1_readVillage 31 = .ok (.aload_n 0, 1) := by decide +kernel
theorem dX1_readVillage_32 : decode cX1_readVillage 32 = .ok (.invokevirtual 24, 3) := by decide +kernel
theorem dX1_readVillage_35 : decode cX1_readVillage 35 = .ok (.iconst 0, 1) := by decide +kernel
theorem dX1_readVillage_36 : decode cX1_readVillage 36 = .ok (.istore_n 2, 1) := by decide +kernel
theorem dX1_readVillage_37 : decode cX1_readVillage 37 = .ok (.iload_n 2, 1) := by decide +kernel
theorem dX1_readVillage_38 : decode cX1_readVillage 38 = .ok (.sipush 150, 3) := by decide +kernel
theorem dX1_readVillage_41 : decode cX1_readVillage 41 = .ok (.if_icmp .ge 32, 3) := by decide +kernel
theorem dX1_readVillage_44 : decode cX1_readVillage 44 = .ok (.aload_n 0, 1) := by decide +kernel
theorem dX1_readVillage_45 : decode cX1_readVillage 45 = .ok (.getfield 37, 3) := by decide +kernel
theorem dX1_readVillage_48 : decode cX1_readVillage 48 = .ok (.ifCond .eq 25, 3) := by decide +kernel
theorem dX1_readVillage_51 : decode cX1_readVillage 51 = .ok (.aload_n 0, 1) := by decide +kernel
theorem dX1_readVillage_52 : decode cX1_readVillage 52 = .ok (.invokevirtual 41, 3) := by decide +kernel
theorem dX1_readVillage_55 : decode cX1_readVillage 55 = .ok (.ifCond .ne 5, 3) := by decide +kernel
theorem dX1_readVillage_58 : decode cX1_readVillage 58 = .ok (.iconst (-1), 1) := by decide +kernel
theorem dX1_readVillage_59 : decode cX1_readVillage 59 = .ok (.ireturn, 1) := by decide +kernel
theorem dX1_readVillage_60 : decode cX1_readVillage 60 = .ok (.iinc 1 1, 3) := by decide +kernel
theorem dX1_readVillage_63 : decode cX1_readVillage 63 = .ok (.aload_n 0, 1) := by decide +kernel
theorem dX1_readVillage_64 : decode cX1_readVillage 64 = .ok (.invokevirtual 24, 3) := by decide +kernel
theorem dX1_readVillage_67 : decode cX1_readVillage 67 = .ok (.iinc 2 1, 3) := by decide +kernel
theorem dX1_readVillage_70 : decode cX1_readVillage 70 = .ok (.goto (-33), 3) := by decide +kernel
theorem dX1_readVillage_73 : decode cX1_readVillage 73 = .ok (.iload_n 1, 1) := by decide +kernel
theorem dX1_readVillage_74 : decode cX1_readVillage 74 = .ok (.ireturn, 1) := by decide +kernel
theorem dX1_readItem_0 : decode cX1_readItem 0 = .ok (.aload_n 0, 1) := by decide +kernel
theorem dX1_readItem_1 : decode cX1_readItem 1 = .ok (.ldc 44, 2) := by decide +kernel
theorem dX1_readItem_3 : decode cX1_readItem 3 = .ok (.invokevirtual 29, 3) := by decide +kernel
theorem dX1_readItem_6 : decode cX1_readItem 6 = .ok (.ifCond .eq 8, 3) := by decide +kernel
theorem dX1_readItem_9 : decode cX1_readItem 9 = .ok (.aload_n 0, 1) := by decide +kernel
theorem dX1_readItem_10 : decode cX1_readItem 10 = .ok (.invokevirtual 46, 3) := by decide +kernel
theorem dX1_readItem_13 : decode cX1_readItem 13 = .ok (.ireturn, 1) := by decide +kernel
theorem dX1_readItem_14 : decode cX1_readItem 14 = .ok (.aload_n 0, 1) := by decide +kernel
theorem dX1_readItem_15 : decode cX1_readItem 15 = .ok (.ldc 49, 2) := by decide +kernel
theorem dX1_readItem_17 : decode cX1_readItem 17 = .ok (.invokevirtual 29, 3) := by decide +kernel
theorem dX1_readItem_20 : decode cX1_readItem 20 = .ok (.ifCond .eq 8, 3) := by decide +kernel
theorem dX1_readItem_23 : decode cX1_readItem 23 = .ok (.aload_n 0, 1) := by decide +kernel
theorem dX1_readItem_24 : decode cX1_readItem 24 = .ok (.invokevirtual 51, 3) := by decide +kernel
theorem dX1_readItem_27 : decode cX1_readItem 27 = .ok (.ireturn, 1) := by decide +kernel
theorem dX1_readItem_28 : decode cX1_readItem 28 = .ok (.aload_n 0, 1) := by decide +kernel
theorem dX1_readItem_29 : decode cX1_readItem 29 = .ok (.ldc 54, 2) := by decide +kernel
theorem dX1_readItem_31 : decode cX1_readItem 31 = .ok (.invokevirtual 29, 3) := by decide +kernel
theorem dX1_readItem_34 : decode cX1_readItem 34 = .ok (.ifCond .eq 14, 3) := by decide +kernel
theorem dX1_readItem_37 : decode cX1_readItem 37 = .ok (.aload_n 0, 1) := by decide +kernel
theorem dX1_readItem_38 : decode cX1_readItem 38 = .ok (.invokevirtual 56, 3) := by decide +kernel
theorem dX1_readItem_41 : decode cX1_readItem 41 = .ok (.ifCond .eq 7, 3) := by decide +kernel
theorem dX1_readItem_44 : decode cX1_readItem 44 = .ok (.iconst 1, 1) := by decide +kernel
theorem dX1_readItem_45 : decode cX1_readItem 45 = .ok (.goto 4, 3) := by decide +kernel
theorem dX1_readItem_48 : decode cX1_readItem 48 = .ok (.iconst 0, 1) := by decide +kernel
theorem dX1_readItem_49 : decode cX1_readItem 49 = .ok (.ireturn, 1) := by decide +kernel
theorem dX1_readMan_0 : decode cX1_readMan 0 = .ok (.aload_n 0, 1) := by decide +kernel
theorem dX1_readMan_1 : decode cX1_readMan 1 = .ok (.getfield 15, 3) := by decide +kernel
theorem dX1_readMan_4 : decode cX1_readMan 4 = .ok (.getfield 59, 3) := by decide +kernel
theorem dX1_readMan_7 : decode cX1_readMan 7 = .ok (.iconst 4, 1) := by decide +kernel
theorem dX1_readMan_8 : decode cX1_readMan 8 = .ok (.if_icmp .ge 13, 3) := by decide +kernel
theorem dX1_readMan_11 : decode cX1_readMan 11 = .ok (.aload_n 0, 1) := by decide +kernel
theorem dX1_readMan_12 : decode cX1_readMan 12 = .ok (.iconst 0, 1) := by decide +kernel
theorem dX1_readMan_13 : decode cX1_readMan 13 = .ok (.bipush 9, 2) := by decide +kernel
theorem dX1_readMan_15 : decode cX1_readMan 15 = .ok (.invokevirtual 62, 3) := by decide +kernel
theorem dX1_readMan_18 : decode cX1_readMan 18 = .ok (.ifCond .ne 5, 3) := by decide +kernel
theorem dX1_readMan_21 : decode cX1_readMan 21 = .ok (.iconst 0, 1) := by decide +kernel
theorem dX1_readMan_22 : decode cX1_readMan 22 = .ok (.ireturn, 1) := by decide +kernel
theorem dX1_readMan_23 : decode cX1_readMan 23 = .ok (.aload_n 0, 1) := by decide +kernel
theorem dX1_readMan_24 : decode cX1_readMan 24 = .ok (.getfield 66, 3) := by decide +kernel
theorem dX1_readMan_27 : decode cX1_readMan 27 = .ok (.istore_n 1, 1) := by decide +kernel
theorem dX1_readMan_28 : decode cX1_readMan 28 = .ok (.aload_n 0, 1) := by decide +kernel
theorem dX1_readMan_29 : decode cX1_readMan 29 = .ok (.iconst 0, 1) := by decide +kernel
theorem dX1_readMan_30 : decode cX1_readMan 30 = .ok (.bipush 30, 2) := by decide +kernel
theorem dX1_readMan_32 : decode cX1_readMan 32 = .ok (.invokevirtual 62, 3) := by decide +kernel
theorem dX1_readMan_35 : decode cX1_readMan 35 = .ok (.ifCond .ne 5, 3) := by decide +kernel
theorem dX1_readMan_38 : decode cX1_readMan 38 = .ok (.iconst 0, 1) := by decide +kernel
theorem dX1_readMan_39 : decode cX1_readMan 39 = .ok (.ireturn, 1) := by decide +kernel
theorem dX1_readMan_40 : decode cX1_readMan 40 = .ok (.aload_n 0, 1) := by decide +kernel
theorem dX1_readMan_41 : decode cX1_readMan 41 = .ok (.getfield 15, 3) := by decide +kernel
theorem dX1_readMan_44 : decode cX1_readMan 44 = .ok (.iload_n 1, 1) := by decide +kernel
theorem dX1_readMan_45 : decode cX1_readMan 45 = .ok (.aload_n 0, 1) := by decide +kernel
theorem dX1_readMan_46 : decode cX1_readMan 46 = .ok (.getfield 66, 3) := by decide +kernel
theorem dX1_readMan_49 : decode cX1_readMan 49 = .ok (.invokevirtual 69, 3) := by decide +kernel
theorem dX1_readMan_52 : decode cX1_readMan 52 = .ok (.pop, 1) := by decide +kernel
theorem dX1_readMan_53 : decode cX1_readMan 53 = .ok (.aload_n 0, 1) := by decide +kernel
theorem dX1_readMan_54 : decode cX1_readMan 54 = .ok (.invokevirtual 33, 3) := by decide +kernel
theorem dX1_readMan_57 : decode cX1_readMan 57 = .ok (.ireturn, 1) := by decide +kernel
theorem dX1_readDog_0 : decode cX1_readDog 0 = .ok (.aload_n 0, 1) := by decide +kernel
theorem dX1_readDog_1 : decode cX1_readDog 1 = .ok (.getfield 15, 3) := by decide +kernel
theorem dX1_readDog_4 : decode cX1_readDog 4 = .ok (.getfield 73, 3) := by decide +kernel
theorem dX1_readDog_7 : decode cX1_readDog 7 = .ok (.bipush 7, 2) := by decide +kernel
theorem dX1_readDog_9 : decode cX1_readDog 9 = .ok (.if_icmp .ge 12, 3) := by decide +kernel
theorem dX1_readDog_12 : decode cX1_readDog 12 = .ok (.aload_n 0, 1) := by decide +kernel
theorem dX1_readDog_13 : decode cX1_readDog 13 = .ok (.iconst 0, 1) := by decide +kernel
theorem dX1_readDog_14 : decode cX1_readDog 14 = .ok (.iconst 5, 1) := by decide +kernel
theorem dX1_readDog_15 : decode cX1_readDog 15 = .ok (.invokevirtual 62, 3) := by decide +kernel
theorem dX1_readDog_18 : decode cX1_readDog 18 = .ok (.ifCond .ne 5, 3) := by decide +kernel
theorem dX1_readDog_21 : decode cX1_readDog 21 = .ok (.iconst 0, 1) := by decide +kernel
theorem dX1_readDog_22 : decode cX1_readDog 22 = .ok (.ireturn, 1) := by decide +kernel
theorem dX1_readDog_23 : decode cX1_readDog 23 = .ok (.aload_n 0, 1) := by decide +kernel
theorem dX1_readDog_24 : decode cX1_readDog 24 = .ok (.getfield 66, 3) := by decide +kernel
theorem dX1_readDog_27 : decode cX1_readDog 27 = .ok (.istore_n 1, 1) := by decide +kernel
theorem dX1_readDog_28 : decode cX1_readDog 28 = .ok (.aload_n 0, 1) := by decide +kernel
theorem dX1_readDog_29 : decode cX1_readDog 29 = .ok (.iconst 1, 1) := by decide +kernel
theorem dX1_readDog_30 : decode cX1_readDog 30 = .ok (.iconst 5, 1) := by decide +kernel
theorem dX1_readDog_31 : decode cX1_readDog 31 = .ok (.invokevirtual 62, 3) := by decide +kernel
theorem dX1_readDog_34 : decode cX1_readDog 34 = .ok (.ifCond .ne 5, 3) := by decide +kernel
theorem dX1_readDog_37 : decode cX1_readDog 37 = .ok (.iconst 0, 1) := by decide +kernel
theorem dX1_readDog_38 : decode cX1_readDog 38 = .ok (.ireturn, 1) := by decide +kernel
theorem dX1_readDog_39 : decode cX1_readDog 39 = .ok (.aload_n 0, 1) := by decide +kernel
theorem dX1_readDog_40 : decode cX1_readDog 40 = .ok (.getfield 66, 3) := by decide +kernel
theorem dX1_readDog_43 : decode cX1_readDog 43 = .ok (.istore_n 2, 1) := by decide +kernel
theorem dX1_readDog_44 : decode cX1_readDog 44 = .ok (.aload_n 0, 1) := by decide +kernel
theorem dX1_readDog_45 : decode cX1_readDog 45 = .ok (.iconst 1, 1) := by decide +kernel
theorem dX1_readDog_46 : decode cX1_readDog 46 = .ok (.bipush 9, 2) := by decide +kernel
theorem dX1_readDog_48 : decode cX1_readDog 48 = .ok (.invokevirtual 62, 3) := by decide +kernel
theorem dX1_readDog_51 : decode cX1_readDog 51 = .ok (.ifCond .ne 5, 3) := by decide +kernel
theorem dX1_readDog_54 : decode cX1_readDog 54 = .ok (.iconst 0, 1) := by decide +kernel
theorem dX1_readDog_55 : decode cX1_readDog 55 = .ok (.ireturn, 1) := by decide +kernel
theorem dX1_readDog_56 : decode cX1_readDog 56 = .ok (.aload_n 0, 1) := by decide +kernel
theorem dX1_readDog_57 : decode cX1_readDog 57 = .ok (.getfield 66, 3) := by decide +kernel
theorem dX1_readDog_60 : decode cX1_readDog 60 = .ok (.istore_n 3, 1) := by decide +kernel
theorem dX1_readDog_61 : decode cX1_readDog 61 = .ok (.aload_n 0, 1) := by decide +kernel
theorem dX1_readDog_62 : decode cX1_readDog 62 = .ok (.iconst 0, 1) := by decide +kernel
theorem dX1_readDog_63 : decode cX1_readDog 63 = .ok (.iconst 3, 1) := by decide +kernel
theorem dX1_readDog_64 : decode cX1_readDog 64 = .ok (.invokevirtual 62, 3) := by decide +kernel
theorem dX1_readDog_67 : decode cX1_readDog 67 = .ok (.ifCond .ne 5, 3) := by decide +kernel
theorem dX1_readDog_70 : decode cX1_readDog 70 = .ok (.iconst 0, 1) := by decide +kernel
theorem dX1_readDog_71 : decode cX1_readDog 71 = .ok (.ireturn, 1) := by decide +kernel
theorem dX1_readDog_72 : decode cX1_readDog 72 = .ok (.aload_n 0, 1) := by decide +kernel
theorem dX1_readDog_73 : decode cX1_readDog 73 = .ok (.getfield 15, 3) := by decide +kernel
theorem dX1_readDog_76 : decode cX1_readDog 76 = .ok (.iload_n 1, 1) := by decide +kernel
theorem dX1_readDog_77 : decode cX1_readDog 77 = .ok (.iload_n 2, 1) := by decide +kernel
theorem dX1_readDog_78 : decode cX1_readDog 78 = .ok (.iload_n 3, 1) := by decide +kernel
theorem dX1_readDog_79 : decode cX1_readDog 79 = .ok (.aload_n 0, 1) := by decide +kernel
theorem dX1_readDog_80 : decode cX1_readDog 80 = .ok (.getfield 66, 3) := by decide +kernel
theorem dX1_readDog_83 : decode cX1_readDog 83 = .ok (.invokevirtual 76, 3) := by decide +kernel
theorem dX1_readDog_86 : decode cX1_readDog 86 = .ok (.pop, 1) := by decide +kernel
theorem dX1_readDog_87 : decode cX1_readDog 87 = .ok (.aload_n 0, 1) := by decide +kernel
theorem dX1_readDog_88 : decode cX1_readDog 88 = .ok (.invokevirtual 33, 3) := by decide +kernel
theorem dX1_readDog_91 : decode cX1_readDog 91 = .ok (.ireturn, 1) := by decide +kernel
theorem dX1_readBribe_0 : decode cX1_readBribe 0 = .ok (.aload_n 0, 1) := by decide +kernel
theorem dX1_readBribe_1 : decode cX1_readBribe 1 = .ok (.iconst 0, 1) := by decide +kernel
theorem dX1_readBribe_2 : decode cX1_readBribe 2 = .ok (.aload_n 0, 1) := by decide +kernel
theorem dX1_readBribe_3 : decode cX1_readBribe 3 = .ok (.getfield 15, 3) := by decide +kernel
theorem dX1_readBribe_6 : decode cX1_readBribe 6 = .ok (.getfield 59, 3) := by decide +kernel
theorem dX1_readBribe_9 : decode cX1_readBribe 9 = .ok (.iconst 1, 1) := by decide +kernel
theorem dX1_readBribe_10 : decode cX1_readBribe 10 = .ok (.isub, 1) := by decide +kernel
theorem dX1_readBribe_11 : decode cX1_readBribe 11 = .ok (.invokevirtual 62, 3) := by decide +kernel
theorem dX1_readBribe_14 : decode cX1_readBribe 14 = .ok (.ifCond .ne 5, 3) := by decide +kernel
theorem dX1_readBribe_17 : decode cX1_readBribe 17 = .ok (.iconst 0, 1) := by decide +kernel
theorem dX1_readBribe_18 : decode cX1_readBribe 18 = .ok (.ireturn, 1) := by decide +kernel
theorem dX1_readBribe_19 : decode cX1_readBribe 19 = .ok (.aload_n 0, 1) := by decide +kernel
theorem dX1_readBribe_20 : decode cX1_readBribe 20 = .ok (.getfield 66, 3) := by decide +kernel
theorem dX1_readBribe_23 : decode cX1_readBribe 23 = .ok (.istore_n 1, 1) := by decide +kernel
theorem dX1_readBribe_24 : decode cX1_readBribe 24 = .ok (.aload_n 0, 1) := by decide +kernel
theorem dX1_readBribe_25 : decode cX1_readBribe 25 = .ok (.iconst 0, 1) := by decide +kernel
theorem dX1_readBribe_26 : decode cX1_readBribe 26 = .ok (.aload_n 0, 1) := by decide +kernel
theorem dX1_readBribe_27 : decode cX1_readBribe 27 = .ok (.getfield 15, 3) := by decide +kernel
theorem dX1_readBribe_30 : decode cX1_readBribe 30 = .ok (.getfield 73, 3) := by decide +kernel
theorem dX1_readBribe_33 : decode cX1_readBribe 33 = .ok (.iconst 1, 1) := by decide +kernel
theorem dX1_readBribe_34 : decode cX1_readBribe 34 = .ok (.isub, 1) := by decide +kernel
theorem dX1_readBribe_35 : decode cX1_readBribe 35 = .ok (.invokevirtual 62, 3) := by decide +kernel
theorem dX1_readBribe_38 : decode cX1_readBribe 38 = .ok (.ifCond .eq 18, 3) := by decide +kernel
theorem dX1_readBribe_41 : decode cX1_readBribe 41 = .ok (.aload_n 0, 1) := by decide +kernel
theorem dX1_readBribe_42 : decode cX1_readBribe 42 = .ok (.getfield 15, 3) := by decide +kernel
theorem dX1_readBribe_45 : decode cX1_readBribe 45 = .ok (.iload_n 1, 1) := by decide +kernel
theorem dX1_readBribe_46 : decode cX1_readBribe 46 = .ok (.aload_n 0, 1) := by decide +kernel
theorem dX1_readBribe_47 : decode cX1_readBribe 47 = .ok (.getfield 66, 3) := by decide +kernel
theorem dX1_readBribe_50 : decode cX1_readBribe 50 = .ok (.invokevirtual 80, 3) := by decide +kernel
theorem dX1_readBribe_53 : decode cX1_readBribe 53 = .ok (.ifCond .ne 5, 3) := by decide +kernel
theorem dX1_readBribe_56 : decode cX1_readBribe 56 = .ok (.iconst 0, 1) := by decide +kernel
theorem dX1_readBribe_57 : decode cX1_readBribe 57 = .ok (.ireturn, 1) := by decide +kernel
theorem dX1_readBribe_58 : decode cX1_readBribe 58 = .ok (.aload_n 0, 1) := by decide +kernel
theorem dX1_readBribe_59 : decode cX1_readBribe 59 = .ok (.getfield 15, 3) := by decide +kernel
theorem dX1_readBribe_62 : decode cX1_readBribe 62 = .ok (.iload_n 1, 1) := by decide +kernel
theorem dX1_readBribe_63 : decode cX1_readBribe 63 = .ok (.aload_n 0, 1) := by decide +kernel
theorem dX1_readBribe_64 : decode cX1_readBribe 64 = .ok (.getfield 66, 3) := by decide +kernel
theorem dX1_readBribe_67 : decode cX1_readBribe 67 = .ok (.invokevirtual 83, 3) := by decide +kernel
theorem dX1_readBribe_70 : decode cX1_readBribe 70 = .ok (.aload_n 0, 1) := by decide +kernel
theorem dX1_readBribe_71 : decode cX1_readBribe 71 = .ok (.invokevirtual 33, 3) := by decide +kernel
theorem dX1_readBribe_74 : decode cX1_readBribe 74 = .ok (.ireturn, 1) := by decide +kernel
theorem dX1_numberNext_0 : decode cX1_numberNext 0 = .ok (.aload_n 0, 1) := by decide +kernel
theorem dX1_numberNext_1 : decode cX1_numberNext 1 = .ok (.invokevirtual 24, 3) := by decide +kernel
theorem dX1_numberNext_4 : decode cX1_numberNext 4 = .ok (.aload_n 0, 1) := by decide +kernel
theorem dX1_numberNext_5 : decode cX1_numberNext 5 = .ok (.getfield 37, 3) := by decide +kernel
theorem dX1_numberNext_8 : decode cX1_numberNext 8 = .ok (.iconst 2, 1) := by decide +kernel
theorem dX1_numberNext_9 : decode cX1_numberNext 9 = .ok (.if_icmp .ne 23, 3) := by decide +kernel
theorem dX1_numberNext_12 : decode cX1_numberNext 12 = .ok (.aload_n 0, 1) := by decide +kernel
theorem dX1_numberNext_13 : decode cX1_numberNext 13 = .ok (.getfield 66, 3) := by decide +kernel
theorem dX1_numberNext_16 : decode cX1_numberNext 16 = .ok (.iload_n 1, 1) := by decide +kernel
theorem dX1_numberNext_17 : decode cX1_numberNext 17 = .ok (.if_icmp .lt 15, 3) := by decide +kernel
theorem dX1_numberNext_20 : decode cX1_numberNext 20 = .ok (.aload_n 0, 1) := by decide +kernel
theorem dX1_numberNext_21 : decode cX1_numberNext 21 = .ok (.getfield 66, 3) := by decide +kernel
theorem dX1_numberNext_24 : decode cX1_numberNext 24 = .ok (.iload_n 2, 1) := by decide +kernel
theorem dX1_numberNext_25 : decode cX1_numberNext 25 = .ok (.if_icmp .gt 7, 3) := by decide +kernel
theorem dX1_numberNext_28 : decode cX1_numberNext 28 = .ok (.iconst 1, 1) := by decide +kernel
theorem dX1_numberNext_29 : decode cX1_numberNext 29 = .ok (.goto 4, 3) := by decide +kernel
theorem dX1_numberNext_32 : decode cX1_numberNext 32 = .ok (.iconst 0, 1) := by decide +kernel
theorem dX1_numberNext_33 : decode cX1_numberNext 33 = .ok (.ireturn, 1) := by decide +kernel
theorem dX1_semicolonNext_0 : decode cX1_semicolonNext 0 = .ok (.aload_n 0, 1) := by decide +kernel
theorem dX1_semicolonNext_1 : decode cX1_semicolonNext 1 = .ok (.invokevirtual 24, 3) := by decide +kernel
theorem dX1_semicolonNext_4 : decode cX1_semicolonNext 4 = .ok (.aload_n 0, 1) := by decide +kernel
theorem dX1_semicolonNext_5 : decode cX1_semicolonNext 5 = .ok (.getfield 37, 3) := by decide +kernel
theorem dX1_semicolonNext_8 : decode cX1_semicolonNext 8 = .ok (.iconst 3, 1) := by decide +kernel
theorem dX1_semicolonNext_9 : decode cX1_semicolonNext 9 = .ok (.if_icmp .ne 7, 3) := by decide +kernel
theorem dX1_semicolonNext_12 : decode cX1_semicolonNext 12 = .ok (.iconst 1, 1) := by decide +kernel
theorem dX1_semicolonNext_13 : decode cX1_semicolonNext 13 = .ok (.goto 4, 3) := by decide +kernel
theorem dX1_semicolonNext_16 : decode cX1_semicolonNext 16 = .ok (.iconst 0, 1) := by decide +kernel
theorem dX1_semicolonNext_17 : decode cX1_semicolonNext 17 = .ok (.ireturn, 1) := by decide +kernel
theorem dX1_wordHere_0 : decode cX1_wordHere 0 = .ok (.aload_n 0, 1) := by decide +kernel
theorem dX1_wordHere_1 : decode cX1_wordHere 1 = .ok (.getfield 37, 3) := by decide +kernel
theorem dX1_wordHere_4 : decode cX1_wordHere 4 = .ok (.iconst 1, 1) := by decide +kernel
theorem dX1_wordHere_5 : decode cX1_wordHere 5 = .ok (.if_icmp .ne 19, 3) := by decide +kernel
theorem dX1_wordHere_8 : decode cX1_wordHere 8 = .ok (.aload_n 0, 1) := by decide +kernel
theorem dX1_wordHere_9 : decode cX1_wordHere 9 = .ok (.getfield 87, 3) := by decide +kernel
theorem dX1_wordHere_12 : decode cX1_wordHere 12 = .ok (.aload_n 0, 1) := by decide +kernel
theorem dX1_wordHere_13 : decode cX1_wordHere 13 = .ok (.getfield 90, 3) := by decide +kernel
theorem dX1_wordHere_16 : decode cX1_wordHere 16 = .ok (.isub, 1) := by decide +kernel
theorem dX1_wordHere_17 : decode cX1_wordHere 17 = .ok (.aload_n 1, 1) := by decide +kernel
theorem dX1_wordHere_18 : decode cX1_wordHere 18 = .ok (.invokevirtual 93, 3) := by decide +kernel
theorem dX1_wordHere_21 : decode cX1_wordHere 21 = .ok (.if_icmp .eq 5, 3) := by decide +kernel
theorem dX1_wordHere_24 : decode cX1_wordHere 24 = .ok (.iconst 0, 1) := by decide +kernel
theorem dX1_wordHere_25 : decode cX1_wordHere 25 = .ok (.ireturn, 1) := by decide +kernel
theorem dX1_wordHere_26 : decode cX1_wordHere 26 = .ok (.iconst 0, 1) := by decide +kernel
theorem dX1_wordHere_27 : decode cX1_wordHere 27 = .ok (.istore_n 2, 1) := by decide +kernel
theorem dX1_wordHere_28 : decode cX1_wordHere 28 = .ok (.iload_n 2, 1) := by decide +kernel
theorem dX1_wordHere_29 : decode cX1_wordHere 29 = .ok (.aload_n 1, 1) := by decide +kernel
theorem dX1_wordHere_30 : decode cX1_wordHere 30 = .ok (.invokevirtual 93, 3) := by decide +kernel
theorem dX1_wordHere_33 : decode cX1_wordHere 33 = .ok (.if_icmp .ge 32, 3) := by decide +kernel
theorem dX1_wordHere_36 : decode cX1_wordHere 36 = .ok (.aload_n 0, 1) := by decide +kernel
theorem dX1_wordHere_37 : decode cX1_wordHere 37 = .ok (.getfield 9, 3) := by decide +kernel
theorem dX1_wordHere_40 : decode cX1_wordHere 40 = .ok (.aload_n 0, 1) := by decide +kernel
theorem dX1_wordHere_41 : decode cX1_wordHere 41 = .ok (.getfield 90, 3) := by decide +kernel
theorem dX1_wordHere_44 : decode cX1_wordHere 44 = .ok (.iload_n 2, 1) := by decide +kernel
theorem dX1_wordHere_45 : decode cX1_wordHere 45 = .ok (.iadd, 1) := by decide +kernel
theorem dX1_wordHere_46 : decode cX1_wordHere 46 = .ok (.invokevirtual 99, 3) := by decide +kernel
theorem dX1_wordHere_49 : decode cX1_wordHere 49 = .ok (.aload_n 1, 1) := by decide +kernel
theorem dX1_wordHere_50 : decode cX1_wordHere 50 = .ok (.iload_n 2, 1) := by decide +kernel
theorem dX1_wordHere_51 : decode cX1_wordHere 51 = .ok (.invokevirtual 104, 3) := by decide +kernel
theorem dX1_wordHere_54 : decode cX1_wordHere 54 = .ok (.if_icmp .eq 5, 3) := by decide +kernel
theorem dX1_wordHere_57 : decode cX1_wordHere 57 = .ok (.iconst 0, 1) := by decide +kernel
theorem dX1_wordHere_58 : decode cX1_wordHere 58 = .ok (.ireturn, 1) := by decide +kernel
theorem dX1_wordHere_59 : decode cX1_wordHere 59 = .ok (.iinc 2 1, 3) := by decide +kernel
theorem dX1_wordHere_62 : decode cX1_wordHere 62 = .ok (.goto (-34), 3) := by decide +kernel
theorem dX1_wordHere_65 : decode cX1_wordHere 65 = .ok (.iconst 1, 1) := by decide +kernel
theorem dX1_wordHere_66 : decode cX1_wordHere 66 = .ok (.ireturn, 1) := by decide +kernel
theorem dX1_next_0 : decode cX1_next 0 = .ok (.aload_n 0, 1) := by decide +kernel
theorem dX1_next_1 : decode cX1_next 1 = .ok (.aload_n 0, 1) := by decide +kernel
theorem dX1_next_2 : decode cX1_next 2 = .ok (.getfield 87, 3) := by decide +kernel
theorem dX1_next_5 : decode cX1_next 5 = .ok (.putfield 90, 3) := by decide +kernel
theorem dX1_next_8 : decode cX1_next 8 = .ok (.aload_n 0, 1) := by decide +kernel
theorem dX1_next_9 : decode cX1_next 9 = .ok (.getfield 90, 3) := by decide +kernel
theorem dX1_next_12 : decode cX1_next 12 = .ok (.aload_n 0, 1) := by decide +kernel
theorem dX1_next_13 : decode cX1_next 13 = .ok (.getfield 9, 3) := by decide +kernel
theorem dX1_next_16 : decode cX1_next 16 = .ok (.getfield 108, 3) := by decide +kernel
theorem dX1_next_19 : decode cX1_next 19 = .ok (.if_icmp .ge 32, 3) := by decide +kernel
theorem dX1_next_22 : decode cX1_next 22 = .ok (.aload_n 0, 1) := by decide +kernel
theorem dX1_next_23 : decode cX1_next 23 = .ok (.getfield 9, 3) := by decide +kernel
theorem dX1_next_26 : decode cX1_next 26 = .ok (.aload_n 0, 1) := by decide +kernel
theorem dX1_next_27 : decode cX1_next 27 = .ok (.getfield 90, 3) := by decide +kernel
theorem dX1_next_30 : decode cX1_next 30 = .ok (.invokevirtual 99, 3) := by decide +kernel
theorem dX1_next_33 : decode cX1_next 33 = .ok (.bipush 32, 2) := by decide +kernel
theorem dX1_next_35 : decode cX1_next 35 = .ok (.if_icmp .ne 16, 3) := by decide +kernel
theorem dX1_next_38 : decode cX1_next 38 = .ok (.aload_n 0, 1) := by decide +kernel
theorem dX1_next_39 : decode cX1_next 39 = .ok (.dup, 1) := by decide +kernel
theorem dX1_next_40 : decode cX1_next 40 = .ok (.getfield 90, 3) := by decide +kernel
theorem dX1_next_43 : decode cX1_next 43 = .ok (.iconst 1, 1) := by decide +kernel
theorem dX1_next_44 : decode cX1_next 44 = .ok (.iadd, 1) := by decide +kernel
theorem dX1_next_45 : decode cX1_next 45 = .ok (.putfield 90, 3) := by decide +kernel
theorem dX1_next_48 : decode cX1_next 48 = .ok (.goto (-40), 3) := by decide +kernel
theorem dX1_next_51 : decode cX1_next 51 = .ok (.aload_n 0, 1) := by decide +kernel
theorem dX1_next_52 : decode cX1_next 52 = .ok (.aload_n 0, 1) := by decide +kernel
theorem dX1_next_53 : decode cX1_next 53 = .ok (.getfield 90, 3) := by decide +kernel
theorem dX1_next_56 : decode cX1_next 56 = .ok (.putfield 87, 3) := by decide +kernel
theorem dX1_next_59 : decode cX1_next 59 = .ok (.aload_n 0, 1) := by decide +kernel
theorem dX1_next_60 : decode cX1_next 60 = .ok (.getfield 90, 3) := by decide +kernel
theorem dX1_next_63 : decode cX1_next 63 = .ok (.aload_n 0, 1) := by decide +kernel
theorem dX1_next_64 : decode cX1_next 64 = .ok (.getfield 9, 3) := by decide +kernel
theorem dX1_next_67 : decode cX1_next 67 = .ok (.getfield 108, 3) := by decide +kernel
theorem dX1_next_70 : decode cX1_next 70 = .ok (.if_icmp .lt 9, 3) := by decide +kernel
theorem dX1_next_73 : decode cX1_next 73 = .ok (.aload_n 0, 1) := by decide +kernel
theorem dX1_next_74 : decode cX1_next 74 = .ok (.iconst 0, 1) := by decide +kernel
theorem dX1_next_75 : decode cX1_next 75 = .ok (.putfield 37, 3) := by decide +kernel
theorem dX1_next_78 : decode cX1_next 78 = .ok (.return_, 1) := by decide +kernel
theorem dX1_next_79 : decode cX1_next 79 = .ok (.aload_n 0, 1) := by decide +kernel
theorem dX1_next_80 : decode cX1_next 80 = .ok (.aload_n 0, 1) := by decide +kernel
theorem dX1_next_81 : decode cX1_next 81 = .ok (.getfield 90, 3) := by decide +kernel
theorem dX1_next_84 : decode cX1_next 84 = .ok (.iconst 1, 1) := by decide +kernel
theorem dX1_next_85 : decode cX1_next 85 = .ok (.iadd, 1) := by decide +kernel
theorem dX1_next_86 : decode cX1_next 86 = .ok (.putfield 87, 3) := by decide +kernel
theorem dX1_next_89 : decode cX1_next 89 = .ok (.aload_n 0, 1) := by decide +kernel
theorem dX1_next_90 : decode cX1_next 90 = .ok (.getfield 9, 3) := by decide +kernel
theorem dX1_next_93 : decode cX1_next 93 = .ok (.aload_n 0, 1) := by decide +kernel
theorem dX1_next_94 : decode cX1_next 94 = .ok (.getfield 90, 3) := by decide +kernel
theorem dX1_next_97 : decode cX1_next 97 = .ok (.invokevirtual 99, 3) := by decide +kernel
theorem dX1_next_100 : decode cX1_next 100 = .ok (.istore_n 1, 1) := by decide +kernel
theorem dX1_next_101 : decode cX1_next 101 = .ok (.iload_n 1, 1) := by decide +kernel
theorem dX1_next_102 : decode cX1_next 102 = .ok (.invokestatic 110, 3) := by decide +kernel
theorem dX1_next_105 : decode cX1_next 105 = .ok (.ifCond .eq 52, 3) := by decide +kernel
theorem dX1_next_108 : decode cX1_next 108 = .ok (.aload_n 0, 1) := by decide +kernel
theorem dX1_next_109 : decode cX1_next 109 = .ok (.iconst 1, 1) := by decide +kernel
theorem dX1_next_110 : decode cX1_next 110 = .ok (.putfield 37, 3) := by decide +kernel
theorem dX1_next_113 : decode cX1_next 113 = .ok (.aload_n 0, 1) := by decide +kernel
theorem dX1_next_114 : decode cX1_next 114 = .ok (.getfield 87, 3) := by decide +kernel
theorem dX1_next_117 : decode cX1_next 117 = .ok (.aload_n 0, 1) := by decide +kernel
theorem dX1_next_118 : decode cX1_next 118 = .ok (.getfield 9, 3) := by decide +kernel
theorem dX1_next_121 : decode cX1_next 121 = .ok (.getfield 108, 3) := by decide +kernel
theorem dX1_next_124 : decode cX1_next 124 = .ok (.if_icmp .ge 66, 3) := by decide +kernel
theorem dX1_next_127 : decode cX1_next 127 = .ok (.aload_n 0, 1) := by decide +kernel
theorem dX1_next_128 : decode cX1_next 128 = .ok (.getfield 9, 3) := by decide +kernel
theorem dX1_next_131 : decode cX1_next 131 = .ok (.aload_n 0, 1) := by decide +kernel
theorem dX1_next_132 : decode cX1_next 132 = .ok (.getfield 87, 3) := by decide +kernel
theorem dX1_next_135 : decode cX1_next 135 = .ok (.invokevirtual 99, 3) := by decide +kernel
theorem dX1_next_138 : decode cX1_next 138 = .ok (.invokestatic 110, 3) := by decide +kernel
theorem dX1_next_141 : decode cX1_next 141 = .ok (.ifCond .eq 49, 3) := by decide +kernel
theorem dX1_next_144 : decode cX1_next 144 = .ok (.aload_n 0, 1) := by decide +kernel
theorem dX1_next_145 : decode cX1_next 145 = .ok (.dup, 1) := by decide +kernel
theorem dX1_next_146 : decode cX1_next 146 = .ok (.getfield 87, 3) := by decide +kernel
theorem dX1_next_149 : decode cX1_next 149 = .ok (.iconst 1, 1) := by decide +kernel
theorem dX1_next_150 : decode cX1_next 150 = .ok (.iadd, 1) := by decide +kernel
theorem dX1_next_151 : decode cX1_next 151 = .ok (.putfield 87, 3) := by decide +kernel
theorem dX1_next_154 : decode cX1_next 154 = .ok (.goto (-41), 3) := by decide +kernel
theorem dX1_next_157 : decode cX1_next 157 = .ok (.iload_n 1, 1) := by decide +kernel
theorem dX1_next_158 : decode cX1_next 158 = .ok (.invokestatic 114, 3) := by decide +kernel
theorem dX1_next_161 : decode cX1_next 161 = .ok (.ifCond .eq 14, 3) := by decide +kernel
theorem dX1_next_164 : decode cX1_next 164 = .ok (.aload_n 0, 1) := by decide +kernel
theorem dX1_next_165 : decode cX1_next 165 = .ok (.iload_n 1, 1) := by decide +kernel
theorem dX1_next_166 : decode cX1_next 166 = .ok (.bipush 48, 2) := by decide +kernel
theorem dX1_next_168 : decode cX1_next 168 = .ok (.isub, 1) := by decide +kernel
theorem dX1_next_169 : decode cX1_next 169 = .ok (.invokevirtual 117, 3) := by decide +kernel
theorem dX1_next_172 : decode cX1_next 172 = .ok (.goto 18, 3) := by decide +kernel
theorem dX1_next_175 : decode cX1_next 175 = .ok (.aload_n 0, 1) := by decide +kernel
theorem dX1_next_176 : decode cX1_next 176 = .ok (.iload_n 1, 1) := by decide +kernel
theorem dX1_next_177 : decode cX1_next 177 = .ok (.bipush 59, 2) := by decide +kernel
theorem dX1_next_179 : decode cX1_next 179 = .ok (.if_icmp .ne 7, 3) := by decide +kernel
theorem dX1_next_182 : decode cX1_next 182 = .ok (.iconst 3, 1) := by decide +kernel
theorem dX1_next_183 : decode cX1_next 183 = .ok (.goto 4, 3) := by decide +kernel
theorem dX1_next_186 : decode cX1_next 186 = .ok (.iconst 4, 1) := by decide +kernel
theorem dX1_next_187 : decode cX1_next 187 = .ok (.putfield 37, 3) := by decide +kernel
theorem dX1_next_190 : decode cX1_next 190 = .ok (.return_, 1) := by decide +kernel
theorem dX1_takeNumber_0 : decode cX1_takeNumber 0 = .ok (.aload_n 0, 1) := by decide +kernel
theorem dX1_takeNumber_1 : decode cX1_takeNumber 1 = .ok (.iload_n 1, 1) := by decide +kernel
theorem dX1_takeNumber_2 : decode cX1_takeNumber 2 = .ok (.putfield 66, 3) := by decide +kernel
theorem dX1_takeNumber_5 : decode cX1_takeNumber 5 = .ok (.aload_n 0, 1) := by decide +kernel
theorem dX1_takeNumber_6 : decode cX1_takeNumber 6 = .ok (.getfield 87, 3) := by decide +kernel
theorem dX1_takeNumber_9 : decode cX1_takeNumber 9 = .ok (.aload_n 0, 1) := by decide +kernel
theorem dX1_takeNumber_10 : decode cX1_takeNumber 10 = .ok (.getfield 9, 3) := by decide +kernel
theorem dX1_takeNumber_13 : decode cX1_takeNumber 13 = .ok (.getfield 108, 3) := by decide +kernel
theorem dX1_takeNumber_16 : decode cX1_takeNumber 16 = .ok (.if_icmp .ge 72, 3) := by decide +kernel
theorem dX1_takeNumber_19 : decode cX1_takeNumber 19 = .ok (.aload_n 0, 1) := by decide +kernel
theorem dX1_takeNumber_20 : decode cX1_takeNumber 20 = .ok (.getfield 9, 3) := by decide +kernel
theorem dX1_takeNumber_23 : decode cX1_takeNumber 23 = .ok (.aload_n 0, 1) := by decide +kernel
theorem dX1_takeNumber_24 : decode cX1_takeNumber 24 = .ok (.getfield 87, 3) := by decide +kernel
theorem dX1_takeNumber_27 : decode cX1_takeNumber 27 = .ok (.invokevirtual 99, 3) := by decide +kernel
theorem dX1_takeNumber_30 : decode cX1_takeNumber 30 = .ok (.invokestatic 114, 3) := by decide +kernel
theorem dX1_takeNumber_33 : decode cX1_takeNumber 33 = .ok (.ifCond .eq 55, 3) := by decide +kernel
theorem dX1_takeNumber_36 : decode cX1_takeNumber 36 = .ok (.aload_n 0, 1) := by decide +kernel
theorem dX1_takeNumber_37 : decode cX1_takeNumber 37 = .ok (.getfield 87, 3) := by decide +kernel
theorem dX1_takeNumber_40 : decode cX1_takeNumber 40 = .ok (.aload_n 0, 1) := by decide +kernel
theorem dX1_takeNumber_41 : decode cX1_takeNumber 41 = .ok (.getfield 90, 3) := by decide +kernel
theorem dX1_takeNumber_44 : decode cX1_takeNumber 44 = .ok (.isub, 1) := by decide +kernel
theorem dX1_takeNumber_45 : decode cX1_takeNumber 45 = .ok (.iconst 2, 1) := by decide +kernel
theorem dX1_takeNumber_46 : decode cX1_takeNumber 46 = .ok (.if_icmp .ge 29, 3) := by decide +kernel
theorem dX1_takeNumber_49 : decode cX1_takeNumber 49 = .ok (.aload_n 0, 1) := by decide +kernel
theorem dX1_takeNumber_50 : decode cX1_takeNumber 50 = .ok (.bipush 10, 2) := by decide +kernel
theorem dX1_takeNumber_52 : decode cX1_takeNumber 52 = .ok (.aload_n 0, 1) := by decide +kernel
theorem dX1_takeNumber_53 : decode cX1_takeNumber 53 = .ok (.getfield 66, 3) := by decide +kernel
theorem dX1_takeNumber_56 : decode cX1_takeNumber 56 = .ok (.imul, 1) := by decide +kernel
theorem dX1_takeNumber_57 : decode cX1_takeNumber 57 = .ok (.aload_n 0, 1) := by decide +kernel
theorem dX1_takeNumber_58 : decode cX1_takeNumber 58 = .ok (.getfield 9, 3) := by decide +kernel
theorem dX1_takeNumber_61 : decode cX1_takeNumber 61 = .ok (.aload_n 0, 1) := by decide +kernel
theorem dX1_takeNumber_62 : decode cX1_takeNumber 62 = .ok (.getfield 87, 3) := by decide +kernel
theorem dX1_takeNumber_65 : decode cX1_takeNumber 65 = .ok (.invokevirtual 99, 3) := by decide +kernel
theorem dX1_takeNumber_68 : decode cX1_takeNumber 68 = .ok (.iadd, 1) := by decide +kernel
theorem dX1_takeNumber_69 : decode cX1_takeNumber 69 = .ok (.bipush 48, 2) := by decide +kernel
theorem dX1_takeNumber_71 : decode cX1_takeNumber 71 = .ok (.isub, 1) := by decide +kernel
theorem dX1_takeNumber_72 : decode cX1_takeNumber 72 = .ok (.putfield 66, 3) := by decide +kernel
theorem dX1_takeNumber_75 : decode cX1_takeNumber 75 = .ok (.aload_n 0, 1) := by decide +kernel
theorem dX1_takeNumber_76 : decode cX1_takeNumber 76 = .ok (.dup, 1) := by decide +kernel
theorem dX1_takeNumber_77 : decode cX1_takeNumber 77 = .ok (.getfield 87, 3) := by decide +kernel
theorem dX1_takeNumber_80 : decode cX1_takeNumber 80 = .ok (.iconst 1, 1) := by decide +kernel
theorem dX1_takeNumber_81 : decode cX1_takeNumber 81 = .ok (.iadd, 1) := by decide +kernel
theorem dX1_takeNumber_82 : decode cX1_takeNumber 82 = .ok (.putfield 87, 3) := by decide +kernel
theorem dX1_takeNumber_85 : decode cX1_takeNumber 85 = .ok (.goto (-80), 3) := by decide +kernel
theorem dX1_takeNumber_88 : decode cX1_takeNumber 88 = .ok (.aload_n 0, 1) := by decide +kernel
theorem dX1_takeNumber_89 : decode cX1_takeNumber 89 = .ok (.aload_n 0, 1) := by decide +kernel
theorem dX1_takeNumber_90 : decode cX1_takeNumber 90 = .ok (.getfield 87, 3) := by decide +kernel
theorem dX1_takeNumber_93 : decode cX1_takeNumber 93 = .ok (.aload_n 0, 1) := by decide +kernel
theorem dX1_takeNumber_94 : decode cX1_takeNumber 94 = .ok (.getfield 90, 3) := by decide +kernel
theorem dX1_takeNumber_97 : decode cX1_takeNumber 97 = .ok (.isub, 1) := by decide +kernel
theorem dX1_takeNumber_98 : decode cX1_takeNumber 98 = .ok (.iconst 2, 1) := by decide +kernel
theorem dX1_takeNumber_99 : decode cX1_takeNumber 99 = .ok (.if_icmp .gt 7, 3) := by decide +kernel
theorem dX1_takeNumber_102 : decode cX1_takeNumber 102 = .ok (.iconst 2, 1) := by decide +kernel
theorem dX1_takeNumber_103 : decode cX1_takeNumber 103 = .ok (.goto 4, 3) := by decide +kernel
theorem dX1_takeNumber_106 : decode cX1_takeNumber 106 = .ok (.iconst 4, 1) := by decide +kernel
theorem dX1_takeNumber_107 : decode cX1_takeNumber 107 = .ok (.putfield 37, 3) := by decide +kernel
theorem dX1_takeNumber_110 : decode cX1_takeNumber 110 = .ok (.return_, 1) := by decide +kernel
theorem dX1_isLetter_0 : decode cX1_isLetter 0 = .ok (.iload_n 0, 1) := by decide +kernel
theorem dX1_isLetter_1 : decode cX1_isLetter 1 = .ok (.bipush 97, 2) := by decide +kernel
theorem dX1_isLetter_3 : decode cX1_isLetter 3 = .ok (.if_icmp .lt 13, 3) := by decide +kernel
theorem dX1_isLetter_6 : decode cX1_isLetter 6 = .ok (.iload_n 0, 1) := by decide +kernel
theorem dX1_isLetter_7 : decode cX1_isLetter 7 = .ok (.bipush 122, 2) := by decide +kernel
theorem dX1_isLetter_9 : decode cX1_isLetter 9 = .ok (.if_icmp .gt 7, 3) := by decide +kernel
theorem dX1_isLetter_12 : decode cX1_isLetter 12 = .ok (.iconst 1, 1) := by decide +kernel
theorem dX1_isLetter_13 : decode cX1_isLetter 13 = .ok (.goto 4, 3) := by decide +kernel
theorem dX1_isLetter_16 : decode cX1_isLetter 16 = .ok (.iconst 0, 1) := by decide +kernel
theorem dX1_isLetter_17 : decode cX1_isLetter 17 = .ok (.ireturn, 1) := by decide +kernel
theorem dX1_isFigure_0 : decode cX1_isFigure 0 = .ok (.iload_n 0, 1) := by decide +kernel
theorem dX1_isFigure_1 : decode cX1_isFigure 1 = .ok (.bipush 48, 2) := by decide +kernel
theorem dX1_isFigure_3 : decode cX1_isFigure 3 = .ok (.if_icmp .lt 13, 3) := by decide +kernel
theorem dX1_isFigure_6 : decode cX1_isFigure 6 = .ok (.iload_n 0, 1) := by decide +kernel
theorem dX1_isFigure_7 : decode cX1_isFigure 7 = .ok (.bipush 57, 2) := by decide +kernel
theorem dX1_isFigure_9 : decode cX1_isFigure 9 = .ok (.if_icmp .gt 7, 3) := by decide +kernel
theorem dX1_isFigure_12 : decode cX1_isFigure 12 = .ok (.iconst 1, 1) := by decide +kernel
theorem dX1_isFigure_13 : decode cX1_isFigure 13 = .ok (.goto 4, 3) := by decide +kernel
theorem dX1_isFigure_16 : decode cX1_isFigure 16 = .ok (.iconst 0, 1) := by decide +kernel
theorem dX1_isFigure_17 : decode cX1_isFigure 17 = .ok (.ireturn, 1) := by decide +kernel
theorem dX2_init_0 : decode cX2_init 0 = .ok (.aload_n 0, 1) := by decide +kernel
theorem dX2_init_1 : decode cX2_init 1 = .ok (.invokespecial 3, 3) := by decide +kernel
theorem dX2_init_4 : decode cX2_init 4 = .ok (.aload_n 0, 1) := by decide +kernel
theorem dX2_init_5 : decode cX2_init 5 = .ok (.sipush 150, 3) := by decide +kernel
theorem dX2_init_8 : decode cX2_init 8 = .ok (.newarray .byte, 2) := by decide +kernel
theorem dX2_init_10 : decode cX2_init 10 = .ok (.putfield 9, 3) := by decide +kernel
theorem dX2_init_13 : decode cX2_init 13 = .ok (.aload_n 0, 1) := by decide +kernel
theorem dX2_init_14 : decode cX2_init 14 = .ok (.iconst 0, 1) := by decide +kernel
theorem dX2_init_15 : decode cX2_init 15 = .ok (.putfield 15, 3) := by decide +kernel
theorem dX2_init_18 : decode cX2_init 18 = .ok (.return_, 1) := by decide +kernel
theorem dX2_add_0 : decode cX2_add 0 = .ok (.aload_n 0, 1) := by decide +kernel
theorem dX2_add_1 : decode cX2_add 1 = .ok (.getfield 9, 3) := by decide +kernel
theorem dX2_add_4 : decode cX2_add 4 = .ok (.aload_n 0, 1) := by decide +kernel
theorem dX2_add_5 : decode cX2_add 5 = .ok (.getfield 15, 3) := by decide +kernel
theorem dX2_add_8 : decode cX2_add 8 = .ok (.iload_n 1, 1) := by decide +kernel
theorem dX2_add_9 : decode cX2_add 9 = .ok (.i2b, 1) := by decide +kernel
theorem dX2_add_10 : decode cX2_add 10 = .ok (.bastore, 1) := by decide +kernel
theorem dX2_add_11 : decode cX2_add 11 = .ok (.aload_n 0, 1) := by decide +kernel
theorem dX2_add_12 : decode cX2_add 12 = .ok (.dup, 1) := by decide +kernel
theorem dX2_add_13 : decode cX2_add 13 = .ok (.getfield 15, 3) := by decide +kernel
theorem dX2_add_16 : decode cX2_add 16 = .ok (.iconst 1, 1) := by decide +kernel
theorem dX2_add_17 : decode cX2_add 17 = .ok (.iadd, 1) := by decide +kernel
theorem dX2_add_18 : decode cX2_add 18 = .ok (.putfield 15, 3) := by decide +kernel
theorem dX2_add_21 : decode cX2_add 21 = .ok (.aload_n 0, 1) := by decide +kernel
theorem dX2_add_22 : decode cX2_add 22 = .ok (.getfield 15, 3) := by decide +kernel
theorem dX2_add_25 : decode cX2_add 25 = .ok (.ireturn, 1) := by decide +kernel
theorem dX2_at_0 : decode cX2_at 0 = .ok (.iload_n 1, 1) := by decide +kernel
theorem dX2_at_1 : decode cX2_at 1 = .ok (.ifCond .lt 20, 3) := by decide +kernel
theorem dX2_at_4 : decode cX2_at 4 = .ok (.iload_n 1, 1) := by decide +kernel
theorem dX2_at_5 : decode cX2_at 5 = .ok (.aload_n 0, 1) := by decide +kernel
theorem dX2_at_6 : decode cX2_at 6 = .ok (.getfield 15, 3) := by decide +kernel
theorem dX2_at_9 : decode cX2_at 9 = .ok (.if_icmp .ge 12, 3) := by decide +kernel
theorem dX2_at_12 : decode cX2_at 12 = .ok (.aload_n 0, 1) := by decide +kernel
theorem dX2_at_13 : decode cX2_at 13 = .ok (.getfield 9, 3) := by decide +kernel
theorem dX2_at_16 : decode cX2_at 16 = .ok (.iload_n 1, 1) := by decide +kernel
theorem dX2_at_17 : decode cX2_at 17 = .ok (.baload, 1) := by decide +kernel
theorem dX2_at_18 : decode cX2_at 18 = .ok (.goto 4, 3) := by decide +kernel
theorem dX2_at_21 : decode cX2_at 21 = .ok (.iconst (-1), 1) := by decide +kernel
theorem dX2_at_22 : decode cX2_at 22 = .ok (.ireturn, 1) := by decide +kernel
theorem dX3_init_0 : decode cX3_init 0 = .ok (.aload_n 0, 1) := by decide +kernel
theorem dX3_init_1 : decode cX3_init 1 = .ok (.invokespecial 3, 3) := by decide +kernel
theorem dX3_init_4 : decode cX3_init 4 = .ok (.aload_n 0, 1) := by decide +kernel
theorem dX3_init_5 : decode cX3_init 5 = .ok (.iconst 4, 1) := by decide +kernel
theorem dX3_init_6 : decode cX3_init 6 = .ok (.newarray .int, 2) := by decide +kernel
theorem dX3_init_8 : decode cX3_init 8 = .ok (.putfield 9, 3) := by decide +kernel
theorem dX3_init_11 : decode cX3_init 11 = .ok (.aload_n 0, 1) := by decide +kernel
theorem dX3_init_12 : decode cX3_init 12 = .ok (.iconst 4, 1) := by decide +kernel
theorem dX3_init_13 : decode cX3_init 13 = .ok (.newarray .int, 2) := by decide +kernel
theorem dX3_init_15 : decode cX3_init 15 = .ok (.putfield 15, 3) := by decide +kernel
theorem dX3_init_18 : decode cX3_init 18 = .ok (.aload_n 0, 1) := by decide +kernel
theorem dX3_init_19 : decode cX3_init 19 = .ok (.iconst 4, 1) := by decide +kernel
theorem dX3_init_20 : decode cX3_init 20 = .ok (.newarray .int, 2) := by decide +kernel
theorem dX3_init_22 : decode cX3_init 22 = .ok (.putfield 18, 3) := by decide +kernel
theorem dX3_init_25 : decode cX3_init 25 = .ok (.aload_n 0, 1) := by decide +kernel
theorem dX3_init_26 : decode cX3_init 26 = .ok (.bipush 7, 2) := by decide +kernel
theorem dX3_init_28 : decode cX3_init 28 = .ok (.newarray .int, 2) := by decide +kernel
theorem dX3_init_30 : decode cX3_init 30 = .ok (.putfield 21, 3) := by decide +kernel
theorem dX3_init_33 : decode cX3_init 33 = .ok (.aload_n 0, 1) := by decide +kernel
theorem dX3_init_34 : decode cX3_init 34 = .ok (.bipush 7, 2) := by decide +kernel
theorem dX3_init_36 : decode cX3_init 36 = .ok (.newarray .int, 2) := by decide +kernel
theorem dX3_init_38 : decode cX3_init 38 = .ok (.putfield 24, 3) := by decide +kernel
theorem dX3_init_41 : decode cX3_init 41 = .ok (.aload_n 0, 1) := by decide +kernel
theorem dX3_init_42 : decode cX3_init 42 = .ok (.bipush 7, 2) := by decide +kernel
theorem dX3_init_44 : decode cX3_init 44 = .ok (.newarray .int, 2) := by decide +kernel
theorem dX3_init_46 : decode cX3_init 46 = .ok (.putfield 27, 3) := by decide +kernel
theorem dX3_init_49 : decode cX3_init 49 = .ok (.aload_n 0, 1) := by decide +kernel
theorem dX3_init_50 : decode cX3_init 50 = .ok (.bipush 7, 2) := by decide +kernel
theorem dX3_init_52 : decode cX3_init 52 = .ok (.newarray .int, 2) := by decide +kernel
theorem dX3_init_54 : decode cX3_init 54 = .ok (.putfield 30, 3) := by decide +kernel
theorem dX3_init_57 : decode cX3_init 57 = .ok (.aload_n 0, 1) := by decide +kernel
theorem dX3_init_58 : decode cX3_init 58 = .ok (.bipush 24, 2) := by decide +kernel
theorem dX3_init_60 : decode cX3_init 60 = .ok (.newarray .int, 2) := by decide +kernel
theorem dX3_init_62 : decode cX3_init 62 = .ok (.putfield 33, 3) := by decide +kernel
theorem dX3_init_65 : decode cX3_init 65 = .ok (.aload_n 0, 1) := by decide +kernel
theorem dX3_init_66 : decode cX3_init 66 = .ok (.bipush 80, 2) := by decide +kernel
theorem dX3_init_68 : decode cX3_init 68 = .ok (.newarray .int, 2) := by decide +kernel
theorem dX3_init_70 : decode cX3_init 70 = .ok (.putfield 36, 3) := by decide +kernel
theorem dX3_init_73 : decode cX3_init 73 = .ok (.return_, 1) := by decide +kernel
theorem dX3_empty_0 : decode cX3_empty 0 = .ok (.aload_n 0, 1) := by decide +kernel
theorem dX3_empty_1 : decode cX3_empty 1 = .ok (.iconst 0, 1) := by decide +kernel
theorem dX3_empty_2 : decode cX3_empty 2 = .ok (.putfield 39, 3) := by decide +kernel
theorem dX3_empty_5 : decode cX3_empty 5 = .ok (.aload_n 0, 1) := by decide +kernel
theorem dX3_empty_6 : decode cX3_empty 6 = .ok (.iconst 0, 1) := by decide +kernel
theorem dX3_empty_7 : decode cX3_empty 7 = .ok (.putfield 43, 3) := by decide +kernel
theorem dX3_empty_10 : decode cX3_empty 10 = .ok (.aload_n 0, 1) := by decide +kernel
theorem dX3_empty_11 : decode cX3_empty 11 = .ok (.iconst 0, 1) := by decide +kernel
theorem dX3_empty_12 : decode cX3_empty 12 = .ok (.putfield 46, 3) := by decide +kernel
theorem dX3_empty_15 : decode cX3_empty 15 = .ok (.aload_n 0, 1) := by decide +kernel
theorem dX3_empty_16 : decode cX3_empty 16 = .ok (.iconst 0, 1) := by decide +kernel
theorem dX3_empty_17 : decode cX3_empty 17 = .ok (.putfield 49, 3) := by decide +kernel
theorem dX3_empty_20 : decode cX3_empty 20 = .ok (.aload_n 0, 1) := by decide +kernel
theorem dX3_empty_21 : decode cX3_empty 21 = .ok (.iconst 0, 1) := by decide +kernel
theorem dX3_empty_22 : decode cX3_empty 22 = .ok (.putfield 52, 3) := by decide +kernel
theorem dX3_empty_25 : decode cX3_empty 25 = .ok (.aload_n 0, 1) := by decide +kernel
theorem dX3_empty_26 : decode cX3_empty 26 = .ok (.iconst 0, 1) := by decide +kernel
theorem dX3_empty_27 : decode cX3_empty 27 = .ok (.putfield 55, 3) := by decide +kernel
theorem dX3_empty_30 : decode cX3_empty 30 = .ok (.return_, 1) := by decide +kernel
theorem dX3_takeFrom_0 : decode cX3_takeFrom 0 = .ok (.aload_n 0, 1) := by decide +kernel
theorem dX3_takeFrom_1 : decode cX3_takeFrom 1 = .ok (.aload_n 1, 1) := by decide +kernel
theorem dX3_takeFrom_2 : decode cX3_takeFrom 2 = .ok (.getfield 39, 3) := by decide +kernel
theorem dX3_takeFrom_5 : decode cX3_takeFrom 5 = .ok (.putfield 39, 3) := by decide +kernel
theorem dX3_takeFrom_8 : decode cX3_takeFrom 8 = .ok (.aload_n 0, 1) := by decide +kernel
theorem dX3_takeFrom_9 : decode cX3_takeFrom 9 = .ok (.aload_n 1, 1) := by decide +kernel
theorem dX3_takeFrom_10 : decode cX3_takeFrom 10 = .ok (.getfield 43, 3) := by decide +kernel
theorem dX3_takeFrom_13 : decode cX3_takeFrom 13 = .ok (.putfield 43, 3) := by decide +kernel
theorem dX3_takeFrom_16 : decode cX3_takeFrom 16 = .ok (.aload_n 0, 1) := by decide +kernel
theorem dX3_takeFrom_17 : decode cX3_takeFrom 17 = .ok (.aload_n 1, 1) := by decide +kernel
theorem dX3_takeFrom_18 : decode cX3_takeFrom 18 = .ok (.getfield 46, 3) := by decide +kernel
theorem dX3_takeFrom_21 : decode cX3_takeFrom 21 = .ok (.putfield 46, 3) := by decide +kernel
theorem dX3_takeFrom_24 : decode cX3_takeFrom 24 = .ok (.aload_n 0, 1) := by decide +kernel
theorem dX3_takeFrom_25 : decode cX3_takeFrom 25 = .ok (.aload_n 1, 1) := by decide +kernel
theorem dX3_takeFrom_26 : decode cX3_takeFrom 26 = .ok (.getfield 49, 3) := by decide +kernel
theorem dX3_takeFrom_29 : decode cX3_takeFrom 29 = .ok (.putfield 49, 3) := by decide +kernel
theorem dX3_takeFrom_32 : decode cX3_takeFrom 32 = .ok (.aload_n 0, 1) := by decide +kernel
theorem dX3_takeFrom_33 : decode cX3_takeFrom 33 = .ok (.aload_n 1, 1) := by decide +kernel
theorem dX3_takeFrom_34 : decode cX3_takeFrom 34 = .ok (.getfield 52, 3) := by decide +kernel
theorem dX3_takeFrom_37 : decode cX3_takeFrom 37 = .ok (.putfield 52, 3) := by decide +kernel
theorem dX3_takeFrom_40 : decode cX3_takeFrom 40 = .ok (.aload_n 0, 1) := by decide +kernel
theorem dX3_takeFrom_41 : decode cX3_takeFrom 41 = .ok (.aload_n 1, 1) := by decide +kernel
theorem dX3_takeFrom_42 : decode cX3_takeFrom 42 = .ok (.getfield 55, 3) := by decide +kernel
theorem dX3_takeFrom_45 : decode cX3_takeFrom 45 = .ok (.putfield 55, 3) := by decide +kernel
theorem dX3_takeFrom_48 : decode cX3_takeFrom 48 = .ok (.aload_n 1, 1) := by decide +kernel
theorem dX3_takeFrom_49 : decode cX3_takeFrom 49 = .ok (.getfield 9, 3) := by decide +kernel
theorem dX3_takeFrom_52 : decode cX3_takeFrom 52 = .ok (.iconst 0, 1) := by decide +kernel
theorem dX3_takeFrom_53 : decode cX3_takeFrom 53 = .ok (.aload_n 0, 1) := by decide +kernel
theorem dX3_takeFrom_54 : decode cX3_takeFrom 54 = .ok (.getfield 9, 3) := by decide +kernel
theorem dX3_takeFrom_57 : decode cX3_takeFrom 57 = .ok (.iconst 0, 1) := by decide +kernel
theorem dX3_takeFrom_58 : decode cX3_takeFrom 58 = .ok (.iconst 4, 1) := by decide +kernel
theorem dX3_takeFrom_59 : decode cX3_takeFrom 59 = .ok (.invokestatic 58, 3) := by decide +kernel
theorem dX3_takeFrom_62 : decode cX3_takeFrom 62 = .ok (.aload_n 1, 1) := by decide +kernel
theorem dX3_takeFrom_63 : decode cX3_takeFrom 63 = .ok (.getfield 15, 3) := by decide +kernel
theorem dX3_takeFrom_66 : decode cX3_takeFrom 66 = .ok (.iconst 0, 1) := by decide +kernel
theorem dX3_takeFrom_67 : decode cX3_takeFrom 67 = .ok (.aload_n 0, 1) := by decide +kernel
theorem dX3_takeFrom_68 : decode cX3_takeFrom 68 = .ok (.getfield 15, 3) := by decide +kernel
theorem dX3_takeFrom_71 : decode cX3_takeFrom 71 = .ok (.iconst 0, 1) := by decide +kernel
theorem dX3_takeFrom_72 : decode cX3_takeFrom 72 = .ok (.iconst 4, 1) := by decide +kernel
theorem dX3_takeFrom_73 : decode cX3_takeFrom 73 = .ok (.invokestatic 58, 3) := by decide +kernel
theorem dX3_takeFrom_76 : decode cX3_takeFrom 76 = .ok (.aload_n 1, 1) := by decide +kernel
theorem dX3_takeFrom_77 : decode cX3_takeFrom 77 = .ok (.getfield 18, 3) := by decide +kernel
theorem dX3_takeFrom_80 : decode cX3_takeFrom 80 = .ok (.iconst 0, 1) := by decide +kernel
theorem dX3_takeFrom_81 : decode cX3_takeFrom 81 = .ok (.aload_n 0, 1) := by decide +kernel
theorem dX3_takeFrom_82 : decode cX3_takeFrom 82 = .ok (.getfield 18, 3) := by decide +kernel
theorem dX3_takeFrom_85 : decode cX3_takeFrom 85 = .ok (.iconst 0, 1) := by decide +kernel
theorem dX3_takeFrom_86 : decode cX3_takeFrom 86 = .ok (.iconst 4, 1) := by decide +kernel
theorem dX3_takeFrom_87 : decode cX3_takeFrom 87 = .ok (.invokestatic 58, 3) := by decide +kernel
theorem dX3_takeFrom_90 : decode cX3_takeFrom 90 = .ok (.aload_n 1, 1) := by decide +kernel
theorem dX3_takeFrom_91 : decode cX3_takeFrom 91 = .ok (.getfield 21, 3) := by decide +kernel
theorem dX3_takeFrom_94 : decode cX3_takeFrom 94 = .ok (.iconst 0, 1) := by decide +kernel
theorem dX3_takeFrom_95 : decode cX3_takeFrom 95 = .ok (.aload_n 0, 1) := by decide +kernel
theorem dX3_takeFrom_96 : decode cX3_takeFrom 96 = .ok (.getfield 21, 3) := by decide +kernel
theorem dX3_takeFrom_99 : decode cX3_takeFrom 99 = .ok (.iconst 0, 1) := by decide +kernel
theorem dX3_takeFrom_100 : decode cX3_takeFrom 100 = .ok (.bipush 7, 2) := by decide +kernel
theorem dX3_takeFrom_102 : decode cX3_takeFrom 102 = .ok (.invokestatic 58, 3) := by decide +kernel
theorem dX3_takeFrom_105 : decode cX3_takeFrom 105 = .ok (.aload_n 1, 1) := by decide +kernel
theorem dX3_takeFrom_106 : decode cX3_takeFrom 106 = .ok (.getfield 24, 3) := by decide +kernel
theorem dX3_takeFrom_109 : decode cX3_takeFrom 109 = .ok (.iconst 0, 1) := by decide +kernel
theorem dX3_takeFrom_110 : decode cX3_takeFrom 110 = .ok (.aload_n 0, 1) := by decide +kernel
theorem dX3_takeFrom_111 : decode cX3_takeFrom 111 = .ok (.getfield 24, 3) := by decide +kernel
theorem dX3_takeFrom_114 : decode cX3_takeFrom 114 = .ok (.iconst 0, 1) := by decide +kernel
theorem dX3_takeFrom_115 : decode cX3_takeFrom 115 = .ok (.bipush 7, 2) := by decide +kernel
theorem dX3_takeFrom_117 : decode cX3_takeFrom 117 = .ok (.invokestatic 58, 3) := by decide +kernel
theorem dX3_takeFrom_120 : decode cX3_takeFrom 120 = .ok (.aload_n 1, 1) := by decide +kernel
theorem dX3_takeFrom_121 : decode cX3_takeFrom 121 = .ok (.getfield 27, 3) := by decide +kernel
theorem dX3_takeFrom_124 : decode cX3_takeFrom 124 = .ok (.iconst 0, 1) := by decide +kernel
theorem dX3_takeFrom_125 : decode cX3_takeFrom 125 = .ok (.aload_n 0, 1) := by decide +kernel
theorem dX3_takeFrom_126 : decode cX3_takeFrom 126 = .ok (.getfield 27, 3) := by decide +kernel
theorem dX3_takeFrom_129 : decode cX3_takeFrom 129 = .ok (.iconst 0, 1) := by decide +kernel
theorem dX3_takeFrom_130 : decode cX3_takeFrom 130 = .ok (.bipush 7, 2) := by decide +kernel
theorem dX3_takeFrom_132 : decode cX3_takeFrom 132 = .ok (.invokestatic 58, 3) := by decide +kernel
theorem dX3_takeFrom_135 : decode cX3_takeFrom 135 = .ok (.aload_n 1, 1) := by decide +kernel
theorem dX3_takeFrom_136 : decode cX3_takeFrom 136 = .ok (.getfield 30, 3) := by decide +kernel
theorem dX3_takeFrom_139 : decode cX3_takeFrom 139 = .ok (.iconst 0, 1) := by decide +kernel
theorem dX3_takeFrom_140 : decode cX3_takeFrom 140 = .ok (.aload_n 0, 1) := by decide +kernel
theorem dX3_takeFrom_141 : decode cX3_takeFrom 141 = .ok (.getfield 30, 3) := by decide +kernel
theorem dX3_takeFrom_144 : decode cX3_takeFrom 144 = .ok (.iconst 0, 1) := by decide +kernel
theorem dX3_takeFrom_145 : decode cX3_takeFrom 145 = .ok (.bipush 7, 2) := by decide +kernel
theorem dX3_takeFrom_147 : decode cX3_takeFrom 147 = .ok (.invokestatic 58, 3) := by decide +kernel
theorem dX3_takeFrom_150 : decode cX3_takeFrom 150 = .ok (.aload_n 1, 1) := by decide +kernel
theorem dX3_takeFrom_151 : decode cX3_takeFrom 151 = .ok (.getfield 33, 3) := by decide +kernel
theorem dX3_takeFrom_154 : decode cX3_takeFrom 154 = .ok (.iconst 0, 1) := by decide +kernel
theorem dX3_takeFrom_155 : decode cX3_takeFrom 155 = .ok (.aload_n 0, 1) := by decide +kernel
theorem dX3_takeFrom_156 : decode cX3_takeFrom 156 = .ok (.getfield 33, 3) := by decide +kernel
theorem dX3_takeFrom_159 : decode cX3_takeFrom 159 = .ok (.iconst 0, 1) := by decide +kernel
theorem dX3_takeFrom_160 : decode cX3_takeFrom 160 = .ok (.bipush 24, 2) := by decide +kernel
theorem dX3_takeFrom_162 : decode cX3_takeFrom 162 = .ok (.invokestatic 58, 3) := by decide +kernel
theorem dX3_takeFrom_165 : decode cX3_takeFrom 165 = .ok (.aload_n 1, 1) := by decide +kernel
theorem dX3_takeFrom_166 : decode cX3_takeFrom 166 = .ok (.getfield 36, 3) := by decide +kernel
theorem dX3_takeFrom_169 : decode cX3_takeFrom 169 = .ok (.iconst 0, 1) := by decide +kernel
theorem dX3_takeFrom_170 : decode cX3_takeFrom 170 = .ok (.aload_n 0, 1) := by decide +kernel
theorem dX3_takeFrom_171 : decode cX3_takeFrom 171 = .ok (.getfield 36, 3) := by decide +kernel
theorem dX3_takeFrom_174 : decode cX3_takeFrom 174 = .ok (.iconst 0, 1) := by decide +kernel
theorem dX3_takeFrom_175 : decode cX3_takeFrom 175 = .ok (.bipush 80, 2) := by decide +kernel
theorem dX3_takeFrom_177 : decode cX3_takeFrom 177 = .ok (.invokestatic 58, 3) := by decide +kernel
theorem dX3_takeFrom_180 : decode cX3_takeFrom 180 = .ok (.return_, 1) := by decide +kernel
theorem dX3_hasMan_0 : decode cX3_hasMan 0 = .ok (.iload_n 1, 1) := by decide +kernel
theorem dX3_hasMan_1 : decode cX3_hasMan 1 = .ok (.ifCond .lt 15, 3) := by decide +kernel
theorem dX3_hasMan_4 : decode cX3_hasMan 4 = .ok (.iload_n 1, 1) := by decide +kernel
theorem dX3_hasMan_5 : decode cX3_hasMan 5 = .ok (.aload_n 0, 1) := by decide +kernel
theorem dX3_hasMan_6 : decode cX3_hasMan 6 = .ok (.getfield 39, 3) := by decide +kernel
theorem dX3_hasMan_9 : decode cX3_hasMan 9 = .ok (.if_icmp .ge 7, 3) := by decide +kernel
theorem dX3_hasMan_12 : decode cX3_hasMan 12 = .ok (.iconst 1, 1) := by decide +kernel
theorem dX3_hasMan_13 : decode cX3_hasMan 13 = .ok (.goto 4, 3) := by decide +kernel
theorem dX3_hasMan_16 : decode cX3_hasMan 16 = .ok (.iconst 0, 1) := by decide +kernel
theorem dX3_hasMan_17 : decode cX3_hasMan 17 = .ok (.ireturn, 1) := by decide +kernel
theorem dX3_hasDog_0 : decode cX3_hasDog 0 = .ok (.iload_n 1, 1) := by decide +kernel
theorem dX3_hasDog_1 : decode cX3_hasDog 1 = .ok (.ifCond .lt 15, 3) := by decide +kernel
theorem dX3_hasDog_4 : decode cX3_hasDog 4 = .ok (.iload_n 1, 1) := by decide +kernel
theorem dX3_hasDog_5 : decode cX3_hasDog 5 = .ok (.aload_n 0, 1) := by decide +kernel
theorem dX3_hasDog_6 : decode cX3_hasDog 6 = .ok (.getfield 43, 3) := by decide +kernel
theorem dX3_hasDog_9 : decode cX3_hasDog 9 = .ok (.if_icmp .ge 7, 3) := by decide +kernel
theorem dX3_hasDog_12 : decode cX3_hasDog 12 = .ok (.iconst 1, 1) := by decide +kernel
theorem dX3_hasDog_13 : decode cX3_hasDog 13 = .ok (.goto 4, 3) := by decide +kernel
theorem dX3_hasDog_16 : decode cX3_hasDog 16 = .ok (.iconst 0, 1) := by decide +kernel
theorem dX3_hasDog_17 : decode cX3_hasDog 17 = .ok (.ireturn, 1) := by decide +kernel
theorem dX3_isIn_0 : decode cX3_isIn 0 = .ok (.iload_n 0, 1) := by decide +kernel
theorem dX3_isIn_1 : decode cX3_isIn 1 = .ok (.iload_n 1, 1) := by decide +kernel
theorem dX3_isIn_2 : decode cX3_isIn 2 = .ok (.ishr, 1) := by decide +kernel
theorem dX3_isIn_3 : decode cX3_isIn 3 = .ok (.iconst 1, 1) := by decide +kernel
theorem dX3_isIn_4 : decode cX3_isIn 4 = .ok (.iand, 1) := by decide +kernel
theorem dX3_isIn_5 : decode cX3_isIn 5 = .ok (.iconst 1, 1) := by decide +kernel
theorem dX3_isIn_6 : decode cX3_isIn 6 = .ok (.if_icmp .ne 7, 3) := by decide +kernel
theorem dX3_isIn_9 : decode cX3_isIn 9 = .ok (.iconst 1, 1) := by decide +kernel
theorem dX3_isIn_10 : decode cX3_isIn 10 = .ok (.goto 4, 3) := by decide +kernel
theorem dX3_isIn_13 : decode cX3_isIn 13 = .ok (.iconst 0, 1) := by decide +kernel
theorem dX3_isIn_14 : decode cX3_isIn 14 = .ok (.ireturn, 1) := by decide +kernel
theorem dX3_isAsleep_0 : decode cX3_isAsleep 0 = .ok (.aload_n 0, 1) := by decide +kernel
theorem dX3_isAsleep_1 : decode cX3_isAsleep 1 = .ok (.getfield 46, 3) := by decide +kernel
theorem dX3_isAsleep_4 : decode cX3_isAsleep 4 = .ok (.iload_n 1, 1) := by decide +kernel
theorem dX3_isAsleep_5 : decode cX3_isAsleep 5 = .ok (.invokestatic 64, 3) := by decide +kernel
theorem dX3_isAsleep_8 : decode cX3_isAsleep 8 = .ok (.ireturn, 1) := by decide +kernel
theorem dX3_everyDog_0 : decode cX3_everyDog 0 = .ok (.iconst 1, 1) := by decide +kernel
theorem dX3_everyDog_1 : decode cX3_everyDog 1 = .ok (.aload_n 0, 1) := by decide +kernel
theorem dX3_everyDog_2 : decode cX3_everyDog 2 = .ok (.getfield 43, 3) := by decide +kernel
theorem dX3_everyDog_5 : decode cX3_everyDog 5 = .ok (.ishl, 1) := by decide +kernel
theorem dX3_everyDog_6 : decode cX3_everyDog 6 = .ok (.iconst 1, 1) := by decide +kernel
theorem dX3_everyDog_7 : decode cX3_everyDog 7 = .ok (.isub, 1) := by decide +kernel
theorem dX3_everyDog_8 : decode cX3_everyDog 8 = .ok (.ireturn, 1) := by decide +kernel
theorem dX3_addMan_0 : decode cX3_addMan 0 = .ok (.aload_n 0, 1) := by decide +kernel
theorem dX3_addMan_1 : decode cX3_addMan 1 = .ok (.getfield 9, 3) := by decide +kernel
theorem dX3_addMan_4 : decode cX3_addMan 4 = .ok (.aload_n 0, 1) := by decide +kernel
theorem dX3_addMan_5 : decode cX3_addMan 5 = .ok (.getfield 39, 3) := by decide +kernel
theorem dX3_addMan_8 : decode cX3_addMan 8 = .ok (.iload_n 1, 1) := by decide +kernel
theorem dX3_addMan_9 : decode cX3_addMan 9 = .ok (.iastore, 1) := by decide +kernel
theorem dX3_addMan_10 : decode cX3_addMan 10 = .ok (.aload_n 0, 1) := by decide +kernel
theorem dX3_addMan_11 : decode cX3_addMan 11 = .ok (.getfield 15, 3) := by decide +kernel
theorem dX3_addMan_14 : decode cX3_addMan 14 = .ok (.aload_n 0, 1) := by decide +kernel
theorem dX3_addMan_15 : decode cX3_addMan 15 = .ok (.getfield 39, 3) := by decide +kernel
theorem dX3_addMan_18 : decode cX3_addMan 18 = .ok (.iload_n 2, 1) := by decide +kernel
theorem dX3_addMan_19 : decode cX3_addMan 19 = .ok (.iastore, 1) := by decide +kernel
theorem dX3_addMan_20 : decode cX3_addMan 20 = .ok (.aload_n 0, 1) := by decide +kernel
theorem dX3_addMan_21 : decode cX3_addMan 21 = .ok (.getfield 18, 3) := by decide +kernel
theorem dX3_addMan_24 : decode cX3_addMan 24 = .ok (.aload_n 0, 1) := by decide +kernel
theorem dX3_addMan_25 : decode cX3_addMan 25 = .ok (.getfield 39, 3) := by decide +kernel
theorem dX3_addMan_28 : decode cX3_addMan 28 = .ok (.iconst 0, 1) := by decide +kernel
theorem dX3_addMan_29 : decode cX3_addMan 29 = .ok (.iastore, 1) := by decide +kernel
theorem dX3_addMan_30 : decode cX3_addMan 30 = .ok (.aload_n 0, 1) := by decide +kernel
theorem dX3_addMan_31 : decode cX3_addMan 31 = .ok (.iconst 0, 1) := by decide +kernel
theorem dX3_addMan_32 : decode cX3_addMan 32 = .ok (.putfield 55, 3) := by decide +kernel
theorem dX3_addMan_35 : decode cX3_addMan 35 = .ok (.aload_n 0, 1) := by decide +kernel
theorem dX3_addMan_36 : decode cX3_addMan 36 = .ok (.dup, 1) := by decide +kernel
theorem dX3_addMan_37 : decode cX3_addMan 37 = .ok (.getfield 39, 3) := by decide +kernel
theorem dX3_addMan_40 : decode cX3_addMan 40 = .ok (.dup_x1, 1) := by decide +kernel
theorem dX3_addMan_41 : decode cX3_addMan 41 = .ok (.iconst 1, 1) := by decide +kernel
theorem dX3_addMan_42 : decode cX3_addMan 42 = .ok (.iadd, 1) := by decide +kernel
theorem dX3_addMan_43 : decode cX3_addMan 43 = .ok (.putfield 39, 3) := by decide +kernel
theorem dX3_addMan_46 : decode cX3_addMan 46 = .ok (.ireturn, 1) := by decide +kernel
theorem dX3_addDog_0 : decode cX3_addDog 0 = .ok (.aload_n 0, 1) := by decide +kernel
theorem dX3_addDog_1 : decode cX3_addDog 1 = .ok (.getfield 21, 3) := by decide +kernel
theorem dX3_addDog_4 : decode cX3_addDog 4 = .ok (.aload_n 0, 1) := by decide +kernel
theorem dX3_addDog_5 : decode cX3_addDog 5 = .ok (.getfield 43, 3) := by decide +kernel
theorem dX3_addDog_8 : decode cX3_addDog 8 = .ok (.iload_n 1, 1) := by decide +kernel
theorem dX3_addDog_9 : decode cX3_addDog 9 = .ok (.iastore, 1) := by decide +kernel
theorem dX3_addDog_10 : decode cX3_addDog 10 = .ok (.aload_n 0, 1) := by decide +kernel
theorem dX3_addDog_11 : decode cX3_addDog 11 = .ok (.getfield 24, 3) := by decide +kernel
theorem dX3_addDog_14 : decode cX3_addDog 14 = .ok (.aload_n 0, 1) := by decide +kernel
theorem dX3_addDog_15 : decode cX3_addDog 15 = .ok (.getfield 43, 3) := by decide +kernel
theorem dX3_addDog_18 : decode cX3_addDog 18 = .ok (.iload_n 2, 1) := by decide +kernel
theorem dX3_addDog_19 : decode cX3_addDog 19 = .ok (.iastore, 1) := by decide +kernel
theorem dX3_addDog_20 : decode cX3_addDog 20 = .ok (.aload_n 0, 1) := by decide +kernel
theorem dX3_addDog_21 : decode cX3_addDog 21 = .ok (.getfield 27, 3) := by decide +kernel
theorem dX3_addDog_24 : decode cX3_addDog 24 = .ok (.aload_n 0, 1) := by decide +kernel
theorem dX3_addDog_25 : decode cX3_addDog 25 = .ok (.getfield 43, 3) := by decide +kernel
theorem dX3_addDog_28 : decode cX3_addDog 28 = .ok (.iload_n 3, 1) := by decide +kernel
theorem dX3_addDog_29 : decode cX3_addDog 29 = .ok (.iastore, 1) := by decide +kernel
theorem dX3_addDog_30 : decode cX3_addDog 30 = .ok (.aload_n 0, 1) := by decide +kernel
theorem dX3_addDog_31 : decode cX3_addDog 31 = .ok (.getfield 30, 3) := by decide +kernel
theorem dX3_addDog_34 : decode cX3_addDog 34 = .ok (.aload_n 0, 1) := by decide +kernel
theorem dX3_addDog_35 : decode cX3_addDog 35 = .ok (.getfield 43, 3) := by decide +kernel
theorem dX3_addDog_38 : decode cX3_addDog 38 = .ok (.iload 4, 2) := by decide +kernel
theorem dX3_addDog_40 : decode cX3_addDog 40 = .ok (.iastore, 1) := by decide +kernel
theorem dX3_addDog_41 : decode cX3_addDog 41 = .ok (.aload_n 0, 1) := by decide +kernel
theorem dX3_addDog_42 : decode cX3_addDog 42 = .ok (.iconst 0, 1) := by decide +kernel
theorem dX3_addDog_43 : decode cX3_addDog 43 = .ok (.putfield 55, 3) := by decide +kernel
theorem dX3_addDog_46 : decode cX3_addDog 46 = .ok (.aload_n 0, 1) := by decide +kernel
theorem dX3_addDog_47 : decode cX3_addDog 47 = .ok (.dup, 1) := by decide +kernel
theorem dX3_addDog_48 : decode cX3_addDog 48 = .ok (.getfield 43, 3) := by decide +kernel
theorem dX3_addDog_51 : decode cX3_addDog 51 = .ok (.dup_x1, 1) := by decide +kernel
theorem dX3_addDog_52 : decode cX3_addDog 52 = .ok (.iconst 1, 1) := by decide +kernel
theorem dX3_addDog_53 : decode cX3_addDog 53 = .ok (.iadd, 1) := by decide +kernel
theorem dX3_addDog_54 : decode cX3_addDog 54 = .ok (.putfield 43, 3) := by decide +kernel
theorem dX3_addDog_57 : decode cX3_addDog 57 = .ok (.ireturn, 1) := by decide +kernel
theorem dX3_mayBribe_0 : decode cX3_mayBribe 0 = .ok (.aload_n 0, 1) := by decide +kernel
theorem dX3_mayBribe_1 : decode cX3_mayBribe 1 = .ok (.iload_n 2, 1) := by decide +kernel
theorem dX3_mayBribe_2 : decode cX3_mayBribe 2 = .ok (.invokevirtual 68, 3) := by decide +kernel
theorem dX3_mayBribe_5 : decode cX3_mayBribe 5 = .ok (.ifCond .ne 22, 3) := by decide +kernel
theorem dX3_mayBribe_8 : decode cX3_mayBribe 8 = .ok (.aload_n 0, 1) := by decide +kernel
theorem dX3_mayBribe_9 : decode cX3_mayBribe 9 = .ok (.getfield 27, 3) := by decide +kernel
theorem dX3_mayBribe_12 : decode cX3_mayBribe 12 = .ok (.iload_n 2, 1) := by decide +kernel
theorem dX3_mayBribe_13 : decode cX3_mayBribe 13 = .ok (.iaload, 1) := by decide +kernel
theorem dX3_mayBribe_14 : decode cX3_mayBribe 14 = .ok (.aload_n 0, 1) := by decide +kernel
theorem dX3_mayBribe_15 : decode cX3_mayBribe 15 = .ok (.getfield 15, 3) := by decide +kernel
theorem dX3_mayBribe_18 : decode cX3_mayBribe 18 = .ok (.iload_n 1, 1) := by decide +kernel
theorem dX3_mayBribe_19 : decode cX3_mayBribe 19 = .ok (.iaload, 1) := by decide +kernel
theorem dX3_mayBribe_20 : decode cX3_mayBribe 20 = .ok (.if_icmp .gt 7, 3) := by decide +kernel
theorem dX3_mayBribe_23 : decode cX3_mayBribe 23 = .ok (.iconst 1, 1) := by decide +kernel
theorem dX3_mayBribe_24 : decode cX3_mayBribe 24 = .ok (.goto 4, 3) := by decide +kernel
theorem dX3_mayBribe_27 : decode cX3_mayBribe 27 = .ok (.iconst 0, 1) := by decide +kernel
theorem dX3_mayBribe_28 : decode cX3_mayBribe 28 = .ok (.ireturn, 1) := by decide +kernel
theorem dX3_putToSleep_0 : decode cX3_putToSleep 0 = .ok (.aload_n 0, 1) := by decide +kernel
theorem dX3_putToSleep_1 : decode cX3_putToSleep 1 = .ok (.dup, 1) := by decide +kernel
theorem dX3_putToSleep_2 : decode cX3_putToSleep 2 = .ok (.getfield 46, 3) := by decide +kernel
theorem dX3_putToSleep_5 : decode cX3_putToSleep 5 = .ok (.iconst 1, 1) := by decide +kernel
theorem dX3_putToSleep_6 : decode cX3_putToSleep 6 = .ok (.iload_n 2, 1) := by decide +kernel
theorem dX3_putToSleep_7 : decode cX3_putToSleep 7 = .ok (.ishl, 1) := by decide +kernel
theorem dX3_putToSleep_8 : decode cX3_putToSleep 8 = .ok (.ior, 1) := by decide +kernel
theorem dX3_putToSleep_9 : decode cX3_putToSleep 9 = .ok (.putfield 46, 3) := by decide +kernel
theorem dX3_putToSleep_12 : decode cX3_putToSleep 12 = .ok (.aload_n 0, 1) := by decide +kernel
theorem dX3_putToSleep_13 : decode cX3_putToSleep 13 = .ok (.getfield 15, 3) := by decide +kernel
theorem dX3_putToSleep_16 : decode cX3_putToSleep 16 = .ok (.iload_n 1, 1) := by decide +kernel
theorem dX3_putToSleep_17 : decode cX3_putToSleep 17 = .ok (.dup2, 1) := by decide +kernel
theorem dX3_putToSleep_18 : decode cX3_putToSleep 18 = .ok (.iaload, 1) := by decide +kernel
theorem dX3_putToSleep_19 : decode cX3_putToSleep 19 = .ok (.aload_n 0, 1) := by decide +kernel
theorem dX3_putToSleep_20 : decode cX3_putToSleep 20 = .ok (.getfield 27, 3) := by decide +kernel
theorem dX3_putToSleep_23 : decode cX3_putToSleep 23 = .ok (.iload_n 2, 1) := by decide +kernel
theorem dX3_putToSleep_24 : decode cX3_putToSleep 24 = .ok (.iaload, 1) := by decide +kernel
theorem dX3_putToSleep_25 : decode cX3_putToSleep 25 = .ok (.isub, 1) := by decide +kernel
theorem dX3_putToSleep_26 : decode cX3_putToSleep 26 = .ok (.iastore, 1) := by decide +kernel
theorem dX3_putToSleep_27 : decode cX3_putToSleep 27 = .ok (.return_, 1) := by decide +kernel
theorem dX3_hungerOf_0 : decode cX3_hungerOf 0 = .ok (.iconst 0, 1) := by decide +kernel
theorem dX3_hungerOf_1 : decode cX3_hungerOf 1 = .ok (.istore_n 2, 1) := by decide +kernel
theorem dX3_hungerOf_2 : decode cX3_hungerOf 2 = .ok (.iconst 0, 1) := by decide +kernel
theorem dX3_hungerOf_3 : decode cX3_hungerOf 3 = .ok (.istore_n 3, 1) := by decide +kernel
theorem dX3_hungerOf_4 : decode cX3_hungerOf 4 = .ok (.iload_n 3, 1) := by decide +kernel
theorem dX3_hungerOf_5 : decode cX3_hungerOf 5 = .ok (.aload_n 0, 1) := by decide +kernel
theorem dX3_hungerOf_6 : decode cX3_hungerOf 6 = .ok (.getfield 43, 3) := by decide +kernel
theorem dX3_hungerOf_9 : decode cX3_hungerOf 9 = .ok (.if_icmp .ge 26, 3) := by decide +kernel
theorem dX3_hungerOf_12 : decode cX3_hungerOf 12 = .ok (.iload_n 1, 1) := by decide +kernel
theorem dX3_hungerOf_13 : decode cX3_hungerOf 13 = .ok (.iload_n 3, 1) := by decide +kernel
theorem dX3_hungerOf_14 : decode cX3_hungerOf 14 = .ok (.invokestatic 64, 3) := by decide +kernel
theorem dX3_hungerOf_17 : decode cX3_hungerOf 17 = .ok (.ifCond .eq 12, 3) := by decide +kernel
theorem dX3_hungerOf_20 : decode cX3_hungerOf 20 = .ok (.iload_n 2, 1) := by decide +kernel
theorem dX3_hungerOf_21 : decode cX3_hungerOf 21 = .ok (.aload_n 0, 1) := by decide +kernel
theorem dX3_hungerOf_22 : decode cX3_hungerOf 22 = .ok (.getfield 27, 3) := by decide +kernel
theorem dX3_hungerOf_25 : decode cX3_hungerOf 25 = .ok (.iload_n 3, 1) := by decide +kernel
theorem dX3_hungerOf_26 : decode cX3_hungerOf 26 = .ok (.iaload, 1) := by decide +kernel
theorem dX3_hungerOf_27 : decode cX3_hungerOf 27 = .ok (.iadd, 1) := by decide +kernel
theorem dX3_hungerOf_28 : decode cX3_hungerOf 28 = .ok (.istore_n 2, 1) := by decide +kernel
theorem dX3_hungerOf_29 : decode cX3_hungerOf 29 = .ok (.iinc 3 1, 3) := by decide +kernel
theorem dX3_hungerOf_32 : decode cX3_hungerOf 32 = .ok (.goto (-28), 3) := by decide +kernel
theorem dX3_hungerOf_35 : decode cX3_hungerOf 35 = .ok (.iload_n 2, 1) := by decide +kernel
theorem dX3_hungerOf_36 : decode cX3_hungerOf 36 = .ok (.ireturn, 1) := by decide +kernel
theorem dX3_keepPast_0 : decode cX3_keepPast 0 = .ok (.aload_n 0, 1) := by decide +kernel
theorem dX3_keepPast_1 : decode cX3_keepPast 1 = .ok (.getfield 55, 3) := by decide +kernel
theorem dX3_keepPast_4 : decode cX3_keepPast 4 = .ok (.bipush 8, 2) := by decide +kernel
theorem dX3_keepPast_6 : decode cX3_keepPast 6 = .ok (.if_icmp .lt 25, 3) := by decide +kernel
theorem dX3_keepPast_9 : decode cX3_keepPast 9 = .ok (.aload_n 0, 1) := by decide +kernel
theorem dX3_keepPast_10 : decode cX3_keepPast 10 = .ok (.getfield 36, 3) := by decide +kernel
theorem dX3_keepPast_13 : decode cX3_keepPast 13 = .ok (.bipush 10, 2) := by decide +kernel
theorem dX3_keepPast_15 : decode cX3_keepPast 15 = .ok (.aload_n 0, 1) := by decide +kernel
theorem dX3_keepPast_16 : decode cX3_keepPast 16 = .ok (.getfield 36, 3) := by decide +kernel
theorem dX3_keepPast_19 : decode cX3_keepPast 19 = .ok (.iconst 0, 1) := by decide +kernel
theorem dX3_keepPast_20 : decode cX3_keepPast 20 = .ok (.bipush 70, 2) := by decide +kernel
theorem dX3_keepPast_22 : decode cX3_keepPast 22 = .ok (.invokestatic 58, 3) := by decide +kernel
theorem dX3_keepPast_25 : decode cX3_keepPast 25 = .ok (.aload_n 0, 1) := by decide +kernel
theorem dX3_keepPast_26 : decode cX3_keepPast 26 = .ok (.bipush 7, 2) := by decide +kernel
theorem dX3_keepPast_28 : decode cX3_keepPast 28 = .ok (.putfield 55, 3) := by decide +kernel
theorem dX3_keepPast_31 : decode cX3_keepPast 31 = .ok (.aload_n 0, 1) := by decide +kernel
theorem dX3_keepPast_32 : decode cX3_keepPast 32 = .ok (.getfield 55, 3) := by decide +kernel
theorem dX3_keepPast_35 : decode cX3_keepPast 35 = .ok (.bipush 10, 2) := by decide +kernel
theorem dX3_keepPast_37 : decode cX3_keepPast 37 = .ok (.imul, 1) := by decide +kernel
theorem dX3_keepPast_38 : decode cX3_keepPast 38 = .ok (.istore_n 1, 1) := by decide +kernel
theorem dX3_keepPast_39 : decode cX3_keepPast 39 = .ok (.aload_n 0, 1) := by decide +kernel
theorem dX3_keepPast_40 : decode cX3_keepPast 40 = .ok (.getfield 15, 3) := by decide +kernel
theorem dX3_keepPast_43 : decode cX3_keepPast 43 = .ok (.iconst 0, 1) := by decide +kernel
theorem dX3_keepPast_44 : decode cX3_keepPast 44 = .ok (.aload_n 0, 1) := by decide +kernel
theorem dX3_keepPast_45 : decode cX3_keepPast 45 = .ok (.getfield 36, 3) := by decide +kernel
theorem dX3_keepPast_48 : decode cX3_keepPast 48 = .ok (.iload_n 1, 1) := by decide +kernel
theorem dX3_keepPast_49 : decode cX3_keepPast 49 = .ok (.iconst 4, 1) := by decide +kernel
theorem dX3_keepPast_50 : decode cX3_keepPast 50 = .ok (.invokestatic 58, 3) := by decide +kernel
theorem dX3_keepPast_53 : decode cX3_keepPast 53 = .ok (.aload_n 0, 1) := by decide +kernel
theorem dX3_keepPast_54 : decode cX3_keepPast 54 = .ok (.getfield 18, 3) := by decide +kernel
theorem dX3_keepPast_57 : decode cX3_keepPast 57 = .ok (.iconst 0, 1) := by decide +kernel
theorem dX3_keepPast_58 : decode cX3_keepPast 58 = .ok (.aload_n 0, 1) := by decide +kernel
theorem dX3_keepPast_59 : decode cX3_keepPast 59 = .ok (.getfield 36, 3) := by decide +kernel
theorem dX3_keepPast_62 : decode cX3_keepPast 62 = .ok (.iload_n 1, 1) := by decide +kernel
theorem dX3_keepPast_63 : decode cX3_keepPast 63 = .ok (.iconst 4, 1) := by decide +kernel
theorem dX3_keepPast_64 : decode cX3_keepPast 64 = .ok (.iadd, 1) := by decide +kernel
theorem dX3_keepPast_65 : decode cX3_keepPast 65 = .ok (.iconst 4, 1) := by decide +kernel
theorem dX3_keepPast_66 : decode cX3_keepPast 66 = .ok (.invokestatic 58, 3) := by decide +kernel
theorem dX3_keepPast_69 : decode cX3_keepPast 69 = .ok (.aload_n 0, 1) := by decide +kernel
theorem dX3_keepPast_70 : decode cX3_keepPast 70 = .ok (.getfield 36, 3) := by decide +kernel
theorem dX3_keepPast_73 : decode cX3_keepPast 73 = .ok (.iload_n 1, 1) := by decide +kernel
theorem dX3_keepPast_74 : decode cX3_keepPast 74 = .ok (.bipush 8, 2) := by decide +kernel
theorem dX3_keepPast_76 : decode cX3_keepPast 76 = .ok (.iadd, 1) := by decide +kernel
theorem dX3_keepPast_77 : decode cX3_keepPast 77 = .ok (.aload_n 0, 1) := by decide +kernel
theorem dX3_keepPast_78 : decode cX3_keepPast 78 = .ok (.getfield 46, 3) := by decide +kernel
theorem dX3_keepPast_81 : decode cX3_keepPast 81 = .ok (.iastore, 1) := by decide +kernel
theorem dX3_keepPast_82 : decode cX3_keepPast 82 = .ok (.aload_n 0, 1) := by decide +kernel
theorem dX3_keepPast_83 : decode cX3_keepPast 83 = .ok (.getfield 36, 3) := by decide +kernel
theorem dX3_keepPast_86 : decode cX3_keepPast 86 = .ok (.iload_n 1, 1) := by decide +kernel
theorem dX3_keepPast_87 : decode cX3_keepPast 87 = .ok (.bipush 8, 2) := by decide +kernel
theorem dX3_keepPast_89 : decode cX3_keepPast 89 = .ok (.iadd, 1) := by decide +kernel
theorem dX3_keepPast_90 : decode cX3_keepPast 90 = .ok (.iconst 1, 1) := by decide +kernel
theorem dX3_keepPast_91 : decode cX3_keepPast 91 = .ok (.iadd, 1) := by decide +kernel
theorem dX3_keepPast_92 : decode cX3_keepPast 92 = .ok (.aload_n 0, 1) := by decide +kernel
theorem dX3_keepPast_93 : decode cX3_keepPast 93 = .ok (.getfield 49, 3) := by decide +kernel
theorem dX3_keepPast_96 : decode cX3_keepPast 96 = .ok (.iastore, 1) := by decide +kernel
theorem dX3_keepPast_97 : decode cX3_keepPast 97 = .ok (.aload_n 0, 1) := by decide +kernel
theorem dX3_keepPast_98 : decode cX3_keepPast 98 = .ok (.dup, 1) := by decide +kernel
theorem dX3_keepPast_99 : decode cX3_keepPast 99 = .ok (.getfield 55, 3) := by decide +kernel
theorem dX3_keepPast_102 : decode cX3_keepPast 102 = .ok (.iconst 1, 1) := by decide +kernel
theorem dX3_keepPast_103 : decode cX3_keepPast 103 = .ok (.iadd, 1) := by decide +kernel
theorem dX3_keepPast_104 : decode cX3_keepPast 104 = .ok (.putfield 55, 3) := by decide +kernel
theorem dX3_keepPast_107 : decode cX3_keepPast 107 = .ok (.return_, 1) := by decide +kernel
theorem dX3_goBack_0 : decode cX3_goBack 0 = .ok (.aload_n 0, 1) := by decide +kernel
theorem dX3_goBack_1 : decode cX3_goBack 1 = .ok (.getfield 55, 3) := by decide +kernel
theorem dX3_goBack_4 : decode cX3_goBack 4 = .ok (.ifCond .gt 4, 3) := by decide +kernel
theorem dX3_goBack_7 : decode cX3_goBack 7 = .ok (.return_, 1) := by decide +kernel
theorem dX3_goBack_8 : decode cX3_goBack 8 = .ok (.aload_n 0, 1) := by decide +kernel
theorem dX3_goBack_9 : decode cX3_goBack 9 = .ok (.dup, 1) := by decide +kernel
theorem dX3_goBack_10 : decode cX3_goBack 10 = .ok (.getfield 55, 3) := by decide +kernel
theorem dX3_goBack_13 : decode cX3_goBack 13 = .ok (.iconst 1, 1) := by decide +kernel
theorem dX3_goBack_14 : decode cX3_goBack 14 = .ok (.isub, 1) := by decide +kernel
theorem dX3_goBack_15 : decode cX3_goBack 15 = .ok (.putfield 55, 3) := by decide +kernel
theorem dX3_goBack_18 : decode cX3_goBack 18 = .ok (.aload_n 0, 1) := by decide +kernel
theorem dX3_goBack_19 : decode cX3_goBack 19 = .ok (.getfield 55, 3) := by decide +kernel
theorem dX3_goBack_22 : decode cX3_goBack 22 = .ok (.bipush 10, 2) := by decide +kernel
theorem dX3_goBack_24 : decode cX3_goBack 24 = .ok (.imul, 1) := by decide +kernel
theorem dX3_goBack_25 : decode cX3_goBack 25 = .ok (.istore_n 1, 1) := by decide +kernel
theorem dX3_goBack_26 : decode cX3_goBack 26 = .ok (.aload_n 0, 1) := by decide +kernel
theorem dX3_goBack_27 : decode cX3_goBack 27 = .ok (.getfield 36, 3) := by decide +kernel
theorem dX3_goBack_30 : decode cX3_goBack 30 = .ok (.iload_n 1, 1) := by decide +kernel
theorem dX3_goBack_31 : decode cX3_goBack 31 = .ok (.aload_n 0, 1) := by decide +kernel
theorem dX3_goBack_32 : decode cX3_goBack 32 = .ok (.getfield 15, 3) := by decide +kernel
theorem dX3_goBack_35 : decode cX3_goBack 35 = .ok (.iconst 0, 1) := by decide +kernel
theorem dX3_goBack_36 : decode cX3_goBack 36 = .ok (.iconst 4, 1) := by decide +kernel
theorem dX3_goBack_37 : decode cX3_goBack 37 = .ok (.invokestatic 58, 3) := by decide +kernel
theorem dX3_goBack_40 : decode cX3_goBack 40 = .ok (.aload_n 0, 1) := by decide +kernel
theorem dX3_goBack_41 : decode cX3_goBack 41 = .ok (.getfield 36, 3) := by decide +kernel
theorem dX3_goBack_44 : decode cX3_goBack 44 = .ok (.iload_n 1, 1) := by decide +kernel
theorem dX3_goBack_45 : decode cX3_goBack 45 = .ok (.iconst 4, 1) := by decide +kernel
theorem dX3_goBack_46 : decode cX3_goBack 46 = .ok (.iadd, 1) := by decide +kernel
theorem dX3_goBack_47 : decode cX3_goBack 47 = .ok (.aload_n 0, 1) := by decide +kernel
theorem dX3_goBack_48 : decode cX3_goBack 48 = .ok (.getfield 18, 3) := by decide +kernel
theorem dX3_goBack_51 : decode cX3_goBack 51 = .ok (.iconst 0, 1) := by decide +kernel
theorem dX3_goBack_52 : decode cX3_goBack 52 = .ok (.iconst 4, 1) := by decide +kernel
theorem dX3_goBack_53 : decode cX3_goBack 53 = .ok (.invokestatic 58, 3) := by decide +kernel
theorem dX3_goBack_56 : decode cX3_goBack 56 = .ok (.aload_n 0, 1) := by decide +kernel
theorem dX3_goBack_57 : decode cX3_goBack 57 = .ok (.aload_n 0, 1) := by decide +kernel
theorem dX3_goBack_58 : decode cX3_goBack 58 = .ok (.getfield 36, 3) := by decide +kernel
theorem dX3_goBack_61 : decode cX3_goBack 61 = .ok (.iload_n 1, 1) := by decide +kernel
theorem dX3_goBack_62 : decode cX3_goBack 62 = .ok (.bipush 8, 2) := by decide +kernel
theorem dX3_goBack_64 : decode cX3_goBack 64 = .ok (.iadd, 1) := by decide +kernel
theorem dX3_goBack_65 : decode cX3_goBack 65 = .ok (.iaload, 1) := by decide +kernel
theorem dX3_goBack_66 : decode cX3_goBack 66 = .ok (.putfield 46, 3) := by decide +kernel
theorem dX3_goBack_69 : decode cX3_goBack 69 = .ok (.aload_n 0, 1) := by decide +kernel
theorem dX3_goBack_70 : decode cX3_goBack 70 = .ok (.aload_n 0, 1) := by decide +kernel
theorem dX3_goBack_71 : decode cX3_goBack 71 = .ok (.getfield 36, 3) := by decide +kernel
theorem dX3_goBack_74 : decode cX3_goBack 74 = .ok (.iload_n 1, 1) := by decide +kernel
theorem dX3_goBack_75 : decode cX3_goBack 75 = .ok (.bipush 8, 2) := by decide +kernel
theorem dX3_goBack_77 : decode cX3_goBack 77 = .ok (.iadd, 1) := by decide +kernel
theorem dX3_goBack_78 : decode cX3_goBack 78 = .ok (.iconst 1, 1) := by decide +kernel
theorem dX3_goBack_79 : decode cX3_goBack 79 = .ok (.iadd, 1) := by decide +kernel
theorem dX3_goBack_80 : decode cX3_goBack 80 = .ok (.iaload, 1) := by decide +kernel
theorem dX3_goBack_81 : decode cX3_goBack 81 = .ok (.putfield 49, 3) := by decide +kernel
theorem dX3_goBack_84 : decode cX3_goBack 84 = .ok (.return_, 1) := by decide +kernel
theorem dX3_startOf_0 : decode cX3_startOf 0 = .ok (.aload_n 0, 1) := by decide +kernel
theorem dX3_startOf_1 : decode cX3_startOf 1 = .ok (.getfield 39, 3) := by decide +kernel
theorem dX3_startOf_4 : decode cX3_startOf 4 = .ok (.ifCond .ne 7, 3) := by decide +kernel
theorem dX3_startOf_7 : decode cX3_startOf 7 = .ok (.iconst 0, 1) := by decide +kernel
theorem dX3_startOf_8 : decode cX3_startOf 8 = .ok (.goto 9, 3) := by decide +kernel
theorem dX3_startOf_11 : decode cX3_startOf 11 = .ok (.iload_n 1, 1) := by decide +kernel
theorem dX3_startOf_12 : decode cX3_startOf 12 = .ok (.aload_n 0, 1) := by decide +kernel
theorem dX3_startOf_13 : decode cX3_startOf 13 = .ok (.getfield 39, 3) := by decide +kernel
theorem dX3_startOf_16 : decode cX3_startOf 16 = .ok (.irem, 1) := by decide +kernel
theorem dX3_startOf_17 : decode cX3_startOf 17 = .ok (.ireturn, 1) := by decide +kernel
theorem dX3_bittenBy_0 : decode cX3_bittenBy 0 = .ok (.iconst 0, 1) := by decide +kernel
theorem dX3_bittenBy_1 : decode cX3_bittenBy 1 = .ok (.istore_n 3, 1) := by decide +kernel
theorem dX3_bittenBy_2 : decode cX3_bittenBy 2 = .ok (.aload_n 0, 1) := by decide +kernel
theorem dX3_bittenBy_3 : decode cX3_bittenBy 3 = .ok (.getfield 21, 3) := by decide +kernel
theorem dX3_bittenBy_6 : decode cX3_bittenBy 6 = .ok (.iload_n 1, 1) := by decide +kernel
theorem dX3_bittenBy_7 : decode cX3_bittenBy 7 = .ok (.iaload, 1) := by decide +kernel
theorem dX3_bittenBy_8 : decode cX3_bittenBy 8 = .ok (.invokestatic 72, 3) := by decide +kernel
theorem dX3_bittenBy_11 : decode cX3_bittenBy 11 = .ok (.istore 4, 2) := by decide +kernel
theorem dX3_bittenBy_13 : decode cX3_bittenBy 13 = .ok (.iconst 0, 1) := by decide +kernel
theorem dX3_bittenBy_14 : decode cX3_bittenBy 14 = .ok (.istore 5, 2) := by decide +kernel
theorem dX3_bittenBy_16 : decode cX3_bittenBy 16 = .ok (.iload 5, 2) := by decide +kernel
theorem dX3_bittenBy_18 : decode cX3_bittenBy 18 = .ok (.aload_n 0, 1) := by decide +kernel
theorem dX3_bittenBy_19 : decode cX3_bittenBy 19 = .ok (.getfield 39, 3) := by decide +kernel
theorem dX3_bittenBy_22 : decode cX3_bittenBy 22 = .ok (.if_icmp .ge 70, 3) := by decide +kernel
theorem dX3_bittenBy_25 : decode cX3_bittenBy 25 = .ok (.iload 4, 2) := by decide +kernel
theorem dX3_bittenBy_27 : decode cX3_bittenBy 27 = .ok (.ifCond .le 65, 3) := by decide +kernel
theorem dX3_bittenBy_30 : decode cX3_bittenBy 30 = .ok (.iload_n 2, 1) := by decide +kernel
theorem dX3_bittenBy_31 : decode cX3_bittenBy 31 = .ok (.iload 5, 2) := by decide +kernel
theorem dX3_bittenBy_33 : decode cX3_bittenBy 33 = .ok (.iadd, 1) := by decide +kernel
theorem dX3_bittenBy_34 : decode cX3_bittenBy 34 = .ok (.aload_n 0, 1) := by decide +kernel
theorem dX3_bittenBy_35 : decode cX3_bittenBy 35 = .ok (.getfield 39, 3) := by decide +kernel
theorem dX3_bittenBy_38 : decode cX3_bittenBy 38 = .ok (.irem, 1) := by decide +kernel
theorem dX3_bittenBy_39 : decode cX3_bittenBy 39 = .ok (.istore 6, 2) := by decide +kernel
theorem dX3_bittenBy_41 : decode cX3_bittenBy 41 = .ok (.aload_n 0, 1) := by decide +kernel
theorem dX3_bittenBy_42 : decode cX3_bittenBy 42 = .ok (.getfield 21, 3) := by decide +kernel
theorem dX3_bittenBy_45 : decode cX3_bittenBy 45 = .ok (.iload_n 1, 1) := by decide +kernel
theorem dX3_bittenBy_46 : decode cX3_bittenBy 46 = .ok (.iaload, 1) := by decide +kernel
theorem dX3_bittenBy_47 : decode cX3_bittenBy 47 = .ok (.aload_n 0, 1) := by decide +kernel
theorem dX3_bittenBy_48 : decode cX3_bittenBy 48 = .ok (.getfield 30, 3) := by decide +kernel
theorem dX3_bittenBy_51 : decode cX3_bittenBy 51 = .ok (.iload_n 1, 1) := by decide +kernel
theorem dX3_bittenBy_52 : decode cX3_bittenBy 52 = .ok (.iaload, 1) := by decide +kernel
theorem dX3_bittenBy_53 : decode cX3_bittenBy 53 = .ok (.iload 6, 2) := by decide +kernel
theorem dX3_bittenBy_55 : decode cX3_bittenBy 55 = .ok (.if_icmp .ne 7, 3) := by decide +kernel
theorem dX3_bittenBy_58 : decode cX3_bittenBy 58 = .ok (.iconst 1, 1) := by decide +kernel
theorem dX3_bittenBy_59 : decode cX3_bittenBy 59 = .ok (.goto 4, 3) := by decide +kernel
theorem dX3_bittenBy_62 : decode cX3_bittenBy 62 = .ok (.iconst 0, 1) := by decide +kernel
theorem dX3_bittenBy_63 : decode cX3_bittenBy 63 = .ok (.aload_n 0, 1) := by decide +kernel
theorem dX3_bittenBy_64 : decode cX3_bittenBy 64 = .ok (.getfield 9, 3) := by decide +kernel
theorem dX3_bittenBy_67 : decode cX3_bittenBy 67 = .ok (.iload 6, 2) := by decide +kernel
theorem dX3_bittenBy_69 : decode cX3_bittenBy 69 = .ok (.iaload, 1) := by decide +kernel
theorem dX3_bittenBy_70 : decode cX3_bittenBy 70 = .ok (.invokestatic 78, 3) := by decide +kernel
theorem dX3_bittenBy_73 : decode cX3_bittenBy 73 = .ok (.ifCond .eq 13, 3) := by decide +kernel
theorem dX3_bittenBy_76 : decode cX3_bittenBy 76 = .ok (.iload_n 3, 1) := by decide +kernel
theorem dX3_bittenBy_77 : decode cX3_bittenBy 77 = .ok (.iconst 1, 1) := by decide +kernel
theorem dX3_bittenBy_78 : decode cX3_bittenBy 78 = .ok (.iload 6, 2) := by decide +kernel
theorem dX3_bittenBy_80 : decode cX3_bittenBy 80 = .ok (.ishl, 1) := by decide +kernel
theorem dX3_bittenBy_81 : decode cX3_bittenBy 81 = .ok (.ior, 1) := by decide +kernel
theorem dX3_bittenBy_82 : decode cX3_bittenBy 82 = .ok (.istore_n 3, 1) := by decide +kernel
theorem dX3_bittenBy_83 : decode cX3_bittenBy 83 = .ok (.iinc 4 (-1), 3) := by decide +kernel
theorem dX3_bittenBy_86 : decode cX3_bittenBy 86 = .ok (.iinc 5 1, 3) := by decide +kernel
theorem dX3_bittenBy_89 : decode cX3_bittenBy 89 = .ok (.goto (-73), 3) := by decide +kernel
theorem dX3_bittenBy_92 : decode cX3_bittenBy 92 = .ok (.iload_n 3, 1) := by decide +kernel
theorem dX3_bittenBy_93 : decode cX3_bittenBy 93 = .ok (.ireturn, 1) := by decide +kernel
theorem dX3_bitersOf_0 : decode cX3_bitersOf 0 = .ok (.iconst 0, 1) := by decide +kernel
theorem dX3_bitersOf_1 : decode cX3_bitersOf 1 = .ok (.istore 4, 2) := by decide +kernel
theorem dX3_bitersOf_3 : decode cX3_bitersOf 3 = .ok (.iconst 0, 1) := by decide +kernel
theorem dX3_bitersOf_4 : decode cX3_bitersOf 4 = .ok (.istore 5, 2) := by decide +kernel
theorem dX3_bitersOf_6 : decode cX3_bitersOf 6 = .ok (.iload 5, 2) := by decide +kernel
theorem dX3_bitersOf_8 : decode cX3_bitersOf 8 = .ok (.aload_n 0, 1) := by decide +kernel
theorem dX3_bitersOf_9 : decode cX3_bitersOf 9 = .ok (.getfield 43, 3) := by decide +kernel
theorem dX3_bitersOf_12 : decode cX3_bitersOf 12 = .ok (.if_icmp .ge 41, 3) := by decide +kernel
theorem dX3_bitersOf_15 : decode cX3_bitersOf 15 = .ok (.iload_n 3, 1) := by decide +kernel
theorem dX3_bitersOf_16 : decode cX3_bitersOf 16 = .ok (.iload 5, 2) := by decide +kernel
theorem dX3_bitersOf_18 : decode cX3_bitersOf 18 = .ok (.invokestatic 64, 3) := by decide +kernel
theorem dX3_bitersOf_21 : decode cX3_bitersOf 21 = .ok (.ifCond .ne 26, 3) := by decide +kernel
theorem dX3_bitersOf_24 : decode cX3_bitersOf 24 = .ok (.aload_n 0, 1) := by decide +kernel
theorem dX3_bitersOf_25 : decode cX3_bitersOf 25 = .ok (.iload 5, 2) := by decide +kernel
theorem dX3_bitersOf_27 : decode cX3_bitersOf 27 = .ok (.iload_n 2, 1) := by decide +kernel
theorem dX3_bitersOf_28 : decode cX3_bitersOf 28 = .ok (.invokevirtual 82, 3) := by decide +kernel
theorem dX3_bitersOf_31 : decode cX3_bitersOf 31 = .ok (.iload_n 1, 1) := by decide +kernel
theorem dX3_bitersOf_32 : decode cX3_bitersOf 32 = .ok (.invokestatic 64, 3) := by decide +kernel
theorem dX3_bitersOf_35 : decode cX3_bitersOf 35 = .ok (.ifCond .eq 12, 3) := by decide +kernel
theorem dX3_bitersOf_38 : decode cX3_bitersOf 38 = .ok (.iload 4, 2) := by decide +kernel
theorem dX3_bitersOf_40 : decode cX3_bitersOf 40 = .ok (.iconst 1, 1) := by decide +kernel
theorem dX3_bitersOf_41 : decode cX3_bitersOf 41 = .ok (.iload 5, 2) := by decide +kernel
theorem dX3_bitersOf_43 : decode cX3_bitersOf 43 = .ok (.ishl, 1) := by decide +kernel
theorem dX3_bitersOf_44 : decode cX3_bitersOf 44 = .ok (.ior, 1) := by decide +kernel
theorem dX3_bitersOf_45 : decode cX3_bitersOf 45 = .ok (.istore 4, 2) := by decide +kernel
theorem dX3_bitersOf_47 : decode cX3_bitersOf 47 = .ok (.iinc 5 1, 3) := by decide +kernel
theorem dX3_bitersOf_50 : decode cX3_bitersOf 50 = .ok (.goto (-44), 3) := by decide +kernel
theorem dX3_bitersOf_53 : decode cX3_bitersOf 53 = .ok (.iload 4, 2) := by decide +kernel
theorem dX3_bitersOf_55 : decode cX3_bitersOf 55 = .ok (.ireturn, 1) := by decide +kernel
theorem dX3_widthTo_0 : decode cX3_widthTo 0 = .ok (.iconst 0, 1) := by decide +kernel
theorem dX3_widthTo_1 : decode cX3_widthTo 1 = .ok (.istore 4, 2) := by decide +kernel
theorem dX3_widthTo_3 : decode cX3_widthTo 3 = .ok (.iconst 0, 1) := by decide +kernel
theorem dX3_widthTo_4 : decode cX3_widthTo 4 = .ok (.istore 5, 2) := by decide +kernel
theorem dX3_widthTo_6 : decode cX3_widthTo 6 = .ok (.iload 5, 2) := by decide +kernel
theorem dX3_widthTo_8 : decode cX3_widthTo 8 = .ok (.aload_n 0, 1) := by decide +kernel
theorem dX3_widthTo_9 : decode cX3_widthTo 9 = .ok (.getfield 43, 3) := by decide +kernel
theorem dX3_widthTo_12 : decode cX3_widthTo 12 = .ok (.if_icmp .ge 54, 3) := by decide +kernel
theorem dX3_widthTo_15 : decode cX3_widthTo 15 = .ok (.iload_n 3, 1) := by decide +kernel
theorem dX3_widthTo_16 : decode cX3_widthTo 16 = .ok (.iload 5, 2) := by decide +kernel
theorem dX3_widthTo_18 : decode cX3_widthTo 18 = .ok (.invokestatic 64, 3) := by decide +kernel
theorem dX3_widthTo_21 : decode cX3_widthTo 21 = .ok (.ifCond .ne 39, 3) := by decide +kernel
theorem dX3_widthTo_24 : decode cX3_widthTo 24 = .ok (.aload_n 0, 1) := by decide +kernel
theorem dX3_widthTo_25 : decode cX3_widthTo 25 = .ok (.iload 5, 2) := by decide +kernel
theorem dX3_widthTo_27 : decode cX3_widthTo 27 = .ok (.iload_n 2, 1) := by decide +kernel
theorem dX3_widthTo_28 : decode cX3_widthTo 28 = .ok (.invokevirtual 82, 3) := by decide +kernel
theorem dX3_widthTo_31 : decode cX3_widthTo 31 = .ok (.iload_n 1, 1) := by decide +kernel
theorem dX3_widthTo_32 : decode cX3_widthTo 32 = .ok (.invokestatic 64, 3) := by decide +kernel
theorem dX3_widthTo_35 : decode cX3_widthTo 35 = .ok (.ifCond .eq 25, 3) := by decide +kernel
theorem dX3_widthTo_38 : decode cX3_widthTo 38 = .ok (.iload 4, 2) := by decide +kernel
theorem dX3_widthTo_40 : decode cX3_widthTo 40 = .ok (.aload_n 0, 1) := by decide +kernel
theorem dX3_widthTo_41 : decode cX3_widthTo 41 = .ok (.getfield 21, 3) := by decide +kernel
theorem dX3_widthTo_44 : decode cX3_widthTo 44 = .ok (.iload 5, 2) := by decide +kernel
theorem dX3_widthTo_46 : decode cX3_widthTo 46 = .ok (.iaload, 1) := by decide +kernel
theorem dX3_widthTo_47 : decode cX3_widthTo 47 = .ok (.aload_n 0, 1) := by decide +kernel
theorem dX3_widthTo_48 : decode cX3_widthTo 48 = .ok (.getfield 24, 3) := by decide +kernel
theorem dX3_widthTo_51 : decode cX3_widthTo 51 = .ok (.iload 5, 2) := by decide +kernel
theorem dX3_widthTo_53 : decode cX3_widthTo 53 = .ok (.iaload, 1) := by decide +kernel
theorem dX3_widthTo_54 : decode cX3_widthTo 54 = .ok (.invokestatic 86, 3) := by decide +kernel
theorem dX3_widthTo_57 : decode cX3_widthTo 57 = .ok (.iadd, 1) := by decide +kernel
theorem dX3_widthTo_58 : decode cX3_widthTo 58 = .ok (.istore 4, 2) := by decide +kernel
theorem dX3_widthTo_60 : decode cX3_widthTo 60 = .ok (.iinc 5 1, 3) := by decide +kernel
theorem dX3_widthTo_63 : decode cX3_widthTo 63 = .ok (.goto (-57), 3) := by decide +kernel
theorem dX3_widthTo_66 : decode cX3_widthTo 66 = .ok (.iload 4, 2) := by decide +kernel
theorem dX3_widthTo_68 : decode cX3_widthTo 68 = .ok (.ireturn, 1) := by decide +kernel
theorem dX3_addRound_0 : decode cX3_addRound 0 = .ok (.aload_n 0, 1) := by decide +kernel
theorem dX3_addRound_1 : decode cX3_addRound 1 = .ok (.iload_n 2, 1) := by decide +kernel
theorem dX3_addRound_2 : decode cX3_addRound 2 = .ok (.invokevirtual 89, 3) := by decide +kernel
theorem dX3_addRound_5 : decode cX3_addRound 5 = .ok (.istore 4, 2) := by decide +kernel
theorem dX3_addRound_7 : decode cX3_addRound 7 = .ok (.iconst 0, 1) := by decide +kernel
theorem dX3_addRound_8 : decode cX3_addRound 8 = .ok (.istore 5, 2) := by decide +kernel
theorem dX3_addRound_10 : decode cX3_addRound 10 = .ok (.iload 5, 2) := by decide +kernel
theorem dX3_addRound_12 : decode cX3_addRound 12 = .ok (.aload_n 0, 1) := by decide +kernel
theorem dX3_addRound_13 : decode cX3_addRound 13 = .ok (.getfield 43, 3) := by decide +kernel
theorem dX3_addRound_16 : decode cX3_addRound 16 = .ok (.if_icmp .ge 83, 3) := by decide +kernel
theorem dX3_addRound_19 : decode cX3_addRound 19 = .ok (.iload_n 3, 1) := by decide +kernel
theorem dX3_addRound_20 : decode cX3_addRound 20 = .ok (.iload 5, 2) := by decide +kernel
theorem dX3_addRound_22 : decode cX3_addRound 22 = .ok (.invokestatic 64, 3) := by decide +kernel
theorem dX3_addRound_25 : decode cX3_addRound 25 = .ok (.ifCond .eq 6, 3) := by decide +kernel
theorem dX3_addRound_28 : decode cX3_addRound 28 = .ok (.goto 65, 3) := by decide +kernel
theorem dX3_addRound_31 : decode cX3_addRound 31 = .ok (.aload_n 0, 1) := by decide +kernel
theorem dX3_addRound_32 : decode cX3_addRound 32 = .ok (.iload 5, 2) := by decide +kernel
theorem dX3_addRound_34 : decode cX3_addRound 34 = .ok (.iload 4, 2) := by decide +kernel
theorem dX3_addRound_36 : decode cX3_addRound 36 = .ok (.invokevirtual 82, 3) := by decide +kernel
theorem dX3_addRound_39 : decode cX3_addRound 39 = .ok (.istore 6, 2) := by decide +kernel
theorem dX3_addRound_41 : decode cX3_addRound 41 = .ok (.iconst 0, 1) := by decide +kernel
theorem dX3_addRound_42 : decode cX3_addRound 42 = .ok (.istore 7, 2) := by decide +kernel
theorem dX3_addRound_44 : decode cX3_addRound 44 = .ok (.iload 7, 2) := by decide +kernel
theorem dX3_addRound_46 : decode cX3_addRound 46 = .ok (.aload_n 0, 1) := by decide +kernel
theorem dX3_addRound_47 : decode cX3_addRound 47 = .ok (.getfield 39, 3) := by decide +kernel
theorem dX3_addRound_50 : decode cX3_addRound 50 = .ok (.if_icmp .ge 43, 3) := by decide +kernel
theorem dX3_addRound_53 : decode cX3_addRound 53 = .ok (.iload 6, 2) := by decide +kernel
theorem dX3_addRound_55 : decode cX3_addRound 55 = .ok (.iload 7, 2) := by decide +kernel
theorem dX3_addRound_57 : decode cX3_addRound 57 = .ok (.invokestatic 64, 3) := by decide +kernel
theorem dX3_addRound_60 : decode cX3_addRound 60 = .ok (.ifCond .eq 27, 3) := by decide +kernel
theorem dX3_addRound_63 : decode cX3_addRound 63 = .ok (.aload_n 1, 1) := by decide +kernel
theorem dX3_addRound_64 : decode cX3_addRound 64 = .ok (.iload 7, 2) := by decide +kernel
theorem dX3_addRound_66 : decode cX3_addRound 66 = .ok (.dup2, 1) := by decide +kernel
theorem dX3_addRound_67 : decode cX3_addRound 67 = .ok (.iaload, 1) := by decide +kernel
theorem dX3_addRound_68 : decode cX3_addRound 68 = .ok (.aload_n 0, 1) := by decide +kernel
theorem dX3_addRound_69 : decode cX3_addRound 69 = .ok (.getfield 21, 3) := by decide +kernel
theorem dX3_addRound_72 : decode cX3_addRound 72 = .ok (.iload 5, 2) := by decide +kernel
theorem dX3_addRound_74 : decode cX3_addRound 74 = .ok (.iaload, 1) := by decide +kernel
theorem dX3_addRound_75 : decode cX3_addRound 75 = .ok (.aload_n 0, 1) := by decide +kernel
theorem dX3_addRound_76 : decode cX3_addRound 76 = .ok (.getfield 24, 3) := by decide +kernel
theorem dX3_addRound_79 : decode cX3_addRound 79 = .ok (.iload 5, 2) := by decide +kernel
theorem dX3_addRound_81 : decode cX3_addRound 81 = .ok (.iaload, 1) := by decide +kernel
theorem dX3_addRound_82 : decode cX3_addRound 82 = .ok (.invokestatic 86, 3) := by decide +kernel
theorem dX3_addRound_85 : decode cX3_addRound 85 = .ok (.iadd, 1) := by decide +kernel
theorem dX3_addRound_86 : decode cX3_addRound 86 = .ok (.iastore, 1) := by decide +kernel
theorem dX3_addRound_87 : decode cX3_addRound 87 = .ok (.iinc 7 1, 3) := by decide +kernel
theorem dX3_addRound_90 : decode cX3_addRound 90 = .ok (.goto (-46), 3) := by decide +kernel
theorem dX3_addRound_93 : decode cX3_addRound 93 = .ok (.iinc 5 1, 3) := by decide +kernel
theorem dX3_addRound_96 : decode cX3_addRound 96 = .ok (.goto (-86), 3) := by decide +kernel
theorem dX3_addRound_99 : decode cX3_addRound 99 = .ok (.return_, 1) := by decide +kernel
theorem dX3_addNote_0 : decode cX3_addNote 0 = .ok (.aload_n 0, 1) := by decide +kernel
theorem dX3_addNote_1 : decode cX3_addNote 1 = .ok (.getfield 52, 3) := by decide +kernel
theorem dX3_addNote_4 : decode cX3_addNote 4 = .ok (.iconst 4, 1) := by decide +kernel
theorem dX3_addNote_5 : decode cX3_addNote 5 = .ok (.imul, 1) := by decide +kernel
theorem dX3_addNote_6 : decode cX3_addNote 6 = .ok (.istore 5, 2) := by decide +kernel
theorem dX3_addNote_8 : decode cX3_addNote 8 = .ok (.aload_n 0, 1) := by decide +kernel
theorem dX3_addNote_9 : decode cX3_addNote 9 = .ok (.getfield 33, 3) := by decide +kernel
theorem dX3_addNote_12 : decode cX3_addNote 12 = .ok (.iload 5, 2) := by decide +kernel
theorem dX3_addNote_14 : decode cX3_addNote 14 = .ok (.iload_n 1, 1) := by decide +kernel
theorem dX3_addNote_15 : decode cX3_addNote 15 = .ok (.iastore, 1) := by decide +kernel
theorem dX3_addNote_16 : decode cX3_addNote 16 = .ok (.aload_n 0, 1) := by decide +kernel
theorem dX3_addNote_17 : decode cX3_addNote 17 = .ok (.getfield 33, 3) := by decide +kernel
theorem dX3_addNote_20 : decode cX3_addNote 20 = .ok (.iload 5, 2) := by decide +kernel
theorem dX3_addNote_22 : decode cX3_addNote 22 = .ok (.iconst 1, 1) := by decide +kernel
theorem dX3_addNote_23 : decode cX3_addNote 23 = .ok (.iadd, 1) := by decide +kernel
theorem dX3_addNote_24 : decode cX3_addNote 24 = .ok (.iload_n 2, 1) := by decide +kernel
theorem dX3_addNote_25 : decode cX3_addNote 25 = .ok (.iastore, 1) := by decide +kernel
theorem dX3_addNote_26 : decode cX3_addNote 26 = .ok (.aload_n 0, 1) := by decide +kernel
theorem dX3_addNote_27 : decode cX3_addNote 27 = .ok (.getfield 33, 3) := by decide +kernel
theorem dX3_addNote_30 : decode cX3_addNote 30 = .ok (.iload 5, 2) := by decide +kernel
theorem dX3_addNote_32 : decode cX3_addNote 32 = .ok (.iconst 2, 1) := by decide +kernel
theorem dX3_addNote_33 : decode cX3_addNote 33 = .ok (.iadd, 1) := by decide +kernel
theorem dX3_addNote_34 : decode cX3_addNote 34 = .ok (.iload_n 3, 1) := by decide +kernel
theorem dX3_addNote_35 : decode cX3_addNote 35 = .ok (.iastore, 1) := by decide +kernel
theorem dX3_addNote_36 : decode cX3_addNote 36 = .ok (.aload_n 0, 1) := by decide +kernel
theorem dX3_addNote_37 : decode cX3_addNote 37 = .ok (.getfield 33, 3) := by decide +kernel
theorem dX3_addNote_40 : decode cX3_addNote 40 = .ok (.iload 5, 2) := by decide +kernel
theorem dX3_addNote_42 : decode cX3_addNote 42 = .ok (.iconst 3, 1) := by decide +kernel
theorem dX3_addNote_43 : decode cX3_addNote 43 = .ok (.iadd, 1) := by decide +kernel
theorem dX3_addNote_44 : decode cX3_addNote 44 = .ok (.iload 4, 2) := by decide +kernel
theorem dX3_addNote_46 : decode cX3_addNote 46 = .ok (.iastore, 1) := by decide +kernel
theorem dX3_addNote_47 : decode cX3_addNote 47 = .ok (.aload_n 0, 1) := by decide +kernel
theorem dX3_addNote_48 : decode cX3_addNote 48 = .ok (.dup, 1) := by decide +kernel
theorem dX3_addNote_49 : decode cX3_addNote 49 = .ok (.getfield 52, 3) := by decide +kernel
theorem dX3_addNote_52 : decode cX3_addNote 52 = .ok (.iconst 1, 1) := by decide +kernel
theorem dX3_addNote_53 : decode cX3_addNote 53 = .ok (.iadd, 1) := by decide +kernel
theorem dX3_addNote_54 : decode cX3_addNote 54 = .ok (.putfield 52, 3) := by decide +kernel
theorem dX3_addNote_57 : decode cX3_addNote 57 = .ok (.aload_n 0, 1) := by decide +kernel
theorem dX3_addNote_58 : decode cX3_addNote 58 = .ok (.getfield 52, 3) := by decide +kernel
theorem dX3_addNote_61 : decode cX3_addNote 61 = .ok (.ireturn, 1) := by decide +kernel
theorem dX3_kindsBy_0 : decode cX3_kindsBy 0 = .ok (.bipush 63, 2) := by decide +kernel
theorem dX3_kindsBy_2 : decode cX3_kindsBy 2 = .ok (.istore_n 2, 1) := by decide +kernel
theorem dX3_kindsBy_3 : decode cX3_kindsBy 3 = .ok (.iconst 0, 1) := by decide +kernel
theorem dX3_kindsBy_4 : decode cX3_kindsBy 4 = .ok (.istore_n 3, 1) := by decide +kernel
theorem dX3_kindsBy_5 : decode cX3_kindsBy 5 = .ok (.iload_n 3, 1) := by decide +kernel
theorem dX3_kindsBy_6 : decode cX3_kindsBy 6 = .ok (.aload_n 0, 1) := by decide +kernel
theorem dX3_kindsBy_7 : decode cX3_kindsBy 7 = .ok (.getfield 52, 3) := by decide +kernel
theorem dX3_kindsBy_10 : decode cX3_kindsBy 10 = .ok (.if_icmp .ge 82, 3) := by decide +kernel
theorem dX3_kindsBy_13 : decode cX3_kindsBy 13 = .ok (.iload_n 3, 1) := by decide +kernel
theorem dX3_kindsBy_14 : decode cX3_kindsBy 14 = .ok (.iconst 4, 1) := by decide +kernel
theorem dX3_kindsBy_15 : decode cX3_kindsBy 15 = .ok (.imul, 1) := by decide +kernel
theorem dX3_kindsBy_16 : decode cX3_kindsBy 16 = .ok (.istore 4, 2) := by decide +kernel
theorem dX3_kindsBy_18 : decode cX3_kindsBy 18 = .ok (.aload_n 0, 1) := by decide +kernel
theorem dX3_kindsBy_19 : decode cX3_kindsBy 19 = .ok (.getfield 33, 3) := by decide +kernel
theorem dX3_kindsBy_22 : decode cX3_kindsBy 22 = .ok (.iload 4, 2) := by decide +kernel
theorem dX3_kindsBy_24 : decode cX3_kindsBy 24 = .ok (.iaload, 1) := by decide +kernel
theorem dX3_kindsBy_25 : decode cX3_kindsBy 25 = .ok (.iload_n 1, 1) := by decide +kernel
theorem dX3_kindsBy_26 : decode cX3_kindsBy 26 = .ok (.if_icmp .ne 60, 3) := by decide +kernel
theorem dX3_kindsBy_29 : decode cX3_kindsBy 29 = .ok (.aload_n 0, 1) := by decide +kernel
theorem dX3_kindsBy_30 : decode cX3_kindsBy 30 = .ok (.getfield 33, 3) := by decide +kernel
theorem dX3_kindsBy_33 : decode cX3_kindsBy 33 = .ok (.iload 4, 2) := by decide +kernel
theorem dX3_kindsBy_35 : decode cX3_kindsBy 35 = .ok (.iconst 1, 1) := by decide +kernel
theorem dX3_kindsBy_36 : decode cX3_kindsBy 36 = .ok (.iadd, 1) := by decide +kernel
theorem dX3_kindsBy_37 : decode cX3_kindsBy 37 = .ok (.iaload, 1) := by decide +kernel
theorem dX3_kindsBy_38 : decode cX3_kindsBy 38 = .ok (.iconst 1, 1) := by decide +kernel
theorem dX3_kindsBy_39 : decode cX3_kindsBy 39 = .ok (.if_icmp .ne 7, 3) := by decide +kernel
theorem dX3_kindsBy_42 : decode cX3_kindsBy 42 = .ok (.iconst 1, 1) := by decide +kernel
theorem dX3_kindsBy_43 : decode cX3_kindsBy 43 = .ok (.goto 4, 3) := by decide +kernel
theorem dX3_kindsBy_46 : decode cX3_kindsBy 46 = .ok (.iconst 0, 1) := by decide +kernel
theorem dX3_kindsBy_47 : decode cX3_kindsBy 47 = .ok (.aload_n 0, 1) := by decide +kernel
theorem dX3_kindsBy_48 : decode cX3_kindsBy 48 = .ok (.getfield 33, 3) := by decide +kernel
theorem dX3_kindsBy_51 : decode cX3_kindsBy 51 = .ok (.iload 4, 2) := by decide +kernel
theorem dX3_kindsBy_53 : decode cX3_kindsBy 53 = .ok (.iconst 2, 1) := by decide +kernel
theorem dX3_kindsBy_54 : decode cX3_kindsBy 54 = .ok (.iadd, 1) := by decide +kernel
theorem dX3_kindsBy_55 : decode cX3_kindsBy 55 = .ok (.iaload, 1) := by decide +kernel
theorem dX3_kindsBy_56 : decode cX3_kindsBy 56 = .ok (.invokestatic 92, 3) := by decide +kernel
theorem dX3_kindsBy_59 : decode cX3_kindsBy 59 = .ok (.istore 5, 2) := by decide +kernel
theorem dX3_kindsBy_61 : decode cX3_kindsBy 61 = .ok (.iload_n 2, 1) := by decide +kernel
theorem dX3_kindsBy_62 : decode cX3_kindsBy 62 = .ok (.aload_n 0, 1) := by decide +kernel
theorem dX3_kindsBy_63 : decode cX3_kindsBy 63 = .ok (.getfield 33, 3) := by decide +kernel
theorem dX3_kindsBy_66 : decode cX3_kindsBy 66 = .ok (.iload 4, 2) := by decide +kernel
theorem dX3_kindsBy_68 : decode cX3_kindsBy 68 = .ok (.iconst 3, 1) := by decide +kernel
theorem dX3_kindsBy_69 : decode cX3_kindsBy 69 = .ok (.iadd, 1) := by decide +kernel
theorem dX3_kindsBy_70 : decode cX3_kindsBy 70 = .ok (.iaload, 1) := by decide +kernel
theorem dX3_kindsBy_71 : decode cX3_kindsBy 71 = .ok (.iconst 1, 1) := by decide +kernel
theorem dX3_kindsBy_72 : decode cX3_kindsBy 72 = .ok (.if_icmp .ne 8, 3) := by decide +kernel
theorem dX3_kindsBy_75 : decode cX3_kindsBy 75 = .ok (.iload 5, 2) := by decide +kernel
theorem dX3_kindsBy_77 : decode cX3_kindsBy 77 = .ok (.goto 7, 3) := by decide +kernel
theorem dX3_kindsBy_80 : decode cX3_kindsBy 80 = .ok (.iload 5, 2) := by decide +kernel
theorem dX3_kindsBy_82 : decode cX3_kindsBy 82 = .ok (.iconst (-1), 1) := by decide +kernel
theorem dX3_kindsBy_83 : decode cX3_kindsBy 83 = .ok (.ixor, 1) := by decide +kernel
theorem dX3_kindsBy_84 : decode cX3_kindsBy 84 = .ok (.iand, 1) := by decide +kernel
theorem dX3_kindsBy_85 : decode cX3_kindsBy 85 = .ok (.istore_n 2, 1) := by decide +kernel
theorem dX3_kindsBy_86 : decode cX3_kindsBy 86 = .ok (.iinc 3 1, 3) := by decide +kernel
theorem dX3_kindsBy_89 : decode cX3_kindsBy 89 = .ok (.goto (-84), 3) := by decide +kernel
theorem dX3_kindsBy_92 : decode cX3_kindsBy 92 = .ok (.iload_n 2, 1) := by decide +kernel
theorem dX3_kindsBy_93 : decode cX3_kindsBy 93 = .ok (.ireturn, 1) := by decide +kernel
theorem dX3_digestOn_0 : decode cX3_digestOn 0 = .ok (.lload_n 1, 1) := by decide +kernel
theorem dX3_digestOn_1 : decode cX3_digestOn 1 = .ok (.lstore_n 3, 1) := by decide +kernel
theorem dX3_digestOn_2 : decode cX3_digestOn 2 = .ok (.iconst 0, 1) := by decide +kernel
theorem dX3_digestOn_3 : decode cX3_digestOn 3 = .ok (.istore 5, 2) := by decide +kernel
theorem dX3_digestOn_5 : decode cX3_digestOn 5 = .ok (.iload 5, 2) := by decide +kernel
theorem dX3_digestOn_7 : decode cX3_digestOn 7 = .ok (.aload_n 0, 1) := by decide +kernel
theorem dX3_digestOn_8 : decode cX3_digestOn 8 = .ok (.getfield 39, 3) := by decide +kernel
theorem dX3_digestOn_11 : decode cX3_digestOn 11 = .ok (.if_icmp .ge 54, 3) := by decide +kernel
theorem dX3_digestOn_14 : decode cX3_digestOn 14 = .ok (.ldc2_w 96, 3) := by decide +kernel
theorem dX3_digestOn_17 : decode cX3_digestOn 17 = .ok (.lload_n 3, 1) := by decide +kernel
theorem dX3_digestOn_18 : decode cX3_digestOn 18 = .ok (.lmul, 1) := by decide +kernel
theorem dX3_digestOn_19 : decode cX3_digestOn 19 = .ok (.aload_n 0, 1) := by decide +kernel
theorem dX3_digestOn_20 : decode cX3_digestOn 20 = .ok (.getfield 9, 3) := by decide +kernel
theorem dX3_digestOn_23 : decode cX3_digestOn 23 = .ok (.iload 5, 2) := by decide +kernel
theorem dX3_digestOn_25 : decode cX3_digestOn 25 = .ok (.iaload, 1) := by decide +kernel
theorem dX3_digestOn_26 : decode cX3_digestOn 26 = .ok (.i2l, 1) := by decide +kernel
theorem dX3_digestOn_27 : decode cX3_digestOn 27 = .ok (.ladd, 1) := by decide +kernel
theorem dX3_digestOn_28 : decode cX3_digestOn 28 = .ok (.lstore_n 3, 1) := by decide +kernel
theorem dX3_digestOn_29 : decode cX3_digestOn 29 = .ok (.ldc2_w 96, 3) := by decide +kernel
theorem dX3_digestOn_32 : decode cX3_digestOn 32 = .ok (.lload_n 3, 1) := by decide +kernel
theorem dX3_digestOn_33 : decode cX3_digestOn 33 = .ok (.lmul, 1) := by decide +kernel
theorem dX3_digestOn_34 : decode cX3_digestOn 34 = .ok (.aload_n 0, 1) := by decide +kernel
theorem dX3_digestOn_35 : decode cX3_digestOn 35 = .ok (.getfield 15, 3) := by decide +kernel
theorem dX3_digestOn_38 : decode cX3_digestOn 38 = .ok (.iload 5, 2) := by decide +kernel
theorem dX3_digestOn_40 : decode cX3_digestOn 40 = .ok (.iaload, 1) := by decide +kernel
theorem dX3_digestOn_41 : decode cX3_digestOn 41 = .ok (.i2l, 1) := by decide +kernel
theorem dX3_digestOn_42 : decode cX3_digestOn 42 = .ok (.ladd, 1) := by decide +kernel
theorem dX3_digestOn_43 : decode cX3_digestOn 43 = .ok (.lstore_n 3, 1) := by decide +kernel
theorem dX3_digestOn_44 : decode cX3_digestOn 44 = .ok (.ldc2_w 96, 3) := by decide +kernel
theorem dX3_digestOn_47 : decode cX3_digestOn 47 = .ok (.lload_n 3, 1) := by decide +kernel
theorem dX3_digestOn_48 : decode cX3_digestOn 48 = .ok (.lmul, 1) := by decide +kernel
theorem dX3_digestOn_49 : decode cX3_digestOn 49 = .ok (.aload_n 0, 1) := by decide +kernel
theorem dX3_digestOn_50 : decode cX3_digestOn 50 = .ok (.getfield 18, 3) := by decide +kernel
theorem dX3_digestOn_53 : decode cX3_digestOn 53 = .ok (.iload 5, 2) := by decide +kernel
theorem dX3_digestOn_55 : decode cX3_digestOn 55 = .ok (.iaload, 1) := by decide +kernel
theorem dX3_digestOn_56 : decode cX3_digestOn 56 = .ok (.i2l, 1) := by decide +kernel
theorem dX3_digestOn_57 : decode cX3_digestOn 57 = .ok (.ladd, 1) := by decide +kernel
theorem dX3_digestOn_58 : decode cX3_digestOn 58 = .ok (.lstore_n 3, 1) := by decide +kernel
theorem dX3_digestOn_59 : decode cX3_digestOn 59 = .ok (.iinc 5 1, 3) := by decide +kernel
theorem dX3_digestOn_62 : decode cX3_digestOn 62 = .ok (.goto (-57), 3) := by decide +kernel
theorem dX3_digestOn_65 : decode cX3_digestOn 65 = .ok (.iconst 0, 1) := by decide +kernel
theorem dX3_digestOn_66 : decode cX3_digestOn 66 = .ok (.istore 5, 2) := by decide +kernel
theorem dX3_digestOn_68 : decode cX3_digestOn 68 = .ok (.iload 5, 2) := by decide +kernel
theorem dX3_digestOn_70 : decode cX3_digestOn 70 = .ok (.aload_n 0, 1) := by decide +kernel
theorem dX3_digestOn_71 : decode cX3_digestOn 71 = .ok (.getfield 43, 3) := by decide +kernel
theorem dX3_digestOn_74 : decode cX3_digestOn 74 = .ok (.if_icmp .ge 91, 3) := by decide +kernel
theorem dX3_digestOn_77 : decode cX3_digestOn 77 = .ok (.ldc2_w 96, 3) := by decide +kernel
theorem dX3_digestOn_80 : decode cX3_digestOn 80 = .ok (.lload_n 3, 1) := by decide +kernel
theorem dX3_digestOn_81 : decode cX3_digestOn 81 = .ok (.lmul, 1) := by decide +kernel
theorem dX3_digestOn_82 : decode cX3_digestOn 82 = .ok (.aload_n 0, 1) := by decide +kernel
theorem dX3_digestOn_83 : decode cX3_digestOn 83 = .ok (.getfield 21, 3) := by decide +kernel
theorem dX3_digestOn_86 : decode cX3_digestOn 86 = .ok (.iload 5, 2) := by decide +kernel
theorem dX3_digestOn_88 : decode cX3_digestOn 88 = .ok (.iaload, 1) := by decide +kernel
theorem dX3_digestOn_89 : decode cX3_digestOn 89 = .ok (.i2l, 1) := by decide +kernel
theorem dX3_digestOn_90 : decode cX3_digestOn 90 = .ok (.ladd, 1) := by decide +kernel
theorem dX3_digestOn_91 : decode cX3_digestOn 91 = .ok (.lstore_n 3, 1) := by decide +kernel
theorem dX3_digestOn_92 : decode cX3_digestOn 92 = .ok (.ldc2_w 96, 3) := by decide +kernel
theorem dX3_digestOn_95 : decode cX3_digestOn 95 = .ok (.lload_n 3, 1) := by decide +kernel
theorem dX3_digestOn_96 : decode cX3_digestOn 96 = .ok (.lmul, 1) := by decide +kernel
theorem dX3_digestOn_97 : decode cX3_digestOn 97 = .ok (.aload_n 0, 1) := by decide +kernel
theorem dX3_digestOn_98 : decode cX3_digestOn 98 = .ok (.getfield 24, 3) := by decide +kernel
theorem dX3_digestOn_101 : decode cX3_digestOn 101 = .ok (.iload 5, 2) := by decide +kernel
theorem dX3_digestOn_103 : decode cX3_digestOn 103 = .ok (.iaload, 1) := by decide +kernel
theorem dX3_digestOn_104 : decode cX3_digestOn 104 = .ok (.i2l, 1) := by decide +kernel
theorem dX3_digestOn_105 : decode cX3_digestOn 105 = .ok (.ladd, 1) := by decide +kernel
theorem dX3_digestOn_106 : decode cX3_digestOn 106 = .ok (.lstore_n 3, 1) := by decide +kernel
theorem dX3_digestOn_107 : decode cX3_digestOn 107 = .ok (.ldc2_w 96, 3) := by decide +kernel
theorem dX3_digestOn_110 : decode cX3_digestOn 110 = .ok (.lload_n 3, 1) := by decide +kernel
theorem dX3_digestOn_111 : decode cX3_digestOn 111 = .ok (.lmul, 1) := by decide +kernel
theorem dX3_digestOn_112 : decode cX3_digestOn 112 = .ok (.aload_n 0, 1) := by decide +kernel
theorem dX3_digestOn_113 : decode cX3_digestOn 113 = .ok (.getfield 27, 3) := by decide +kernel
theorem dX3_digestOn_116 : decode cX3_digestOn 116 = .ok (.iload 5, 2) := by decide +kernel
theorem dX3_digestOn_118 : decode cX3_digestOn 118 = .ok (.iaload, 1) := by decide +kernel
theorem dX3_digestOn_119 : decode cX3_digestOn 119 = .ok (.i2l, 1) := by decide +kernel
theorem dX3_digestOn_120 : decode cX3_digestOn 120 = .ok (.ladd, 1) := by decide +kernel
theorem dX3_digestOn_121 : decode cX3_digestOn 121 = .ok (.lstore_n 3, 1) := by decide +kernel
theorem dX3_digestOn_122 : decode cX3_digestOn 122 = .ok (.ldc2_w 96, 3) := by decide +kernel
theorem dX3_digestOn_125 : decode cX3_digestOn 125 = .ok (.lload_n 3, 1) := by decide +kernel
theorem dX3_digestOn_126 : decode cX3_digestOn 126 = .ok (.lmul, 1) := by decide +kernel
theorem dX3_digestOn_127 : decode cX3_digestOn 127 = .ok (.aload_n 0, 1) := by decide +kernel
theorem dX3_digestOn_128 : decode cX3_digestOn 128 = .ok (.getfield 30, 3) := by decide +kernel
theorem dX3_digestOn_131 : decode cX3_digestOn 131 = .ok (.iload 5, 2) := by decide +kernel
theorem dX3_digestOn_133 : decode cX3_digestOn 133 = .ok (.iaload, 1) := by decide +kernel
theorem dX3_digestOn_134 : decode cX3_digestOn 134 = .ok (.i2l, 1) := by decide +kernel
theorem dX3_digestOn_135 : decode cX3_digestOn 135 = .ok (.ladd, 1) := by decide +kernel
theorem dX3_digestOn_136 : decode cX3_digestOn 136 = .ok (.lstore_n 3, 1) := by decide +kernel
theorem dX3_digestOn_137 : decode cX3_digestOn 137 = .ok (.ldc2_w 96, 3) := by decide +kernel
theorem dX3_digestOn_140 : decode cX3_digestOn 140 = .ok (.lload_n 3, 1) := by decide +kernel
theorem dX3_digestOn_141 : decode cX3_digestOn 141 = .ok (.lmul, 1) := by decide +kernel
theorem dX3_digestOn_142 : decode cX3_digestOn 142 = .ok (.aload_n 0, 1) := by decide +kernel
theorem dX3_digestOn_143 : decode cX3_digestOn 143 = .ok (.iload 5, 2) := by decide +kernel
theorem dX3_digestOn_145 : decode cX3_digestOn 145 = .ok (.invokevirtual 68, 3) := by decide +kernel
theorem dX3_digestOn_148 : decode cX3_digestOn 148 = .ok (.ifCond .eq 7, 3) := by decide +kernel
theorem dX3_digestOn_151 : decode cX3_digestOn 151 = .ok (.iconst 1, 1) := by decide +kernel
theorem dX3_digestOn_152 : decode cX3_digestOn 152 = .ok (.goto 4, 3) := by decide +kernel
theorem dX3_digestOn_155 : decode cX3_digestOn 155 = .ok (.iconst 0, 1) := by decide +kernel
theorem dX3_digestOn_156 : decode cX3_digestOn 156 = .ok (.i2l, 1) := by decide +kernel
theorem dX3_digestOn_157 : decode cX3_digestOn 157 = .ok (.ladd, 1) := by decide +kernel
theorem dX3_digestOn_158 : decode cX3_digestOn 158 = .ok (.lstore_n 3, 1) := by decide +kernel
theorem dX3_digestOn_159 : decode cX3_digestOn 159 = .ok (.iinc 5 1, 3) := by decide +kernel
theorem dX3_digestOn_162 : decode cX3_digestOn 162 = .ok (.goto (-94), 3) := by decide +kernel
theorem dX3_digestOn_165 : decode cX3_digestOn 165 = .ok (.iconst 0, 1) := by decide +kernel
theorem dX3_digestOn_166 : decode cX3_digestOn 166 = .ok (.istore 5, 2) := by decide +kernel
theorem dX3_digestOn_168 : decode cX3_digestOn 168 = .ok (.iload 5, 2) := by decide +kernel
theorem dX3_digestOn_170 : decode cX3_digestOn 170 = .ok (.aload_n 0, 1) := by decide +kernel
theorem dX3_digestOn_171 : decode cX3_digestOn 171 = .ok (.getfield 52, 3) := by decide +kernel
theorem dX3_digestOn_174 : decode cX3_digestOn 174 = .ok (.iconst 4, 1) := by decide +kernel
theorem dX3_digestOn_175 : decode cX3_digestOn 175 = .ok (.imul, 1) := by decide +kernel
theorem dX3_digestOn_176 : decode cX3_digestOn 176 = .ok (.if_icmp .ge 24, 3) := by decide +kernel
theorem dX3_digestOn_179 : decode cX3_digestOn 179 = .ok (.ldc2_w 96, 3) := by decide +kernel
theorem dX3_digestOn_182 : decode cX3_digestOn 182 = .ok (.lload_n 3, 1) := by decide +kernel
theorem dX3_digestOn_183 : decode cX3_digestOn 183 = .ok (.lmul, 1) := by decide +kernel
theorem dX3_digestOn_184 : decode cX3_digestOn 184 = .ok (.aload_n 0, 1) := by decide +kernel
theorem dX3_digestOn_185 : decode cX3_digestOn 185 = .ok (.getfield 33, 3) := by decide +kernel
theorem dX3_digestOn_188 : decode cX3_digestOn 188 = .ok (.iload 5, 2) := by decide +kernel
theorem dX3_digestOn_190 : decode cX3_digestOn 190 = .ok (.iaload, 1) := by decide +kernel
theorem dX3_digestOn_191 : decode cX3_digestOn 191 = .ok (.i2l, 1) := by decide +kernel
theorem dX3_digestOn_192 : decode cX3_digestOn 192 = .ok (.ladd, 1) := by decide +kernel
theorem dX3_digestOn_193 : decode cX3_digestOn 193 = .ok (.lstore_n 3, 1) := by decide +kernel
theorem dX3_digestOn_194 : decode cX3_digestOn 194 = .ok (.iinc 5 1, 3) := by decide +kernel
theorem dX3_digestOn_197 : decode cX3_digestOn 197 = .ok (.goto (-29), 3) := by decide +kernel
theorem dX3_digestOn_200 : decode cX3_digestOn 200 = .ok (.lload_n 3, 1) := by decide +kernel
theorem dX3_digestOn_201 : decode cX3_digestOn 201 = .ok (.lreturn, 1) := by decide +kernel
theorem dX4_init_0 : decode cX4_init 0 = .ok (.aload_n 0, 1) := by decide +kernel
theorem dX4_init_1 : decode cX4_init 1 = .ok (.invokespecial 1, 3) := by decide +kernel
theorem dX4_init_4 : decode cX4_init 4 = .ok (.aload_n 0, 1) := by decide +kernel
theorem dX4_init_5 : decode cX4_init 5 = .ok (.new 7, 3) := by decide +kernel
theorem dX4_init_8 : decode cX4_init 8 = .ok (.dup, 1) := by decide +kernel
theorem dX4_init_9 : decode cX4_init 9 = .ok (.invokespecial 9, 3) := by decide +kernel
theorem dX4_init_12 : decode cX4_init 12 = .ok (.putfield 10, 3) := by decide +kernel
theorem dX4_init_15 : decode cX4_init 15 = .ok (.aload_n 0, 1) := by decide +kernel
theorem dX4_init_16 : decode cX4_init 16 = .ok (.new 7, 3) := by decide +kernel
theorem dX4_init_19 : decode cX4_init 19 = .ok (.dup, 1) := by decide +kernel
theorem dX4_init_20 : decode cX4_init 20 = .ok (.invokespecial 9, 3) := by decide +kernel
theorem dX4_init_23 : decode cX4_init 23 = .ok (.putfield 16, 3) := by decide +kernel
theorem dX4_init_26 : decode cX4_init 26 = .ok (.aload_n 0, 1) := by decide +kernel
theorem dX4_init_27 : decode cX4_init 27 = .ok (.iconst 2, 1) := by decide +kernel
theorem dX4_init_28 : decode cX4_init 28 = .ok (.anewarray 7, 3) := by decide +kernel
theorem dX4_init_31 : decode cX4_init 31 = .ok (.putfield 19, 3) := by decide +kernel
theorem dX4_init_34 : decode cX4_init 34 = .ok (.aload_n 0, 1) := by decide +kernel
theorem dX4_init_35 : decode cX4_init 35 = .ok (.new 23, 3) := by decide +kernel
theorem dX4_init_38 : decode cX4_init 38 = .ok (.dup, 1) := by decide +kernel
theorem dX4_init_39 : decode cX4_init 39 = .ok (.invokespecial 25, 3) := by decide +kernel
theorem dX4_init_42 : decode cX4_init 42 = .ok (.putfield 26, 3) := by decide +kernel
theorem dX4_init_45 : decode cX4_init 45 = .ok (.aload_n 0, 1) := by decide +kernel
theorem dX4_init_46 : decode cX4_init 46 = .ok (.iconst 0, 1) := by decide +kernel
theorem dX4_init_47 : decode cX4_init 47 = .ok (.putfield 30, 3) := by decide +kernel
theorem dX4_init_50 : decode cX4_init 50 = .ok (.aload_n 0, 1) := by decide +kernel
theorem dX4_init_51 : decode cX4_init 51 = .ok (.iconst 1, 1) := by decide +kernel
theorem dX4_init_52 : decode cX4_init 52 = .ok (.putfield 34, 3) := by decide +kernel
theorem dX4_init_55 : decode cX4_init 55 = .ok (.aload_n 0, 1) := by decide +kernel
theorem dX4_init_56 : decode cX4_init 56 = .ok (.iconst 4, 1) := by decide +kernel
theorem dX4_init_57 : decode cX4_init 57 = .ok (.newarray .int, 2) := by decide +kernel
theorem dX4_init_59 : decode cX4_init 59 = .ok (.putfield 37, 3) := by decide +kernel
theorem dX4_init_62 : decode cX4_init 62 = .ok (.aload_n 0, 1) := by decide +kernel
theorem dX4_init_63 : decode cX4_init 63 = .ok (.bipush 64, 2) := by decide +kernel
theorem dX4_init_65 : decode cX4_init 65 = .ok (.newarray .int, 2) := by decide +kernel
theorem dX4_init_67 : decode cX4_init 67 = .ok (.putfield 41, 3) := by decide +kernel
theorem dX4_init_70 : decode cX4_init 70 = .ok (.aload_n 0, 1) := by decide +kernel
theorem dX4_init_71 : decode cX4_init 71 = .ok (.bipush 64, 2) := by decide +kernel
theorem dX4_init_73 : decode cX4_init 73 = .ok (.newarray .int, 2) := by decide +kernel
theorem dX4_init_75 : decode cX4_init 75 = .ok (.putfield 44, 3) := by decide +kernel
theorem dX4_init_78 : decode cX4_init 78 = .ok (.return_, 1) := by decide +kernel
theorem dX4_village_0 : decode cX4_village 0 = .ok (.aload_n 0, 1) := by decide +kernel
theorem dX4_village_1 : decode cX4_village 1 = .ok (.getfield 10, 3) := by decide +kernel
theorem dX4_village_4 : decode cX4_village 4 = .ok (.getfield 47, 3) := by decide +kernel
theorem dX4_village_7 : decode cX4_village 7 = .ok (.istore_n 1, 1) := by decide +kernel
theorem dX4_village_8 : decode cX4_village 8 = .ok (.aload_n 0, 1) := by decide +kernel
theorem dX4_village_9 : decode cX4_village 9 = .ok (.getfield 10, 3) := by decide +kernel
theorem dX4_village_12 : decode cX4_village 12 = .ok (.invokevirtual 50, 3) := by decide +kernel
theorem dX4_village_15 : decode cX4_village 15 = .ok (.iload_n 1, 1) := by decide +kernel
theorem dX4_village_16 : decode cX4_village 16 = .ok (.ireturn, 1) := by decide +kernel
theorem dX4_man_0 : decode cX4_man 0 = .ok (.iload_n 1, 1) := by decide +kernel
theorem dX4_man_1 : decode cX4_man 1 = .ok (.iconst 0, 1) := by decide +kernel
theorem dX4_man_2 : decode cX4_man 2 = .ok (.bipush 9, 2) := by decide +kernel
theorem dX4_man_4 : decode cX4_man 4 = .ok (.invokestatic 53, 3) := by decide +kernel
theorem dX4_man_7 : decode cX4_man 7 = .ok (.ifCond .eq 13, 3) := by decide +kernel
theorem dX4_man_10 : decode cX4_man 10 = .ok (.iload_n 2, 1) := by decide +kernel
theorem dX4_man_11 : decode cX4_man 11 = .ok (.iconst 0, 1) := by decide +kernel
theorem dX4_man_12 : decode cX4_man 12 = .ok (.bipush 30, 2) := by decide +kernel
theorem dX4_man_14 : decode cX4_man 14 = .ok (.invokestatic 53, 3) := by decide +kernel
theorem dX4_man_17 : decode cX4_man 17 = .ok (.ifCond .ne 10, 3) := by decide +kernel
theorem dX4_man_20 : decode cX4_man 20 = .ok (.aload_n 0, 1) := by decide +kernel
theorem dX4_man_21 : decode cX4_man 21 = .ok (.bipush (-2), 2) := by decide +kernel
theorem dX4_man_23 : decode cX4_man 23 = .ok (.invokevirtual 57, 3) := by decide +kernel
theorem dX4_man_26 : decode cX4_man 26 = .ok (.ireturn, 1) := by decide +kernel
theorem dX4_man_27 : decode cX4_man 27 = .ok (.aload_n 0, 1) := by decide +kernel
theorem dX4_man_28 : decode cX4_man 28 = .ok (.getfield 10, 3) := by decide +kernel
theorem dX4_man_31 : decode cX4_man 31 = .ok (.getfield 61, 3) := by decide +kernel
theorem dX4_man_34 : decode cX4_man 34 = .ok (.iconst 4, 1) := by decide +kernel
theorem dX4_man_35 : decode cX4_man 35 = .ok (.if_icmp .lt 10, 3) := by decide +kernel
theorem dX4_man_38 : decode cX4_man 38 = .ok (.aload_n 0, 1) := by decide +kernel
theorem dX4_man_39 : decode cX4_man 39 = .ok (.bipush (-4), 2) := by decide +kernel
theorem dX4_man_41 : decode cX4_man 41 = .ok (.invokevirtual 57, 3) := by decide +kernel
theorem dX4_man_44 : decode cX4_man 44 = .ok (.ireturn, 1) := by decide +kernel
theorem dX4_man_45 : decode cX4_man 45 = .ok (.aload_n 0, 1) := by decide +kernel
theorem dX4_man_46 : decode cX4_man 46 = .ok (.getfield 10, 3) := by decide +kernel
theorem dX4_man_49 : decode cX4_man 49 = .ok (.iload_n 1, 1) := by decide +kernel
theorem dX4_man_50 : decode cX4_man 50 = .ok (.iload_n 2, 1) := by decide +kernel
theorem dX4_man_51 : decode cX4_man 51 = .ok (.invokevirtual 64, 3) := by decide +kernel
theorem dX4_man_54 : decode cX4_man 54 = .ok (.ireturn, 1) := by decide +kernel
theorem dX4_dog_0 : decode cX4_dog 0 = .ok (.iload_n 1, 1) := by decide +kernel
theorem dX4_dog_1 : decode cX4_dog 1 = .ok (.iconst 0, 1) := by decide +kernel
theorem dX4_dog_2 : decode cX4_dog 2 = .ok (.iconst 5, 1) := by decide +kernel
theorem dX4_dog_3 : decode cX4_dog 3 = .ok (.invokestatic 53, 3) := by decide +kernel
theorem dX4_dog_6 : decode cX4_dog 6 = .ok (.ifCond .eq 12, 3) := by decide +kernel
theorem dX4_dog_9 : decode cX4_dog 9 = .ok (.iload_n 2, 1) := by decide +kernel
theorem dX4_dog_10 : decode cX4_dog 10 = .ok (.iconst 1, 1) := by decide +kernel
theorem dX4_dog_11 : decode cX4_dog 11 = .ok (.iconst 5, 1) := by decide +kernel
theorem dX4_dog_12 : decode cX4_dog 12 = .ok (.invokestatic 53, 3) := by decide +kernel
theorem dX4_dog_15 : decode cX4_dog 15 = .ok (.ifCond .ne 10, 3) := by decide +kernel
theorem dX4_dog_18 : decode cX4_dog 18 = .ok (.aload_n 0, 1) := by decide +kernel
theorem dX4_dog_19 : decode cX4_dog 19 = .ok (.bipush (-2), 2) := by decide +kernel
theorem dX4_dog_21 : decode cX4_dog 21 = .ok (.invokevirtual 57, 3) := by decide +kernel
theorem dX4_dog_24 : decode cX4_dog 24 = .ok (.ireturn, 1) := by decide +kernel
theorem dX4_dog_25 : decode cX4_dog 25 = .ok (.iload_n 3, 1) := by decide +kernel
theorem dX4_dog_26 : decode cX4_dog 26 = .ok (.iconst 1, 1) := by decide +kernel
theorem dX4_dog_27 : decode cX4_dog 27 = .ok (.bipush 9, 2) := by decide +kernel
theorem dX4_dog_29 : decode cX4_dog 29 = .ok (.invokestatic 53, 3) := by decide +kernel
theorem dX4_dog_32 : decode cX4_dog 32 = .ok (.ifCond .eq 13, 3) := by decide +kernel
theorem dX4_dog_35 : decode cX4_dog 35 = .ok (.iload 4, 2) := by decide +kernel
theorem dX4_dog_37 : decode cX4_dog 37 = .ok (.iconst 0, 1) := by decide +kernel
theorem dX4_dog_38 : decode cX4_dog 38 = .ok (.iconst 3, 1) := by decide +kernel
theorem dX4_dog_39 : decode cX4_dog 39 = .ok (.invokestatic 53, 3) := by decide +kernel
theorem dX4_dog_42 : decode cX4_dog 42 = .ok (.ifCond .ne 10, 3) := by decide +kernel
theorem dX4_dog_45 : decode cX4_dog 45 = .ok (.aload_n 0, 1) := by decide +kernel
theorem dX4_dog_46 : decode cX4_dog 46 = .ok (.bipush (-2), 2) := by decide +kernel
theorem dX4_dog_48 : decode cX4_dog 48 = .ok (.invokevirtual 57, 3) := by decide +kernel
theorem dX4_dog_51 : decode cX4_dog 51 = .ok (.ireturn, 1) := by decide +kernel
theorem dX4_dog_52 : decode cX4_dog 52 = .ok (.aload_n 0, 1) := by decide +kernel
theorem dX4_dog_53 : decode cX4_dog 53 = .ok (.getfield 10, 3) := by decide +kernel
theorem dX4_dog_56 : decode cX4_dog 56 = .ok (.getfield 47, 3) := by decide +kernel
theorem dX4_dog_59 : decode cX4_dog 59 = .ok (.bipush 7, 2) := by decide +kernel
theorem dX4_dog_61 : decode cX4_dog 61 = .ok (.if_icmp .lt 10, 3) := by decide +kernel
theorem dX4_dog_64 : decode cX4_dog 64 = .ok (.aload_n 0, 1) := by decide +kernel
theorem dX4_dog_65 : decode cX4_dog 65 = .ok (.bipush (-4), 2) := by decide +kernel
theorem dX4_dog_67 : decode cX4_dog 67 = .ok (.invokevirtual 57, 3) := by decide +kernel
theorem dX4_dog_70 : decode cX4_dog 70 = .ok (.ireturn, 1) := by decide +kernel
theorem dX4_dog_71 : decode cX4_dog 71 = .ok (.aload_n 0, 1) := by decide +kernel
theorem dX4_dog_72 : decode cX4_dog 72 = .ok (.getfield 10, 3) := by decide +kernel
theorem dX4_dog_75 : decode cX4_dog 75 = .ok (.iload_n 1, 1) := by decide +kernel
theorem dX4_dog_76 : decode cX4_dog 76 = .ok (.iload_n 2, 1) := by decide +kernel
theorem dX4_dog_77 : decode cX4_dog 77 = .ok (.iload_n 3, 1) := by decide +kernel
theorem dX4_dog_78 : decode cX4_dog 78 = .ok (.iload 4, 2) := by decide +kernel
theorem dX4_dog_80 : decode cX4_dog 80 = .ok (.invokevirtual 68, 3) := by decide +kernel
theorem dX4_dog_83 : decode cX4_dog 83 = .ok (.ireturn, 1) := by decide +kernel
theorem dX4_type_0 : decode cX4_type 0 = .ok (.iload_n 1, 1) := by decide +kernel
theorem dX4_type_1 : decode cX4_type 1 = .ok (.iconst 0, 1) := by decide +kernel
theorem dX4_type_2 : decode cX4_type 2 = .ok (.bipush 127, 2) := by decide +kernel
theorem dX4_type_4 : decode cX4_type 4 = .ok (.invokestatic 53, 3) := by decide +kernel
theorem dX4_type_7 : decode cX4_type 7 = .ok (.ifCond .ne 10, 3) := by decide +kernel
theorem dX4_type_10 : decode cX4_type 10 = .ok (.aload_n 0, 1) := by decide +kernel
theorem dX4_type_11 : decode cX4_type 11 = .ok (.bipush (-2), 2) := by decide +kernel
theorem dX4_type_13 : decode cX4_type 13 = .ok (.invokevirtual 57, 3) := by decide +kernel
theorem dX4_type_16 : decode cX4_type 16 = .ok (.ireturn, 1) := by decide +kernel
theorem dX4_type_17 : decode cX4_type 17 = .ok (.aload_n 0, 1) := by decide +kernel
theorem dX4_type_18 : decode cX4_type 18 = .ok (.getfield 26, 3) := by decide +kernel
theorem dX4_type_21 : decode cX4_type 21 = .ok (.getfield 72, 3) := by decide +kernel
theorem dX4_type_24 : decode cX4_type 24 = .ok (.sipush 150, 3) := by decide +kernel
theorem dX4_type_27 : decode cX4_type 27 = .ok (.if_icmp .lt 10, 3) := by decide +kernel
theorem dX4_type_30 : decode cX4_type 30 = .ok (.aload_n 0, 1) := by decide +kernel
theorem dX4_type_31 : decode cX4_type 31 = .ok (.bipush (-4), 2) := by decide +kernel
theorem dX4_type_33 : decode cX4_type 33 = .ok (.invokevirtual 57, 3) := by decide +kernel
theorem dX4_type_36 : decode cX4_type 36 = .ok (.ireturn, 1) := by decide +kernel
theorem dX4_type_37 : decode cX4_type 37 = .ok (.aload_n 0, 1) := by decide +kernel
theorem dX4_type_38 : decode cX4_type 38 = .ok (.getfield 26, 3) := by decide +kernel
theorem dX4_type_41 : decode cX4_type 41 = .ok (.iload_n 1, 1) := by decide +kernel
theorem dX4_type_42 : decode cX4_type 42 = .ok (.invokevirtual 75, 3) := by decide +kernel
theorem dX4_type_45 : decode cX4_type 45 = .ok (.ireturn, 1) := by decide +kernel
theorem dX4_clear_0 : decode cX4_clear 0 = .ok (.aload_n 0, 1) := by decide +kernel
theorem dX4_clear_1 : decode cX4_clear 1 = .ok (.getfield 26, 3) := by decide +kernel
theorem dX4_clear_4 : decode cX4_clear 4 = .ok (.getfield 72, 3) := by decide +kernel
theorem dX4_clear_7 : decode cX4_clear 7 = .ok (.istore_n 1, 1) := by decide +kernel
theorem dX4_clear_8 : decode cX4_clear 8 = .ok (.aload_n 0, 1) := by decide +kernel
theorem dX4_clear_9 : decode cX4_clear 9 = .ok (.getfield 26, 3) := by decide +kernel
theorem dX4_clear_12 : decode cX4_clear 12 = .ok (.iconst 0, 1) := by decide +kernel
theorem dX4_clear_13 : decode cX4_clear 13 = .ok (.putfield 72, 3) := by decide +kernel
theorem dX4_clear_16 : decode cX4_clear 16 = .ok (.iload_n 1, 1) := by decide +kernel
theorem dX4_clear_17 : decode cX4_clear 17 = .ok (.ireturn, 1) := by decide +kernel
theorem dX4_read_0 : decode cX4_read 0 = .ok (.new 78, 3) := by decide +kernel
theorem dX4_read_3 : decode cX4_read 3 = .ok (.dup, 1) := by decide +kernel
theorem dX4_read_4 : decode cX4_read 4 = .ok (.aload_n 0, 1) := by decide +kernel
theorem dX4_read_5 : decode cX4_read 5 = .ok (.getfield 26, 3) := by decide +kernel
theorem dX4_read_8 : decode cX4_read 8 = .ok (.aload_n 0, 1) := by decide +kernel
theorem dX4_read_9 : decode cX4_read 9 = .ok (.getfield 16, 3) := by decide +kernel
theorem dX4_read_12 : decode cX4_read 12 = .ok (.invokespecial 80, 3) := by decide +kernel
theorem dX4_read_15 : decode cX4_read 15 = .ok (.astore_n 1, 1) := by decide +kernel
theorem dX4_read_16 : decode cX4_read 16 = .ok (.aload_n 1, 1) := by decide +kernel
theorem dX4_read_17 : decode cX4_read 17 = .ok (.invokevirtual 83, 3) := by decide +kernel
theorem dX4_read_20 : decode cX4_read 20 = .ok (.istore_n 2, 1) := by decide +kernel
theorem dX4_read_21 : decode cX4_read 21 = .ok (.iload_n 2, 1) := by decide +kernel
theorem dX4_read_22 : decode cX4_read 22 = .ok (.iconst (-1), 1) := by decide +kernel
theorem dX4_read_23 : decode cX4_read 23 = .ok (.if_icmp .ne 11, 3) := by decide +kernel
theorem dX4_read_26 : decode cX4_read 26 = .ok (.bipush (-10), 2) := by decide +kernel
theorem dX4_read_28 : decode cX4_read 28 = .ok (.aload_n 1, 1) := by decide +kernel
theorem dX4_read_29 : decode cX4_read 29 = .ok (.getfield 87, 3) := by decide +kernel
theorem dX4_read_32 : decode cX4_read 32 = .ok (.isub, 1) := by decide +kernel
theorem dX4_read_33 : decode cX4_read 33 = .ok (.ireturn, 1) := by decide +kernel
theorem dX4_read_34 : decode cX4_read 34 = .ok (.aload_n 0, 1) := by decide +kernel
theorem dX4_read_35 : decode cX4_read 35 = .ok (.getfield 10, 3) := by decide +kernel
theorem dX4_read_38 : decode cX4_read 38 = .ok (.aload_n 0, 1) := by decide +kernel
theorem dX4_read_39 : decode cX4_read 39 = .ok (.getfield 16, 3) := by decide +kernel
theorem dX4_read_42 : decode cX4_read 42 = .ok (.invokevirtual 90, 3) := by decide +kernel
theorem dX4_read_45 : decode cX4_read 45 = .ok (.iload_n 2, 1) := by decide +kernel
theorem dX4_read_46 : decode cX4_read 46 = .ok (.ireturn, 1) := by decide +kernel
theorem dX4_bribe_0 : decode cX4_bribe 0 = .ok (.aload_n 0, 1) := by decide +kernel
theorem dX4_bribe_1 : decode cX4_bribe 1 = .ok (.getfield 10, 3) := by decide +kernel
theorem dX4_bribe_4 : decode cX4_bribe 4 = .ok (.iload_n 1, 1) := by decide +kernel
theorem dX4_bribe_5 : decode cX4_bribe 5 = .ok (.invokevirtual 94, 3) := by decide +kernel
theorem dX4_bribe_8 : decode cX4_bribe 8 = .ok (.ifCond .eq 14, 3) := by decide +kernel
theorem dX4_bribe_11 : decode cX4_bribe 11 = .ok (.aload_n 0, 1) := by decide +kernel
theorem dX4_bribe_12 : decode cX4_bribe 12 = .ok (.getfield 10, 3) := by decide +kernel
theorem dX4_bribe_15 : decode cX4_bribe 15 = .ok (.iload_n 2, 1) := by decide +kernel
theorem dX4_bribe_16 : decode cX4_bribe 16 = .ok (.invokevirtual 98, 3) := by decide +kernel
theorem dX4_bribe_19 : decode cX4_bribe 19 = .ok (.ifCond .ne 10, 3) := by decide +kernel
theorem dX4_bribe_22 : decode cX4_bribe 22 = .ok (.aload_n 0, 1) := by decide +kernel
theorem dX4_bribe_23 : decode cX4_bribe 23 = .ok (.bipush (-2), 2) := by decide +kernel
theorem dX4_bribe_25 : decode cX4_bribe 25 = .ok (.invokevirtual 57, 3) := by decide +kernel
theorem dX4_bribe_28 : decode cX4_bribe 28 = .ok (.ireturn, 1) := by decide +kernel
theorem dX4_bribe_29 : decode cX4_bribe 29 = .ok (.aload_n 0, 1) := by decide +kernel
theorem dX4_bribe_30 : decode cX4_bribe 30 = .ok (.getfield 10, 3) := by decide +kernel
theorem dX4_bribe_33 : decode cX4_bribe 33 = .ok (.iload_n 1, 1) := by decide +kernel
theorem dX4_bribe_34 : decode cX4_bribe 34 = .ok (.iload_n 2, 1) := by decide +kernel
theorem dX4_bribe_35 : decode cX4_bribe 35 = .ok (.invokevirtual 101, 3) := by decide +kernel
theorem dX4_bribe_38 : decode cX4_bribe 38 = .ok (.ifCond .ne 10, 3) := by decide +kernel
theorem dX4_bribe_41 : decode cX4_bribe 41 = .ok (.aload_n 0, 1) := by decide +kernel
theorem dX4_bribe_42 : decode cX4_bribe 42 = .ok (.bipush (-3), 2) := by decide +kernel
theorem dX4_bribe_44 : decode cX4_bribe 44 = .ok (.invokevirtual 57, 3) := by decide +kernel
theorem dX4_bribe_47 : decode cX4_bribe 47 = .ok (.ireturn, 1) := by decide +kernel
theorem dX4_bribe_48 : decode cX4_bribe 48 = .ok (.aload_n 0, 1) := by decide +kernel
theorem dX4_bribe_49 : decode cX4_bribe 49 = .ok (.getfield 10, 3) := by decide +kernel
theorem dX4_bribe_52 : decode cX4_bribe 52 = .ok (.invokevirtual 105, 3) := by decide +kernel
theorem dX4_bribe_55 : decode cX4_bribe 55 = .ok (.aload_n 0, 1) := by decide +kernel
theorem dX4_bribe_56 : decode cX4_bribe 56 = .ok (.getfield 10, 3) := by decide +kernel
theorem dX4_bribe_59 : decode cX4_bribe 59 = .ok (.iload_n 1, 1) := by decide +kernel
theorem dX4_bribe_60 : decode cX4_bribe 60 = .ok (.iload_n 2, 1) := by decide +kernel
theorem dX4_bribe_61 : decode cX4_bribe 61 = .ok (.invokevirtual 108, 3) := by decide +kernel
theorem dX4_bribe_64 : decode cX4_bribe 64 = .ok (.aload_n 0, 1) := by decide +kernel
theorem dX4_bribe_65 : decode cX4_bribe 65 = .ok (.getfield 10, 3) := by decide +kernel
theorem dX4_bribe_68 : decode cX4_bribe 68 = .ok (.getfield 112, 3) := by decide +kernel
theorem dX4_bribe_71 : decode cX4_bribe 71 = .ok (.iload_n 1, 1) := by decide +kernel
theorem dX4_bribe_72 : decode cX4_bribe 72 = .ok (.iaload, 1) := by decide +kernel
theorem dX4_bribe_73 : decode cX4_bribe 73 = .ok (.ireturn, 1) := by decide +kernel
theorem dX4_round_0 : decode cX4_round 0 = .ok (.iload_n 1, 1) := by decide +kernel
theorem dX4_round_1 : decode cX4_round 1 = .ok (.iconst 1, 1) := by decide +kernel
theorem dX4_round_2 : decode cX4_round 2 = .ok (.bipush 30, 2) := by decide +kernel
theorem dX4_round_4 : decode cX4_round 4 = .ok (.invokestatic 53, 3) := by decide +kernel
theorem dX4_round_7 : decode cX4_round 7 = .ok (.ifCond .ne 10, 3) := by decide +kernel
theorem dX4_round_10 : decode cX4_round 10 = .ok (.aload_n 0, 1) := by decide +kernel
theorem dX4_round_11 : decode cX4_round 11 = .ok (.bipush (-2), 2) := by decide +kernel
theorem dX4_round_13 : decode cX4_round 13 = .ok (.invokevirtual 57, 3) := by decide +kernel
theorem dX4_round_16 : decode cX4_round 16 = .ok (.ireturn, 1) := by decide +kernel
theorem dX4_round_17 : decode cX4_round 17 = .ok (.aload_n 0, 1) := by decide +kernel
theorem dX4_round_18 : decode cX4_round 18 = .ok (.getfield 10, 3) := by decide +kernel
theorem dX4_round_21 : decode cX4_round 21 = .ok (.invokevirtual 105, 3) := by decide +kernel
theorem dX4_round_24 : decode cX4_round 24 = .ok (.iconst 0, 1) := by decide +kernel
theorem dX4_round_25 : decode cX4_round 25 = .ok (.istore_n 2, 1) := by decide +kernel
theorem dX4_round_26 : decode cX4_round 26 = .ok (.iload_n 2, 1) := by decide +kernel
theorem dX4_round_27 : decode cX4_round 27 = .ok (.iload_n 1, 1) := by decide +kernel
theorem dX4_round_28 : decode cX4_round 28 = .ok (.if_icmp .ge 71, 3) := by decide +kernel
theorem dX4_round_31 : decode cX4_round 31 = .ok (.aload_n 0, 1) := by decide +kernel
theorem dX4_round_32 : decode cX4_round 32 = .ok (.getfield 10, 3) := by decide +kernel
theorem dX4_round_35 : decode cX4_round 35 = .ok (.getfield 115, 3) := by decide +kernel
theorem dX4_round_38 : decode cX4_round 38 = .ok (.sipush 999, 3) := by decide +kernel
theorem dX4_round_41 : decode cX4_round 41 = .ok (.if_icmp .ge 58, 3) := by decide +kernel
theorem dX4_round_44 : decode cX4_round 44 = .ok (.aload_n 0, 1) := by decide +kernel
theorem dX4_round_45 : decode cX4_round 45 = .ok (.getfield 10, 3) := by decide +kernel
theorem dX4_round_48 : decode cX4_round 48 = .ok (.aload_n 0, 1) := by decide +kernel
theorem dX4_round_49 : decode cX4_round 49 = .ok (.getfield 10, 3) := by decide +kernel
theorem dX4_round_52 : decode cX4_round 52 = .ok (.getfield 118, 3) := by decide +kernel
theorem dX4_round_55 : decode cX4_round 55 = .ok (.aload_n 0, 1) := by decide +kernel
theorem dX4_round_56 : decode cX4_round 56 = .ok (.getfield 10, 3) := by decide +kernel
theorem dX4_round_59 : decode cX4_round 59 = .ok (.getfield 115, 3) := by decide +kernel
theorem dX4_round_62 : decode cX4_round 62 = .ok (.aload_n 0, 1) := by decide +kernel
theorem dX4_round_63 : decode cX4_round 63 = .ok (.getfield 10, 3) := by decide +kernel
theorem dX4_round_66 : decode cX4_round 66 = .ok (.getfield 121, 3) := by decide +kernel
theorem dX4_round_69 : decode cX4_round 69 = .ok (.invokevirtual 124, 3) := by decide +kernel
theorem dX4_round_72 : decode cX4_round 72 = .ok (.aload_n 0, 1) := by decide +kernel
theorem dX4_round_73 : decode cX4_round 73 = .ok (.getfield 10, 3) := by decide +kernel
theorem dX4_round_76 : decode cX4_round 76 = .ok (.iconst 0, 1) := by decide +kernel
theorem dX4_round_77 : decode cX4_round 77 = .ok (.putfield 121, 3) := by decide +kernel
theorem dX4_round_80 : decode cX4_round 80 = .ok (.aload_n 0, 1) := by decide +kernel
theorem dX4_round_81 : decode cX4_round 81 = .ok (.getfield 10, 3) := by decide +kernel
theorem dX4_round_84 : decode cX4_round 84 = .ok (.dup, 1) := by decide +kernel
theorem dX4_round_85 : decode cX4_round 85 = .ok (.getfield 115, 3) := by decide +kernel
theorem dX4_round_88 : decode cX4_round 88 = .ok (.iconst 1, 1) := by decide +kernel
theorem dX4_round_89 : decode cX4_round 89 = .ok (.iadd, 1) := by decide +kernel
theorem dX4_round_90 : decode cX4_round 90 = .ok (.putfield 115, 3) := by decide +kernel
theorem dX4_round_93 : decode cX4_round 93 = .ok (.iinc 2 1, 3) := by decide +kernel
theorem dX4_round_96 : decode cX4_round 96 = .ok (.goto (-70), 3) := by decide +kernel
theorem dX4_round_99 : decode cX4_round 99 = .ok (.aload_n 0, 1) := by decide +kernel
theorem dX4_round_100 : decode cX4_round 100 = .ok (.getfield 10, 3) := by decide +kernel
theorem dX4_round_103 : decode cX4_round 103 = .ok (.getfield 118, 3) := by decide +kernel
theorem dX4_round_106 : decode cX4_round 106 = .ok (.aload_n 0, 1) := by decide +kernel
theorem dX4_round_107 : decode cX4_round 107 = .ok (.getfield 10, 3) := by decide +kernel
theorem dX4_round_110 : decode cX4_round 110 = .ok (.getfield 61, 3) := by decide +kernel
theorem dX4_round_113 : decode cX4_round 113 = .ok (.invokestatic 128, 3) := by decide +kernel
theorem dX4_round_116 : decode cX4_round 116 = .ok (.ireturn, 1) := by decide +kernel
theorem dX4_undo_0 : decode cX4_undo 0 = .ok (.aload_n 0, 1) := by decide +kernel
theorem dX4_undo_1 : decode cX4_undo 1 = .ok (.getfield 10, 3) := by decide +kernel
theorem dX4_undo_4 : decode cX4_undo 4 = .ok (.getfield 132, 3) := by decide +kernel
theorem dX4_undo_7 : decode cX4_undo 7 = .ok (.ifCond .ne 10, 3) := by decide +kernel
theorem dX4_undo_10 : decode cX4_undo 10 = .ok (.aload_n 0, 1) := by decide +kernel
theorem dX4_undo_11 : decode cX4_undo 11 = .ok (.bipush (-3), 2) := by decide +kernel
theorem dX4_undo_13 : decode cX4_undo 13 = .ok (.invokevirtual 57, 3) := by decide +kernel
theorem dX4_undo_16 : decode cX4_undo 16 = .ok (.ireturn, 1) := by decide +kernel
theorem dX4_undo_17 : decode cX4_undo 17 = .ok (.aload_n 0, 1) := by decide +kernel
theorem dX4_undo_18 : decode cX4_undo 18 = .ok (.getfield 10, 3) := by decide +kernel
theorem dX4_undo_21 : decode cX4_undo 21 = .ok (.invokevirtual 135, 3) := by decide +kernel
theorem dX4_undo_24 : decode cX4_undo 24 = .ok (.aload_n 0, 1) := by decide +kernel
theorem dX4_undo_25 : decode cX4_undo 25 = .ok (.getfield 10, 3) := by decide +kernel
theorem dX4_undo_28 : decode cX4_undo 28 = .ok (.getfield 115, 3) := by decide +kernel
theorem dX4_undo_31 : decode cX4_undo 31 = .ok (.ireturn, 1) := by decide +kernel
theorem dX4_of_0 : decode cX4_of 0 = .ok (.aload_n 0, 1) := by decide +kernel
theorem dX4_of_1 : decode cX4_of 1 = .ok (.getfield 10, 3) := by decide +kernel
theorem dX4_of_4 : decode cX4_of 4 = .ok (.iload_n 1, 1) := by decide +kernel
theorem dX4_of_5 : decode cX4_of 5 = .ok (.invokevirtual 94, 3) := by decide +kernel
theorem dX4_of_8 : decode cX4_of 8 = .ok (.ifCond .ne 10, 3) := by decide +kernel
theorem dX4_of_11 : decode cX4_of 11 = .ok (.aload_n 0, 1) := by decide +kernel
theorem dX4_of_12 : decode cX4_of 12 = .ok (.bipush (-2), 2) := by decide +kernel
theorem dX4_of_14 : decode cX4_of 14 = .ok (.invokevirtual 57, 3) := by decide +kernel
theorem dX4_of_17 : decode cX4_of 17 = .ok (.ireturn, 1) := by decide +kernel
theorem dX4_of_18 : decode cX4_of 18 = .ok (.iload_n 2, 1) := by decide +kernel
theorem dX4_of_19 : decode cX4_of 19 = .ok (.tableswitch 55 0 2 #[25, 35, 45], 25) := by decide +kernel
theorem dX4_of_44 : decode cX4_of 44 = .ok (.aload_n 0, 1) := by decide +kernel
theorem dX4_of_45 : decode cX4_of 45 = .ok (.getfield 10, 3) := by decide +kernel
theorem dX4_of_48 : decode cX4_of 48 = .ok (.getfield 138, 3) := by decide +kernel
theorem dX4_of_51 : decode cX4_of 51 = .ok (.iload_n 1, 1) := by decide +kernel
theorem dX4_of_52 : decode cX4_of 52 = .ok (.iaload, 1) := by decide +kernel
theorem dX4_of_53 : decode cX4_of 53 = .ok (.ireturn, 1) := by decide +kernel
theorem dX4_of_54 : decode cX4_of 54 = .ok (.aload_n 0, 1) := by decide +kernel
theorem dX4_of_55 : decode cX4_of 55 = .ok (.getfield 10, 3) := by decide +kernel
theorem dX4_of_58 : decode cX4_of 58 = .ok (.getfield 112, 3) := by decide +kernel
theorem dX4_of_61 : decode cX4_of 61 = .ok (.iload_n 1, 1) := by decide +kernel
theorem dX4_of_62 : decode cX4_of 62 = .ok (.iaload, 1) := by decide +kernel
theorem dX4_of_63 : decode cX4_of 63 = .ok (.ireturn, 1) := by decide +kernel
theorem dX4_of_64 : decode cX4_of 64 = .ok (.aload_n 0, 1) := by decide +kernel
theorem dX4_of_65 : decode cX4_of 65 = .ok (.getfield 10, 3) := by decide +kernel
theorem dX4_of_68 : decode cX4_of 68 = .ok (.getfield 118, 3) := by decide +kernel
theorem dX4_of_71 : decode cX4_of 71 = .ok (.iload_n 1, 1) := by decide +kernel
theorem dX4_of_72 : decode cX4_of 72 = .ok (.iaload, 1) := by decide +kernel
theorem dX4_of_73 : decode cX4_of 73 = .ok (.ireturn, 1) := by decide +kernel
theorem dX4_of_74 : decode cX4_of 74 = .ok (.aload_n 0, 1) := by decide +kernel
theorem dX4_of_75 : decode cX4_of 75 = .ok (.bipush (-2), 2) := by decide +kernel
theorem dX4_of_77 : decode cX4_of 77 = .ok (.invokevirtual 57, 3) := by decide +kernel
theorem dX4_of_80 : decode cX4_of 80 = .ok (.ireturn, 1) := by decide +kernel
theorem dX4_about_0 : decode cX4_about 0 = .ok (.aload_n 0, 1) := by decide +kernel
theorem dX4_about_1 : decode cX4_about 1 = .ok (.getfield 10, 3) := by decide +kernel
theorem dX4_about_4 : decode cX4_about 4 = .ok (.iload_n 1, 1) := by decide +kernel
theorem dX4_about_5 : decode cX4_about 5 = .ok (.invokevirtual 98, 3) := by decide +kernel
theorem dX4_about_8 : decode cX4_about 8 = .ok (.ifCond .ne 10, 3) := by decide +kernel
theorem dX4_about_11 : decode cX4_about 11 = .ok (.aload_n 0, 1) := by decide +kernel
theorem dX4_about_12 : decode cX4_about 12 = .ok (.bipush (-2), 2) := by decide +kernel
theorem dX4_about_14 : decode cX4_about 14 = .ok (.invokevirtual 57, 3) := by decide +kernel
theorem dX4_about_17 : decode cX4_about 17 = .ok (.ireturn, 1) := by decide +kernel
theorem dX4_about_18 : decode cX4_about 18 = .ok (.iload_n 2, 1) := by decide +kernel
theorem dX4_about_19 : decode cX4_about 19 = .ok (.tableswitch 133 0 6 #[41, 51, 61, 71, 81, 98, 120], 41) := by decide +kernel
theorem dX4_about_60 : decode cX4_about 60 = .ok (.aload_n 0, 1) := by decide +kernel
theorem dX4_about_61 : decode cX4_about 61 = .ok (.getfield 10, 3) := by decide +kernel
theorem dX4_about_64 : decode cX4_about 64 = .ok (.getfield 141, 3) := by decide +kernel
theorem dX4_about_67 : decode cX4_about 67 = .ok (.iload_n 1, 1) := by decide +kernel
theorem dX4_about_68 : decode cX4_about 68 = .ok (.iaload, 1) := by decide +kernel
theorem dX4_about_69 : decode cX4_about 69 = .ok (.ireturn, 1) := by decide +kernel
theorem dX4_about_70 : decode cX4_about 70 = .ok (.aload_n 0, 1) := by decide +kernel
theorem dX4_about_71 : decode cX4_about 71 = .ok (.getfield 10, 3) := by decide +kernel
theorem dX4_about_74 : decode cX4_about 74 = .ok (.getfield 144, 3) := by decide +kernel
theorem dX4_about_77 : decode cX4_about 77 = .ok (.iload_n 1, 1) := by decide +kernel
theorem dX4_about_78 : decode cX4_about 78 = .ok (.iaload, 1) := by decide +kernel
theorem dX4_about_79 : decode cX4_about 79 = .ok (.ireturn, 1) := by decide +kernel
theorem dX4_about_80 : decode cX4_about 80 = .ok (.aload_n 0, 1) := by decide +kernel
theorem dX4_about_81 : decode cX4_about 81 = .ok (.getfield 10, 3) := by decide +kernel
theorem dX4_about_84 : decode cX4_about 84 = .ok (.getfield 147, 3) := by decide +kernel
theorem dX4_about_87 : decode cX4_about 87 = .ok (.iload_n 1, 1) := by decide +kernel
theorem dX4_about_88 : decode cX4_about 88 = .ok (.iaload, 1) := by decide +kernel
theorem dX4_about_89 : decode cX4_about 89 = .ok (.ireturn, 1) := by decide +kernel
theorem dX4_about_90 : decode cX4_about 90 = .ok (.aload_n 0, 1) := by decide +kernel
theorem dX4_about_91 : decode cX4_about 91 = .ok (.getfield 10, 3) := by decide +kernel
theorem dX4_about_94 : decode cX4_about 94 = .ok (.getfield 150, 3) := by decide +kernel
theorem dX4_about_97 : decode cX4_about 97 = .ok (.iload_n 1, 1) := by decide +kernel
theorem dX4_about_98 : decode cX4_about 98 = .ok (.iaload, 1) := by decide +kernel
theorem dX4_about_99 : decode cX4_about 99 = .ok (.ireturn, 1) := by decide +kernel
theorem dX4_about_100 : decode cX4_about 100 = .ok (.aload_n 0, 1) := by decide +kernel
theorem dX4_about_101 : decode cX4_about 101 = .ok (.getfield 10, 3) := by decide +kernel
theorem dX4_about_104 : decode cX4_about 104 = .ok (.iload_n 1, 1) := by decide +kernel
theorem dX4_about_105 : decode cX4_about 105 = .ok (.invokevirtual 153, 3) := by decide +kernel
theorem dX4_about_108 : decode cX4_about 108 = .ok (.ifCond .eq 7, 3) := by decide +kernel
theorem dX4_about_111 : decode cX4_about 111 = .ok (.iconst 1, 1) := by decide +kernel
theorem dX4_about_112 : decode cX4_about 112 = .ok (.goto 4, 3) := by decide +kernel
theorem dX4_about_115 : decode cX4_about 115 = .ok (.iconst 0, 1) := by decide +kernel
theorem dX4_about_116 : decode cX4_about 116 = .ok (.ireturn, 1) := by decide +kernel
theorem dX4_about_117 : decode cX4_about 117 = .ok (.aload_n 0, 1) := by decide +kernel
theorem dX4_about_118 : decode cX4_about 118 = .ok (.getfield 10, 3) := by decide +kernel
theorem dX4_about_121 : decode cX4_about 121 = .ok (.getfield 141, 3) := by decide +kernel
theorem dX4_about_124 : decode cX4_about 124 = .ok (.iload_n 1, 1) := by decide +kernel
theorem dX4_about_125 : decode cX4_about 125 = .ok (.iaload, 1) := by decide +kernel
theorem dX4_about_126 : decode cX4_about 126 = .ok (.aload_n 0, 1) := by decide +kernel
theorem dX4_about_127 : decode cX4_about 127 = .ok (.getfield 10, 3) := by decide +kernel
theorem dX4_about_130 : decode cX4_about 130 = .ok (.getfield 144, 3) := by decide +kernel
theorem dX4_about_133 : decode cX4_about 133 = .ok (.iload_n 1, 1) := by decide +kernel
theorem dX4_about_134 : decode cX4_about 134 = .ok (.iaload, 1) := by decide +kernel
theorem dX4_about_135 : decode cX4_about 135 = .ok (.invokestatic 156, 3) := by decide +kernel
theorem dX4_about_138 : decode cX4_about 138 = .ok (.ireturn, 1) := by decide +kernel
theorem dX4_about_139 : decode cX4_about 139 = .ok (.aload_n 0, 1) := by decide +kernel
theorem dX4_about_140 : decode cX4_about 140 = .ok (.getfield 10, 3) := by decide +kernel
theorem dX4_about_143 : decode cX4_about 143 = .ok (.getfield 141, 3) := by decide +kernel
theorem dX4_about_146 : decode cX4_about 146 = .ok (.iload_n 1, 1) := by decide +kernel
theorem dX4_about_147 : decode cX4_about 147 = .ok (.iaload, 1) := by decide +kernel
theorem dX4_about_148 : decode cX4_about 148 = .ok (.invokestatic 161, 3) := by decide +kernel
theorem dX4_about_151 : decode cX4_about 151 = .ok (.ireturn, 1) := by decide +kernel
theorem dX4_about_152 : decode cX4_about 152 = .ok (.aload_n 0, 1) := by decide +kernel
theorem dX4_about_153 : decode cX4_about 153 = .ok (.bipush (-2), 2) := by decide +kernel
theorem dX4_about_155 : decode cX4_about 155 = .ok (.invokevirtual 57, 3) := by decide +kernel
theorem dX4_about_158 : decode cX4_about 158 = .ok (.ireturn, 1) := by decide +kernel
theorem dX4_bitten_0 : decode cX4_bitten 0 = .ok (.aload_n 0, 1) := by decide +kernel
theorem dX4_bitten_1 : decode cX4_bitten 1 = .ok (.getfield 10, 3) := by decide +kernel
theorem dX4_bitten_4 : decode cX4_bitten 4 = .ok (.iload_n 1, 1) := by decide +kernel
theorem dX4_bitten_5 : decode cX4_bitten 5 = .ok (.invokevirtual 94, 3) := by decide +kernel
theorem dX4_bitten_8 : decode cX4_bitten 8 = .ok (.ifCond .eq 12, 3) := by decide +kernel
theorem dX4_bitten_11 : decode cX4_bitten 11 = .ok (.iload_n 2, 1) := by decide +kernel
theorem dX4_bitten_12 : decode cX4_bitten 12 = .ok (.iconst 0, 1) := by decide +kernel
theorem dX4_bitten_13 : decode cX4_bitten 13 = .ok (.iconst 1, 1) := by decide +kernel
theorem dX4_bitten_14 : decode cX4_bitten 14 = .ok (.invokestatic 53, 3) := by decide +kernel
theorem dX4_bitten_17 : decode cX4_bitten 17 = .ok (.ifCond .ne 10, 3) := by decide +kernel
theorem dX4_bitten_20 : decode cX4_bitten 20 = .ok (.aload_n 0, 1) := by decide +kernel
theorem dX4_bitten_21 : decode cX4_bitten 21 = .ok (.bipush (-2), 2) := by decide +kernel
theorem dX4_bitten_23 : decode cX4_bitten 23 = .ok (.invokevirtual 57, 3) := by decide +kernel
theorem dX4_bitten_26 : decode cX4_bitten 26 = .ok (.ireturn, 1) := by decide +kernel
theorem dX4_bitten_27 : decode cX4_bitten 27 = .ok (.aload_n 0, 1) := by decide +kernel
theorem dX4_bitten_28 : decode cX4_bitten 28 = .ok (.getfield 10, 3) := by decide +kernel
theorem dX4_bitten_31 : decode cX4_bitten 31 = .ok (.aload_n 0, 1) := by decide +kernel
theorem dX4_bitten_32 : decode cX4_bitten 32 = .ok (.getfield 10, 3) := by decide +kernel
theorem dX4_bitten_35 : decode cX4_bitten 35 = .ok (.getfield 115, 3) := by decide +kernel
theorem dX4_bitten_38 : decode cX4_bitten 38 = .ok (.invokevirtual 164, 3) := by decide +kernel
theorem dX4_bitten_41 : decode cX4_bitten 41 = .ok (.istore_n 3, 1) := by decide +kernel
theorem dX4_bitten_42 : decode cX4_bitten 42 = .ok (.iload_n 2, 1) := by decide +kernel
theorem dX4_bitten_43 : decode cX4_bitten 43 = .ok (.ifCond .ne 22, 3) := by decide +kernel
theorem dX4_bitten_46 : decode cX4_bitten 46 = .ok (.aload_n 0, 1) := by decide +kernel
theorem dX4_bitten_47 : decode cX4_bitten 47 = .ok (.getfield 10, 3) := by decide +kernel
theorem dX4_bitten_50 : decode cX4_bitten 50 = .ok (.iload_n 1, 1) := by decide +kernel
theorem dX4_bitten_51 : decode cX4_bitten 51 = .ok (.iload_n 3, 1) := by decide +kernel
theorem dX4_bitten_52 : decode cX4_bitten 52 = .ok (.aload_n 0, 1) := by decide +kernel
theorem dX4_bitten_53 : decode cX4_bitten 53 = .ok (.getfield 10, 3) := by decide +kernel
theorem dX4_bitten_56 : decode cX4_bitten 56 = .ok (.getfield 121, 3) := by decide +kernel
theorem dX4_bitten_59 : decode cX4_bitten 59 = .ok (.invokevirtual 167, 3) := by decide +kernel
theorem dX4_bitten_62 : decode cX4_bitten 62 = .ok (.goto 19, 3) := by decide +kernel
theorem dX4_bitten_65 : decode cX4_bitten 65 = .ok (.aload_n 0, 1) := by decide +kernel
theorem dX4_bitten_66 : decode cX4_bitten 66 = .ok (.getfield 10, 3) := by decide +kernel
theorem dX4_bitten_69 : decode cX4_bitten 69 = .ok (.iload_n 1, 1) := by decide +kernel
theorem dX4_bitten_70 : decode cX4_bitten 70 = .ok (.iload_n 3, 1) := by decide +kernel
theorem dX4_bitten_71 : decode cX4_bitten 71 = .ok (.aload_n 0, 1) := by decide +kernel
theorem dX4_bitten_72 : decode cX4_bitten 72 = .ok (.getfield 10, 3) := by decide +kernel
theorem dX4_bitten_75 : decode cX4_bitten 75 = .ok (.getfield 121, 3) := by decide +kernel
theorem dX4_bitten_78 : decode cX4_bitten 78 = .ok (.invokevirtual 171, 3) := by decide +kernel
theorem dX4_bitten_81 : decode cX4_bitten 81 = .ok (.ireturn, 1) := by decide +kernel
theorem dX4_then_0 : decode cX4_then 0 = .ok (.aload_n 0, 1) := by decide +kernel
theorem dX4_then_1 : decode cX4_then 1 = .ok (.getfield 10, 3) := by decide +kernel
theorem dX4_then_4 : decode cX4_then 4 = .ok (.iload_n 1, 1) := by decide +kernel
theorem dX4_then_5 : decode cX4_then 5 = .ok (.invokevirtual 94, 3) := by decide +kernel
theorem dX4_then_8 : decode cX4_then 8 = .ok (.ifCond .eq 13, 3) := by decide +kernel
theorem dX4_then_11 : decode cX4_then 11 = .ok (.iload_n 2, 1) := by decide +kernel
theorem dX4_then_12 : decode cX4_then 12 = .ok (.iconst 0, 1) := by decide +kernel
theorem dX4_then_13 : decode cX4_then 13 = .ok (.bipush 30, 2) := by decide +kernel
theorem dX4_then_15 : decode cX4_then 15 = .ok (.invokestatic 53, 3) := by decide +kernel
theorem dX4_then_18 : decode cX4_then 18 = .ok (.ifCond .ne 10, 3) := by decide +kernel
theorem dX4_then_21 : decode cX4_then 21 = .ok (.aload_n 0, 1) := by decide +kernel
theorem dX4_then_22 : decode cX4_then 22 = .ok (.bipush (-2), 2) := by decide +kernel
theorem dX4_then_24 : decode cX4_then 24 = .ok (.invokevirtual 57, 3) := by decide +kernel
theorem dX4_then_27 : decode cX4_then 27 = .ok (.ireturn, 1) := by decide +kernel
theorem dX4_then_28 : decode cX4_then 28 = .ok (.aload_n 0, 1) := by decide +kernel
theorem dX4_then_29 : decode cX4_then 29 = .ok (.iload_n 2, 1) := by decide +kernel
theorem dX4_then_30 : decode cX4_then 30 = .ok (.invokevirtual 174, 3) := by decide +kernel
theorem dX4_then_33 : decode cX4_then 33 = .ok (.aload_n 0, 1) := by decide +kernel
theorem dX4_then_34 : decode cX4_then 34 = .ok (.getfield 37, 3) := by decide +kernel
theorem dX4_then_37 : decode cX4_then 37 = .ok (.iload_n 1, 1) := by decide +kernel
theorem dX4_then_38 : decode cX4_then 38 = .ok (.iaload, 1) := by decide +kernel
theorem dX4_then_39 : decode cX4_then 39 = .ok (.ireturn, 1) := by decide +kernel
theorem dX4_won_0 : decode cX4_won 0 = .ok (.iload_n 1, 1) := by decide +kernel
theorem dX4_won_1 : decode cX4_won 1 = .ok (.iconst 0, 1) := by decide +kernel
theorem dX4_won_2 : decode cX4_won 2 = .ok (.bipush 30, 2) := by decide +kernel
theorem dX4_won_4 : decode cX4_won 4 = .ok (.invokestatic 53, 3) := by decide +kernel
theorem dX4_won_7 : decode cX4_won 7 = .ok (.ifCond .eq 12, 3) := by decide +kernel
theorem dX4_won_10 : decode cX4_won 10 = .ok (.iload_n 2, 1) := by decide +kernel
theorem dX4_won_11 : decode cX4_won 11 = .ok (.iconst 0, 1) := by decide +kernel
theorem dX4_won_12 : decode cX4_won 12 = .ok (.iconst 1, 1) := by decide +kernel
theorem dX4_won_13 : decode cX4_won 13 = .ok (.invokestatic 53, 3) := by decide +kernel
theorem dX4_won_16 : decode cX4_won 16 = .ok (.ifCond .ne 10, 3) := by decide +kernel
theorem dX4_won_19 : decode cX4_won 19 = .ok (.aload_n 0, 1) := by decide +kernel
theorem dX4_won_20 : decode cX4_won 20 = .ok (.bipush (-2), 2) := by decide +kernel
theorem dX4_won_22 : decode cX4_won 22 = .ok (.invokevirtual 57, 3) := by decide +kernel
theorem dX4_won_25 : decode cX4_won 25 = .ok (.ireturn, 1) := by decide +kernel
theorem dX4_won_26 : decode cX4_won 26 = .ok (.aload_n 0, 1) := by decide +kernel
theorem dX4_won_27 : decode cX4_won 27 = .ok (.iload_n 1, 1) := by decide +kernel
theorem dX4_won_28 : decode cX4_won 28 = .ok (.invokevirtual 174, 3) := by decide +kernel
theorem dX4_won_31 : decode cX4_won 31 = .ok (.iload_n 2, 1) := by decide +kernel
theorem dX4_won_32 : decode cX4_won 32 = .ok (.ifCond .ne 20, 3) := by decide +kernel
theorem dX4_won_35 : decode cX4_won 35 = .ok (.aload_n 0, 1) := by decide +kernel
theorem dX4_won_36 : decode cX4_won 36 = .ok (.getfield 37, 3) := by decide +kernel
theorem dX4_won_39 : decode cX4_won 39 = .ok (.aload_n 0, 1) := by decide +kernel
theorem dX4_won_40 : decode cX4_won 40 = .ok (.getfield 10, 3) := by decide +kernel
theorem dX4_won_43 : decode cX4_won 43 = .ok (.getfield 61, 3) := by decide +kernel
theorem dX4_won_46 : decode cX4_won 46 = .ok (.invokestatic 128, 3) := by decide +kernel
theorem dX4_won_49 : decode cX4_won 49 = .ok (.goto 17, 3) := by decide +kernel
theorem dX4_won_52 : decode cX4_won 52 = .ok (.aload_n 0, 1) := by decide +kernel
theorem dX4_won_53 : decode cX4_won 53 = .ok (.getfield 37, 3) := by decide +kernel
theorem dX4_won_56 : decode cX4_won 56 = .ok (.aload_n 0, 1) := by decide +kernel
theorem dX4_won_57 : decode cX4_won 57 = .ok (.getfield 10, 3) := by decide +kernel
theorem dX4_won_60 : decode cX4_won 60 = .ok (.getfield 61, 3) := by decide +kernel
theorem dX4_won_63 : decode cX4_won 63 = .ok (.invokestatic 178, 3) := by decide +kernel
theorem dX4_won_66 : decode cX4_won 66 = .ok (.ireturn, 1) := by decide +kernel
theorem dX4_letters_0 : decode cX4_letters 0 = .ok (.aload_n 0, 1) := by decide +kernel
theorem dX4_letters_1 : decode cX4_letters 1 = .ok (.iconst 1, 1) := by decide +kernel
theorem dX4_letters_2 : decode cX4_letters 2 = .ok (.invokevirtual 174, 3) := by decide +kernel
theorem dX4_letters_5 : decode cX4_letters 5 = .ok (.aload_n 0, 1) := by decide +kernel
theorem dX4_letters_6 : decode cX4_letters 6 = .ok (.getfield 37, 3) := by decide +kernel
theorem dX4_letters_9 : decode cX4_letters 9 = .ok (.aload_n 0, 1) := by decide +kernel
theorem dX4_letters_10 : decode cX4_letters 10 = .ok (.getfield 10, 3) := by decide +kernel
theorem dX4_letters_13 : decode cX4_letters 13 = .ok (.getfield 61, 3) := by decide +kernel
theorem dX4_letters_16 : decode cX4_letters 16 = .ok (.invokestatic 128, 3) := by decide +kernel
theorem dX4_letters_19 : decode cX4_letters 19 = .ok (.istore_n 1, 1) := by decide +kernel
theorem dX4_letters_20 : decode cX4_letters 20 = .ok (.iconst 0, 1) := by decide +kernel
theorem dX4_letters_21 : decode cX4_letters 21 = .ok (.istore_n 2, 1) := by decide +kernel
theorem dX4_letters_22 : decode cX4_letters 22 = .ok (.iconst 0, 1) := by decide +kernel
theorem dX4_letters_23 : decode cX4_letters 23 = .ok (.istore_n 3, 1) := by decide +kernel
theorem dX4_letters_24 : decode cX4_letters 24 = .ok (.iload_n 3, 1) := by decide +kernel
theorem dX4_letters_25 : decode cX4_letters 25 = .ok (.aload_n 0, 1) := by decide +kernel
theorem dX4_letters_26 : decode cX4_letters 26 = .ok (.getfield 10, 3) := by decide +kernel
theorem dX4_letters_29 : decode cX4_letters 29 = .ok (.getfield 47, 3) := by decide +kernel
theorem dX4_letters_32 : decode cX4_letters 32 = .ok (.if_icmp .ge 28, 3) := by decide +kernel
theorem dX4_letters_35 : decode cX4_letters 35 = .ok (.aload_n 0, 1) := by decide +kernel
theorem dX4_letters_36 : decode cX4_letters 36 = .ok (.getfield 10, 3) := by decide +kernel
theorem dX4_letters_39 : decode cX4_letters 39 = .ok (.getfield 150, 3) := by decide +kernel
theorem dX4_letters_42 : decode cX4_letters 42 = .ok (.iload_n 3, 1) := by decide +kernel
theorem dX4_letters_43 : decode cX4_letters 43 = .ok (.iaload, 1) := by decide +kernel
theorem dX4_letters_44 : decode cX4_letters 44 = .ok (.iload_n 1, 1) := by decide +kernel
theorem dX4_letters_45 : decode cX4_letters 45 = .ok (.if_icmp .eq 9, 3) := by decide +kernel
theorem dX4_letters_48 : decode cX4_letters 48 = .ok (.iload_n 2, 1) := by decide +kernel
theorem dX4_letters_49 : decode cX4_letters 49 = .ok (.iconst 1, 1) := by decide +kernel
theorem dX4_letters_50 : decode cX4_letters 50 = .ok (.iload_n 3, 1) := by decide +kernel
theorem dX4_letters_51 : decode cX4_letters 51 = .ok (.ishl, 1) := by decide +kernel
theorem dX4_letters_52 : decode cX4_letters 52 = .ok (.ior, 1) := by decide +kernel
theorem dX4_letters_53 : decode cX4_letters 53 = .ok (.istore_n 2, 1) := by decide +kernel
theorem dX4_letters_54 : decode cX4_letters 54 = .ok (.iinc 3 1, 3) := by decide +kernel
theorem dX4_letters_57 : decode cX4_letters 57 = .ok (.goto (-33), 3) := by decide +kernel
theorem dX4_letters_60 : decode cX4_letters 60 = .ok (.iload_n 2, 1) := by decide +kernel
theorem dX4_letters_61 : decode cX4_letters 61 = .ok (.ireturn, 1) := by decide +kernel
theorem dX4_bribes_0 : decode cX4_bribes 0 = .ok (.aload_n 0, 1) := by decide +kernel
theorem dX4_bribes_1 : decode cX4_bribes 1 = .ok (.getfield 10, 3) := by decide +kernel
theorem dX4_bribes_4 : decode cX4_bribes 4 = .ok (.iload_n 1, 1) := by decide +kernel
theorem dX4_bribes_5 : decode cX4_bribes 5 = .ok (.invokevirtual 94, 3) := by decide +kernel
theorem dX4_bribes_8 : decode cX4_bribes 8 = .ok (.ifCond .eq 12, 3) := by decide +kernel
theorem dX4_bribes_11 : decode cX4_bribes 11 = .ok (.iload_n 2, 1) := by decide +kernel
theorem dX4_bribes_12 : decode cX4_bribes 12 = .ok (.iconst 0, 1) := by decide +kernel
theorem dX4_bribes_13 : decode cX4_bribes 13 = .ok (.iconst 1, 1) := by decide +kernel
theorem dX4_bribes_14 : decode cX4_bribes 14 = .ok (.invokestatic 53, 3) := by decide +kernel
theorem dX4_bribes_17 : decode cX4_bribes 17 = .ok (.ifCond .ne 10, 3) := by decide +kernel
theorem dX4_bribes_20 : decode cX4_bribes 20 = .ok (.aload_n 0, 1) := by decide +kernel
theorem dX4_bribes_21 : decode cX4_bribes 21 = .ok (.bipush (-2), 2) := by decide +kernel
theorem dX4_bribes_23 : decode cX4_bribes 23 = .ok (.invokevirtual 57, 3) := by decide +kernel
theorem dX4_bribes_26 : decode cX4_bribes 26 = .ok (.ireturn, 1) := by decide +kernel
theorem dX4_bribes_27 : decode cX4_bribes 27 = .ok (.bipush 31, 2) := by decide +kernel
theorem dX4_bribes_29 : decode cX4_bribes 29 = .ok (.istore_n 3, 1) := by decide +kernel
theorem dX4_bribes_30 : decode cX4_bribes 30 = .ok (.iconst (-1), 1) := by decide +kernel
theorem dX4_bribes_31 : decode cX4_bribes 31 = .ok (.istore 4, 2) := by decide +kernel
theorem dX4_bribes_33 : decode cX4_bribes 33 = .ok (.aload_n 0, 1) := by decide +kernel
theorem dX4_bribes_34 : decode cX4_bribes 34 = .ok (.getfield 10, 3) := by decide +kernel
theorem dX4_bribes_37 : decode cX4_bribes 37 = .ok (.invokevirtual 181, 3) := by decide +kernel
theorem dX4_bribes_40 : decode cX4_bribes 40 = .ok (.istore 5, 2) := by decide +kernel
theorem dX4_bribes_42 : decode cX4_bribes 42 = .ok (.iconst 0, 1) := by decide +kernel
theorem dX4_bribes_43 : decode cX4_bribes 43 = .ok (.istore 6, 2) := by decide +kernel
theorem dX4_bribes_45 : decode cX4_bribes 45 = .ok (.iload 6, 2) := by decide +kernel
theorem dX4_bribes_47 : decode cX4_bribes 47 = .ok (.iload 5, 2) := by decide +kernel
theorem dX4_bribes_49 : decode cX4_bribes 49 = .ok (.if_icmp .gt 73, 3) := by decide +kernel
theorem dX4_bribes_52 : decode cX4_bribes 52 = .ok (.iload 6, 2) := by decide +kernel
theorem dX4_bribes_54 : decode cX4_bribes 54 = .ok (.aload_n 0, 1) := by decide +kernel
theorem dX4_bribes_55 : decode cX4_bribes 55 = .ok (.getfield 10, 3) := by decide +kernel
theorem dX4_bribes_58 : decode cX4_bribes 58 = .ok (.getfield 121, 3) := by decide +kernel
theorem dX4_bribes_61 : decode cX4_bribes 61 = .ok (.iand, 1) := by decide +kernel
theorem dX4_bribes_62 : decode cX4_bribes 62 = .ok (.ifCond .eq 6, 3) := by decide +kernel
theorem dX4_bribes_65 : decode cX4_bribes 65 = .ok (.goto 51, 3) := by decide +kernel
theorem dX4_bribes_68 : decode cX4_bribes 68 = .ok (.aload_n 0, 1) := by decide +kernel
theorem dX4_bribes_69 : decode cX4_bribes 69 = .ok (.getfield 10, 3) := by decide +kernel
theorem dX4_bribes_72 : decode cX4_bribes 72 = .ok (.iload 6, 2) := by decide +kernel
theorem dX4_bribes_74 : decode cX4_bribes 74 = .ok (.invokevirtual 184, 3) := by decide +kernel
theorem dX4_bribes_77 : decode cX4_bribes 77 = .ok (.istore 7, 2) := by decide +kernel
theorem dX4_bribes_79 : decode cX4_bribes 79 = .ok (.iload 7, 2) := by decide +kernel
theorem dX4_bribes_81 : decode cX4_bribes 81 = .ok (.aload_n 0, 1) := by decide +kernel
theorem dX4_bribes_82 : decode cX4_bribes 82 = .ok (.getfield 10, 3) := by decide +kernel
theorem dX4_bribes_85 : decode cX4_bribes 85 = .ok (.getfield 112, 3) := by decide +kernel
theorem dX4_bribes_88 : decode cX4_bribes 88 = .ok (.iload_n 1, 1) := by decide +kernel
theorem dX4_bribes_89 : decode cX4_bribes 89 = .ok (.iaload, 1) := by decide +kernel
theorem dX4_bribes_90 : decode cX4_bribes 90 = .ok (.if_icmp .gt 26, 3) := by decide +kernel
theorem dX4_bribes_93 : decode cX4_bribes 93 = .ok (.iload 7, 2) := by decide +kernel
theorem dX4_bribes_95 : decode cX4_bribes 95 = .ok (.iload_n 3, 1) := by decide +kernel
theorem dX4_bribes_96 : decode cX4_bribes 96 = .ok (.if_icmp .ge 20, 3) := by decide +kernel
theorem dX4_bribes_99 : decode cX4_bribes 99 = .ok (.aload_n 0, 1) := by decide +kernel
theorem dX4_bribes_100 : decode cX4_bribes 100 = .ok (.iload_n 1, 1) := by decide +kernel
theorem dX4_bribes_101 : decode cX4_bribes 101 = .ok (.iload 6, 2) := by decide +kernel
theorem dX4_bribes_103 : decode cX4_bribes 103 = .ok (.invokevirtual 187, 3) := by decide +kernel
theorem dX4_bribes_106 : decode cX4_bribes 106 = .ok (.ifCond .eq 10, 3) := by decide +kernel
theorem dX4_bribes_109 : decode cX4_bribes 109 = .ok (.iload 7, 2) := by decide +kernel
theorem dX4_bribes_111 : decode cX4_bribes 111 = .ok (.istore_n 3, 1) := by decide +kernel
theorem dX4_bribes_112 : decode cX4_bribes 112 = .ok (.iload 6, 2) := by decide +kernel
theorem dX4_bribes_114 : decode cX4_bribes 114 = .ok (.istore 4, 2) := by decide +kernel
theorem dX4_bribes_116 : decode cX4_bribes 116 = .ok (.iinc 6 1, 3) := by decide +kernel
theorem dX4_bribes_119 : decode cX4_bribes 119 = .ok (.goto (-74), 3) := by decide +kernel
theorem dX4_bribes_122 : decode cX4_bribes 122 = .ok (.iload 4, 2) := by decide +kernel
theorem dX4_bribes_124 : decode cX4_bribes 124 = .ok (.iconst (-1), 1) := by decide +kernel
theorem dX4_bribes_125 : decode cX4_bribes 125 = .ok (.if_icmp .ne 5, 3) := by decide +kernel
theorem dX4_bribes_128 : decode cX4_bribes 128 = .ok (.iconst (-1), 1) := by decide +kernel
theorem dX4_bribes_129 : decode cX4_bribes 129 = .ok (.ireturn, 1) := by decide +kernel
theorem dX4_bribes_130 : decode cX4_bribes 130 = .ok (.iload_n 2, 1) := by decide +kernel
theorem dX4_bribes_131 : decode cX4_bribes 131 = .ok (.ifCond .ne 7, 3) := by decide +kernel
theorem dX4_bribes_134 : decode cX4_bribes 134 = .ok (.iload_n 3, 1) := by decide +kernel
theorem dX4_bribes_135 : decode cX4_bribes 135 = .ok (.goto 5, 3) := by decide +kernel
theorem dX4_bribes_138 : decode cX4_bribes 138 = .ok (.iload 4, 2) := by decide +kernel
theorem dX4_bribes_140 : decode cX4_bribes 140 = .ok (.ireturn, 1) := by decide +kernel
theorem dX4_still_0 : decode cX4_still 0 = .ok (.aload_n 0, 1) := by decide +kernel
theorem dX4_still_1 : decode cX4_still 1 = .ok (.getfield 10, 3) := by decide +kernel
theorem dX4_still_4 : decode cX4_still 4 = .ok (.iload_n 1, 1) := by decide +kernel
theorem dX4_still_5 : decode cX4_still 5 = .ok (.invokevirtual 94, 3) := by decide +kernel
theorem dX4_still_8 : decode cX4_still 8 = .ok (.ifCond .ne 10, 3) := by decide +kernel
theorem dX4_still_11 : decode cX4_still 11 = .ok (.aload_n 0, 1) := by decide +kernel
theorem dX4_still_12 : decode cX4_still 12 = .ok (.bipush (-2), 2) := by decide +kernel
theorem dX4_still_14 : decode cX4_still 14 = .ok (.invokevirtual 57, 3) := by decide +kernel
theorem dX4_still_17 : decode cX4_still 17 = .ok (.ireturn, 1) := by decide +kernel
theorem dX4_still_18 : decode cX4_still 18 = .ok (.aload_n 0, 1) := by decide +kernel
theorem dX4_still_19 : decode cX4_still 19 = .ok (.iconst 0, 1) := by decide +kernel
theorem dX4_still_20 : decode cX4_still 20 = .ok (.invokevirtual 174, 3) := by decide +kernel
theorem dX4_still_23 : decode cX4_still 23 = .ok (.iconst 1, 1) := by decide +kernel
theorem dX4_still_24 : decode cX4_still 24 = .ok (.istore_n 2, 1) := by decide +kernel
theorem dX4_still_25 : decode cX4_still 25 = .ok (.iload_n 2, 1) := by decide +kernel
theorem dX4_still_26 : decode cX4_still 26 = .ok (.bipush 30, 2) := by decide +kernel
theorem dX4_still_28 : decode cX4_still 28 = .ok (.if_icmp .gt 67, 3) := by decide +kernel
theorem dX4_still_31 : decode cX4_still 31 = .ok (.aload_n 0, 1) := by decide +kernel
theorem dX4_still_32 : decode cX4_still 32 = .ok (.getfield 10, 3) := by decide +kernel
theorem dX4_still_35 : decode cX4_still 35 = .ok (.aload_n 0, 1) := by decide +kernel
theorem dX4_still_36 : decode cX4_still 36 = .ok (.getfield 37, 3) := by decide +kernel
theorem dX4_still_39 : decode cX4_still 39 = .ok (.aload_n 0, 1) := by decide +kernel
theorem dX4_still_40 : decode cX4_still 40 = .ok (.getfield 10, 3) := by decide +kernel
theorem dX4_still_43 : decode cX4_still 43 = .ok (.getfield 115, 3) := by decide +kernel
theorem dX4_still_46 : decode cX4_still 46 = .ok (.iload_n 2, 1) := by decide +kernel
theorem dX4_still_47 : decode cX4_still 47 = .ok (.iadd, 1) := by decide +kernel
theorem dX4_still_48 : decode cX4_still 48 = .ok (.iconst 1, 1) := by decide +kernel
theorem dX4_still_49 : decode cX4_still 49 = .ok (.isub, 1) := by decide +kernel
theorem dX4_still_50 : decode cX4_still 50 = .ok (.iload_n 2, 1) := by decide +kernel
theorem dX4_still_51 : decode cX4_still 51 = .ok (.iconst 1, 1) := by decide +kernel
theorem dX4_still_52 : decode cX4_still 52 = .ok (.if_icmp .ne 13, 3) := by decide +kernel
theorem dX4_still_55 : decode cX4_still 55 = .ok (.aload_n 0, 1) := by decide +kernel
theorem dX4_still_56 : decode cX4_still 56 = .ok (.getfield 10, 3) := by decide +kernel
theorem dX4_still_59 : decode cX4_still 59 = .ok (.getfield 121, 3) := by decide +kernel
theorem dX4_still_62 : decode cX4_still 62 = .ok (.goto 4, 3) := by decide +kernel
theorem dX4_still_65 : decode cX4_still 65 = .ok (.iconst 0, 1) := by decide +kernel
theorem dX4_still_66 : decode cX4_still 66 = .ok (.invokevirtual 124, 3) := by decide +kernel
theorem dX4_still_69 : decode cX4_still 69 = .ok (.aload_n 0, 1) := by decide +kernel
theorem dX4_still_70 : decode cX4_still 70 = .ok (.getfield 37, 3) := by decide +kernel
theorem dX4_still_73 : decode cX4_still 73 = .ok (.aload_n 0, 1) := by decide +kernel
theorem dX4_still_74 : decode cX4_still 74 = .ok (.getfield 10, 3) := by decide +kernel
theorem dX4_still_77 : decode cX4_still 77 = .ok (.getfield 61, 3) := by decide +kernel
theorem dX4_still_80 : decode cX4_still 80 = .ok (.invokestatic 128, 3) := by decide +kernel
theorem dX4_still_83 : decode cX4_still 83 = .ok (.iload_n 1, 1) := by decide +kernel
theorem dX4_still_84 : decode cX4_still 84 = .ok (.if_icmp .ne 5, 3) := by decide +kernel
theorem dX4_still_87 : decode cX4_still 87 = .ok (.iload_n 2, 1) := by decide +kernel
theorem dX4_still_88 : decode cX4_still 88 = .ok (.ireturn, 1) := by decide +kernel
theorem dX4_still_89 : decode cX4_still 89 = .ok (.iinc 2 1, 3) := by decide +kernel
theorem dX4_still_92 : decode cX4_still 92 = .ok (.goto (-67), 3) := by decide +kernel
theorem dX4_still_95 : decode cX4_still 95 = .ok (.iconst (-1), 1) := by decide +kernel
theorem dX4_still_96 : decode cX4_still 96 = .ok (.ireturn, 1) := by decide +kernel
theorem dX4_first_0 : decode cX4_first 0 = .ok (.aload_n 0, 1) := by decide +kernel
theorem dX4_first_1 : decode cX4_first 1 = .ok (.getfield 10, 3) := by decide +kernel
theorem dX4_first_4 : decode cX4_first 4 = .ok (.iload_n 1, 1) := by decide +kernel
theorem dX4_first_5 : decode cX4_first 5 = .ok (.invokevirtual 94, 3) := by decide +kernel
theorem dX4_first_8 : decode cX4_first 8 = .ok (.ifCond .eq 12, 3) := by decide +kernel
theorem dX4_first_11 : decode cX4_first 11 = .ok (.iload_n 2, 1) := by decide +kernel
theorem dX4_first_12 : decode cX4_first 12 = .ok (.iconst 0, 1) := by decide +kernel
theorem dX4_first_13 : decode cX4_first 13 = .ok (.iconst 1, 1) := by decide +kernel
theorem dX4_first_14 : decode cX4_first 14 = .ok (.invokestatic 53, 3) := by decide +kernel
theorem dX4_first_17 : decode cX4_first 17 = .ok (.ifCond .ne 10, 3) := by decide +kernel
theorem dX4_first_20 : decode cX4_first 20 = .ok (.aload_n 0, 1) := by decide +kernel
theorem dX4_first_21 : decode cX4_first 21 = .ok (.bipush (-2), 2) := by decide +kernel
theorem dX4_first_23 : decode cX4_first 23 = .ok (.invokevirtual 57, 3) := by decide +kernel
theorem dX4_first_26 : decode cX4_first 26 = .ok (.ireturn, 1) := by decide +kernel
theorem dX4_first_27 : decode cX4_first 27 = .ok (.iconst 0, 1) := by decide +kernel
theorem dX4_first_28 : decode cX4_first 28 = .ok (.istore_n 3, 1) := by decide +kernel
theorem dX4_first_29 : decode cX4_first 29 = .ok (.aload_n 0, 1) := by decide +kernel
theorem dX4_first_30 : decode cX4_first 30 = .ok (.getfield 10, 3) := by decide +kernel
theorem dX4_first_33 : decode cX4_first 33 = .ok (.iload_n 1, 1) := by decide +kernel
theorem dX4_first_34 : decode cX4_first 34 = .ok (.iconst 0, 1) := by decide +kernel
theorem dX4_first_35 : decode cX4_first 35 = .ok (.aload_n 0, 1) := by decide +kernel
theorem dX4_first_36 : decode cX4_first 36 = .ok (.getfield 10, 3) := by decide +kernel
theorem dX4_first_39 : decode cX4_first 39 = .ok (.getfield 121, 3) := by decide +kernel
theorem dX4_first_42 : decode cX4_first 42 = .ok (.invokevirtual 171, 3) := by decide +kernel
theorem dX4_first_45 : decode cX4_first 45 = .ok (.istore 4, 2) := by decide +kernel
theorem dX4_first_47 : decode cX4_first 47 = .ok (.iconst 1, 1) := by decide +kernel
theorem dX4_first_48 : decode cX4_first 48 = .ok (.istore 5, 2) := by decide +kernel
theorem dX4_first_50 : decode cX4_first 50 = .ok (.iload 5, 2) := by decide +kernel
theorem dX4_first_52 : decode cX4_first 52 = .ok (.aload_n 0, 1) := by decide +kernel
theorem dX4_first_53 : decode cX4_first 53 = .ok (.getfield 10, 3) := by decide +kernel
theorem dX4_first_56 : decode cX4_first 56 = .ok (.getfield 61, 3) := by decide +kernel
theorem dX4_first_59 : decode cX4_first 59 = .ok (.if_icmp .ge 42, 3) := by decide +kernel
theorem dX4_first_62 : decode cX4_first 62 = .ok (.aload_n 0, 1) := by decide +kernel
theorem dX4_first_63 : decode cX4_first 63 = .ok (.getfield 10, 3) := by decide +kernel
theorem dX4_first_66 : decode cX4_first 66 = .ok (.iload_n 1, 1) := by decide +kernel
theorem dX4_first_67 : decode cX4_first 67 = .ok (.iload 5, 2) := by decide +kernel
theorem dX4_first_69 : decode cX4_first 69 = .ok (.aload_n 0, 1) := by decide +kernel
theorem dX4_first_70 : decode cX4_first 70 = .ok (.getfield 10, 3) := by decide +kernel
theorem dX4_first_73 : decode cX4_first 73 = .ok (.getfield 121, 3) := by decide +kernel
theorem dX4_first_76 : decode cX4_first 76 = .ok (.invokevirtual 171, 3) := by decide +kernel
theorem dX4_first_79 : decode cX4_first 79 = .ok (.istore 6, 2) := by decide +kernel
theorem dX4_first_81 : decode cX4_first 81 = .ok (.iload 6, 2) := by decide +kernel
theorem dX4_first_83 : decode cX4_first 83 = .ok (.iload 4, 2) := by decide +kernel
theorem dX4_first_85 : decode cX4_first 85 = .ok (.if_icmp .ge 10, 3) := by decide +kernel
theorem dX4_first_88 : decode cX4_first 88 = .ok (.iload 6, 2) := by decide +kernel
theorem dX4_first_90 : decode cX4_first 90 = .ok (.istore 4, 2) := by decide +kernel
theorem dX4_first_92 : decode cX4_first 92 = .ok (.iload 5, 2) := by decide +kernel
theorem dX4_first_94 : decode cX4_first 94 = .ok (.istore_n 3, 1) := by decide +kernel
theorem dX4_first_95 : decode cX4_first 95 = .ok (.iinc 5 1, 3) := by decide +kernel
theorem dX4_first_98 : decode cX4_first 98 = .ok (.goto (-48), 3) := by decide +kernel
theorem dX4_first_101 : decode cX4_first 101 = .ok (.iload_n 2, 1) := by decide +kernel
theorem dX4_first_102 : decode cX4_first 102 = .ok (.ifCond .ne 7, 3) := by decide +kernel
theorem dX4_first_105 : decode cX4_first 105 = .ok (.iload_n 3, 1) := by decide +kernel
theorem dX4_first_106 : decode cX4_first 106 = .ok (.goto 5, 3) := by decide +kernel
theorem dX4_first_109 : decode cX4_first 109 = .ok (.iload 4, 2) := by decide +kernel
theorem dX4_first_111 : decode cX4_first 111 = .ok (.ireturn, 1) := by decide +kernel
theorem dX4_slept_0 : decode cX4_slept 0 = .ok (.iload_n 1, 1) := by decide +kernel
theorem dX4_slept_1 : decode cX4_slept 1 = .ok (.iconst 0, 1) := by decide +kernel
theorem dX4_slept_2 : decode cX4_slept 2 = .ok (.bipush 99, 2) := by decide +kernel
theorem dX4_slept_4 : decode cX4_slept 4 = .ok (.invokestatic 53, 3) := by decide +kernel
theorem dX4_slept_7 : decode cX4_slept 7 = .ok (.ifCond .eq 14, 3) := by decide +kernel
theorem dX4_slept_10 : decode cX4_slept 10 = .ok (.aload_n 0, 1) := by decide +kernel
theorem dX4_slept_11 : decode cX4_slept 11 = .ok (.getfield 10, 3) := by decide +kernel
theorem dX4_slept_14 : decode cX4_slept 14 = .ok (.iload_n 2, 1) := by decide +kernel
theorem dX4_slept_15 : decode cX4_slept 15 = .ok (.invokevirtual 94, 3) := by decide +kernel
theorem dX4_slept_18 : decode cX4_slept 18 = .ok (.ifCond .ne 10, 3) := by decide +kernel
theorem dX4_slept_21 : decode cX4_slept 21 = .ok (.aload_n 0, 1) := by decide +kernel
theorem dX4_slept_22 : decode cX4_slept 22 = .ok (.bipush (-2), 2) := by decide +kernel
theorem dX4_slept_24 : decode cX4_slept 24 = .ok (.invokevirtual 57, 3) := by decide +kernel
theorem dX4_slept_27 : decode cX4_slept 27 = .ok (.ireturn, 1) := by decide +kernel
theorem dX4_slept_28 : decode cX4_slept 28 = .ok (.iload_n 3, 1) := by decide +kernel
theorem dX4_slept_29 : decode cX4_slept 29 = .ok (.iconst 0, 1) := by decide +kernel
theorem dX4_slept_30 : decode cX4_slept 30 = .ok (.sipush 200, 3) := by decide +kernel
theorem dX4_slept_33 : decode cX4_slept 33 = .ok (.invokestatic 53, 3) := by decide +kernel
theorem dX4_slept_36 : decode cX4_slept 36 = .ok (.ifCond .eq 13, 3) := by decide +kernel
theorem dX4_slept_39 : decode cX4_slept 39 = .ok (.iload 4, 2) := by decide +kernel
theorem dX4_slept_41 : decode cX4_slept 41 = .ok (.iconst 0, 1) := by decide +kernel
theorem dX4_slept_42 : decode cX4_slept 42 = .ok (.iconst 2, 1) := by decide +kernel
theorem dX4_slept_43 : decode cX4_slept 43 = .ok (.invokestatic 53, 3) := by decide +kernel
theorem dX4_slept_46 : decode cX4_slept 46 = .ok (.ifCond .ne 10, 3) := by decide +kernel
theorem dX4_slept_49 : decode cX4_slept 49 = .ok (.aload_n 0, 1) := by decide +kernel
theorem dX4_slept_50 : decode cX4_slept 50 = .ok (.bipush (-2), 2) := by decide +kernel
theorem dX4_slept_52 : decode cX4_slept 52 = .ok (.invokevirtual 57, 3) := by decide +kernel
theorem dX4_slept_55 : decode cX4_slept 55 = .ok (.ireturn, 1) := by decide +kernel
theorem dX4_slept_56 : decode cX4_slept 56 = .ok (.aload_n 0, 1) := by decide +kernel
theorem dX4_slept_57 : decode cX4_slept 57 = .ok (.getfield 10, 3) := by decide +kernel
theorem dX4_slept_60 : decode cX4_slept 60 = .ok (.iload_n 1, 1) := by decide +kernel
theorem dX4_slept_61 : decode cX4_slept 61 = .ok (.invokevirtual 164, 3) := by decide +kernel
theorem dX4_slept_64 : decode cX4_slept 64 = .ok (.istore 5, 2) := by decide +kernel
theorem dX4_slept_66 : decode cX4_slept 66 = .ok (.iconst 0, 1) := by decide +kernel
theorem dX4_slept_67 : decode cX4_slept 67 = .ok (.istore 6, 2) := by decide +kernel
theorem dX4_slept_69 : decode cX4_slept 69 = .ok (.aload_n 0, 1) := by decide +kernel
theorem dX4_slept_70 : decode cX4_slept 70 = .ok (.getfield 10, 3) := by decide +kernel
theorem dX4_slept_73 : decode cX4_slept 73 = .ok (.invokevirtual 181, 3) := by decide +kernel
theorem dX4_slept_76 : decode cX4_slept 76 = .ok (.istore 7, 2) := by decide +kernel
theorem dX4_slept_78 : decode cX4_slept 78 = .ok (.iload 7, 2) := by decide +kernel
theorem dX4_slept_80 : decode cX4_slept 80 = .ok (.istore 8, 2) := by decide +kernel
theorem dX4_slept_82 : decode cX4_slept 82 = .ok (.iconst 0, 1) := by decide +kernel
theorem dX4_slept_83 : decode cX4_slept 83 = .ok (.istore 9, 2) := by decide +kernel
theorem dX4_slept_85 : decode cX4_slept 85 = .ok (.iconst 0, 1) := by decide +kernel
theorem dX4_slept_86 : decode cX4_slept 86 = .ok (.istore 10, 2) := by decide +kernel
theorem dX4_slept_88 : decode cX4_slept 88 = .ok (.iload 10, 2) := by decide +kernel
theorem dX4_slept_90 : decode cX4_slept 90 = .ok (.iload 7, 2) := by decide +kernel
theorem dX4_slept_92 : decode cX4_slept 92 = .ok (.if_icmp .gt 42, 3) := by decide +kernel
theorem dX4_slept_95 : decode cX4_slept 95 = .ok (.aload_n 0, 1) := by decide +kernel
theorem dX4_slept_96 : decode cX4_slept 96 = .ok (.getfield 10, 3) := by decide +kernel
theorem dX4_slept_99 : decode cX4_slept 99 = .ok (.iload_n 2, 1) := by decide +kernel
theorem dX4_slept_100 : decode cX4_slept 100 = .ok (.iload 5, 2) := by decide +kernel
theorem dX4_slept_102 : decode cX4_slept 102 = .ok (.iload 10, 2) := by decide +kernel
theorem dX4_slept_104 : decode cX4_slept 104 = .ok (.invokevirtual 171, 3) := by decide +kernel
theorem dX4_slept_107 : decode cX4_slept 107 = .ok (.iload_n 3, 1) := by decide +kernel
theorem dX4_slept_108 : decode cX4_slept 108 = .ok (.if_icmp .ne 20, 3) := by decide +kernel
theorem dX4_slept_111 : decode cX4_slept 111 = .ok (.iinc 6 1, 3) := by decide +kernel
theorem dX4_slept_114 : decode cX4_slept 114 = .ok (.iload 8, 2) := by decide +kernel
theorem dX4_slept_116 : decode cX4_slept 116 = .ok (.iload 10, 2) := by decide +kernel
theorem dX4_slept_118 : decode cX4_slept 118 = .ok (.iand, 1) := by decide +kernel
theorem dX4_slept_119 : decode cX4_slept 119 = .ok (.istore 8, 2) := by decide +kernel
theorem dX4_slept_121 : decode cX4_slept 121 = .ok (.iload 9, 2) := by decide +kernel
theorem dX4_slept_123 : decode cX4_slept 123 = .ok (.iload 10, 2) := by decide +kernel
theorem dX4_slept_125 : decode cX4_slept 125 = .ok (.ior, 1) := by decide +kernel
theorem dX4_slept_126 : decode cX4_slept 126 = .ok (.istore 9, 2) := by decide +kernel
theorem dX4_slept_128 : decode cX4_slept 128 = .ok (.iinc 10 1, 3) := by decide +kernel
theorem dX4_slept_131 : decode cX4_slept 131 = .ok (.goto (-43), 3) := by decide +kernel
theorem dX4_slept_134 : decode cX4_slept 134 = .ok (.iload 4, 2) := by decide +kernel
theorem dX4_slept_136 : decode cX4_slept 136 = .ok (.ifCond .ne 6, 3) := by decide +kernel
theorem dX4_slept_139 : decode cX4_slept 139 = .ok (.iload 6, 2) := by decide +kernel
theorem dX4_slept_141 : decode cX4_slept 141 = .ok (.ireturn, 1) := by decide +kernel
theorem dX4_slept_142 : decode cX4_slept 142 = .ok (.iload 4, 2) := by decide +kernel
theorem dX4_slept_144 : decode cX4_slept 144 = .ok (.iconst 1, 1) := by decide +kernel
theorem dX4_slept_145 : decode cX4_slept 145 = .ok (.if_icmp .ne 15, 3) := by decide +kernel
theorem dX4_slept_148 : decode cX4_slept 148 = .ok (.iload 6, 2) := by decide +kernel
theorem dX4_slept_150 : decode cX4_slept 150 = .ok (.ifCond .ne 7, 3) := by decide +kernel
theorem dX4_slept_153 : decode cX4_slept 153 = .ok (.iconst (-1), 1) := by decide +kernel
theorem dX4_slept_154 : decode cX4_slept 154 = .ok (.goto 5, 3) := by decide +kernel
theorem dX4_slept_157 : decode cX4_slept 157 = .ok (.iload 8, 2) := by decide +kernel
theorem dX4_slept_159 : decode cX4_slept 159 = .ok (.ireturn, 1) := by decide +kernel
theorem dX4_slept_160 : decode cX4_slept 160 = .ok (.iload 9, 2) := by decide +kernel
theorem dX4_slept_162 : decode cX4_slept 162 = .ok (.ireturn, 1) := by decide +kernel
theorem dX4_note_0 : decode cX4_note 0 = .ok (.aload_n 0, 1) := by decide +kernel
theorem dX4_note_1 : decode cX4_note 1 = .ok (.getfield 10, 3) := by decide +kernel
theorem dX4_note_4 : decode cX4_note 4 = .ok (.iload_n 1, 1) := by decide +kernel
theorem dX4_note_5 : decode cX4_note 5 = .ok (.invokevirtual 98, 3) := by decide +kernel
theorem dX4_note_8 : decode cX4_note 8 = .ok (.ifCond .eq 12, 3) := by decide +kernel
theorem dX4_note_11 : decode cX4_note 11 = .ok (.iload_n 2, 1) := by decide +kernel
theorem dX4_note_12 : decode cX4_note 12 = .ok (.iconst 0, 1) := by decide +kernel
theorem dX4_note_13 : decode cX4_note 13 = .ok (.iconst 1, 1) := by decide +kernel
theorem dX4_note_14 : decode cX4_note 14 = .ok (.invokestatic 53, 3) := by decide +kernel
theorem dX4_note_17 : decode cX4_note 17 = .ok (.ifCond .ne 10, 3) := by decide +kernel
theorem dX4_note_20 : decode cX4_note 20 = .ok (.aload_n 0, 1) := by decide +kernel
theorem dX4_note_21 : decode cX4_note 21 = .ok (.bipush (-2), 2) := by decide +kernel
theorem dX4_note_23 : decode cX4_note 23 = .ok (.invokevirtual 57, 3) := by decide +kernel
theorem dX4_note_26 : decode cX4_note 26 = .ok (.ireturn, 1) := by decide +kernel
theorem dX4_note_27 : decode cX4_note 27 = .ok (.iload_n 3, 1) := by decide +kernel
theorem dX4_note_28 : decode cX4_note 28 = .ok (.iconst 0, 1) := by decide +kernel
theorem dX4_note_29 : decode cX4_note 29 = .ok (.bipush 9, 2) := by decide +kernel
theorem dX4_note_31 : decode cX4_note 31 = .ok (.invokestatic 53, 3) := by decide +kernel
theorem dX4_note_34 : decode cX4_note 34 = .ok (.ifCond .eq 13, 3) := by decide +kernel
theorem dX4_note_37 : decode cX4_note 37 = .ok (.iload 4, 2) := by decide +kernel
theorem dX4_note_39 : decode cX4_note 39 = .ok (.iconst 0, 1) := by decide +kernel
theorem dX4_note_40 : decode cX4_note 40 = .ok (.iconst 1, 1) := by decide +kernel
theorem dX4_note_41 : decode cX4_note 41 = .ok (.invokestatic 53, 3) := by decide +kernel
theorem dX4_note_44 : decode cX4_note 44 = .ok (.ifCond .ne 10, 3) := by decide +kernel
theorem dX4_note_47 : decode cX4_note 47 = .ok (.aload_n 0, 1) := by decide +kernel
theorem dX4_note_48 : decode cX4_note 48 = .ok (.bipush (-2), 2) := by decide +kernel
theorem dX4_note_50 : decode cX4_note 50 = .ok (.invokevirtual 57, 3) := by decide +kernel
theorem dX4_note_53 : decode cX4_note 53 = .ok (.ireturn, 1) := by decide +kernel
theorem dX4_note_54 : decode cX4_note 54 = .ok (.aload_n 0, 1) := by decide +kernel
theorem dX4_note_55 : decode cX4_note 55 = .ok (.getfield 10, 3) := by decide +kernel
theorem dX4_note_58 : decode cX4_note 58 = .ok (.getfield 190, 3) := by decide +kernel
theorem dX4_note_61 : decode cX4_note 61 = .ok (.bipush 6, 2) := by decide +kernel
theorem dX4_note_63 : decode cX4_note 63 = .ok (.if_icmp .lt 10, 3) := by decide +kernel
theorem dX4_note_66 : decode cX4_note 66 = .ok (.aload_n 0, 1) := by decide +kernel
theorem dX4_note_67 : decode cX4_note 67 = .ok (.bipush (-4), 2) := by decide +kernel
theorem dX4_note_69 : decode cX4_note 69 = .ok (.invokevirtual 57, 3) := by decide +kernel
theorem dX4_note_72 : decode cX4_note 72 = .ok (.ireturn, 1) := by decide +kernel
theorem dX4_note_73 : decode cX4_note 73 = .ok (.aload_n 0, 1) := by decide +kernel
theorem dX4_note_74 : decode cX4_note 74 = .ok (.getfield 10, 3) := by decide +kernel
theorem dX4_note_77 : decode cX4_note 77 = .ok (.iload_n 1, 1) := by decide +kernel
theorem dX4_note_78 : decode cX4_note 78 = .ok (.iload_n 2, 1) := by decide +kernel
theorem dX4_note_79 : decode cX4_note 79 = .ok (.iload_n 3, 1) := by decide +kernel
theorem dX4_note_80 : decode cX4_note 80 = .ok (.iload 4, 2) := by decide +kernel
theorem dX4_note_82 : decode cX4_note 82 = .ok (.invokevirtual 193, 3) := by decide +kernel
theorem dX4_note_85 : decode cX4_note 85 = .ok (.ireturn, 1) := by decide +kernel
theorem dX4_forget_0 : decode cX4_forget 0 = .ok (.aload_n 0, 1) := by decide +kernel
theorem dX4_forget_1 : decode cX4_forget 1 = .ok (.getfield 10, 3) := by decide +kernel
theorem dX4_forget_4 : decode cX4_forget 4 = .ok (.getfield 190, 3) := by decide +kernel
theorem dX4_forget_7 : decode cX4_forget 7 = .ok (.istore_n 1, 1) := by decide +kernel
theorem dX4_forget_8 : decode cX4_forget 8 = .ok (.aload_n 0, 1) := by decide +kernel
theorem dX4_forget_9 : decode cX4_forget 9 = .ok (.getfield 10, 3) := by decide +kernel
theorem dX4_forget_12 : decode cX4_forget 12 = .ok (.iconst 0, 1) := by decide +kernel
theorem dX4_forget_13 : decode cX4_forget 13 = .ok (.putfield 190, 3) := by decide +kernel
theorem dX4_forget_16 : decode cX4_forget 16 = .ok (.iload_n 1, 1) := by decide +kernel
theorem dX4_forget_17 : decode cX4_forget 17 = .ok (.ireturn, 1) := by decide +kernel
theorem dX4_is_0 : decode cX4_is 0 = .ok (.aload_n 0, 1) := by decide +kernel
theorem dX4_is_1 : decode cX4_is 1 = .ok (.getfield 10, 3) := by decide +kernel
theorem dX4_is_4 : decode cX4_is 4 = .ok (.iload_n 1, 1) := by decide +kernel
theorem dX4_is_5 : decode cX4_is 5 = .ok (.invokevirtual 98, 3) := by decide +kernel
theorem dX4_is_8 : decode cX4_is 8 = .ok (.ifCond .ne 10, 3) := by decide +kernel
theorem dX4_is_11 : decode cX4_is 11 = .ok (.aload_n 0, 1) := by decide +kernel
theorem dX4_is_12 : decode cX4_is 12 = .ok (.bipush (-2), 2) := by decide +kernel
theorem dX4_is_14 : decode cX4_is 14 = .ok (.invokevirtual 57, 3) := by decide +kernel
theorem dX4_is_17 : decode cX4_is 17 = .ok (.ireturn, 1) := by decide +kernel
theorem dX4_is_18 : decode cX4_is 18 = .ok (.aload_n 0, 1) := by decide +kernel
theorem dX4_is_19 : decode cX4_is 19 = .ok (.getfield 10, 3) := by decide +kernel
theorem dX4_is_22 : decode cX4_is 22 = .ok (.iload_n 1, 1) := by decide +kernel
theorem dX4_is_23 : decode cX4_is 23 = .ok (.invokevirtual 196, 3) := by decide +kernel
theorem dX4_is_26 : decode cX4_is 26 = .ok (.ireturn, 1) := by decide +kernel
theorem dX4_send_0 : decode cX4_send 0 = .ok (.aload_n 0, 1) := by decide +kernel
theorem dX4_send_1 : decode cX4_send 1 = .ok (.getfield 10, 3) := by decide +kernel
theorem dX4_send_4 : decode cX4_send 4 = .ok (.iload_n 1, 1) := by decide +kernel
theorem dX4_send_5 : decode cX4_send 5 = .ok (.invokevirtual 98, 3) := by decide +kernel
theorem dX4_send_8 : decode cX4_send 8 = .ok (.ifCond .ne 10, 3) := by decide +kernel
theorem dX4_send_11 : decode cX4_send 11 = .ok (.aload_n 0, 1) := by decide +kernel
theorem dX4_send_12 : decode cX4_send 12 = .ok (.bipush (-2), 2) := by decide +kernel
theorem dX4_send_14 : decode cX4_send 14 = .ok (.invokevirtual 57, 3) := by decide +kernel
theorem dX4_send_17 : decode cX4_send 17 = .ok (.ireturn, 1) := by decide +kernel
theorem dX4_send_18 : decode cX4_send 18 = .ok (.aload_n 0, 1) := by decide +kernel
theorem dX4_send_19 : decode cX4_send 19 = .ok (.getfield 10, 3) := by decide +kernel
theorem dX4_send_22 : decode cX4_send 22 = .ok (.iload_n 1, 1) := by decide +kernel
theorem dX4_send_23 : decode cX4_send 23 = .ok (.invokevirtual 196, 3) := by decide +kernel
theorem dX4_send_26 : decode cX4_send 26 = .ok (.istore_n 2, 1) := by decide +kernel
theorem dX4_send_27 : decode cX4_send 27 = .ok (.iload_n 2, 1) := by decide +kernel
theorem dX4_send_28 : decode cX4_send 28 = .ok (.ifCond .ne 5, 3) := by decide +kernel
theorem dX4_send_31 : decode cX4_send 31 = .ok (.iconst (-1), 1) := by decide +kernel
theorem dX4_send_32 : decode cX4_send 32 = .ok (.ireturn, 1) := by decide +kernel
theorem dX4_send_33 : decode cX4_send 33 = .ok (.iconst (-1), 1) := by decide +kernel
theorem dX4_send_34 : decode cX4_send 34 = .ok (.istore_n 3, 1) := by decide +kernel
theorem dX4_send_35 : decode cX4_send 35 = .ok (.bipush 7, 2) := by decide +kernel
theorem dX4_send_37 : decode cX4_send 37 = .ok (.istore 4, 2) := by decide +kernel
theorem dX4_send_39 : decode cX4_send 39 = .ok (.iconst 0, 1) := by decide +kernel
theorem dX4_send_40 : decode cX4_send 40 = .ok (.istore 5, 2) := by decide +kernel
theorem dX4_send_42 : decode cX4_send 42 = .ok (.iload 5, 2) := by decide +kernel
theorem dX4_send_44 : decode cX4_send 44 = .ok (.bipush 20, 2) := by decide +kernel
theorem dX4_send_46 : decode cX4_send 46 = .ok (.if_icmp .ge 66, 3) := by decide +kernel
theorem dX4_send_49 : decode cX4_send 49 = .ok (.iload_n 2, 1) := by decide +kernel
theorem dX4_send_50 : decode cX4_send 50 = .ok (.iload 5, 2) := by decide +kernel
theorem dX4_send_52 : decode cX4_send 52 = .ok (.bipush 10, 2) := by decide +kernel
theorem dX4_send_54 : decode cX4_send 54 = .ok (.idiv, 1) := by decide +kernel
theorem dX4_send_55 : decode cX4_send 55 = .ok (.iconst 1, 1) := by decide +kernel
theorem dX4_send_56 : decode cX4_send 56 = .ok (.if_icmp .ne 7, 3) := by decide +kernel
theorem dX4_send_59 : decode cX4_send 59 = .ok (.iconst 1, 1) := by decide +kernel
theorem dX4_send_60 : decode cX4_send 60 = .ok (.goto 4, 3) := by decide +kernel
theorem dX4_send_63 : decode cX4_send 63 = .ok (.iconst 0, 1) := by decide +kernel
theorem dX4_send_64 : decode cX4_send 64 = .ok (.iload 5, 2) := by decide +kernel
theorem dX4_send_66 : decode cX4_send 66 = .ok (.bipush 10, 2) := by decide +kernel
theorem dX4_send_68 : decode cX4_send 68 = .ok (.irem, 1) := by decide +kernel
theorem dX4_send_69 : decode cX4_send 69 = .ok (.invokestatic 199, 3) := by decide +kernel
theorem dX4_send_72 : decode cX4_send 72 = .ok (.iand, 1) := by decide +kernel
theorem dX4_send_73 : decode cX4_send 73 = .ok (.invokestatic 203, 3) := by decide +kernel
theorem dX4_send_76 : decode cX4_send 76 = .ok (.istore 6, 2) := by decide +kernel
theorem dX4_send_78 : decode cX4_send 78 = .ok (.iload 6, 2) := by decide +kernel
theorem dX4_send_80 : decode cX4_send 80 = .ok (.iload_n 2, 1) := by decide +kernel
theorem dX4_send_81 : decode cX4_send 81 = .ok (.invokestatic 203, 3) := by decide +kernel
theorem dX4_send_84 : decode cX4_send 84 = .ok (.iload 6, 2) := by decide +kernel
theorem dX4_send_86 : decode cX4_send 86 = .ok (.isub, 1) := by decide +kernel
theorem dX4_send_87 : decode cX4_send 87 = .ok (.invokestatic 208, 3) := by decide +kernel
theorem dX4_send_90 : decode cX4_send 90 = .ok (.istore 7, 2) := by decide +kernel
theorem dX4_send_92 : decode cX4_send 92 = .ok (.iload 7, 2) := by decide +kernel
theorem dX4_send_94 : decode cX4_send 94 = .ok (.iload 4, 2) := by decide +kernel
theorem dX4_send_96 : decode cX4_send 96 = .ok (.if_icmp .ge 10, 3) := by decide +kernel
theorem dX4_send_99 : decode cX4_send 99 = .ok (.iload 7, 2) := by decide +kernel
theorem dX4_send_101 : decode cX4_send 101 = .ok (.istore 4, 2) := by decide +kernel
theorem dX4_send_103 : decode cX4_send 103 = .ok (.iload 5, 2) := by decide +kernel
theorem dX4_send_105 : decode cX4_send 105 = .ok (.istore_n 3, 1) := by decide +kernel
theorem dX4_send_106 : decode cX4_send 106 = .ok (.iinc 5 1, 3) := by decide +kernel
theorem dX4_send_109 : decode cX4_send 109 = .ok (.goto (-67), 3) := by decide +kernel
theorem dX4_send_112 : decode cX4_send 112 = .ok (.iload_n 3, 1) := by decide +kernel
theorem dX4_send_113 : decode cX4_send 113 = .ok (.ireturn, 1) := by decide +kernel
theorem dX4_two_0 : decode cX4_two 0 = .ok (.aload_n 0, 1) := by decide +kernel
theorem dX4_two_1 : decode cX4_two 1 = .ok (.getfield 10, 3) := by decide +kernel
theorem dX4_two_4 : decode cX4_two 4 = .ok (.iload_n 1, 1) := by decide +kernel
theorem dX4_two_5 : decode cX4_two 5 = .ok (.invokevirtual 94, 3) := by decide +kernel
theorem dX4_two_8 : decode cX4_two 8 = .ok (.ifCond .eq 24, 3) := by decide +kernel
theorem dX4_two_11 : decode cX4_two 11 = .ok (.aload_n 0, 1) := by decide +kernel
theorem dX4_two_12 : decode cX4_two 12 = .ok (.getfield 10, 3) := by decide +kernel
theorem dX4_two_15 : decode cX4_two 15 = .ok (.iload_n 2, 1) := by decide +kernel
theorem dX4_two_16 : decode cX4_two 16 = .ok (.invokevirtual 94, 3) := by decide +kernel
theorem dX4_two_19 : decode cX4_two 19 = .ok (.ifCond .eq 13, 3) := by decide +kernel
theorem dX4_two_22 : decode cX4_two 22 = .ok (.iload_n 1, 1) := by decide +kernel
theorem dX4_two_23 : decode cX4_two 23 = .ok (.iload_n 2, 1) := by decide +kernel
theorem dX4_two_24 : decode cX4_two 24 = .ok (.if_icmp .eq 8, 3) := by decide +kernel
theorem dX4_two_27 : decode cX4_two 27 = .ok (.iload_n 3, 1) := by decide +kernel
theorem dX4_two_28 : decode cX4_two 28 = .ok (.iconst (-1), 1) := by decide +kernel
theorem dX4_two_29 : decode cX4_two 29 = .ok (.if_icmp .ge 13, 3) := by decide +kernel
theorem dX4_two_32 : decode cX4_two 32 = .ok (.aload_n 0, 1) := by decide +kernel
theorem dX4_two_33 : decode cX4_two 33 = .ok (.bipush (-2), 2) := by decide +kernel
theorem dX4_two_35 : decode cX4_two 35 = .ok (.invokevirtual 57, 3) := by decide +kernel
theorem dX4_two_38 : decode cX4_two 38 = .ok (.pop, 1) := by decide +kernel
theorem dX4_two_39 : decode cX4_two 39 = .ok (.bipush (-10), 2) := by decide +kernel
theorem dX4_two_41 : decode cX4_two 41 = .ok (.ireturn, 1) := by decide +kernel
theorem dX4_two_42 : decode cX4_two 42 = .ok (.aload_n 0, 1) := by decide +kernel
theorem dX4_two_43 : decode cX4_two 43 = .ok (.iload_n 1, 1) := by decide +kernel
theorem dX4_two_44 : decode cX4_two 44 = .ok (.iload_n 2, 1) := by decide +kernel
theorem dX4_two_45 : decode cX4_two 45 = .ok (.invokevirtual 213, 3) := by decide +kernel
theorem dX4_two_48 : decode cX4_two 48 = .ok (.iconst 0, 1) := by decide +kernel
theorem dX4_two_49 : decode cX4_two 49 = .ok (.istore 4, 2) := by decide +kernel
theorem dX4_two_51 : decode cX4_two 51 = .ok (.iconst 0, 1) := by decide +kernel
theorem dX4_two_52 : decode cX4_two 52 = .ok (.istore 5, 2) := by decide +kernel
theorem dX4_two_54 : decode cX4_two 54 = .ok (.iload 5, 2) := by decide +kernel
theorem dX4_two_56 : decode cX4_two 56 = .ok (.bipush 8, 2) := by decide +kernel
theorem dX4_two_58 : decode cX4_two 58 = .ok (.if_icmp .ge 57, 3) := by decide +kernel
theorem dX4_two_61 : decode cX4_two 61 = .ok (.iconst 0, 1) := by decide +kernel
theorem dX4_two_62 : decode cX4_two 62 = .ok (.istore 6, 2) := by decide +kernel
theorem dX4_two_64 : decode cX4_two 64 = .ok (.iload 6, 2) := by decide +kernel
theorem dX4_two_66 : decode cX4_two 66 = .ok (.bipush 8, 2) := by decide +kernel
theorem dX4_two_68 : decode cX4_two 68 = .ok (.if_icmp .ge 41, 3) := by decide +kernel
theorem dX4_two_71 : decode cX4_two 71 = .ok (.aload_n 0, 1) := by decide +kernel
theorem dX4_two_72 : decode cX4_two 72 = .ok (.iload 5, 2) := by decide +kernel
theorem dX4_two_74 : decode cX4_two 74 = .ok (.iload 6, 2) := by decide +kernel
theorem dX4_two_76 : decode cX4_two 76 = .ok (.invokevirtual 216, 3) := by decide +kernel
theorem dX4_two_79 : decode cX4_two 79 = .ok (.ifCond .ne 6, 3) := by decide +kernel
theorem dX4_two_82 : decode cX4_two 82 = .ok (.goto 21, 3) := by decide +kernel
theorem dX4_two_85 : decode cX4_two 85 = .ok (.iload 4, 2) := by decide +kernel
theorem dX4_two_87 : decode cX4_two 87 = .ok (.iload_n 3, 1) := by decide +kernel
theorem dX4_two_88 : decode cX4_two 88 = .ok (.if_icmp .ne 12, 3) := by decide +kernel
theorem dX4_two_91 : decode cX4_two 91 = .ok (.bipush 8, 2) := by decide +kernel
theorem dX4_two_93 : decode cX4_two 93 = .ok (.iload 5, 2) := by decide +kernel
theorem dX4_two_95 : decode cX4_two 95 = .ok (.imul, 1) := by decide +kernel
theorem dX4_two_96 : decode cX4_two 96 = .ok (.iload 6, 2) := by decide +kernel
theorem dX4_two_98 : decode cX4_two 98 = .ok (.iadd, 1) := by decide +kernel
theorem dX4_two_99 : decode cX4_two 99 = .ok (.ireturn, 1) := by decide +kernel
theorem dX4_two_100 : decode cX4_two 100 = .ok (.iinc 4 1, 3) := by decide +kernel
theorem dX4_two_103 : decode cX4_two 103 = .ok (.iinc 6 1, 3) := by decide +kernel
theorem dX4_two_106 : decode cX4_two 106 = .ok (.goto (-42), 3) := by decide +kernel
theorem dX4_two_109 : decode cX4_two 109 = .ok (.iinc 5 1, 3) := by decide +kernel
theorem dX4_two_112 : decode cX4_two 112 = .ok (.goto (-58), 3) := by decide +kernel
theorem dX4_two_115 : decode cX4_two 115 = .ok (.iload_n 3, 1) := by decide +kernel
theorem dX4_two_116 : decode cX4_two 116 = .ok (.iconst (-1), 1) := by decide +kernel
theorem dX4_two_117 : decode cX4_two 117 = .ok (.if_icmp .ne 8, 3) := by decide +kernel
theorem dX4_two_120 : decode cX4_two 120 = .ok (.iload 4, 2) := by decide +kernel
theorem dX4_two_122 : decode cX4_two 122 = .ok (.goto 5, 3) := by decide +kernel
theorem dX4_two_125 : decode cX4_two 125 = .ok (.bipush (-5), 2) := by decide +kernel
theorem dX4_two_127 : decode cX4_two 127 = .ok (.ireturn, 1) := by decide +kernel
theorem dX4_strays_0 : decode cX4_strays 0 = .ok (.aload_n 0, 1) := by decide +kernel
theorem dX4_strays_1 : decode cX4_strays 1 = .ok (.getfield 10, 3) := by decide +kernel
theorem dX4_strays_4 : decode cX4_strays 4 = .ok (.iload_n 1, 1) := by decide +kernel
theorem dX4_strays_5 : decode cX4_strays 5 = .ok (.invokevirtual 94, 3) := by decide +kernel
theorem dX4_strays_8 : decode cX4_strays 8 = .ok (.ifCond .eq 13, 3) := by decide +kernel
theorem dX4_strays_11 : decode cX4_strays 11 = .ok (.iload_n 2, 1) := by decide +kernel
theorem dX4_strays_12 : decode cX4_strays 12 = .ok (.iconst 0, 1) := by decide +kernel
theorem dX4_strays_13 : decode cX4_strays 13 = .ok (.bipush 10, 2) := by decide +kernel
theorem dX4_strays_15 : decode cX4_strays 15 = .ok (.invokestatic 53, 3) := by decide +kernel
theorem dX4_strays_18 : decode cX4_strays 18 = .ok (.ifCond .ne 10, 3) := by decide +kernel
theorem dX4_strays_21 : decode cX4_strays 21 = .ok (.aload_n 0, 1) := by decide +kernel
theorem dX4_strays_22 : decode cX4_strays 22 = .ok (.bipush (-2), 2) := by decide +kernel
theorem dX4_strays_24 : decode cX4_strays 24 = .ok (.invokevirtual 57, 3) := by decide +kernel
theorem dX4_strays_27 : decode cX4_strays 27 = .ok (.ireturn, 1) := by decide +kernel
theorem dX4_strays_28 : decode cX4_strays 28 = .ok (.aload_n 0, 1) := by decide +kernel
theorem dX4_strays_29 : decode cX4_strays 29 = .ok (.getfield 10, 3) := by decide +kernel
theorem dX4_strays_32 : decode cX4_strays 32 = .ok (.aload_n 0, 1) := by decide +kernel
theorem dX4_strays_33 : decode cX4_strays 33 = .ok (.getfield 10, 3) := by decide +kernel
theorem dX4_strays_36 : decode cX4_strays 36 = .ok (.getfield 115, 3) := by decide +kernel
theorem dX4_strays_39 : decode cX4_strays 39 = .ok (.invokevirtual 164, 3) := by decide +kernel
theorem dX4_strays_42 : decode cX4_strays 42 = .ok (.istore_n 3, 1) := by decide +kernel
theorem dX4_strays_43 : decode cX4_strays 43 = .ok (.aload_n 0, 1) := by decide +kernel
theorem dX4_strays_44 : decode cX4_strays 44 = .ok (.getfield 10, 3) := by decide +kernel
theorem dX4_strays_47 : decode cX4_strays 47 = .ok (.iload_n 1, 1) := by decide +kernel
theorem dX4_strays_48 : decode cX4_strays 48 = .ok (.iload_n 3, 1) := by decide +kernel
theorem dX4_strays_49 : decode cX4_strays 49 = .ok (.aload_n 0, 1) := by decide +kernel
theorem dX4_strays_50 : decode cX4_strays 50 = .ok (.getfield 10, 3) := by decide +kernel
theorem dX4_strays_53 : decode cX4_strays 53 = .ok (.getfield 121, 3) := by decide +kernel
theorem dX4_strays_56 : decode cX4_strays 56 = .ok (.invokevirtual 171, 3) := by decide +kernel
theorem dX4_strays_59 : decode cX4_strays 59 = .ok (.bipush 10, 2) := by decide +kernel
theorem dX4_strays_61 : decode cX4_strays 61 = .ok (.iload_n 2, 1) := by decide +kernel
theorem dX4_strays_62 : decode cX4_strays 62 = .ok (.isub, 1) := by decide +kernel
theorem dX4_strays_63 : decode cX4_strays 63 = .ok (.imul, 1) := by decide +kernel
theorem dX4_strays_64 : decode cX4_strays 64 = .ok (.istore 4, 2) := by decide +kernel
theorem dX4_strays_66 : decode cX4_strays 66 = .ok (.bipush 10, 2) := by decide +kernel
theorem dX4_strays_68 : decode cX4_strays 68 = .ok (.iload 4, 2) := by decide +kernel
theorem dX4_strays_70 : decode cX4_strays 70 = .ok (.invokestatic 219, 3) := by decide +kernel
theorem dX4_strays_73 : decode cX4_strays 73 = .ok (.istore 5, 2) := by decide +kernel
theorem dX4_strays_75 : decode cX4_strays 75 = .ok (.aload_n 0, 1) := by decide +kernel
theorem dX4_strays_76 : decode cX4_strays 76 = .ok (.iload 4, 2) := by decide +kernel
theorem dX4_strays_78 : decode cX4_strays 78 = .ok (.iload 5, 2) := by decide +kernel
theorem dX4_strays_80 : decode cX4_strays 80 = .ok (.idiv, 1) := by decide +kernel
theorem dX4_strays_81 : decode cX4_strays 81 = .ok (.putfield 30, 3) := by decide +kernel
theorem dX4_strays_84 : decode cX4_strays 84 = .ok (.aload_n 0, 1) := by decide +kernel
theorem dX4_strays_85 : decode cX4_strays 85 = .ok (.bipush 10, 2) := by decide +kernel
theorem dX4_strays_87 : decode cX4_strays 87 = .ok (.iload 5, 2) := by decide +kernel
theorem dX4_strays_89 : decode cX4_strays 89 = .ok (.idiv, 1) := by decide +kernel
theorem dX4_strays_90 : decode cX4_strays 90 = .ok (.putfield 34, 3) := by decide +kernel
theorem dX4_strays_93 : decode cX4_strays 93 = .ok (.iconst 1, 1) := by decide +kernel
theorem dX4_strays_94 : decode cX4_strays 94 = .ok (.ireturn, 1) := by decide +kernel
theorem dX4_villages_0 : decode cX4_villages 0 = .ok (.iload_n 1, 1) := by decide +kernel
theorem dX4_villages_1 : decode cX4_villages 1 = .ok (.iconst 0, 1) := by decide +kernel
theorem dX4_villages_2 : decode cX4_villages 2 = .ok (.ldc 222, 2) := by decide +kernel
theorem dX4_villages_4 : decode cX4_villages 4 = .ok (.invokestatic 53, 3) := by decide +kernel
theorem dX4_villages_7 : decode cX4_villages 7 = .ok (.ifCond .eq 13, 3) := by decide +kernel
theorem dX4_villages_10 : decode cX4_villages 10 = .ok (.iload_n 2, 1) := by decide +kernel
theorem dX4_villages_11 : decode cX4_villages 11 = .ok (.iconst 0, 1) := by decide +kernel
theorem dX4_villages_12 : decode cX4_villages 12 = .ok (.bipush 60, 2) := by decide +kernel
theorem dX4_villages_14 : decode cX4_villages 14 = .ok (.invokestatic 53, 3) := by decide +kernel
theorem dX4_villages_17 : decode cX4_villages 17 = .ok (.ifCond .ne 10, 3) := by decide +kernel
theorem dX4_villages_20 : decode cX4_villages 20 = .ok (.aload_n 0, 1) := by decide +kernel
theorem dX4_villages_21 : decode cX4_villages 21 = .ok (.bipush (-2), 2) := by decide +kernel
theorem dX4_villages_23 : decode cX4_villages 23 = .ok (.invokevirtual 57, 3) := by decide +kernel
theorem dX4_villages_26 : decode cX4_villages 26 = .ok (.ireturn, 1) := by decide +kernel
theorem dX4_villages_27 : decode cX4_villages 27 = .ok (.aload_n 0, 1) := by decide +kernel
theorem dX4_villages_28 : decode cX4_villages 28 = .ok (.iconst 0, 1) := by decide +kernel
theorem dX4_villages_29 : decode cX4_villages 29 = .ok (.invokevirtual 174, 3) := by decide +kernel
theorem dX4_villages_32 : decode cX4_villages 32 = .ok (.iload_n 1, 1) := by decide +kernel
theorem dX4_villages_33 : decode cX4_villages 33 = .ok (.i2l, 1) := by decide +kernel
theorem dX4_villages_34 : decode cX4_villages 34 = .ok (.lstore_n 3, 1) := by decide +kernel
theorem dX4_villages_35 : decode cX4_villages 35 = .ok (.iconst 0, 1) := by decide +kernel
theorem dX4_villages_36 : decode cX4_villages 36 = .ok (.istore 5, 2) := by decide +kernel
theorem dX4_villages_38 : decode cX4_villages 38 = .ok (.iload 5, 2) := by decide +kernel
theorem dX4_villages_40 : decode cX4_villages 40 = .ok (.iload_n 2, 1) := by decide +kernel
theorem dX4_villages_41 : decode cX4_villages 41 = .ok (.if_icmp .ge 79, 3) := by decide +kernel
theorem dX4_villages_44 : decode cX4_villages 44 = .ok (.lload_n 3, 1) := by decide +kernel
theorem dX4_villages_45 : decode cX4_villages 45 = .ok (.ldc2_w 223, 3) := by decide +kernel
theorem dX4_villages_48 : decode cX4_villages 48 = .ok (.lmul, 1) := by decide +kernel
theorem dX4_villages_49 : decode cX4_villages 49 = .ok (.ldc2_w 225, 3) := by decide +kernel
theorem dX4_villages_52 : decode cX4_villages 52 = .ok (.ladd, 1) := by decide +kernel
theorem dX4_villages_53 : decode cX4_villages 53 = .ok (.ldc2_w 227, 3) := by decide +kernel
theorem dX4_villages_56 : decode cX4_villages 56 = .ok (.lrem, 1) := by decide +kernel
theorem dX4_villages_57 : decode cX4_villages 57 = .ok (.lstore_n 3, 1) := by decide +kernel
theorem dX4_villages_58 : decode cX4_villages 58 = .ok (.lload_n 3, 1) := by decide +kernel
theorem dX4_villages_59 : decode cX4_villages 59 = .ok (.ldc2_w 229, 3) := by decide +kernel
theorem dX4_villages_62 : decode cX4_villages 62 = .ok (.ldiv, 1) := by decide +kernel
theorem dX4_villages_63 : decode cX4_villages 63 = .ok (.ldc2_w 231, 3) := by decide +kernel
theorem dX4_villages_66 : decode cX4_villages 66 = .ok (.lrem, 1) := by decide +kernel
theorem dX4_villages_67 : decode cX4_villages 67 = .ok (.l2i, 1) := by decide +kernel
theorem dX4_villages_68 : decode cX4_villages 68 = .ok (.istore 6, 2) := by decide +kernel
theorem dX4_villages_70 : decode cX4_villages 70 = .ok (.iload 5, 2) := by decide +kernel
theorem dX4_villages_72 : decode cX4_villages 72 = .ok (.ifCond .ne 13, 3) := by decide +kernel
theorem dX4_villages_75 : decode cX4_villages 75 = .ok (.aload_n 0, 1) := by decide +kernel
theorem dX4_villages_76 : decode cX4_villages 76 = .ok (.getfield 10, 3) := by decide +kernel
theorem dX4_villages_79 : decode cX4_villages 79 = .ok (.getfield 121, 3) := by decide +kernel
theorem dX4_villages_82 : decode cX4_villages 82 = .ok (.goto 4, 3) := by decide +kernel
theorem dX4_villages_85 : decode cX4_villages 85 = .ok (.iconst 0, 1) := by decide +kernel
theorem dX4_villages_86 : decode cX4_villages 86 = .ok (.istore 7, 2) := by decide +kernel
theorem dX4_villages_88 : decode cX4_villages 88 = .ok (.aload_n 0, 1) := by decide +kernel
theorem dX4_villages_89 : decode cX4_villages 89 = .ok (.getfield 10, 3) := by decide +kernel
theorem dX4_villages_92 : decode cX4_villages 92 = .ok (.aload_n 0, 1) := by decide +kernel
theorem dX4_villages_93 : decode cX4_villages 93 = .ok (.getfield 37, 3) := by decide +kernel
theorem dX4_villages_96 : decode cX4_villages 96 = .ok (.aload_n 0, 1) := by decide +kernel
theorem dX4_villages_97 : decode cX4_villages 97 = .ok (.getfield 10, 3) := by decide +kernel
theorem dX4_villages_100 : decode cX4_villages 100 = .ok (.getfield 115, 3) := by decide +kernel
theorem dX4_villages_103 : decode cX4_villages 103 = .ok (.iload 5, 2) := by decide +kernel
theorem dX4_villages_105 : decode cX4_villages 105 = .ok (.iadd, 1) := by decide +kernel
theorem dX4_villages_106 : decode cX4_villages 106 = .ok (.iload 7, 2) := by decide +kernel
theorem dX4_villages_108 : decode cX4_villages 108 = .ok (.iload 6, 2) := by decide +kernel
theorem dX4_villages_110 : decode cX4_villages 110 = .ok (.ior, 1) := by decide +kernel
theorem dX4_villages_111 : decode cX4_villages 111 = .ok (.invokevirtual 124, 3) := by decide +kernel
theorem dX4_villages_114 : decode cX4_villages 114 = .ok (.iinc 5 1, 3) := by decide +kernel
theorem dX4_villages_117 : decode cX4_villages 117 = .ok (.goto (-79), 3) := by decide +kernel
theorem dX4_villages_120 : decode cX4_villages 120 = .ok (.aload_n 0, 1) := by decide +kernel
theorem dX4_villages_121 : decode cX4_villages 121 = .ok (.getfield 37, 3) := by decide +kernel
theorem dX4_villages_124 : decode cX4_villages 124 = .ok (.aload_n 0, 1) := by decide +kernel
theorem dX4_villages_125 : decode cX4_villages 125 = .ok (.getfield 10, 3) := by decide +kernel
theorem dX4_villages_128 : decode cX4_villages 128 = .ok (.getfield 61, 3) := by decide +kernel
theorem dX4_villages_131 : decode cX4_villages 131 = .ok (.invokestatic 128, 3) := by decide +kernel
theorem dX4_villages_134 : decode cX4_villages 134 = .ok (.ireturn, 1) := by decide +kernel
theorem dX4_part_0 : decode cX4_part 0 = .ok (.iload_n 1, 1) := by decide +kernel
theorem dX4_part_1 : decode cX4_part 1 = .ok (.lookupswitch 39 #[(0, 27), (1, 33)], 27) := by decide +kernel
theorem dX4_part_28 : decode cX4_part 28 = .ok (.aload_n 0, 1) := by decide +kernel
theorem dX4_part_29 : decode cX4_part 29 = .ok (.getfield 30, 3) := by decide +kernel
theorem dX4_part_32 : decode cX4_part 32 = .ok (.i2l, 1) := by decide +kernel
theorem dX4_part_33 : decode cX4_part 33 = .ok (.lreturn, 1) := by decide +kernel
theorem dX4_part_34 : decode cX4_part 34 = .ok (.aload_n 0, 1) := by decide +kernel
theorem dX4_part_35 : decode cX4_part 35 = .ok (.getfield 34, 3) := by decide +kernel
theorem dX4_part_38 : decode cX4_part 38 = .ok (.i2l, 1) := by decide +kernel
theorem dX4_part_39 : decode cX4_part 39 = .ok (.lreturn, 1) := by decide +kernel
theorem dX4_part_40 : decode cX4_part 40 = .ok (.aload_n 0, 1) := by decide +kernel
theorem dX4_part_41 : decode cX4_part 41 = .ok (.bipush (-2), 2) := by decide +kernel
theorem dX4_part_43 : decode cX4_part 43 = .ok (.invokevirtual 57, 3) := by decide +kernel
theorem dX4_part_46 : decode cX4_part 46 = .ok (.i2l, 1) := by decide +kernel
theorem dX4_part_47 : decode cX4_part 47 = .ok (.lreturn, 1) := by decide +kernel
theorem dX4_image_0 : decode cX4_image 0 = .ok (.iload_n 1, 1) := by decide +kernel
theorem dX4_image_1 : decode cX4_image 1 = .ok (.iconst 0, 1) := by decide +kernel
theorem dX4_image_2 : decode cX4_image 2 = .ok (.iconst 1, 1) := by decide +kernel
theorem dX4_image_3 : decode cX4_image 3 = .ok (.invokestatic 53, 3) := by decide +kernel
theorem dX4_image_6 : decode cX4_image 6 = .ok (.ifCond .ne 10, 3) := by decide +kernel
theorem dX4_image_9 : decode cX4_image 9 = .ok (.aload_n 0, 1) := by decide +kernel
theorem dX4_image_10 : decode cX4_image 10 = .ok (.bipush (-2), 2) := by decide +kernel
theorem dX4_image_12 : decode cX4_image 12 = .ok (.invokevirtual 57, 3) := by decide +kernel
theorem dX4_image_15 : decode cX4_image 15 = .ok (.ireturn, 1) := by decide +kernel
theorem dX4_image_16 : decode cX4_image 16 = .ok (.aload_n 0, 1) := by decide +kernel
theorem dX4_image_17 : decode cX4_image 17 = .ok (.getfield 19, 3) := by decide +kernel
theorem dX4_image_20 : decode cX4_image 20 = .ok (.iload_n 1, 1) := by decide +kernel
theorem dX4_image_21 : decode cX4_image 21 = .ok (.aaload, 1) := by decide +kernel
theorem dX4_image_22 : decode cX4_image 22 = .ok (.astore_n 2, 1) := by decide +kernel
theorem dX4_image_23 : decode cX4_image 23 = .ok (.aload_n 2, 1) := by decide +kernel
theorem dX4_image_24 : decode cX4_image 24 = .ok (.ifnonnull 18, 3) := by decide +kernel
theorem dX4_image_27 : decode cX4_image 27 = .ok (.new 7, 3) := by decide +kernel
theorem dX4_image_30 : decode cX4_image 30 = .ok (.dup, 1) := by decide +kernel
theorem dX4_image_31 : decode cX4_image 31 = .ok (.invokespecial 9, 3) := by decide +kernel
theorem dX4_image_34 : decode cX4_image 34 = .ok (.astore_n 2, 1) := by decide +kernel
theorem dX4_image_35 : decode cX4_image 35 = .ok (.aload_n 0, 1) := by decide +kernel
theorem dX4_image_36 : decode cX4_image 36 = .ok (.getfield 19, 3) := by decide +kernel
theorem dX4_image_39 : decode cX4_image 39 = .ok (.iload_n 1, 1) := by decide +kernel
theorem dX4_image_40 : decode cX4_image 40 = .ok (.aload_n 2, 1) := by decide +kernel
theorem dX4_image_41 : decode cX4_image 41 = .ok (.aastore, 1) := by decide +kernel
theorem dX4_image_42 : decode cX4_image 42 = .ok (.aload_n 2, 1) := by decide +kernel
theorem dX4_image_43 : decode cX4_image 43 = .ok (.aload_n 0, 1) := by decide +kernel
theorem dX4_image_44 : decode cX4_image 44 = .ok (.getfield 10, 3) := by decide +kernel
theorem dX4_image_47 : decode cX4_image 47 = .ok (.invokevirtual 90, 3) := by decide +kernel
theorem dX4_image_50 : decode cX4_image 50 = .ok (.iconst 1, 1) := by decide +kernel
theorem dX4_image_51 : decode cX4_image 51 = .ok (.ireturn, 1) := by decide +kernel
theorem dX4_from_0 : decode cX4_from 0 = .ok (.iload_n 1, 1) := by decide +kernel
theorem dX4_from_1 : decode cX4_from 1 = .ok (.iconst 0, 1) := by decide +kernel
theorem dX4_from_2 : decode cX4_from 2 = .ok (.iconst 1, 1) := by decide +kernel
theorem dX4_from_3 : decode cX4_from 3 = .ok (.invokestatic 53, 3) := by decide +kernel
theorem dX4_from_6 : decode cX4_from 6 = .ok (.ifCond .ne 10, 3) := by decide +kernel
theorem dX4_from_9 : decode cX4_from 9 = .ok (.aload_n 0, 1) := by decide +kernel
theorem dX4_from_10 : decode cX4_from 10 = .ok (.bipush (-2), 2) := by decide +kernel
theorem dX4_from_12 : decode cX4_from 12 = .ok (.invokevirtual 57, 3) := by decide +kernel
theorem dX4_from_15 : decode cX4_from 15 = .ok (.ireturn, 1) := by decide +kernel
theorem dX4_from_16 : decode cX4_from 16 = .ok (.aload_n 0, 1) := by decide +kernel
theorem dX4_from_17 : decode cX4_from 17 = .ok (.getfield 19, 3) := by decide +kernel
theorem dX4_from_20 : decode cX4_from 20 = .ok (.iload_n 1, 1) := by decide +kernel
theorem dX4_from_21 : decode cX4_from 21 = .ok (.aaload, 1) := by decide +kernel
theorem dX4_from_22 : decode cX4_from 22 = .ok (.astore_n 2, 1) := by decide +kernel
theorem dX4_from_23 : decode cX4_from 23 = .ok (.aload_n 2, 1) := by decide +kernel
theorem dX4_from_24 : decode cX4_from 24 = .ok (.ifnonnull 10, 3) := by decide +kernel
theorem dX4_from_27 : decode cX4_from 27 = .ok (.aload_n 0, 1) := by decide +kernel
theorem dX4_from_28 : decode cX4_from 28 = .ok (.bipush (-3), 2) := by decide +kernel
theorem dX4_from_30 : decode cX4_from 30 = .ok (.invokevirtual 57, 3) := by decide +kernel
theorem dX4_from_33 : decode cX4_from 33 = .ok (.ireturn, 1) := by decide +kernel
theorem dX4_from_34 : decode cX4_from 34 = .ok (.aload_n 0, 1) := by decide +kernel
theorem dX4_from_35 : decode cX4_from 35 = .ok (.getfield 10, 3) := by decide +kernel
theorem dX4_from_38 : decode cX4_from 38 = .ok (.aload_n 2, 1) := by decide +kernel
theorem dX4_from_39 : decode cX4_from 39 = .ok (.invokevirtual 90, 3) := by decide +kernel
theorem dX4_from_42 : decode cX4_from 42 = .ok (.iconst 1, 1) := by decide +kernel
theorem dX4_from_43 : decode cX4_from 43 = .ok (.ireturn, 1) := by decide +kernel
theorem dX4_status_0 : decode cX4_status 0 = .ok (.iload_n 1, 1) := by decide +kernel
theorem dX4_status_1 : decode cX4_status 1 = .ok (.tableswitch 42 0 2 #[27, 32, 37], 27) := by decide +kernel
theorem dX4_status_28 : decode cX4_status 28 = .ok (.aload_n 0, 1) := by decide +kernel
theorem dX4_status_29 : decode cX4_status 29 = .ok (.getfield 233, 3) := by decide +kernel
theorem dX4_status_32 : decode cX4_status 32 = .ok (.ireturn, 1) := by decide +kernel
theorem dX4_status_33 : decode cX4_status 33 = .ok (.aload_n 0, 1) := by decide +kernel
theorem dX4_status_34 : decode cX4_status 34 = .ok (.getfield 236, 3) := by decide +kernel
theorem dX4_status_37 : decode cX4_status 37 = .ok (.ireturn, 1) := by decide +kernel
theorem dX4_status_38 : decode cX4_status 38 = .ok (.aload_n 0, 1) := by decide +kernel
theorem dX4_status_39 : decode cX4_status 39 = .ok (.getfield 239, 3) := by decide +kernel
theorem dX4_status_42 : decode cX4_status 42 = .ok (.ireturn, 1) := by decide +kernel
theorem dX4_status_43 : decode cX4_status 43 = .ok (.aload_n 0, 1) := by decide +kernel
theorem dX4_status_44 : decode cX4_status 44 = .ok (.bipush (-2), 2) := by decide +kernel
theorem dX4_status_46 : decode cX4_status 46 = .ok (.invokevirtual 57, 3) := by decide +kernel
theorem dX4_status_49 : decode cX4_status 49 = .ok (.pop, 1) := by decide +kernel
theorem dX4_status_50 : decode cX4_status 50 = .ok (.iconst (-1), 1) := by decide +kernel
theorem dX4_status_51 : decode cX4_status 51 = .ok (.ireturn, 1) := by decide +kernel
theorem dX4_count_0 : decode cX4_count 0 = .ok (.iload_n 1, 1) := by decide +kernel
theorem dX4_count_1 : decode cX4_count 1 = .ok (.iconst 0, 1) := by decide +kernel
theorem dX4_count_2 : decode cX4_count 2 = .ok (.bipush 6, 2) := by decide +kernel
theorem dX4_count_4 : decode cX4_count 4 = .ok (.invokestatic 53, 3) := by decide +kernel
theorem dX4_count_7 : decode cX4_count 7 = .ok (.ifCond .ne 10, 3) := by decide +kernel
theorem dX4_count_10 : decode cX4_count 10 = .ok (.aload_n 0, 1) := by decide +kernel
theorem dX4_count_11 : decode cX4_count 11 = .ok (.bipush (-2), 2) := by decide +kernel
theorem dX4_count_13 : decode cX4_count 13 = .ok (.invokevirtual 57, 3) := by decide +kernel
theorem dX4_count_16 : decode cX4_count 16 = .ok (.ireturn, 1) := by decide +kernel
theorem dX4_count_17 : decode cX4_count 17 = .ok (.aload_n 0, 1) := by decide +kernel
theorem dX4_count_18 : decode cX4_count 18 = .ok (.iload_n 1, 1) := by decide +kernel
theorem dX4_count_19 : decode cX4_count 19 = .ok (.invokevirtual 242, 3) := by decide +kernel
theorem dX4_count_22 : decode cX4_count 22 = .ok (.ireturn, 1) := by decide +kernel
theorem dX4_digest_0 : decode cX4_digest 0 = .ok (.ldc2_w 245, 3) := by decide +kernel
theorem dX4_digest_3 : decode cX4_digest 3 = .ok (.lstore_n 1, 1) := by decide +kernel
theorem dX4_digest_4 : decode cX4_digest 4 = .ok (.iconst 0, 1) := by decide +kernel
theorem dX4_digest_5 : decode cX4_digest 5 = .ok (.istore_n 3, 1) := by decide +kernel
theorem dX4_digest_6 : decode cX4_digest 6 = .ok (.iload_n 3, 1) := by decide +kernel
theorem dX4_digest_7 : decode cX4_digest 7 = .ok (.bipush 6, 2) := by decide +kernel
theorem dX4_digest_9 : decode cX4_digest 9 = .ok (.if_icmp .gt 22, 3) := by decide +kernel
theorem dX4_digest_12 : decode cX4_digest 12 = .ok (.ldc2_w 247, 3) := by decide +kernel
theorem dX4_digest_15 : decode cX4_digest 15 = .ok (.lload_n 1, 1) := by decide +kernel
theorem dX4_digest_16 : decode cX4_digest 16 = .ok (.lmul, 1) := by decide +kernel
theorem dX4_digest_17 : decode cX4_digest 17 = .ok (.aload_n 0, 1) := by decide +kernel
theorem dX4_digest_18 : decode cX4_digest 18 = .ok (.iload_n 3, 1) := by decide +kernel
theorem dX4_digest_19 : decode cX4_digest 19 = .ok (.invokevirtual 242, 3) := by decide +kernel
theorem dX4_digest_22 : decode cX4_digest 22 = .ok (.i2l, 1) := by decide +kernel
theorem dX4_digest_23 : decode cX4_digest 23 = .ok (.ladd, 1) := by decide +kernel
theorem dX4_digest_24 : decode cX4_digest 24 = .ok (.lstore_n 1, 1) := by decide +kernel
theorem dX4_digest_25 : decode cX4_digest 25 = .ok (.iinc 3 1, 3) := by decide +kernel
theorem dX4_digest_28 : decode cX4_digest 28 = .ok (.goto (-22), 3) := by decide +kernel
theorem dX4_digest_31 : decode cX4_digest 31 = .ok (.aload_n 0, 1) := by decide +kernel
theorem dX4_digest_32 : decode cX4_digest 32 = .ok (.getfield 10, 3) := by decide +kernel
theorem dX4_digest_35 : decode cX4_digest 35 = .ok (.lload_n 1, 1) := by decide +kernel
theorem dX4_digest_36 : decode cX4_digest 36 = .ok (.invokevirtual 249, 3) := by decide +kernel
theorem dX4_digest_39 : decode cX4_digest 39 = .ok (.lstore_n 1, 1) := by decide +kernel
theorem dX4_digest_40 : decode cX4_digest 40 = .ok (.ldc2_w 247, 3) := by decide +kernel
theorem dX4_digest_43 : decode cX4_digest 43 = .ok (.lload_n 1, 1) := by decide +kernel
theorem dX4_digest_44 : decode cX4_digest 44 = .ok (.lmul, 1) := by decide +kernel
theorem dX4_digest_45 : decode cX4_digest 45 = .ok (.aload_n 0, 1) := by decide +kernel
theorem dX4_digest_46 : decode cX4_digest 46 = .ok (.getfield 30, 3) := by decide +kernel
theorem dX4_digest_49 : decode cX4_digest 49 = .ok (.i2l, 1) := by decide +kernel
theorem dX4_digest_50 : decode cX4_digest 50 = .ok (.ladd, 1) := by decide +kernel
theorem dX4_digest_51 : decode cX4_digest 51 = .ok (.lstore_n 1, 1) := by decide +kernel
theorem dX4_digest_52 : decode cX4_digest 52 = .ok (.ldc2_w 247, 3) := by decide +kernel
theorem dX4_digest_55 : decode cX4_digest 55 = .ok (.lload_n 1, 1) := by decide +kernel
theorem dX4_digest_56 : decode cX4_digest 56 = .ok (.lmul, 1) := by decide +kernel
theorem dX4_digest_57 : decode cX4_digest 57 = .ok (.aload_n 0, 1) := by decide +kernel
theorem dX4_digest_58 : decode cX4_digest 58 = .ok (.getfield 34, 3) := by decide +kernel
theorem dX4_digest_61 : decode cX4_digest 61 = .ok (.i2l, 1) := by decide +kernel
theorem dX4_digest_62 : decode cX4_digest 62 = .ok (.ladd, 1) := by decide +kernel
theorem dX4_digest_63 : decode cX4_digest 63 = .ok (.lreturn, 1) := by decide +kernel
theorem dX4_within_0 : decode cX4_within 0 = .ok (.iload_n 0, 1) := by decide +kernel
theorem dX4_within_1 : decode cX4_within 1 = .ok (.iload_n 1, 1) := by decide +kernel
theorem dX4_within_2 : decode cX4_within 2 = .ok (.if_icmp .lt 12, 3) := by decide +kernel
theorem dX4_within_5 : decode cX4_within 5 = .ok (.iload_n 0, 1) := by decide +kernel
theorem dX4_within_6 : decode cX4_within 6 = .ok (.iload_n 2, 1) := by decide +kernel
theorem dX4_within_7 : decode cX4_within 7 = .ok (.if_icmp .gt 7, 3) := by decide +kernel
theorem dX4_within_10 : decode cX4_within 10 = .ok (.iconst 1, 1) := by decide +kernel
theorem dX4_within_11 : decode cX4_within 11 = .ok (.goto 4, 3) := by decide +kernel
theorem dX4_within_14 : decode cX4_within 14 = .ok (.iconst 0, 1) := by decide +kernel
theorem dX4_within_15 : decode cX4_within 15 = .ok (.ireturn, 1) := by decide +kernel
theorem dX4_refuse_0 : decode cX4_refuse 0 = .ok (.iload_n 1, 1) := by decide +kernel
theorem dX4_refuse_1 : decode cX4_refuse 1 = .ok (.bipush (-2), 2) := by decide +kernel
theorem dX4_refuse_3 : decode cX4_refuse 3 = .ok (.if_icmp .ne 16, 3) := by decide +kernel
theorem dX4_refuse_6 : decode cX4_refuse 6 = .ok (.aload_n 0, 1) := by decide +kernel
theorem dX4_refuse_7 : decode cX4_refuse 7 = .ok (.dup, 1) := by decide +kernel
theorem dX4_refuse_8 : decode cX4_refuse 8 = .ok (.getfield 233, 3) := by decide +kernel
theorem dX4_refuse_11 : decode cX4_refuse 11 = .ok (.iconst 1, 1) := by decide +kernel
theorem dX4_refuse_12 : decode cX4_refuse 12 = .ok (.iadd, 1) := by decide +kernel
theorem dX4_refuse_13 : decode cX4_refuse 13 = .ok (.putfield 233, 3) := by decide +kernel
theorem dX4_refuse_16 : decode cX4_refuse 16 = .ok (.goto 32, 3) := by decide +kernel
theorem dX4_refuse_19 : decode cX4_refuse 19 = .ok (.iload_n 1, 1) := by decide +kernel
theorem dX4_refuse_20 : decode cX4_refuse 20 = .ok (.bipush (-3), 2) := by decide +kernel
theorem dX4_refuse_22 : decode cX4_refuse 22 = .ok (.if_icmp .ne 16, 3) := by decide +kernel
theorem dX4_refuse_25 : decode cX4_refuse 25 = .ok (.aload_n 0, 1) := by decide +kernel
theorem dX4_refuse_26 : decode cX4_refuse 26 = .ok (.dup, 1) := by decide +kernel
theorem dX4_refuse_27 : decode cX4_refuse 27 = .ok (.getfield 236, 3) := by decide +kernel
theorem dX4_refuse_30 : decode cX4_refuse 30 = .ok (.iconst 1, 1) := by decide +kernel
theorem dX4_refuse_31 : decode cX4_refuse 31 = .ok (.iadd, 1) := by decide +kernel
theorem dX4_refuse_32 : decode cX4_refuse 32 = .ok (.putfield 236, 3) := by decide +kernel
theorem dX4_refuse_35 : decode cX4_refuse 35 = .ok (.goto 13, 3) := by decide +kernel
theorem dX4_refuse_38 : decode cX4_refuse 38 = .ok (.aload_n 0, 1) := by decide +kernel
theorem dX4_refuse_39 : decode cX4_refuse 39 = .ok (.dup, 1) := by decide +kernel
theorem dX4_refuse_40 : decode cX4_refuse 40 = .ok (.getfield 239, 3) := by decide +kernel
theorem dX4_refuse_43 : decode cX4_refuse 43 = .ok (.iconst 1, 1) := by decide +kernel
theorem dX4_refuse_44 : decode cX4_refuse 44 = .ok (.iadd, 1) := by decide +kernel
theorem dX4_refuse_45 : decode cX4_refuse 45 = .ok (.putfield 239, 3) := by decide +kernel
theorem dX4_refuse_48 : decode cX4_refuse 48 = .ok (.iload_n 1, 1) := by decide +kernel
theorem dX4_refuse_49 : decode cX4_refuse 49 = .ok (.ireturn, 1) := by decide +kernel
theorem dX4_counted_0 : decode cX4_counted 0 = .ok (.iload_n 1, 1) := by decide +kernel
theorem dX4_counted_1 : decode cX4_counted 1 = .ok (.tableswitch 90 0 5 #[39, 47, 55, 63, 74, 82], 39) := by decide +kernel
theorem dX4_counted_40 : decode cX4_counted 40 = .ok (.aload_n 0, 1) := by decide +kernel
theorem dX4_counted_41 : decode cX4_counted 41 = .ok (.getfield 10, 3) := by decide +kernel
theorem dX4_counted_44 : decode cX4_counted 44 = .ok (.getfield 61, 3) := by decide +kernel
theorem dX4_counted_47 : decode cX4_counted 47 = .ok (.ireturn, 1) := by decide +kernel
theorem dX4_counted_48 : decode cX4_counted 48 = .ok (.aload_n 0, 1) := by decide +kernel
theorem dX4_counted_49 : decode cX4_counted 49 = .ok (.getfield 10, 3) := by decide +kernel
theorem dX4_counted_52 : decode cX4_counted 52 = .ok (.getfield 47, 3) := by decide +kernel
theorem dX4_counted_55 : decode cX4_counted 55 = .ok (.ireturn, 1) := by decide +kernel
theorem dX4_counted_56 : decode cX4_counted 56 = .ok (.aload_n 0, 1) := by decide +kernel
theorem dX4_counted_57 : decode cX4_counted 57 = .ok (.getfield 10, 3) := by decide +kernel
theorem dX4_counted_60 : decode cX4_counted 60 = .ok (.getfield 115, 3) := by decide +kernel
theorem dX4_counted_63 : decode cX4_counted 63 = .ok (.ireturn, 1) := by decide +kernel
theorem dX4_counted_64 : decode cX4_counted 64 = .ok (.aload_n 0, 1) := by decide +kernel
theorem dX4_counted_65 : decode cX4_counted 65 = .ok (.getfield 10, 3) := by decide +kernel
theorem dX4_counted_68 : decode cX4_counted 68 = .ok (.getfield 121, 3) := by decide +kernel
theorem dX4_counted_71 : decode cX4_counted 71 = .ok (.invokestatic 203, 3) := by decide +kernel
theorem dX4_counted_74 : decode cX4_counted 74 = .ok (.ireturn, 1) := by decide +kernel
theorem dX4_counted_75 : decode cX4_counted 75 = .ok (.aload_n 0, 1) := by decide +kernel
theorem dX4_counted_76 : decode cX4_counted 76 = .ok (.getfield 10, 3) := by decide +kernel
theorem dX4_counted_79 : decode cX4_counted 79 = .ok (.getfield 190, 3) := by decide +kernel
theorem dX4_counted_82 : decode cX4_counted 82 = .ok (.ireturn, 1) := by decide +kernel
theorem dX4_counted_83 : decode cX4_counted 83 = .ok (.aload_n 0, 1) := by decide +kernel
theorem dX4_counted_84 : decode cX4_counted 84 = .ok (.getfield 10, 3) := by decide +kernel
theorem dX4_counted_87 : decode cX4_counted 87 = .ok (.getfield 132, 3) := by decide +kernel
theorem dX4_counted_90 : decode cX4_counted 90 = .ok (.ireturn, 1) := by decide +kernel
theorem dX4_counted_91 : decode cX4_counted 91 = .ok (.aload_n 0, 1) := by decide +kernel
theorem dX4_counted_92 : decode cX4_counted 92 = .ok (.getfield 26, 3) := by decide +kernel
theorem dX4_counted_95 : decode cX4_counted 95 = .ok (.getfield 72, 3) := by decide +kernel
theorem dX4_counted_98 : decode cX4_counted 98 = .ok (.ireturn, 1) := by decide +kernel
theorem dX4_lookAhead_0 : decode cX4_lookAhead 0 = .ok (.aload_n 0, 1) := by decide +kernel
theorem dX4_lookAhead_1 : decode cX4_lookAhead 1 = .ok (.getfield 10, 3) := by decide +kernel
theorem dX4_lookAhead_4 : decode cX4_lookAhead 4 = .ok (.getfield 118, 3) := by decide +kernel
theorem dX4_lookAhead_7 : decode cX4_lookAhead 7 = .ok (.iconst 0, 1) := by decide +kernel
theorem dX4_lookAhead_8 : decode cX4_lookAhead 8 = .ok (.aload_n 0, 1) := by decide +kernel
theorem dX4_lookAhead_9 : decode cX4_lookAhead 9 = .ok (.getfield 37, 3) := by decide +kernel
theorem dX4_lookAhead_12 : decode cX4_lookAhead 12 = .ok (.iconst 0, 1) := by decide +kernel
theorem dX4_lookAhead_13 : decode cX4_lookAhead 13 = .ok (.iconst 4, 1) := by decide +kernel
theorem dX4_lookAhead_14 : decode cX4_lookAhead 14 = .ok (.invokestatic 253, 3) := by decide +kernel
theorem dX4_lookAhead_17 : decode cX4_lookAhead 17 = .ok (.iconst 0, 1) := by decide +kernel
theorem dX4_lookAhead_18 : decode cX4_lookAhead 18 = .ok (.istore_n 2, 1) := by decide +kernel
theorem dX4_lookAhead_19 : decode cX4_lookAhead 19 = .ok (.iload_n 2, 1) := by decide +kernel
theorem dX4_lookAhead_20 : decode cX4_lookAhead 20 = .ok (.iload_n 1, 1) := by decide +kernel
theorem dX4_lookAhead_21 : decode cX4_lookAhead 21 = .ok (.if_icmp .ge 44, 3) := by decide +kernel
theorem dX4_lookAhead_24 : decode cX4_lookAhead 24 = .ok (.aload_n 0, 1) := by decide +kernel
theorem dX4_lookAhead_25 : decode cX4_lookAhead 25 = .ok (.getfield 10, 3) := by decide +kernel
theorem dX4_lookAhead_28 : decode cX4_lookAhead 28 = .ok (.aload_n 0, 1) := by decide +kernel
theorem dX4_lookAhead_29 : decode cX4_lookAhead 29 = .ok (.getfield 37, 3) := by decide +kernel
theorem dX4_lookAhead_32 : decode cX4_lookAhead 32 = .ok (.aload_n 0, 1) := by decide +kernel
theorem dX4_lookAhead_33 : decode cX4_lookAhead 33 = .ok (.getfield 10, 3) := by decide +kernel
theorem dX4_lookAhead_36 : decode cX4_lookAhead 36 = .ok (.getfield 115, 3) := by decide +kernel
theorem dX4_lookAhead_39 : decode cX4_lookAhead 39 = .ok (.iload_n 2, 1) := by decide +kernel
theorem dX4_lookAhead_40 : decode cX4_lookAhead 40 = .ok (.iadd, 1) := by decide +kernel
theorem dX4_lookAhead_41 : decode cX4_lookAhead 41 = .ok (.iload_n 2, 1) := by decide +kernel
theorem dX4_lookAhead_42 : decode cX4_lookAhead 42 = .ok (.ifCond .ne 13, 3) := by decide +kernel
theorem dX4_lookAhead_45 : decode cX4_lookAhead 45 = .ok (.aload_n 0, 1) := by decide +kernel
theorem dX4_lookAhead_46 : decode cX4_lookAhead 46 = .ok (.getfield 10, 3) := by decide +kernel
theorem dX4_lookAhead_49 : decode cX4_lookAhead 49 = .ok (.getfield 121, 3) := by decide +kernel
theorem dX4_lookAhead_52 : decode cX4_lookAhead 52 = .ok (.goto 4, 3) := by decide +kernel
theorem dX4_lookAhead_55 : decode cX4_lookAhead 55 = .ok (.iconst 0, 1) := by decide +kernel
theorem dX4_lookAhead_56 : decode cX4_lookAhead 56 = .ok (.invokevirtual 124, 3) := by decide +kernel
theorem dX4_lookAhead_59 : decode cX4_lookAhead 59 = .ok (.iinc 2 1, 3) := by decide +kernel
theorem dX4_lookAhead_62 : decode cX4_lookAhead 62 = .ok (.goto (-43), 3) := by decide +kernel
theorem dX4_lookAhead_65 : decode cX4_lookAhead 65 = .ok (.return_, 1) := by decide +kernel
theorem dX4_winsByBribing_0 : decode cX4_winsByBribing 0 = .ok (.aload_n 0, 1) := by decide +kernel
theorem dX4_winsByBribing_1 : decode cX4_winsByBribing 1 = .ok (.iconst 0, 1) := by decide +kernel
theorem dX4_winsByBribing_2 : decode cX4_winsByBribing 2 = .ok (.invokevirtual 174, 3) := by decide +kernel
theorem dX4_winsByBribing_5 : decode cX4_winsByBribing 5 = .ok (.aload_n 0, 1) := by decide +kernel
theorem dX4_winsByBribing_6 : decode cX4_winsByBribing 6 = .ok (.getfield 10, 3) := by decide +kernel
theorem dX4_winsByBribing_9 : decode cX4_winsByBribing 9 = .ok (.aload_n 0, 1) := by decide +kernel
theorem dX4_winsByBribing_10 : decode cX4_winsByBribing 10 = .ok (.getfield 37, 3) := by decide +kernel
theorem dX4_winsByBribing_13 : decode cX4_winsByBribing 13 = .ok (.aload_n 0, 1) := by decide +kernel
theorem dX4_winsByBribing_14 : decode cX4_winsByBribing 14 = .ok (.getfield 10, 3) := by decide +kernel
theorem dX4_winsByBribing_17 : decode cX4_winsByBribing 17 = .ok (.getfield 115, 3) := by decide +kernel
theorem dX4_winsByBribing_20 : decode cX4_winsByBribing 20 = .ok (.aload_n 0, 1) := by decide +kernel
theorem dX4_winsByBribing_21 : decode cX4_winsByBribing 21 = .ok (.getfield 10, 3) := by decide +kernel
theorem dX4_winsByBribing_24 : decode cX4_winsByBribing 24 = .ok (.getfield 121, 3) := by decide +kernel
theorem dX4_winsByBribing_27 : decode cX4_winsByBribing 27 = .ok (.iload_n 2, 1) := by decide +kernel
theorem dX4_winsByBribing_28 : decode cX4_winsByBribing 28 = .ok (.ior, 1) := by decide +kernel
theorem dX4_winsByBribing_29 : decode cX4_winsByBribing 29 = .ok (.invokevirtual 124, 3) := by decide +kernel
theorem dX4_winsByBribing_32 : decode cX4_winsByBribing 32 = .ok (.aload_n 0, 1) := by decide +kernel
theorem dX4_winsByBribing_33 : decode cX4_winsByBribing 33 = .ok (.getfield 37, 3) := by decide +kernel
theorem dX4_winsByBribing_36 : decode cX4_winsByBribing 36 = .ok (.aload_n 0, 1) := by decide +kernel
theorem dX4_winsByBribing_37 : decode cX4_winsByBribing 37 = .ok (.getfield 10, 3) := by decide +kernel
theorem dX4_winsByBribing_40 : decode cX4_winsByBribing 40 = .ok (.getfield 61, 3) := by decide +kernel
theorem dX4_winsByBribing_43 : decode cX4_winsByBribing 43 = .ok (.invokestatic 128, 3) := by decide +kernel
theorem dX4_winsByBribing_46 : decode cX4_winsByBribing 46 = .ok (.iload_n 1, 1) := by decide +kernel
theorem dX4_winsByBribing_47 : decode cX4_winsByBribing 47 = .ok (.if_icmp .ne 7, 3) := by decide +kernel
theorem dX4_winsByBribing_50 : decode cX4_winsByBribing 50 = .ok (.iconst 1, 1) := by decide +kernel
theorem dX4_winsByBribing_51 : decode cX4_winsByBribing 51 = .ok (.goto 4, 3) := by decide +kernel
theorem dX4_winsByBribing_54 : decode cX4_winsByBribing 54 = .ok (.iconst 0, 1) := by decide +kernel
theorem dX4_winsByBribing_55 : decode cX4_winsByBribing 55 = .ok (.ireturn, 1) := by decide +kernel
theorem dX4_postmanOf_0 : decode cX4_postmanOf 0 = .ok (.iconst (-1), 1) := by decide +kernel
theorem dX4_postmanOf_1 : decode cX4_postmanOf 1 = .ok (.istore_n 2, 1) := by decide +kernel
theorem dX4_postmanOf_2 : decode cX4_postmanOf 2 = .ok (.iconst 0, 1) := by decide +kernel
theorem dX4_postmanOf_3 : decode cX4_postmanOf 3 = .ok (.istore_n 3, 1) := by decide +kernel
theorem dX4_postmanOf_4 : decode cX4_postmanOf 4 = .ok (.iload_n 3, 1) := by decide +kernel
theorem dX4_postmanOf_5 : decode cX4_postmanOf 5 = .ok (.iload_n 1, 1) := by decide +kernel
theorem dX4_postmanOf_6 : decode cX4_postmanOf 6 = .ok (.if_icmp .ge 32, 3) := by decide +kernel
theorem dX4_postmanOf_9 : decode cX4_postmanOf 9 = .ok (.aload_n 0, 1) := by decide +kernel
theorem dX4_postmanOf_10 : decode cX4_postmanOf 10 = .ok (.iload_n 3, 1) := by decide +kernel
theorem dX4_postmanOf_11 : decode cX4_postmanOf 11 = .ok (.iaload, 1) := by decide +kernel
theorem dX4_postmanOf_12 : decode cX4_postmanOf 12 = .ok (.iconst 1, 1) := by decide +kernel
theorem dX4_postmanOf_13 : decode cX4_postmanOf 13 = .ok (.if_icmp .lt 19, 3) := by decide +kernel
theorem dX4_postmanOf_16 : decode cX4_postmanOf 16 = .ok (.iload_n 2, 1) := by decide +kernel
theorem dX4_postmanOf_17 : decode cX4_postmanOf 17 = .ok (.iconst (-1), 1) := by decide +kernel
theorem dX4_postmanOf_18 : decode cX4_postmanOf 18 = .ok (.if_icmp .eq 12, 3) := by decide +kernel
theorem dX4_postmanOf_21 : decode cX4_postmanOf 21 = .ok (.aload_n 0, 1) := by decide +kernel
theorem dX4_postmanOf_22 : decode cX4_postmanOf 22 = .ok (.iload_n 3, 1) := by decide +kernel
theorem dX4_postmanOf_23 : decode cX4_postmanOf 23 = .ok (.iaload, 1) := by decide +kernel
theorem dX4_postmanOf_24 : decode cX4_postmanOf 24 = .ok (.aload_n 0, 1) := by decide +kernel
theorem dX4_postmanOf_25 : decode cX4_postmanOf 25 = .ok (.iload_n 2, 1) := by decide +kernel
theorem dX4_postmanOf_26 : decode cX4_postmanOf 26 = .ok (.iaload, 1) := by decide +kernel
theorem dX4_postmanOf_27 : decode cX4_postmanOf 27 = .ok (.if_icmp .ge 5, 3) := by decide +kernel
theorem dX4_postmanOf_30 : decode cX4_postmanOf 30 = .ok (.iload_n 3, 1) := by decide +kernel
theorem dX4_postmanOf_31 : decode cX4_postmanOf 31 = .ok (.istore_n 2, 1) := by decide +kernel
theorem dX4_postmanOf_32 : decode cX4_postmanOf 32 = .ok (.iinc 3 1, 3) := by decide +kernel
theorem dX4_postmanOf_35 : decode cX4_postmanOf 35 = .ok (.goto (-31), 3) := by decide +kernel
theorem dX4_postmanOf_38 : decode cX4_postmanOf 38 = .ok (.iload_n 2, 1) := by decide +kernel
theorem dX4_postmanOf_39 : decode cX4_postmanOf 39 = .ok (.ireturn, 1) := by decide +kernel
theorem dX4_leaverOf_0 : decode cX4_leaverOf 0 = .ok (.iconst (-1), 1) := by decide +kernel
theorem dX4_leaverOf_1 : decode cX4_leaverOf 1 = .ok (.istore_n 2, 1) := by decide +kernel
theorem dX4_leaverOf_2 : decode cX4_leaverOf 2 = .ok (.iconst 0, 1) := by decide +kernel
theorem dX4_leaverOf_3 : decode cX4_leaverOf 3 = .ok (.istore_n 3, 1) := by decide +kernel
theorem dX4_leaverOf_4 : decode cX4_leaverOf 4 = .ok (.iload_n 3, 1) := by decide +kernel
theorem dX4_leaverOf_5 : decode cX4_leaverOf 5 = .ok (.iload_n 1, 1) := by decide +kernel
theorem dX4_leaverOf_6 : decode cX4_leaverOf 6 = .ok (.if_icmp .ge 32, 3) := by decide +kernel
theorem dX4_leaverOf_9 : decode cX4_leaverOf 9 = .ok (.aload_n 0, 1) := by decide +kernel
theorem dX4_leaverOf_10 : decode cX4_leaverOf 10 = .ok (.iload_n 3, 1) := by decide +kernel
theorem dX4_leaverOf_11 : decode cX4_leaverOf 11 = .ok (.iaload, 1) := by decide +kernel
theorem dX4_leaverOf_12 : decode cX4_leaverOf 12 = .ok (.iconst 1, 1) := by decide +kernel
theorem dX4_leaverOf_13 : decode cX4_leaverOf 13 = .ok (.if_icmp .lt 19, 3) := by decide +kernel
theorem dX4_leaverOf_16 : decode cX4_leaverOf 16 = .ok (.iload_n 2, 1) := by decide +kernel
theorem dX4_leaverOf_17 : decode cX4_leaverOf 17 = .ok (.iconst (-1), 1) := by decide +kernel
theorem dX4_leaverOf_18 : decode cX4_leaverOf 18 = .ok (.if_icmp .eq 12, 3) := by decide +kernel
theorem dX4_leaverOf_21 : decode cX4_leaverOf 21 = .ok (.aload_n 0, 1) := by decide +kernel
theorem dX4_leaverOf_22 : decode cX4_leaverOf 22 = .ok (.iload_n 3, 1) := by decide +kernel
theorem dX4_leaverOf_23 : decode cX4_leaverOf 23 = .ok (.iaload, 1) := by decide +kernel
theorem dX4_leaverOf_24 : decode cX4_leaverOf 24 = .ok (.aload_n 0, 1) := by decide +kernel
theorem dX4_leaverOf_25 : decode cX4_leaverOf 25 = .ok (.iload_n 2, 1) := by decide +kernel
theorem dX4_leaverOf_26 : decode cX4_leaverOf 26 = .ok (.iaload, 1) := by decide +kernel
theorem dX4_leaverOf_27 : decode cX4_leaverOf 27 = .ok (.if_icmp .le 5, 3) := by decide +kernel
theorem dX4_leaverOf_30 : decode cX4_leaverOf 30 = .ok (.iload_n 3, 1) := by decide +kernel
theorem dX4_leaverOf_31 : decode cX4_leaverOf 31 = .ok (.istore_n 2, 1) := by decide +kernel
theorem dX4_leaverOf_32 : decode cX4_leaverOf 32 = .ok (.iinc 3 1, 3) := by decide +kernel
theorem dX4_leaverOf_35 : decode cX4_leaverOf 35 = .ok (.goto (-31), 3) := by decide +kernel
theorem dX4_leaverOf_38 : decode cX4_leaverOf 38 = .ok (.iload_n 2, 1) := by decide +kernel
theorem dX4_leaverOf_39 : decode cX4_leaverOf 39 = .ok (.ireturn, 1) := by decide +kernel
theorem dX4_mayChoose_0 : decode cX4_mayChoose 0 = .ok (.iload_n 1, 1) := by decide +kernel
theorem dX4_mayChoose_1 : decode cX4_mayChoose 1 = .ok (.bipush 7, 2) := by decide +kernel
theorem dX4_mayChoose_3 : decode cX4_mayChoose 3 = .ok (.if_icmp .eq 25, 3) := by decide +kernel
theorem dX4_mayChoose_6 : decode cX4_mayChoose 6 = .ok (.aload_n 0, 1) := by decide +kernel
theorem dX4_mayChoose_7 : decode cX4_mayChoose 7 = .ok (.getfield 10, 3) := by decide +kernel
theorem dX4_mayChoose_10 : decode cX4_mayChoose 10 = .ok (.iload_n 1, 1) := by decide +kernel
theorem dX4_mayChoose_11 : decode cX4_mayChoose 11 = .ok (.invokevirtual 98, 3) := by decide +kernel
theorem dX4_mayChoose_14 : decode cX4_mayChoose 14 = .ok (.ifCond .eq 18, 3) := by decide +kernel
theorem dX4_mayChoose_17 : decode cX4_mayChoose 17 = .ok (.aload_n 0, 1) := by decide +kernel
theorem dX4_mayChoose_18 : decode cX4_mayChoose 18 = .ok (.getfield 10, 3) := by decide +kernel
theorem dX4_mayChoose_21 : decode cX4_mayChoose 21 = .ok (.iload_n 1, 1) := by decide +kernel
theorem dX4_mayChoose_22 : decode cX4_mayChoose 22 = .ok (.invokevirtual 153, 3) := by decide +kernel
theorem dX4_mayChoose_25 : decode cX4_mayChoose 25 = .ok (.ifCond .ne 7, 3) := by decide +kernel
theorem dX4_mayChoose_28 : decode cX4_mayChoose 28 = .ok (.iconst 1, 1) := by decide +kernel
theorem dX4_mayChoose_29 : decode cX4_mayChoose 29 = .ok (.goto 4, 3) := by decide +kernel
theorem dX4_mayChoose_32 : decode cX4_mayChoose 32 = .ok (.iconst 0, 1) := by decide +kernel
theorem dX4_mayChoose_33 : decode cX4_mayChoose 33 = .ok (.ireturn, 1) := by decide +kernel
theorem dX4_fillGains_0 : decode cX4_fillGains 0 = .ok (.aload_n 0, 1) := by decide +kernel
theorem dX4_fillGains_1 : decode cX4_fillGains 1 = .ok (.getfield 10, 3) := by decide +kernel
theorem dX4_fillGains_4 : decode cX4_fillGains 4 = .ok (.aload_n 0, 1) := by decide +kernel
theorem dX4_fillGains_5 : decode cX4_fillGains 5 = .ok (.getfield 10, 3) := by decide +kernel
theorem dX4_fillGains_8 : decode cX4_fillGains 8 = .ok (.getfield 115, 3) := by decide +kernel
theorem dX4_fillGains_11 : decode cX4_fillGains 11 = .ok (.invokevirtual 164, 3) := by decide +kernel
theorem dX4_fillGains_14 : decode cX4_fillGains 14 = .ok (.istore_n 3, 1) := by decide +kernel
theorem dX4_fillGains_15 : decode cX4_fillGains 15 = .ok (.iconst 0, 1) := by decide +kernel
theorem dX4_fillGains_16 : decode cX4_fillGains 16 = .ok (.istore 4, 2) := by decide +kernel
theorem dX4_fillGains_18 : decode cX4_fillGains 18 = .ok (.iload 4, 2) := by decide +kernel
theorem dX4_fillGains_20 : decode cX4_fillGains 20 = .ok (.bipush 8, 2) := by decide +kernel
theorem dX4_fillGains_22 : decode cX4_fillGains 22 = .ok (.if_icmp .ge 129, 3) := by decide +kernel
theorem dX4_fillGains_25 : decode cX4_fillGains 25 = .ok (.iconst 0, 1) := by decide +kernel
theorem dX4_fillGains_26 : decode cX4_fillGains 26 = .ok (.istore 5, 2) := by decide +kernel
theorem dX4_fillGains_28 : decode cX4_fillGains 28 = .ok (.iload 5, 2) := by decide +kernel
theorem dX4_fillGains_30 : decode cX4_fillGains 30 = .ok (.bipush 8, 2) := by decide +kernel
theorem dX4_fillGains_32 : decode cX4_fillGains 32 = .ok (.if_icmp .ge 113, 3) := by decide +kernel
theorem dX4_fillGains_35 : decode cX4_fillGains 35 = .ok (.aload_n 0, 1) := by decide +kernel
theorem dX4_fillGains_36 : decode cX4_fillGains 36 = .ok (.iload 4, 2) := by decide +kernel
theorem dX4_fillGains_38 : decode cX4_fillGains 38 = .ok (.invokevirtual 259, 3) := by decide +kernel
theorem dX4_fillGains_41 : decode cX4_fillGains 41 = .ok (.ifCond .eq 98, 3) := by decide +kernel
theorem dX4_fillGains_44 : decode cX4_fillGains 44 = .ok (.aload_n 0, 1) := by decide +kernel
theorem dX4_fillGains_45 : decode cX4_fillGains 45 = .ok (.iload 5, 2) := by decide +kernel
theorem dX4_fillGains_47 : decode cX4_fillGains 47 = .ok (.invokevirtual 259, 3) := by decide +kernel
theorem dX4_fillGains_50 : decode cX4_fillGains 50 = .ok (.ifCond .ne 6, 3) := by decide +kernel
theorem dX4_fillGains_53 : decode cX4_fillGains 53 = .ok (.goto 86, 3) := by decide +kernel
theorem dX4_fillGains_56 : decode cX4_fillGains 56 = .ok (.aload_n 0, 1) := by decide +kernel
theorem dX4_fillGains_57 : decode cX4_fillGains 57 = .ok (.getfield 10, 3) := by decide +kernel
theorem dX4_fillGains_60 : decode cX4_fillGains 60 = .ok (.getfield 121, 3) := by decide +kernel
theorem dX4_fillGains_63 : decode cX4_fillGains 63 = .ok (.iload 4, 2) := by decide +kernel
theorem dX4_fillGains_65 : decode cX4_fillGains 65 = .ok (.invokestatic 262, 3) := by decide +kernel
theorem dX4_fillGains_68 : decode cX4_fillGains 68 = .ok (.ior, 1) := by decide +kernel
theorem dX4_fillGains_69 : decode cX4_fillGains 69 = .ok (.iload 5, 2) := by decide +kernel
theorem dX4_fillGains_71 : decode cX4_fillGains 71 = .ok (.invokestatic 262, 3) := by decide +kernel
theorem dX4_fillGains_74 : decode cX4_fillGains 74 = .ok (.ior, 1) := by decide +kernel
theorem dX4_fillGains_75 : decode cX4_fillGains 75 = .ok (.istore 6, 2) := by decide +kernel
theorem dX4_fillGains_77 : decode cX4_fillGains 77 = .ok (.aload_n 0, 1) := by decide +kernel
theorem dX4_fillGains_78 : decode cX4_fillGains 78 = .ok (.getfield 41, 3) := by decide +kernel
theorem dX4_fillGains_81 : decode cX4_fillGains 81 = .ok (.bipush 8, 2) := by decide +kernel
theorem dX4_fillGains_83 : decode cX4_fillGains 83 = .ok (.iload 4, 2) := by decide +kernel
theorem dX4_fillGains_85 : decode cX4_fillGains 85 = .ok (.imul, 1) := by decide +kernel
theorem dX4_fillGains_86 : decode cX4_fillGains 86 = .ok (.iload 5, 2) := by decide +kernel
theorem dX4_fillGains_88 : decode cX4_fillGains 88 = .ok (.iadd, 1) := by decide +kernel
theorem dX4_fillGains_89 : decode cX4_fillGains 89 = .ok (.aload_n 0, 1) := by decide +kernel
theorem dX4_fillGains_90 : decode cX4_fillGains 90 = .ok (.getfield 10, 3) := by decide +kernel
theorem dX4_fillGains_93 : decode cX4_fillGains 93 = .ok (.iload_n 1, 1) := by decide +kernel
theorem dX4_fillGains_94 : decode cX4_fillGains 94 = .ok (.iload_n 3, 1) := by decide +kernel
theorem dX4_fillGains_95 : decode cX4_fillGains 95 = .ok (.iload 6, 2) := by decide +kernel
theorem dX4_fillGains_97 : decode cX4_fillGains 97 = .ok (.invokevirtual 171, 3) := by decide +kernel
theorem dX4_fillGains_100 : decode cX4_fillGains 100 = .ok (.ineg, 1) := by decide +kernel
theorem dX4_fillGains_101 : decode cX4_fillGains 101 = .ok (.iload 4, 2) := by decide +kernel
theorem dX4_fillGains_103 : decode cX4_fillGains 103 = .ok (.invokestatic 265, 3) := by decide +kernel
theorem dX4_fillGains_106 : decode cX4_fillGains 106 = .ok (.isub, 1) := by decide +kernel
theorem dX4_fillGains_107 : decode cX4_fillGains 107 = .ok (.iastore, 1) := by decide +kernel
theorem dX4_fillGains_108 : decode cX4_fillGains 108 = .ok (.aload_n 0, 1) := by decide +kernel
theorem dX4_fillGains_109 : decode cX4_fillGains 109 = .ok (.getfield 44, 3) := by decide +kernel
theorem dX4_fillGains_112 : decode cX4_fillGains 112 = .ok (.bipush 8, 2) := by decide +kernel
theorem dX4_fillGains_114 : decode cX4_fillGains 114 = .ok (.iload 4, 2) := by decide +kernel
theorem dX4_fillGains_116 : decode cX4_fillGains 116 = .ok (.imul, 1) := by decide +kernel
theorem dX4_fillGains_117 : decode cX4_fillGains 117 = .ok (.iload 5, 2) := by decide +kernel
theorem dX4_fillGains_119 : decode cX4_fillGains 119 = .ok (.iadd, 1) := by decide +kernel
theorem dX4_fillGains_120 : decode cX4_fillGains 120 = .ok (.aload_n 0, 1) := by decide +kernel
theorem dX4_fillGains_121 : decode cX4_fillGains 121 = .ok (.getfield 10, 3) := by decide +kernel
theorem dX4_fillGains_124 : decode cX4_fillGains 124 = .ok (.iload_n 2, 1) := by decide +kernel
theorem dX4_fillGains_125 : decode cX4_fillGains 125 = .ok (.iload_n 3, 1) := by decide +kernel
theorem dX4_fillGains_126 : decode cX4_fillGains 126 = .ok (.iload 6, 2) := by decide +kernel
theorem dX4_fillGains_128 : decode cX4_fillGains 128 = .ok (.invokevirtual 171, 3) := by decide +kernel
theorem dX4_fillGains_131 : decode cX4_fillGains 131 = .ok (.ineg, 1) := by decide +kernel
theorem dX4_fillGains_132 : decode cX4_fillGains 132 = .ok (.iload 5, 2) := by decide +kernel
theorem dX4_fillGains_134 : decode cX4_fillGains 134 = .ok (.invokestatic 265, 3) := by decide +kernel
theorem dX4_fillGains_137 : decode cX4_fillGains 137 = .ok (.isub, 1) := by decide +kernel
theorem dX4_fillGains_138 : decode cX4_fillGains 138 = .ok (.iastore, 1) := by decide +kernel
theorem dX4_fillGains_139 : decode cX4_fillGains 139 = .ok (.iinc 5 1, 3) := by decide +kernel
theorem dX4_fillGains_142 : decode cX4_fillGains 142 = .ok (.goto (-114), 3) := by decide +kernel
theorem dX4_fillGains_145 : decode cX4_fillGains 145 = .ok (.iinc 4 1, 3) := by decide +kernel
theorem dX4_fillGains_148 : decode cX4_fillGains 148 = .ok (.goto (-130), 3) := by decide +kernel
theorem dX4_fillGains_151 : decode cX4_fillGains 151 = .ok (.return_, 1) := by decide +kernel
theorem dX4_doorOf_0 : decode cX4_doorOf 0 = .ok (.iload_n 0, 1) := by decide +kernel
theorem dX4_doorOf_1 : decode cX4_doorOf 1 = .ok (.bipush 7, 2) := by decide +kernel
theorem dX4_doorOf_3 : decode cX4_doorOf 3 = .ok (.if_icmp .ne 7, 3) := by decide +kernel
theorem dX4_doorOf_6 : decode cX4_doorOf 6 = .ok (.iconst 0, 1) := by decide +kernel
theorem dX4_doorOf_7 : decode cX4_doorOf 7 = .ok (.goto 6, 3) := by decide +kernel
theorem dX4_doorOf_10 : decode cX4_doorOf 10 = .ok (.iconst 1, 1) := by decide +kernel
theorem dX4_doorOf_11 : decode cX4_doorOf 11 = .ok (.iload_n 0, 1) := by decide +kernel
theorem dX4_doorOf_12 : decode cX4_doorOf 12 = .ok (.ishl, 1) := by decide +kernel
theorem dX4_doorOf_13 : decode cX4_doorOf 13 = .ok (.ireturn, 1) := by decide +kernel
theorem dX4_priceOf_0 : decode cX4_priceOf 0 = .ok (.iload_n 0, 1) := by decide +kernel
theorem dX4_priceOf_1 : decode cX4_priceOf 1 = .ok (.bipush 7, 2) := by decide +kernel
theorem dX4_priceOf_3 : decode cX4_priceOf 3 = .ok (.if_icmp .ne 7, 3) := by decide +kernel
theorem dX4_priceOf_6 : decode cX4_priceOf 6 = .ok (.iconst 0, 1) := by decide +kernel
theorem dX4_priceOf_7 : decode cX4_priceOf 7 = .ok (.goto 4, 3) := by decide +kernel
theorem dX4_priceOf_10 : decode cX4_priceOf 10 = .ok (.iconst 1, 1) := by decide +kernel
theorem dX4_priceOf_11 : decode cX4_priceOf 11 = .ok (.ireturn, 1) := by decide +kernel
theorem dX4_rests_0 : decode cX4_rests 0 = .ok (.aload_n 0, 1) := by decide +kernel
theorem dX4_rests_1 : decode cX4_rests 1 = .ok (.iload_n 1, 1) := by decide +kernel
theorem dX4_rests_2 : decode cX4_rests 2 = .ok (.invokevirtual 259, 3) := by decide +kernel
theorem dX4_rests_5 : decode cX4_rests 5 = .ok (.ifCond .eq 11, 3) := by decide +kernel
theorem dX4_rests_8 : decode cX4_rests 8 = .ok (.aload_n 0, 1) := by decide +kernel
theorem dX4_rests_9 : decode cX4_rests 9 = .ok (.iload_n 2, 1) := by decide +kernel
theorem dX4_rests_10 : decode cX4_rests 10 = .ok (.invokevirtual 259, 3) := by decide +kernel
theorem dX4_rests_13 : decode cX4_rests 13 = .ok (.ifCond .ne 5, 3) := by decide +kernel
theorem dX4_rests_16 : decode cX4_rests 16 = .ok (.iconst 0, 1) := by decide +kernel
theorem dX4_rests_17 : decode cX4_rests 17 = .ok (.ireturn, 1) := by decide +kernel
theorem dX4_rests_18 : decode cX4_rests 18 = .ok (.bipush 8, 2) := by decide +kernel
theorem dX4_rests_20 : decode cX4_rests 20 = .ok (.iload_n 1, 1) := by decide +kernel
theorem dX4_rests_21 : decode cX4_rests 21 = .ok (.imul, 1) := by decide +kernel
theorem dX4_rests_22 : decode cX4_rests 22 = .ok (.iload_n 2, 1) := by decide +kernel
theorem dX4_rests_23 : decode cX4_rests 23 = .ok (.iadd, 1) := by decide +kernel
theorem dX4_rests_24 : decode cX4_rests 24 = .ok (.istore_n 3, 1) := by decide +kernel
theorem dX4_rests_25 : decode cX4_rests 25 = .ok (.iconst 0, 1) := by decide +kernel
theorem dX4_rests_26 : decode cX4_rests 26 = .ok (.istore 4, 2) := by decide +kernel
theorem dX4_rests_28 : decode cX4_rests 28 = .ok (.iload 4, 2) := by decide +kernel
theorem dX4_rests_30 : decode cX4_rests 30 = .ok (.bipush 8, 2) := by decide +kernel
theorem dX4_rests_32 : decode cX4_rests 32 = .ok (.if_icmp .ge 65, 3) := by decide +kernel
theorem dX4_rests_35 : decode cX4_rests 35 = .ok (.aload_n 0, 1) := by decide +kernel
theorem dX4_rests_36 : decode cX4_rests 36 = .ok (.iload 4, 2) := by decide +kernel
theorem dX4_rests_38 : decode cX4_rests 38 = .ok (.invokevirtual 259, 3) := by decide +kernel
theorem dX4_rests_41 : decode cX4_rests 41 = .ok (.ifCond .ne 6, 3) := by decide +kernel
theorem dX4_rests_44 : decode cX4_rests 44 = .ok (.goto 47, 3) := by decide +kernel
theorem dX4_rests_47 : decode cX4_rests 47 = .ok (.aload_n 0, 1) := by decide +kernel
theorem dX4_rests_48 : decode cX4_rests 48 = .ok (.getfield 41, 3) := by decide +kernel
theorem dX4_rests_51 : decode cX4_rests 51 = .ok (.bipush 8, 2) := by decide +kernel
theorem dX4_rests_53 : decode cX4_rests 53 = .ok (.iload 4, 2) := by decide +kernel
theorem dX4_rests_55 : decode cX4_rests 55 = .ok (.imul, 1) := by decide +kernel
theorem dX4_rests_56 : decode cX4_rests 56 = .ok (.iload_n 2, 1) := by decide +kernel
theorem dX4_rests_57 : decode cX4_rests 57 = .ok (.iadd, 1) := by decide +kernel
theorem dX4_rests_58 : decode cX4_rests 58 = .ok (.iaload, 1) := by decide +kernel
theorem dX4_rests_59 : decode cX4_rests 59 = .ok (.aload_n 0, 1) := by decide +kernel
theorem dX4_rests_60 : decode cX4_rests 60 = .ok (.getfield 41, 3) := by decide +kernel
theorem dX4_rests_63 : decode cX4_rests 63 = .ok (.iload_n 3, 1) := by decide +kernel
theorem dX4_rests_64 : decode cX4_rests 64 = .ok (.iaload, 1) := by decide +kernel
theorem dX4_rests_65 : decode cX4_rests 65 = .ok (.if_icmp .gt 24, 3) := by decide +kernel
theorem dX4_rests_68 : decode cX4_rests 68 = .ok (.aload_n 0, 1) := by decide +kernel
theorem dX4_rests_69 : decode cX4_rests 69 = .ok (.getfield 44, 3) := by decide +kernel
theorem dX4_rests_72 : decode cX4_rests 72 = .ok (.bipush 8, 2) := by decide +kernel
theorem dX4_rests_74 : decode cX4_rests 74 = .ok (.iload_n 1, 1) := by decide +kernel
theorem dX4_rests_75 : decode cX4_rests 75 = .ok (.imul, 1) := by decide +kernel
theorem dX4_rests_76 : decode cX4_rests 76 = .ok (.iload 4, 2) := by decide +kernel
theorem dX4_rests_78 : decode cX4_rests 78 = .ok (.iadd, 1) := by decide +kernel
theorem dX4_rests_79 : decode cX4_rests 79 = .ok (.iaload, 1) := by decide +kernel
theorem dX4_rests_80 : decode cX4_rests 80 = .ok (.aload_n 0, 1) := by decide +kernel
theorem dX4_rests_81 : decode cX4_rests 81 = .ok (.getfield 44, 3) := by decide +kernel
theorem dX4_rests_84 : decode cX4_rests 84 = .ok (.iload_n 3, 1) := by decide +kernel
theorem dX4_rests_85 : decode cX4_rests 85 = .ok (.iaload, 1) := by decide +kernel
theorem dX4_rests_86 : decode cX4_rests 86 = .ok (.if_icmp .le 5, 3) := by decide +kernel
theorem dX4_rests_89 : decode cX4_rests 89 = .ok (.iconst 0, 1) := by decide +kernel
theorem dX4_rests_90 : decode cX4_rests 90 = .ok (.ireturn, 1) := by decide +kernel
theorem dX4_rests_91 : decode cX4_rests 91 = .ok (.iinc 4 1, 3) := by decide +kernel
theorem dX4_rests_94 : decode cX4_rests 94 = .ok (.goto (-66), 3) := by decide +kernel
theorem dX4_rests_97 : decode cX4_rests 97 = .ok (.iconst 1, 1) := by decide +kernel
theorem dX4_rests_98 : decode cX4_rests 98 = .ok (.ireturn, 1) := by decide +kernel
theorem dX4_commonDivisor_0 : decode cX4_commonDivisor 0 = .ok (.iload_n 0, 1) := by decide +kernel
theorem dX4_commonDivisor_1 : decode cX4_commonDivisor 1 = .ok (.istore_n 2, 1) := by decide +kernel
theorem dX4_commonDivisor_2 : decode cX4_commonDivisor 2 = .ok (.iload_n 1, 1) := by decide +kernel
theorem dX4_commonDivisor_3 : decode cX4_commonDivisor 3 = .ok (.istore_n 3, 1) := by decide +kernel
theorem dX4_commonDivisor_4 : decode cX4_commonDivisor 4 = .ok (.iconst 0, 1) := by decide +kernel
theorem dX4_commonDivisor_5 : decode cX4_commonDivisor 5 = .ok (.istore 4, 2) := by decide +kernel
theorem dX4_commonDivisor_7 : decode cX4_commonDivisor 7 = .ok (.iload 4, 2) := by decide +kernel
theorem dX4_commonDivisor_9 : decode cX4_commonDivisor 9 = .ok (.bipush 100, 2) := by decide +kernel
theorem dX4_commonDivisor_11 : decode cX4_commonDivisor 11 = .ok (.if_icmp .ge 23, 3) := by decide +kernel
theorem dX4_commonDivisor_14 : decode cX4_commonDivisor 14 = .ok (.iload_n 3, 1) := by decide +kernel
theorem dX4_commonDivisor_15 : decode cX4_commonDivisor 15 = .ok (.ifCond .eq 19, 3) := by decide +kernel
theorem dX4_commonDivisor_18 : decode cX4_commonDivisor 18 = .ok (.iload_n 2, 1) := by decide +kernel
theorem dX4_commonDivisor_19 : decode cX4_commonDivisor 19 = .ok (.iload_n 3, 1) := by decide +kernel
theorem dX4_commonDivisor_20 : decode cX4_commonDivisor 20 = .ok (.irem, 1) := by decide +kernel
theorem dX4_commonDivisor_21 : decode cX4_commonDivisor 21 = .ok (.istore 5, 2) := by decide +kernel
theorem dX4_commonDivisor_23 : decode cX4_commonDivisor 23 = .ok (.iload_n 3, 1) := by decide +kernel
theorem dX4_commonDivisor_24 : decode cX4_commonDivisor 24 = .ok (.istore_n 2, 1) := by decide +kernel
theorem dX4_commonDivisor_25 : decode cX4_commonDivisor 25 = .ok (.iload 5, 2) := by decide +kernel
theorem dX4_commonDivisor_27 : decode cX4_commonDivisor 27 = .ok (.istore_n 3, 1) := by decide +kernel
theorem dX4_commonDivisor_28 : decode cX4_commonDivisor 28 = .ok (.iinc 4 1, 3) := by decide +kernel
theorem dX4_commonDivisor_31 : decode cX4_commonDivisor 31 = .ok (.goto (-24), 3) := by decide +kernel
theorem dX4_commonDivisor_34 : decode cX4_commonDivisor 34 = .ok (.iload_n 2, 1) := by decide +kernel
theorem dX4_commonDivisor_35 : decode cX4_commonDivisor 35 = .ok (.ifCond .ne 7, 3) := by decide +kernel
theorem dX4_commonDivisor_38 : decode cX4_commonDivisor 38 = .ok (.iconst 1, 1) := by decide +kernel
theorem dX4_commonDivisor_39 : decode cX4_commonDivisor 39 = .ok (.goto 4, 3) := by decide +kernel
theorem dX4_commonDivisor_42 : decode cX4_commonDivisor 42 = .ok (.iload_n 2, 1) := by decide +kernel
theorem dX4_commonDivisor_43 : decode cX4_commonDivisor 43 = .ok (.ireturn, 1) := by decide +kernel
theorem dX5_bad_0 : decode cX5_bad 0 = .ok (.aload_n 0, 1) := by decide +kernel
theorem dX5_bad_1 : decode cX5_bad 1 = .ok (.getfield 1, 3) := by decide +kernel
theorem dX5_bad_4 : decode cX5_bad 4 = .ok (.iconst 0, 1) := by decide +kernel
theorem dX5_bad_5 : decode cX5_bad 5 = .ok (.dup2, 1) := by decide +kernel
theorem dX5_bad_6 : decode cX5_bad 6 = .ok (.iaload, 1) := by decide +kernel
theorem dX5_bad_7 : decode cX5_bad 7 = .ok (.iconst 1, 1) := by decide +kernel
theorem dX5_bad_8 : decode cX5_bad 8 = .ok (.iadd, 1) := by decide +kernel
theorem dX5_bad_9 : decode cX5_bad 9 = .ok (.iastore, 1) := by decide +kernel
theorem dX5_bad_10 : decode cX5_bad 10 = .ok (.bipush (-2), 2) := by decide +kernel
theorem dX5_bad_12 : decode cX5_bad 12 = .ok (.ireturn, 1) := by decide +kernel
theorem dX5_ten_0 : decode cX5_ten 0 = .ok (.aload_n 0, 1) := by decide +kernel
theorem dX5_ten_1 : decode cX5_ten 1 = .ok (.getfield 1, 3) := by decide +kernel
theorem dX5_ten_4 : decode cX5_ten 4 = .ok (.iconst 0, 1) := by decide +kernel
theorem dX5_ten_5 : decode cX5_ten 5 = .ok (.dup2, 1) := by decide +kernel
theorem dX5_ten_6 : decode cX5_ten 6 = .ok (.iaload, 1) := by decide +kernel
theorem dX5_ten_7 : decode cX5_ten 7 = .ok (.iconst 1, 1) := by decide +kernel
theorem dX5_ten_8 : decode cX5_ten 8 = .ok (.iadd, 1) := by decide +kernel
theorem dX5_ten_9 : decode cX5_ten 9 = .ok (.iastore, 1) := by decide +kernel
theorem dX5_ten_10 : decode cX5_ten 10 = .ok (.bipush (-10), 2) := by decide +kernel
theorem dX5_ten_12 : decode cX5_ten 12 = .ok (.ireturn, 1) := by decide +kernel
theorem dX5_no_0 : decode cX5_no 0 = .ok (.aload_n 0, 1) := by decide +kernel
theorem dX5_no_1 : decode cX5_no 1 = .ok (.getfield 1, 3) := by decide +kernel
theorem dX5_no_4 : decode cX5_no 4 = .ok (.iconst 1, 1) := by decide +kernel
theorem dX5_no_5 : decode cX5_no 5 = .ok (.dup2, 1) := by decide +kernel
theorem dX5_no_6 : decode cX5_no 6 = .ok (.iaload, 1) := by decide +kernel
theorem dX5_no_7 : decode cX5_no 7 = .ok (.iconst 1, 1) := by decide +kernel
theorem dX5_no_8 : decode cX5_no 8 = .ok (.iadd, 1) := by decide +kernel
theorem dX5_no_9 : decode cX5_no 9 = .ok (.iastore, 1) := by decide +kernel
theorem dX5_no_10 : decode cX5_no 10 = .ok (.bipush (-3), 2) := by decide +kernel
theorem dX5_no_12 : decode cX5_no 12 = .ok (.ireturn, 1) := by decide +kernel
theorem dX5_full_0 : decode cX5_full 0 = .ok (.aload_n 0, 1) := by decide +kernel
theorem dX5_full_1 : decode cX5_full 1 = .ok (.getfield 1, 3) := by decide +kernel
theorem dX5_full_4 : decode cX5_full 4 = .ok (.iconst 2, 1) := by decide +kernel
theorem dX5_full_5 : decode cX5_full 5 = .ok (.dup2, 1) := by decide +kernel
theorem dX5_full_6 : decode cX5_full 6 = .ok (.iaload, 1) := by decide +kernel
theorem dX5_full_7 : decode cX5_full 7 = .ok (.iconst 1, 1) := by decide +kernel
theorem dX5_full_8 : decode cX5_full 8 = .ok (.iadd, 1) := by decide +kernel
theorem dX5_full_9 : decode cX5_full 9 = .ok (.iastore, 1) := by decide +kernel
theorem dX5_full_10 : decode cX5_full 10 = .ok (.bipush (-4), 2) := by decide +kernel
theorem dX5_full_12 : decode cX5_full 12 = .ok (.ireturn, 1) := by decide +kernel
theorem dX5_in_0 : decode cX5_in 0 = .ok (.iload_n 0, 1) := by decide +kernel
theorem dX5_in_1 : decode cX5_in 1 = .ok (.iload_n 1, 1) := by decide +kernel
theorem dX5_in_2 : decode cX5_in 2 = .ok (.if_icmp .lt 12, 3) := by decide +kernel
theorem dX5_in_5 : decode cX5_in 5 = .ok (.iload_n 0, 1) := by decide +kernel
theorem dX5_in_6 : decode cX5_in 6 = .ok (.iload_n 2, 1) := by decide +kernel
theorem dX5_in_7 : decode cX5_in 7 = .ok (.if_icmp .gt 7, 3) := by decide +kernel
theorem dX5_in_10 : decode cX5_in 10 = .ok (.iconst 1, 1) := by decide +kernel
theorem dX5_in_11 : decode cX5_in 11 = .ok (.goto 4, 3) := by decide +kernel
theorem dX5_in_14 : decode cX5_in 14 = .ok (.iconst 0, 1) := by decide +kernel
theorem dX5_in_15 : decode cX5_in 15 = .ok (.ireturn, 1) := by decide +kernel
theorem dX5_has_0 : decode cX5_has 0 = .ok (.iload_n 0, 1) := by decide +kernel
theorem dX5_has_1 : decode cX5_has 1 = .ok (.iload_n 1, 1) := by decide +kernel
theorem dX5_has_2 : decode cX5_has 2 = .ok (.ishr, 1) := by decide +kernel
theorem dX5_has_3 : decode cX5_has 3 = .ok (.iconst 1, 1) := by decide +kernel
theorem dX5_has_4 : decode cX5_has 4 = .ok (.iand, 1) := by decide +kernel
theorem dX5_has_5 : decode cX5_has 5 = .ok (.iconst 1, 1) := by decide +kernel
theorem dX5_has_6 : decode cX5_has 6 = .ok (.if_icmp .ne 7, 3) := by decide +kernel
theorem dX5_has_9 : decode cX5_has 9 = .ok (.iconst 1, 1) := by decide +kernel
theorem dX5_has_10 : decode cX5_has 10 = .ok (.goto 4, 3) := by decide +kernel
theorem dX5_has_13 : decode cX5_has 13 = .ok (.iconst 0, 1) := by decide +kernel
theorem dX5_has_14 : decode cX5_has 14 = .ok (.ireturn, 1) := by decide +kernel
theorem dX5_bits_0 : decode cX5_bits 0 = .ok (.iconst 0, 1) := by decide +kernel
theorem dX5_bits_1 : decode cX5_bits 1 = .ok (.istore_n 1, 1) := by decide +kernel
theorem dX5_bits_2 : decode cX5_bits 2 = .ok (.iconst 0, 1) := by decide +kernel
theorem dX5_bits_3 : decode cX5_bits 3 = .ok (.istore_n 2, 1) := by decide +kernel
theorem dX5_bits_4 : decode cX5_bits 4 = .ok (.iload_n 2, 1) := by decide +kernel
theorem dX5_bits_5 : decode cX5_bits 5 = .ok (.bipush 7, 2) := by decide +kernel
theorem dX5_bits_7 : decode cX5_bits 7 = .ok (.if_icmp .ge 17, 3) := by decide +kernel
theorem dX5_bits_10 : decode cX5_bits 10 = .ok (.iload_n 1, 1) := by decide +kernel
theorem dX5_bits_11 : decode cX5_bits 11 = .ok (.iload_n 0, 1) := by decide +kernel
theorem dX5_bits_12 : decode cX5_bits 12 = .ok (.iload_n 2, 1) := by decide +kernel
theorem dX5_bits_13 : decode cX5_bits 13 = .ok (.ishr, 1) := by decide +kernel
theorem dX5_bits_14 : decode cX5_bits 14 = .ok (.iconst 1, 1) := by decide +kernel
theorem dX5_bits_15 : decode cX5_bits 15 = .ok (.iand, 1) := by decide +kernel
theorem dX5_bits_16 : decode cX5_bits 16 = .ok (.iadd, 1) := by decide +kernel
theorem dX5_bits_17 : decode cX5_bits 17 = .ok (.istore_n 1, 1) := by decide +kernel
theorem dX5_bits_18 : decode cX5_bits 18 = .ok (.iinc 2 1, 3) := by decide +kernel
theorem dX5_bits_21 : decode cX5_bits 21 = .ok (.goto (-17), 3) := by decide +kernel
theorem dX5_bits_24 : decode cX5_bits 24 = .ok (.iload_n 1, 1) := by decide +kernel
theorem dX5_bits_25 : decode cX5_bits 25 = .ok (.ireturn, 1) := by decide +kernel
theorem dX5_init_0 : decode cX5_init 0 = .ok (.aload_n 0, 1) := by decide +kernel
theorem dX5_init_1 : decode cX5_init 1 = .ok (.invokespecial 7, 3) := by decide +kernel
theorem dX5_init_4 : decode cX5_init 4 = .ok (.aload_n 0, 1) := by decide +kernel
theorem dX5_init_5 : decode cX5_init 5 = .ok (.iconst 3, 1) := by decide +kernel
theorem dX5_init_6 : decode cX5_init 6 = .ok (.newarray .int, 2) := by decide +kernel
theorem dX5_init_8 : decode cX5_init 8 = .ok (.putfield 1, 3) := by decide +kernel
theorem dX5_init_11 : decode cX5_init 11 = .ok (.aload_n 0, 1) := by decide +kernel
theorem dX5_init_12 : decode cX5_init 12 = .ok (.iconst 4, 1) := by decide +kernel
theorem dX5_init_13 : decode cX5_init 13 = .ok (.newarray .int, 2) := by decide +kernel
theorem dX5_init_15 : decode cX5_init 15 = .ok (.putfield 13, 3) := by decide +kernel
theorem dX5_init_18 : decode cX5_init 18 = .ok (.aload_n 0, 1) := by decide +kernel
theorem dX5_init_19 : decode cX5_init 19 = .ok (.iconst 4, 1) := by decide +kernel
theorem dX5_init_20 : decode cX5_init 20 = .ok (.newarray .int, 2) := by decide +kernel
theorem dX5_init_22 : decode cX5_init 22 = .ok (.putfield 16, 3) := by decide +kernel
theorem dX5_init_25 : decode cX5_init 25 = .ok (.aload_n 0, 1) := by decide +kernel
theorem dX5_init_26 : decode cX5_init 26 = .ok (.iconst 4, 1) := by decide +kernel
theorem dX5_init_27 : decode cX5_init 27 = .ok (.newarray .int, 2) := by decide +kernel
theorem dX5_init_29 : decode cX5_init 29 = .ok (.putfield 19, 3) := by decide +kernel
theorem dX5_init_32 : decode cX5_init 32 = .ok (.aload_n 0, 1) := by decide +kernel
theorem dX5_init_33 : decode cX5_init 33 = .ok (.bipush 7, 2) := by decide +kernel
theorem dX5_init_35 : decode cX5_init 35 = .ok (.newarray .int, 2) := by decide +kernel
theorem dX5_init_37 : decode cX5_init 37 = .ok (.putfield 22, 3) := by decide +kernel
theorem dX5_init_40 : decode cX5_init 40 = .ok (.aload_n 0, 1) := by decide +kernel
theorem dX5_init_41 : decode cX5_init 41 = .ok (.bipush 7, 2) := by decide +kernel
theorem dX5_init_43 : decode cX5_init 43 = .ok (.newarray .int, 2) := by decide +kernel
theorem dX5_init_45 : decode cX5_init 45 = .ok (.putfield 25, 3) := by decide +kernel
theorem dX5_init_48 : decode cX5_init 48 = .ok (.aload_n 0, 1) := by decide +kernel
theorem dX5_init_49 : decode cX5_init 49 = .ok (.bipush 7, 2) := by decide +kernel
theorem dX5_init_51 : decode cX5_init 51 = .ok (.newarray .int, 2) := by decide +kernel
theorem dX5_init_53 : decode cX5_init 53 = .ok (.putfield 28, 3) := by decide +kernel
theorem dX5_init_56 : decode cX5_init 56 = .ok (.aload_n 0, 1) := by decide +kernel
theorem dX5_init_57 : decode cX5_init 57 = .ok (.bipush 7, 2) := by decide +kernel
theorem dX5_init_59 : decode cX5_init 59 = .ok (.newarray .int, 2) := by decide +kernel
theorem dX5_init_61 : decode cX5_init 61 = .ok (.putfield 31, 3) := by decide +kernel
theorem dX5_init_64 : decode cX5_init 64 = .ok (.aload_n 0, 1) := by decide +kernel
theorem dX5_init_65 : decode cX5_init 65 = .ok (.bipush 6, 2) := by decide +kernel
theorem dX5_init_67 : decode cX5_init 67 = .ok (.newarray .int, 2) := by decide +kernel
theorem dX5_init_69 : decode cX5_init 69 = .ok (.putfield 34, 3) := by decide +kernel
theorem dX5_init_72 : decode cX5_init 72 = .ok (.aload_n 0, 1) := by decide +kernel
theorem dX5_init_73 : decode cX5_init 73 = .ok (.bipush 6, 2) := by decide +kernel
theorem dX5_init_75 : decode cX5_init 75 = .ok (.newarray .int, 2) := by decide +kernel
theorem dX5_init_77 : decode cX5_init 77 = .ok (.putfield 37, 3) := by decide +kernel
theorem dX5_init_80 : decode cX5_init 80 = .ok (.aload_n 0, 1) := by decide +kernel
theorem dX5_init_81 : decode cX5_init 81 = .ok (.bipush 6, 2) := by decide +kernel
theorem dX5_init_83 : decode cX5_init 83 = .ok (.newarray .int, 2) := by decide +kernel
theorem dX5_init_85 : decode cX5_init 85 = .ok (.putfield 40, 3) := by decide +kernel
theorem dX5_init_88 : decode cX5_init 88 = .ok (.aload_n 0, 1) := by decide +kernel
theorem dX5_init_89 : decode cX5_init 89 = .ok (.bipush 6, 2) := by decide +kernel
theorem dX5_init_91 : decode cX5_init 91 = .ok (.newarray .int, 2) := by decide +kernel
theorem dX5_init_93 : decode cX5_init 93 = .ok (.putfield 43, 3) := by decide +kernel
theorem dX5_init_96 : decode cX5_init 96 = .ok (.aload_n 0, 1) := by decide +kernel
theorem dX5_init_97 : decode cX5_init 97 = .ok (.sipush 150, 3) := by decide +kernel
theorem dX5_init_100 : decode cX5_init 100 = .ok (.newarray .int, 2) := by decide +kernel
theorem dX5_init_102 : decode cX5_init 102 = .ok (.putfield 46, 3) := by decide +kernel
theorem dX5_init_105 : decode cX5_init 105 = .ok (.aload_n 0, 1) := by decide +kernel
theorem dX5_init_106 : decode cX5_init 106 = .ok (.bipush 8, 2) := by decide +kernel
theorem dX5_init_108 : decode cX5_init 108 = .ok (.newarray .int, 2) := by decide +kernel
theorem dX5_init_110 : decode cX5_init 110 = .ok (.putfield 49, 3) := by decide +kernel
theorem dX5_init_113 : decode cX5_init 113 = .ok (.aload_n 0, 1) := by decide +kernel
theorem dX5_init_114 : decode cX5_init 114 = .ok (.bipush 28, 2) := by decide +kernel
theorem dX5_init_116 : decode cX5_init 116 = .ok (.newarray .int, 2) := by decide +kernel
theorem dX5_init_118 : decode cX5_init 118 = .ok (.putfield 52, 3) := by decide +kernel
theorem dX5_init_121 : decode cX5_init 121 = .ok (.aload_n 0, 1) := by decide +kernel
theorem dX5_init_122 : decode cX5_init 122 = .ok (.bipush 80, 2) := by decide +kernel
theorem dX5_init_124 : decode cX5_init 124 = .ok (.newarray .int, 2) := by decide +kernel
theorem dX5_init_126 : decode cX5_init 126 = .ok (.putfield 55, 3) := by decide +kernel
theorem dX5_init_129 : decode cX5_init 129 = .ok (.aload_n 0, 1) := by decide +kernel
theorem dX5_init_130 : decode cX5_init 130 = .ok (.bipush 10, 2) := by decide +kernel
theorem dX5_init_132 : decode cX5_init 132 = .ok (.newarray .int, 2) := by decide +kernel
theorem dX5_init_134 : decode cX5_init 134 = .ok (.putfield 58, 3) := by decide +kernel
theorem dX5_init_137 : decode cX5_init 137 = .ok (.aload_n 0, 1) := by decide +kernel
theorem dX5_init_138 : decode cX5_init 138 = .ok (.lconst 1, 1) := by decide +kernel
theorem dX5_init_139 : decode cX5_init 139 = .ok (.putfield 61, 3) := by decide +kernel
theorem dX5_init_142 : decode cX5_init 142 = .ok (.aload_n 0, 1) := by decide +kernel
theorem dX5_init_143 : decode cX5_init 143 = .ok (.sipush 300, 3) := by decide +kernel
theorem dX5_init_146 : decode cX5_init 146 = .ok (.newarray .int, 2) := by decide +kernel
theorem dX5_init_148 : decode cX5_init 148 = .ok (.putfield 65, 3) := by decide +kernel
theorem dX5_init_151 : decode cX5_init 151 = .ok (.aload_n 0, 1) := by decide +kernel
theorem dX5_init_152 : decode cX5_init 152 = .ok (.iconst 2, 1) := by decide +kernel
theorem dX5_init_153 : decode cX5_init 153 = .ok (.newarray .int, 2) := by decide +kernel
theorem dX5_init_155 : decode cX5_init 155 = .ok (.putfield 68, 3) := by decide +kernel
theorem dX5_init_158 : decode cX5_init 158 = .ok (.aload_n 0, 1) := by decide +kernel
theorem dX5_init_159 : decode cX5_init 159 = .ok (.invokevirtual 71, 3) := by decide +kernel
theorem dX5_init_162 : decode cX5_init 162 = .ok (.return_, 1) := by decide +kernel
theorem dX5_begin_0 : decode cX5_begin 0 = .ok (.aload_n 0, 1) := by decide +kernel
theorem dX5_begin_1 : decode cX5_begin 1 = .ok (.iconst 0, 1) := by decide +kernel
theorem dX5_begin_2 : decode cX5_begin 2 = .ok (.putfield 74, 3) := by decide +kernel
theorem dX5_begin_5 : decode cX5_begin 5 = .ok (.aload_n 0, 1) := by decide +kernel
theorem dX5_begin_6 : decode cX5_begin 6 = .ok (.iconst 0, 1) := by decide +kernel
theorem dX5_begin_7 : decode cX5_begin 7 = .ok (.putfield 78, 3) := by decide +kernel
theorem dX5_begin_10 : decode cX5_begin 10 = .ok (.aload_n 0, 1) := by decide +kernel
theorem dX5_begin_11 : decode cX5_begin 11 = .ok (.iconst 0, 1) := by decide +kernel
theorem dX5_begin_12 : decode cX5_begin 12 = .ok (.putfield 81, 3) := by decide +kernel
theorem dX5_begin_15 : decode cX5_begin 15 = .ok (.aload_n 0, 1) := by decide +kernel
theorem dX5_begin_16 : decode cX5_begin 16 = .ok (.iconst 0, 1) := by decide +kernel
theorem dX5_begin_17 : decode cX5_begin 17 = .ok (.putfield 84, 3) := by decide +kernel
theorem dX5_begin_20 : decode cX5_begin 20 = .ok (.aload_n 0, 1) := by decide +kernel
theorem dX5_begin_21 : decode cX5_begin 21 = .ok (.iconst 0, 1) := by decide +kernel
theorem dX5_begin_22 : decode cX5_begin 22 = .ok (.putfield 87, 3) := by decide +kernel
theorem dX5_begin_25 : decode cX5_begin 25 = .ok (.aload_n 0, 1) := by decide +kernel
theorem dX5_begin_26 : decode cX5_begin 26 = .ok (.iconst 0, 1) := by decide +kernel
theorem dX5_begin_27 : decode cX5_begin 27 = .ok (.putfield 90, 3) := by decide +kernel
theorem dX5_begin_30 : decode cX5_begin 30 = .ok (.return_, 1) := by decide +kernel
theorem dX5_isMan_0 : decode cX5_isMan 0 = .ok (.iload_n 1, 1) := by decide +kernel
theorem dX5_isMan_1 : decode cX5_isMan 1 = .ok (.iconst 0, 1) := by decide +kernel
theorem dX5_isMan_2 : decode cX5_isMan 2 = .ok (.aload_n 0, 1) := by decide +kernel
theorem dX5_isMan_3 : decode cX5_isMan 3 = .ok (.getfield 74, 3) := by decide +kernel
theorem dX5_isMan_6 : decode cX5_isMan 6 = .ok (.iconst 1, 1) := by decide +kernel
theorem dX5_isMan_7 : decode cX5_isMan 7 = .ok (.isub, 1) := by decide +kernel
theorem dX5_isMan_8 : decode cX5_isMan 8 = .ok (.invokestatic 93, 3) := by decide +kernel
theorem dX5_isMan_11 : decode cX5_isMan 11 = .ok (.ireturn, 1) := by decide +kernel
theorem dX5_isDog_0 : decode cX5_isDog 0 = .ok (.iload_n 1, 1) := by decide +kernel
theorem dX5_isDog_1 : decode cX5_isDog 1 = .ok (.iconst 0, 1) := by decide +kernel
theorem dX5_isDog_2 : decode cX5_isDog 2 = .ok (.aload_n 0, 1) := by decide +kernel
theorem dX5_isDog_3 : decode cX5_isDog 3 = .ok (.getfield 78, 3) := by decide +kernel
theorem dX5_isDog_6 : decode cX5_isDog 6 = .ok (.iconst 1, 1) := by decide +kernel
theorem dX5_isDog_7 : decode cX5_isDog 7 = .ok (.isub, 1) := by decide +kernel
theorem dX5_isDog_8 : decode cX5_isDog 8 = .ok (.invokestatic 93, 3) := by decide +kernel
theorem dX5_isDog_11 : decode cX5_isDog 11 = .ok (.ireturn, 1) := by decide +kernel
theorem dX5_village_0 : decode cX5_village 0 = .ok (.aload_n 0, 1) := by decide +kernel
theorem dX5_village_1 : decode cX5_village 1 = .ok (.getfield 78, 3) := by decide +kernel
theorem dX5_village_4 : decode cX5_village 4 = .ok (.istore_n 1, 1) := by decide +kernel
theorem dX5_village_5 : decode cX5_village 5 = .ok (.aload_n 0, 1) := by decide +kernel
theorem dX5_village_6 : decode cX5_village 6 = .ok (.invokevirtual 71, 3) := by decide +kernel
theorem dX5_village_9 : decode cX5_village 9 = .ok (.iload_n 1, 1) := by decide +kernel
theorem dX5_village_10 : decode cX5_village 10 = .ok (.ireturn, 1) := by decide +kernel
theorem dX5_addMan_0 : decode cX5_addMan 0 = .ok (.aload_n 0, 1) := by decide +kernel
theorem dX5_addMan_1 : decode cX5_addMan 1 = .ok (.getfield 13, 3) := by decide +kernel
theorem dX5_addMan_4 : decode cX5_addMan 4 = .ok (.aload_n 0, 1) := by decide +kernel
theorem dX5_addMan_5 : decode cX5_addMan 5 = .ok (.getfield 74, 3) := by decide +kernel
theorem dX5_addMan_8 : decode cX5_addMan 8 = .ok (.iload_n 1, 1) := by decide +kernel
theorem dX5_addMan_9 : decode cX5_addMan 9 = .ok (.iastore, 1) := by decide +kernel
theorem dX5_addMan_10 : decode cX5_addMan 10 = .ok (.aload_n 0, 1) := by decide +kernel
theorem dX5_addMan_11 : decode cX5_addMan 11 = .ok (.getfield 16, 3) := by decide +kernel
theorem dX5_addMan_14 : decode cX5_addMan 14 = .ok (.aload_n 0, 1) := by decide +kernel
theorem dX5_addMan_15 : decode cX5_addMan 15 = .ok (.getfield 74, 3) := by decide +kernel
theorem dX5_addMan_18 : decode cX5_addMan 18 = .ok (.iload_n 2, 1) := by decide +kernel
theorem dX5_addMan_19 : decode cX5_addMan 19 = .ok (.iastore, 1) := by decide +kernel
theorem dX5_addMan_20 : decode cX5_addMan 20 = .ok (.aload_n 0, 1) := by decide +kernel
theorem dX5_addMan_21 : decode cX5_addMan 21 = .ok (.getfield 19, 3) := by decide +kernel
theorem dX5_addMan_24 : decode cX5_addMan 24 = .ok (.aload_n 0, 1) := by decide +kernel
theorem dX5_addMan_25 : decode cX5_addMan 25 = .ok (.getfield 74, 3) := by decide +kernel
theorem dX5_addMan_28 : decode cX5_addMan 28 = .ok (.iconst 0, 1) := by decide +kernel
theorem dX5_addMan_29 : decode cX5_addMan 29 = .ok (.iastore, 1) := by decide +kernel
theorem dX5_addMan_30 : decode cX5_addMan 30 = .ok (.aload_n 0, 1) := by decide +kernel
theorem dX5_addMan_31 : decode cX5_addMan 31 = .ok (.dup, 1) := by decide +kernel
theorem dX5_addMan_32 : decode cX5_addMan 32 = .ok (.getfield 74, 3) := by decide +kernel
theorem dX5_addMan_35 : decode cX5_addMan 35 = .ok (.iconst 1, 1) := by decide +kernel
theorem dX5_addMan_36 : decode cX5_addMan 36 = .ok (.iadd, 1) := by decide +kernel
theorem dX5_addMan_37 : decode cX5_addMan 37 = .ok (.putfield 74, 3) := by decide +kernel
theorem dX5_addMan_40 : decode cX5_addMan 40 = .ok (.aload_n 0, 1) := by decide +kernel
theorem dX5_addMan_41 : decode cX5_addMan 41 = .ok (.iconst 0, 1) := by decide +kernel
theorem dX5_addMan_42 : decode cX5_addMan 42 = .ok (.putfield 90, 3) := by decide +kernel
theorem dX5_addMan_45 : decode cX5_addMan 45 = .ok (.aload_n 0, 1) := by decide +kernel
theorem dX5_addMan_46 : decode cX5_addMan 46 = .ok (.getfield 74, 3) := by decide +kernel
theorem dX5_addMan_49 : decode cX5_addMan 49 = .ok (.iconst 1, 1) := by decide +kernel
theorem dX5_addMan_50 : decode cX5_addMan 50 = .ok (.isub, 1) := by decide +kernel
theorem dX5_addMan_51 : decode cX5_addMan 51 = .ok (.ireturn, 1) := by decide +kernel
theorem dX5_addDog_0 : decode cX5_addDog 0 = .ok (.aload_n 0, 1) := by decide +kernel
theorem dX5_addDog_1 : decode cX5_addDog 1 = .ok (.getfield 22, 3) := by decide +kernel
theorem dX5_addDog_4 : decode cX5_addDog 4 = .ok (.aload_n 0, 1) := by decide +kernel
theorem dX5_addDog_5 : decode cX5_addDog 5 = .ok (.getfield 78, 3) := by decide +kernel
theorem dX5_addDog_8 : decode cX5_addDog 8 = .ok (.iload_n 1, 1) := by decide +kernel
theorem dX5_addDog_9 : decode cX5_addDog 9 = .ok (.iastore, 1) := by decide +kernel
theorem dX5_addDog_10 : decode cX5_addDog 10 = .ok (.aload_n 0, 1) := by decide +kernel
theorem dX5_addDog_11 : decode cX5_addDog 11 = .ok (.getfield 25, 3) := by decide +kernel
theorem dX5_addDog_14 : decode cX5_addDog 14 = .ok (.aload_n 0, 1) := by decide +kernel
theorem dX5_addDog_15 : decode cX5_addDog 15 = .ok (.getfield 78, 3) := by decide +kernel
theorem dX5_addDog_18 : decode cX5_addDog 18 = .ok (.iload_n 2, 1) := by decide +kernel
theorem dX5_addDog_19 : decode cX5_addDog 19 = .ok (.iastore, 1) := by decide +kernel
theorem dX5_addDog_20 : decode cX5_addDog 20 = .ok (.aload_n 0, 1) := by decide +kernel
theorem dX5_addDog_21 : decode cX5_addDog 21 = .ok (.getfield 28, 3) := by decide +kernel
theorem dX5_addDog_24 : decode cX5_addDog 24 = .ok (.aload_n 0, 1) := by decide +kernel
theorem dX5_addDog_25 : decode cX5_addDog 25 = .ok (.getfield 78, 3) := by decide +kernel
theorem dX5_addDog_28 : decode cX5_addDog 28 = .ok (.iload_n 3, 1) := by decide +kernel
theorem dX5_addDog_29 : decode cX5_addDog 29 = .ok (.iastore, 1) := by decide +kernel
theorem dX5_addDog_30 : decode cX5_addDog 30 = .ok (.aload_n 0, 1) := by decide +kernel
theorem dX5_addDog_31 : decode cX5_addDog 31 = .ok (.getfield 31, 3) := by decide +kernel
theorem dX5_addDog_34 : decode cX5_addDog 34 = .ok (.aload_n 0, 1) := by decide +kernel
theorem dX5_addDog_35 : decode cX5_addDog 35 = .ok (.getfield 78, 3) := by decide +kernel
theorem dX5_addDog_38 : decode cX5_addDog 38 = .ok (.iload 4, 2) := by decide +kernel
theorem dX5_addDog_40 : decode cX5_addDog 40 = .ok (.iastore, 1) := by decide +kernel
theorem dX5_addDog_41 : decode cX5_addDog 41 = .ok (.aload_n 0, 1) := by decide +kernel
theorem dX5_addDog_42 : decode cX5_addDog 42 = .ok (.dup, 1) := by decide +kernel
theorem dX5_addDog_43 : decode cX5_addDog 43 = .ok (.getfield 78, 3) := by decide +kernel
theorem dX5_addDog_46 : decode cX5_addDog 46 = .ok (.iconst 1, 1) := by decide +kernel
theorem dX5_addDog_47 : decode cX5_addDog 47 = .ok (.iadd, 1) := by decide +kernel
theorem dX5_addDog_48 : decode cX5_addDog 48 = .ok (.putfield 78, 3) := by decide +kernel
theorem dX5_addDog_51 : decode cX5_addDog 51 = .ok (.aload_n 0, 1) := by decide +kernel
theorem dX5_addDog_52 : decode cX5_addDog 52 = .ok (.iconst 0, 1) := by decide +kernel
theorem dX5_addDog_53 : decode cX5_addDog 53 = .ok (.putfield 90, 3) := by decide +kernel
theorem dX5_addDog_56 : decode cX5_addDog 56 = .ok (.aload_n 0, 1) := by decide +kernel
theorem dX5_addDog_57 : decode cX5_addDog 57 = .ok (.getfield 78, 3) := by decide +kernel
theorem dX5_addDog_60 : decode cX5_addDog 60 = .ok (.iconst 1, 1) := by decide +kernel
theorem dX5_addDog_61 : decode cX5_addDog 61 = .ok (.isub, 1) := by decide +kernel
theorem dX5_addDog_62 : decode cX5_addDog 62 = .ok (.ireturn, 1) := by decide +kernel
theorem dX5_man_0 : decode cX5_man 0 = .ok (.iload_n 1, 1) := by decide +kernel
theorem dX5_man_1 : decode cX5_man 1 = .ok (.iconst 0, 1) := by decide +kernel
theorem dX5_man_2 : decode cX5_man 2 = .ok (.bipush 9, 2) := by decide +kernel
theorem dX5_man_4 : decode cX5_man 4 = .ok (.invokestatic 93, 3) := by decide +kernel
theorem dX5_man_7 : decode cX5_man 7 = .ok (.ifCond .eq 13, 3) := by decide +kernel
theorem dX5_man_10 : decode cX5_man 10 = .ok (.iload_n 2, 1) := by decide +kernel
theorem dX5_man_11 : decode cX5_man 11 = .ok (.iconst 0, 1) := by decide +kernel
theorem dX5_man_12 : decode cX5_man 12 = .ok (.bipush 30, 2) := by decide +kernel
theorem dX5_man_14 : decode cX5_man 14 = .ok (.invokestatic 93, 3) := by decide +kernel
theorem dX5_man_17 : decode cX5_man 17 = .ok (.ifCond .ne 8, 3) := by decide +kernel
theorem dX5_man_20 : decode cX5_man 20 = .ok (.aload_n 0, 1) := by decide +kernel
theorem dX5_man_21 : decode cX5_man 21 = .ok (.invokevirtual 97, 3) := by decide +kernel
theorem dX5_man_24 : decode cX5_man 24 = .ok (.ireturn, 1) := by decide +kernel
theorem dX5_man_25 : decode cX5_man 25 = .ok (.aload_n 0, 1) := by decide +kernel
theorem dX5_man_26 : decode cX5_man 26 = .ok (.getfield 74, 3) := by decide +kernel
theorem dX5_man_29 : decode cX5_man 29 = .ok (.iconst 4, 1) := by decide +kernel
theorem dX5_man_30 : decode cX5_man 30 = .ok (.if_icmp .ne 10, 3) := by decide +kernel
theorem dX5_man_33 : decode cX5_man 33 = .ok (.aload_n 0, 1) := by decide +kernel
theorem dX5_man_34 : decode cX5_man 34 = .ok (.invokevirtual 101, 3) := by decide +kernel
theorem dX5_man_37 : decode cX5_man 37 = .ok (.goto 9, 3) := by decide +kernel
theorem dX5_man_40 : decode cX5_man 40 = .ok (.aload_n 0, 1) := by decide +kernel
theorem dX5_man_41 : decode cX5_man 41 = .ok (.iload_n 1, 1) := by decide +kernel
theorem dX5_man_42 : decode cX5_man 42 = .ok (.iload_n 2, 1) := by decide +kernel
theorem dX5_man_43 : decode cX5_man 43 = .ok (.invokevirtual 104, 3) := by decide +kernel
theorem dX5_man_46 : decode cX5_man 46 = .ok (.ireturn, 1) := by decide +kernel
theorem dX5_dog_0 : decode cX5_dog 0 = .ok (.iload_n 1, 1) := by decide +kernel
theorem dX5_dog_1 : decode cX5_dog 1 = .ok (.iconst 0, 1) := by decide +kernel
theorem dX5_dog_2 : decode cX5_dog 2 = .ok (.iconst 5, 1) := by decide +kernel
theorem dX5_dog_3 : decode cX5_dog 3 = .ok (.invokestatic 93, 3) := by decide +kernel
theorem dX5_dog_6 : decode cX5_dog 6 = .ok (.ifCond .eq 32, 3) := by decide +kernel
theorem dX5_dog_9 : decode cX5_dog 9 = .ok (.iload_n 2, 1) := by decide +kernel
theorem dX5_dog_10 : decode cX5_dog 10 = .ok (.iconst 1, 1) := by decide +kernel
theorem dX5_dog_11 : decode cX5_dog 11 = .ok (.iconst 5, 1) := by decide +kernel
theorem dX5_dog_12 : decode cX5_dog 12 = .ok (.invokestatic 93, 3) := by decide +kernel
theorem dX5_dog_15 : decode cX5_dog 15 = .ok (.ifCond .eq 23, 3) := by decide +kernel
theorem dX5_dog_18 : decode cX5_dog 18 = .ok (.iload_n 3, 1) := by decide +kernel
theorem dX5_dog_19 : decode cX5_dog 19 = .ok (.iconst 1, 1) := by decide +kernel
theorem dX5_dog_20 : decode cX5_dog 20 = .ok (.bipush 9, 2) := by decide +kernel
theorem dX5_dog_22 : decode cX5_dog 22 = .ok (.invokestatic 93, 3) := by decide +kernel
theorem dX5_dog_25 : decode cX5_dog 25 = .ok (.ifCond .eq 13, 3) := by decide +kernel
theorem dX5_dog_28 : decode cX5_dog 28 = .ok (.iload 4, 2) := by decide +kernel
theorem dX5_dog_30 : decode cX5_dog 30 = .ok (.iconst 0, 1) := by decide +kernel
theorem dX5_dog_31 : decode cX5_dog 31 = .ok (.iconst 3, 1) := by decide +kernel
theorem dX5_dog_32 : decode cX5_dog 32 = .ok (.invokestatic 93, 3) := by decide +kernel
theorem dX5_dog_35 : decode cX5_dog 35 = .ok (.ifCond .ne 8, 3) := by decide +kernel
theorem dX5_dog_38 : decode cX5_dog 38 = .ok (.aload_n 0, 1) := by decide +kernel
theorem dX5_dog_39 : decode cX5_dog 39 = .ok (.invokevirtual 97, 3) := by decide +kernel
theorem dX5_dog_42 : decode cX5_dog 42 = .ok (.ireturn, 1) := by decide +kernel
theorem dX5_dog_43 : decode cX5_dog 43 = .ok (.aload_n 0, 1) := by decide +kernel
theorem dX5_dog_44 : decode cX5_dog 44 = .ok (.getfield 78, 3) := by decide +kernel
theorem dX5_dog_47 : decode cX5_dog 47 = .ok (.bipush 7, 2) := by decide +kernel
theorem dX5_dog_49 : decode cX5_dog 49 = .ok (.if_icmp .ne 10, 3) := by decide +kernel
theorem dX5_dog_52 : decode cX5_dog 52 = .ok (.aload_n 0, 1) := by decide +kernel
theorem dX5_dog_53 : decode cX5_dog 53 = .ok (.invokevirtual 101, 3) := by decide +kernel
theorem dX5_dog_56 : decode cX5_dog 56 = .ok (.goto 12, 3) := by decide +kernel
theorem dX5_dog_59 : decode cX5_dog 59 = .ok (.aload_n 0, 1) := by decide +kernel
theorem dX5_dog_60 : decode cX5_dog 60 = .ok (.iload_n 1, 1) := by decide +kernel
theorem dX5_dog_61 : decode cX5_dog 61 = .ok (.iload_n 2, 1) := by decide +kernel
theorem dX5_dog_62 : decode cX5_dog 62 = .ok (.iload_n 3, 1) := by decide +kernel
theorem dX5_dog_63 : decode cX5_dog 63 = .ok (.iload 4, 2) := by decide +kernel
theorem dX5_dog_65 : decode cX5_dog 65 = .ok (.invokevirtual 108, 3) := by decide +kernel
theorem dX5_dog_68 : decode cX5_dog 68 = .ok (.ireturn, 1) := by decide +kernel
theorem dX5_type_0 : decode cX5_type 0 = .ok (.iload_n 1, 1) := by decide +kernel
theorem dX5_type_1 : decode cX5_type 1 = .ok (.iconst 0, 1) := by decide +kernel
theorem dX5_type_2 : decode cX5_type 2 = .ok (.bipush 127, 2) := by decide +kernel
theorem dX5_type_4 : decode cX5_type 4 = .ok (.invokestatic 93, 3) := by decide +kernel
theorem dX5_type_7 : decode cX5_type 7 = .ok (.ifCond .ne 8, 3) := by decide +kernel
theorem dX5_type_10 : decode cX5_type 10 = .ok (.aload_n 0, 1) := by decide +kernel
theorem dX5_type_11 : decode cX5_type 11 = .ok (.invokevirtual 97, 3) := by decide +kernel
theorem dX5_type_14 : decode cX5_type 14 = .ok (.ireturn, 1) := by decide +kernel
theorem dX5_type_15 : decode cX5_type 15 = .ok (.aload_n 0, 1) := by decide +kernel
theorem dX5_type_16 : decode cX5_type 16 = .ok (.getfield 112, 3) := by decide +kernel
theorem dX5_type_19 : decode cX5_type 19 = .ok (.sipush 150, 3) := by decide +kernel
theorem dX5_type_22 : decode cX5_type 22 = .ok (.if_icmp .ne 8, 3) := by decide +kernel
theorem dX5_type_25 : decode cX5_type 25 = .ok (.aload_n 0, 1) := by decide +kernel
theorem dX5_type_26 : decode cX5_type 26 = .ok (.invokevirtual 101, 3) := by decide +kernel
theorem dX5_type_29 : decode cX5_type 29 = .ok (.ireturn, 1) := by decide +kernel
theorem dX5_type_30 : decode cX5_type 30 = .ok (.aload_n 0, 1) := by decide +kernel
theorem dX5_type_31 : decode cX5_type 31 = .ok (.getfield 46, 3) := by decide +kernel
theorem dX5_type_34 : decode cX5_type 34 = .ok (.aload_n 0, 1) := by decide +kernel
theorem dX5_type_35 : decode cX5_type 35 = .ok (.getfield 112, 3) := by decide +kernel
theorem dX5_type_38 : decode cX5_type 38 = .ok (.iload_n 1, 1) := by decide +kernel
theorem dX5_type_39 : decode cX5_type 39 = .ok (.iastore, 1) := by decide +kernel
theorem dX5_type_40 : decode cX5_type 40 = .ok (.aload_n 0, 1) := by decide +kernel
theorem dX5_type_41 : decode cX5_type 41 = .ok (.dup, 1) := by decide +kernel
theorem dX5_type_42 : decode cX5_type 42 = .ok (.getfield 112, 3) := by decide +kernel
theorem dX5_type_45 : decode cX5_type 45 = .ok (.iconst 1, 1) := by decide +kernel
theorem dX5_type_46 : decode cX5_type 46 = .ok (.iadd, 1) := by decide +kernel
theorem dX5_type_47 : decode cX5_type 47 = .ok (.putfield 112, 3) := by decide +kernel
theorem dX5_type_50 : decode cX5_type 50 = .ok (.aload_n 0, 1) := by decide +kernel
theorem dX5_type_51 : decode cX5_type 51 = .ok (.getfield 112, 3) := by decide +kernel
theorem dX5_type_54 : decode cX5_type 54 = .ok (.ireturn, 1) := by decide +kernel
theorem dX5_clear_0 : decode cX5_clear 0 = .ok (.aload_n 0, 1) := by decide +kernel
theorem dX5_clear_1 : decode cX5_clear 1 = .ok (.getfield 112, 3) := by decide +kernel
theorem dX5_clear_4 : decode cX5_clear 4 = .ok (.istore_n 1, 1) := by decide +kernel
theorem dX5_clear_5 : decode cX5_clear 5 = .ok (.aload_n 0, 1) := by decide +kernel
theorem dX5_clear_6 : decode cX5_clear 6 = .ok (.iconst 0, 1) := by decide +kernel
theorem dX5_clear_7 : decode cX5_clear 7 = .ok (.putfield 112, 3) := by decide +kernel
theorem dX5_clear_10 : decode cX5_clear 10 = .ok (.iload_n 1, 1) := by decide +kernel
theorem dX5_clear_11 : decode cX5_clear 11 = .ok (.ireturn, 1) := by decide +kernel
theorem dX5_here_0 : decode cX5_here 0 = .ok (.aload_n 0, 1) := by decide +kernel
theorem dX5_here_1 : decode cX5_here 1 = .ok (.getfield 115, 3) := by decide +kernel
theorem dX5_here_4 : decode cX5_here 4 = .ok (.aload_n 0, 1) := by decide +kernel
theorem dX5_here_5 : decode cX5_here 5 = .ok (.getfield 112, 3) := by decide +kernel
theorem dX5_here_8 : decode cX5_here 8 = .ok (.if_icmp .ge 15, 3) := by decide +kernel
theorem dX5_here_11 : decode cX5_here 11 = .ok (.aload_n 0, 1) := by decide +kernel
theorem dX5_here_12 : decode cX5_here 12 = .ok (.getfield 46, 3) := by decide +kernel
theorem dX5_here_15 : decode cX5_here 15 = .ok (.aload_n 0, 1) := by decide +kernel
theorem dX5_here_16 : decode cX5_here 16 = .ok (.getfield 115, 3) := by decide +kernel
theorem dX5_here_19 : decode cX5_here 19 = .ok (.iaload, 1) := by decide +kernel
theorem dX5_here_20 : decode cX5_here 20 = .ok (.goto 4, 3) := by decide +kernel
theorem dX5_here_23 : decode cX5_here 23 = .ok (.iconst (-1), 1) := by decide +kernel
theorem dX5_here_24 : decode cX5_here 24 = .ok (.ireturn, 1) := by decide +kernel
theorem dX5_skip_0 : decode cX5_skip 0 = .ok (.aload_n 0, 1) := by decide +kernel
theorem dX5_skip_1 : decode cX5_skip 1 = .ok (.invokevirtual 118, 3) := by decide +kernel
theorem dX5_skip_4 : decode cX5_skip 4 = .ok (.bipush 32, 2) := by decide +kernel
theorem dX5_skip_6 : decode cX5_skip 6 = .ok (.if_icmp .ne 16, 3) := by decide +kernel
theorem dX5_skip_9 : decode cX5_skip 9 = .ok (.aload_n 0, 1) := by decide +kernel
theorem dX5_skip_10 : decode cX5_skip 10 = .ok (.dup, 1) := by decide +kernel
theorem dX5_skip_11 : decode cX5_skip 11 = .ok (.getfield 115, 3) := by decide +kernel
theorem dX5_skip_14 : decode cX5_skip 14 = .ok (.iconst 1, 1) := by decide +kernel
theorem dX5_skip_15 : decode cX5_skip 15 = .ok (.iadd, 1) := by decide +kernel
theorem dX5_skip_16 : decode cX5_skip 16 = .ok (.putfield 115, 3) := by decide +kernel
theorem dX5_skip_19 : decode cX5_skip 19 = .ok (.goto (-19), 3) := by decide +kernel
theorem dX5_skip_22 : decode cX5_skip 22 = .ok (.return_, 1) := by decide +kernel
theorem dX5_isLetter_0 : decode cX5_isLetter 0 = .ok (.iload_n 0, 1) := by decide +kernel
theorem dX5_isLetter_1 : decode cX5_isLetter 1 = .ok (.bipush 97, 2) := by decide +kernel
theorem dX5_isLetter_3 : decode cX5_isLetter 3 = .ok (.bipush 122, 2) := by decide +kernel
theorem dX5_isLetter_5 : decode cX5_isLetter 5 = .ok (.invokestatic 93, 3) := by decide +kernel
theorem dX5_isLetter_8 : decode cX5_isLetter 8 = .ok (.ireturn, 1) := by decide +kernel
theorem dX5_isFigure_0 : decode cX5_isFigure 0 = .ok (.iload_n 0, 1) := by decide +kernel
theorem dX5_isFigure_1 : decode cX5_isFigure 1 = .ok (.bipush 48, 2) := by decide +kernel
theorem dX5_isFigure_3 : decode cX5_isFigure 3 = .ok (.bipush 57, 2) := by decide +kernel
theorem dX5_isFigure_5 : decode cX5_isFigure 5 = .ok (.invokestatic 93, 3) := by decide +kernel
theorem dX5_isFigure_8 : decode cX5_isFigure 8 = .ok (.ireturn, 1) := by decide +kernel
theorem dX5_wordSize_0 : decode cX5_wordSize 0 = .ok (.iconst 0, 1) := by decide +kernel
theorem dX5_wordSize_1 : decode cX5_wordSize 1 = .ok (.istore_n 1, 1) := by decide +kernel
theorem dX5_wordSize_2 : decode cX5_wordSize 2 = .ok (.aload_n 0, 1) := by decide +kernel
theorem dX5_wordSize_3 : decode cX5_wordSize 3 = .ok (.getfield 115, 3) := by decide +kernel
theorem dX5_wordSize_6 : decode cX5_wordSize 6 = .ok (.iload_n 1, 1) := by decide +kernel
theorem dX5_wordSize_7 : decode cX5_wordSize 7 = .ok (.iadd, 1) := by decide +kernel
theorem dX5_wordSize_8 : decode cX5_wordSize 8 = .ok (.aload_n 0, 1) := by decide +kernel
theorem dX5_wordSize_9 : decode cX5_wordSize 9 = .ok (.getfield 112, 3) := by decide +kernel
theorem dX5_wordSize_12 : decode cX5_wordSize 12 = .ok (.if_icmp .ge 26, 3) := by decide +kernel
theorem dX5_wordSize_15 : decode cX5_wordSize 15 = .ok (.aload_n 0, 1) := by decide +kernel
theorem dX5_wordSize_16 : decode cX5_wordSize 16 = .ok (.getfield 46, 3) := by decide +kernel
theorem dX5_wordSize_19 : decode cX5_wordSize 19 = .ok (.aload_n 0, 1) := by decide +kernel
theorem dX5_wordSize_20 : decode cX5_wordSize 20 = .ok (.getfield 115, 3) := by decide +kernel
theorem dX5_wordSize_23 : decode cX5_wordSize 23 = .ok (.iload_n 1, 1) := by decide +kernel
theorem dX5_wordSize_24 : decode cX5_wordSize 24 = .ok (.iadd, 1) := by decide +kernel
theorem dX5_wordSize_25 : decode cX5_wordSize 25 = .ok (.iaload, 1) := by decide +kernel
theorem dX5_wordSize_26 : decode cX5_wordSize 26 = .ok (.invokestatic 121, 3) := by decide +kernel
theorem dX5_wordSize_29 : decode cX5_wordSize 29 = .ok (.ifCond .eq 9, 3) := by decide +kernel
theorem dX5_wordSize_32 : decode cX5_wordSize 32 = .ok (.iinc 1 1, 3) := by decide +kernel
theorem dX5_wordSize_35 : decode cX5_wordSize 35 = .ok (.goto (-33), 3) := by decide +kernel
theorem dX5_wordSize_38 : decode cX5_wordSize 38 = .ok (.iload_n 1, 1) := by decide +kernel
theorem dX5_wordSize_39 : decode cX5_wordSize 39 = .ok (.ireturn, 1) := by decide +kernel
theorem dX5_letter_0 : decode cX5_letter 0 = .ok (.aload_n 0, 1) := by decide +kernel
theorem dX5_letter_1 : decode cX5_letter 1 = .ok (.getfield 46, 3) := by decide +kernel
theorem dX5_letter_4 : decode cX5_letter 4 = .ok (.aload_n 0, 1) := by decide +kernel
theorem dX5_letter_5 : decode cX5_letter 5 = .ok (.getfield 115, 3) := by decide +kernel
theorem dX5_letter_8 : decode cX5_letter 8 = .ok (.iload_n 1, 1) := by decide +kernel
theorem dX5_letter_9 : decode cX5_letter 9 = .ok (.iadd, 1) := by decide +kernel
theorem dX5_letter_10 : decode cX5_letter 10 = .ok (.iaload, 1) := by decide +kernel
theorem dX5_letter_11 : decode cX5_letter 11 = .ok (.ireturn, 1) := by decide +kernel
theorem dX5_wordHere_0 : decode cX5_wordHere 0 = .ok (.aload_n 0, 1) := by decide +kernel
theorem dX5_wordHere_1 : decode cX5_wordHere 1 = .ok (.invokevirtual 125, 3) := by decide +kernel
theorem dX5_wordHere_4 : decode cX5_wordHere 4 = .ok (.istore_n 1, 1) := by decide +kernel
theorem dX5_wordHere_5 : decode cX5_wordHere 5 = .ok (.iload_n 1, 1) := by decide +kernel
theorem dX5_wordHere_6 : decode cX5_wordHere 6 = .ok (.bipush 7, 2) := by decide +kernel
theorem dX5_wordHere_8 : decode cX5_wordHere 8 = .ok (.if_icmp .ne 76, 3) := by decide +kernel
theorem dX5_wordHere_11 : decode cX5_wordHere 11 = .ok (.aload_n 0, 1) := by decide +kernel
theorem dX5_wordHere_12 : decode cX5_wordHere 12 = .ok (.iconst 0, 1) := by decide +kernel
theorem dX5_wordHere_13 : decode cX5_wordHere 13 = .ok (.invokevirtual 128, 3) := by decide +kernel
theorem dX5_wordHere_16 : decode cX5_wordHere 16 = .ok (.bipush 118, 2) := by decide +kernel
theorem dX5_wordHere_18 : decode cX5_wordHere 18 = .ok (.if_icmp .ne 66, 3) := by decide +kernel
theorem dX5_wordHere_21 : decode cX5_wordHere 21 = .ok (.aload_n 0, 1) := by decide +kernel
theorem dX5_wordHere_22 : decode cX5_wordHere 22 = .ok (.iconst 1, 1) := by decide +kernel
theorem dX5_wordHere_23 : decode cX5_wordHere 23 = .ok (.invokevirtual 128, 3) := by decide +kernel
theorem dX5_wordHere_26 : decode cX5_wordHere 26 = .ok (.bipush 105, 2) := by decide +kernel
theorem dX5_wordHere_28 : decode cX5_wordHere 28 = .ok (.if_icmp .ne 56, 3) := by decide +kernel
theorem dX5_wordHere_31 : decode cX5_wordHere 31 = .ok (.aload_n 0, 1) := by decide +kernel
theorem dX5_wordHere_32 : decode cX5_wordHere 32 = .ok (.iconst 2, 1) := by decide +kernel
theorem dX5_wordHere_33 : decode cX5_wordHere 33 = .ok (.invokevirtual 128, 3) := by decide +kernel
theorem dX5_wordHere_36 : decode cX5_wordHere 36 = .ok (.bipush 108, 2) := by decide +kernel
theorem dX5_wordHere_38 : decode cX5_wordHere 38 = .ok (.if_icmp .ne 46, 3) := by decide +kernel
theorem dX5_wordHere_41 : decode cX5_wordHere 41 = .ok (.aload_n 0, 1) := by decide +kernel
theorem dX5_wordHere_42 : decode cX5_wordHere 42 = .ok (.iconst 3, 1) := by decide +kernel
theorem dX5_wordHere_43 : decode cX5_wordHere 43 = .ok (.invokevirtual 128, 3) := by decide +kernel
theorem dX5_wordHere_46 : decode cX5_wordHere 46 = .ok (.bipush 108, 2) := by decide +kernel
theorem dX5_wordHere_48 : decode cX5_wordHere 48 = .ok (.if_icmp .ne 36, 3) := by decide +kernel
theorem dX5_wordHere_51 : decode cX5_wordHere 51 = .ok (.aload_n 0, 1) := by decide +kernel
theorem dX5_wordHere_52 : decode cX5_wordHere 52 = .ok (.iconst 4, 1) := by decide +kernel
theorem dX5_wordHere_53 : decode cX5_wordHere 53 = .ok (.invokevirtual 128, 3) := by decide +kernel
theorem dX5_wordHere_56 : decode cX5_wordHere 56 = .ok (.bipush 97, 2) := by decide +kernel
theorem dX5_wordHere_58 : decode cX5_wordHere 58 = .ok (.if_icmp .ne 26, 3) := by decide +kernel
theorem dX5_wordHere_61 : decode cX5_wordHere 61 = .ok (.aload_n 0, 1) := by decide +kernel
theorem dX5_wordHere_62 : decode cX5_wordHere 62 = .ok (.iconst 5, 1) := by decide +kernel
theorem dX5_wordHere_63 : decode cX5_wordHere 63 = .ok (.invokevirtual 128, 3) := by decide +kernel
theorem dX5_wordHere_66 : decode cX5_wordHere 66 = .ok (.bipush 103, 2) := by decide +kernel
theorem dX5_wordHere_68 : decode cX5_wordHere 68 = .ok (.if_icmp .ne 16, 3) := by decide +kernel
theorem dX5_wordHere_71 : decode cX5_wordHere 71 = .ok (.aload_n 0, 1) := by decide +kernel
theorem dX5_wordHere_72 : decode cX5_wordHere 72 = .ok (.bipush 6, 2) := by decide +kernel
theorem dX5_wordHere_74 : decode cX5_wordHere 74 = .ok (.invokevirtual 128, 3) := by decide +kernel
theorem dX5_wordHere_77 : decode cX5_wordHere 77 = .ok (.bipush 101, 2) := by decide +kernel
theorem dX5_wordHere_79 : decode cX5_wordHere 79 = .ok (.if_icmp .ne 5, 3) := by decide +kernel
theorem dX5_wordHere_82 : decode cX5_wordHere 82 = .ok (.iconst 0, 1) := by decide +kernel
theorem dX5_wordHere_83 : decode cX5_wordHere 83 = .ok (.ireturn, 1) := by decide +kernel
theorem dX5_wordHere_84 : decode cX5_wordHere 84 = .ok (.iload_n 1, 1) := by decide +kernel
theorem dX5_wordHere_85 : decode cX5_wordHere 85 = .ok (.iconst 3, 1) := by decide +kernel
theorem dX5_wordHere_86 : decode cX5_wordHere 86 = .ok (.if_icmp .ne 35, 3) := by decide +kernel
theorem dX5_wordHere_89 : decode cX5_wordHere 89 = .ok (.aload_n 0, 1) := by decide +kernel
theorem dX5_wordHere_90 : decode cX5_wordHere 90 = .ok (.iconst 0, 1) := by decide +kernel
theorem dX5_wordHere_91 : decode cX5_wordHere 91 = .ok (.invokevirtual 128, 3) := by decide +kernel
theorem dX5_wordHere_94 : decode cX5_wordHere 94 = .ok (.bipush 109, 2) := by decide +kernel
theorem dX5_wordHere_96 : decode cX5_wordHere 96 = .ok (.if_icmp .ne 25, 3) := by decide +kernel
theorem dX5_wordHere_99 : decode cX5_wordHere 99 = .ok (.aload_n 0, 1) := by decide +kernel
theorem dX5_wordHere_100 : decode cX5_wordHere 100 = .ok (.iconst 1, 1) := by decide +kernel
theorem dX5_wordHere_101 : decode cX5_wordHere 101 = .ok (.invokevirtual 128, 3) := by decide +kernel
theorem dX5_wordHere_104 : decode cX5_wordHere 104 = .ok (.bipush 97, 2) := by decide +kernel
theorem dX5_wordHere_106 : decode cX5_wordHere 106 = .ok (.if_icmp .ne 15, 3) := by decide +kernel
theorem dX5_wordHere_109 : decode cX5_wordHere 109 = .ok (.aload_n 0, 1) := by decide +kernel
theorem dX5_wordHere_110 : decode cX5_wordHere 110 = .ok (.iconst 2, 1) := by decide +kernel
theorem dX5_wordHere_111 : decode cX5_wordHere 111 = .ok (.invokevirtual 128, 3) := by decide +kernel
theorem dX5_wordHere_114 : decode cX5_wordHere 114 = .ok (.bipush 110, 2) := by decide +kernel
theorem dX5_wordHere_116 : decode cX5_wordHere 116 = .ok (.if_icmp .ne 5, 3) := by decide +kernel
theorem dX5_wordHere_119 : decode cX5_wordHere 119 = .ok (.iconst 1, 1) := by decide +kernel
theorem dX5_wordHere_120 : decode cX5_wordHere 120 = .ok (.ireturn, 1) := by decide +kernel
theorem dX5_wordHere_121 : decode cX5_wordHere 121 = .ok (.iload_n 1, 1) := by decide +kernel
theorem dX5_wordHere_122 : decode cX5_wordHere 122 = .ok (.iconst 3, 1) := by decide +kernel
theorem dX5_wordHere_123 : decode cX5_wordHere 123 = .ok (.if_icmp .ne 35, 3) := by decide +kernel
theorem dX5_wordHere_126 : decode cX5_wordHere 126 = .ok (.aload_n 0, 1) := by decide +kernel
theorem dX5_wordHere_127 : decode cX5_wordHere 127 = .ok (.iconst 0, 1) := by decide +kernel
theorem dX5_wordHere_128 : decode cX5_wordHere 128 = .ok (.invokevirtual 128, 3) := by decide +kernel
theorem dX5_wordHere_131 : decode cX5_wordHere 131 = .ok (.bipush 100, 2) := by decide +kernel
theorem dX5_wordHere_133 : decode cX5_wordHere 133 = .ok (.if_icmp .ne 25, 3) := by decide +kernel
theorem dX5_wordHere_136 : decode cX5_wordHere 136 = .ok (.aload_n 0, 1) := by decide +kernel
theorem dX5_wordHere_137 : decode cX5_wordHere 137 = .ok (.iconst 1, 1) := by decide +kernel
theorem dX5_wordHere_138 : decode cX5_wordHere 138 = .ok (.invokevirtual 128, 3) := by decide +kernel
theorem dX5_wordHere_141 : decode cX5_wordHere 141 = .ok (.bipush 111, 2) := by decide +kernel
theorem dX5_wordHere_143 : decode cX5_wordHere 143 = .ok (.if_icmp .ne 15, 3) := by decide +kernel
theorem dX5_wordHere_146 : decode cX5_wordHere 146 = .ok (.aload_n 0, 1) := by decide +kernel
theorem dX5_wordHere_147 : decode cX5_wordHere 147 = .ok (.iconst 2, 1) := by decide +kernel
theorem dX5_wordHere_148 : decode cX5_wordHere 148 = .ok (.invokevirtual 128, 3) := by decide +kernel
theorem dX5_wordHere_151 : decode cX5_wordHere 151 = .ok (.bipush 103, 2) := by decide +kernel
theorem dX5_wordHere_153 : decode cX5_wordHere 153 = .ok (.if_icmp .ne 5, 3) := by decide +kernel
theorem dX5_wordHere_156 : decode cX5_wordHere 156 = .ok (.iconst 2, 1) := by decide +kernel
theorem dX5_wordHere_157 : decode cX5_wordHere 157 = .ok (.ireturn, 1) := by decide +kernel
theorem dX5_wordHere_158 : decode cX5_wordHere 158 = .ok (.iload_n 1, 1) := by decide +kernel
theorem dX5_wordHere_159 : decode cX5_wordHere 159 = .ok (.iconst 5, 1) := by decide +kernel
theorem dX5_wordHere_160 : decode cX5_wordHere 160 = .ok (.if_icmp .ne 57, 3) := by decide +kernel
theorem dX5_wordHere_163 : decode cX5_wordHere 163 = .ok (.aload_n 0, 1) := by decide +kernel
theorem dX5_wordHere_164 : decode cX5_wordHere 164 = .ok (.iconst 0, 1) := by decide +kernel
theorem dX5_wordHere_165 : decode cX5_wordHere 165 = .ok (.invokevirtual 128, 3) := by decide +kernel
theorem dX5_wordHere_168 : decode cX5_wordHere 168 = .ok (.bipush 98, 2) := by decide +kernel
theorem dX5_wordHere_170 : decode cX5_wordHere 170 = .ok (.if_icmp .ne 47, 3) := by decide +kernel
theorem dX5_wordHere_173 : decode cX5_wordHere 173 = .ok (.aload_n 0, 1) := by decide +kernel
theorem dX5_wordHere_174 : decode cX5_wordHere 174 = .ok (.iconst 1, 1) := by decide +kernel
theorem dX5_wordHere_175 : decode cX5_wordHere 175 = .ok (.invokevirtual 128, 3) := by decide +kernel
theorem dX5_wordHere_178 : decode cX5_wordHere 178 = .ok (.bipush 114, 2) := by decide +kernel
theorem dX5_wordHere_180 : decode cX5_wordHere 180 = .ok (.if_icmp .ne 37, 3) := by decide +kernel
theorem dX5_wordHere_183 : decode cX5_wordHere 183 = .ok (.aload_n 0, 1) := by decide +kernel
theorem dX5_wordHere_184 : decode cX5_wordHere 184 = .ok (.iconst 2, 1) := by decide +kernel
theorem dX5_wordHere_185 : decode cX5_wordHere 185 = .ok (.invokevirtual 128, 3) := by decide +kernel
theorem dX5_wordHere_188 : decode cX5_wordHere 188 = .ok (.bipush 105, 2) := by decide +kernel
theorem dX5_wordHere_190 : decode cX5_wordHere 190 = .ok (.if_icmp .ne 27, 3) := by decide +kernel
theorem dX5_wordHere_193 : decode cX5_wordHere 193 = .ok (.aload_n 0, 1) := by decide +kernel
theorem dX5_wordHere_194 : decode cX5_wordHere 194 = .ok (.iconst 3, 1) := by decide +kernel
theorem dX5_wordHere_195 : decode cX5_wordHere 195 = .ok (.invokevirtual 128, 3) := by decide +kernel
theorem dX5_wordHere_198 : decode cX5_wordHere 198 = .ok (.bipush 98, 2) := by decide +kernel
theorem dX5_wordHere_200 : decode cX5_wordHere 200 = .ok (.if_icmp .ne 17, 3) := by decide +kernel
theorem dX5_wordHere_203 : decode cX5_wordHere 203 = .ok (.aload_n 0, 1) := by decide +kernel
theorem dX5_wordHere_204 : decode cX5_wordHere 204 = .ok (.iconst 4, 1) := by decide +kernel
theorem dX5_wordHere_205 : decode cX5_wordHere 205 = .ok (.invokevirtual 128, 3) := by decide +kernel
theorem dX5_wordHere_208 : decode cX5_wordHere 208 = .ok (.bipush 101, 2) := by decide +kernel
theorem dX5_wordHere_210 : decode cX5_wordHere 210 = .ok (.if_icmp .ne 7, 3) := by decide +kernel
theorem dX5_wordHere_213 : decode cX5_wordHere 213 = .ok (.iconst 3, 1) := by decide +kernel
theorem dX5_wordHere_214 : decode cX5_wordHere 214 = .ok (.goto 4, 3) := by decide +kernel
theorem dX5_wordHere_217 : decode cX5_wordHere 217 = .ok (.iconst (-1), 1) := by decide +kernel
theorem dX5_wordHere_218 : decode cX5_wordHere 218 = .ok (.ireturn, 1) := by decide +kernel
theorem dX5_number_0 : decode cX5_number 0 = .ok (.aload_n 0, 1) := by decide +kernel
theorem dX5_number_1 : decode cX5_number 1 = .ok (.invokevirtual 132, 3) := by decide +kernel
theorem dX5_number_4 : decode cX5_number 4 = .ok (.iconst 0, 1) := by decide +kernel
theorem dX5_number_5 : decode cX5_number 5 = .ok (.istore_n 3, 1) := by decide +kernel
theorem dX5_number_6 : decode cX5_number 6 = .ok (.iconst 0, 1) := by decide +kernel
theorem dX5_number_7 : decode cX5_number 7 = .ok (.istore 4, 2) := by decide +kernel
theorem dX5_number_9 : decode cX5_number 9 = .ok (.aload_n 0, 1) := by decide +kernel
theorem dX5_number_10 : decode cX5_number 10 = .ok (.getfield 115, 3) := by decide +kernel
theorem dX5_number_13 : decode cX5_number 13 = .ok (.iload_n 3, 1) := by decide +kernel
theorem dX5_number_14 : decode cX5_number 14 = .ok (.iadd, 1) := by decide +kernel
theorem dX5_number_15 : decode cX5_number 15 = .ok (.aload_n 0, 1) := by decide +kernel
theorem dX5_number_16 : decode cX5_number 16 = .ok (.getfield 112, 3) := by decide +kernel
theorem dX5_number_19 : decode cX5_number 19 = .ok (.if_icmp .ge 58, 3) := by decide +kernel
theorem dX5_number_22 : decode cX5_number 22 = .ok (.aload_n 0, 1) := by decide +kernel
theorem dX5_number_23 : decode cX5_number 23 = .ok (.getfield 46, 3) := by decide +kernel
theorem dX5_number_26 : decode cX5_number 26 = .ok (.aload_n 0, 1) := by decide +kernel
theorem dX5_number_27 : decode cX5_number 27 = .ok (.getfield 115, 3) := by decide +kernel
theorem dX5_number_30 : decode cX5_number 30 = .ok (.iload_n 3, 1) := by decide +kernel
theorem dX5_number_31 : decode cX5_number 31 = .ok (.iadd, 1) := by decide +kernel
theorem dX5_number_32 : decode cX5_number 32 = .ok (.iaload, 1) := by decide +kernel
theorem dX5_number_33 : decode cX5_number 33 = .ok (.invokestatic 135, 3) := by decide +kernel
theorem dX5_number_36 : decode cX5_number 36 = .ok (.ifCond .eq 41, 3) := by decide +kernel
theorem dX5_number_39 : decode cX5_number 39 = .ok (.iload_n 3, 1) := by decide +kernel
theorem dX5_number_40 : decode cX5_number 40 = .ok (.iconst 2, 1) := by decide +kernel
theorem dX5_number_41 : decode cX5_number 41 = .ok (.if_icmp .ge 26, 3) := by decide +kernel
theorem dX5_number_44 : decode cX5_number 44 = .ok (.bipush 10, 2) := by decide +kernel
theorem dX5_number_46 : decode cX5_number 46 = .ok (.iload 4, 2) := by decide +kernel
theorem dX5_number_48 : decode cX5_number 48 = .ok (.imul, 1) := by decide +kernel
theorem dX5_number_49 : decode cX5_number 49 = .ok (.aload_n 0, 1) := by decide +kernel
theorem dX5_number_50 : decode cX5_number 50 = .ok (.getfield 46, 3) := by decide +kernel
theorem dX5_number_53 : decode cX5_number 53 = .ok (.aload_n 0, 1) := by decide +kernel
theorem dX5_number_54 : decode cX5_number 54 = .ok (.getfield 115, 3) := by decide +kernel
theorem dX5_number_57 : decode cX5_number 57 = .ok (.iload_n 3, 1) := by decide +kernel
theorem dX5_number_58 : decode cX5_number 58 = .ok (.iadd, 1) := by decide +kernel
theorem dX5_number_59 : decode cX5_number 59 = .ok (.iaload, 1) := by decide +kernel
theorem dX5_number_60 : decode cX5_number 60 = .ok (.iadd, 1) := by decide +kernel
theorem dX5_number_61 : decode cX5_number 61 = .ok (.bipush 48, 2) := by decide +kernel
theorem dX5_number_63 : decode cX5_number 63 = .ok (.isub, 1) := by decide +kernel
theorem dX5_number_64 : decode cX5_number 64 = .ok (.goto 5, 3) := by decide +kernel
theorem dX5_number_67 : decode cX5_number 67 = .ok (.iload 4, 2) := by decide +kernel
theorem dX5_number_69 : decode cX5_number 69 = .ok (.istore 4, 2) := by decide +kernel
theorem dX5_number_71 : decode cX5_number 71 = .ok (.iinc 3 1, 3) := by decide +kernel
theorem dX5_number_74 : decode cX5_number 74 = .ok (.goto (-65), 3) := by decide +kernel
theorem dX5_number_77 : decode cX5_number 77 = .ok (.iload_n 3, 1) := by decide +kernel
theorem dX5_number_78 : decode cX5_number 78 = .ok (.iconst 1, 1) := by decide +kernel
theorem dX5_number_79 : decode cX5_number 79 = .ok (.iconst 2, 1) := by decide +kernel
theorem dX5_number_80 : decode cX5_number 80 = .ok (.invokestatic 93, 3) := by decide +kernel
theorem dX5_number_83 : decode cX5_number 83 = .ok (.ifCond .eq 13, 3) := by decide +kernel
theorem dX5_number_86 : decode cX5_number 86 = .ok (.iload 4, 2) := by decide +kernel
theorem dX5_number_88 : decode cX5_number 88 = .ok (.iload_n 1, 1) := by decide +kernel
theorem dX5_number_89 : decode cX5_number 89 = .ok (.iload_n 2, 1) := by decide +kernel
theorem dX5_number_90 : decode cX5_number 90 = .ok (.invokestatic 93, 3) := by decide +kernel
theorem dX5_number_93 : decode cX5_number 93 = .ok (.ifCond .ne 5, 3) := by decide +kernel
theorem dX5_number_96 : decode cX5_number 96 = .ok (.iconst 0, 1) := by decide +kernel
theorem dX5_number_97 : decode cX5_number 97 = .ok (.ireturn, 1) := by decide +kernel
theorem dX5_number_98 : decode cX5_number 98 = .ok (.aload_n 0, 1) := by decide +kernel
theorem dX5_number_99 : decode cX5_number 99 = .ok (.iload 4, 2) := by decide +kernel
theorem dX5_number_101 : decode cX5_number 101 = .ok (.putfield 138, 3) := by decide +kernel
theorem dX5_number_104 : decode cX5_number 104 = .ok (.aload_n 0, 1) := by decide +kernel
theorem dX5_number_105 : decode cX5_number 105 = .ok (.dup, 1) := by decide +kernel
theorem dX5_number_106 : decode cX5_number 106 = .ok (.getfield 115, 3) := by decide +kernel
theorem dX5_number_109 : decode cX5_number 109 = .ok (.iload_n 3, 1) := by decide +kernel
theorem dX5_number_110 : decode cX5_number 110 = .ok (.iadd, 1) := by decide +kernel
theorem dX5_number_111 : decode cX5_number 111 = .ok (.putfield 115, 3) := by decide +kernel
theorem dX5_number_114 : decode cX5_number 114 = .ok (.iconst 1, 1) := by decide +kernel
theorem dX5_number_115 : decode cX5_number 115 = .ok (.ireturn, 1) := by decide +kernel
theorem dX5_ends_0 : decode cX5_ends 0 = .ok (.aload_n 0, 1) := by decide +kernel
theorem dX5_ends_1 : decode cX5_ends 1 = .ok (.invokevirtual 132, 3) := by decide +kernel
theorem dX5_ends_4 : decode cX5_ends 4 = .ok (.aload_n 0, 1) := by decide +kernel
theorem dX5_ends_5 : decode cX5_ends 5 = .ok (.invokevirtual 118, 3) := by decide +kernel
theorem dX5_ends_8 : decode cX5_ends 8 = .ok (.bipush 59, 2) := by decide +kernel
theorem dX5_ends_10 : decode cX5_ends 10 = .ok (.if_icmp .eq 5, 3) := by decide +kernel
theorem dX5_ends_13 : decode cX5_ends 13 = .ok (.iconst 0, 1) := by decide +kernel
theorem dX5_ends_14 : decode cX5_ends 14 = .ok (.ireturn, 1) := by decide +kernel
theorem dX5_ends_15 : decode cX5_ends 15 = .ok (.aload_n 0, 1) := by decide +kernel
theorem dX5_ends_16 : decode cX5_ends 16 = .ok (.dup, 1) := by decide +kernel
theorem dX5_ends_17 : decode cX5_ends 17 = .ok (.getfield 115, 3) := by decide +kernel
theorem dX5_ends_20 : decode cX5_ends 20 = .ok (.iconst 1, 1) := by decide +kernel
theorem dX5_ends_21 : decode cX5_ends 21 = .ok (.iadd, 1) := by decide +kernel
theorem dX5_ends_22 : decode cX5_ends 22 = .ok (.putfield 115, 3) := by decide +kernel
theorem dX5_ends_25 : decode cX5_ends 25 = .ok (.iconst 1, 1) := by decide +kernel
theorem dX5_ends_26 : decode cX5_ends 26 = .ok (.ireturn, 1) := by decide +kernel
theorem dX5_readsMan_0 : decode cX5_readsMan 0 = .ok (.aload_n 0, 1) := by decide +kernel
theorem dX5_readsMan_1 : decode cX5_readsMan 1 = .ok (.iconst 0, 1) := by decide +kernel
theorem dX5_readsMan_2 : decode cX5_readsMan 2 = .ok (.bipush 9, 2) := by decide +kernel
theorem dX5_readsMan_4 : decode cX5_readsMan 4 = .ok (.invokevirtual 141, 3) := by decide +kernel
theorem dX5_readsMan_7 : decode cX5_readsMan 7 = .ok (.ifCond .ne 5, 3) := by decide +kernel
theorem dX5_readsMan_10 : decode cX5_readsMan 10 = .ok (.iconst 0, 1) := by decide +kernel
theorem dX5_readsMan_11 : decode cX5_readsMan 11 = .ok (.ireturn, 1) := by decide +kernel
theorem dX5_readsMan_12 : decode cX5_readsMan 12 = .ok (.aload_n 0, 1) := by decide +kernel
theorem dX5_readsMan_13 : decode cX5_readsMan 13 = .ok (.getfield 49, 3) := by decide +kernel
theorem dX5_readsMan_16 : decode cX5_readsMan 16 = .ok (.iconst 2, 1) := by decide +kernel
theorem dX5_readsMan_17 : decode cX5_readsMan 17 = .ok (.aload_n 0, 1) := by decide +kernel
theorem dX5_readsMan_18 : decode cX5_readsMan 18 = .ok (.getfield 145, 3) := by decide +kernel
theorem dX5_readsMan_21 : decode cX5_readsMan 21 = .ok (.imul, 1) := by decide +kernel
theorem dX5_readsMan_22 : decode cX5_readsMan 22 = .ok (.aload_n 0, 1) := by decide +kernel
theorem dX5_readsMan_23 : decode cX5_readsMan 23 = .ok (.getfield 138, 3) := by decide +kernel
theorem dX5_readsMan_26 : decode cX5_readsMan 26 = .ok (.iastore, 1) := by decide +kernel
theorem dX5_readsMan_27 : decode cX5_readsMan 27 = .ok (.aload_n 0, 1) := by decide +kernel
theorem dX5_readsMan_28 : decode cX5_readsMan 28 = .ok (.iconst 0, 1) := by decide +kernel
theorem dX5_readsMan_29 : decode cX5_readsMan 29 = .ok (.bipush 30, 2) := by decide +kernel
theorem dX5_readsMan_31 : decode cX5_readsMan 31 = .ok (.invokevirtual 141, 3) := by decide +kernel
theorem dX5_readsMan_34 : decode cX5_readsMan 34 = .ok (.ifCond .ne 5, 3) := by decide +kernel
theorem dX5_readsMan_37 : decode cX5_readsMan 37 = .ok (.iconst 0, 1) := by decide +kernel
theorem dX5_readsMan_38 : decode cX5_readsMan 38 = .ok (.ireturn, 1) := by decide +kernel
theorem dX5_readsMan_39 : decode cX5_readsMan 39 = .ok (.aload_n 0, 1) := by decide +kernel
theorem dX5_readsMan_40 : decode cX5_readsMan 40 = .ok (.getfield 49, 3) := by decide +kernel
theorem dX5_readsMan_43 : decode cX5_readsMan 43 = .ok (.iconst 2, 1) := by decide +kernel
theorem dX5_readsMan_44 : decode cX5_readsMan 44 = .ok (.aload_n 0, 1) := by decide +kernel
theorem dX5_readsMan_45 : decode cX5_readsMan 45 = .ok (.getfield 145, 3) := by decide +kernel
theorem dX5_readsMan_48 : decode cX5_readsMan 48 = .ok (.imul, 1) := by decide +kernel
theorem dX5_readsMan_49 : decode cX5_readsMan 49 = .ok (.iconst 1, 1) := by decide +kernel
theorem dX5_readsMan_50 : decode cX5_readsMan 50 = .ok (.iadd, 1) := by decide +kernel
theorem dX5_readsMan_51 : decode cX5_readsMan 51 = .ok (.aload_n 0, 1) := by decide +kernel
theorem dX5_readsMan_52 : decode cX5_readsMan 52 = .ok (.getfield 138, 3) := by decide +kernel
theorem dX5_readsMan_55 : decode cX5_readsMan 55 = .ok (.iastore, 1) := by decide +kernel
theorem dX5_readsMan_56 : decode cX5_readsMan 56 = .ok (.aload_n 0, 1) := by decide +kernel
theorem dX5_readsMan_57 : decode cX5_readsMan 57 = .ok (.dup, 1) := by decide +kernel
theorem dX5_readsMan_58 : decode cX5_readsMan 58 = .ok (.getfield 145, 3) := by decide +kernel
theorem dX5_readsMan_61 : decode cX5_readsMan 61 = .ok (.iconst 1, 1) := by decide +kernel
theorem dX5_readsMan_62 : decode cX5_readsMan 62 = .ok (.iadd, 1) := by decide +kernel
theorem dX5_readsMan_63 : decode cX5_readsMan 63 = .ok (.putfield 145, 3) := by decide +kernel
theorem dX5_readsMan_66 : decode cX5_readsMan 66 = .ok (.aload_n 0, 1) := by decide +kernel
theorem dX5_readsMan_67 : decode cX5_readsMan 67 = .ok (.invokevirtual 148, 3) := by decide +kernel
theorem dX5_readsMan_70 : decode cX5_readsMan 70 = .ok (.ireturn, 1) := by decide +kernel
theorem dX5_readsDog_0 : decode cX5_readsDog 0 = .ok (.iconst 4, 1) := by decide +kernel
theorem dX5_readsDog_1 : decode cX5_readsDog 1 = .ok (.aload_n 0, 1) := by decide +kernel
theorem dX5_readsDog_2 : decode cX5_readsDog 2 = .ok (.getfield 152, 3) := by decide +kernel
theorem dX5_readsDog_5 : decode cX5_readsDog 5 = .ok (.imul, 1) := by decide +kernel
theorem dX5_readsDog_6 : decode cX5_readsDog 6 = .ok (.istore_n 1, 1) := by decide +kernel
theorem dX5_readsDog_7 : decode cX5_readsDog 7 = .ok (.iconst 0, 1) := by decide +kernel
theorem dX5_readsDog_8 : decode cX5_readsDog 8 = .ok (.istore_n 2, 1) := by decide +kernel
theorem dX5_readsDog_9 : decode cX5_readsDog 9 = .ok (.iload_n 2, 1) := by decide +kernel
theorem dX5_readsDog_10 : decode cX5_readsDog 10 = .ok (.iconst 4, 1) := by decide +kernel
theorem dX5_readsDog_11 : decode cX5_readsDog 11 = .ok (.if_icmp .ge 71, 3) := by decide +kernel
theorem dX5_readsDog_14 : decode cX5_readsDog 14 = .ok (.iload_n 2, 1) := by decide +kernel
theorem dX5_readsDog_15 : decode cX5_readsDog 15 = .ok (.iconst 1, 1) := by decide +kernel
theorem dX5_readsDog_16 : decode cX5_readsDog 16 = .ok (.if_icmp .eq 8, 3) := by decide +kernel
theorem dX5_readsDog_19 : decode cX5_readsDog 19 = .ok (.iload_n 2, 1) := by decide +kernel
theorem dX5_readsDog_20 : decode cX5_readsDog 20 = .ok (.iconst 2, 1) := by decide +kernel
theorem dX5_readsDog_21 : decode cX5_readsDog 21 = .ok (.if_icmp .ne 7, 3) := by decide +kernel
theorem dX5_readsDog_24 : decode cX5_readsDog 24 = .ok (.iconst 1, 1) := by decide +kernel
theorem dX5_readsDog_25 : decode cX5_readsDog 25 = .ok (.goto 4, 3) := by decide +kernel
theorem dX5_readsDog_28 : decode cX5_readsDog 28 = .ok (.iconst 0, 1) := by decide +kernel
theorem dX5_readsDog_29 : decode cX5_readsDog 29 = .ok (.istore_n 3, 1) := by decide +kernel
theorem dX5_readsDog_30 : decode cX5_readsDog 30 = .ok (.aload_n 0, 1) := by decide +kernel
theorem dX5_readsDog_31 : decode cX5_readsDog 31 = .ok (.iload_n 3, 1) := by decide +kernel
theorem dX5_readsDog_32 : decode cX5_readsDog 32 = .ok (.iload_n 2, 1) := by decide +kernel
theorem dX5_readsDog_33 : decode cX5_readsDog 33 = .ok (.ifCond .eq 8, 3) := by decide +kernel
theorem dX5_readsDog_36 : decode cX5_readsDog 36 = .ok (.iload_n 2, 1) := by decide +kernel
theorem dX5_readsDog_37 : decode cX5_readsDog 37 = .ok (.iconst 1, 1) := by decide +kernel
theorem dX5_readsDog_38 : decode cX5_readsDog 38 = .ok (.if_icmp .ne 7, 3) := by decide +kernel
theorem dX5_readsDog_41 : decode cX5_readsDog 41 = .ok (.iconst 5, 1) := by decide +kernel
theorem dX5_readsDog_42 : decode cX5_readsDog 42 = .ok (.goto 14, 3) := by decide +kernel
theorem dX5_readsDog_45 : decode cX5_readsDog 45 = .ok (.iload_n 2, 1) := by decide +kernel
theorem dX5_readsDog_46 : decode cX5_readsDog 46 = .ok (.iconst 2, 1) := by decide +kernel
theorem dX5_readsDog_47 : decode cX5_readsDog 47 = .ok (.if_icmp .ne 8, 3) := by decide +kernel
theorem dX5_readsDog_50 : decode cX5_readsDog 50 = .ok (.bipush 9, 2) := by decide +kernel
theorem dX5_readsDog_52 : decode cX5_readsDog 52 = .ok (.goto 4, 3) := by decide +kernel
theorem dX5_readsDog_55 : decode cX5_readsDog 55 = .ok (.iconst 3, 1) := by decide +kernel
theorem dX5_readsDog_56 : decode cX5_readsDog 56 = .ok (.invokevirtual 141, 3) := by decide +kernel
theorem dX5_readsDog_59 : decode cX5_readsDog 59 = .ok (.ifCond .ne 5, 3) := by decide +kernel
theorem dX5_readsDog_62 : decode cX5_readsDog 62 = .ok (.iconst 0, 1) := by decide +kernel
theorem dX5_readsDog_63 : decode cX5_readsDog 63 = .ok (.ireturn, 1) := by decide +kernel
theorem dX5_readsDog_64 : decode cX5_readsDog 64 = .ok (.aload_n 0, 1) := by decide +kernel
theorem dX5_readsDog_65 : decode cX5_readsDog 65 = .ok (.getfield 52, 3) := by decide +kernel
theorem dX5_readsDog_68 : decode cX5_readsDog 68 = .ok (.iload_n 1, 1) := by decide +kernel
theorem dX5_readsDog_69 : decode cX5_readsDog 69 = .ok (.iload_n 2, 1) := by decide +kernel
theorem dX5_readsDog_70 : decode cX5_readsDog 70 = .ok (.iadd, 1) := by decide +kernel
theorem dX5_readsDog_71 : decode cX5_readsDog 71 = .ok (.aload_n 0, 1) := by decide +kernel
theorem dX5_readsDog_72 : decode cX5_readsDog 72 = .ok (.getfield 138, 3) := by decide +kernel
theorem dX5_readsDog_75 : decode cX5_readsDog 75 = .ok (.iastore, 1) := by decide +kernel
theorem dX5_readsDog_76 : decode cX5_readsDog 76 = .ok (.iinc 2 1, 3) := by decide +kernel
theorem dX5_readsDog_79 : decode cX5_readsDog 79 = .ok (.goto (-70), 3) := by decide +kernel
theorem dX5_readsDog_82 : decode cX5_readsDog 82 = .ok (.aload_n 0, 1) := by decide +kernel
theorem dX5_readsDog_83 : decode cX5_readsDog 83 = .ok (.dup, 1) := by decide +kernel
theorem dX5_readsDog_84 : decode cX5_readsDog 84 = .ok (.getfield 152, 3) := by decide +kernel
theorem dX5_readsDog_87 : decode cX5_readsDog 87 = .ok (.iconst 1, 1) := by decide +kernel
theorem dX5_readsDog_88 : decode cX5_readsDog 88 = .ok (.iadd, 1) := by decide +kernel
theorem dX5_readsDog_89 : decode cX5_readsDog 89 = .ok (.putfield 152, 3) := by decide +kernel
theorem dX5_readsDog_92 : decode cX5_readsDog 92 = .ok (.aload_n 0, 1) := by decide +kernel
theorem dX5_readsDog_93 : decode cX5_readsDog 93 = .ok (.invokevirtual 148, 3) := by decide +kernel
theorem dX5_readsDog_96 : decode cX5_readsDog 96 = .ok (.ireturn, 1) := by decide +kernel
theorem dX5_readsBribe_0 : decode cX5_readsBribe 0 = .ok (.aload_n 0, 1) := by decide +kernel
theorem dX5_readsBribe_1 : decode cX5_readsBribe 1 = .ok (.iconst 0, 1) := by decide +kernel
theorem dX5_readsBribe_2 : decode cX5_readsBribe 2 = .ok (.aload_n 0, 1) := by decide +kernel
theorem dX5_readsBribe_3 : decode cX5_readsBribe 3 = .ok (.getfield 145, 3) := by decide +kernel
theorem dX5_readsBribe_6 : decode cX5_readsBribe 6 = .ok (.iconst 1, 1) := by decide +kernel
theorem dX5_readsBribe_7 : decode cX5_readsBribe 7 = .ok (.isub, 1) := by decide +kernel
theorem dX5_readsBribe_8 : decode cX5_readsBribe 8 = .ok (.invokevirtual 141, 3) := by decide +kernel
theorem dX5_readsBribe_11 : decode cX5_readsBribe 11 = .ok (.ifCond .ne 5, 3) := by decide +kernel
theorem dX5_readsBribe_14 : decode cX5_readsBribe 14 = .ok (.iconst 0, 1) := by decide +kernel
theorem dX5_readsBribe_15 : decode cX5_readsBribe 15 = .ok (.ireturn, 1) := by decide +kernel
theorem dX5_readsBribe_16 : decode cX5_readsBribe 16 = .ok (.aload_n 0, 1) := by decide +kernel
theorem dX5_readsBribe_17 : decode cX5_readsBribe 17 = .ok (.getfield 138, 3) := by decide +kernel
theorem dX5_readsBribe_20 : decode cX5_readsBribe 20 = .ok (.istore_n 1, 1) := by decide +kernel
theorem dX5_readsBribe_21 : decode cX5_readsBribe 21 = .ok (.aload_n 0, 1) := by decide +kernel
theorem dX5_readsBribe_22 : decode cX5_readsBribe 22 = .ok (.invokevirtual 132, 3) := by decide +kernel
theorem dX5_readsBribe_25 : decode cX5_readsBribe 25 = .ok (.aload_n 0, 1) := by decide +kernel
theorem dX5_readsBribe_26 : decode cX5_readsBribe 26 = .ok (.getfield 115, 3) := by decide +kernel
theorem dX5_readsBribe_29 : decode cX5_readsBribe 29 = .ok (.istore_n 2, 1) := by decide +kernel
theorem dX5_readsBribe_30 : decode cX5_readsBribe 30 = .ok (.aload_n 0, 1) := by decide +kernel
theorem dX5_readsBribe_31 : decode cX5_readsBribe 31 = .ok (.iconst 0, 1) := by decide +kernel
theorem dX5_readsBribe_32 : decode cX5_readsBribe 32 = .ok (.aload_n 0, 1) := by decide +kernel
theorem dX5_readsBribe_33 : decode cX5_readsBribe 33 = .ok (.getfield 152, 3) := by decide +kernel
theorem dX5_readsBribe_36 : decode cX5_readsBribe 36 = .ok (.iconst 1, 1) := by decide +kernel
theorem dX5_readsBribe_37 : decode cX5_readsBribe 37 = .ok (.isub, 1) := by decide +kernel
theorem dX5_readsBribe_38 : decode cX5_readsBribe 38 = .ok (.invokevirtual 141, 3) := by decide +kernel
theorem dX5_readsBribe_41 : decode cX5_readsBribe 41 = .ok (.ifCond .ne 5, 3) := by decide +kernel
theorem dX5_readsBribe_44 : decode cX5_readsBribe 44 = .ok (.iconst 0, 1) := by decide +kernel
theorem dX5_readsBribe_45 : decode cX5_readsBribe 45 = .ok (.ireturn, 1) := by decide +kernel
theorem dX5_readsBribe_46 : decode cX5_readsBribe 46 = .ok (.aload_n 0, 1) := by decide +kernel
theorem dX5_readsBribe_47 : decode cX5_readsBribe 47 = .ok (.getfield 138, 3) := by decide +kernel
theorem dX5_readsBribe_50 : decode cX5_readsBribe 50 = .ok (.istore_n 3, 1) := by decide +kernel
theorem dX5_readsBribe_51 : decode cX5_readsBribe 51 = .ok (.aload_n 0, 1) := by decide +kernel
theorem dX5_readsBribe_52 : decode cX5_readsBribe 52 = .ok (.getfield 155, 3) := by decide +kernel
theorem dX5_readsBribe_55 : decode cX5_readsBribe 55 = .ok (.iload_n 3, 1) := by decide +kernel
theorem dX5_readsBribe_56 : decode cX5_readsBribe 56 = .ok (.invokestatic 158, 3) := by decide +kernel
theorem dX5_readsBribe_59 : decode cX5_readsBribe 59 = .ok (.ifCond .ne 26, 3) := by decide +kernel
theorem dX5_readsBribe_62 : decode cX5_readsBribe 62 = .ok (.aload_n 0, 1) := by decide +kernel
theorem dX5_readsBribe_63 : decode cX5_readsBribe 63 = .ok (.getfield 52, 3) := by decide +kernel
theorem dX5_readsBribe_66 : decode cX5_readsBribe 66 = .ok (.iconst 4, 1) := by decide +kernel
theorem dX5_readsBribe_67 : decode cX5_readsBribe 67 = .ok (.iload_n 3, 1) := by decide +kernel
theorem dX5_readsBribe_68 : decode cX5_readsBribe 68 = .ok (.imul, 1) := by decide +kernel
theorem dX5_readsBribe_69 : decode cX5_readsBribe 69 = .ok (.iconst 2, 1) := by decide +kernel
theorem dX5_readsBribe_70 : decode cX5_readsBribe 70 = .ok (.iadd, 1) := by decide +kernel
theorem dX5_readsBribe_71 : decode cX5_readsBribe 71 = .ok (.iaload, 1) := by decide +kernel
theorem dX5_readsBribe_72 : decode cX5_readsBribe 72 = .ok (.aload_n 0, 1) := by decide +kernel
theorem dX5_readsBribe_73 : decode cX5_readsBribe 73 = .ok (.getfield 49, 3) := by decide +kernel
theorem dX5_readsBribe_76 : decode cX5_readsBribe 76 = .ok (.iconst 2, 1) := by decide +kernel
theorem dX5_readsBribe_77 : decode cX5_readsBribe 77 = .ok (.iload_n 1, 1) := by decide +kernel
theorem dX5_readsBribe_78 : decode cX5_readsBribe 78 = .ok (.imul, 1) := by decide +kernel
theorem dX5_readsBribe_79 : decode cX5_readsBribe 79 = .ok (.iconst 1, 1) := by decide +kernel
theorem dX5_readsBribe_80 : decode cX5_readsBribe 80 = .ok (.iadd, 1) := by decide +kernel
theorem dX5_readsBribe_81 : decode cX5_readsBribe 81 = .ok (.iaload, 1) := by decide +kernel
theorem dX5_readsBribe_82 : decode cX5_readsBribe 82 = .ok (.if_icmp .le 10, 3) := by decide +kernel
theorem dX5_readsBribe_85 : decode cX5_readsBribe 85 = .ok (.aload_n 0, 1) := by decide +kernel
theorem dX5_readsBribe_86 : decode cX5_readsBribe 86 = .ok (.iload_n 2, 1) := by decide +kernel
theorem dX5_readsBribe_87 : decode cX5_readsBribe 87 = .ok (.putfield 115, 3) := by decide +kernel
theorem dX5_readsBribe_90 : decode cX5_readsBribe 90 = .ok (.iconst 0, 1) := by decide +kernel
theorem dX5_readsBribe_91 : decode cX5_readsBribe 91 = .ok (.ireturn, 1) := by decide +kernel
theorem dX5_readsBribe_92 : decode cX5_readsBribe 92 = .ok (.aload_n 0, 1) := by decide +kernel
theorem dX5_readsBribe_93 : decode cX5_readsBribe 93 = .ok (.dup, 1) := by decide +kernel
theorem dX5_readsBribe_94 : decode cX5_readsBribe 94 = .ok (.getfield 155, 3) := by decide +kernel
theorem dX5_readsBribe_97 : decode cX5_readsBribe 97 = .ok (.iconst 1, 1) := by decide +kernel
theorem dX5_readsBribe_98 : decode cX5_readsBribe 98 = .ok (.iload_n 3, 1) := by decide +kernel
theorem dX5_readsBribe_99 : decode cX5_readsBribe 99 = .ok (.ishl, 1) := by decide +kernel
theorem dX5_readsBribe_100 : decode cX5_readsBribe 100 = .ok (.ior, 1) := by decide +kernel
theorem dX5_readsBribe_101 : decode cX5_readsBribe 101 = .ok (.putfield 155, 3) := by decide +kernel
theorem dX5_readsBribe_104 : decode cX5_readsBribe 104 = .ok (.aload_n 0, 1) := by decide +kernel
theorem dX5_readsBribe_105 : decode cX5_readsBribe 105 = .ok (.getfield 49, 3) := by decide +kernel
theorem dX5_readsBribe_108 : decode cX5_readsBribe 108 = .ok (.iconst 2, 1) := by decide +kernel
theorem dX5_readsBribe_109 : decode cX5_readsBribe 109 = .ok (.iload_n 1, 1) := by decide +kernel
theorem dX5_readsBribe_110 : decode cX5_readsBribe 110 = .ok (.imul, 1) := by decide +kernel
theorem dX5_readsBribe_111 : decode cX5_readsBribe 111 = .ok (.iconst 1, 1) := by decide +kernel
theorem dX5_readsBribe_112 : decode cX5_readsBribe 112 = .ok (.iadd, 1) := by decide +kernel
theorem dX5_readsBribe_113 : decode cX5_readsBribe 113 = .ok (.dup2, 1) := by decide +kernel
theorem dX5_readsBribe_114 : decode cX5_readsBribe 114 = .ok (.iaload, 1) := by decide +kernel
theorem dX5_readsBribe_115 : decode cX5_readsBribe 115 = .ok (.aload_n 0, 1) := by decide +kernel
theorem dX5_readsBribe_116 : decode cX5_readsBribe 116 = .ok (.getfield 52, 3) := by decide +kernel
theorem dX5_readsBribe_119 : decode cX5_readsBribe 119 = .ok (.iconst 4, 1) := by decide +kernel
theorem dX5_readsBribe_120 : decode cX5_readsBribe 120 = .ok (.iload_n 3, 1) := by decide +kernel
theorem dX5_readsBribe_121 : decode cX5_readsBribe 121 = .ok (.imul, 1) := by decide +kernel
theorem dX5_readsBribe_122 : decode cX5_readsBribe 122 = .ok (.iconst 2, 1) := by decide +kernel
theorem dX5_readsBribe_123 : decode cX5_readsBribe 123 = .ok (.iadd, 1) := by decide +kernel
theorem dX5_readsBribe_124 : decode cX5_readsBribe 124 = .ok (.iaload, 1) := by decide +kernel
theorem dX5_readsBribe_125 : decode cX5_readsBribe 125 = .ok (.isub, 1) := by decide +kernel
theorem dX5_readsBribe_126 : decode cX5_readsBribe 126 = .ok (.iastore, 1) := by decide +kernel
theorem dX5_readsBribe_127 : decode cX5_readsBribe 127 = .ok (.aload_n 0, 1) := by decide +kernel
theorem dX5_readsBribe_128 : decode cX5_readsBribe 128 = .ok (.invokevirtual 148, 3) := by decide +kernel
theorem dX5_readsBribe_131 : decode cX5_readsBribe 131 = .ok (.ireturn, 1) := by decide +kernel
theorem dX5_readsItem_0 : decode cX5_readsItem 0 = .ok (.aload_n 0, 1) := by decide +kernel
theorem dX5_readsItem_1 : decode cX5_readsItem 1 = .ok (.invokevirtual 161, 3) := by decide +kernel
theorem dX5_readsItem_4 : decode cX5_readsItem 4 = .ok (.istore_n 1, 1) := by decide +kernel
theorem dX5_readsItem_5 : decode cX5_readsItem 5 = .ok (.iload_n 1, 1) := by decide +kernel
theorem dX5_readsItem_6 : decode cX5_readsItem 6 = .ok (.iconst 1, 1) := by decide +kernel
theorem dX5_readsItem_7 : decode cX5_readsItem 7 = .ok (.if_icmp .lt 30, 3) := by decide +kernel
theorem dX5_readsItem_10 : decode cX5_readsItem 10 = .ok (.iload_n 1, 1) := by decide +kernel
theorem dX5_readsItem_11 : decode cX5_readsItem 11 = .ok (.iconst 1, 1) := by decide +kernel
theorem dX5_readsItem_12 : decode cX5_readsItem 12 = .ok (.if_icmp .ne 11, 3) := by decide +kernel
theorem dX5_readsItem_15 : decode cX5_readsItem 15 = .ok (.aload_n 0, 1) := by decide +kernel
theorem dX5_readsItem_16 : decode cX5_readsItem 16 = .ok (.getfield 145, 3) := by decide +kernel
theorem dX5_readsItem_19 : decode cX5_readsItem 19 = .ok (.iconst 4, 1) := by decide +kernel
theorem dX5_readsItem_20 : decode cX5_readsItem 20 = .ok (.if_icmp .eq 17, 3) := by decide +kernel
theorem dX5_readsItem_23 : decode cX5_readsItem 23 = .ok (.iload_n 1, 1) := by decide +kernel
theorem dX5_readsItem_24 : decode cX5_readsItem 24 = .ok (.iconst 2, 1) := by decide +kernel
theorem dX5_readsItem_25 : decode cX5_readsItem 25 = .ok (.if_icmp .ne 14, 3) := by decide +kernel
theorem dX5_readsItem_28 : decode cX5_readsItem 28 = .ok (.aload_n 0, 1) := by decide +kernel
theorem dX5_readsItem_29 : decode cX5_readsItem 29 = .ok (.getfield 152, 3) := by decide +kernel
theorem dX5_readsItem_32 : decode cX5_readsItem 32 = .ok (.bipush 7, 2) := by decide +kernel
theorem dX5_readsItem_34 : decode cX5_readsItem 34 = .ok (.if_icmp .ne 5, 3) := by decide +kernel
theorem dX5_readsItem_37 : decode cX5_readsItem 37 = .ok (.iconst 0, 1) := by decide +kernel
theorem dX5_readsItem_38 : decode cX5_readsItem 38 = .ok (.ireturn, 1) := by decide +kernel
theorem dX5_readsItem_39 : decode cX5_readsItem 39 = .ok (.aload_n 0, 1) := by decide +kernel
theorem dX5_readsItem_40 : decode cX5_readsItem 40 = .ok (.dup, 1) := by decide +kernel
theorem dX5_readsItem_41 : decode cX5_readsItem 41 = .ok (.getfield 115, 3) := by decide +kernel
theorem dX5_readsItem_44 : decode cX5_readsItem 44 = .ok (.iload_n 1, 1) := by decide +kernel
theorem dX5_readsItem_45 : decode cX5_readsItem 45 = .ok (.iconst 3, 1) := by decide +kernel
theorem dX5_readsItem_46 : decode cX5_readsItem 46 = .ok (.if_icmp .ne 7, 3) := by decide +kernel
theorem dX5_readsItem_49 : decode cX5_readsItem 49 = .ok (.iconst 5, 1) := by decide +kernel
theorem dX5_readsItem_50 : decode cX5_readsItem 50 = .ok (.goto 4, 3) := by decide +kernel
theorem dX5_readsItem_53 : decode cX5_readsItem 53 = .ok (.iconst 3, 1) := by decide +kernel
theorem dX5_readsItem_54 : decode cX5_readsItem 54 = .ok (.iadd, 1) := by decide +kernel
theorem dX5_readsItem_55 : decode cX5_readsItem 55 = .ok (.putfield 115, 3) := by decide +kernel
theorem dX5_readsItem_58 : decode cX5_readsItem 58 = .ok (.iload_n 1, 1) := by decide +kernel
theorem dX5_readsItem_59 : decode cX5_readsItem 59 = .ok (.iconst 1, 1) := by decide +kernel
theorem dX5_readsItem_60 : decode cX5_readsItem 60 = .ok (.if_icmp .ne 10, 3) := by decide +kernel
theorem dX5_readsItem_63 : decode cX5_readsItem 63 = .ok (.aload_n 0, 1) := by decide +kernel
theorem dX5_readsItem_64 : decode cX5_readsItem 64 = .ok (.invokevirtual 164, 3) := by decide +kernel
theorem dX5_readsItem_67 : decode cX5_readsItem 67 = .ok (.goto 19, 3) := by decide +kernel
theorem dX5_readsItem_70 : decode cX5_readsItem 70 = .ok (.iload_n 1, 1) := by decide +kernel
theorem dX5_readsItem_71 : decode cX5_readsItem 71 = .ok (.iconst 2, 1) := by decide +kernel
theorem dX5_readsItem_72 : decode cX5_readsItem 72 = .ok (.if_icmp .ne 10, 3) := by decide +kernel
theorem dX5_readsItem_75 : decode cX5_readsItem 75 = .ok (.aload_n 0, 1) := by decide +kernel
theorem dX5_readsItem_76 : decode cX5_readsItem 76 = .ok (.invokevirtual 167, 3) := by decide +kernel
theorem dX5_readsItem_79 : decode cX5_readsItem 79 = .ok (.goto 7, 3) := by decide +kernel
theorem dX5_readsItem_82 : decode cX5_readsItem 82 = .ok (.aload_n 0, 1) := by decide +kernel
theorem dX5_readsItem_83 : decode cX5_readsItem 83 = .ok (.invokevirtual 170, 3) := by decide +kernel
theorem dX5_readsItem_86 : decode cX5_readsItem 86 = .ok (.ireturn, 1) := by decide +kernel
theorem dX5_readsVillage_0 : decode cX5_readsVillage 0 = .ok (.aload_n 0, 1) := by decide +kernel
theorem dX5_readsVillage_1 : decode cX5_readsVillage 1 = .ok (.iconst 0, 1) := by decide +kernel
theorem dX5_readsVillage_2 : decode cX5_readsVillage 2 = .ok (.putfield 115, 3) := by decide +kernel
theorem dX5_readsVillage_5 : decode cX5_readsVillage 5 = .ok (.aload_n 0, 1) := by decide +kernel
theorem dX5_readsVillage_6 : decode cX5_readsVillage 6 = .ok (.iconst 0, 1) := by decide +kernel
theorem dX5_readsVillage_7 : decode cX5_readsVillage 7 = .ok (.putfield 145, 3) := by decide +kernel
theorem dX5_readsVillage_10 : decode cX5_readsVillage 10 = .ok (.aload_n 0, 1) := by decide +kernel
theorem dX5_readsVillage_11 : decode cX5_readsVillage 11 = .ok (.iconst 0, 1) := by decide +kernel
theorem dX5_readsVillage_12 : decode cX5_readsVillage 12 = .ok (.putfield 152, 3) := by decide +kernel
theorem dX5_readsVillage_15 : decode cX5_readsVillage 15 = .ok (.aload_n 0, 1) := by decide +kernel
theorem dX5_readsVillage_16 : decode cX5_readsVillage 16 = .ok (.iconst 0, 1) := by decide +kernel
theorem dX5_readsVillage_17 : decode cX5_readsVillage 17 = .ok (.putfield 155, 3) := by decide +kernel
theorem dX5_readsVillage_20 : decode cX5_readsVillage 20 = .ok (.aload_n 0, 1) := by decide +kernel
theorem dX5_readsVillage_21 : decode cX5_readsVillage 21 = .ok (.invokevirtual 132, 3) := by decide +kernel
theorem dX5_readsVillage_24 : decode cX5_readsVillage 24 = .ok (.aload_n 0, 1) := by decide +kernel
theorem dX5_readsVillage_25 : decode cX5_readsVillage 25 = .ok (.invokevirtual 161, 3) := by decide +kernel
theorem dX5_readsVillage_28 : decode cX5_readsVillage 28 = .ok (.ifCond .eq 5, 3) := by decide +kernel
theorem dX5_readsVillage_31 : decode cX5_readsVillage 31 = .ok (.iconst (-1), 1) := by decide +kernel
theorem dX5_readsVillage_32 : decode cX5_readsVillage 32 = .ok (.ireturn, 1) := by decide +kernel
theorem dX5_readsVillage_33 : decode cX5_readsVillage 33 = .ok (.aload_n 0, 1) := by decide +kernel
theorem dX5_readsVillage_34 : decode cX5_readsVillage 34 = .ok (.dup, 1) := by decide +kernel
theorem dX5_readsVillage_35 : decode cX5_readsVillage 35 = .ok (.getfield 115, 3) := by decide +kernel
theorem dX5_readsVillage_38 : decode cX5_readsVillage 38 = .ok (.bipush 7, 2) := by decide +kernel
theorem dX5_readsVillage_40 : decode cX5_readsVillage 40 = .ok (.iadd, 1) := by decide +kernel
theorem dX5_readsVillage_41 : decode cX5_readsVillage 41 = .ok (.putfield 115, 3) := by decide +kernel
theorem dX5_readsVillage_44 : decode cX5_readsVillage 44 = .ok (.aload_n 0, 1) := by decide +kernel
theorem dX5_readsVillage_45 : decode cX5_readsVillage 45 = .ok (.invokevirtual 148, 3) := by decide +kernel
theorem dX5_readsVillage_48 : decode cX5_readsVillage 48 = .ok (.ifCond .ne 5, 3) := by decide +kernel
theorem dX5_readsVillage_51 : decode cX5_readsVillage 51 = .ok (.iconst (-1), 1) := by decide +kernel
theorem dX5_readsVillage_52 : decode cX5_readsVillage 52 = .ok (.ireturn, 1) := by decide +kernel
theorem dX5_readsVillage_53 : decode cX5_readsVillage 53 = .ok (.iconst 1, 1) := by decide +kernel
theorem dX5_readsVillage_54 : decode cX5_readsVillage 54 = .ok (.istore_n 1, 1) := by decide +kernel
theorem dX5_readsVillage_55 : decode cX5_readsVillage 55 = .ok (.aload_n 0, 1) := by decide +kernel
theorem dX5_readsVillage_56 : decode cX5_readsVillage 56 = .ok (.invokevirtual 132, 3) := by decide +kernel
theorem dX5_readsVillage_59 : decode cX5_readsVillage 59 = .ok (.aload_n 0, 1) := by decide +kernel
theorem dX5_readsVillage_60 : decode cX5_readsVillage 60 = .ok (.getfield 115, 3) := by decide +kernel
theorem dX5_readsVillage_63 : decode cX5_readsVillage 63 = .ok (.aload_n 0, 1) := by decide +kernel
theorem dX5_readsVillage_64 : decode cX5_readsVillage 64 = .ok (.getfield 112, 3) := by decide +kernel
theorem dX5_readsVillage_67 : decode cX5_readsVillage 67 = .ok (.if_icmp .ge 22, 3) := by decide +kernel
theorem dX5_readsVillage_70 : decode cX5_readsVillage 70 = .ok (.aload_n 0, 1) := by decide +kernel
theorem dX5_readsVillage_71 : decode cX5_readsVillage 71 = .ok (.invokevirtual 173, 3) := by decide +kernel
theorem dX5_readsVillage_74 : decode cX5_readsVillage 74 = .ok (.ifCond .ne 5, 3) := by decide +kernel
theorem dX5_readsVillage_77 : decode cX5_readsVillage 77 = .ok (.iconst (-1), 1) := by decide +kernel
theorem dX5_readsVillage_78 : decode cX5_readsVillage 78 = .ok (.ireturn, 1) := by decide +kernel
theorem dX5_readsVillage_79 : decode cX5_readsVillage 79 = .ok (.iinc 1 1, 3) := by decide +kernel
theorem dX5_readsVillage_82 : decode cX5_readsVillage 82 = .ok (.aload_n 0, 1) := by decide +kernel
theorem dX5_readsVillage_83 : decode cX5_readsVillage 83 = .ok (.invokevirtual 132, 3) := by decide +kernel
theorem dX5_readsVillage_86 : decode cX5_readsVillage 86 = .ok (.goto (-27), 3) := by decide +kernel
theorem dX5_readsVillage_89 : decode cX5_readsVillage 89 = .ok (.iload_n 1, 1) := by decide +kernel
theorem dX5_readsVillage_90 : decode cX5_readsVillage 90 = .ok (.ireturn, 1) := by decide +kernel
theorem dX5_read_0 : decode cX5_read 0 = .ok (.aload_n 0, 1) := by decide +kernel
theorem dX5_read_1 : decode cX5_read 1 = .ok (.invokevirtual 176, 3) := by decide +kernel
theorem dX5_read_4 : decode cX5_read 4 = .ok (.istore_n 1, 1) := by decide +kernel
theorem dX5_read_5 : decode cX5_read 5 = .ok (.iload_n 1, 1) := by decide +kernel
theorem dX5_read_6 : decode cX5_read 6 = .ok (.ifCond .ge 11, 3) := by decide +kernel
theorem dX5_read_9 : decode cX5_read 9 = .ok (.bipush (-10), 2) := by decide +kernel
theorem dX5_read_11 : decode cX5_read 11 = .ok (.aload_n 0, 1) := by decide +kernel
theorem dX5_read_12 : decode cX5_read 12 = .ok (.getfield 115, 3) := by decide +kernel
theorem dX5_read_15 : decode cX5_read 15 = .ok (.isub, 1) := by decide +kernel
theorem dX5_read_16 : decode cX5_read 16 = .ok (.ireturn, 1) := by decide +kernel
theorem dX5_read_17 : decode cX5_read 17 = .ok (.aload_n 0, 1) := by decide +kernel
theorem dX5_read_18 : decode cX5_read 18 = .ok (.invokevirtual 71, 3) := by decide +kernel
theorem dX5_read_21 : decode cX5_read 21 = .ok (.iconst 0, 1) := by decide +kernel
theorem dX5_read_22 : decode cX5_read 22 = .ok (.istore_n 2, 1) := by decide +kernel
theorem dX5_read_23 : decode cX5_read 23 = .ok (.iload_n 2, 1) := by decide +kernel
theorem dX5_read_24 : decode cX5_read 24 = .ok (.aload_n 0, 1) := by decide +kernel
theorem dX5_read_25 : decode cX5_read 25 = .ok (.getfield 145, 3) := by decide +kernel
theorem dX5_read_28 : decode cX5_read 28 = .ok (.if_icmp .ge 32, 3) := by decide +kernel
theorem dX5_read_31 : decode cX5_read 31 = .ok (.aload_n 0, 1) := by decide +kernel
theorem dX5_read_32 : decode cX5_read 32 = .ok (.aload_n 0, 1) := by decide +kernel
theorem dX5_read_33 : decode cX5_read 33 = .ok (.getfield 49, 3) := by decide +kernel
theorem dX5_read_36 : decode cX5_read 36 = .ok (.iconst 2, 1) := by decide +kernel
theorem dX5_read_37 : decode cX5_read 37 = .ok (.iload_n 2, 1) := by decide +kernel
theorem dX5_read_38 : decode cX5_read 38 = .ok (.imul, 1) := by decide +kernel
theorem dX5_read_39 : decode cX5_read 39 = .ok (.iaload, 1) := by decide +kernel
theorem dX5_read_40 : decode cX5_read 40 = .ok (.aload_n 0, 1) := by decide +kernel
theorem dX5_read_41 : decode cX5_read 41 = .ok (.getfield 49, 3) := by decide +kernel
theorem dX5_read_44 : decode cX5_read 44 = .ok (.iconst 2, 1) := by decide +kernel
theorem dX5_read_45 : decode cX5_read 45 = .ok (.iload_n 2, 1) := by decide +kernel
theorem dX5_read_46 : decode cX5_read 46 = .ok (.imul, 1) := by decide +kernel
theorem dX5_read_47 : decode cX5_read 47 = .ok (.iconst 1, 1) := by decide +kernel
theorem dX5_read_48 : decode cX5_read 48 = .ok (.iadd, 1) := by decide +kernel
theorem dX5_read_49 : decode cX5_read 49 = .ok (.iaload, 1) := by decide +kernel
theorem dX5_read_50 : decode cX5_read 50 = .ok (.invokevirtual 104, 3) := by decide +kernel
theorem dX5_read_53 : decode cX5_read 53 = .ok (.pop, 1) := by decide +kernel
theorem dX5_read_54 : decode cX5_read 54 = .ok (.iinc 2 1, 3) := by decide +kernel
theorem dX5_read_57 : decode cX5_read 57 = .ok (.goto (-34), 3) := by decide +kernel
theorem dX5_read_60 : decode cX5_read 60 = .ok (.iconst 0, 1) := by decide +kernel
theorem dX5_read_61 : decode cX5_read 61 = .ok (.istore_n 2, 1) := by decide +kernel
theorem dX5_read_62 : decode cX5_read 62 = .ok (.iload_n 2, 1) := by decide +kernel
theorem dX5_read_63 : decode cX5_read 63 = .ok (.aload_n 0, 1) := by decide +kernel
theorem dX5_read_64 : decode cX5_read 64 = .ok (.getfield 152, 3) := by decide +kernel
theorem dX5_read_67 : decode cX5_read 67 = .ok (.if_icmp .ge 52, 3) := by decide +kernel
theorem dX5_read_70 : decode cX5_read 70 = .ok (.aload_n 0, 1) := by decide +kernel
theorem dX5_read_71 : decode cX5_read 71 = .ok (.aload_n 0, 1) := by decide +kernel
theorem dX5_read_72 : decode cX5_read 72 = .ok (.getfield 52, 3) := by decide +kernel
theorem dX5_read_75 : decode cX5_read 75 = .ok (.iconst 4, 1) := by decide +kernel
theorem dX5_read_76 : decode cX5_read 76 = .ok (.iload_n 2, 1) := by decide +kernel
theorem dX5_read_77 : decode cX5_read 77 = .ok (.imul, 1) := by decide +kernel
theorem dX5_read_78 : decode cX5_read 78 = .ok (.iaload, 1) := by decide +kernel
theorem dX5_read_79 : decode cX5_read 79 = .ok (.aload_n 0, 1) := by decide +kernel
theorem dX5_read_80 : decode cX5_read 80 = .ok (.getfield 52, 3) := by decide +kernel
theorem dX5_read_83 : decode cX5_read 83 = .ok (.iconst 4, 1) := by decide +kernel
theorem dX5_read_84 : decode cX5_read 84 = .ok (.iload_n 2, 1) := by decide +kernel
theorem dX5_read_85 : decode cX5_read 85 = .ok (.imul, 1) := by decide +kernel
theorem dX5_read_86 : decode cX5_read 86 = .ok (.iconst 1, 1) := by decide +kernel
theorem dX5_read_87 : decode cX5_read 87 = .ok (.iadd, 1) := by decide +kernel
theorem dX5_read_88 : decode cX5_read 88 = .ok (.iaload, 1) := by decide +kernel
theorem dX5_read_89 : decode cX5_read 89 = .ok (.aload_n 0, 1) := by decide +kernel
theorem dX5_read_90 : decode cX5_read 90 = .ok (.getfield 52, 3) := by decide +kernel
theorem dX5_read_93 : decode cX5_read 93 = .ok (.iconst 4, 1) := by decide +kernel
theorem dX5_read_94 : decode cX5_read 94 = .ok (.iload_n 2, 1) := by decide +kernel
theorem dX5_read_95 : decode cX5_read 95 = .ok (.imul, 1) := by decide +kernel
theorem dX5_read_96 : decode cX5_read 96 = .ok (.iconst 2, 1) := by decide +kernel
theorem dX5_read_97 : decode cX5_read 97 = .ok (.iadd, 1) := by decide +kernel
theorem dX5_read_98 : decode cX5_read 98 = .ok (.iaload, 1) := by decide +kernel
theorem dX5_read_99 : decode cX5_read 99 = .ok (.aload_n 0, 1) := by decide +kernel
theorem dX5_read_100 : decode cX5_read 100 = .ok (.getfield 52, 3) := by decide +kernel
theorem dX5_read_103 : decode cX5_read 103 = .ok (.iconst 4, 1) := by decide +kernel
theorem dX5_read_104 : decode cX5_read 104 = .ok (.iload_n 2, 1) := by decide +kernel
theorem dX5_read_105 : decode cX5_read 105 = .ok (.imul, 1) := by decide +kernel
theorem dX5_read_106 : decode cX5_read 106 = .ok (.iconst 3, 1) := by decide +kernel
theorem dX5_read_107 : decode cX5_read 107 = .ok (.iadd, 1) := by decide +kernel
theorem dX5_read_108 : decode cX5_read 108 = .ok (.iaload, 1) := by decide +kernel
theorem dX5_read_109 : decode cX5_read 109 = .ok (.invokevirtual 108, 3) := by decide +kernel
theorem dX5_read_112 : decode cX5_read 112 = .ok (.pop, 1) := by decide +kernel
theorem dX5_read_113 : decode cX5_read 113 = .ok (.iinc 2 1, 3) := by decide +kernel
theorem dX5_read_116 : decode cX5_read 116 = .ok (.goto (-54), 3) := by decide +kernel
theorem dX5_read_119 : decode cX5_read 119 = .ok (.aload_n 0, 1) := by decide +kernel
theorem dX5_read_120 : decode cX5_read 120 = .ok (.aload_n 0, 1) := by decide +kernel
theorem dX5_read_121 : decode cX5_read 121 = .ok (.getfield 155, 3) := by decide +kernel
theorem dX5_read_124 : decode cX5_read 124 = .ok (.putfield 84, 3) := by decide +kernel
theorem dX5_read_127 : decode cX5_read 127 = .ok (.iload_n 1, 1) := by decide +kernel
theorem dX5_read_128 : decode cX5_read 128 = .ok (.ireturn, 1) := by decide +kernel
theorem dX5_bitesBy_0 : decode cX5_bitesBy 0 = .ok (.iload_n 0, 1) := by decide +kernel
theorem dX5_bitesBy_1 : decode cX5_bitesBy 1 = .ok (.tableswitch 74 2 5 #[31, 41, 53, 63], 31) := by decide +kernel
theorem dX5_bitesBy_32 : decode cX5_bitesBy 32 = .ok (.iload_n 1, 1) := by decide +kernel
theorem dX5_bitesBy_33 : decode cX5_bitesBy 33 = .ok (.ifCond .ne 7, 3) := by decide +kernel
theorem dX5_bitesBy_36 : decode cX5_bitesBy 36 = .ok (.iconst 1, 1) := by decide +kernel
theorem dX5_bitesBy_37 : decode cX5_bitesBy 37 = .ok (.goto 4, 3) := by decide +kernel
theorem dX5_bitesBy_40 : decode cX5_bitesBy 40 = .ok (.iconst 0, 1) := by decide +kernel
theorem dX5_bitesBy_41 : decode cX5_bitesBy 41 = .ok (.ireturn, 1) := by decide +kernel
theorem dX5_bitesBy_42 : decode cX5_bitesBy 42 = .ok (.iload_n 2, 1) := by decide +kernel
theorem dX5_bitesBy_43 : decode cX5_bitesBy 43 = .ok (.bipush 8, 2) := by decide +kernel
theorem dX5_bitesBy_45 : decode cX5_bitesBy 45 = .ok (.if_icmp .ge 7, 3) := by decide +kernel
theorem dX5_bitesBy_48 : decode cX5_bitesBy 48 = .ok (.iconst 1, 1) := by decide +kernel
theorem dX5_bitesBy_49 : decode cX5_bitesBy 49 = .ok (.goto 4, 3) := by decide +kernel
theorem dX5_bitesBy_52 : decode cX5_bitesBy 52 = .ok (.iconst 0, 1) := by decide +kernel
theorem dX5_bitesBy_53 : decode cX5_bitesBy 53 = .ok (.ireturn, 1) := by decide +kernel
theorem dX5_bitesBy_54 : decode cX5_bitesBy 54 = .ok (.iload_n 1, 1) := by decide +kernel
theorem dX5_bitesBy_55 : decode cX5_bitesBy 55 = .ok (.ifCond .ne 7, 3) := by decide +kernel
theorem dX5_bitesBy_58 : decode cX5_bitesBy 58 = .ok (.iconst 1, 1) := by decide +kernel
theorem dX5_bitesBy_59 : decode cX5_bitesBy 59 = .ok (.goto 4, 3) := by decide +kernel
theorem dX5_bitesBy_62 : decode cX5_bitesBy 62 = .ok (.iconst 0, 1) := by decide +kernel
theorem dX5_bitesBy_63 : decode cX5_bitesBy 63 = .ok (.ireturn, 1) := by decide +kernel
theorem dX5_bitesBy_64 : decode cX5_bitesBy 64 = .ok (.iload_n 2, 1) := by decide +kernel
theorem dX5_bitesBy_65 : decode cX5_bitesBy 65 = .ok (.iconst 5, 1) := by decide +kernel
theorem dX5_bitesBy_66 : decode cX5_bitesBy 66 = .ok (.if_icmp .ge 7, 3) := by decide +kernel
theorem dX5_bitesBy_69 : decode cX5_bitesBy 69 = .ok (.iconst 1, 1) := by decide +kernel
theorem dX5_bitesBy_70 : decode cX5_bitesBy 70 = .ok (.goto 4, 3) := by decide +kernel
theorem dX5_bitesBy_73 : decode cX5_bitesBy 73 = .ok (.iconst 0, 1) := by decide +kernel
theorem dX5_bitesBy_74 : decode cX5_bitesBy 74 = .ok (.ireturn, 1) := by decide +kernel
theorem dX5_bitesBy_75 : decode cX5_bitesBy 75 = .ok (.iload_n 1, 1) := by decide +kernel
theorem dX5_bitesBy_76 : decode cX5_bitesBy 76 = .ok (.ifCond .ne 13, 3) := by decide +kernel
theorem dX5_bitesBy_79 : decode cX5_bitesBy 79 = .ok (.iload_n 2, 1) := by decide +kernel
theorem dX5_bitesBy_80 : decode cX5_bitesBy 80 = .ok (.bipush 8, 2) := by decide +kernel
theorem dX5_bitesBy_82 : decode cX5_bitesBy 82 = .ok (.if_icmp .ge 7, 3) := by decide +kernel
theorem dX5_bitesBy_85 : decode cX5_bitesBy 85 = .ok (.iconst 1, 1) := by decide +kernel
theorem dX5_bitesBy_86 : decode cX5_bitesBy 86 = .ok (.goto 4, 3) := by decide +kernel
theorem dX5_bitesBy_89 : decode cX5_bitesBy 89 = .ok (.iconst 0, 1) := by decide +kernel
theorem dX5_bitesBy_90 : decode cX5_bitesBy 90 = .ok (.ireturn, 1) := by decide +kernel
theorem dX5_bitesMany_0 : decode cX5_bitesMany 0 = .ok (.iload_n 0, 1) := by decide +kernel
theorem dX5_bitesMany_1 : decode cX5_bitesMany 1 = .ok (.tableswitch 33 3 5 #[27, 29, 31], 27) := by decide +kernel
theorem dX5_bitesMany_28 : decode cX5_bitesMany 28 = .ok (.iconst 3, 1) := by decide +kernel
theorem dX5_bitesMany_29 : decode cX5_bitesMany 29 = .ok (.ireturn, 1) := by decide +kernel
theorem dX5_bitesMany_30 : decode cX5_bitesMany 30 = .ok (.iconst 1, 1) := by decide +kernel
theorem dX5_bitesMany_31 : decode cX5_bitesMany 31 = .ok (.ireturn, 1) := by decide +kernel
theorem dX5_bitesMany_32 : decode cX5_bitesMany 32 = .ok (.iconst 3, 1) := by decide +kernel
theorem dX5_bitesMany_33 : decode cX5_bitesMany 33 = .ok (.ireturn, 1) := by decide +kernel
theorem dX5_bitesMany_34 : decode cX5_bitesMany 34 = .ok (.iconst 2, 1) := by decide +kernel
theorem dX5_bitesMany_35 : decode cX5_bitesMany 35 = .ok (.ireturn, 1) := by decide +kernel
theorem dX5_holeBy_0 : decode cX5_holeBy 0 = .ok (.iload_n 0, 1) := by decide +kernel
theorem dX5_holeBy_1 : decode cX5_holeBy 1 = .ok (.tableswitch 49 1 5 #[35, 37, 49, 41, 45], 35) := by decide +kernel
theorem dX5_holeBy_36 : decode cX5_holeBy 36 = .ok (.iconst 0, 1) := by decide +kernel
theorem dX5_holeBy_37 : decode cX5_holeBy 37 = .ok (.ireturn, 1) := by decide +kernel
theorem dX5_holeBy_38 : decode cX5_holeBy 38 = .ok (.iconst 2, 1) := by decide +kernel
theorem dX5_holeBy_39 : decode cX5_holeBy 39 = .ok (.iload_n 1, 1) := by decide +kernel
theorem dX5_holeBy_40 : decode cX5_holeBy 40 = .ok (.imul, 1) := by decide +kernel
theorem dX5_holeBy_41 : decode cX5_holeBy 41 = .ok (.ireturn, 1) := by decide +kernel
theorem dX5_holeBy_42 : decode cX5_holeBy 42 = .ok (.iconst 2, 1) := by decide +kernel
theorem dX5_holeBy_43 : decode cX5_holeBy 43 = .ok (.iload_n 1, 1) := by decide +kernel
theorem dX5_holeBy_44 : decode cX5_holeBy 44 = .ok (.imul, 1) := by decide +kernel
theorem dX5_holeBy_45 : decode cX5_holeBy 45 = .ok (.ireturn, 1) := by decide +kernel
theorem dX5_holeBy_46 : decode cX5_holeBy 46 = .ok (.iload_n 1, 1) := by decide +kernel
theorem dX5_holeBy_47 : decode cX5_holeBy 47 = .ok (.iconst 1, 1) := by decide +kernel
theorem dX5_holeBy_48 : decode cX5_holeBy 48 = .ok (.iadd, 1) := by decide +kernel
theorem dX5_holeBy_49 : decode cX5_holeBy 49 = .ok (.ireturn, 1) := by decide +kernel
theorem dX5_holeBy_50 : decode cX5_holeBy 50 = .ok (.iload_n 1, 1) := by decide +kernel
theorem dX5_holeBy_51 : decode cX5_holeBy 51 = .ok (.ireturn, 1) := by decide +kernel
theorem dX5_isBitten_0 : decode cX5_isBitten 0 = .ok (.aload_n 0, 1) := by decide +kernel
theorem dX5_isBitten_1 : decode cX5_isBitten 1 = .ok (.getfield 22, 3) := by decide +kernel
theorem dX5_isBitten_4 : decode cX5_isBitten 4 = .ok (.iload_n 1, 1) := by decide +kernel
theorem dX5_isBitten_5 : decode cX5_isBitten 5 = .ok (.iaload, 1) := by decide +kernel
theorem dX5_isBitten_6 : decode cX5_isBitten 6 = .ok (.invokestatic 179, 3) := by decide +kernel
theorem dX5_isBitten_9 : decode cX5_isBitten 9 = .ok (.istore 4, 2) := by decide +kernel
theorem dX5_isBitten_11 : decode cX5_isBitten 11 = .ok (.iconst 0, 1) := by decide +kernel
theorem dX5_isBitten_12 : decode cX5_isBitten 12 = .ok (.istore 5, 2) := by decide +kernel
theorem dX5_isBitten_14 : decode cX5_isBitten 14 = .ok (.iconst 0, 1) := by decide +kernel
theorem dX5_isBitten_15 : decode cX5_isBitten 15 = .ok (.istore 6, 2) := by decide +kernel
theorem dX5_isBitten_17 : decode cX5_isBitten 17 = .ok (.iload 6, 2) := by decide +kernel
theorem dX5_isBitten_19 : decode cX5_isBitten 19 = .ok (.aload_n 0, 1) := by decide +kernel
theorem dX5_isBitten_20 : decode cX5_isBitten 20 = .ok (.getfield 74, 3) := by decide +kernel
theorem dX5_isBitten_23 : decode cX5_isBitten 23 = .ok (.if_icmp .ge 105, 3) := by decide +kernel
theorem dX5_isBitten_26 : decode cX5_isBitten 26 = .ok (.iload_n 3, 1) := by decide +kernel
theorem dX5_isBitten_27 : decode cX5_isBitten 27 = .ok (.iload 6, 2) := by decide +kernel
theorem dX5_isBitten_29 : decode cX5_isBitten 29 = .ok (.iadd, 1) := by decide +kernel
theorem dX5_isBitten_30 : decode cX5_isBitten 30 = .ok (.aload_n 0, 1) := by decide +kernel
theorem dX5_isBitten_31 : decode cX5_isBitten 31 = .ok (.getfield 74, 3) := by decide +kernel
theorem dX5_isBitten_34 : decode cX5_isBitten 34 = .ok (.irem, 1) := by decide +kernel
theorem dX5_isBitten_35 : decode cX5_isBitten 35 = .ok (.istore 7, 2) := by decide +kernel
theorem dX5_isBitten_37 : decode cX5_isBitten 37 = .ok (.iload 4, 2) := by decide +kernel
theorem dX5_isBitten_39 : decode cX5_isBitten 39 = .ok (.ifCond .le 42, 3) := by decide +kernel
theorem dX5_isBitten_42 : decode cX5_isBitten 42 = .ok (.aload_n 0, 1) := by decide +kernel
theorem dX5_isBitten_43 : decode cX5_isBitten 43 = .ok (.getfield 22, 3) := by decide +kernel
theorem dX5_isBitten_46 : decode cX5_isBitten 46 = .ok (.iload_n 1, 1) := by decide +kernel
theorem dX5_isBitten_47 : decode cX5_isBitten 47 = .ok (.iaload, 1) := by decide +kernel
theorem dX5_isBitten_48 : decode cX5_isBitten 48 = .ok (.aload_n 0, 1) := by decide +kernel
theorem dX5_isBitten_49 : decode cX5_isBitten 49 = .ok (.getfield 31, 3) := by decide +kernel
theorem dX5_isBitten_52 : decode cX5_isBitten 52 = .ok (.iload_n 1, 1) := by decide +kernel
theorem dX5_isBitten_53 : decode cX5_isBitten 53 = .ok (.iaload, 1) := by decide +kernel
theorem dX5_isBitten_54 : decode cX5_isBitten 54 = .ok (.iload 7, 2) := by decide +kernel
theorem dX5_isBitten_56 : decode cX5_isBitten 56 = .ok (.if_icmp .ne 7, 3) := by decide +kernel
theorem dX5_isBitten_59 : decode cX5_isBitten 59 = .ok (.iconst 1, 1) := by decide +kernel
theorem dX5_isBitten_60 : decode cX5_isBitten 60 = .ok (.goto 4, 3) := by decide +kernel
theorem dX5_isBitten_63 : decode cX5_isBitten 63 = .ok (.iconst 0, 1) := by decide +kernel
theorem dX5_isBitten_64 : decode cX5_isBitten 64 = .ok (.aload_n 0, 1) := by decide +kernel
theorem dX5_isBitten_65 : decode cX5_isBitten 65 = .ok (.getfield 13, 3) := by decide +kernel
theorem dX5_isBitten_68 : decode cX5_isBitten 68 = .ok (.iload 7, 2) := by decide +kernel
theorem dX5_isBitten_70 : decode cX5_isBitten 70 = .ok (.iaload, 1) := by decide +kernel
theorem dX5_isBitten_71 : decode cX5_isBitten 71 = .ok (.invokestatic 182, 3) := by decide +kernel
theorem dX5_isBitten_74 : decode cX5_isBitten 74 = .ok (.ifCond .eq 7, 3) := by decide +kernel
theorem dX5_isBitten_77 : decode cX5_isBitten 77 = .ok (.iconst 1, 1) := by decide +kernel
theorem dX5_isBitten_78 : decode cX5_isBitten 78 = .ok (.goto 4, 3) := by decide +kernel
theorem dX5_isBitten_81 : decode cX5_isBitten 81 = .ok (.iconst 0, 1) := by decide +kernel
theorem dX5_isBitten_82 : decode cX5_isBitten 82 = .ok (.istore 8, 2) := by decide +kernel
theorem dX5_isBitten_84 : decode cX5_isBitten 84 = .ok (.iload 5, 2) := by decide +kernel
theorem dX5_isBitten_86 : decode cX5_isBitten 86 = .ok (.ifCond .ne 14, 3) := by decide +kernel
theorem dX5_isBitten_89 : decode cX5_isBitten 89 = .ok (.iload 8, 2) := by decide +kernel
theorem dX5_isBitten_91 : decode cX5_isBitten 91 = .ok (.ifCond .eq 13, 3) := by decide +kernel
theorem dX5_isBitten_94 : decode cX5_isBitten 94 = .ok (.iload 7, 2) := by decide +kernel
theorem dX5_isBitten_96 : decode cX5_isBitten 96 = .ok (.iload_n 2, 1) := by decide +kernel
theorem dX5_isBitten_97 : decode cX5_isBitten 97 = .ok (.if_icmp .ne 7, 3) := by decide +kernel
theorem dX5_isBitten_100 : decode cX5_isBitten 100 = .ok (.iconst 1, 1) := by decide +kernel
theorem dX5_isBitten_101 : decode cX5_isBitten 101 = .ok (.goto 4, 3) := by decide +kernel
theorem dX5_isBitten_104 : decode cX5_isBitten 104 = .ok (.iconst 0, 1) := by decide +kernel
theorem dX5_isBitten_105 : decode cX5_isBitten 105 = .ok (.istore 5, 2) := by decide +kernel
theorem dX5_isBitten_107 : decode cX5_isBitten 107 = .ok (.iload 4, 2) := by decide +kernel
theorem dX5_isBitten_109 : decode cX5_isBitten 109 = .ok (.iload 8, 2) := by decide +kernel
theorem dX5_isBitten_111 : decode cX5_isBitten 111 = .ok (.ifCond .eq 7, 3) := by decide +kernel
theorem dX5_isBitten_114 : decode cX5_isBitten 114 = .ok (.iconst 1, 1) := by decide +kernel
theorem dX5_isBitten_115 : decode cX5_isBitten 115 = .ok (.goto 4, 3) := by decide +kernel
theorem dX5_isBitten_118 : decode cX5_isBitten 118 = .ok (.iconst 0, 1) := by decide +kernel
theorem dX5_isBitten_119 : decode cX5_isBitten 119 = .ok (.isub, 1) := by decide +kernel
theorem dX5_isBitten_120 : decode cX5_isBitten 120 = .ok (.istore 4, 2) := by decide +kernel
theorem dX5_isBitten_122 : decode cX5_isBitten 122 = .ok (.iinc 6 1, 3) := by decide +kernel
theorem dX5_isBitten_125 : decode cX5_isBitten 125 = .ok (.goto (-108), 3) := by decide +kernel
theorem dX5_isBitten_128 : decode cX5_isBitten 128 = .ok (.iload 5, 2) := by decide +kernel
theorem dX5_isBitten_130 : decode cX5_isBitten 130 = .ok (.ireturn, 1) := by decide +kernel
theorem dX5_comesTo_0 : decode cX5_comesTo 0 = .ok (.iconst 0, 1) := by decide +kernel
theorem dX5_comesTo_1 : decode cX5_comesTo 1 = .ok (.istore 4, 2) := by decide +kernel
theorem dX5_comesTo_3 : decode cX5_comesTo 3 = .ok (.iconst 0, 1) := by decide +kernel
theorem dX5_comesTo_4 : decode cX5_comesTo 4 = .ok (.istore 5, 2) := by decide +kernel
theorem dX5_comesTo_6 : decode cX5_comesTo 6 = .ok (.iload 5, 2) := by decide +kernel
theorem dX5_comesTo_8 : decode cX5_comesTo 8 = .ok (.aload_n 0, 1) := by decide +kernel
theorem dX5_comesTo_9 : decode cX5_comesTo 9 = .ok (.getfield 78, 3) := by decide +kernel
theorem dX5_comesTo_12 : decode cX5_comesTo 12 = .ok (.if_icmp .ge 55, 3) := by decide +kernel
theorem dX5_comesTo_15 : decode cX5_comesTo 15 = .ok (.iload 4, 2) := by decide +kernel
theorem dX5_comesTo_17 : decode cX5_comesTo 17 = .ok (.iload_n 3, 1) := by decide +kernel
theorem dX5_comesTo_18 : decode cX5_comesTo 18 = .ok (.iload 5, 2) := by decide +kernel
theorem dX5_comesTo_20 : decode cX5_comesTo 20 = .ok (.invokestatic 158, 3) := by decide +kernel
theorem dX5_comesTo_23 : decode cX5_comesTo 23 = .ok (.ifCond .ne 34, 3) := by decide +kernel
theorem dX5_comesTo_26 : decode cX5_comesTo 26 = .ok (.aload_n 0, 1) := by decide +kernel
theorem dX5_comesTo_27 : decode cX5_comesTo 27 = .ok (.iload 5, 2) := by decide +kernel
theorem dX5_comesTo_29 : decode cX5_comesTo 29 = .ok (.iload_n 1, 1) := by decide +kernel
theorem dX5_comesTo_30 : decode cX5_comesTo 30 = .ok (.iload_n 2, 1) := by decide +kernel
theorem dX5_comesTo_31 : decode cX5_comesTo 31 = .ok (.invokevirtual 186, 3) := by decide +kernel
theorem dX5_comesTo_34 : decode cX5_comesTo 34 = .ok (.ifCond .eq 23, 3) := by decide +kernel
theorem dX5_comesTo_37 : decode cX5_comesTo 37 = .ok (.aload_n 0, 1) := by decide +kernel
theorem dX5_comesTo_38 : decode cX5_comesTo 38 = .ok (.getfield 22, 3) := by decide +kernel
theorem dX5_comesTo_41 : decode cX5_comesTo 41 = .ok (.iload 5, 2) := by decide +kernel
theorem dX5_comesTo_43 : decode cX5_comesTo 43 = .ok (.iaload, 1) := by decide +kernel
theorem dX5_comesTo_44 : decode cX5_comesTo 44 = .ok (.aload_n 0, 1) := by decide +kernel
theorem dX5_comesTo_45 : decode cX5_comesTo 45 = .ok (.getfield 25, 3) := by decide +kernel
theorem dX5_comesTo_48 : decode cX5_comesTo 48 = .ok (.iload 5, 2) := by decide +kernel
theorem dX5_comesTo_50 : decode cX5_comesTo 50 = .ok (.iaload, 1) := by decide +kernel
theorem dX5_comesTo_51 : decode cX5_comesTo 51 = .ok (.invokestatic 189, 3) := by decide +kernel
theorem dX5_comesTo_54 : decode cX5_comesTo 54 = .ok (.goto 4, 3) := by decide +kernel
theorem dX5_comesTo_57 : decode cX5_comesTo 57 = .ok (.iconst 0, 1) := by decide +kernel
theorem dX5_comesTo_58 : decode cX5_comesTo 58 = .ok (.iadd, 1) := by decide +kernel
theorem dX5_comesTo_59 : decode cX5_comesTo 59 = .ok (.istore 4, 2) := by decide +kernel
theorem dX5_comesTo_61 : decode cX5_comesTo 61 = .ok (.iinc 5 1, 3) := by decide +kernel
theorem dX5_comesTo_64 : decode cX5_comesTo 64 = .ok (.goto (-58), 3) := by decide +kernel
theorem dX5_comesTo_67 : decode cX5_comesTo 67 = .ok (.iload 4, 2) := by decide +kernel
theorem dX5_comesTo_69 : decode cX5_comesTo 69 = .ok (.ireturn, 1) := by decide +kernel
theorem dX5_firstOf_0 : decode cX5_firstOf 0 = .ok (.aload_n 0, 1) := by decide +kernel
theorem dX5_firstOf_1 : decode cX5_firstOf 1 = .ok (.getfield 74, 3) := by decide +kernel
theorem dX5_firstOf_4 : decode cX5_firstOf 4 = .ok (.ifCond .ne 7, 3) := by decide +kernel
theorem dX5_firstOf_7 : decode cX5_firstOf 7 = .ok (.iconst 0, 1) := by decide +kernel
theorem dX5_firstOf_8 : decode cX5_firstOf 8 = .ok (.goto 9, 3) := by decide +kernel
theorem dX5_firstOf_11 : decode cX5_firstOf 11 = .ok (.iload_n 1, 1) := by decide +kernel
theorem dX5_firstOf_12 : decode cX5_firstOf 12 = .ok (.aload_n 0, 1) := by decide +kernel
theorem dX5_firstOf_13 : decode cX5_firstOf 13 = .ok (.getfield 74, 3) := by decide +kernel
theorem dX5_firstOf_16 : decode cX5_firstOf 16 = .ok (.irem, 1) := by decide +kernel
theorem dX5_firstOf_17 : decode cX5_firstOf 17 = .ok (.ireturn, 1) := by decide +kernel
theorem dX5_pass_0 : decode cX5_pass 0 = .ok (.iconst 0, 1) := by decide +kernel
theorem dX5_pass_1 : decode cX5_pass 1 = .ok (.istore_n 1, 1) := by decide +kernel
theorem dX5_pass_2 : decode cX5_pass 2 = .ok (.iload_n 1, 1) := by decide +kernel
theorem dX5_pass_3 : decode cX5_pass 3 = .ok (.aload_n 0, 1) := by decide +kernel
theorem dX5_pass_4 : decode cX5_pass 4 = .ok (.getfield 74, 3) := by decide +kernel
theorem dX5_pass_7 : decode cX5_pass 7 = .ok (.if_icmp .ge 35, 3) := by decide +kernel
theorem dX5_pass_10 : decode cX5_pass 10 = .ok (.aload_n 0, 1) := by decide +kernel
theorem dX5_pass_11 : decode cX5_pass 11 = .ok (.getfield 19, 3) := by decide +kernel
theorem dX5_pass_14 : decode cX5_pass 14 = .ok (.iload_n 1, 1) := by decide +kernel
theorem dX5_pass_15 : decode cX5_pass 15 = .ok (.dup2, 1) := by decide +kernel
theorem dX5_pass_16 : decode cX5_pass 16 = .ok (.iaload, 1) := by decide +kernel
theorem dX5_pass_17 : decode cX5_pass 17 = .ok (.aload_n 0, 1) := by decide +kernel
theorem dX5_pass_18 : decode cX5_pass 18 = .ok (.iload_n 1, 1) := by decide +kernel
theorem dX5_pass_19 : decode cX5_pass 19 = .ok (.aload_n 0, 1) := by decide +kernel
theorem dX5_pass_20 : decode cX5_pass 20 = .ok (.aload_n 0, 1) := by decide +kernel
theorem dX5_pass_21 : decode cX5_pass 21 = .ok (.getfield 81, 3) := by decide +kernel
theorem dX5_pass_24 : decode cX5_pass 24 = .ok (.invokevirtual 192, 3) := by decide +kernel
theorem dX5_pass_27 : decode cX5_pass 27 = .ok (.aload_n 0, 1) := by decide +kernel
theorem dX5_pass_28 : decode cX5_pass 28 = .ok (.getfield 84, 3) := by decide +kernel
theorem dX5_pass_31 : decode cX5_pass 31 = .ok (.invokevirtual 195, 3) := by decide +kernel
theorem dX5_pass_34 : decode cX5_pass 34 = .ok (.iadd, 1) := by decide +kernel
theorem dX5_pass_35 : decode cX5_pass 35 = .ok (.iastore, 1) := by decide +kernel
theorem dX5_pass_36 : decode cX5_pass 36 = .ok (.iinc 1 1, 3) := by decide +kernel
theorem dX5_pass_39 : decode cX5_pass 39 = .ok (.goto (-37), 3) := by decide +kernel
theorem dX5_pass_42 : decode cX5_pass 42 = .ok (.aload_n 0, 1) := by decide +kernel
theorem dX5_pass_43 : decode cX5_pass 43 = .ok (.iconst 0, 1) := by decide +kernel
theorem dX5_pass_44 : decode cX5_pass 44 = .ok (.putfield 84, 3) := by decide +kernel
theorem dX5_pass_47 : decode cX5_pass 47 = .ok (.aload_n 0, 1) := by decide +kernel
theorem dX5_pass_48 : decode cX5_pass 48 = .ok (.dup, 1) := by decide +kernel
theorem dX5_pass_49 : decode cX5_pass 49 = .ok (.getfield 81, 3) := by decide +kernel
theorem dX5_pass_52 : decode cX5_pass 52 = .ok (.iconst 1, 1) := by decide +kernel
theorem dX5_pass_53 : decode cX5_pass 53 = .ok (.iadd, 1) := by decide +kernel
theorem dX5_pass_54 : decode cX5_pass 54 = .ok (.putfield 81, 3) := by decide +kernel
theorem dX5_pass_57 : decode cX5_pass 57 = .ok (.return_, 1) := by decide +kernel
theorem dX5_postman_0 : decode cX5_postman 0 = .ok (.iconst (-1), 1) := by decide +kernel
theorem dX5_postman_1 : decode cX5_postman 1 = .ok (.istore_n 1, 1) := by decide +kernel
theorem dX5_postman_2 : decode cX5_postman 2 = .ok (.iconst 0, 1) := by decide +kernel
theorem dX5_postman_3 : decode cX5_postman 3 = .ok (.istore_n 2, 1) := by decide +kernel
theorem dX5_postman_4 : decode cX5_postman 4 = .ok (.iload_n 2, 1) := by decide +kernel
theorem dX5_postman_5 : decode cX5_postman 5 = .ok (.aload_n 0, 1) := by decide +kernel
theorem dX5_postman_6 : decode cX5_postman 6 = .ok (.getfield 74, 3) := by decide +kernel
theorem dX5_postman_9 : decode cX5_postman 9 = .ok (.if_icmp .ge 44, 3) := by decide +kernel
theorem dX5_postman_12 : decode cX5_postman 12 = .ok (.aload_n 0, 1) := by decide +kernel
theorem dX5_postman_13 : decode cX5_postman 13 = .ok (.getfield 19, 3) := by decide +kernel
theorem dX5_postman_16 : decode cX5_postman 16 = .ok (.iload_n 2, 1) := by decide +kernel
theorem dX5_postman_17 : decode cX5_postman 17 = .ok (.iaload, 1) := by decide +kernel
theorem dX5_postman_18 : decode cX5_postman 18 = .ok (.ifCond .le 27, 3) := by decide +kernel
theorem dX5_postman_21 : decode cX5_postman 21 = .ok (.iload_n 1, 1) := by decide +kernel
theorem dX5_postman_22 : decode cX5_postman 22 = .ok (.iconst (-1), 1) := by decide +kernel
theorem dX5_postman_23 : decode cX5_postman 23 = .ok (.if_icmp .eq 18, 3) := by decide +kernel
theorem dX5_postman_26 : decode cX5_postman 26 = .ok (.aload_n 0, 1) := by decide +kernel
theorem dX5_postman_27 : decode cX5_postman 27 = .ok (.getfield 19, 3) := by decide +kernel
theorem dX5_postman_30 : decode cX5_postman 30 = .ok (.iload_n 2, 1) := by decide +kernel
theorem dX5_postman_31 : decode cX5_postman 31 = .ok (.iaload, 1) := by decide +kernel
theorem dX5_postman_32 : decode cX5_postman 32 = .ok (.aload_n 0, 1) := by decide +kernel
theorem dX5_postman_33 : decode cX5_postman 33 = .ok (.getfield 19, 3) := by decide +kernel
theorem dX5_postman_36 : decode cX5_postman 36 = .ok (.iload_n 1, 1) := by decide +kernel
theorem dX5_postman_37 : decode cX5_postman 37 = .ok (.iaload, 1) := by decide +kernel
theorem dX5_postman_38 : decode cX5_postman 38 = .ok (.if_icmp .ge 7, 3) := by decide +kernel
theorem dX5_postman_41 : decode cX5_postman 41 = .ok (.iload_n 2, 1) := by decide +kernel
theorem dX5_postman_42 : decode cX5_postman 42 = .ok (.goto 4, 3) := by decide +kernel
theorem dX5_postman_45 : decode cX5_postman 45 = .ok (.iload_n 1, 1) := by decide +kernel
theorem dX5_postman_46 : decode cX5_postman 46 = .ok (.istore_n 1, 1) := by decide +kernel
theorem dX5_postman_47 : decode cX5_postman 47 = .ok (.iinc 2 1, 3) := by decide +kernel
theorem dX5_postman_50 : decode cX5_postman 50 = .ok (.goto (-46), 3) := by decide +kernel
theorem dX5_postman_53 : decode cX5_postman 53 = .ok (.iload_n 1, 1) := by decide +kernel
theorem dX5_postman_54 : decode cX5_postman 54 = .ok (.ireturn, 1) := by decide +kernel
theorem dX5_nextVillage_0 : decode cX5_nextVillage 0 = .ok (.iconst (-1), 1) := by decide +kernel
theorem dX5_nextVillage_1 : decode cX5_nextVillage 1 = .ok (.istore_n 1, 1) := by decide +kernel
theorem dX5_nextVillage_2 : decode cX5_nextVillage 2 = .ok (.iconst 0, 1) := by decide +kernel
theorem dX5_nextVillage_3 : decode cX5_nextVillage 3 = .ok (.istore_n 2, 1) := by decide +kernel
theorem dX5_nextVillage_4 : decode cX5_nextVillage 4 = .ok (.iload_n 2, 1) := by decide +kernel
theorem dX5_nextVillage_5 : decode cX5_nextVillage 5 = .ok (.aload_n 0, 1) := by decide +kernel
theorem dX5_nextVillage_6 : decode cX5_nextVillage 6 = .ok (.getfield 74, 3) := by decide +kernel
theorem dX5_nextVillage_9 : decode cX5_nextVillage 9 = .ok (.if_icmp .ge 44, 3) := by decide +kernel
theorem dX5_nextVillage_12 : decode cX5_nextVillage 12 = .ok (.aload_n 0, 1) := by decide +kernel
theorem dX5_nextVillage_13 : decode cX5_nextVillage 13 = .ok (.getfield 19, 3) := by decide +kernel
theorem dX5_nextVillage_16 : decode cX5_nextVillage 16 = .ok (.iload_n 2, 1) := by decide +kernel
theorem dX5_nextVillage_17 : decode cX5_nextVillage 17 = .ok (.iaload, 1) := by decide +kernel
theorem dX5_nextVillage_18 : decode cX5_nextVillage 18 = .ok (.ifCond .le 27, 3) := by decide +kernel
theorem dX5_nextVillage_21 : decode cX5_nextVillage 21 = .ok (.iload_n 1, 1) := by decide +kernel
theorem dX5_nextVillage_22 : decode cX5_nextVillage 22 = .ok (.iconst (-1), 1) := by decide +kernel
theorem dX5_nextVillage_23 : decode cX5_nextVillage 23 = .ok (.if_icmp .eq 18, 3) := by decide +kernel
theorem dX5_nextVillage_26 : decode cX5_nextVillage 26 = .ok (.aload_n 0, 1) := by decide +kernel
theorem dX5_nextVillage_27 : decode cX5_nextVillage 27 = .ok (.getfield 19, 3) := by decide +kernel
theorem dX5_nextVillage_30 : decode cX5_nextVillage 30 = .ok (.iload_n 2, 1) := by decide +kernel
theorem dX5_nextVillage_31 : decode cX5_nextVillage 31 = .ok (.iaload, 1) := by decide +kernel
theorem dX5_nextVillage_32 : decode cX5_nextVillage 32 = .ok (.aload_n 0, 1) := by decide +kernel
theorem dX5_nextVillage_33 : decode cX5_nextVillage 33 = .ok (.getfield 19, 3) := by decide +kernel
theorem dX5_nextVillage_36 : decode cX5_nextVillage 36 = .ok (.iload_n 1, 1) := by decide +kernel
theorem dX5_nextVillage_37 : decode cX5_nextVillage 37 = .ok (.iaload, 1) := by decide +kernel
theorem dX5_nextVillage_38 : decode cX5_nextVillage 38 = .ok (.if_icmp .le 7, 3) := by decide +kernel
theorem dX5_nextVillage_41 : decode cX5_nextVillage 41 = .ok (.iload_n 2, 1) := by decide +kernel
theorem dX5_nextVillage_42 : decode cX5_nextVillage 42 = .ok (.goto 4, 3) := by decide +kernel
theorem dX5_nextVillage_45 : decode cX5_nextVillage 45 = .ok (.iload_n 1, 1) := by decide +kernel
theorem dX5_nextVillage_46 : decode cX5_nextVillage 46 = .ok (.istore_n 1, 1) := by decide +kernel
theorem dX5_nextVillage_47 : decode cX5_nextVillage 47 = .ok (.iinc 2 1, 3) := by decide +kernel
theorem dX5_nextVillage_50 : decode cX5_nextVillage 50 = .ok (.goto (-46), 3) := by decide +kernel
theorem dX5_nextVillage_53 : decode cX5_nextVillage 53 = .ok (.iload_n 1, 1) := by decide +kernel
theorem dX5_nextVillage_54 : decode cX5_nextVillage 54 = .ok (.ireturn, 1) := by decide +kernel
theorem dX5_lays_0 : decode cX5_lays 0 = .ok (.aload_n 1, 1) := by decide +kernel
theorem dX5_lays_1 : decode cX5_lays 1 = .ok (.iload_n 2, 1) := by decide +kernel
theorem dX5_lays_2 : decode cX5_lays 2 = .ok (.aload_n 0, 1) := by decide +kernel
theorem dX5_lays_3 : decode cX5_lays 3 = .ok (.getfield 81, 3) := by decide +kernel
theorem dX5_lays_6 : decode cX5_lays 6 = .ok (.iastore, 1) := by decide +kernel
theorem dX5_lays_7 : decode cX5_lays 7 = .ok (.aload_n 1, 1) := by decide +kernel
theorem dX5_lays_8 : decode cX5_lays 8 = .ok (.iload_n 2, 1) := by decide +kernel
theorem dX5_lays_9 : decode cX5_lays 9 = .ok (.iconst 1, 1) := by decide +kernel
theorem dX5_lays_10 : decode cX5_lays 10 = .ok (.iadd, 1) := by decide +kernel
theorem dX5_lays_11 : decode cX5_lays 11 = .ok (.aload_n 0, 1) := by decide +kernel
theorem dX5_lays_12 : decode cX5_lays 12 = .ok (.getfield 84, 3) := by decide +kernel
theorem dX5_lays_15 : decode cX5_lays 15 = .ok (.iastore, 1) := by decide +kernel
theorem dX5_lays_16 : decode cX5_lays 16 = .ok (.iconst 0, 1) := by decide +kernel
theorem dX5_lays_17 : decode cX5_lays 17 = .ok (.istore_n 3, 1) := by decide +kernel
theorem dX5_lays_18 : decode cX5_lays 18 = .ok (.iload_n 3, 1) := by decide +kernel
theorem dX5_lays_19 : decode cX5_lays 19 = .ok (.iconst 4, 1) := by decide +kernel
theorem dX5_lays_20 : decode cX5_lays 20 = .ok (.if_icmp .ge 36, 3) := by decide +kernel
theorem dX5_lays_23 : decode cX5_lays 23 = .ok (.aload_n 1, 1) := by decide +kernel
theorem dX5_lays_24 : decode cX5_lays 24 = .ok (.iload_n 2, 1) := by decide +kernel
theorem dX5_lays_25 : decode cX5_lays 25 = .ok (.iconst 2, 1) := by decide +kernel
theorem dX5_lays_26 : decode cX5_lays 26 = .ok (.iadd, 1) := by decide +kernel
theorem dX5_lays_27 : decode cX5_lays 27 = .ok (.iload_n 3, 1) := by decide +kernel
theorem dX5_lays_28 : decode cX5_lays 28 = .ok (.iadd, 1) := by decide +kernel
theorem dX5_lays_29 : decode cX5_lays 29 = .ok (.aload_n 0, 1) := by decide +kernel
theorem dX5_lays_30 : decode cX5_lays 30 = .ok (.getfield 16, 3) := by decide +kernel
theorem dX5_lays_33 : decode cX5_lays 33 = .ok (.iload_n 3, 1) := by decide +kernel
theorem dX5_lays_34 : decode cX5_lays 34 = .ok (.iaload, 1) := by decide +kernel
theorem dX5_lays_35 : decode cX5_lays 35 = .ok (.iastore, 1) := by decide +kernel
theorem dX5_lays_36 : decode cX5_lays 36 = .ok (.aload_n 1, 1) := by decide +kernel
theorem dX5_lays_37 : decode cX5_lays 37 = .ok (.iload_n 2, 1) := by decide +kernel
theorem dX5_lays_38 : decode cX5_lays 38 = .ok (.bipush 6, 2) := by decide +kernel
theorem dX5_lays_40 : decode cX5_lays 40 = .ok (.iadd, 1) := by decide +kernel
theorem dX5_lays_41 : decode cX5_lays 41 = .ok (.iload_n 3, 1) := by decide +kernel
theorem dX5_lays_42 : decode cX5_lays 42 = .ok (.iadd, 1) := by decide +kernel
theorem dX5_lays_43 : decode cX5_lays 43 = .ok (.aload_n 0, 1) := by decide +kernel
theorem dX5_lays_44 : decode cX5_lays 44 = .ok (.getfield 19, 3) := by decide +kernel
theorem dX5_lays_47 : decode cX5_lays 47 = .ok (.iload_n 3, 1) := by decide +kernel
theorem dX5_lays_48 : decode cX5_lays 48 = .ok (.iaload, 1) := by decide +kernel
theorem dX5_lays_49 : decode cX5_lays 49 = .ok (.iastore, 1) := by decide +kernel
theorem dX5_lays_50 : decode cX5_lays 50 = .ok (.iinc 3 1, 3) := by decide +kernel
theorem dX5_lays_53 : decode cX5_lays 53 = .ok (.goto (-35), 3) := by decide +kernel
theorem dX5_lays_56 : decode cX5_lays 56 = .ok (.return_, 1) := by decide +kernel
theorem dX5_takes_0 : decode cX5_takes 0 = .ok (.aload_n 0, 1) := by decide +kernel
theorem dX5_takes_1 : decode cX5_takes 1 = .ok (.aload_n 1, 1) := by decide +kernel
theorem dX5_takes_2 : decode cX5_takes 2 = .ok (.iload_n 2, 1) := by decide +kernel
theorem dX5_takes_3 : decode cX5_takes 3 = .ok (.iaload, 1) := by decide +kernel
theorem dX5_takes_4 : decode cX5_takes 4 = .ok (.putfield 81, 3) := by decide +kernel
theorem dX5_takes_7 : decode cX5_takes 7 = .ok (.aload_n 0, 1) := by decide +kernel
theorem dX5_takes_8 : decode cX5_takes 8 = .ok (.aload_n 1, 1) := by decide +kernel
theorem dX5_takes_9 : decode cX5_takes 9 = .ok (.iload_n 2, 1) := by decide +kernel
theorem dX5_takes_10 : decode cX5_takes 10 = .ok (.iconst 1, 1) := by decide +kernel
theorem dX5_takes_11 : decode cX5_takes 11 = .ok (.iadd, 1) := by decide +kernel
theorem dX5_takes_12 : decode cX5_takes 12 = .ok (.iaload, 1) := by decide +kernel
theorem dX5_takes_13 : decode cX5_takes 13 = .ok (.putfield 84, 3) := by decide +kernel
theorem dX5_takes_16 : decode cX5_takes 16 = .ok (.iconst 0, 1) := by decide +kernel
theorem dX5_takes_17 : decode cX5_takes 17 = .ok (.istore_n 3, 1) := by decide +kernel
theorem dX5_takes_18 : decode cX5_takes 18 = .ok (.iload_n 3, 1) := by decide +kernel
theorem dX5_takes_19 : decode cX5_takes 19 = .ok (.iconst 4, 1) := by decide +kernel
theorem dX5_takes_20 : decode cX5_takes 20 = .ok (.if_icmp .ge 36, 3) := by decide +kernel
theorem dX5_takes_23 : decode cX5_takes 23 = .ok (.aload_n 0, 1) := by decide +kernel
theorem dX5_takes_24 : decode cX5_takes 24 = .ok (.getfield 16, 3) := by decide +kernel
theorem dX5_takes_27 : decode cX5_takes 27 = .ok (.iload_n 3, 1) := by decide +kernel
theorem dX5_takes_28 : decode cX5_takes 28 = .ok (.aload_n 1, 1) := by decide +kernel
theorem dX5_takes_29 : decode cX5_takes 29 = .ok (.iload_n 2, 1) := by decide +kernel
theorem dX5_takes_30 : decode cX5_takes 30 = .ok (.iconst 2, 1) := by decide +kernel
theorem dX5_takes_31 : decode cX5_takes 31 = .ok (.iadd, 1) := by decide +kernel
theorem dX5_takes_32 : decode cX5_takes 32 = .ok (.iload_n 3, 1) := by decide +kernel
theorem dX5_takes_33 : decode cX5_takes 33 = .ok (.iadd, 1) := by decide +kernel
theorem dX5_takes_34 : decode cX5_takes 34 = .ok (.iaload, 1) := by decide +kernel
theorem dX5_takes_35 : decode cX5_takes 35 = .ok (.iastore, 1) := by decide +kernel
theorem dX5_takes_36 : decode cX5_takes 36 = .ok (.aload_n 0, 1) := by decide +kernel
theorem dX5_takes_37 : decode cX5_takes 37 = .ok (.getfield 19, 3) := by decide +kernel
theorem dX5_takes_40 : decode cX5_takes 40 = .ok (.iload_n 3, 1) := by decide +kernel
theorem dX5_takes_41 : decode cX5_takes 41 = .ok (.aload_n 1, 1) := by decide +kernel
theorem dX5_takes_42 : decode cX5_takes 42 = .ok (.iload_n 2, 1) := by decide +kernel
theorem dX5_takes_43 : decode cX5_takes 43 = .ok (.bipush 6, 2) := by decide +kernel
theorem dX5_takes_45 : decode cX5_takes 45 = .ok (.iadd, 1) := by decide +kernel
theorem dX5_takes_46 : decode cX5_takes 46 = .ok (.iload_n 3, 1) := by decide +kernel
theorem dX5_takes_47 : decode cX5_takes 47 = .ok (.iadd, 1) := by decide +kernel
theorem dX5_takes_48 : decode cX5_takes 48 = .ok (.iaload, 1) := by decide +kernel
theorem dX5_takes_49 : decode cX5_takes 49 = .ok (.iastore, 1) := by decide +kernel
theorem dX5_takes_50 : decode cX5_takes 50 = .ok (.iinc 3 1, 3) := by decide +kernel
theorem dX5_takes_53 : decode cX5_takes 53 = .ok (.goto (-35), 3) := by decide +kernel
theorem dX5_takes_56 : decode cX5_takes 56 = .ok (.return_, 1) := by decide +kernel
theorem dX5_notes_0 : decode cX5_notes 0 = .ok (.aload_n 0, 1) := by decide +kernel
theorem dX5_notes_1 : decode cX5_notes 1 = .ok (.getfield 90, 3) := by decide +kernel
theorem dX5_notes_4 : decode cX5_notes 4 = .ok (.bipush 8, 2) := by decide +kernel
theorem dX5_notes_6 : decode cX5_notes 6 = .ok (.if_icmp .ne 42, 3) := by decide +kernel
theorem dX5_notes_9 : decode cX5_notes 9 = .ok (.iconst 0, 1) := by decide +kernel
theorem dX5_notes_10 : decode cX5_notes 10 = .ok (.istore_n 1, 1) := by decide +kernel
theorem dX5_notes_11 : decode cX5_notes 11 = .ok (.iload_n 1, 1) := by decide +kernel
theorem dX5_notes_12 : decode cX5_notes 12 = .ok (.bipush 70, 2) := by decide +kernel
theorem dX5_notes_14 : decode cX5_notes 14 = .ok (.if_icmp .ge 24, 3) := by decide +kernel
theorem dX5_notes_17 : decode cX5_notes 17 = .ok (.aload_n 0, 1) := by decide +kernel
theorem dX5_notes_18 : decode cX5_notes 18 = .ok (.getfield 55, 3) := by decide +kernel
theorem dX5_notes_21 : decode cX5_notes 21 = .ok (.iload_n 1, 1) := by decide +kernel
theorem dX5_notes_22 : decode cX5_notes 22 = .ok (.aload_n 0, 1) := by decide +kernel
theorem dX5_notes_23 : decode cX5_notes 23 = .ok (.getfield 55, 3) := by decide +kernel
theorem dX5_notes_26 : decode cX5_notes 26 = .ok (.iload_n 1, 1) := by decide +kernel
theorem dX5_notes_27 : decode cX5_notes 27 = .ok (.bipush 10, 2) := by decide +kernel
theorem dX5_notes_29 : decode cX5_notes 29 = .ok (.iadd, 1) := by decide +kernel
theorem dX5_notes_30 : decode cX5_notes 30 = .ok (.iaload, 1) := by decide +kernel
theorem dX5_notes_31 : decode cX5_notes 31 = .ok (.iastore, 1) := by decide +kernel
theorem dX5_notes_32 : decode cX5_notes 32 = .ok (.iinc 1 1, 3) := by decide +kernel
theorem dX5_notes_35 : decode cX5_notes 35 = .ok (.goto (-24), 3) := by decide +kernel
theorem dX5_notes_38 : decode cX5_notes 38 = .ok (.aload_n 0, 1) := by decide +kernel
theorem dX5_notes_39 : decode cX5_notes 39 = .ok (.dup, 1) := by decide +kernel
theorem dX5_notes_40 : decode cX5_notes 40 = .ok (.getfield 90, 3) := by decide +kernel
theorem dX5_notes_43 : decode cX5_notes 43 = .ok (.iconst 1, 1) := by decide +kernel
theorem dX5_notes_44 : decode cX5_notes 44 = .ok (.isub, 1) := by decide +kernel
theorem dX5_notes_45 : decode cX5_notes 45 = .ok (.putfield 90, 3) := by decide +kernel
theorem dX5_notes_48 : decode cX5_notes 48 = .ok (.aload_n 0, 1) := by decide +kernel
theorem dX5_notes_49 : decode cX5_notes 49 = .ok (.aload_n 0, 1) := by decide +kernel
theorem dX5_notes_50 : decode cX5_notes 50 = .ok (.getfield 55, 3) := by decide +kernel
theorem dX5_notes_53 : decode cX5_notes 53 = .ok (.bipush 10, 2) := by decide +kernel
theorem dX5_notes_55 : decode cX5_notes 55 = .ok (.aload_n 0, 1) := by decide +kernel
theorem dX5_notes_56 : decode cX5_notes 56 = .ok (.getfield 90, 3) := by decide +kernel
theorem dX5_notes_59 : decode cX5_notes 59 = .ok (.imul, 1) := by decide +kernel
theorem dX5_notes_60 : decode cX5_notes 60 = .ok (.invokevirtual 199, 3) := by decide +kernel
theorem dX5_notes_63 : decode cX5_notes 63 = .ok (.aload_n 0, 1) := by decide +kernel
theorem dX5_notes_64 : decode cX5_notes 64 = .ok (.dup, 1) := by decide +kernel
theorem dX5_notes_65 : decode cX5_notes 65 = .ok (.getfield 90, 3) := by decide +kernel
theorem dX5_notes_68 : decode cX5_notes 68 = .ok (.iconst 1, 1) := by decide +kernel
theorem dX5_notes_69 : decode cX5_notes 69 = .ok (.iadd, 1) := by decide +kernel
theorem dX5_notes_70 : decode cX5_notes 70 = .ok (.putfield 90, 3) := by decide +kernel
theorem dX5_notes_73 : decode cX5_notes 73 = .ok (.return_, 1) := by decide +kernel
theorem dX5_puts_0 : decode cX5_puts 0 = .ok (.aload_n 0, 1) := by decide +kernel
theorem dX5_puts_1 : decode cX5_puts 1 = .ok (.aload_n 0, 1) := by decide +kernel
theorem dX5_puts_2 : decode cX5_puts 2 = .ok (.getfield 58, 3) := by decide +kernel
theorem dX5_puts_5 : decode cX5_puts 5 = .ok (.iconst 0, 1) := by decide +kernel
theorem dX5_puts_6 : decode cX5_puts 6 = .ok (.invokevirtual 199, 3) := by decide +kernel
theorem dX5_puts_9 : decode cX5_puts 9 = .ok (.return_, 1) := by decide +kernel
theorem dX5_back_0 : decode cX5_back 0 = .ok (.aload_n 0, 1) := by decide +kernel
theorem dX5_back_1 : decode cX5_back 1 = .ok (.aload_n 0, 1) := by decide +kernel
theorem dX5_back_2 : decode cX5_back 2 = .ok (.getfield 58, 3) := by decide +kernel
theorem dX5_back_5 : decode cX5_back 5 = .ok (.iconst 0, 1) := by decide +kernel
theorem dX5_back_6 : decode cX5_back 6 = .ok (.invokevirtual 203, 3) := by decide +kernel
theorem dX5_back_9 : decode cX5_back 9 = .ok (.return_, 1) := by decide +kernel
theorem dX5_bribe_0 : decode cX5_bribe 0 = .ok (.aload_n 0, 1) := by decide +kernel
theorem dX5_bribe_1 : decode cX5_bribe 1 = .ok (.iload_n 1, 1) := by decide +kernel
theorem dX5_bribe_2 : decode cX5_bribe 2 = .ok (.invokevirtual 206, 3) := by decide +kernel
theorem dX5_bribe_5 : decode cX5_bribe 5 = .ok (.ifCond .eq 11, 3) := by decide +kernel
theorem dX5_bribe_8 : decode cX5_bribe 8 = .ok (.aload_n 0, 1) := by decide +kernel
theorem dX5_bribe_9 : decode cX5_bribe 9 = .ok (.iload_n 2, 1) := by decide +kernel
theorem dX5_bribe_10 : decode cX5_bribe 10 = .ok (.invokevirtual 209, 3) := by decide +kernel
theorem dX5_bribe_13 : decode cX5_bribe 13 = .ok (.ifCond .ne 8, 3) := by decide +kernel
theorem dX5_bribe_16 : decode cX5_bribe 16 = .ok (.aload_n 0, 1) := by decide +kernel
theorem dX5_bribe_17 : decode cX5_bribe 17 = .ok (.invokevirtual 97, 3) := by decide +kernel
theorem dX5_bribe_20 : decode cX5_bribe 20 = .ok (.ireturn, 1) := by decide +kernel
theorem dX5_bribe_21 : decode cX5_bribe 21 = .ok (.aload_n 0, 1) := by decide +kernel
theorem dX5_bribe_22 : decode cX5_bribe 22 = .ok (.getfield 84, 3) := by decide +kernel
theorem dX5_bribe_25 : decode cX5_bribe 25 = .ok (.iload_n 2, 1) := by decide +kernel
theorem dX5_bribe_26 : decode cX5_bribe 26 = .ok (.invokestatic 158, 3) := by decide +kernel
theorem dX5_bribe_29 : decode cX5_bribe 29 = .ok (.ifCond .ne 18, 3) := by decide +kernel
theorem dX5_bribe_32 : decode cX5_bribe 32 = .ok (.aload_n 0, 1) := by decide +kernel
theorem dX5_bribe_33 : decode cX5_bribe 33 = .ok (.getfield 16, 3) := by decide +kernel
theorem dX5_bribe_36 : decode cX5_bribe 36 = .ok (.iload_n 1, 1) := by decide +kernel
theorem dX5_bribe_37 : decode cX5_bribe 37 = .ok (.iaload, 1) := by decide +kernel
theorem dX5_bribe_38 : decode cX5_bribe 38 = .ok (.aload_n 0, 1) := by decide +kernel
theorem dX5_bribe_39 : decode cX5_bribe 39 = .ok (.getfield 28, 3) := by decide +kernel
theorem dX5_bribe_42 : decode cX5_bribe 42 = .ok (.iload_n 2, 1) := by decide +kernel
theorem dX5_bribe_43 : decode cX5_bribe 43 = .ok (.iaload, 1) := by decide +kernel
theorem dX5_bribe_44 : decode cX5_bribe 44 = .ok (.if_icmp .ge 8, 3) := by decide +kernel
theorem dX5_bribe_47 : decode cX5_bribe 47 = .ok (.aload_n 0, 1) := by decide +kernel
theorem dX5_bribe_48 : decode cX5_bribe 48 = .ok (.invokevirtual 212, 3) := by decide +kernel
theorem dX5_bribe_51 : decode cX5_bribe 51 = .ok (.ireturn, 1) := by decide +kernel
theorem dX5_bribe_52 : decode cX5_bribe 52 = .ok (.aload_n 0, 1) := by decide +kernel
theorem dX5_bribe_53 : decode cX5_bribe 53 = .ok (.invokevirtual 215, 3) := by decide +kernel
theorem dX5_bribe_56 : decode cX5_bribe 56 = .ok (.aload_n 0, 1) := by decide +kernel
theorem dX5_bribe_57 : decode cX5_bribe 57 = .ok (.dup, 1) := by decide +kernel
theorem dX5_bribe_58 : decode cX5_bribe 58 = .ok (.getfield 84, 3) := by decide +kernel
theorem dX5_bribe_61 : decode cX5_bribe 61 = .ok (.iconst 1, 1) := by decide +kernel
theorem dX5_bribe_62 : decode cX5_bribe 62 = .ok (.iload_n 2, 1) := by decide +kernel
theorem dX5_bribe_63 : decode cX5_bribe 63 = .ok (.ishl, 1) := by decide +kernel
theorem dX5_bribe_64 : decode cX5_bribe 64 = .ok (.ior, 1) := by decide +kernel
theorem dX5_bribe_65 : decode cX5_bribe 65 = .ok (.putfield 84, 3) := by decide +kernel
theorem dX5_bribe_68 : decode cX5_bribe 68 = .ok (.aload_n 0, 1) := by decide +kernel
theorem dX5_bribe_69 : decode cX5_bribe 69 = .ok (.getfield 16, 3) := by decide +kernel
theorem dX5_bribe_72 : decode cX5_bribe 72 = .ok (.iload_n 1, 1) := by decide +kernel
theorem dX5_bribe_73 : decode cX5_bribe 73 = .ok (.dup2, 1) := by decide +kernel
theorem dX5_bribe_74 : decode cX5_bribe 74 = .ok (.iaload, 1) := by decide +kernel
theorem dX5_bribe_75 : decode cX5_bribe 75 = .ok (.aload_n 0, 1) := by decide +kernel
theorem dX5_bribe_76 : decode cX5_bribe 76 = .ok (.getfield 28, 3) := by decide +kernel
theorem dX5_bribe_79 : decode cX5_bribe 79 = .ok (.iload_n 2, 1) := by decide +kernel
theorem dX5_bribe_80 : decode cX5_bribe 80 = .ok (.iaload, 1) := by decide +kernel
theorem dX5_bribe_81 : decode cX5_bribe 81 = .ok (.isub, 1) := by decide +kernel
theorem dX5_bribe_82 : decode cX5_bribe 82 = .ok (.iastore, 1) := by decide +kernel
theorem dX5_bribe_83 : decode cX5_bribe 83 = .ok (.aload_n 0, 1) := by decide +kernel
theorem dX5_bribe_84 : decode cX5_bribe 84 = .ok (.getfield 16, 3) := by decide +kernel
theorem dX5_bribe_87 : decode cX5_bribe 87 = .ok (.iload_n 1, 1) := by decide +kernel
theorem dX5_bribe_88 : decode cX5_bribe 88 = .ok (.iaload, 1) := by decide +kernel
theorem dX5_bribe_89 : decode cX5_bribe 89 = .ok (.ireturn, 1) := by decide +kernel
theorem dX5_round_0 : decode cX5_round 0 = .ok (.iload_n 1, 1) := by decide +kernel
theorem dX5_round_1 : decode cX5_round 1 = .ok (.iconst 1, 1) := by decide +kernel
theorem dX5_round_2 : decode cX5_round 2 = .ok (.bipush 30, 2) := by decide +kernel
theorem dX5_round_4 : decode cX5_round 4 = .ok (.invokestatic 93, 3) := by decide +kernel
theorem dX5_round_7 : decode cX5_round 7 = .ok (.ifCond .ne 8, 3) := by decide +kernel
theorem dX5_round_10 : decode cX5_round 10 = .ok (.aload_n 0, 1) := by decide +kernel
theorem dX5_round_11 : decode cX5_round 11 = .ok (.invokevirtual 97, 3) := by decide +kernel
theorem dX5_round_14 : decode cX5_round 14 = .ok (.ireturn, 1) := by decide +kernel
theorem dX5_round_15 : decode cX5_round 15 = .ok (.aload_n 0, 1) := by decide +kernel
theorem dX5_round_16 : decode cX5_round 16 = .ok (.invokevirtual 215, 3) := by decide +kernel
theorem dX5_round_19 : decode cX5_round 19 = .ok (.iconst 0, 1) := by decide +kernel
theorem dX5_round_20 : decode cX5_round 20 = .ok (.istore_n 2, 1) := by decide +kernel
theorem dX5_round_21 : decode cX5_round 21 = .ok (.iload_n 2, 1) := by decide +kernel
theorem dX5_round_22 : decode cX5_round 22 = .ok (.iload_n 1, 1) := by decide +kernel
theorem dX5_round_23 : decode cX5_round 23 = .ok (.if_icmp .ge 23, 3) := by decide +kernel
theorem dX5_round_26 : decode cX5_round 26 = .ok (.aload_n 0, 1) := by decide +kernel
theorem dX5_round_27 : decode cX5_round 27 = .ok (.getfield 81, 3) := by decide +kernel
theorem dX5_round_30 : decode cX5_round 30 = .ok (.sipush 999, 3) := by decide +kernel
theorem dX5_round_33 : decode cX5_round 33 = .ok (.if_icmp .ge 13, 3) := by decide +kernel
theorem dX5_round_36 : decode cX5_round 36 = .ok (.aload_n 0, 1) := by decide +kernel
theorem dX5_round_37 : decode cX5_round 37 = .ok (.invokevirtual 218, 3) := by decide +kernel
theorem dX5_round_40 : decode cX5_round 40 = .ok (.iinc 2 1, 3) := by decide +kernel
theorem dX5_round_43 : decode cX5_round 43 = .ok (.goto (-22), 3) := by decide +kernel
theorem dX5_round_46 : decode cX5_round 46 = .ok (.aload_n 0, 1) := by decide +kernel
theorem dX5_round_47 : decode cX5_round 47 = .ok (.invokevirtual 221, 3) := by decide +kernel
theorem dX5_round_50 : decode cX5_round 50 = .ok (.ireturn, 1) := by decide +kernel
theorem dX5_undo_0 : decode cX5_undo 0 = .ok (.aload_n 0, 1) := by decide +kernel
theorem dX5_undo_1 : decode cX5_undo 1 = .ok (.getfield 90, 3) := by decide +kernel
theorem dX5_undo_4 : decode cX5_undo 4 = .ok (.ifCond .ne 8, 3) := by decide +kernel
theorem dX5_undo_7 : decode cX5_undo 7 = .ok (.aload_n 0, 1) := by decide +kernel
theorem dX5_undo_8 : decode cX5_undo 8 = .ok (.invokevirtual 212, 3) := by decide +kernel
theorem dX5_undo_11 : decode cX5_undo 11 = .ok (.ireturn, 1) := by decide +kernel
theorem dX5_undo_12 : decode cX5_undo 12 = .ok (.aload_n 0, 1) := by decide +kernel
theorem dX5_undo_13 : decode cX5_undo 13 = .ok (.dup, 1) := by decide +kernel
theorem dX5_undo_14 : decode cX5_undo 14 = .ok (.getfield 90, 3) := by decide +kernel
theorem dX5_undo_17 : decode cX5_undo 17 = .ok (.iconst 1, 1) := by decide +kernel
theorem dX5_undo_18 : decode cX5_undo 18 = .ok (.isub, 1) := by decide +kernel
theorem dX5_undo_19 : decode cX5_undo 19 = .ok (.putfield 90, 3) := by decide +kernel
theorem dX5_undo_22 : decode cX5_undo 22 = .ok (.aload_n 0, 1) := by decide +kernel
theorem dX5_undo_23 : decode cX5_undo 23 = .ok (.aload_n 0, 1) := by decide +kernel
theorem dX5_undo_24 : decode cX5_undo 24 = .ok (.getfield 55, 3) := by decide +kernel
theorem dX5_undo_27 : decode cX5_undo 27 = .ok (.bipush 10, 2) := by decide +kernel
theorem dX5_undo_29 : decode cX5_undo 29 = .ok (.aload_n 0, 1) := by decide +kernel
theorem dX5_undo_30 : decode cX5_undo 30 = .ok (.getfield 90, 3) := by decide +kernel
theorem dX5_undo_33 : decode cX5_undo 33 = .ok (.imul, 1) := by decide +kernel
theorem dX5_undo_34 : decode cX5_undo 34 = .ok (.invokevirtual 203, 3) := by decide +kernel
theorem dX5_undo_37 : decode cX5_undo 37 = .ok (.aload_n 0, 1) := by decide +kernel
theorem dX5_undo_38 : decode cX5_undo 38 = .ok (.getfield 81, 3) := by decide +kernel
theorem dX5_undo_41 : decode cX5_undo 41 = .ok (.ireturn, 1) := by decide +kernel
theorem dX5_of_0 : decode cX5_of 0 = .ok (.aload_n 0, 1) := by decide +kernel
theorem dX5_of_1 : decode cX5_of 1 = .ok (.iload_n 1, 1) := by decide +kernel
theorem dX5_of_2 : decode cX5_of 2 = .ok (.invokevirtual 206, 3) := by decide +kernel
theorem dX5_of_5 : decode cX5_of 5 = .ok (.ifCond .eq 12, 3) := by decide +kernel
theorem dX5_of_8 : decode cX5_of 8 = .ok (.iload_n 2, 1) := by decide +kernel
theorem dX5_of_9 : decode cX5_of 9 = .ok (.iconst 0, 1) := by decide +kernel
theorem dX5_of_10 : decode cX5_of 10 = .ok (.iconst 2, 1) := by decide +kernel
theorem dX5_of_11 : decode cX5_of 11 = .ok (.invokestatic 93, 3) := by decide +kernel
theorem dX5_of_14 : decode cX5_of 14 = .ok (.ifCond .ne 8, 3) := by decide +kernel
theorem dX5_of_17 : decode cX5_of 17 = .ok (.aload_n 0, 1) := by decide +kernel
theorem dX5_of_18 : decode cX5_of 18 = .ok (.invokevirtual 97, 3) := by decide +kernel
theorem dX5_of_21 : decode cX5_of 21 = .ok (.ireturn, 1) := by decide +kernel
theorem dX5_of_22 : decode cX5_of 22 = .ok (.iload_n 2, 1) := by decide +kernel
theorem dX5_of_23 : decode cX5_of 23 = .ok (.ifCond .ne 12, 3) := by decide +kernel
theorem dX5_of_26 : decode cX5_of 26 = .ok (.aload_n 0, 1) := by decide +kernel
theorem dX5_of_27 : decode cX5_of 27 = .ok (.getfield 13, 3) := by decide +kernel
theorem dX5_of_30 : decode cX5_of 30 = .ok (.iload_n 1, 1) := by decide +kernel
theorem dX5_of_31 : decode cX5_of 31 = .ok (.iaload, 1) := by decide +kernel
theorem dX5_of_32 : decode cX5_of 32 = .ok (.goto 23, 3) := by decide +kernel
theorem dX5_of_35 : decode cX5_of 35 = .ok (.iload_n 2, 1) := by decide +kernel
theorem dX5_of_36 : decode cX5_of 36 = .ok (.iconst 1, 1) := by decide +kernel
theorem dX5_of_37 : decode cX5_of 37 = .ok (.if_icmp .ne 12, 3) := by decide +kernel
theorem dX5_of_40 : decode cX5_of 40 = .ok (.aload_n 0, 1) := by decide +kernel
theorem dX5_of_41 : decode cX5_of 41 = .ok (.getfield 16, 3) := by decide +kernel
theorem dX5_of_44 : decode cX5_of 44 = .ok (.iload_n 1, 1) := by decide +kernel
theorem dX5_of_45 : decode cX5_of 45 = .ok (.iaload, 1) := by decide +kernel
theorem dX5_of_46 : decode cX5_of 46 = .ok (.goto 9, 3) := by decide +kernel
theorem dX5_of_49 : decode cX5_of 49 = .ok (.aload_n 0, 1) := by decide +kernel
theorem dX5_of_50 : decode cX5_of 50 = .ok (.getfield 19, 3) := by decide +kernel
theorem dX5_of_53 : decode cX5_of 53 = .ok (.iload_n 1, 1) := by decide +kernel
theorem dX5_of_54 : decode cX5_of 54 = .ok (.iaload, 1) := by decide +kernel
theorem dX5_of_55 : decode cX5_of 55 = .ok (.ireturn, 1) := by decide +kernel
theorem dX5_about_0 : decode cX5_about 0 = .ok (.aload_n 0, 1) := by decide +kernel
theorem dX5_about_1 : decode cX5_about 1 = .ok (.iload_n 1, 1) := by decide +kernel
theorem dX5_about_2 : decode cX5_about 2 = .ok (.invokevirtual 209, 3) := by decide +kernel
theorem dX5_about_5 : decode cX5_about 5 = .ok (.ifCond .eq 13, 3) := by decide +kernel
theorem dX5_about_8 : decode cX5_about 8 = .ok (.iload_n 2, 1) := by decide +kernel
theorem dX5_about_9 : decode cX5_about 9 = .ok (.iconst 0, 1) := by decide +kernel
theorem dX5_about_10 : decode cX5_about 10 = .ok (.bipush 6, 2) := by decide +kernel
theorem dX5_about_12 : decode cX5_about 12 = .ok (.invokestatic 93, 3) := by decide +kernel
theorem dX5_about_15 : decode cX5_about 15 = .ok (.ifCond .ne 8, 3) := by decide +kernel
theorem dX5_about_18 : decode cX5_about 18 = .ok (.aload_n 0, 1) := by decide +kernel
theorem dX5_about_19 : decode cX5_about 19 = .ok (.invokevirtual 97, 3) := by decide +kernel
theorem dX5_about_22 : decode cX5_about 22 = .ok (.ireturn, 1) := by decide +kernel
theorem dX5_about_23 : decode cX5_about 23 = .ok (.iload_n 2, 1) := by decide +kernel
theorem dX5_about_24 : decode cX5_about 24 = .ok (.tableswitch 93 0 5 #[40, 47, 54, 61, 68, 77], 40) := by decide +kernel
theorem dX5_about_64 : decode cX5_about 64 = .ok (.aload_n 0, 1) := by decide +kernel
theorem dX5_about_65 : decode cX5_about 65 = .ok (.getfield 22, 3) := by decide +kernel
theorem dX5_about_68 : decode cX5_about 68 = .ok (.iload_n 1, 1) := by decide +kernel
theorem dX5_about_69 : decode cX5_about 69 = .ok (.iaload, 1) := by decide +kernel
theorem dX5_about_70 : decode cX5_about 70 = .ok (.ireturn, 1) := by decide +kernel
theorem dX5_about_71 : decode cX5_about 71 = .ok (.aload_n 0, 1) := by decide +kernel
theorem dX5_about_72 : decode cX5_about 72 = .ok (.getfield 25, 3) := by decide +kernel
theorem dX5_about_75 : decode cX5_about 75 = .ok (.iload_n 1, 1) := by decide +kernel
theorem dX5_about_76 : decode cX5_about 76 = .ok (.iaload, 1) := by decide +kernel
theorem dX5_about_77 : decode cX5_about 77 = .ok (.ireturn, 1) := by decide +kernel
theorem dX5_about_78 : decode cX5_about 78 = .ok (.aload_n 0, 1) := by decide +kernel
theorem dX5_about_79 : decode cX5_about 79 = .ok (.getfield 28, 3) := by decide +kernel
theorem dX5_about_82 : decode cX5_about 82 = .ok (.iload_n 1, 1) := by decide +kernel
theorem dX5_about_83 : decode cX5_about 83 = .ok (.iaload, 1) := by decide +kernel
theorem dX5_about_84 : decode cX5_about 84 = .ok (.ireturn, 1) := by decide +kernel
theorem dX5_about_85 : decode cX5_about 85 = .ok (.aload_n 0, 1) := by decide +kernel
theorem dX5_about_86 : decode cX5_about 86 = .ok (.getfield 31, 3) := by decide +kernel
theorem dX5_about_89 : decode cX5_about 89 = .ok (.iload_n 1, 1) := by decide +kernel
theorem dX5_about_90 : decode cX5_about 90 = .ok (.iaload, 1) := by decide +kernel
theorem dX5_about_91 : decode cX5_about 91 = .ok (.ireturn, 1) := by decide +kernel
theorem dX5_about_92 : decode cX5_about 92 = .ok (.aload_n 0, 1) := by decide +kernel
theorem dX5_about_93 : decode cX5_about 93 = .ok (.getfield 84, 3) := by decide +kernel
theorem dX5_about_96 : decode cX5_about 96 = .ok (.iload_n 1, 1) := by decide +kernel
theorem dX5_about_97 : decode cX5_about 97 = .ok (.ishr, 1) := by decide +kernel
theorem dX5_about_98 : decode cX5_about 98 = .ok (.iconst 1, 1) := by decide +kernel
theorem dX5_about_99 : decode cX5_about 99 = .ok (.iand, 1) := by decide +kernel
theorem dX5_about_100 : decode cX5_about 100 = .ok (.ireturn, 1) := by decide +kernel
theorem dX5_about_101 : decode cX5_about 101 = .ok (.aload_n 0, 1) := by decide +kernel
theorem dX5_about_102 : decode cX5_about 102 = .ok (.getfield 22, 3) := by decide +kernel
theorem dX5_about_105 : decode cX5_about 105 = .ok (.iload_n 1, 1) := by decide +kernel
theorem dX5_about_106 : decode cX5_about 106 = .ok (.iaload, 1) := by decide +kernel
theorem dX5_about_107 : decode cX5_about 107 = .ok (.aload_n 0, 1) := by decide +kernel
theorem dX5_about_108 : decode cX5_about 108 = .ok (.getfield 25, 3) := by decide +kernel
theorem dX5_about_111 : decode cX5_about 111 = .ok (.iload_n 1, 1) := by decide +kernel
theorem dX5_about_112 : decode cX5_about 112 = .ok (.iaload, 1) := by decide +kernel
theorem dX5_about_113 : decode cX5_about 113 = .ok (.invokestatic 189, 3) := by decide +kernel
theorem dX5_about_116 : decode cX5_about 116 = .ok (.ireturn, 1) := by decide +kernel
theorem dX5_about_117 : decode cX5_about 117 = .ok (.aload_n 0, 1) := by decide +kernel
theorem dX5_about_118 : decode cX5_about 118 = .ok (.getfield 22, 3) := by decide +kernel
theorem dX5_about_121 : decode cX5_about 121 = .ok (.iload_n 1, 1) := by decide +kernel
theorem dX5_about_122 : decode cX5_about 122 = .ok (.iaload, 1) := by decide +kernel
theorem dX5_about_123 : decode cX5_about 123 = .ok (.invokestatic 179, 3) := by decide +kernel
theorem dX5_about_126 : decode cX5_about 126 = .ok (.ireturn, 1) := by decide +kernel
theorem dX5_bitten_0 : decode cX5_bitten 0 = .ok (.aload_n 0, 1) := by decide +kernel
theorem dX5_bitten_1 : decode cX5_bitten 1 = .ok (.iload_n 1, 1) := by decide +kernel
theorem dX5_bitten_2 : decode cX5_bitten 2 = .ok (.invokevirtual 206, 3) := by decide +kernel
theorem dX5_bitten_5 : decode cX5_bitten 5 = .ok (.ifCond .eq 12, 3) := by decide +kernel
theorem dX5_bitten_8 : decode cX5_bitten 8 = .ok (.iload_n 2, 1) := by decide +kernel
theorem dX5_bitten_9 : decode cX5_bitten 9 = .ok (.iconst 0, 1) := by decide +kernel
theorem dX5_bitten_10 : decode cX5_bitten 10 = .ok (.iconst 1, 1) := by decide +kernel
theorem dX5_bitten_11 : decode cX5_bitten 11 = .ok (.invokestatic 93, 3) := by decide +kernel
theorem dX5_bitten_14 : decode cX5_bitten 14 = .ok (.ifCond .ne 8, 3) := by decide +kernel
theorem dX5_bitten_17 : decode cX5_bitten 17 = .ok (.aload_n 0, 1) := by decide +kernel
theorem dX5_bitten_18 : decode cX5_bitten 18 = .ok (.invokevirtual 97, 3) := by decide +kernel
theorem dX5_bitten_21 : decode cX5_bitten 21 = .ok (.ireturn, 1) := by decide +kernel
theorem dX5_bitten_22 : decode cX5_bitten 22 = .ok (.iload_n 2, 1) := by decide +kernel
theorem dX5_bitten_23 : decode cX5_bitten 23 = .ok (.iconst 1, 1) := by decide +kernel
theorem dX5_bitten_24 : decode cX5_bitten 24 = .ok (.if_icmp .ne 21, 3) := by decide +kernel
theorem dX5_bitten_27 : decode cX5_bitten 27 = .ok (.aload_n 0, 1) := by decide +kernel
theorem dX5_bitten_28 : decode cX5_bitten 28 = .ok (.iload_n 1, 1) := by decide +kernel
theorem dX5_bitten_29 : decode cX5_bitten 29 = .ok (.aload_n 0, 1) := by decide +kernel
theorem dX5_bitten_30 : decode cX5_bitten 30 = .ok (.aload_n 0, 1) := by decide +kernel
theorem dX5_bitten_31 : decode cX5_bitten 31 = .ok (.getfield 81, 3) := by decide +kernel
theorem dX5_bitten_34 : decode cX5_bitten 34 = .ok (.invokevirtual 192, 3) := by decide +kernel
theorem dX5_bitten_37 : decode cX5_bitten 37 = .ok (.aload_n 0, 1) := by decide +kernel
theorem dX5_bitten_38 : decode cX5_bitten 38 = .ok (.getfield 84, 3) := by decide +kernel
theorem dX5_bitten_41 : decode cX5_bitten 41 = .ok (.invokevirtual 195, 3) := by decide +kernel
theorem dX5_bitten_44 : decode cX5_bitten 44 = .ok (.ireturn, 1) := by decide +kernel
theorem dX5_bitten_45 : decode cX5_bitten 45 = .ok (.iconst 0, 1) := by decide +kernel
theorem dX5_bitten_46 : decode cX5_bitten 46 = .ok (.istore_n 3, 1) := by decide +kernel
theorem dX5_bitten_47 : decode cX5_bitten 47 = .ok (.iconst 0, 1) := by decide +kernel
theorem dX5_bitten_48 : decode cX5_bitten 48 = .ok (.istore 4, 2) := by decide +kernel
theorem dX5_bitten_50 : decode cX5_bitten 50 = .ok (.iload 4, 2) := by decide +kernel
theorem dX5_bitten_52 : decode cX5_bitten 52 = .ok (.aload_n 0, 1) := by decide +kernel
theorem dX5_bitten_53 : decode cX5_bitten 53 = .ok (.getfield 78, 3) := by decide +kernel
theorem dX5_bitten_56 : decode cX5_bitten 56 = .ok (.if_icmp .ge 50, 3) := by decide +kernel
theorem dX5_bitten_59 : decode cX5_bitten 59 = .ok (.iload_n 3, 1) := by decide +kernel
theorem dX5_bitten_60 : decode cX5_bitten 60 = .ok (.aload_n 0, 1) := by decide +kernel
theorem dX5_bitten_61 : decode cX5_bitten 61 = .ok (.getfield 84, 3) := by decide +kernel
theorem dX5_bitten_64 : decode cX5_bitten 64 = .ok (.iload 4, 2) := by decide +kernel
theorem dX5_bitten_66 : decode cX5_bitten 66 = .ok (.invokestatic 158, 3) := by decide +kernel
theorem dX5_bitten_69 : decode cX5_bitten 69 = .ok (.ifCond .ne 28, 3) := by decide +kernel
theorem dX5_bitten_72 : decode cX5_bitten 72 = .ok (.aload_n 0, 1) := by decide +kernel
theorem dX5_bitten_73 : decode cX5_bitten 73 = .ok (.iload 4, 2) := by decide +kernel
theorem dX5_bitten_75 : decode cX5_bitten 75 = .ok (.iload_n 1, 1) := by decide +kernel
theorem dX5_bitten_76 : decode cX5_bitten 76 = .ok (.aload_n 0, 1) := by decide +kernel
theorem dX5_bitten_77 : decode cX5_bitten 77 = .ok (.aload_n 0, 1) := by decide +kernel
theorem dX5_bitten_78 : decode cX5_bitten 78 = .ok (.getfield 81, 3) := by decide +kernel
theorem dX5_bitten_81 : decode cX5_bitten 81 = .ok (.invokevirtual 192, 3) := by decide +kernel
theorem dX5_bitten_84 : decode cX5_bitten 84 = .ok (.invokevirtual 186, 3) := by decide +kernel
theorem dX5_bitten_87 : decode cX5_bitten 87 = .ok (.ifCond .eq 10, 3) := by decide +kernel
theorem dX5_bitten_90 : decode cX5_bitten 90 = .ok (.iconst 1, 1) := by decide +kernel
theorem dX5_bitten_91 : decode cX5_bitten 91 = .ok (.iload 4, 2) := by decide +kernel
theorem dX5_bitten_93 : decode cX5_bitten 93 = .ok (.ishl, 1) := by decide +kernel
theorem dX5_bitten_94 : decode cX5_bitten 94 = .ok (.goto 4, 3) := by decide +kernel
theorem dX5_bitten_97 : decode cX5_bitten 97 = .ok (.iconst 0, 1) := by decide +kernel
theorem dX5_bitten_98 : decode cX5_bitten 98 = .ok (.ior, 1) := by decide +kernel
theorem dX5_bitten_99 : decode cX5_bitten 99 = .ok (.istore_n 3, 1) := by decide +kernel
theorem dX5_bitten_100 : decode cX5_bitten 100 = .ok (.iinc 4 1, 3) := by decide +kernel
theorem dX5_bitten_103 : decode cX5_bitten 103 = .ok (.goto (-53), 3) := by decide +kernel
theorem dX5_bitten_106 : decode cX5_bitten 106 = .ok (.iload_n 3, 1) := by decide +kernel
theorem dX5_bitten_107 : decode cX5_bitten 107 = .ok (.ireturn, 1) := by decide +kernel
theorem dX5_then_0 : decode cX5_then 0 = .ok (.aload_n 0, 1) := by decide +kernel
theorem dX5_then_1 : decode cX5_then 1 = .ok (.iload_n 1, 1) := by decide +kernel
theorem dX5_then_2 : decode cX5_then 2 = .ok (.invokevirtual 206, 3) := by decide +kernel
theorem dX5_then_5 : decode cX5_then 5 = .ok (.ifCond .eq 13, 3) := by decide +kernel
theorem dX5_then_8 : decode cX5_then 8 = .ok (.iload_n 2, 1) := by decide +kernel
theorem dX5_then_9 : decode cX5_then 9 = .ok (.iconst 0, 1) := by decide +kernel
theorem dX5_then_10 : decode cX5_then 10 = .ok (.bipush 30, 2) := by decide +kernel
theorem dX5_then_12 : decode cX5_then 12 = .ok (.invokestatic 93, 3) := by decide +kernel
theorem dX5_then_15 : decode cX5_then 15 = .ok (.ifCond .ne 8, 3) := by decide +kernel
theorem dX5_then_18 : decode cX5_then 18 = .ok (.aload_n 0, 1) := by decide +kernel
theorem dX5_then_19 : decode cX5_then 19 = .ok (.invokevirtual 97, 3) := by decide +kernel
theorem dX5_then_22 : decode cX5_then 22 = .ok (.ireturn, 1) := by decide +kernel
theorem dX5_then_23 : decode cX5_then 23 = .ok (.aload_n 0, 1) := by decide +kernel
theorem dX5_then_24 : decode cX5_then 24 = .ok (.invokevirtual 224, 3) := by decide +kernel
theorem dX5_then_27 : decode cX5_then 27 = .ok (.iconst 0, 1) := by decide +kernel
theorem dX5_then_28 : decode cX5_then 28 = .ok (.istore_n 3, 1) := by decide +kernel
theorem dX5_then_29 : decode cX5_then 29 = .ok (.iload_n 3, 1) := by decide +kernel
theorem dX5_then_30 : decode cX5_then 30 = .ok (.iload_n 2, 1) := by decide +kernel
theorem dX5_then_31 : decode cX5_then 31 = .ok (.if_icmp .ge 13, 3) := by decide +kernel
theorem dX5_then_34 : decode cX5_then 34 = .ok (.aload_n 0, 1) := by decide +kernel
theorem dX5_then_35 : decode cX5_then 35 = .ok (.invokevirtual 218, 3) := by decide +kernel
theorem dX5_then_38 : decode cX5_then 38 = .ok (.iinc 3 1, 3) := by decide +kernel
theorem dX5_then_41 : decode cX5_then 41 = .ok (.goto (-12), 3) := by decide +kernel
theorem dX5_then_44 : decode cX5_then 44 = .ok (.aload_n 0, 1) := by decide +kernel
theorem dX5_then_45 : decode cX5_then 45 = .ok (.getfield 19, 3) := by decide +kernel
theorem dX5_then_48 : decode cX5_then 48 = .ok (.iload_n 1, 1) := by decide +kernel
theorem dX5_then_49 : decode cX5_then 49 = .ok (.iaload, 1) := by decide +kernel
theorem dX5_then_50 : decode cX5_then 50 = .ok (.istore_n 3, 1) := by decide +kernel
theorem dX5_then_51 : decode cX5_then 51 = .ok (.aload_n 0, 1) := by decide +kernel
theorem dX5_then_52 : decode cX5_then 52 = .ok (.invokevirtual 227, 3) := by decide +kernel
theorem dX5_then_55 : decode cX5_then 55 = .ok (.iload_n 3, 1) := by decide +kernel
theorem dX5_then_56 : decode cX5_then 56 = .ok (.ireturn, 1) := by decide +kernel
theorem dX5_wonIn_0 : decode cX5_wonIn 0 = .ok (.aload_n 0, 1) := by decide +kernel
theorem dX5_wonIn_1 : decode cX5_wonIn 1 = .ok (.invokevirtual 224, 3) := by decide +kernel
theorem dX5_wonIn_4 : decode cX5_wonIn 4 = .ok (.iconst 0, 1) := by decide +kernel
theorem dX5_wonIn_5 : decode cX5_wonIn 5 = .ok (.istore_n 3, 1) := by decide +kernel
theorem dX5_wonIn_6 : decode cX5_wonIn 6 = .ok (.iload_n 3, 1) := by decide +kernel
theorem dX5_wonIn_7 : decode cX5_wonIn 7 = .ok (.iload_n 1, 1) := by decide +kernel
theorem dX5_wonIn_8 : decode cX5_wonIn 8 = .ok (.if_icmp .ge 13, 3) := by decide +kernel
theorem dX5_wonIn_11 : decode cX5_wonIn 11 = .ok (.aload_n 0, 1) := by decide +kernel
theorem dX5_wonIn_12 : decode cX5_wonIn 12 = .ok (.invokevirtual 218, 3) := by decide +kernel
theorem dX5_wonIn_15 : decode cX5_wonIn 15 = .ok (.iinc 3 1, 3) := by decide +kernel
theorem dX5_wonIn_18 : decode cX5_wonIn 18 = .ok (.goto (-12), 3) := by decide +kernel
theorem dX5_wonIn_21 : decode cX5_wonIn 21 = .ok (.iload_n 2, 1) := by decide +kernel
theorem dX5_wonIn_22 : decode cX5_wonIn 22 = .ok (.ifCond .ne 10, 3) := by decide +kernel
theorem dX5_wonIn_25 : decode cX5_wonIn 25 = .ok (.aload_n 0, 1) := by decide +kernel
theorem dX5_wonIn_26 : decode cX5_wonIn 26 = .ok (.invokevirtual 221, 3) := by decide +kernel
theorem dX5_wonIn_29 : decode cX5_wonIn 29 = .ok (.goto 7, 3) := by decide +kernel
theorem dX5_wonIn_32 : decode cX5_wonIn 32 = .ok (.aload_n 0, 1) := by decide +kernel
theorem dX5_wonIn_33 : decode cX5_wonIn 33 = .ok (.invokevirtual 230, 3) := by decide +kernel
theorem dX5_wonIn_36 : decode cX5_wonIn 36 = .ok (.istore_n 3, 1) := by decide +kernel
theorem dX5_wonIn_37 : decode cX5_wonIn 37 = .ok (.aload_n 0, 1) := by decide +kernel
theorem dX5_wonIn_38 : decode cX5_wonIn 38 = .ok (.invokevirtual 227, 3) := by decide +kernel
theorem dX5_wonIn_41 : decode cX5_wonIn 41 = .ok (.iload_n 3, 1) := by decide +kernel
theorem dX5_wonIn_42 : decode cX5_wonIn 42 = .ok (.ireturn, 1) := by decide +kernel
theorem dX5_won_0 : decode cX5_won 0 = .ok (.iload_n 1, 1) := by decide +kernel
theorem dX5_won_1 : decode cX5_won 1 = .ok (.iconst 0, 1) := by decide +kernel
theorem dX5_won_2 : decode cX5_won 2 = .ok (.bipush 30, 2) := by decide +kernel
theorem dX5_won_4 : decode cX5_won 4 = .ok (.invokestatic 93, 3) := by decide +kernel
theorem dX5_won_7 : decode cX5_won 7 = .ok (.ifCond .eq 21, 3) := by decide +kernel
theorem dX5_won_10 : decode cX5_won 10 = .ok (.iload_n 2, 1) := by decide +kernel
theorem dX5_won_11 : decode cX5_won 11 = .ok (.iconst 0, 1) := by decide +kernel
theorem dX5_won_12 : decode cX5_won 12 = .ok (.iconst 1, 1) := by decide +kernel
theorem dX5_won_13 : decode cX5_won 13 = .ok (.invokestatic 93, 3) := by decide +kernel
theorem dX5_won_16 : decode cX5_won 16 = .ok (.ifCond .eq 12, 3) := by decide +kernel
theorem dX5_won_19 : decode cX5_won 19 = .ok (.aload_n 0, 1) := by decide +kernel
theorem dX5_won_20 : decode cX5_won 20 = .ok (.iload_n 1, 1) := by decide +kernel
theorem dX5_won_21 : decode cX5_won 21 = .ok (.iload_n 2, 1) := by decide +kernel
theorem dX5_won_22 : decode cX5_won 22 = .ok (.invokevirtual 233, 3) := by decide +kernel
theorem dX5_won_25 : decode cX5_won 25 = .ok (.goto 7, 3) := by decide +kernel
theorem dX5_won_28 : decode cX5_won 28 = .ok (.aload_n 0, 1) := by decide +kernel
theorem dX5_won_29 : decode cX5_won 29 = .ok (.invokevirtual 97, 3) := by decide +kernel
theorem dX5_won_32 : decode cX5_won 32 = .ok (.ireturn, 1) := by decide +kernel
theorem dX5_letters_0 : decode cX5_letters 0 = .ok (.aload_n 0, 1) := by decide +kernel
theorem dX5_letters_1 : decode cX5_letters 1 = .ok (.iconst 1, 1) := by decide +kernel
theorem dX5_letters_2 : decode cX5_letters 2 = .ok (.iconst 0, 1) := by decide +kernel
theorem dX5_letters_3 : decode cX5_letters 3 = .ok (.invokevirtual 233, 3) := by decide +kernel
theorem dX5_letters_6 : decode cX5_letters 6 = .ok (.istore_n 1, 1) := by decide +kernel
theorem dX5_letters_7 : decode cX5_letters 7 = .ok (.iconst 0, 1) := by decide +kernel
theorem dX5_letters_8 : decode cX5_letters 8 = .ok (.istore_n 2, 1) := by decide +kernel
theorem dX5_letters_9 : decode cX5_letters 9 = .ok (.iconst 0, 1) := by decide +kernel
theorem dX5_letters_10 : decode cX5_letters 10 = .ok (.istore_n 3, 1) := by decide +kernel
theorem dX5_letters_11 : decode cX5_letters 11 = .ok (.iload_n 3, 1) := by decide +kernel
theorem dX5_letters_12 : decode cX5_letters 12 = .ok (.aload_n 0, 1) := by decide +kernel
theorem dX5_letters_13 : decode cX5_letters 13 = .ok (.getfield 78, 3) := by decide +kernel
theorem dX5_letters_16 : decode cX5_letters 16 = .ok (.if_icmp .ge 34, 3) := by decide +kernel
theorem dX5_letters_19 : decode cX5_letters 19 = .ok (.iload_n 2, 1) := by decide +kernel
theorem dX5_letters_20 : decode cX5_letters 20 = .ok (.iload_n 1, 1) := by decide +kernel
theorem dX5_letters_21 : decode cX5_letters 21 = .ok (.iconst (-1), 1) := by decide +kernel
theorem dX5_letters_22 : decode cX5_letters 22 = .ok (.if_icmp .eq 13, 3) := by decide +kernel
theorem dX5_letters_25 : decode cX5_letters 25 = .ok (.aload_n 0, 1) := by decide +kernel
theorem dX5_letters_26 : decode cX5_letters 26 = .ok (.getfield 31, 3) := by decide +kernel
theorem dX5_letters_29 : decode cX5_letters 29 = .ok (.iload_n 3, 1) := by decide +kernel
theorem dX5_letters_30 : decode cX5_letters 30 = .ok (.iaload, 1) := by decide +kernel
theorem dX5_letters_31 : decode cX5_letters 31 = .ok (.iload_n 1, 1) := by decide +kernel
theorem dX5_letters_32 : decode cX5_letters 32 = .ok (.if_icmp .eq 9, 3) := by decide +kernel
theorem dX5_letters_35 : decode cX5_letters 35 = .ok (.iconst 1, 1) := by decide +kernel
theorem dX5_letters_36 : decode cX5_letters 36 = .ok (.iload_n 3, 1) := by decide +kernel
theorem dX5_letters_37 : decode cX5_letters 37 = .ok (.ishl, 1) := by decide +kernel
theorem dX5_letters_38 : decode cX5_letters 38 = .ok (.goto 4, 3) := by decide +kernel
theorem dX5_letters_41 : decode cX5_letters 41 = .ok (.iconst 0, 1) := by decide +kernel
theorem dX5_letters_42 : decode cX5_letters 42 = .ok (.ior, 1) := by decide +kernel
theorem dX5_letters_43 : decode cX5_letters 43 = .ok (.istore_n 2, 1) := by decide +kernel
theorem dX5_letters_44 : decode cX5_letters 44 = .ok (.iinc 3 1, 3) := by decide +kernel
theorem dX5_letters_47 : decode cX5_letters 47 = .ok (.goto (-36), 3) := by decide +kernel
theorem dX5_letters_50 : decode cX5_letters 50 = .ok (.iload_n 2, 1) := by decide +kernel
theorem dX5_letters_51 : decode cX5_letters 51 = .ok (.ireturn, 1) := by decide +kernel
theorem dX5_hungerOf_0 : decode cX5_hungerOf 0 = .ok (.iconst 0, 1) := by decide +kernel
theorem dX5_hungerOf_1 : decode cX5_hungerOf 1 = .ok (.istore_n 2, 1) := by decide +kernel
theorem dX5_hungerOf_2 : decode cX5_hungerOf 2 = .ok (.iconst 0, 1) := by decide +kernel
theorem dX5_hungerOf_3 : decode cX5_hungerOf 3 = .ok (.istore_n 3, 1) := by decide +kernel
theorem dX5_hungerOf_4 : decode cX5_hungerOf 4 = .ok (.iload_n 3, 1) := by decide +kernel
theorem dX5_hungerOf_5 : decode cX5_hungerOf 5 = .ok (.aload_n 0, 1) := by decide +kernel
theorem dX5_hungerOf_6 : decode cX5_hungerOf 6 = .ok (.getfield 78, 3) := by decide +kernel
theorem dX5_hungerOf_9 : decode cX5_hungerOf 9 = .ok (.if_icmp .ge 30, 3) := by decide +kernel
theorem dX5_hungerOf_12 : decode cX5_hungerOf 12 = .ok (.iload_n 2, 1) := by decide +kernel
theorem dX5_hungerOf_13 : decode cX5_hungerOf 13 = .ok (.iload_n 1, 1) := by decide +kernel
theorem dX5_hungerOf_14 : decode cX5_hungerOf 14 = .ok (.iload_n 3, 1) := by decide +kernel
theorem dX5_hungerOf_15 : decode cX5_hungerOf 15 = .ok (.invokestatic 158, 3) := by decide +kernel
theorem dX5_hungerOf_18 : decode cX5_hungerOf 18 = .ok (.ifCond .eq 12, 3) := by decide +kernel
theorem dX5_hungerOf_21 : decode cX5_hungerOf 21 = .ok (.aload_n 0, 1) := by decide +kernel
theorem dX5_hungerOf_22 : decode cX5_hungerOf 22 = .ok (.getfield 28, 3) := by decide +kernel
theorem dX5_hungerOf_25 : decode cX5_hungerOf 25 = .ok (.iload_n 3, 1) := by decide +kernel
theorem dX5_hungerOf_26 : decode cX5_hungerOf 26 = .ok (.iaload, 1) := by decide +kernel
theorem dX5_hungerOf_27 : decode cX5_hungerOf 27 = .ok (.goto 4, 3) := by decide +kernel
theorem dX5_hungerOf_30 : decode cX5_hungerOf 30 = .ok (.iconst 0, 1) := by decide +kernel
theorem dX5_hungerOf_31 : decode cX5_hungerOf 31 = .ok (.iadd, 1) := by decide +kernel
theorem dX5_hungerOf_32 : decode cX5_hungerOf 32 = .ok (.istore_n 2, 1) := by decide +kernel
theorem dX5_hungerOf_33 : decode cX5_hungerOf 33 = .ok (.iinc 3 1, 3) := by decide +kernel
theorem dX5_hungerOf_36 : decode cX5_hungerOf 36 = .ok (.goto (-32), 3) := by decide +kernel
theorem dX5_hungerOf_39 : decode cX5_hungerOf 39 = .ok (.iload_n 2, 1) := by decide +kernel
theorem dX5_hungerOf_40 : decode cX5_hungerOf 40 = .ok (.ireturn, 1) := by decide +kernel
theorem dX5_bribes_0 : decode cX5_bribes 0 = .ok (.aload_n 0, 1) := by decide +kernel
theorem dX5_bribes_1 : decode cX5_bribes 1 = .ok (.iload_n 1, 1) := by decide +kernel
theorem dX5_bribes_2 : decode cX5_bribes 2 = .ok (.invokevirtual 206, 3) := by decide +kernel
theorem dX5_bribes_5 : decode cX5_bribes 5 = .ok (.ifCond .eq 12, 3) := by decide +kernel
theorem dX5_bribes_8 : decode cX5_bribes 8 = .ok (.iload_n 2, 1) := by decide +kernel
theorem dX5_bribes_9 : decode cX5_bribes 9 = .ok (.iconst 0, 1) := by decide +kernel
theorem dX5_bribes_10 : decode cX5_bribes 10 = .ok (.iconst 1, 1) := by decide +kernel
theorem dX5_bribes_11 : decode cX5_bribes 11 = .ok (.invokestatic 93, 3) := by decide +kernel
theorem dX5_bribes_14 : decode cX5_bribes 14 = .ok (.ifCond .ne 8, 3) := by decide +kernel
theorem dX5_bribes_17 : decode cX5_bribes 17 = .ok (.aload_n 0, 1) := by decide +kernel
theorem dX5_bribes_18 : decode cX5_bribes 18 = .ok (.invokevirtual 97, 3) := by decide +kernel
theorem dX5_bribes_21 : decode cX5_bribes 21 = .ok (.ireturn, 1) := by decide +kernel
theorem dX5_bribes_22 : decode cX5_bribes 22 = .ok (.aload_n 0, 1) := by decide +kernel
theorem dX5_bribes_23 : decode cX5_bribes 23 = .ok (.getfield 84, 3) := by decide +kernel
theorem dX5_bribes_26 : decode cX5_bribes 26 = .ok (.istore_n 3, 1) := by decide +kernel
theorem dX5_bribes_27 : decode cX5_bribes 27 = .ok (.iconst (-1), 1) := by decide +kernel
theorem dX5_bribes_28 : decode cX5_bribes 28 = .ok (.istore 4, 2) := by decide +kernel
theorem dX5_bribes_30 : decode cX5_bribes 30 = .ok (.iconst 0, 1) := by decide +kernel
theorem dX5_bribes_31 : decode cX5_bribes 31 = .ok (.istore 5, 2) := by decide +kernel
theorem dX5_bribes_33 : decode cX5_bribes 33 = .ok (.iload 5, 2) := by decide +kernel
theorem dX5_bribes_35 : decode cX5_bribes 35 = .ok (.iconst 1, 1) := by decide +kernel
theorem dX5_bribes_36 : decode cX5_bribes 36 = .ok (.aload_n 0, 1) := by decide +kernel
theorem dX5_bribes_37 : decode cX5_bribes 37 = .ok (.getfield 78, 3) := by decide +kernel
theorem dX5_bribes_40 : decode cX5_bribes 40 = .ok (.ishl, 1) := by decide +kernel
theorem dX5_bribes_41 : decode cX5_bribes 41 = .ok (.if_icmp .ge 91, 3) := by decide +kernel
theorem dX5_bribes_44 : decode cX5_bribes 44 = .ok (.iload 5, 2) := by decide +kernel
theorem dX5_bribes_46 : decode cX5_bribes 46 = .ok (.iload_n 3, 1) := by decide +kernel
theorem dX5_bribes_47 : decode cX5_bribes 47 = .ok (.iand, 1) := by decide +kernel
theorem dX5_bribes_48 : decode cX5_bribes 48 = .ok (.ifCond .ne 22, 3) := by decide +kernel
theorem dX5_bribes_51 : decode cX5_bribes 51 = .ok (.aload_n 0, 1) := by decide +kernel
theorem dX5_bribes_52 : decode cX5_bribes 52 = .ok (.iload 5, 2) := by decide +kernel
theorem dX5_bribes_54 : decode cX5_bribes 54 = .ok (.invokevirtual 236, 3) := by decide +kernel
theorem dX5_bribes_57 : decode cX5_bribes 57 = .ok (.aload_n 0, 1) := by decide +kernel
theorem dX5_bribes_58 : decode cX5_bribes 58 = .ok (.getfield 16, 3) := by decide +kernel
theorem dX5_bribes_61 : decode cX5_bribes 61 = .ok (.iload_n 1, 1) := by decide +kernel
theorem dX5_bribes_62 : decode cX5_bribes 62 = .ok (.iaload, 1) := by decide +kernel
theorem dX5_bribes_63 : decode cX5_bribes 63 = .ok (.if_icmp .gt 7, 3) := by decide +kernel
theorem dX5_bribes_66 : decode cX5_bribes 66 = .ok (.iconst 1, 1) := by decide +kernel
theorem dX5_bribes_67 : decode cX5_bribes 67 = .ok (.goto 4, 3) := by decide +kernel
theorem dX5_bribes_70 : decode cX5_bribes 70 = .ok (.iconst 0, 1) := by decide +kernel
theorem dX5_bribes_71 : decode cX5_bribes 71 = .ok (.istore 6, 2) := by decide +kernel
theorem dX5_bribes_73 : decode cX5_bribes 73 = .ok (.iload 6, 2) := by decide +kernel
theorem dX5_bribes_75 : decode cX5_bribes 75 = .ok (.ifCond .eq 51, 3) := by decide +kernel
theorem dX5_bribes_78 : decode cX5_bribes 78 = .ok (.iload 4, 2) := by decide +kernel
theorem dX5_bribes_80 : decode cX5_bribes 80 = .ok (.iconst (-1), 1) := by decide +kernel
theorem dX5_bribes_81 : decode cX5_bribes 81 = .ok (.if_icmp .eq 18, 3) := by decide +kernel
theorem dX5_bribes_84 : decode cX5_bribes 84 = .ok (.aload_n 0, 1) := by decide +kernel
theorem dX5_bribes_85 : decode cX5_bribes 85 = .ok (.iload 5, 2) := by decide +kernel
theorem dX5_bribes_87 : decode cX5_bribes 87 = .ok (.invokevirtual 236, 3) := by decide +kernel
theorem dX5_bribes_90 : decode cX5_bribes 90 = .ok (.aload_n 0, 1) := by decide +kernel
theorem dX5_bribes_91 : decode cX5_bribes 91 = .ok (.iload 4, 2) := by decide +kernel
theorem dX5_bribes_93 : decode cX5_bribes 93 = .ok (.invokevirtual 236, 3) := by decide +kernel
theorem dX5_bribes_96 : decode cX5_bribes 96 = .ok (.if_icmp .ge 30, 3) := by decide +kernel
theorem dX5_bribes_99 : decode cX5_bribes 99 = .ok (.aload_n 0, 1) := by decide +kernel
theorem dX5_bribes_100 : decode cX5_bribes 100 = .ok (.iload_n 3, 1) := by decide +kernel
theorem dX5_bribes_101 : decode cX5_bribes 101 = .ok (.iload 5, 2) := by decide +kernel
theorem dX5_bribes_103 : decode cX5_bribes 103 = .ok (.ior, 1) := by decide +kernel
theorem dX5_bribes_104 : decode cX5_bribes 104 = .ok (.putfield 84, 3) := by decide +kernel
theorem dX5_bribes_107 : decode cX5_bribes 107 = .ok (.aload_n 0, 1) := by decide +kernel
theorem dX5_bribes_108 : decode cX5_bribes 108 = .ok (.iconst 1, 1) := by decide +kernel
theorem dX5_bribes_109 : decode cX5_bribes 109 = .ok (.iconst 0, 1) := by decide +kernel
theorem dX5_bribes_110 : decode cX5_bribes 110 = .ok (.invokevirtual 233, 3) := by decide +kernel
theorem dX5_bribes_113 : decode cX5_bribes 113 = .ok (.iload_n 1, 1) := by decide +kernel
theorem dX5_bribes_114 : decode cX5_bribes 114 = .ok (.if_icmp .ne 8, 3) := by decide +kernel
theorem dX5_bribes_117 : decode cX5_bribes 117 = .ok (.iload 5, 2) := by decide +kernel
theorem dX5_bribes_119 : decode cX5_bribes 119 = .ok (.goto 5, 3) := by decide +kernel
theorem dX5_bribes_122 : decode cX5_bribes 122 = .ok (.iload 4, 2) := by decide +kernel
theorem dX5_bribes_124 : decode cX5_bribes 124 = .ok (.istore 4, 2) := by decide +kernel
theorem dX5_bribes_126 : decode cX5_bribes 126 = .ok (.iinc 5 1, 3) := by decide +kernel
theorem dX5_bribes_129 : decode cX5_bribes 129 = .ok (.goto (-96), 3) := by decide +kernel
theorem dX5_bribes_132 : decode cX5_bribes 132 = .ok (.aload_n 0, 1) := by decide +kernel
theorem dX5_bribes_133 : decode cX5_bribes 133 = .ok (.iload_n 3, 1) := by decide +kernel
theorem dX5_bribes_134 : decode cX5_bribes 134 = .ok (.putfield 84, 3) := by decide +kernel
theorem dX5_bribes_137 : decode cX5_bribes 137 = .ok (.iload 4, 2) := by decide +kernel
theorem dX5_bribes_139 : decode cX5_bribes 139 = .ok (.iconst (-1), 1) := by decide +kernel
theorem dX5_bribes_140 : decode cX5_bribes 140 = .ok (.if_icmp .eq 8, 3) := by decide +kernel
theorem dX5_bribes_143 : decode cX5_bribes 143 = .ok (.iload_n 2, 1) := by decide +kernel
theorem dX5_bribes_144 : decode cX5_bribes 144 = .ok (.iconst 1, 1) := by decide +kernel
theorem dX5_bribes_145 : decode cX5_bribes 145 = .ok (.if_icmp .ne 8, 3) := by decide +kernel
theorem dX5_bribes_148 : decode cX5_bribes 148 = .ok (.iload 4, 2) := by decide +kernel
theorem dX5_bribes_150 : decode cX5_bribes 150 = .ok (.goto 9, 3) := by decide +kernel
theorem dX5_bribes_153 : decode cX5_bribes 153 = .ok (.aload_n 0, 1) := by decide +kernel
theorem dX5_bribes_154 : decode cX5_bribes 154 = .ok (.iload 4, 2) := by decide +kernel
theorem dX5_bribes_156 : decode cX5_bribes 156 = .ok (.invokevirtual 236, 3) := by decide +kernel
theorem dX5_bribes_159 : decode cX5_bribes 159 = .ok (.ireturn, 1) := by decide +kernel
theorem dX5_still_0 : decode cX5_still 0 = .ok (.aload_n 0, 1) := by decide +kernel
theorem dX5_still_1 : decode cX5_still 1 = .ok (.iload_n 1, 1) := by decide +kernel
theorem dX5_still_2 : decode cX5_still 2 = .ok (.invokevirtual 206, 3) := by decide +kernel
theorem dX5_still_5 : decode cX5_still 5 = .ok (.ifCond .ne 8, 3) := by decide +kernel
theorem dX5_still_8 : decode cX5_still 8 = .ok (.aload_n 0, 1) := by decide +kernel
theorem dX5_still_9 : decode cX5_still 9 = .ok (.invokevirtual 97, 3) := by decide +kernel
theorem dX5_still_12 : decode cX5_still 12 = .ok (.ireturn, 1) := by decide +kernel
theorem dX5_still_13 : decode cX5_still 13 = .ok (.aload_n 0, 1) := by decide +kernel
theorem dX5_still_14 : decode cX5_still 14 = .ok (.invokevirtual 224, 3) := by decide +kernel
theorem dX5_still_17 : decode cX5_still 17 = .ok (.iconst 0, 1) := by decide +kernel
theorem dX5_still_18 : decode cX5_still 18 = .ok (.istore_n 2, 1) := by decide +kernel
theorem dX5_still_19 : decode cX5_still 19 = .ok (.iconst 0, 1) := by decide +kernel
theorem dX5_still_20 : decode cX5_still 20 = .ok (.istore_n 3, 1) := by decide +kernel
theorem dX5_still_21 : decode cX5_still 21 = .ok (.iload_n 2, 1) := by decide +kernel
theorem dX5_still_22 : decode cX5_still 22 = .ok (.bipush 30, 2) := by decide +kernel
theorem dX5_still_24 : decode cX5_still 24 = .ok (.if_icmp .ge 31, 3) := by decide +kernel
theorem dX5_still_27 : decode cX5_still 27 = .ok (.iload_n 3, 1) := by decide +kernel
theorem dX5_still_28 : decode cX5_still 28 = .ok (.ifCond .ne 27, 3) := by decide +kernel
theorem dX5_still_31 : decode cX5_still 31 = .ok (.aload_n 0, 1) := by decide +kernel
theorem dX5_still_32 : decode cX5_still 32 = .ok (.invokevirtual 218, 3) := by decide +kernel
theorem dX5_still_35 : decode cX5_still 35 = .ok (.iinc 2 1, 3) := by decide +kernel
theorem dX5_still_38 : decode cX5_still 38 = .ok (.aload_n 0, 1) := by decide +kernel
theorem dX5_still_39 : decode cX5_still 39 = .ok (.invokevirtual 221, 3) := by decide +kernel
theorem dX5_still_42 : decode cX5_still 42 = .ok (.iload_n 1, 1) := by decide +kernel
theorem dX5_still_43 : decode cX5_still 43 = .ok (.if_icmp .ne 7, 3) := by decide +kernel
theorem dX5_still_46 : decode cX5_still 46 = .ok (.iconst 1, 1) := by decide +kernel
theorem dX5_still_47 : decode cX5_still 47 = .ok (.goto 4, 3) := by decide +kernel
theorem dX5_still_50 : decode cX5_still 50 = .ok (.iconst 0, 1) := by decide +kernel
theorem dX5_still_51 : decode cX5_still 51 = .ok (.istore_n 3, 1) := by decide +kernel
theorem dX5_still_52 : decode cX5_still 52 = .ok (.goto (-31), 3) := by decide +kernel
theorem dX5_still_55 : decode cX5_still 55 = .ok (.aload_n 0, 1) := by decide +kernel
theorem dX5_still_56 : decode cX5_still 56 = .ok (.invokevirtual 227, 3) := by decide +kernel
theorem dX5_still_59 : decode cX5_still 59 = .ok (.iload_n 3, 1) := by decide +kernel
theorem dX5_still_60 : decode cX5_still 60 = .ok (.ifCond .eq 7, 3) := by decide +kernel
theorem dX5_still_63 : decode cX5_still 63 = .ok (.iload_n 2, 1) := by decide +kernel
theorem dX5_still_64 : decode cX5_still 64 = .ok (.goto 4, 3) := by decide +kernel
theorem dX5_still_67 : decode cX5_still 67 = .ok (.iconst (-1), 1) := by decide +kernel
theorem dX5_still_68 : decode cX5_still 68 = .ok (.ireturn, 1) := by decide +kernel
theorem dX5_first_0 : decode cX5_first 0 = .ok (.aload_n 0, 1) := by decide +kernel
theorem dX5_first_1 : decode cX5_first 1 = .ok (.iload_n 1, 1) := by decide +kernel
theorem dX5_first_2 : decode cX5_first 2 = .ok (.invokevirtual 206, 3) := by decide +kernel
theorem dX5_first_5 : decode cX5_first 5 = .ok (.ifCond .eq 12, 3) := by decide +kernel
theorem dX5_first_8 : decode cX5_first 8 = .ok (.iload_n 2, 1) := by decide +kernel
theorem dX5_first_9 : decode cX5_first 9 = .ok (.iconst 0, 1) := by decide +kernel
theorem dX5_first_10 : decode cX5_first 10 = .ok (.iconst 1, 1) := by decide +kernel
theorem dX5_first_11 : decode cX5_first 11 = .ok (.invokestatic 93, 3) := by decide +kernel
theorem dX5_first_14 : decode cX5_first 14 = .ok (.ifCond .ne 8, 3) := by decide +kernel
theorem dX5_first_17 : decode cX5_first 17 = .ok (.aload_n 0, 1) := by decide +kernel
theorem dX5_first_18 : decode cX5_first 18 = .ok (.invokevirtual 97, 3) := by decide +kernel
theorem dX5_first_21 : decode cX5_first 21 = .ok (.ireturn, 1) := by decide +kernel
theorem dX5_first_22 : decode cX5_first 22 = .ok (.iconst 0, 1) := by decide +kernel
theorem dX5_first_23 : decode cX5_first 23 = .ok (.istore_n 3, 1) := by decide +kernel
theorem dX5_first_24 : decode cX5_first 24 = .ok (.iconst 1, 1) := by decide +kernel
theorem dX5_first_25 : decode cX5_first 25 = .ok (.istore 4, 2) := by decide +kernel
theorem dX5_first_27 : decode cX5_first 27 = .ok (.iload 4, 2) := by decide +kernel
theorem dX5_first_29 : decode cX5_first 29 = .ok (.aload_n 0, 1) := by decide +kernel
theorem dX5_first_30 : decode cX5_first 30 = .ok (.getfield 74, 3) := by decide +kernel
theorem dX5_first_33 : decode cX5_first 33 = .ok (.if_icmp .ge 40, 3) := by decide +kernel
theorem dX5_first_36 : decode cX5_first 36 = .ok (.aload_n 0, 1) := by decide +kernel
theorem dX5_first_37 : decode cX5_first 37 = .ok (.iload_n 1, 1) := by decide +kernel
theorem dX5_first_38 : decode cX5_first 38 = .ok (.iload 4, 2) := by decide +kernel
theorem dX5_first_40 : decode cX5_first 40 = .ok (.aload_n 0, 1) := by decide +kernel
theorem dX5_first_41 : decode cX5_first 41 = .ok (.getfield 84, 3) := by decide +kernel
theorem dX5_first_44 : decode cX5_first 44 = .ok (.invokevirtual 195, 3) := by decide +kernel
theorem dX5_first_47 : decode cX5_first 47 = .ok (.aload_n 0, 1) := by decide +kernel
theorem dX5_first_48 : decode cX5_first 48 = .ok (.iload_n 1, 1) := by decide +kernel
theorem dX5_first_49 : decode cX5_first 49 = .ok (.iload_n 3, 1) := by decide +kernel
theorem dX5_first_50 : decode cX5_first 50 = .ok (.aload_n 0, 1) := by decide +kernel
theorem dX5_first_51 : decode cX5_first 51 = .ok (.getfield 84, 3) := by decide +kernel
theorem dX5_first_54 : decode cX5_first 54 = .ok (.invokevirtual 195, 3) := by decide +kernel
theorem dX5_first_57 : decode cX5_first 57 = .ok (.if_icmp .ge 8, 3) := by decide +kernel
theorem dX5_first_60 : decode cX5_first 60 = .ok (.iload 4, 2) := by decide +kernel
theorem dX5_first_62 : decode cX5_first 62 = .ok (.goto 4, 3) := by decide +kernel
theorem dX5_first_65 : decode cX5_first 65 = .ok (.iload_n 3, 1) := by decide +kernel
theorem dX5_first_66 : decode cX5_first 66 = .ok (.istore_n 3, 1) := by decide +kernel
theorem dX5_first_67 : decode cX5_first 67 = .ok (.iinc 4 1, 3) := by decide +kernel
theorem dX5_first_70 : decode cX5_first 70 = .ok (.goto (-43), 3) := by decide +kernel
theorem dX5_first_73 : decode cX5_first 73 = .ok (.iload_n 2, 1) := by decide +kernel
theorem dX5_first_74 : decode cX5_first 74 = .ok (.ifCond .ne 7, 3) := by decide +kernel
theorem dX5_first_77 : decode cX5_first 77 = .ok (.iload_n 3, 1) := by decide +kernel
theorem dX5_first_78 : decode cX5_first 78 = .ok (.goto 13, 3) := by decide +kernel
theorem dX5_first_81 : decode cX5_first 81 = .ok (.aload_n 0, 1) := by decide +kernel
theorem dX5_first_82 : decode cX5_first 82 = .ok (.iload_n 1, 1) := by decide +kernel
theorem dX5_first_83 : decode cX5_first 83 = .ok (.iload_n 3, 1) := by decide +kernel
theorem dX5_first_84 : decode cX5_first 84 = .ok (.aload_n 0, 1) := by decide +kernel
theorem dX5_first_85 : decode cX5_first 85 = .ok (.getfield 84, 3) := by decide +kernel
theorem dX5_first_88 : decode cX5_first 88 = .ok (.invokevirtual 195, 3) := by decide +kernel
theorem dX5_first_91 : decode cX5_first 91 = .ok (.ireturn, 1) := by decide +kernel
theorem dX5_slept_0 : decode cX5_slept 0 = .ok (.iload_n 1, 1) := by decide +kernel
theorem dX5_slept_1 : decode cX5_slept 1 = .ok (.iconst 0, 1) := by decide +kernel
theorem dX5_slept_2 : decode cX5_slept 2 = .ok (.bipush 99, 2) := by decide +kernel
theorem dX5_slept_4 : decode cX5_slept 4 = .ok (.invokestatic 93, 3) := by decide +kernel
theorem dX5_slept_7 : decode cX5_slept 7 = .ok (.ifCond .eq 32, 3) := by decide +kernel
theorem dX5_slept_10 : decode cX5_slept 10 = .ok (.aload_n 0, 1) := by decide +kernel
theorem dX5_slept_11 : decode cX5_slept 11 = .ok (.iload_n 2, 1) := by decide +kernel
theorem dX5_slept_12 : decode cX5_slept 12 = .ok (.invokevirtual 206, 3) := by decide +kernel
theorem dX5_slept_15 : decode cX5_slept 15 = .ok (.ifCond .eq 24, 3) := by decide +kernel
theorem dX5_slept_18 : decode cX5_slept 18 = .ok (.iload_n 3, 1) := by decide +kernel
theorem dX5_slept_19 : decode cX5_slept 19 = .ok (.iconst 0, 1) := by decide +kernel
theorem dX5_slept_20 : decode cX5_slept 20 = .ok (.sipush 200, 3) := by decide +kernel
theorem dX5_slept_23 : decode cX5_slept 23 = .ok (.invokestatic 93, 3) := by decide +kernel
theorem dX5_slept_26 : decode cX5_slept 26 = .ok (.ifCond .eq 13, 3) := by decide +kernel
theorem dX5_slept_29 : decode cX5_slept 29 = .ok (.iload 4, 2) := by decide +kernel
theorem dX5_slept_31 : decode cX5_slept 31 = .ok (.iconst 0, 1) := by decide +kernel
theorem dX5_slept_32 : decode cX5_slept 32 = .ok (.iconst 2, 1) := by decide +kernel
theorem dX5_slept_33 : decode cX5_slept 33 = .ok (.invokestatic 93, 3) := by decide +kernel
theorem dX5_slept_36 : decode cX5_slept 36 = .ok (.ifCond .ne 8, 3) := by decide +kernel
theorem dX5_slept_39 : decode cX5_slept 39 = .ok (.aload_n 0, 1) := by decide +kernel
theorem dX5_slept_40 : decode cX5_slept 40 = .ok (.invokevirtual 97, 3) := by decide +kernel
theorem dX5_slept_43 : decode cX5_slept 43 = .ok (.ireturn, 1) := by decide +kernel
theorem dX5_slept_44 : decode cX5_slept 44 = .ok (.iconst 0, 1) := by decide +kernel
theorem dX5_slept_45 : decode cX5_slept 45 = .ok (.istore 5, 2) := by decide +kernel
theorem dX5_slept_47 : decode cX5_slept 47 = .ok (.iconst (-1), 1) := by decide +kernel
theorem dX5_slept_48 : decode cX5_slept 48 = .ok (.istore 6, 2) := by decide +kernel
theorem dX5_slept_50 : decode cX5_slept 50 = .ok (.iconst 0, 1) := by decide +kernel
theorem dX5_slept_51 : decode cX5_slept 51 = .ok (.istore 7, 2) := by decide +kernel
theorem dX5_slept_53 : decode cX5_slept 53 = .ok (.iconst 0, 1) := by decide +kernel
theorem dX5_slept_54 : decode cX5_slept 54 = .ok (.istore 8, 2) := by decide +kernel
theorem dX5_slept_56 : decode cX5_slept 56 = .ok (.iload 8, 2) := by decide +kernel
theorem dX5_slept_58 : decode cX5_slept 58 = .ok (.iconst 1, 1) := by decide +kernel
theorem dX5_slept_59 : decode cX5_slept 59 = .ok (.aload_n 0, 1) := by decide +kernel
theorem dX5_slept_60 : decode cX5_slept 60 = .ok (.getfield 78, 3) := by decide +kernel
theorem dX5_slept_63 : decode cX5_slept 63 = .ok (.ishl, 1) := by decide +kernel
theorem dX5_slept_64 : decode cX5_slept 64 = .ok (.if_icmp .ge 52, 3) := by decide +kernel
theorem dX5_slept_67 : decode cX5_slept 67 = .ok (.aload_n 0, 1) := by decide +kernel
theorem dX5_slept_68 : decode cX5_slept 68 = .ok (.iload_n 2, 1) := by decide +kernel
theorem dX5_slept_69 : decode cX5_slept 69 = .ok (.aload_n 0, 1) := by decide +kernel
theorem dX5_slept_70 : decode cX5_slept 70 = .ok (.iload_n 1, 1) := by decide +kernel
theorem dX5_slept_71 : decode cX5_slept 71 = .ok (.invokevirtual 192, 3) := by decide +kernel
theorem dX5_slept_74 : decode cX5_slept 74 = .ok (.iload 8, 2) := by decide +kernel
theorem dX5_slept_76 : decode cX5_slept 76 = .ok (.invokevirtual 195, 3) := by decide +kernel
theorem dX5_slept_79 : decode cX5_slept 79 = .ok (.iload_n 3, 1) := by decide +kernel
theorem dX5_slept_80 : decode cX5_slept 80 = .ok (.if_icmp .ne 30, 3) := by decide +kernel
theorem dX5_slept_83 : decode cX5_slept 83 = .ok (.iload 5, 2) := by decide +kernel
theorem dX5_slept_85 : decode cX5_slept 85 = .ok (.ifCond .ne 8, 3) := by decide +kernel
theorem dX5_slept_88 : decode cX5_slept 88 = .ok (.iload 8, 2) := by decide +kernel
theorem dX5_slept_90 : decode cX5_slept 90 = .ok (.goto 8, 3) := by decide +kernel
theorem dX5_slept_93 : decode cX5_slept 93 = .ok (.iload 6, 2) := by decide +kernel
theorem dX5_slept_95 : decode cX5_slept 95 = .ok (.iload 8, 2) := by decide +kernel
theorem dX5_slept_97 : decode cX5_slept 97 = .ok (.iand, 1) := by decide +kernel
theorem dX5_slept_98 : decode cX5_slept 98 = .ok (.istore 6, 2) := by decide +kernel
theorem dX5_slept_100 : decode cX5_slept 100 = .ok (.iload 7, 2) := by decide +kernel
theorem dX5_slept_102 : decode cX5_slept 102 = .ok (.iload 8, 2) := by decide +kernel
theorem dX5_slept_104 : decode cX5_slept 104 = .ok (.ior, 1) := by decide +kernel
theorem dX5_slept_105 : decode cX5_slept 105 = .ok (.istore 7, 2) := by decide +kernel
theorem dX5_slept_107 : decode cX5_slept 107 = .ok (.iinc 5 1, 3) := by decide +kernel
theorem dX5_slept_110 : decode cX5_slept 110 = .ok (.iinc 8 1, 3) := by decide +kernel
theorem dX5_slept_113 : decode cX5_slept 113 = .ok (.goto (-57), 3) := by decide +kernel
theorem dX5_slept_116 : decode cX5_slept 116 = .ok (.iload 4, 2) := by decide +kernel
theorem dX5_slept_118 : decode cX5_slept 118 = .ok (.ifCond .ne 8, 3) := by decide +kernel
theorem dX5_slept_121 : decode cX5_slept 121 = .ok (.iload 5, 2) := by decide +kernel
theorem dX5_slept_123 : decode cX5_slept 123 = .ok (.goto 16, 3) := by decide +kernel
theorem dX5_slept_126 : decode cX5_slept 126 = .ok (.iload 4, 2) := by decide +kernel
theorem dX5_slept_128 : decode cX5_slept 128 = .ok (.iconst 1, 1) := by decide +kernel
theorem dX5_slept_129 : decode cX5_slept 129 = .ok (.if_icmp .ne 8, 3) := by decide +kernel
theorem dX5_slept_132 : decode cX5_slept 132 = .ok (.iload 6, 2) := by decide +kernel
theorem dX5_slept_134 : decode cX5_slept 134 = .ok (.goto 5, 3) := by decide +kernel
theorem dX5_slept_137 : decode cX5_slept 137 = .ok (.iload 7, 2) := by decide +kernel
theorem dX5_slept_139 : decode cX5_slept 139 = .ok (.ireturn, 1) := by decide +kernel
theorem dX5_note_0 : decode cX5_note 0 = .ok (.aload_n 0, 1) := by decide +kernel
theorem dX5_note_1 : decode cX5_note 1 = .ok (.iload_n 1, 1) := by decide +kernel
theorem dX5_note_2 : decode cX5_note 2 = .ok (.invokevirtual 209, 3) := by decide +kernel
theorem dX5_note_5 : decode cX5_note 5 = .ok (.ifCond .eq 32, 3) := by decide +kernel
theorem dX5_note_8 : decode cX5_note 8 = .ok (.iload_n 2, 1) := by decide +kernel
theorem dX5_note_9 : decode cX5_note 9 = .ok (.iconst 0, 1) := by decide +kernel
theorem dX5_note_10 : decode cX5_note 10 = .ok (.iconst 1, 1) := by decide +kernel
theorem dX5_note_11 : decode cX5_note 11 = .ok (.invokestatic 93, 3) := by decide +kernel
theorem dX5_note_14 : decode cX5_note 14 = .ok (.ifCond .eq 23, 3) := by decide +kernel
theorem dX5_note_17 : decode cX5_note 17 = .ok (.iload_n 3, 1) := by decide +kernel
theorem dX5_note_18 : decode cX5_note 18 = .ok (.iconst 0, 1) := by decide +kernel
theorem dX5_note_19 : decode cX5_note 19 = .ok (.bipush 9, 2) := by decide +kernel
theorem dX5_note_21 : decode cX5_note 21 = .ok (.invokestatic 93, 3) := by decide +kernel
theorem dX5_note_24 : decode cX5_note 24 = .ok (.ifCond .eq 13, 3) := by decide +kernel
theorem dX5_note_27 : decode cX5_note 27 = .ok (.iload 4, 2) := by decide +kernel
theorem dX5_note_29 : decode cX5_note 29 = .ok (.iconst 0, 1) := by decide +kernel
theorem dX5_note_30 : decode cX5_note 30 = .ok (.iconst 1, 1) := by decide +kernel
theorem dX5_note_31 : decode cX5_note 31 = .ok (.invokestatic 93, 3) := by decide +kernel
theorem dX5_note_34 : decode cX5_note 34 = .ok (.ifCond .ne 8, 3) := by decide +kernel
theorem dX5_note_37 : decode cX5_note 37 = .ok (.aload_n 0, 1) := by decide +kernel
theorem dX5_note_38 : decode cX5_note 38 = .ok (.invokevirtual 97, 3) := by decide +kernel
theorem dX5_note_41 : decode cX5_note 41 = .ok (.ireturn, 1) := by decide +kernel
theorem dX5_note_42 : decode cX5_note 42 = .ok (.aload_n 0, 1) := by decide +kernel
theorem dX5_note_43 : decode cX5_note 43 = .ok (.getfield 87, 3) := by decide +kernel
theorem dX5_note_46 : decode cX5_note 46 = .ok (.bipush 6, 2) := by decide +kernel
theorem dX5_note_48 : decode cX5_note 48 = .ok (.if_icmp .ne 8, 3) := by decide +kernel
theorem dX5_note_51 : decode cX5_note 51 = .ok (.aload_n 0, 1) := by decide +kernel
theorem dX5_note_52 : decode cX5_note 52 = .ok (.invokevirtual 101, 3) := by decide +kernel
theorem dX5_note_55 : decode cX5_note 55 = .ok (.ireturn, 1) := by decide +kernel
theorem dX5_note_56 : decode cX5_note 56 = .ok (.aload_n 0, 1) := by decide +kernel
theorem dX5_note_57 : decode cX5_note 57 = .ok (.getfield 34, 3) := by decide +kernel
theorem dX5_note_60 : decode cX5_note 60 = .ok (.aload_n 0, 1) := by decide +kernel
theorem dX5_note_61 : decode cX5_note 61 = .ok (.getfield 87, 3) := by decide +kernel
theorem dX5_note_64 : decode cX5_note 64 = .ok (.iload_n 1, 1) := by decide +kernel
theorem dX5_note_65 : decode cX5_note 65 = .ok (.iastore, 1) := by decide +kernel
theorem dX5_note_66 : decode cX5_note 66 = .ok (.aload_n 0, 1) := by decide +kernel
theorem dX5_note_67 : decode cX5_note 67 = .ok (.getfield 37, 3) := by decide +kernel
theorem dX5_note_70 : decode cX5_note 70 = .ok (.aload_n 0, 1) := by decide +kernel
theorem dX5_note_71 : decode cX5_note 71 = .ok (.getfield 87, 3) := by decide +kernel
theorem dX5_note_74 : decode cX5_note 74 = .ok (.iload_n 2, 1) := by decide +kernel
theorem dX5_note_75 : decode cX5_note 75 = .ok (.iastore, 1) := by decide +kernel
theorem dX5_note_76 : decode cX5_note 76 = .ok (.aload_n 0, 1) := by decide +kernel
theorem dX5_note_77 : decode cX5_note 77 = .ok (.getfield 40, 3) := by decide +kernel
theorem dX5_note_80 : decode cX5_note 80 = .ok (.aload_n 0, 1) := by decide +kernel
theorem dX5_note_81 : decode cX5_note 81 = .ok (.getfield 87, 3) := by decide +kernel
theorem dX5_note_84 : decode cX5_note 84 = .ok (.iload_n 3, 1) := by decide +kernel
theorem dX5_note_85 : decode cX5_note 85 = .ok (.iastore, 1) := by decide +kernel
theorem dX5_note_86 : decode cX5_note 86 = .ok (.aload_n 0, 1) := by decide +kernel
theorem dX5_note_87 : decode cX5_note 87 = .ok (.getfield 43, 3) := by decide +kernel
theorem dX5_note_90 : decode cX5_note 90 = .ok (.aload_n 0, 1) := by decide +kernel
theorem dX5_note_91 : decode cX5_note 91 = .ok (.getfield 87, 3) := by decide +kernel
theorem dX5_note_94 : decode cX5_note 94 = .ok (.iload 4, 2) := by decide +kernel
theorem dX5_note_96 : decode cX5_note 96 = .ok (.iastore, 1) := by decide +kernel
theorem dX5_note_97 : decode cX5_note 97 = .ok (.aload_n 0, 1) := by decide +kernel
theorem dX5_note_98 : decode cX5_note 98 = .ok (.dup, 1) := by decide +kernel
theorem dX5_note_99 : decode cX5_note 99 = .ok (.getfield 87, 3) := by decide +kernel
theorem dX5_note_102 : decode cX5_note 102 = .ok (.iconst 1, 1) := by decide +kernel
theorem dX5_note_103 : decode cX5_note 103 = .ok (.iadd, 1) := by decide +kernel
theorem dX5_note_104 : decode cX5_note 104 = .ok (.putfield 87, 3) := by decide +kernel
theorem dX5_note_107 : decode cX5_note 107 = .ok (.aload_n 0, 1) := by decide +kernel
theorem dX5_note_108 : decode cX5_note 108 = .ok (.getfield 87, 3) := by decide +kernel
theorem dX5_note_111 : decode cX5_note 111 = .ok (.ireturn, 1) := by decide +kernel
theorem dX5_forget_0 : decode cX5_forget 0 = .ok (.aload_n 0, 1) := by decide +kernel
theorem dX5_forget_1 : decode cX5_forget 1 = .ok (.getfield 87, 3) := by decide +kernel
theorem dX5_forget_4 : decode cX5_forget 4 = .ok (.istore_n 1, 1) := by decide +kernel
theorem dX5_forget_5 : decode cX5_forget 5 = .ok (.aload_n 0, 1) := by decide +kernel
theorem dX5_forget_6 : decode cX5_forget 6 = .ok (.iconst 0, 1) := by decide +kernel
theorem dX5_forget_7 : decode cX5_forget 7 = .ok (.putfield 87, 3) := by decide +kernel
theorem dX5_forget_10 : decode cX5_forget 10 = .ok (.iload_n 1, 1) := by decide +kernel
theorem dX5_forget_11 : decode cX5_forget 11 = .ok (.ireturn, 1) := by decide +kernel
theorem dX5_kindsOf_0 : decode cX5_kindsOf 0 = .ok (.iconst 0, 1) := by decide +kernel
theorem dX5_kindsOf_1 : decode cX5_kindsOf 1 = .ok (.istore_n 2, 1) := by decide +kernel
theorem dX5_kindsOf_2 : decode cX5_kindsOf 2 = .ok (.iconst 0, 1) := by decide +kernel
theorem dX5_kindsOf_3 : decode cX5_kindsOf 3 = .ok (.istore_n 3, 1) := by decide +kernel
theorem dX5_kindsOf_4 : decode cX5_kindsOf 4 = .ok (.iload_n 3, 1) := by decide +kernel
theorem dX5_kindsOf_5 : decode cX5_kindsOf 5 = .ok (.iconst 5, 1) := by decide +kernel
theorem dX5_kindsOf_6 : decode cX5_kindsOf 6 = .ok (.if_icmp .gt 126, 3) := by decide +kernel
theorem dX5_kindsOf_9 : decode cX5_kindsOf 9 = .ok (.iconst 1, 1) := by decide +kernel
theorem dX5_kindsOf_10 : decode cX5_kindsOf 10 = .ok (.istore 4, 2) := by decide +kernel
theorem dX5_kindsOf_12 : decode cX5_kindsOf 12 = .ok (.iconst 0, 1) := by decide +kernel
theorem dX5_kindsOf_13 : decode cX5_kindsOf 13 = .ok (.istore 5, 2) := by decide +kernel
theorem dX5_kindsOf_15 : decode cX5_kindsOf 15 = .ok (.iload 5, 2) := by decide +kernel
theorem dX5_kindsOf_17 : decode cX5_kindsOf 17 = .ok (.aload_n 0, 1) := by decide +kernel
theorem dX5_kindsOf_18 : decode cX5_kindsOf 18 = .ok (.getfield 87, 3) := by decide +kernel
theorem dX5_kindsOf_21 : decode cX5_kindsOf 21 = .ok (.if_icmp .ge 90, 3) := by decide +kernel
theorem dX5_kindsOf_24 : decode cX5_kindsOf 24 = .ok (.iload_n 3, 1) := by decide +kernel
theorem dX5_kindsOf_25 : decode cX5_kindsOf 25 = .ok (.aload_n 0, 1) := by decide +kernel
theorem dX5_kindsOf_26 : decode cX5_kindsOf 26 = .ok (.getfield 37, 3) := by decide +kernel
theorem dX5_kindsOf_29 : decode cX5_kindsOf 29 = .ok (.iload 5, 2) := by decide +kernel
theorem dX5_kindsOf_31 : decode cX5_kindsOf 31 = .ok (.iaload, 1) := by decide +kernel
theorem dX5_kindsOf_32 : decode cX5_kindsOf 32 = .ok (.iconst 1, 1) := by decide +kernel
theorem dX5_kindsOf_33 : decode cX5_kindsOf 33 = .ok (.if_icmp .ne 7, 3) := by decide +kernel
theorem dX5_kindsOf_36 : decode cX5_kindsOf 36 = .ok (.iconst 1, 1) := by decide +kernel
theorem dX5_kindsOf_37 : decode cX5_kindsOf 37 = .ok (.goto 4, 3) := by decide +kernel
theorem dX5_kindsOf_40 : decode cX5_kindsOf 40 = .ok (.iconst 0, 1) := by decide +kernel
theorem dX5_kindsOf_41 : decode cX5_kindsOf 41 = .ok (.aload_n 0, 1) := by decide +kernel
theorem dX5_kindsOf_42 : decode cX5_kindsOf 42 = .ok (.getfield 40, 3) := by decide +kernel
theorem dX5_kindsOf_45 : decode cX5_kindsOf 45 = .ok (.iload 5, 2) := by decide +kernel
theorem dX5_kindsOf_47 : decode cX5_kindsOf 47 = .ok (.iaload, 1) := by decide +kernel
theorem dX5_kindsOf_48 : decode cX5_kindsOf 48 = .ok (.invokestatic 182, 3) := by decide +kernel
theorem dX5_kindsOf_51 : decode cX5_kindsOf 51 = .ok (.aload_n 0, 1) := by decide +kernel
theorem dX5_kindsOf_52 : decode cX5_kindsOf 52 = .ok (.getfield 43, 3) := by decide +kernel
theorem dX5_kindsOf_55 : decode cX5_kindsOf 55 = .ok (.iload 5, 2) := by decide +kernel
theorem dX5_kindsOf_57 : decode cX5_kindsOf 57 = .ok (.iaload, 1) := by decide +kernel
theorem dX5_kindsOf_58 : decode cX5_kindsOf 58 = .ok (.iconst 1, 1) := by decide +kernel
theorem dX5_kindsOf_59 : decode cX5_kindsOf 59 = .ok (.if_icmp .ne 7, 3) := by decide +kernel
theorem dX5_kindsOf_62 : decode cX5_kindsOf 62 = .ok (.iconst 1, 1) := by decide +kernel
theorem dX5_kindsOf_63 : decode cX5_kindsOf 63 = .ok (.goto 4, 3) := by decide +kernel
theorem dX5_kindsOf_66 : decode cX5_kindsOf 66 = .ok (.iconst 0, 1) := by decide +kernel
theorem dX5_kindsOf_67 : decode cX5_kindsOf 67 = .ok (.if_icmp .ne 7, 3) := by decide +kernel
theorem dX5_kindsOf_70 : decode cX5_kindsOf 70 = .ok (.iconst 1, 1) := by decide +kernel
theorem dX5_kindsOf_71 : decode cX5_kindsOf 71 = .ok (.goto 4, 3) := by decide +kernel
theorem dX5_kindsOf_74 : decode cX5_kindsOf 74 = .ok (.iconst 0, 1) := by decide +kernel
theorem dX5_kindsOf_75 : decode cX5_kindsOf 75 = .ok (.istore 6, 2) := by decide +kernel
theorem dX5_kindsOf_77 : decode cX5_kindsOf 77 = .ok (.iload 4, 2) := by decide +kernel
theorem dX5_kindsOf_79 : decode cX5_kindsOf 79 = .ok (.ifCond .eq 23, 3) := by decide +kernel
theorem dX5_kindsOf_82 : decode cX5_kindsOf 82 = .ok (.aload_n 0, 1) := by decide +kernel
theorem dX5_kindsOf_83 : decode cX5_kindsOf 83 = .ok (.getfield 34, 3) := by decide +kernel
theorem dX5_kindsOf_86 : decode cX5_kindsOf 86 = .ok (.iload 5, 2) := by decide +kernel
theorem dX5_kindsOf_88 : decode cX5_kindsOf 88 = .ok (.iaload, 1) := by decide +kernel
theorem dX5_kindsOf_89 : decode cX5_kindsOf 89 = .ok (.iload_n 1, 1) := by decide +kernel
theorem dX5_kindsOf_90 : decode cX5_kindsOf 90 = .ok (.if_icmp .ne 8, 3) := by decide +kernel
theorem dX5_kindsOf_93 : decode cX5_kindsOf 93 = .ok (.iload 6, 2) := by decide +kernel
theorem dX5_kindsOf_95 : decode cX5_kindsOf 95 = .ok (.ifCond .eq 7, 3) := by decide +kernel
theorem dX5_kindsOf_98 : decode cX5_kindsOf 98 = .ok (.iconst 1, 1) := by decide +kernel
theorem dX5_kindsOf_99 : decode cX5_kindsOf 99 = .ok (.goto 4, 3) := by decide +kernel
theorem dX5_kindsOf_102 : decode cX5_kindsOf 102 = .ok (.iconst 0, 1) := by decide +kernel
theorem dX5_kindsOf_103 : decode cX5_kindsOf 103 = .ok (.istore 4, 2) := by decide +kernel
theorem dX5_kindsOf_105 : decode cX5_kindsOf 105 = .ok (.iinc 5 1, 3) := by decide +kernel
theorem dX5_kindsOf_108 : decode cX5_kindsOf 108 = .ok (.goto (-93), 3) := by decide +kernel
theorem dX5_kindsOf_111 : decode cX5_kindsOf 111 = .ok (.iload_n 2, 1) := by decide +kernel
theorem dX5_kindsOf_112 : decode cX5_kindsOf 112 = .ok (.iload 4, 2) := by decide +kernel
theorem dX5_kindsOf_114 : decode cX5_kindsOf 114 = .ok (.ifCond .eq 9, 3) := by decide +kernel
theorem dX5_kindsOf_117 : decode cX5_kindsOf 117 = .ok (.iconst 1, 1) := by decide +kernel
theorem dX5_kindsOf_118 : decode cX5_kindsOf 118 = .ok (.iload_n 3, 1) := by decide +kernel
theorem dX5_kindsOf_119 : decode cX5_kindsOf 119 = .ok (.ishl, 1) := by decide +kernel
theorem dX5_kindsOf_120 : decode cX5_kindsOf 120 = .ok (.goto 4, 3) := by decide +kernel
theorem dX5_kindsOf_123 : decode cX5_kindsOf 123 = .ok (.iconst 0, 1) := by decide +kernel
theorem dX5_kindsOf_124 : decode cX5_kindsOf 124 = .ok (.ior, 1) := by decide +kernel
theorem dX5_kindsOf_125 : decode cX5_kindsOf 125 = .ok (.istore_n 2, 1) := by decide +kernel
theorem dX5_kindsOf_126 : decode cX5_kindsOf 126 = .ok (.iinc 3 1, 3) := by decide +kernel
theorem dX5_kindsOf_129 : decode cX5_kindsOf 129 = .ok (.goto (-125), 3) := by decide +kernel
theorem dX5_kindsOf_132 : decode cX5_kindsOf 132 = .ok (.iload_n 2, 1) := by decide +kernel
theorem dX5_kindsOf_133 : decode cX5_kindsOf 133 = .ok (.ireturn, 1) := by decide +kernel
theorem dX5_is_0 : decode cX5_is 0 = .ok (.aload_n 0, 1) := by decide +kernel
theorem dX5_is_1 : decode cX5_is 1 = .ok (.iload_n 1, 1) := by decide +kernel
theorem dX5_is_2 : decode cX5_is 2 = .ok (.invokevirtual 209, 3) := by decide +kernel
theorem dX5_is_5 : decode cX5_is 5 = .ok (.ifCond .eq 11, 3) := by decide +kernel
theorem dX5_is_8 : decode cX5_is 8 = .ok (.aload_n 0, 1) := by decide +kernel
theorem dX5_is_9 : decode cX5_is 9 = .ok (.iload_n 1, 1) := by decide +kernel
theorem dX5_is_10 : decode cX5_is 10 = .ok (.invokevirtual 239, 3) := by decide +kernel
theorem dX5_is_13 : decode cX5_is 13 = .ok (.goto 7, 3) := by decide +kernel
theorem dX5_is_16 : decode cX5_is 16 = .ok (.aload_n 0, 1) := by decide +kernel
theorem dX5_is_17 : decode cX5_is 17 = .ok (.invokevirtual 97, 3) := by decide +kernel
theorem dX5_is_20 : decode cX5_is 20 = .ok (.ireturn, 1) := by decide +kernel
theorem dX5_send_0 : decode cX5_send 0 = .ok (.aload_n 0, 1) := by decide +kernel
theorem dX5_send_1 : decode cX5_send 1 = .ok (.iload_n 1, 1) := by decide +kernel
theorem dX5_send_2 : decode cX5_send 2 = .ok (.invokevirtual 209, 3) := by decide +kernel
theorem dX5_send_5 : decode cX5_send 5 = .ok (.ifCond .ne 8, 3) := by decide +kernel
theorem dX5_send_8 : decode cX5_send 8 = .ok (.aload_n 0, 1) := by decide +kernel
theorem dX5_send_9 : decode cX5_send 9 = .ok (.invokevirtual 97, 3) := by decide +kernel
theorem dX5_send_12 : decode cX5_send 12 = .ok (.ireturn, 1) := by decide +kernel
theorem dX5_send_13 : decode cX5_send 13 = .ok (.aload_n 0, 1) := by decide +kernel
theorem dX5_send_14 : decode cX5_send 14 = .ok (.iload_n 1, 1) := by decide +kernel
theorem dX5_send_15 : decode cX5_send 15 = .ok (.invokevirtual 239, 3) := by decide +kernel
theorem dX5_send_18 : decode cX5_send 18 = .ok (.istore_n 2, 1) := by decide +kernel
theorem dX5_send_19 : decode cX5_send 19 = .ok (.iconst (-1), 1) := by decide +kernel
theorem dX5_send_20 : decode cX5_send 20 = .ok (.istore_n 3, 1) := by decide +kernel
theorem dX5_send_21 : decode cX5_send 21 = .ok (.ldc 242, 2) := by decide +kernel
theorem dX5_send_23 : decode cX5_send 23 = .ok (.istore 4, 2) := by decide +kernel
theorem dX5_send_25 : decode cX5_send 25 = .ok (.iconst 0, 1) := by decide +kernel
theorem dX5_send_26 : decode cX5_send 26 = .ok (.istore 5, 2) := by decide +kernel
theorem dX5_send_28 : decode cX5_send 28 = .ok (.iload 5, 2) := by decide +kernel
theorem dX5_send_30 : decode cX5_send 30 = .ok (.bipush 20, 2) := by decide +kernel
theorem dX5_send_32 : decode cX5_send 32 = .ok (.if_icmp .ge 152, 3) := by decide +kernel
theorem dX5_send_35 : decode cX5_send 35 = .ok (.iload_n 2, 1) := by decide +kernel
theorem dX5_send_36 : decode cX5_send 36 = .ok (.ifCond .eq 148, 3) := by decide +kernel
theorem dX5_send_39 : decode cX5_send 39 = .ok (.iconst 0, 1) := by decide +kernel
theorem dX5_send_40 : decode cX5_send 40 = .ok (.istore 6, 2) := by decide +kernel
theorem dX5_send_42 : decode cX5_send 42 = .ok (.iconst 0, 1) := by decide +kernel
theorem dX5_send_43 : decode cX5_send 43 = .ok (.istore 7, 2) := by decide +kernel
theorem dX5_send_45 : decode cX5_send 45 = .ok (.iconst 0, 1) := by decide +kernel
theorem dX5_send_46 : decode cX5_send 46 = .ok (.istore 8, 2) := by decide +kernel
theorem dX5_send_48 : decode cX5_send 48 = .ok (.iload 8, 2) := by decide +kernel
theorem dX5_send_50 : decode cX5_send 50 = .ok (.iconst 5, 1) := by decide +kernel
theorem dX5_send_51 : decode cX5_send 51 = .ok (.if_icmp .gt 81, 3) := by decide +kernel
theorem dX5_send_54 : decode cX5_send 54 = .ok (.iload 8, 2) := by decide +kernel
theorem dX5_send_56 : decode cX5_send 56 = .ok (.iload 5, 2) := by decide +kernel
theorem dX5_send_58 : decode cX5_send 58 = .ok (.bipush 9, 2) := by decide +kernel
theorem dX5_send_60 : decode cX5_send 60 = .ok (.if_icmp .le 7, 3) := by decide +kernel
theorem dX5_send_63 : decode cX5_send 63 = .ok (.iconst 1, 1) := by decide +kernel
theorem dX5_send_64 : decode cX5_send 64 = .ok (.goto 4, 3) := by decide +kernel
theorem dX5_send_67 : decode cX5_send 67 = .ok (.iconst 0, 1) := by decide +kernel
theorem dX5_send_68 : decode cX5_send 68 = .ok (.iload 5, 2) := by decide +kernel
theorem dX5_send_70 : decode cX5_send 70 = .ok (.bipush 10, 2) := by decide +kernel
theorem dX5_send_72 : decode cX5_send 72 = .ok (.irem, 1) := by decide +kernel
theorem dX5_send_73 : decode cX5_send 73 = .ok (.invokestatic 182, 3) := by decide +kernel
theorem dX5_send_76 : decode cX5_send 76 = .ok (.istore 9, 2) := by decide +kernel
theorem dX5_send_78 : decode cX5_send 78 = .ok (.iload 6, 2) := by decide +kernel
theorem dX5_send_80 : decode cX5_send 80 = .ok (.iload_n 2, 1) := by decide +kernel
theorem dX5_send_81 : decode cX5_send 81 = .ok (.iload 8, 2) := by decide +kernel
theorem dX5_send_83 : decode cX5_send 83 = .ok (.invokestatic 158, 3) := by decide +kernel
theorem dX5_send_86 : decode cX5_send 86 = .ok (.ifCond .eq 12, 3) := by decide +kernel
theorem dX5_send_89 : decode cX5_send 89 = .ok (.iload 9, 2) := by decide +kernel
theorem dX5_send_91 : decode cX5_send 91 = .ok (.ifCond .eq 7, 3) := by decide +kernel
theorem dX5_send_94 : decode cX5_send 94 = .ok (.iconst 1, 1) := by decide +kernel
theorem dX5_send_95 : decode cX5_send 95 = .ok (.goto 4, 3) := by decide +kernel
theorem dX5_send_98 : decode cX5_send 98 = .ok (.iconst 0, 1) := by decide +kernel
theorem dX5_send_99 : decode cX5_send 99 = .ok (.iadd, 1) := by decide +kernel
theorem dX5_send_100 : decode cX5_send 100 = .ok (.istore 6, 2) := by decide +kernel
theorem dX5_send_102 : decode cX5_send 102 = .ok (.iload 7, 2) := by decide +kernel
theorem dX5_send_104 : decode cX5_send 104 = .ok (.iload_n 2, 1) := by decide +kernel
theorem dX5_send_105 : decode cX5_send 105 = .ok (.iload 8, 2) := by decide +kernel
theorem dX5_send_107 : decode cX5_send 107 = .ok (.invokestatic 158, 3) := by decide +kernel
theorem dX5_send_110 : decode cX5_send 110 = .ok (.ifCond .eq 12, 3) := by decide +kernel
theorem dX5_send_113 : decode cX5_send 113 = .ok (.iload 9, 2) := by decide +kernel
theorem dX5_send_115 : decode cX5_send 115 = .ok (.ifCond .ne 7, 3) := by decide +kernel
theorem dX5_send_118 : decode cX5_send 118 = .ok (.iconst 1, 1) := by decide +kernel
theorem dX5_send_119 : decode cX5_send 119 = .ok (.goto 4, 3) := by decide +kernel
theorem dX5_send_122 : decode cX5_send 122 = .ok (.iconst 0, 1) := by decide +kernel
theorem dX5_send_123 : decode cX5_send 123 = .ok (.iadd, 1) := by decide +kernel
theorem dX5_send_124 : decode cX5_send 124 = .ok (.istore 7, 2) := by decide +kernel
theorem dX5_send_126 : decode cX5_send 126 = .ok (.iinc 8 1, 3) := by decide +kernel
theorem dX5_send_129 : decode cX5_send 129 = .ok (.goto (-81), 3) := by decide +kernel
theorem dX5_send_132 : decode cX5_send 132 = .ok (.iload 6, 2) := by decide +kernel
theorem dX5_send_134 : decode cX5_send 134 = .ok (.iload 7, 2) := by decide +kernel
theorem dX5_send_136 : decode cX5_send 136 = .ok (.if_icmp .le 8, 3) := by decide +kernel
theorem dX5_send_139 : decode cX5_send 139 = .ok (.iload 6, 2) := by decide +kernel
theorem dX5_send_141 : decode cX5_send 141 = .ok (.goto 5, 3) := by decide +kernel
theorem dX5_send_144 : decode cX5_send 144 = .ok (.iload 7, 2) := by decide +kernel
theorem dX5_send_146 : decode cX5_send 146 = .ok (.istore 8, 2) := by decide +kernel
theorem dX5_send_148 : decode cX5_send 148 = .ok (.iload 8, 2) := by decide +kernel
theorem dX5_send_150 : decode cX5_send 150 = .ok (.iload 4, 2) := by decide +kernel
theorem dX5_send_152 : decode cX5_send 152 = .ok (.if_icmp .ge 8, 3) := by decide +kernel
theorem dX5_send_155 : decode cX5_send 155 = .ok (.iload 5, 2) := by decide +kernel
theorem dX5_send_157 : decode cX5_send 157 = .ok (.goto 4, 3) := by decide +kernel
theorem dX5_send_160 : decode cX5_send 160 = .ok (.iload_n 3, 1) := by decide +kernel
theorem dX5_send_161 : decode cX5_send 161 = .ok (.istore_n 3, 1) := by decide +kernel
theorem dX5_send_162 : decode cX5_send 162 = .ok (.iload 8, 2) := by decide +kernel
theorem dX5_send_164 : decode cX5_send 164 = .ok (.iload 4, 2) := by decide +kernel
theorem dX5_send_166 : decode cX5_send 166 = .ok (.if_icmp .ge 8, 3) := by decide +kernel
theorem dX5_send_169 : decode cX5_send 169 = .ok (.iload 8, 2) := by decide +kernel
theorem dX5_send_171 : decode cX5_send 171 = .ok (.goto 5, 3) := by decide +kernel
theorem dX5_send_174 : decode cX5_send 174 = .ok (.iload 4, 2) := by decide +kernel
theorem dX5_send_176 : decode cX5_send 176 = .ok (.istore 4, 2) := by decide +kernel
theorem dX5_send_178 : decode cX5_send 178 = .ok (.iinc 5 1, 3) := by decide +kernel
theorem dX5_send_181 : decode cX5_send 181 = .ok (.goto (-153), 3) := by decide +kernel
theorem dX5_send_184 : decode cX5_send 184 = .ok (.iload_n 3, 1) := by decide +kernel
theorem dX5_send_185 : decode cX5_send 185 = .ok (.ireturn, 1) := by decide +kernel
theorem dX5_gets_0 : decode cX5_gets 0 = .ok (.aload_n 0, 1) := by decide +kernel
theorem dX5_gets_1 : decode cX5_gets 1 = .ok (.getfield 84, 3) := by decide +kernel
theorem dX5_gets_4 : decode cX5_gets 4 = .ok (.iload_n 2, 1) := by decide +kernel
theorem dX5_gets_5 : decode cX5_gets 5 = .ok (.bipush 7, 2) := by decide +kernel
theorem dX5_gets_7 : decode cX5_gets 7 = .ok (.if_icmp .ge 9, 3) := by decide +kernel
theorem dX5_gets_10 : decode cX5_gets 10 = .ok (.iconst 1, 1) := by decide +kernel
theorem dX5_gets_11 : decode cX5_gets 11 = .ok (.iload_n 2, 1) := by decide +kernel
theorem dX5_gets_12 : decode cX5_gets 12 = .ok (.ishl, 1) := by decide +kernel
theorem dX5_gets_13 : decode cX5_gets 13 = .ok (.goto 4, 3) := by decide +kernel
theorem dX5_gets_16 : decode cX5_gets 16 = .ok (.iconst 0, 1) := by decide +kernel
theorem dX5_gets_17 : decode cX5_gets 17 = .ok (.ior, 1) := by decide +kernel
theorem dX5_gets_18 : decode cX5_gets 18 = .ok (.iload_n 3, 1) := by decide +kernel
theorem dX5_gets_19 : decode cX5_gets 19 = .ok (.bipush 7, 2) := by decide +kernel
theorem dX5_gets_21 : decode cX5_gets 21 = .ok (.if_icmp .ge 9, 3) := by decide +kernel
theorem dX5_gets_24 : decode cX5_gets 24 = .ok (.iconst 1, 1) := by decide +kernel
theorem dX5_gets_25 : decode cX5_gets 25 = .ok (.iload_n 3, 1) := by decide +kernel
theorem dX5_gets_26 : decode cX5_gets 26 = .ok (.ishl, 1) := by decide +kernel
theorem dX5_gets_27 : decode cX5_gets 27 = .ok (.goto 4, 3) := by decide +kernel
theorem dX5_gets_30 : decode cX5_gets 30 = .ok (.iconst 0, 1) := by decide +kernel
theorem dX5_gets_31 : decode cX5_gets 31 = .ok (.ior, 1) := by decide +kernel
theorem dX5_gets_32 : decode cX5_gets 32 = .ok (.istore 4, 2) := by decide +kernel
theorem dX5_gets_34 : decode cX5_gets 34 = .ok (.aload_n 0, 1) := by decide +kernel
theorem dX5_gets_35 : decode cX5_gets 35 = .ok (.iload_n 1, 1) := by decide +kernel
theorem dX5_gets_36 : decode cX5_gets 36 = .ok (.aload_n 0, 1) := by decide +kernel
theorem dX5_gets_37 : decode cX5_gets 37 = .ok (.aload_n 0, 1) := by decide +kernel
theorem dX5_gets_38 : decode cX5_gets 38 = .ok (.getfield 81, 3) := by decide +kernel
theorem dX5_gets_41 : decode cX5_gets 41 = .ok (.invokevirtual 192, 3) := by decide +kernel
theorem dX5_gets_44 : decode cX5_gets 44 = .ok (.iload 4, 2) := by decide +kernel
theorem dX5_gets_46 : decode cX5_gets 46 = .ok (.invokevirtual 195, 3) := by decide +kernel
theorem dX5_gets_49 : decode cX5_gets 49 = .ok (.ineg, 1) := by decide +kernel
theorem dX5_gets_50 : decode cX5_gets 50 = .ok (.iload_n 2, 1) := by decide +kernel
theorem dX5_gets_51 : decode cX5_gets 51 = .ok (.bipush 7, 2) := by decide +kernel
theorem dX5_gets_53 : decode cX5_gets 53 = .ok (.if_icmp .ge 7, 3) := by decide +kernel
theorem dX5_gets_56 : decode cX5_gets 56 = .ok (.iconst 1, 1) := by decide +kernel
theorem dX5_gets_57 : decode cX5_gets 57 = .ok (.goto 4, 3) := by decide +kernel
theorem dX5_gets_60 : decode cX5_gets 60 = .ok (.iconst 0, 1) := by decide +kernel
theorem dX5_gets_61 : decode cX5_gets 61 = .ok (.isub, 1) := by decide +kernel
theorem dX5_gets_62 : decode cX5_gets 62 = .ok (.ireturn, 1) := by decide +kernel
theorem dX5_isChoice_0 : decode cX5_isChoice 0 = .ok (.iload_n 1, 1) := by decide +kernel
theorem dX5_isChoice_1 : decode cX5_isChoice 1 = .ok (.bipush 7, 2) := by decide +kernel
theorem dX5_isChoice_3 : decode cX5_isChoice 3 = .ok (.if_icmp .eq 22, 3) := by decide +kernel
theorem dX5_isChoice_6 : decode cX5_isChoice 6 = .ok (.iload_n 1, 1) := by decide +kernel
theorem dX5_isChoice_7 : decode cX5_isChoice 7 = .ok (.aload_n 0, 1) := by decide +kernel
theorem dX5_isChoice_8 : decode cX5_isChoice 8 = .ok (.getfield 78, 3) := by decide +kernel
theorem dX5_isChoice_11 : decode cX5_isChoice 11 = .ok (.if_icmp .ge 18, 3) := by decide +kernel
theorem dX5_isChoice_14 : decode cX5_isChoice 14 = .ok (.aload_n 0, 1) := by decide +kernel
theorem dX5_isChoice_15 : decode cX5_isChoice 15 = .ok (.getfield 84, 3) := by decide +kernel
theorem dX5_isChoice_18 : decode cX5_isChoice 18 = .ok (.iload_n 1, 1) := by decide +kernel
theorem dX5_isChoice_19 : decode cX5_isChoice 19 = .ok (.invokestatic 158, 3) := by decide +kernel
theorem dX5_isChoice_22 : decode cX5_isChoice 22 = .ok (.ifCond .ne 7, 3) := by decide +kernel
theorem dX5_isChoice_25 : decode cX5_isChoice 25 = .ok (.iconst 1, 1) := by decide +kernel
theorem dX5_isChoice_26 : decode cX5_isChoice 26 = .ok (.goto 4, 3) := by decide +kernel
theorem dX5_isChoice_29 : decode cX5_isChoice 29 = .ok (.iconst 0, 1) := by decide +kernel
theorem dX5_isChoice_30 : decode cX5_isChoice 30 = .ok (.ireturn, 1) := by decide +kernel
theorem dX5_rests_0 : decode cX5_rests 0 = .ok (.iconst 1, 1) := by decide +kernel
theorem dX5_rests_1 : decode cX5_rests 1 = .ok (.istore 5, 2) := by decide +kernel
theorem dX5_rests_3 : decode cX5_rests 3 = .ok (.iconst 0, 1) := by decide +kernel
theorem dX5_rests_4 : decode cX5_rests 4 = .ok (.istore 6, 2) := by decide +kernel
theorem dX5_rests_6 : decode cX5_rests 6 = .ok (.iload 6, 2) := by decide +kernel
theorem dX5_rests_8 : decode cX5_rests 8 = .ok (.bipush 7, 2) := by decide +kernel
theorem dX5_rests_10 : decode cX5_rests 10 = .ok (.if_icmp .gt 69, 3) := by decide +kernel
theorem dX5_rests_13 : decode cX5_rests 13 = .ok (.iload 5, 2) := by decide +kernel
theorem dX5_rests_15 : decode cX5_rests 15 = .ok (.ifCond .eq 55, 3) := by decide +kernel
theorem dX5_rests_18 : decode cX5_rests 18 = .ok (.aload_n 0, 1) := by decide +kernel
theorem dX5_rests_19 : decode cX5_rests 19 = .ok (.iload 6, 2) := by decide +kernel
theorem dX5_rests_21 : decode cX5_rests 21 = .ok (.invokevirtual 243, 3) := by decide +kernel
theorem dX5_rests_24 : decode cX5_rests 24 = .ok (.ifCond .eq 42, 3) := by decide +kernel
theorem dX5_rests_27 : decode cX5_rests 27 = .ok (.aload_n 0, 1) := by decide +kernel
theorem dX5_rests_28 : decode cX5_rests 28 = .ok (.iload_n 1, 1) := by decide +kernel
theorem dX5_rests_29 : decode cX5_rests 29 = .ok (.iload_n 2, 1) := by decide +kernel
theorem dX5_rests_30 : decode cX5_rests 30 = .ok (.iload 4, 2) := by decide +kernel
theorem dX5_rests_32 : decode cX5_rests 32 = .ok (.invokevirtual 246, 3) := by decide +kernel
theorem dX5_rests_35 : decode cX5_rests 35 = .ok (.aload_n 0, 1) := by decide +kernel
theorem dX5_rests_36 : decode cX5_rests 36 = .ok (.iload_n 1, 1) := by decide +kernel
theorem dX5_rests_37 : decode cX5_rests 37 = .ok (.iload 6, 2) := by decide +kernel
theorem dX5_rests_39 : decode cX5_rests 39 = .ok (.iload 4, 2) := by decide +kernel
theorem dX5_rests_41 : decode cX5_rests 41 = .ok (.invokevirtual 246, 3) := by decide +kernel
theorem dX5_rests_44 : decode cX5_rests 44 = .ok (.if_icmp .lt 26, 3) := by decide +kernel
theorem dX5_rests_47 : decode cX5_rests 47 = .ok (.aload_n 0, 1) := by decide +kernel
theorem dX5_rests_48 : decode cX5_rests 48 = .ok (.iload_n 3, 1) := by decide +kernel
theorem dX5_rests_49 : decode cX5_rests 49 = .ok (.iload 4, 2) := by decide +kernel
theorem dX5_rests_51 : decode cX5_rests 51 = .ok (.iload_n 2, 1) := by decide +kernel
theorem dX5_rests_52 : decode cX5_rests 52 = .ok (.invokevirtual 246, 3) := by decide +kernel
theorem dX5_rests_55 : decode cX5_rests 55 = .ok (.aload_n 0, 1) := by decide +kernel
theorem dX5_rests_56 : decode cX5_rests 56 = .ok (.iload_n 3, 1) := by decide +kernel
theorem dX5_rests_57 : decode cX5_rests 57 = .ok (.iload 6, 2) := by decide +kernel
theorem dX5_rests_59 : decode cX5_rests 59 = .ok (.iload_n 2, 1) := by decide +kernel
theorem dX5_rests_60 : decode cX5_rests 60 = .ok (.invokevirtual 246, 3) := by decide +kernel
theorem dX5_rests_63 : decode cX5_rests 63 = .ok (.if_icmp .lt 7, 3) := by decide +kernel
theorem dX5_rests_66 : decode cX5_rests 66 = .ok (.iconst 1, 1) := by decide +kernel
theorem dX5_rests_67 : decode cX5_rests 67 = .ok (.goto 4, 3) := by decide +kernel
theorem dX5_rests_70 : decode cX5_rests 70 = .ok (.iconst 0, 1) := by decide +kernel
theorem dX5_rests_71 : decode cX5_rests 71 = .ok (.istore 5, 2) := by decide +kernel
theorem dX5_rests_73 : decode cX5_rests 73 = .ok (.iinc 6 1, 3) := by decide +kernel
theorem dX5_rests_76 : decode cX5_rests 76 = .ok (.goto (-70), 3) := by decide +kernel
theorem dX5_rests_79 : decode cX5_rests 79 = .ok (.iload 5, 2) := by decide +kernel
theorem dX5_rests_81 : decode cX5_rests 81 = .ok (.ireturn, 1) := by decide +kernel
theorem dX5_two_0 : decode cX5_two 0 = .ok (.aload_n 0, 1) := by decide +kernel
theorem dX5_two_1 : decode cX5_two 1 = .ok (.iload_n 1, 1) := by decide +kernel
theorem dX5_two_2 : decode cX5_two 2 = .ok (.invokevirtual 206, 3) := by decide +kernel
theorem dX5_two_5 : decode cX5_two 5 = .ok (.ifCond .eq 21, 3) := by decide +kernel
theorem dX5_two_8 : decode cX5_two 8 = .ok (.aload_n 0, 1) := by decide +kernel
theorem dX5_two_9 : decode cX5_two 9 = .ok (.iload_n 2, 1) := by decide +kernel
theorem dX5_two_10 : decode cX5_two 10 = .ok (.invokevirtual 206, 3) := by decide +kernel
theorem dX5_two_13 : decode cX5_two 13 = .ok (.ifCond .eq 13, 3) := by decide +kernel
theorem dX5_two_16 : decode cX5_two 16 = .ok (.iload_n 1, 1) := by decide +kernel
theorem dX5_two_17 : decode cX5_two 17 = .ok (.iload_n 2, 1) := by decide +kernel
theorem dX5_two_18 : decode cX5_two 18 = .ok (.if_icmp .eq 8, 3) := by decide +kernel
theorem dX5_two_21 : decode cX5_two 21 = .ok (.iload_n 3, 1) := by decide +kernel
theorem dX5_two_22 : decode cX5_two 22 = .ok (.iconst (-1), 1) := by decide +kernel
theorem dX5_two_23 : decode cX5_two 23 = .ok (.if_icmp .ge 8, 3) := by decide +kernel
theorem dX5_two_26 : decode cX5_two 26 = .ok (.aload_n 0, 1) := by decide +kernel
theorem dX5_two_27 : decode cX5_two 27 = .ok (.invokevirtual 249, 3) := by decide +kernel
theorem dX5_two_30 : decode cX5_two 30 = .ok (.ireturn, 1) := by decide +kernel
theorem dX5_two_31 : decode cX5_two 31 = .ok (.iconst 0, 1) := by decide +kernel
theorem dX5_two_32 : decode cX5_two 32 = .ok (.istore 4, 2) := by decide +kernel
theorem dX5_two_34 : decode cX5_two 34 = .ok (.bipush (-5), 2) := by decide +kernel
theorem dX5_two_36 : decode cX5_two 36 = .ok (.istore 5, 2) := by decide +kernel
theorem dX5_two_38 : decode cX5_two 38 = .ok (.iconst 0, 1) := by decide +kernel
theorem dX5_two_39 : decode cX5_two 39 = .ok (.istore 6, 2) := by decide +kernel
theorem dX5_two_41 : decode cX5_two 41 = .ok (.iload 6, 2) := by decide +kernel
theorem dX5_two_43 : decode cX5_two 43 = .ok (.bipush 7, 2) := by decide +kernel
theorem dX5_two_45 : decode cX5_two 45 = .ok (.if_icmp .gt 80, 3) := by decide +kernel
theorem dX5_two_48 : decode cX5_two 48 = .ok (.iconst 0, 1) := by decide +kernel
theorem dX5_two_49 : decode cX5_two 49 = .ok (.istore 7, 2) := by decide +kernel
theorem dX5_two_51 : decode cX5_two 51 = .ok (.iload 7, 2) := by decide +kernel
theorem dX5_two_53 : decode cX5_two 53 = .ok (.bipush 7, 2) := by decide +kernel
theorem dX5_two_55 : decode cX5_two 55 = .ok (.if_icmp .gt 64, 3) := by decide +kernel
theorem dX5_two_58 : decode cX5_two 58 = .ok (.aload_n 0, 1) := by decide +kernel
theorem dX5_two_59 : decode cX5_two 59 = .ok (.iload 6, 2) := by decide +kernel
theorem dX5_two_61 : decode cX5_two 61 = .ok (.invokevirtual 243, 3) := by decide +kernel
theorem dX5_two_64 : decode cX5_two 64 = .ok (.ifCond .eq 49, 3) := by decide +kernel
theorem dX5_two_67 : decode cX5_two 67 = .ok (.aload_n 0, 1) := by decide +kernel
theorem dX5_two_68 : decode cX5_two 68 = .ok (.iload 7, 2) := by decide +kernel
theorem dX5_two_70 : decode cX5_two 70 = .ok (.invokevirtual 243, 3) := by decide +kernel
theorem dX5_two_73 : decode cX5_two 73 = .ok (.ifCond .eq 40, 3) := by decide +kernel
theorem dX5_two_76 : decode cX5_two 76 = .ok (.aload_n 0, 1) := by decide +kernel
theorem dX5_two_77 : decode cX5_two 77 = .ok (.iload_n 1, 1) := by decide +kernel
theorem dX5_two_78 : decode cX5_two 78 = .ok (.iload 6, 2) := by decide +kernel
theorem dX5_two_80 : decode cX5_two 80 = .ok (.iload_n 2, 1) := by decide +kernel
theorem dX5_two_81 : decode cX5_two 81 = .ok (.iload 7, 2) := by decide +kernel
theorem dX5_two_83 : decode cX5_two 83 = .ok (.invokevirtual 252, 3) := by decide +kernel
theorem dX5_two_86 : decode cX5_two 86 = .ok (.ifCond .eq 27, 3) := by decide +kernel
theorem dX5_two_89 : decode cX5_two 89 = .ok (.iload 4, 2) := by decide +kernel
theorem dX5_two_91 : decode cX5_two 91 = .ok (.iload_n 3, 1) := by decide +kernel
theorem dX5_two_92 : decode cX5_two 92 = .ok (.if_icmp .ne 14, 3) := by decide +kernel
theorem dX5_two_95 : decode cX5_two 95 = .ok (.bipush 8, 2) := by decide +kernel
theorem dX5_two_97 : decode cX5_two 97 = .ok (.iload 6, 2) := by decide +kernel
theorem dX5_two_99 : decode cX5_two 99 = .ok (.imul, 1) := by decide +kernel
theorem dX5_two_100 : decode cX5_two 100 = .ok (.iload 7, 2) := by decide +kernel
theorem dX5_two_102 : decode cX5_two 102 = .ok (.iadd, 1) := by decide +kernel
theorem dX5_two_103 : decode cX5_two 103 = .ok (.goto 5, 3) := by decide +kernel
theorem dX5_two_106 : decode cX5_two 106 = .ok (.iload 5, 2) := by decide +kernel
theorem dX5_two_108 : decode cX5_two 108 = .ok (.istore 5, 2) := by decide +kernel
theorem dX5_two_110 : decode cX5_two 110 = .ok (.iinc 4 1, 3) := by decide +kernel
theorem dX5_two_113 : decode cX5_two 113 = .ok (.iinc 7 1, 3) := by decide +kernel
theorem dX5_two_116 : decode cX5_two 116 = .ok (.goto (-65), 3) := by decide +kernel
theorem dX5_two_119 : decode cX5_two 119 = .ok (.iinc 6 1, 3) := by decide +kernel
theorem dX5_two_122 : decode cX5_two 122 = .ok (.goto (-81), 3) := by decide +kernel
theorem dX5_two_125 : decode cX5_two 125 = .ok (.iload_n 3, 1) := by decide +kernel
theorem dX5_two_126 : decode cX5_two 126 = .ok (.iconst (-1), 1) := by decide +kernel
theorem dX5_two_127 : decode cX5_two 127 = .ok (.if_icmp .ne 8, 3) := by decide +kernel
theorem dX5_two_130 : decode cX5_two 130 = .ok (.iload 4, 2) := by decide +kernel
theorem dX5_two_132 : decode cX5_two 132 = .ok (.goto 5, 3) := by decide +kernel
theorem dX5_two_135 : decode cX5_two 135 = .ok (.iload 5, 2) := by decide +kernel
theorem dX5_two_137 : decode cX5_two 137 = .ok (.ireturn, 1) := by decide +kernel
theorem dX5_lay_0 : decode cX5_lay 0 = .ok (.lload_n 1, 1) := by decide +kernel
theorem dX5_lay_1 : decode cX5_lay 1 = .ok (.lstore 5, 2) := by decide +kernel
theorem dX5_lay_3 : decode cX5_lay 3 = .ok (.lload_n 3, 1) := by decide +kernel
theorem dX5_lay_4 : decode cX5_lay 4 = .ok (.lstore 7, 2) := by decide +kernel
theorem dX5_lay_6 : decode cX5_lay 6 = .ok (.lload 7, 2) := by decide +kernel
theorem dX5_lay_8 : decode cX5_lay 8 = .ok (.lconst 0, 1) := by decide +kernel
theorem dX5_lay_9 : decode cX5_lay 9 = .ok (.lcmp, 1) := by decide +kernel
theorem dX5_lay_10 : decode cX5_lay 10 = .ok (.ifCond .eq 21, 3) := by decide +kernel
theorem dX5_lay_13 : decode cX5_lay 13 = .ok (.lload 5, 2) := by decide +kernel
theorem dX5_lay_15 : decode cX5_lay 15 = .ok (.lload 7, 2) := by decide +kernel
theorem dX5_lay_17 : decode cX5_lay 17 = .ok (.lrem, 1) := by decide +kernel
theorem dX5_lay_18 : decode cX5_lay 18 = .ok (.lstore 9, 2) := by decide +kernel
theorem dX5_lay_20 : decode cX5_lay 20 = .ok (.lload 7, 2) := by decide +kernel
theorem dX5_lay_22 : decode cX5_lay 22 = .ok (.lstore 5, 2) := by decide +kernel
theorem dX5_lay_24 : decode cX5_lay 24 = .ok (.lload 9, 2) := by decide +kernel
theorem dX5_lay_26 : decode cX5_lay 26 = .ok (.lstore 7, 2) := by decide +kernel
theorem dX5_lay_28 : decode cX5_lay 28 = .ok (.goto (-22), 3) := by decide +kernel
theorem dX5_lay_31 : decode cX5_lay 31 = .ok (.aload_n 0, 1) := by decide +kernel
theorem dX5_lay_32 : decode cX5_lay 32 = .ok (.lload_n 1, 1) := by decide +kernel
theorem dX5_lay_33 : decode cX5_lay 33 = .ok (.lload 5, 2) := by decide +kernel
theorem dX5_lay_35 : decode cX5_lay 35 = .ok (.ldiv, 1) := by decide +kernel
theorem dX5_lay_36 : decode cX5_lay 36 = .ok (.putfield 256, 3) := by decide +kernel
theorem dX5_lay_39 : decode cX5_lay 39 = .ok (.aload_n 0, 1) := by decide +kernel
theorem dX5_lay_40 : decode cX5_lay 40 = .ok (.lload_n 3, 1) := by decide +kernel
theorem dX5_lay_41 : decode cX5_lay 41 = .ok (.lload 5, 2) := by decide +kernel
theorem dX5_lay_43 : decode cX5_lay 43 = .ok (.ldiv, 1) := by decide +kernel
theorem dX5_lay_44 : decode cX5_lay 44 = .ok (.putfield 61, 3) := by decide +kernel
theorem dX5_lay_47 : decode cX5_lay 47 = .ok (.return_, 1) := by decide +kernel
theorem dX5_strays_0 : decode cX5_strays 0 = .ok (.aload_n 0, 1) := by decide +kernel
theorem dX5_strays_1 : decode cX5_strays 1 = .ok (.iload_n 1, 1) := by decide +kernel
theorem dX5_strays_2 : decode cX5_strays 2 = .ok (.invokevirtual 206, 3) := by decide +kernel
theorem dX5_strays_5 : decode cX5_strays 5 = .ok (.ifCond .eq 13, 3) := by decide +kernel
theorem dX5_strays_8 : decode cX5_strays 8 = .ok (.iload_n 2, 1) := by decide +kernel
theorem dX5_strays_9 : decode cX5_strays 9 = .ok (.iconst 0, 1) := by decide +kernel
theorem dX5_strays_10 : decode cX5_strays 10 = .ok (.bipush 10, 2) := by decide +kernel
theorem dX5_strays_12 : decode cX5_strays 12 = .ok (.invokestatic 93, 3) := by decide +kernel
theorem dX5_strays_15 : decode cX5_strays 15 = .ok (.ifCond .ne 8, 3) := by decide +kernel
theorem dX5_strays_18 : decode cX5_strays 18 = .ok (.aload_n 0, 1) := by decide +kernel
theorem dX5_strays_19 : decode cX5_strays 19 = .ok (.invokevirtual 97, 3) := by decide +kernel
theorem dX5_strays_22 : decode cX5_strays 22 = .ok (.ireturn, 1) := by decide +kernel
theorem dX5_strays_23 : decode cX5_strays 23 = .ok (.aload_n 0, 1) := by decide +kernel
theorem dX5_strays_24 : decode cX5_strays 24 = .ok (.aload_n 0, 1) := by decide +kernel
theorem dX5_strays_25 : decode cX5_strays 25 = .ok (.iload_n 1, 1) := by decide +kernel
theorem dX5_strays_26 : decode cX5_strays 26 = .ok (.aload_n 0, 1) := by decide +kernel
theorem dX5_strays_27 : decode cX5_strays 27 = .ok (.aload_n 0, 1) := by decide +kernel
theorem dX5_strays_28 : decode cX5_strays 28 = .ok (.getfield 81, 3) := by decide +kernel
theorem dX5_strays_31 : decode cX5_strays 31 = .ok (.invokevirtual 192, 3) := by decide +kernel
theorem dX5_strays_34 : decode cX5_strays 34 = .ok (.aload_n 0, 1) := by decide +kernel
theorem dX5_strays_35 : decode cX5_strays 35 = .ok (.getfield 84, 3) := by decide +kernel
theorem dX5_strays_38 : decode cX5_strays 38 = .ok (.invokevirtual 195, 3) := by decide +kernel
theorem dX5_strays_41 : decode cX5_strays 41 = .ok (.bipush 10, 2) := by decide +kernel
theorem dX5_strays_43 : decode cX5_strays 43 = .ok (.iload_n 2, 1) := by decide +kernel
theorem dX5_strays_44 : decode cX5_strays 44 = .ok (.isub, 1) := by decide +kernel
theorem dX5_strays_45 : decode cX5_strays 45 = .ok (.imul, 1) := by decide +kernel
theorem dX5_strays_46 : decode cX5_strays 46 = .ok (.i2l, 1) := by decide +kernel
theorem dX5_strays_47 : decode cX5_strays 47 = .ok (.ldc2_w 259, 3) := by decide +kernel
theorem dX5_strays_50 : decode cX5_strays 50 = .ok (.invokevirtual 261, 3) := by decide +kernel
theorem dX5_strays_53 : decode cX5_strays 53 = .ok (.iconst 1, 1) := by decide +kernel
theorem dX5_strays_54 : decode cX5_strays 54 = .ok (.ireturn, 1) := by decide +kernel
theorem dX5_villages_0 : decode cX5_villages 0 = .ok (.iload_n 1, 1) := by decide +kernel
theorem dX5_villages_1 : decode cX5_villages 1 = .ok (.iconst 0, 1) := by decide +kernel
theorem dX5_villages_2 : decode cX5_villages 2 = .ok (.ldc_w 265, 3) := by decide +kernel
theorem dX5_villages_5 : decode cX5_villages 5 = .ok (.invokestatic 93, 3) := by decide +kernel
theorem dX5_villages_8 : decode cX5_villages 8 = .ok (.ifCond .eq 13, 3) := by decide +kernel
theorem dX5_villages_11 : decode cX5_villages 11 = .ok (.iload_n 2, 1) := by decide +kernel
theorem dX5_villages_12 : decode cX5_villages 12 = .ok (.iconst 0, 1) := by decide +kernel
theorem dX5_villages_13 : decode cX5_villages 13 = .ok (.bipush 60, 2) := by decide +kernel
theorem dX5_villages_15 : decode cX5_villages 15 = .ok (.invokestatic 93, 3) := by decide +kernel
theorem dX5_villages_18 : decode cX5_villages 18 = .ok (.ifCond .ne 8, 3) := by decide +kernel
theorem dX5_villages_21 : decode cX5_villages 21 = .ok (.aload_n 0, 1) := by decide +kernel
theorem dX5_villages_22 : decode cX5_villages 22 = .ok (.invokevirtual 97, 3) := by decide +kernel
theorem dX5_villages_25 : decode cX5_villages 25 = .ok (.ireturn, 1) := by decide +kernel
theorem dX5_villages_26 : decode cX5_villages 26 = .ok (.aload_n 0, 1) := by decide +kernel
theorem dX5_villages_27 : decode cX5_villages 27 = .ok (.invokevirtual 224, 3) := by decide +kernel
theorem dX5_villages_30 : decode cX5_villages 30 = .ok (.iload_n 1, 1) := by decide +kernel
theorem dX5_villages_31 : decode cX5_villages 31 = .ok (.i2l, 1) := by decide +kernel
theorem dX5_villages_32 : decode cX5_villages 32 = .ok (.lstore_n 3, 1) := by decide +kernel
theorem dX5_villages_33 : decode cX5_villages 33 = .ok (.iconst 0, 1) := by decide +kernel
theorem dX5_villages_34 : decode cX5_villages 34 = .ok (.istore 5, 2) := by decide +kernel
theorem dX5_villages_36 : decode cX5_villages 36 = .ok (.iload 5, 2) := by decide +kernel
theorem dX5_villages_38 : decode cX5_villages 38 = .ok (.iload_n 2, 1) := by decide +kernel
theorem dX5_villages_39 : decode cX5_villages 39 = .ok (.if_icmp .ge 46, 3) := by decide +kernel
theorem dX5_villages_42 : decode cX5_villages 42 = .ok (.lload_n 3, 1) := by decide +kernel
theorem dX5_villages_43 : decode cX5_villages 43 = .ok (.ldc2_w 266, 3) := by decide +kernel
theorem dX5_villages_46 : decode cX5_villages 46 = .ok (.lmul, 1) := by decide +kernel
theorem dX5_villages_47 : decode cX5_villages 47 = .ok (.ldc2_w 268, 3) := by decide +kernel
theorem dX5_villages_50 : decode cX5_villages 50 = .ok (.ladd, 1) := by decide +kernel
theorem dX5_villages_51 : decode cX5_villages 51 = .ok (.ldc2_w 270, 3) := by decide +kernel
theorem dX5_villages_54 : decode cX5_villages 54 = .ok (.lrem, 1) := by decide +kernel
theorem dX5_villages_55 : decode cX5_villages 55 = .ok (.lstore_n 3, 1) := by decide +kernel
theorem dX5_villages_56 : decode cX5_villages 56 = .ok (.aload_n 0, 1) := by decide +kernel
theorem dX5_villages_57 : decode cX5_villages 57 = .ok (.dup, 1) := by decide +kernel
theorem dX5_villages_58 : decode cX5_villages 58 = .ok (.getfield 84, 3) := by decide +kernel
theorem dX5_villages_61 : decode cX5_villages 61 = .ok (.lload_n 3, 1) := by decide +kernel
theorem dX5_villages_62 : decode cX5_villages 62 = .ok (.ldc2_w 272, 3) := by decide +kernel
theorem dX5_villages_65 : decode cX5_villages 65 = .ok (.ldiv, 1) := by decide +kernel
theorem dX5_villages_66 : decode cX5_villages 66 = .ok (.ldc2_w 274, 3) := by decide +kernel
theorem dX5_villages_69 : decode cX5_villages 69 = .ok (.lrem, 1) := by decide +kernel
theorem dX5_villages_70 : decode cX5_villages 70 = .ok (.l2i, 1) := by decide +kernel
theorem dX5_villages_71 : decode cX5_villages 71 = .ok (.ior, 1) := by decide +kernel
theorem dX5_villages_72 : decode cX5_villages 72 = .ok (.putfield 84, 3) := by decide +kernel
theorem dX5_villages_75 : decode cX5_villages 75 = .ok (.aload_n 0, 1) := by decide +kernel
theorem dX5_villages_76 : decode cX5_villages 76 = .ok (.invokevirtual 218, 3) := by decide +kernel
theorem dX5_villages_79 : decode cX5_villages 79 = .ok (.iinc 5 1, 3) := by decide +kernel
theorem dX5_villages_82 : decode cX5_villages 82 = .ok (.goto (-46), 3) := by decide +kernel
theorem dX5_villages_85 : decode cX5_villages 85 = .ok (.aload_n 0, 1) := by decide +kernel
theorem dX5_villages_86 : decode cX5_villages 86 = .ok (.invokevirtual 221, 3) := by decide +kernel
theorem dX5_villages_89 : decode cX5_villages 89 = .ok (.istore 5, 2) := by decide +kernel
theorem dX5_villages_91 : decode cX5_villages 91 = .ok (.aload_n 0, 1) := by decide +kernel
theorem dX5_villages_92 : decode cX5_villages 92 = .ok (.invokevirtual 227, 3) := by decide +kernel
theorem dX5_villages_95 : decode cX5_villages 95 = .ok (.iload 5, 2) := by decide +kernel
theorem dX5_villages_97 : decode cX5_villages 97 = .ok (.ireturn, 1) := by decide +kernel
theorem dX5_part_0 : decode cX5_part 0 = .ok (.iload_n 1, 1) := by decide +kernel
theorem dX5_part_1 : decode cX5_part 1 = .ok (.ifCond .ne 10, 3) := by decide +kernel
theorem dX5_part_4 : decode cX5_part 4 = .ok (.aload_n 0, 1) := by decide +kernel
theorem dX5_part_5 : decode cX5_part 5 = .ok (.getfield 256, 3) := by decide +kernel
theorem dX5_part_8 : decode cX5_part 8 = .ok (.goto 20, 3) := by decide +kernel
theorem dX5_part_11 : decode cX5_part 11 = .ok (.iload_n 1, 1) := by decide +kernel
theorem dX5_part_12 : decode cX5_part 12 = .ok (.iconst 1, 1) := by decide +kernel
theorem dX5_part_13 : decode cX5_part 13 = .ok (.if_icmp .ne 10, 3) := by decide +kernel
theorem dX5_part_16 : decode cX5_part 16 = .ok (.aload_n 0, 1) := by decide +kernel
theorem dX5_part_17 : decode cX5_part 17 = .ok (.getfield 61, 3) := by decide +kernel
theorem dX5_part_20 : decode cX5_part 20 = .ok (.goto 8, 3) := by decide +kernel
theorem dX5_part_23 : decode cX5_part 23 = .ok (.aload_n 0, 1) := by decide +kernel
theorem dX5_part_24 : decode cX5_part 24 = .ok (.invokevirtual 97, 3) := by decide +kernel
theorem dX5_part_27 : decode cX5_part 27 = .ok (.i2l, 1) := by decide +kernel
theorem dX5_part_28 : decode cX5_part 28 = .ok (.lreturn, 1) := by decide +kernel
theorem dX5_image_0 : decode cX5_image 0 = .ok (.iload_n 1, 1) := by decide +kernel
theorem dX5_image_1 : decode cX5_image 1 = .ok (.iconst 0, 1) := by decide +kernel
theorem dX5_image_2 : decode cX5_image 2 = .ok (.iconst 1, 1) := by decide +kernel
theorem dX5_image_3 : decode cX5_image 3 = .ok (.invokestatic 93, 3) := by decide +kernel
theorem dX5_image_6 : decode cX5_image 6 = .ok (.ifCond .ne 8, 3) := by decide +kernel
theorem dX5_image_9 : decode cX5_image 9 = .ok (.aload_n 0, 1) := by decide +kernel
theorem dX5_image_10 : decode cX5_image 10 = .ok (.invokevirtual 97, 3) := by decide +kernel
theorem dX5_image_13 : decode cX5_image 13 = .ok (.ireturn, 1) := by decide +kernel
theorem dX5_image_14 : decode cX5_image 14 = .ok (.sipush 150, 3) := by decide +kernel
theorem dX5_image_17 : decode cX5_image 17 = .ok (.iload_n 1, 1) := by decide +kernel
theorem dX5_image_18 : decode cX5_image 18 = .ok (.imul, 1) := by decide +kernel
theorem dX5_image_19 : decode cX5_image 19 = .ok (.istore_n 2, 1) := by decide +kernel
theorem dX5_image_20 : decode cX5_image 20 = .ok (.aload_n 0, 1) := by decide +kernel
theorem dX5_image_21 : decode cX5_image 21 = .ok (.getfield 68, 3) := by decide +kernel
theorem dX5_image_24 : decode cX5_image 24 = .ok (.iload_n 1, 1) := by decide +kernel
theorem dX5_image_25 : decode cX5_image 25 = .ok (.iconst 1, 1) := by decide +kernel
theorem dX5_image_26 : decode cX5_image 26 = .ok (.iastore, 1) := by decide +kernel
theorem dX5_image_27 : decode cX5_image 27 = .ok (.aload_n 0, 1) := by decide +kernel
theorem dX5_image_28 : decode cX5_image 28 = .ok (.getfield 65, 3) := by decide +kernel
theorem dX5_image_31 : decode cX5_image 31 = .ok (.iload_n 2, 1) := by decide +kernel
theorem dX5_image_32 : decode cX5_image 32 = .ok (.aload_n 0, 1) := by decide +kernel
theorem dX5_image_33 : decode cX5_image 33 = .ok (.getfield 74, 3) := by decide +kernel
theorem dX5_image_36 : decode cX5_image 36 = .ok (.iastore, 1) := by decide +kernel
theorem dX5_image_37 : decode cX5_image 37 = .ok (.aload_n 0, 1) := by decide +kernel
theorem dX5_image_38 : decode cX5_image 38 = .ok (.getfield 65, 3) := by decide +kernel
theorem dX5_image_41 : decode cX5_image 41 = .ok (.iload_n 2, 1) := by decide +kernel
theorem dX5_image_42 : decode cX5_image 42 = .ok (.iconst 1, 1) := by decide +kernel
theorem dX5_image_43 : decode cX5_image 43 = .ok (.iadd, 1) := by decide +kernel
theorem dX5_image_44 : decode cX5_image 44 = .ok (.aload_n 0, 1) := by decide +kernel
theorem dX5_image_45 : decode cX5_image 45 = .ok (.getfield 78, 3) := by decide +kernel
theorem dX5_image_48 : decode cX5_image 48 = .ok (.iastore, 1) := by decide +kernel
theorem dX5_image_49 : decode cX5_image 49 = .ok (.aload_n 0, 1) := by decide +kernel
theorem dX5_image_50 : decode cX5_image 50 = .ok (.getfield 65, 3) := by decide +kernel
theorem dX5_image_53 : decode cX5_image 53 = .ok (.iload_n 2, 1) := by decide +kernel
theorem dX5_image_54 : decode cX5_image 54 = .ok (.iconst 2, 1) := by decide +kernel
theorem dX5_image_55 : decode cX5_image 55 = .ok (.iadd, 1) := by decide +kernel
theorem dX5_image_56 : decode cX5_image 56 = .ok (.aload_n 0, 1) := by decide +kernel
theorem dX5_image_57 : decode cX5_image 57 = .ok (.getfield 87, 3) := by decide +kernel
theorem dX5_image_60 : decode cX5_image 60 = .ok (.iastore, 1) := by decide +kernel
theorem dX5_image_61 : decode cX5_image 61 = .ok (.aload_n 0, 1) := by decide +kernel
theorem dX5_image_62 : decode cX5_image 62 = .ok (.getfield 65, 3) := by decide +kernel
theorem dX5_image_65 : decode cX5_image 65 = .ok (.iload_n 2, 1) := by decide +kernel
theorem dX5_image_66 : decode cX5_image 66 = .ok (.iconst 3, 1) := by decide +kernel
theorem dX5_image_67 : decode cX5_image 67 = .ok (.iadd, 1) := by decide +kernel
theorem dX5_image_68 : decode cX5_image 68 = .ok (.aload_n 0, 1) := by decide +kernel
theorem dX5_image_69 : decode cX5_image 69 = .ok (.getfield 90, 3) := by decide +kernel
theorem dX5_image_72 : decode cX5_image 72 = .ok (.iastore, 1) := by decide +kernel
theorem dX5_image_73 : decode cX5_image 73 = .ok (.aload_n 0, 1) := by decide +kernel
theorem dX5_image_74 : decode cX5_image 74 = .ok (.aload_n 0, 1) := by decide +kernel
theorem dX5_image_75 : decode cX5_image 75 = .ok (.getfield 65, 3) := by decide +kernel
theorem dX5_image_78 : decode cX5_image 78 = .ok (.iload_n 2, 1) := by decide +kernel
theorem dX5_image_79 : decode cX5_image 79 = .ok (.iconst 4, 1) := by decide +kernel
theorem dX5_image_80 : decode cX5_image 80 = .ok (.iadd, 1) := by decide +kernel
theorem dX5_image_81 : decode cX5_image 81 = .ok (.invokevirtual 199, 3) := by decide +kernel
theorem dX5_image_84 : decode cX5_image 84 = .ok (.iconst 0, 1) := by decide +kernel
theorem dX5_image_85 : decode cX5_image 85 = .ok (.istore_n 3, 1) := by decide +kernel
theorem dX5_image_86 : decode cX5_image 86 = .ok (.iload_n 3, 1) := by decide +kernel
theorem dX5_image_87 : decode cX5_image 87 = .ok (.iconst 4, 1) := by decide +kernel
theorem dX5_image_88 : decode cX5_image 88 = .ok (.if_icmp .ge 26, 3) := by decide +kernel
theorem dX5_image_91 : decode cX5_image 91 = .ok (.aload_n 0, 1) := by decide +kernel
theorem dX5_image_92 : decode cX5_image 92 = .ok (.getfield 65, 3) := by decide +kernel
theorem dX5_image_95 : decode cX5_image 95 = .ok (.iload_n 2, 1) := by decide +kernel
theorem dX5_image_96 : decode cX5_image 96 = .ok (.bipush 14, 2) := by decide +kernel
theorem dX5_image_98 : decode cX5_image 98 = .ok (.iadd, 1) := by decide +kernel
theorem dX5_image_99 : decode cX5_image 99 = .ok (.iload_n 3, 1) := by decide +kernel
theorem dX5_image_100 : decode cX5_image 100 = .ok (.iadd, 1) := by decide +kernel
theorem dX5_image_101 : decode cX5_image 101 = .ok (.aload_n 0, 1) := by decide +kernel
theorem dX5_image_102 : decode cX5_image 102 = .ok (.getfield 13, 3) := by decide +kernel
theorem dX5_image_105 : decode cX5_image 105 = .ok (.iload_n 3, 1) := by decide +kernel
theorem dX5_image_106 : decode cX5_image 106 = .ok (.iaload, 1) := by decide +kernel
theorem dX5_image_107 : decode cX5_image 107 = .ok (.iastore, 1) := by decide +kernel
theorem dX5_image_108 : decode cX5_image 108 = .ok (.iinc 3 1, 3) := by decide +kernel
theorem dX5_image_111 : decode cX5_image 111 = .ok (.goto (-25), 3) := by decide +kernel
theorem dX5_image_114 : decode cX5_image 114 = .ok (.iconst 0, 1) := by decide +kernel
theorem dX5_image_115 : decode cX5_image 115 = .ok (.istore_n 3, 1) := by decide +kernel
theorem dX5_image_116 : decode cX5_image 116 = .ok (.iload_n 3, 1) := by decide +kernel
theorem dX5_image_117 : decode cX5_image 117 = .ok (.bipush 7, 2) := by decide +kernel
theorem dX5_image_119 : decode cX5_image 119 = .ok (.if_icmp .ge 77, 3) := by decide +kernel
theorem dX5_image_122 : decode cX5_image 122 = .ok (.aload_n 0, 1) := by decide +kernel
theorem dX5_image_123 : decode cX5_image 123 = .ok (.getfield 65, 3) := by decide +kernel
theorem dX5_image_126 : decode cX5_image 126 = .ok (.iload_n 2, 1) := by decide +kernel
theorem dX5_image_127 : decode cX5_image 127 = .ok (.bipush 18, 2) := by decide +kernel
theorem dX5_image_129 : decode cX5_image 129 = .ok (.iadd, 1) := by decide +kernel
theorem dX5_image_130 : decode cX5_image 130 = .ok (.iload_n 3, 1) := by decide +kernel
theorem dX5_image_131 : decode cX5_image 131 = .ok (.iadd, 1) := by decide +kernel
theorem dX5_image_132 : decode cX5_image 132 = .ok (.aload_n 0, 1) := by decide +kernel
theorem dX5_image_133 : decode cX5_image 133 = .ok (.getfield 22, 3) := by decide +kernel
theorem dX5_image_136 : decode cX5_image 136 = .ok (.iload_n 3, 1) := by decide +kernel
theorem dX5_image_137 : decode cX5_image 137 = .ok (.iaload, 1) := by decide +kernel
theorem dX5_image_138 : decode cX5_image 138 = .ok (.iastore, 1) := by decide +kernel
theorem dX5_image_139 : decode cX5_image 139 = .ok (.aload_n 0, 1) := by decide +kernel
theorem dX5_image_140 : decode cX5_image 140 = .ok (.getfield 65, 3) := by decide +kernel
theorem dX5_image_143 : decode cX5_image 143 = .ok (.iload_n 2, 1) := by decide +kernel
theorem dX5_image_144 : decode cX5_image 144 = .ok (.bipush 25, 2) := by decide +kernel
theorem dX5_image_146 : decode cX5_image 146 = .ok (.iadd, 1) := by decide +kernel
theorem dX5_image_147 : decode cX5_image 147 = .ok (.iload_n 3, 1) := by decide +kernel
theorem dX5_image_148 : decode cX5_image 148 = .ok (.iadd, 1) := by decide +kernel
theorem dX5_image_149 : decode cX5_image 149 = .ok (.aload_n 0, 1) := by decide +kernel
theorem dX5_image_150 : decode cX5_image 150 = .ok (.getfield 25, 3) := by decide +kernel
theorem dX5_image_153 : decode cX5_image 153 = .ok (.iload_n 3, 1) := by decide +kernel
theorem dX5_image_154 : decode cX5_image 154 = .ok (.iaload, 1) := by decide +kernel
theorem dX5_image_155 : decode cX5_image 155 = .ok (.iastore, 1) := by decide +kernel
theorem dX5_image_156 : decode cX5_image 156 = .ok (.aload_n 0, 1) := by decide +kernel
theorem dX5_image_157 : decode cX5_image 157 = .ok (.getfield 65, 3) := by decide +kernel
theorem dX5_image_160 : decode cX5_image 160 = .ok (.iload_n 2, 1) := by decide +kernel
theorem dX5_image_161 : decode cX5_image 161 = .ok (.bipush 32, 2) := by decide +kernel
theorem dX5_image_163 : decode cX5_image 163 = .ok (.iadd, 1) := by decide +kernel
theorem dX5_image_164 : decode cX5_image 164 = .ok (.iload_n 3, 1) := by decide +kernel
theorem dX5_image_165 : decode cX5_image 165 = .ok (.iadd, 1) := by decide +kernel
theorem dX5_image_166 : decode cX5_image 166 = .ok (.aload_n 0, 1) := by decide +kernel
theorem dX5_image_167 : decode cX5_image 167 = .ok (.getfield 28, 3) := by decide +kernel
theorem dX5_image_170 : decode cX5_image 170 = .ok (.iload_n 3, 1) := by decide +kernel
theorem dX5_image_171 : decode cX5_image 171 = .ok (.iaload, 1) := by decide +kernel
theorem dX5_image_172 : decode cX5_image 172 = .ok (.iastore, 1) := by decide +kernel
theorem dX5_image_173 : decode cX5_image 173 = .ok (.aload_n 0, 1) := by decide +kernel
theorem dX5_image_174 : decode cX5_image 174 = .ok (.getfield 65, 3) := by decide +kernel
theorem dX5_image_177 : decode cX5_image 177 = .ok (.iload_n 2, 1) := by decide +kernel
theorem dX5_image_178 : decode cX5_image 178 = .ok (.bipush 39, 2) := by decide +kernel
theorem dX5_image_180 : decode cX5_image 180 = .ok (.iadd, 1) := by decide +kernel
theorem dX5_image_181 : decode cX5_image 181 = .ok (.iload_n 3, 1) := by decide +kernel
theorem dX5_image_182 : decode cX5_image 182 = .ok (.iadd, 1) := by decide +kernel
theorem dX5_image_183 : decode cX5_image 183 = .ok (.aload_n 0, 1) := by decide +kernel
theorem dX5_image_184 : decode cX5_image 184 = .ok (.getfield 31, 3) := by decide +kernel
theorem dX5_image_187 : decode cX5_image 187 = .ok (.iload_n 3, 1) := by decide +kernel
theorem dX5_image_188 : decode cX5_image 188 = .ok (.iaload, 1) := by decide +kernel
theorem dX5_image_189 : decode cX5_image 189 = .ok (.iastore, 1) := by decide +kernel
theorem dX5_image_190 : decode cX5_image 190 = .ok (.iinc 3 1, 3) := by decide +kernel
theorem dX5_image_193 : decode cX5_image 193 = .ok (.goto (-77), 3) := by decide +kernel
theorem dX5_image_196 : decode cX5_image 196 = .ok (.iconst 0, 1) := by decide +kernel
theorem dX5_image_197 : decode cX5_image 197 = .ok (.istore_n 3, 1) := by decide +kernel
theorem dX5_image_198 : decode cX5_image 198 = .ok (.iload_n 3, 1) := by decide +kernel
theorem dX5_image_199 : decode cX5_image 199 = .ok (.bipush 6, 2) := by decide +kernel
theorem dX5_image_201 : decode cX5_image 201 = .ok (.if_icmp .ge 77, 3) := by decide +kernel
theorem dX5_image_204 : decode cX5_image 204 = .ok (.aload_n 0, 1) := by decide +kernel
theorem dX5_image_205 : decode cX5_image 205 = .ok (.getfield 65, 3) := by decide +kernel
theorem dX5_image_208 : decode cX5_image 208 = .ok (.iload_n 2, 1) := by decide +kernel
theorem dX5_image_209 : decode cX5_image 209 = .ok (.bipush 46, 2) := by decide +kernel
theorem dX5_image_211 : decode cX5_image 211 = .ok (.iadd, 1) := by decide +kernel
theorem dX5_image_212 : decode cX5_image 212 = .ok (.iload_n 3, 1) := by decide +kernel
theorem dX5_image_213 : decode cX5_image 213 = .ok (.iadd, 1) := by decide +kernel
theorem dX5_image_214 : decode cX5_image 214 = .ok (.aload_n 0, 1) := by decide +kernel
theorem dX5_image_215 : decode cX5_image 215 = .ok (.getfield 34, 3) := by decide +kernel
theorem dX5_image_218 : decode cX5_image 218 = .ok (.iload_n 3, 1) := by decide +kernel
theorem dX5_image_219 : decode cX5_image 219 = .ok (.iaload, 1) := by decide +kernel
theorem dX5_image_220 : decode cX5_image 220 = .ok (.iastore, 1) := by decide +kernel
theorem dX5_image_221 : decode cX5_image 221 = .ok (.aload_n 0, 1) := by decide +kernel
theorem dX5_image_222 : decode cX5_image 222 = .ok (.getfield 65, 3) := by decide +kernel
theorem dX5_image_225 : decode cX5_image 225 = .ok (.iload_n 2, 1) := by decide +kernel
theorem dX5_image_226 : decode cX5_image 226 = .ok (.bipush 52, 2) := by decide +kernel
theorem dX5_image_228 : decode cX5_image 228 = .ok (.iadd, 1) := by decide +kernel
theorem dX5_image_229 : decode cX5_image 229 = .ok (.iload_n 3, 1) := by decide +kernel
theorem dX5_image_230 : decode cX5_image 230 = .ok (.iadd, 1) := by decide +kernel
theorem dX5_image_231 : decode cX5_image 231 = .ok (.aload_n 0, 1) := by decide +kernel
theorem dX5_image_232 : decode cX5_image 232 = .ok (.getfield 37, 3) := by decide +kernel
theorem dX5_image_235 : decode cX5_image 235 = .ok (.iload_n 3, 1) := by decide +kernel
theorem dX5_image_236 : decode cX5_image 236 = .ok (.iaload, 1) := by decide +kernel
theorem dX5_image_237 : decode cX5_image 237 = .ok (.iastore, 1) := by decide +kernel
theorem dX5_image_238 : decode cX5_image 238 = .ok (.aload_n 0, 1) := by decide +kernel
theorem dX5_image_239 : decode cX5_image 239 = .ok (.getfield 65, 3) := by decide +kernel
theorem dX5_image_242 : decode cX5_image 242 = .ok (.iload_n 2, 1) := by decide +kernel
theorem dX5_image_243 : decode cX5_image 243 = .ok (.bipush 58, 2) := by decide +kernel
theorem dX5_image_245 : decode cX5_image 245 = .ok (.iadd, 1) := by decide +kernel
theorem dX5_image_246 : decode cX5_image 246 = .ok (.iload_n 3, 1) := by decide +kernel
theorem dX5_image_247 : decode cX5_image 247 = .ok (.iadd, 1) := by decide +kernel
theorem dX5_image_248 : decode cX5_image 248 = .ok (.aload_n 0, 1) := by decide +kernel
theorem dX5_image_249 : decode cX5_image 249 = .ok (.getfield 40, 3) := by decide +kernel
theorem dX5_image_252 : decode cX5_image 252 = .ok (.iload_n 3, 1) := by decide +kernel
theorem dX5_image_253 : decode cX5_image 253 = .ok (.iaload, 1) := by decide +kernel
theorem dX5_image_254 : decode cX5_image 254 = .ok (.iastore, 1) := by decide +kernel
theorem dX5_image_255 : decode cX5_image 255 = .ok (.aload_n 0, 1) := by decide +kernel
theorem dX5_image_256 : decode cX5_image 256 = .ok (.getfield 65, 3) := by decide +kernel
theorem dX5_image_259 : decode cX5_image 259 = .ok (.iload_n 2, 1) := by decide +kernel
theorem dX5_image_260 : decode cX5_image 260 = .ok (.bipush 64, 2) := by decide +kernel
theorem dX5_image_262 : decode cX5_image 262 = .ok (.iadd, 1) := by decide +kernel
theorem dX5_image_263 : decode cX5_image 263 = .ok (.iload_n 3, 1) := by decide +kernel
theorem dX5_image_264 : decode cX5_image 264 = .ok (.iadd, 1) := by decide +kernel
theorem dX5_image_265 : decode cX5_image 265 = .ok (.aload_n 0, 1) := by decide +kernel
theorem dX5_image_266 : decode cX5_image 266 = .ok (.getfield 43, 3) := by decide +kernel
theorem dX5_image_269 : decode cX5_image 269 = .ok (.iload_n 3, 1) := by decide +kernel
theorem dX5_image_270 : decode cX5_image 270 = .ok (.iaload, 1) := by decide +kernel
theorem dX5_image_271 : decode cX5_image 271 = .ok (.iastore, 1) := by decide +kernel
theorem dX5_image_272 : decode cX5_image 272 = .ok (.iinc 3 1, 3) := by decide +kernel
theorem dX5_image_275 : decode cX5_image 275 = .ok (.goto (-77), 3) := by decide +kernel
theorem dX5_image_278 : decode cX5_image 278 = .ok (.iconst 0, 1) := by decide +kernel
theorem dX5_image_279 : decode cX5_image 279 = .ok (.istore_n 3, 1) := by decide +kernel
theorem dX5_image_280 : decode cX5_image 280 = .ok (.iload_n 3, 1) := by decide +kernel
theorem dX5_image_281 : decode cX5_image 281 = .ok (.bipush 80, 2) := by decide +kernel
theorem dX5_image_283 : decode cX5_image 283 = .ok (.if_icmp .ge 26, 3) := by decide +kernel
theorem dX5_image_286 : decode cX5_image 286 = .ok (.aload_n 0, 1) := by decide +kernel
theorem dX5_image_287 : decode cX5_image 287 = .ok (.getfield 65, 3) := by decide +kernel
theorem dX5_image_290 : decode cX5_image 290 = .ok (.iload_n 2, 1) := by decide +kernel
theorem dX5_image_291 : decode cX5_image 291 = .ok (.bipush 70, 2) := by decide +kernel
theorem dX5_image_293 : decode cX5_image 293 = .ok (.iadd, 1) := by decide +kernel
theorem dX5_image_294 : decode cX5_image 294 = .ok (.iload_n 3, 1) := by decide +kernel
theorem dX5_image_295 : decode cX5_image 295 = .ok (.iadd, 1) := by decide +kernel
theorem dX5_image_296 : decode cX5_image 296 = .ok (.aload_n 0, 1) := by decide +kernel
theorem dX5_image_297 : decode cX5_image 297 = .ok (.getfield 55, 3) := by decide +kernel
theorem dX5_image_300 : decode cX5_image 300 = .ok (.iload_n 3, 1) := by decide +kernel
theorem dX5_image_301 : decode cX5_image 301 = .ok (.iaload, 1) := by decide +kernel
theorem dX5_image_302 : decode cX5_image 302 = .ok (.iastore, 1) := by decide +kernel
theorem dX5_image_303 : decode cX5_image 303 = .ok (.iinc 3 1, 3) := by decide +kernel
theorem dX5_image_306 : decode cX5_image 306 = .ok (.goto (-26), 3) := by decide +kernel
theorem dX5_image_309 : decode cX5_image 309 = .ok (.iconst 1, 1) := by decide +kernel
theorem dX5_image_310 : decode cX5_image 310 = .ok (.ireturn, 1) := by decide +kernel
theorem dX5_from_0 : decode cX5_from 0 = .ok (.iload_n 1, 1) := by decide +kernel
theorem dX5_from_1 : decode cX5_from 1 = .ok (.iconst 0, 1) := by decide +kernel
theorem dX5_from_2 : decode cX5_from 2 = .ok (.iconst 1, 1) := by decide +kernel
theorem dX5_from_3 : decode cX5_from 3 = .ok (.invokestatic 93, 3) := by decide +kernel
theorem dX5_from_6 : decode cX5_from 6 = .ok (.ifCond .ne 8, 3) := by decide +kernel
theorem dX5_from_9 : decode cX5_from 9 = .ok (.aload_n 0, 1) := by decide +kernel
theorem dX5_from_10 : decode cX5_from 10 = .ok (.invokevirtual 97, 3) := by decide +kernel
theorem dX5_from_13 : decode cX5_from 13 = .ok (.ireturn, 1) := by decide +kernel
theorem dX5_from_14 : decode cX5_from 14 = .ok (.aload_n 0, 1) := by decide +kernel
theorem dX5_from_15 : decode cX5_from 15 = .ok (.getfield 68, 3) := by decide +kernel
theorem dX5_from_18 : decode cX5_from 18 = .ok (.iload_n 1, 1) := by decide +kernel
theorem dX5_from_19 : decode cX5_from 19 = .ok (.iaload, 1) := by decide +kernel
theorem dX5_from_20 : decode cX5_from 20 = .ok (.ifCond .ne 8, 3) := by decide +kernel
theorem dX5_from_23 : decode cX5_from 23 = .ok (.aload_n 0, 1) := by decide +kernel
theorem dX5_from_24 : decode cX5_from 24 = .ok (.invokevirtual 212, 3) := by decide +kernel
theorem dX5_from_27 : decode cX5_from 27 = .ok (.ireturn, 1) := by decide +kernel
theorem dX5_from_28 : decode cX5_from 28 = .ok (.sipush 150, 3) := by decide +kernel
theorem dX5_from_31 : decode cX5_from 31 = .ok (.iload_n 1, 1) := by decide +kernel
theorem dX5_from_32 : decode cX5_from 32 = .ok (.imul, 1) := by decide +kernel
theorem dX5_from_33 : decode cX5_from 33 = .ok (.istore_n 2, 1) := by decide +kernel
theorem dX5_from_34 : decode cX5_from 34 = .ok (.aload_n 0, 1) := by decide +kernel
theorem dX5_from_35 : decode cX5_from 35 = .ok (.aload_n 0, 1) := by decide +kernel
theorem dX5_from_36 : decode cX5_from 36 = .ok (.getfield 65, 3) := by decide +kernel
theorem dX5_from_39 : decode cX5_from 39 = .ok (.iload_n 2, 1) := by decide +kernel
theorem dX5_from_40 : decode cX5_from 40 = .ok (.iaload, 1) := by decide +kernel
theorem dX5_from_41 : decode cX5_from 41 = .ok (.putfield 74, 3) := by decide +kernel
theorem dX5_from_44 : decode cX5_from 44 = .ok (.aload_n 0, 1) := by decide +kernel
theorem dX5_from_45 : decode cX5_from 45 = .ok (.aload_n 0, 1) := by decide +kernel
theorem dX5_from_46 : decode cX5_from 46 = .ok (.getfield 65, 3) := by decide +kernel
theorem dX5_from_49 : decode cX5_from 49 = .ok (.iload_n 2, 1) := by decide +kernel
theorem dX5_from_50 : decode cX5_from 50 = .ok (.iconst 1, 1) := by decide +kernel
theorem dX5_from_51 : decode cX5_from 51 = .ok (.iadd, 1) := by decide +kernel
theorem dX5_from_52 : decode cX5_from 52 = .ok (.iaload, 1) := by decide +kernel
theorem dX5_from_53 : decode cX5_from 53 = .ok (.putfield 78, 3) := by decide +kernel
theorem dX5_from_56 : decode cX5_from 56 = .ok (.aload_n 0, 1) := by decide +kernel
theorem dX5_from_57 : decode cX5_from 57 = .ok (.aload_n 0, 1) := by decide +kernel
theorem dX5_from_58 : decode cX5_from 58 = .ok (.getfield 65, 3) := by decide +kernel
theorem dX5_from_61 : decode cX5_from 61 = .ok (.iload_n 2, 1) := by decide +kernel
theorem dX5_from_62 : decode cX5_from 62 = .ok (.iconst 2, 1) := by decide +kernel
theorem dX5_from_63 : decode cX5_from 63 = .ok (.iadd, 1) := by decide +kernel
theorem dX5_from_64 : decode cX5_from 64 = .ok (.iaload, 1) := by decide +kernel
theorem dX5_from_65 : decode cX5_from 65 = .ok (.putfield 87, 3) := by decide +kernel
theorem dX5_from_68 : decode cX5_from 68 = .ok (.aload_n 0, 1) := by decide +kernel
theorem dX5_from_69 : decode cX5_from 69 = .ok (.aload_n 0, 1) := by decide +kernel
theorem dX5_from_70 : decode cX5_from 70 = .ok (.getfield 65, 3) := by decide +kernel
theorem dX5_from_73 : decode cX5_from 73 = .ok (.iload_n 2, 1) := by decide +kernel
theorem dX5_from_74 : decode cX5_from 74 = .ok (.iconst 3, 1) := by decide +kernel
theorem dX5_from_75 : decode cX5_from 75 = .ok (.iadd, 1) := by decide +kernel
theorem dX5_from_76 : decode cX5_from 76 = .ok (.iaload, 1) := by decide +kernel
theorem dX5_from_77 : decode cX5_from 77 = .ok (.putfield 90, 3) := by decide +kernel
theorem dX5_from_80 : decode cX5_from 80 = .ok (.aload_n 0, 1) := by decide +kernel
theorem dX5_from_81 : decode cX5_from 81 = .ok (.aload_n 0, 1) := by decide +kernel
theorem dX5_from_82 : decode cX5_from 82 = .ok (.getfield 65, 3) := by decide +kernel
theorem dX5_from_85 : decode cX5_from 85 = .ok (.iload_n 2, 1) := by decide +kernel
theorem dX5_from_86 : decode cX5_from 86 = .ok (.iconst 4, 1) := by decide +kernel
theorem dX5_from_87 : decode cX5_from 87 = .ok (.iadd, 1) := by decide +kernel
theorem dX5_from_88 : decode cX5_from 88 = .ok (.invokevirtual 203, 3) := by decide +kernel
theorem dX5_from_91 : decode cX5_from 91 = .ok (.iconst 0, 1) := by decide +kernel
theorem dX5_from_92 : decode cX5_from 92 = .ok (.istore_n 3, 1) := by decide +kernel
theorem dX5_from_93 : decode cX5_from 93 = .ok (.iload_n 3, 1) := by decide +kernel
theorem dX5_from_94 : decode cX5_from 94 = .ok (.iconst 4, 1) := by decide +kernel
theorem dX5_from_95 : decode cX5_from 95 = .ok (.if_icmp .ge 26, 3) := by decide +kernel
theorem dX5_from_98 : decode cX5_from 98 = .ok (.aload_n 0, 1) := by decide +kernel
theorem dX5_from_99 : decode cX5_from 99 = .ok (.getfield 13, 3) := by decide +kernel
theorem dX5_from_102 : decode cX5_from 102 = .ok (.iload_n 3, 1) := by decide +kernel
theorem dX5_from_103 : decode cX5_from 103 = .ok (.aload_n 0, 1) := by decide +kernel
theorem dX5_from_104 : decode cX5_from 104 = .ok (.getfield 65, 3) := by decide +kernel
theorem dX5_from_107 : decode cX5_from 107 = .ok (.iload_n 2, 1) := by decide +kernel
theorem dX5_from_108 : decode cX5_from 108 = .ok (.bipush 14, 2) := by decide +kernel
theorem dX5_from_110 : decode cX5_from 110 = .ok (.iadd, 1) := by decide +kernel
theorem dX5_from_111 : decode cX5_from 111 = .ok (.iload_n 3, 1) := by decide +kernel
theorem dX5_from_112 : decode cX5_from 112 = .ok (.iadd, 1) := by decide +kernel
theorem dX5_from_113 : decode cX5_from 113 = .ok (.iaload, 1) := by decide +kernel
theorem dX5_from_114 : decode cX5_from 114 = .ok (.iastore, 1) := by decide +kernel
theorem dX5_from_115 : decode cX5_from 115 = .ok (.iinc 3 1, 3) := by decide +kernel
theorem dX5_from_118 : decode cX5_from 118 = .ok (.goto (-25), 3) := by decide +kernel
theorem dX5_from_121 : decode cX5_from 121 = .ok (.iconst 0, 1) := by decide +kernel
theorem dX5_from_122 : decode cX5_from 122 = .ok (.istore_n 3, 1) := by decide +kernel
theorem dX5_from_123 : decode cX5_from 123 = .ok (.iload_n 3, 1) := by decide +kernel
theorem dX5_from_124 : decode cX5_from 124 = .ok (.bipush 7, 2) := by decide +kernel
theorem dX5_from_126 : decode cX5_from 126 = .ok (.if_icmp .ge 77, 3) := by decide +kernel
theorem dX5_from_129 : decode cX5_from 129 = .ok (.aload_n 0, 1) := by decide +kernel
theorem dX5_from_130 : decode cX5_from 130 = .ok (.getfield 22, 3) := by decide +kernel
theorem dX5_from_133 : decode cX5_from 133 = .ok (.iload_n 3, 1) := by decide +kernel
theorem dX5_from_134 : decode cX5_from 134 = .ok (.aload_n 0, 1) := by decide +kernel
theorem dX5_from_135 : decode cX5_from 135 = .ok (.getfield 65, 3) := by decide +kernel
theorem dX5_from_138 : decode cX5_from 138 = .ok (.iload_n 2, 1) := by decide +kernel
theorem dX5_from_139 : decode cX5_from 139 = .ok (.bipush 18, 2) := by decide +kernel
theorem dX5_from_141 : decode cX5_from 141 = .ok (.iadd, 1) := by decide +kernel
theorem dX5_from_142 : decode cX5_from 142 = .ok (.iload_n 3, 1) := by decide +kernel
theorem dX5_from_143 : decode cX5_from 143 = .ok (.iadd, 1) := by decide +kernel
theorem dX5_from_144 : decode cX5_from 144 = .ok (.iaload, 1) := by decide +kernel
theorem dX5_from_145 : decode cX5_from 145 = .ok (.iastore, 1) := by decide +kernel
theorem dX5_from_146 : decode cX5_from 146 = .ok (.aload_n 0, 1) := by decide +kernel
theorem dX5_from_147 : decode cX5_from 147 = .ok (.getfield 25, 3) := by decide +kernel
theorem dX5_from_150 : decode cX5_from 150 = .ok (.iload_n 3, 1) := by decide +kernel
theorem dX5_from_151 : decode cX5_from 151 = .ok (.aload_n 0, 1) := by decide +kernel
theorem dX5_from_152 : decode cX5_from 152 = .ok (.getfield 65, 3) := by decide +kernel
theorem dX5_from_155 : decode cX5_from 155 = .ok (.iload_n 2, 1) := by decide +kernel
theorem dX5_from_156 : decode cX5_from 156 = .ok (.bipush 25, 2) := by decide +kernel
theorem dX5_from_158 : decode cX5_from 158 = .ok (.iadd, 1) := by decide +kernel
theorem dX5_from_159 : decode cX5_from 159 = .ok (.iload_n 3, 1) := by decide +kernel
theorem dX5_from_160 : decode cX5_from 160 = .ok (.iadd, 1) := by decide +kernel
theorem dX5_from_161 : decode cX5_from 161 = .ok (.iaload, 1) := by decide +kernel
theorem dX5_from_162 : decode cX5_from 162 = .ok (.iastore, 1) := by decide +kernel
theorem dX5_from_163 : decode cX5_from 163 = .ok (.aload_n 0, 1) := by decide +kernel
theorem dX5_from_164 : decode cX5_from 164 = .ok (.getfield 28, 3) := by decide +kernel
theorem dX5_from_167 : decode cX5_from 167 = .ok (.iload_n 3, 1) := by decide +kernel
theorem dX5_from_168 : decode cX5_from 168 = .ok (.aload_n 0, 1) := by decide +kernel
theorem dX5_from_169 : decode cX5_from 169 = .ok (.getfield 65, 3) := by decide +kernel
theorem dX5_from_172 : decode cX5_from 172 = .ok (.iload_n 2, 1) := by decide +kernel
theorem dX5_from_173 : decode cX5_from 173 = .ok (.bipush 32, 2) := by decide +kernel
theorem dX5_from_175 : decode cX5_from 175 = .ok (.iadd, 1) := by decide +kernel
theorem dX5_from_176 : decode cX5_from 176 = .ok (.iload_n 3, 1) := by decide +kernel
theorem dX5_from_177 : decode cX5_from 177 = .ok (.iadd, 1) := by decide +kernel
theorem dX5_from_178 : decode cX5_from 178 = .ok (.iaload, 1) := by decide +kernel
theorem dX5_from_179 : decode cX5_from 179 = .ok (.iastore, 1) := by decide +kernel
theorem dX5_from_180 : decode cX5_from 180 = .ok (.aload_n 0, 1) := by decide +kernel
theorem dX5_from_181 : decode cX5_from 181 = .ok (.getfield 31, 3) := by decide +kernel
theorem dX5_from_184 : decode cX5_from 184 = .ok (.iload_n 3, 1) := by decide +kernel
theorem dX5_from_185 : decode cX5_from 185 = .ok (.aload_n 0, 1) := by decide +kernel
theorem dX5_from_186 : decode cX5_from 186 = .ok (.getfield 65, 3) := by decide +kernel
theorem dX5_from_189 : decode cX5_from 189 = .ok (.iload_n 2, 1) := by decide +kernel
theorem dX5_from_190 : decode cX5_from 190 = .ok (.bipush 39, 2) := by decide +kernel
theorem dX5_from_192 : decode cX5_from 192 = .ok (.iadd, 1) := by decide +kernel
theorem dX5_from_193 : decode cX5_from 193 = .ok (.iload_n 3, 1) := by decide +kernel
theorem dX5_from_194 : decode cX5_from 194 = .ok (.iadd, 1) := by decide +kernel
theorem dX5_from_195 : decode cX5_from 195 = .ok (.iaload, 1) := by decide +kernel
theorem dX5_from_196 : decode cX5_from 196 = .ok (.iastore, 1) := by decide +kernel
theorem dX5_from_197 : decode cX5_from 197 = .ok (.iinc 3 1, 3) := by decide +kernel
theorem dX5_from_200 : decode cX5_from 200 = .ok (.goto (-77), 3) := by decide +kernel
theorem dX5_from_203 : decode cX5_from 203 = .ok (.iconst 0, 1) := by decide +kernel
theorem dX5_from_204 : decode cX5_from 204 = .ok (.istore_n 3, 1) := by decide +kernel
theorem dX5_from_205 : decode cX5_from 205 = .ok (.iload_n 3, 1) := by decide +kernel
theorem dX5_from_206 : decode cX5_from 206 = .ok (.bipush 6, 2) := by decide +kernel
theorem dX5_from_208 : decode cX5_from 208 = .ok (.if_icmp .ge 77, 3) := by decide +kernel
theorem dX5_from_211 : decode cX5_from 211 = .ok (.aload_n 0, 1) := by decide +kernel
theorem dX5_from_212 : decode cX5_from 212 = .ok (.getfield 34, 3) := by decide +kernel
theorem dX5_from_215 : decode cX5_from 215 = .ok (.iload_n 3, 1) := by decide +kernel
theorem dX5_from_216 : decode cX5_from 216 = .ok (.aload_n 0, 1) := by decide +kernel
theorem dX5_from_217 : decode cX5_from 217 = .ok (.getfield 65, 3) := by decide +kernel
theorem dX5_from_220 : decode cX5_from 220 = .ok (.iload_n 2, 1) := by decide +kernel
theorem dX5_from_221 : decode cX5_from 221 = .ok (.bipush 46, 2) := by decide +kernel
theorem dX5_from_223 : decode cX5_from 223 = .ok (.iadd, 1) := by decide +kernel
theorem dX5_from_224 : decode cX5_from 224 = .ok (.iload_n 3, 1) := by decide +kernel
theorem dX5_from_225 : decode cX5_from 225 = .ok (.iadd, 1) := by decide +kernel
theorem dX5_from_226 : decode cX5_from 226 = .ok (.iaload, 1) := by decide +kernel
theorem dX5_from_227 : decode cX5_from 227 = .ok (.iastore, 1) := by decide +kernel
theorem dX5_from_228 : decode cX5_from 228 = .ok (.aload_n 0, 1) := by decide +kernel
theorem dX5_from_229 : decode cX5_from 229 = .ok (.getfield 37, 3) := by decide +kernel
theorem dX5_from_232 : decode cX5_from 232 = .ok (.iload_n 3, 1) := by decide +kernel
theorem dX5_from_233 : decode cX5_from 233 = .ok (.aload_n 0, 1) := by decide +kernel
theorem dX5_from_234 : decode cX5_from 234 = .ok (.getfield 65, 3) := by decide +kernel
theorem dX5_from_237 : decode cX5_from 237 = .ok (.iload_n 2, 1) := by decide +kernel
theorem dX5_from_238 : decode cX5_from 238 = .ok (.bipush 52, 2) := by decide +kernel
theorem dX5_from_240 : decode cX5_from 240 = .ok (.iadd, 1) := by decide +kernel
theorem dX5_from_241 : decode cX5_from 241 = .ok (.iload_n 3, 1) := by decide +kernel
theorem dX5_from_242 : decode cX5_from 242 = .ok (.iadd, 1) := by decide +kernel
theorem dX5_from_243 : decode cX5_from 243 = .ok (.iaload, 1) := by decide +kernel
theorem dX5_from_244 : decode cX5_from 244 = .ok (.iastore, 1) := by decide +kernel
theorem dX5_from_245 : decode cX5_from 245 = .ok (.aload_n 0, 1) := by decide +kernel
theorem dX5_from_246 : decode cX5_from 246 = .ok (.getfield 40, 3) := by decide +kernel
theorem dX5_from_249 : decode cX5_from 249 = .ok (.iload_n 3, 1) := by decide +kernel
theorem dX5_from_250 : decode cX5_from 250 = .ok (.aload_n 0, 1) := by decide +kernel
theorem dX5_from_251 : decode cX5_from 251 = .ok (.getfield 65, 3) := by decide +kernel
theorem dX5_from_254 : decode cX5_from 254 = .ok (.iload_n 2, 1) := by decide +kernel
theorem dX5_from_255 : decode cX5_from 255 = .ok (.bipush 58, 2) := by decide +kernel
theorem dX5_from_257 : decode cX5_from 257 = .ok (.iadd, 1) := by decide +kernel
theorem dX5_from_258 : decode cX5_from 258 = .ok (.iload_n 3, 1) := by decide +kernel
theorem dX5_from_259 : decode cX5_from 259 = .ok (.iadd, 1) := by decide +kernel
theorem dX5_from_260 : decode cX5_from 260 = .ok (.iaload, 1) := by decide +kernel
theorem dX5_from_261 : decode cX5_from 261 = .ok (.iastore, 1) := by decide +kernel
theorem dX5_from_262 : decode cX5_from 262 = .ok (.aload_n 0, 1) := by decide +kernel
theorem dX5_from_263 : decode cX5_from 263 = .ok (.getfield 43, 3) := by decide +kernel
theorem dX5_from_266 : decode cX5_from 266 = .ok (.iload_n 3, 1) := by decide +kernel
theorem dX5_from_267 : decode cX5_from 267 = .ok (.aload_n 0, 1) := by decide +kernel
theorem dX5_from_268 : decode cX5_from 268 = .ok (.getfield 65, 3) := by decide +kernel
theorem dX5_from_271 : decode cX5_from 271 = .ok (.iload_n 2, 1) := by decide +kernel
theorem dX5_from_272 : decode cX5_from 272 = .ok (.bipush 64, 2) := by decide +kernel
theorem dX5_from_274 : decode cX5_from 274 = .ok (.iadd, 1) := by decide +kernel
theorem dX5_from_275 : decode cX5_from 275 = .ok (.iload_n 3, 1) := by decide +kernel
theorem dX5_from_276 : decode cX5_from 276 = .ok (.iadd, 1) := by decide +kernel
theorem dX5_from_277 : decode cX5_from 277 = .ok (.iaload, 1) := by decide +kernel
theorem dX5_from_278 : decode cX5_from 278 = .ok (.iastore, 1) := by decide +kernel
theorem dX5_from_279 : decode cX5_from 279 = .ok (.iinc 3 1, 3) := by decide +kernel
theorem dX5_from_282 : decode cX5_from 282 = .ok (.goto (-77), 3) := by decide +kernel
theorem dX5_from_285 : decode cX5_from 285 = .ok (.iconst 0, 1) := by decide +kernel
theorem dX5_from_286 : decode cX5_from 286 = .ok (.istore_n 3, 1) := by decide +kernel
theorem dX5_from_287 : decode cX5_from 287 = .ok (.iload_n 3, 1) := by decide +kernel
theorem dX5_from_288 : decode cX5_from 288 = .ok (.bipush 80, 2) := by decide +kernel
theorem dX5_from_290 : decode cX5_from 290 = .ok (.if_icmp .ge 26, 3) := by decide +kernel
theorem dX5_from_293 : decode cX5_from 293 = .ok (.aload_n 0, 1) := by decide +kernel
theorem dX5_from_294 : decode cX5_from 294 = .ok (.getfield 55, 3) := by decide +kernel
theorem dX5_from_297 : decode cX5_from 297 = .ok (.iload_n 3, 1) := by decide +kernel
theorem dX5_from_298 : decode cX5_from 298 = .ok (.aload_n 0, 1) := by decide +kernel
theorem dX5_from_299 : decode cX5_from 299 = .ok (.getfield 65, 3) := by decide +kernel
theorem dX5_from_302 : decode cX5_from 302 = .ok (.iload_n 2, 1) := by decide +kernel
theorem dX5_from_303 : decode cX5_from 303 = .ok (.bipush 70, 2) := by decide +kernel
theorem dX5_from_305 : decode cX5_from 305 = .ok (.iadd, 1) := by decide +kernel
theorem dX5_from_306 : decode cX5_from 306 = .ok (.iload_n 3, 1) := by decide +kernel
theorem dX5_from_307 : decode cX5_from 307 = .ok (.iadd, 1) := by decide +kernel
theorem dX5_from_308 : decode cX5_from 308 = .ok (.iaload, 1) := by decide +kernel
theorem dX5_from_309 : decode cX5_from 309 = .ok (.iastore, 1) := by decide +kernel
theorem dX5_from_310 : decode cX5_from 310 = .ok (.iinc 3 1, 3) := by decide +kernel
theorem dX5_from_313 : decode cX5_from 313 = .ok (.goto (-26), 3) := by decide +kernel
theorem dX5_from_316 : decode cX5_from 316 = .ok (.iconst 1, 1) := by decide +kernel
theorem dX5_from_317 : decode cX5_from 317 = .ok (.ireturn, 1) := by decide +kernel
theorem dX5_status_0 : decode cX5_status 0 = .ok (.iload_n 1, 1) := by decide +kernel
theorem dX5_status_1 : decode cX5_status 1 = .ok (.iconst 0, 1) := by decide +kernel
theorem dX5_status_2 : decode cX5_status 2 = .ok (.iconst 2, 1) := by decide +kernel
theorem dX5_status_3 : decode cX5_status 3 = .ok (.invokestatic 93, 3) := by decide +kernel
theorem dX5_status_6 : decode cX5_status 6 = .ok (.ifCond .ne 15, 3) := by decide +kernel
theorem dX5_status_9 : decode cX5_status 9 = .ok (.aload_n 0, 1) := by decide +kernel
theorem dX5_status_10 : decode cX5_status 10 = .ok (.getfield 1, 3) := by decide +kernel
theorem dX5_status_13 : decode cX5_status 13 = .ok (.iconst 0, 1) := by decide +kernel
theorem dX5_status_14 : decode cX5_status 14 = .ok (.dup2, 1) := by decide +kernel
theorem dX5_status_15 : decode cX5_status 15 = .ok (.iaload, 1) := by decide +kernel
theorem dX5_status_16 : decode cX5_status 16 = .ok (.iconst 1, 1) := by decide +kernel
theorem dX5_status_17 : decode cX5_status 17 = .ok (.iadd, 1) := by decide +kernel
theorem dX5_status_18 : decode cX5_status 18 = .ok (.iastore, 1) := by decide +kernel
theorem dX5_status_19 : decode cX5_status 19 = .ok (.iconst (-1), 1) := by decide +kernel
theorem dX5_status_20 : decode cX5_status 20 = .ok (.ireturn, 1) := by decide +kernel
theorem dX5_status_21 : decode cX5_status 21 = .ok (.aload_n 0, 1) := by decide +kernel
theorem dX5_status_22 : decode cX5_status 22 = .ok (.getfield 1, 3) := by decide +kernel
theorem dX5_status_25 : decode cX5_status 25 = .ok (.iload_n 1, 1) := by decide +kernel
theorem dX5_status_26 : decode cX5_status 26 = .ok (.iaload, 1) := by decide +kernel
theorem dX5_status_27 : decode cX5_status 27 = .ok (.ireturn, 1) := by decide +kernel
theorem dX5_countOf_0 : decode cX5_countOf 0 = .ok (.iload_n 1, 1) := by decide +kernel
theorem dX5_countOf_1 : decode cX5_countOf 1 = .ok (.tableswitch 72 0 5 #[39, 44, 49, 54, 62, 67], 39) := by decide +kernel
theorem dX5_countOf_40 : decode cX5_countOf 40 = .ok (.aload_n 0, 1) := by decide +kernel
theorem dX5_countOf_41 : decode cX5_countOf 41 = .ok (.getfield 74, 3) := by decide +kernel
theorem dX5_countOf_44 : decode cX5_countOf 44 = .ok (.ireturn, 1) := by decide +kernel
theorem dX5_countOf_45 : decode cX5_countOf 45 = .ok (.aload_n 0, 1) := by decide +kernel
theorem dX5_countOf_46 : decode cX5_countOf 46 = .ok (.getfield 78, 3) := by decide +kernel
theorem dX5_countOf_49 : decode cX5_countOf 49 = .ok (.ireturn, 1) := by decide +kernel
theorem dX5_countOf_50 : decode cX5_countOf 50 = .ok (.aload_n 0, 1) := by decide +kernel
theorem dX5_countOf_51 : decode cX5_countOf 51 = .ok (.getfield 81, 3) := by decide +kernel
theorem dX5_countOf_54 : decode cX5_countOf 54 = .ok (.ireturn, 1) := by decide +kernel
theorem dX5_countOf_55 : decode cX5_countOf 55 = .ok (.aload_n 0, 1) := by decide +kernel
theorem dX5_countOf_56 : decode cX5_countOf 56 = .ok (.getfield 84, 3) := by decide +kernel
theorem dX5_countOf_59 : decode cX5_countOf 59 = .ok (.invokestatic 276, 3) := by decide +kernel
theorem dX5_countOf_62 : decode cX5_countOf 62 = .ok (.ireturn, 1) := by decide +kernel
theorem dX5_countOf_63 : decode cX5_countOf 63 = .ok (.aload_n 0, 1) := by decide +kernel
theorem dX5_countOf_64 : decode cX5_countOf 64 = .ok (.getfield 87, 3) := by decide +kernel
theorem dX5_countOf_67 : decode cX5_countOf 67 = .ok (.ireturn, 1) := by decide +kernel
theorem dX5_countOf_68 : decode cX5_countOf 68 = .ok (.aload_n 0, 1) := by decide +kernel
theorem dX5_countOf_69 : decode cX5_countOf 69 = .ok (.getfield 90, 3) := by decide +kernel
theorem dX5_countOf_72 : decode cX5_countOf 72 = .ok (.ireturn, 1) := by decide +kernel
theorem dX5_countOf_73 : decode cX5_countOf 73 = .ok (.aload_n 0, 1) := by decide +kernel
theorem dX5_countOf_74 : decode cX5_countOf 74 = .ok (.getfield 112, 3) := by decide +kernel
theorem dX5_countOf_77 : decode cX5_countOf 77 = .ok (.ireturn, 1) := by decide +kernel
theorem dX5_count_0 : decode cX5_count 0 = .ok (.iload_n 1, 1) := by decide +kernel
theorem dX5_count_1 : decode cX5_count 1 = .ok (.iconst 0, 1) := by decide +kernel
theorem dX5_count_2 : decode cX5_count 2 = .ok (.bipush 6, 2) := by decide +kernel
theorem dX5_count_4 : decode cX5_count 4 = .ok (.invokestatic 93, 3) := by decide +kernel
theorem dX5_count_7 : decode cX5_count 7 = .ok (.ifCond .eq 11, 3) := by decide +kernel
theorem dX5_count_10 : decode cX5_count 10 = .ok (.aload_n 0, 1) := by decide +kernel
theorem dX5_count_11 : decode cX5_count 11 = .ok (.iload_n 1, 1) := by decide +kernel
theorem dX5_count_12 : decode cX5_count 12 = .ok (.invokevirtual 279, 3) := by decide +kernel
theorem dX5_count_15 : decode cX5_count 15 = .ok (.goto 7, 3) := by decide +kernel
theorem dX5_count_18 : decode cX5_count 18 = .ok (.aload_n 0, 1) := by decide +kernel
theorem dX5_count_19 : decode cX5_count 19 = .ok (.invokevirtual 97, 3) := by decide +kernel
theorem dX5_count_22 : decode cX5_count 22 = .ok (.ireturn, 1) := by decide +kernel
theorem dX5_mix_0 : decode cX5_mix 0 = .ok (.aload_n 0, 1) := by decide +kernel
theorem dX5_mix_1 : decode cX5_mix 1 = .ok (.ldc2_w 282, 3) := by decide +kernel
theorem dX5_mix_4 : decode cX5_mix 4 = .ok (.aload_n 0, 1) := by decide +kernel
theorem dX5_mix_5 : decode cX5_mix 5 = .ok (.getfield 284, 3) := by decide +kernel
theorem dX5_mix_8 : decode cX5_mix 8 = .ok (.lmul, 1) := by decide +kernel
theorem dX5_mix_9 : decode cX5_mix 9 = .ok (.lload_n 1, 1) := by decide +kernel
theorem dX5_mix_10 : decode cX5_mix 10 = .ok (.ladd, 1) := by decide +kernel
theorem dX5_mix_11 : decode cX5_mix 11 = .ok (.putfield 284, 3) := by decide +kernel
theorem dX5_mix_14 : decode cX5_mix 14 = .ok (.return_, 1) := by decide +kernel
theorem dX5_digest_0 : decode cX5_digest 0 = .ok (.aload_n 0, 1) := by decide +kernel
theorem dX5_digest_1 : decode cX5_digest 1 = .ok (.ldc2_w 287, 3) := by decide +kernel
theorem dX5_digest_4 : decode cX5_digest 4 = .ok (.putfield 284, 3) := by decide +kernel
theorem dX5_digest_7 : decode cX5_digest 7 = .ok (.iconst 0, 1) := by decide +kernel
theorem dX5_digest_8 : decode cX5_digest 8 = .ok (.istore_n 1, 1) := by decide +kernel
theorem dX5_digest_9 : decode cX5_digest 9 = .ok (.iload_n 1, 1) := by decide +kernel
theorem dX5_digest_10 : decode cX5_digest 10 = .ok (.bipush 6, 2) := by decide +kernel
theorem dX5_digest_12 : decode cX5_digest 12 = .ok (.if_icmp .gt 19, 3) := by decide +kernel
theorem dX5_digest_15 : decode cX5_digest 15 = .ok (.aload_n 0, 1) := by decide +kernel
theorem dX5_digest_16 : decode cX5_digest 16 = .ok (.aload_n 0, 1) := by decide +kernel
theorem dX5_digest_17 : decode cX5_digest 17 = .ok (.iload_n 1, 1) := by decide +kernel
theorem dX5_digest_18 : decode cX5_digest 18 = .ok (.invokevirtual 279, 3) := by decide +kernel
theorem dX5_digest_21 : decode cX5_digest 21 = .ok (.i2l, 1) := by decide +kernel
theorem dX5_digest_22 : decode cX5_digest 22 = .ok (.invokevirtual 289, 3) := by decide +kernel
theorem dX5_digest_25 : decode cX5_digest 25 = .ok (.iinc 1 1, 3) := by decide +kernel
theorem dX5_digest_28 : decode cX5_digest 28 = .ok (.goto (-19), 3) := by decide +kernel
theorem dX5_digest_31 : decode cX5_digest 31 = .ok (.iconst 0, 1) := by decide +kernel
theorem dX5_digest_32 : decode cX5_digest 32 = .ok (.istore_n 1, 1) := by decide +kernel
theorem dX5_digest_33 : decode cX5_digest 33 = .ok (.iload_n 1, 1) := by decide +kernel
theorem dX5_digest_34 : decode cX5_digest 34 = .ok (.aload_n 0, 1) := by decide +kernel
theorem dX5_digest_35 : decode cX5_digest 35 = .ok (.getfield 74, 3) := by decide +kernel
theorem dX5_digest_38 : decode cX5_digest 38 = .ok (.if_icmp .ge 42, 3) := by decide +kernel
theorem dX5_digest_41 : decode cX5_digest 41 = .ok (.aload_n 0, 1) := by decide +kernel
theorem dX5_digest_42 : decode cX5_digest 42 = .ok (.aload_n 0, 1) := by decide +kernel
theorem dX5_digest_43 : decode cX5_digest 43 = .ok (.getfield 13, 3) := by decide +kernel
theorem dX5_digest_46 : decode cX5_digest 46 = .ok (.iload_n 1, 1) := by decide +kernel
theorem dX5_digest_47 : decode cX5_digest 47 = .ok (.iaload, 1) := by decide +kernel
theorem dX5_digest_48 : decode cX5_digest 48 = .ok (.i2l, 1) := by decide +kernel
theorem dX5_digest_49 : decode cX5_digest 49 = .ok (.invokevirtual 289, 3) := by decide +kernel
theorem dX5_digest_52 : decode cX5_digest 52 = .ok (.aload_n 0, 1) := by decide +kernel
theorem dX5_digest_53 : decode cX5_digest 53 = .ok (.aload_n 0, 1) := by decide +kernel
theorem dX5_digest_54 : decode cX5_digest 54 = .ok (.getfield 16, 3) := by decide +kernel
theorem dX5_digest_57 : decode cX5_digest 57 = .ok (.iload_n 1, 1) := by decide +kernel
theorem dX5_digest_58 : decode cX5_digest 58 = .ok (.iaload, 1) := by decide +kernel
theorem dX5_digest_59 : decode cX5_digest 59 = .ok (.i2l, 1) := by decide +kernel
theorem dX5_digest_60 : decode cX5_digest 60 = .ok (.invokevirtual 289, 3) := by decide +kernel
theorem dX5_digest_63 : decode cX5_digest 63 = .ok (.aload_n 0, 1) := by decide +kernel
theorem dX5_digest_64 : decode cX5_digest 64 = .ok (.aload_n 0, 1) := by decide +kernel
theorem dX5_digest_65 : decode cX5_digest 65 = .ok (.getfield 19, 3) := by decide +kernel
theorem dX5_digest_68 : decode cX5_digest 68 = .ok (.iload_n 1, 1) := by decide +kernel
theorem dX5_digest_69 : decode cX5_digest 69 = .ok (.iaload, 1) := by decide +kernel
theorem dX5_digest_70 : decode cX5_digest 70 = .ok (.i2l, 1) := by decide +kernel
theorem dX5_digest_71 : decode cX5_digest 71 = .ok (.invokevirtual 289, 3) := by decide +kernel
theorem dX5_digest_74 : decode cX5_digest 74 = .ok (.iinc 1 1, 3) := by decide +kernel
theorem dX5_digest_77 : decode cX5_digest 77 = .ok (.goto (-44), 3) := by decide +kernel
theorem dX5_digest_80 : decode cX5_digest 80 = .ok (.iconst 0, 1) := by decide +kernel
theorem dX5_digest_81 : decode cX5_digest 81 = .ok (.istore_n 1, 1) := by decide +kernel
theorem dX5_digest_82 : decode cX5_digest 82 = .ok (.iload_n 1, 1) := by decide +kernel
theorem dX5_digest_83 : decode cX5_digest 83 = .ok (.aload_n 0, 1) := by decide +kernel
theorem dX5_digest_84 : decode cX5_digest 84 = .ok (.getfield 78, 3) := by decide +kernel
theorem dX5_digest_87 : decode cX5_digest 87 = .ok (.if_icmp .ge 66, 3) := by decide +kernel
theorem dX5_digest_90 : decode cX5_digest 90 = .ok (.aload_n 0, 1) := by decide +kernel
theorem dX5_digest_91 : decode cX5_digest 91 = .ok (.aload_n 0, 1) := by decide +kernel
theorem dX5_digest_92 : decode cX5_digest 92 = .ok (.getfield 22, 3) := by decide +kernel
theorem dX5_digest_95 : decode cX5_digest 95 = .ok (.iload_n 1, 1) := by decide +kernel
theorem dX5_digest_96 : decode cX5_digest 96 = .ok (.iaload, 1) := by decide +kernel
theorem dX5_digest_97 : decode cX5_digest 97 = .ok (.i2l, 1) := by decide +kernel
theorem dX5_digest_98 : decode cX5_digest 98 = .ok (.invokevirtual 289, 3) := by decide +kernel
theorem dX5_digest_101 : decode cX5_digest 101 = .ok (.aload_n 0, 1) := by decide +kernel
theorem dX5_digest_102 : decode cX5_digest 102 = .ok (.aload_n 0, 1) := by decide +kernel
theorem dX5_digest_103 : decode cX5_digest 103 = .ok (.getfield 25, 3) := by decide +kernel
theorem dX5_digest_106 : decode cX5_digest 106 = .ok (.iload_n 1, 1) := by decide +kernel
theorem dX5_digest_107 : decode cX5_digest 107 = .ok (.iaload, 1) := by decide +kernel
theorem dX5_digest_108 : decode cX5_digest 108 = .ok (.i2l, 1) := by decide +kernel
theorem dX5_digest_109 : decode cX5_digest 109 = .ok (.invokevirtual 289, 3) := by decide +kernel
theorem dX5_digest_112 : decode cX5_digest 112 = .ok (.aload_n 0, 1) := by decide +kernel
theorem dX5_digest_113 : decode cX5_digest 113 = .ok (.aload_n 0, 1) := by decide +kernel
theorem dX5_digest_114 : decode cX5_digest 114 = .ok (.getfield 28, 3) := by decide +kernel
theorem dX5_digest_117 : decode cX5_digest 117 = .ok (.iload_n 1, 1) := by decide +kernel
theorem dX5_digest_118 : decode cX5_digest 118 = .ok (.iaload, 1) := by decide +kernel
theorem dX5_digest_119 : decode cX5_digest 119 = .ok (.i2l, 1) := by decide +kernel
theorem dX5_digest_120 : decode cX5_digest 120 = .ok (.invokevirtual 289, 3) := by decide +kernel
theorem dX5_digest_123 : decode cX5_digest 123 = .ok (.aload_n 0, 1) := by decide +kernel
theorem dX5_digest_124 : decode cX5_digest 124 = .ok (.aload_n 0, 1) := by decide +kernel
theorem dX5_digest_125 : decode cX5_digest 125 = .ok (.getfield 31, 3) := by decide +kernel
theorem dX5_digest_128 : decode cX5_digest 128 = .ok (.iload_n 1, 1) := by decide +kernel
theorem dX5_digest_129 : decode cX5_digest 129 = .ok (.iaload, 1) := by decide +kernel
theorem dX5_digest_130 : decode cX5_digest 130 = .ok (.i2l, 1) := by decide +kernel
theorem dX5_digest_131 : decode cX5_digest 131 = .ok (.invokevirtual 289, 3) := by decide +kernel
theorem dX5_digest_134 : decode cX5_digest 134 = .ok (.aload_n 0, 1) := by decide +kernel
theorem dX5_digest_135 : decode cX5_digest 135 = .ok (.aload_n 0, 1) := by decide +kernel
theorem dX5_digest_136 : decode cX5_digest 136 = .ok (.getfield 84, 3) := by decide +kernel
theorem dX5_digest_139 : decode cX5_digest 139 = .ok (.iload_n 1, 1) := by decide +kernel
theorem dX5_digest_140 : decode cX5_digest 140 = .ok (.ishr, 1) := by decide +kernel
theorem dX5_digest_141 : decode cX5_digest 141 = .ok (.iconst 1, 1) := by decide +kernel
theorem dX5_digest_142 : decode cX5_digest 142 = .ok (.iand, 1) := by decide +kernel
theorem dX5_digest_143 : decode cX5_digest 143 = .ok (.i2l, 1) := by decide +kernel
theorem dX5_digest_144 : decode cX5_digest 144 = .ok (.invokevirtual 289, 3) := by decide +kernel
theorem dX5_digest_147 : decode cX5_digest 147 = .ok (.iinc 1 1, 3) := by decide +kernel
theorem dX5_digest_150 : decode cX5_digest 150 = .ok (.goto (-68), 3) := by decide +kernel
theorem dX5_digest_153 : decode cX5_digest 153 = .ok (.iconst 0, 1) := by decide +kernel
theorem dX5_digest_154 : decode cX5_digest 154 = .ok (.istore_n 1, 1) := by decide +kernel
theorem dX5_digest_155 : decode cX5_digest 155 = .ok (.iload_n 1, 1) := by decide +kernel
theorem dX5_digest_156 : decode cX5_digest 156 = .ok (.aload_n 0, 1) := by decide +kernel
theorem dX5_digest_157 : decode cX5_digest 157 = .ok (.getfield 87, 3) := by decide +kernel
theorem dX5_digest_160 : decode cX5_digest 160 = .ok (.if_icmp .ge 53, 3) := by decide +kernel
theorem dX5_digest_163 : decode cX5_digest 163 = .ok (.aload_n 0, 1) := by decide +kernel
theorem dX5_digest_164 : decode cX5_digest 164 = .ok (.aload_n 0, 1) := by decide +kernel
theorem dX5_digest_165 : decode cX5_digest 165 = .ok (.getfield 34, 3) := by decide +kernel
theorem dX5_digest_168 : decode cX5_digest 168 = .ok (.iload_n 1, 1) := by decide +kernel
theorem dX5_digest_169 : decode cX5_digest 169 = .ok (.iaload, 1) := by decide +kernel
theorem dX5_digest_170 : decode cX5_digest 170 = .ok (.i2l, 1) := by decide +kernel
theorem dX5_digest_171 : decode cX5_digest 171 = .ok (.invokevirtual 289, 3) := by decide +kernel
theorem dX5_digest_174 : decode cX5_digest 174 = .ok (.aload_n 0, 1) := by decide +kernel
theorem dX5_digest_175 : decode cX5_digest 175 = .ok (.aload_n 0, 1) := by decide +kernel
theorem dX5_digest_176 : decode cX5_digest 176 = .ok (.getfield 37, 3) := by decide +kernel
theorem dX5_digest_179 : decode cX5_digest 179 = .ok (.iload_n 1, 1) := by decide +kernel
theorem dX5_digest_180 : decode cX5_digest 180 = .ok (.iaload, 1) := by decide +kernel
theorem dX5_digest_181 : decode cX5_digest 181 = .ok (.i2l, 1) := by decide +kernel
theorem dX5_digest_182 : decode cX5_digest 182 = .ok (.invokevirtual 289, 3) := by decide +kernel
theorem dX5_digest_185 : decode cX5_digest 185 = .ok (.aload_n 0, 1) := by decide +kernel
theorem dX5_digest_186 : decode cX5_digest 186 = .ok (.aload_n 0, 1) := by decide +kernel
theorem dX5_digest_187 : decode cX5_digest 187 = .ok (.getfield 40, 3) := by decide +kernel
theorem dX5_digest_190 : decode cX5_digest 190 = .ok (.iload_n 1, 1) := by decide +kernel
theorem dX5_digest_191 : decode cX5_digest 191 = .ok (.iaload, 1) := by decide +kernel
theorem dX5_digest_192 : decode cX5_digest 192 = .ok (.i2l, 1) := by decide +kernel
theorem dX5_digest_193 : decode cX5_digest 193 = .ok (.invokevirtual 289, 3) := by decide +kernel
theorem dX5_digest_196 : decode cX5_digest 196 = .ok (.aload_n 0, 1) := by decide +kernel
theorem dX5_digest_197 : decode cX5_digest 197 = .ok (.aload_n 0, 1) := by decide +kernel
theorem dX5_digest_198 : decode cX5_digest 198 = .ok (.getfield 43, 3) := by decide +kernel
theorem dX5_digest_201 : decode cX5_digest 201 = .ok (.iload_n 1, 1) := by decide +kernel
theorem dX5_digest_202 : decode cX5_digest 202 = .ok (.iaload, 1) := by decide +kernel
theorem dX5_digest_203 : decode cX5_digest 203 = .ok (.i2l, 1) := by decide +kernel
theorem dX5_digest_204 : decode cX5_digest 204 = .ok (.invokevirtual 289, 3) := by decide +kernel
theorem dX5_digest_207 : decode cX5_digest 207 = .ok (.iinc 1 1, 3) := by decide +kernel
theorem dX5_digest_210 : decode cX5_digest 210 = .ok (.goto (-55), 3) := by decide +kernel
theorem dX5_digest_213 : decode cX5_digest 213 = .ok (.aload_n 0, 1) := by decide +kernel
theorem dX5_digest_214 : decode cX5_digest 214 = .ok (.aload_n 0, 1) := by decide +kernel
theorem dX5_digest_215 : decode cX5_digest 215 = .ok (.getfield 256, 3) := by decide +kernel
theorem dX5_digest_218 : decode cX5_digest 218 = .ok (.invokevirtual 289, 3) := by decide +kernel
theorem dX5_digest_221 : decode cX5_digest 221 = .ok (.aload_n 0, 1) := by decide +kernel
theorem dX5_digest_222 : decode cX5_digest 222 = .ok (.aload_n 0, 1) := by decide +kernel
theorem dX5_digest_223 : decode cX5_digest 223 = .ok (.getfield 61, 3) := by decide +kernel
theorem dX5_digest_226 : decode cX5_digest 226 = .ok (.invokevirtual 289, 3) := by decide +kernel
theorem dX5_digest_229 : decode cX5_digest 229 = .ok (.aload_n 0, 1) := by decide +kernel
theorem dX5_digest_230 : decode cX5_digest 230 = .ok (.getfield 284, 3) := by decide +kernel
theorem dX5_digest_233 : decode cX5_digest 233 = .ok (.lreturn, 1) := by decide +kernel
theorem dJ6_bitCount_0f7a4_0 : decode cJ6_bitCount_0f7a4 0 = .ok (.iload_n 0, 1) := by decide +kernel
theorem dJ6_bitCount_0f7a4_1 : decode cJ6_bitCount_0f7a4 1 = .ok (.iload_n 0, 1) := by decide +kernel
theorem dJ6_bitCount_0f7a4_2 : decode cJ6_bitCount_0f7a4 2 = .ok (.iconst 1, 1) := by decide +kernel
theorem dJ6_bitCount_0f7a4_3 : decode cJ6_bitCount_0f7a4 3 = .ok (.iushr, 1) := by decide +kernel
theorem dJ6_bitCount_0f7a4_4 : decode cJ6_bitCount_0f7a4 4 = .ok (.ldc_w 265, 3) := by decide +kernel
theorem dJ6_bitCount_0f7a4_7 : decode cJ6_bitCount_0f7a4 7 = .ok (.iand, 1) := by decide +kernel
theorem dJ6_bitCount_0f7a4_8 : decode cJ6_bitCount_0f7a4 8 = .ok (.isub, 1) := by decide +kernel
theorem dJ6_bitCount_0f7a4_9 : decode cJ6_bitCount_0f7a4 9 = .ok (.istore_n 0, 1) := by decide +kernel
theorem dJ6_bitCount_0f7a4_10 : decode cJ6_bitCount_0f7a4 10 = .ok (.iload_n 0, 1) := by decide +kernel
theorem dJ6_bitCount_0f7a4_11 : decode cJ6_bitCount_0f7a4 11 = .ok (.ldc_w 266, 3) := by decide +kernel
theorem dJ6_bitCount_0f7a4_14 : decode cJ6_bitCount_0f7a4 14 = .ok (.iand, 1) := by decide +kernel
theorem dJ6_bitCount_0f7a4_15 : decode cJ6_bitCount_0f7a4 15 = .ok (.iload_n 0, 1) := by decide +kernel
theorem dJ6_bitCount_0f7a4_16 : decode cJ6_bitCount_0f7a4 16 = .ok (.iconst 2, 1) := by decide +kernel
theorem dJ6_bitCount_0f7a4_17 : decode cJ6_bitCount_0f7a4 17 = .ok (.iushr, 1) := by decide +kernel
theorem dJ6_bitCount_0f7a4_18 : decode cJ6_bitCount_0f7a4 18 = .ok (.ldc_w 266, 3) := by decide +kernel
theorem dJ6_bitCount_0f7a4_21 : decode cJ6_bitCount_0f7a4 21 = .ok (.iand, 1) := by decide +kernel
theorem dJ6_bitCount_0f7a4_22 : decode cJ6_bitCount_0f7a4 22 = .ok (.iadd, 1) := by decide +kernel
theorem dJ6_bitCount_0f7a4_23 : decode cJ6_bitCount_0f7a4 23 = .ok (.istore_n 0, 1) := by decide +kernel
theorem dJ6_bitCount_0f7a4_24 : decode cJ6_bitCount_0f7a4 24 = .ok (.iload_n 0, 1) := by decide +kernel
theorem dJ6_bitCount_0f7a4_25 : decode cJ6_bitCount_0f7a4 25 = .ok (.iload_n 0, 1) := by decide +kernel
theorem dJ6_bitCount_0f7a4_26 : decode cJ6_bitCount_0f7a4 26 = .ok (.iconst 4, 1) := by decide +kernel
theorem dJ6_bitCount_0f7a4_27 : decode cJ6_bitCount_0f7a4 27 = .ok (.iushr, 1) := by decide +kernel
theorem dJ6_bitCount_0f7a4_28 : decode cJ6_bitCount_0f7a4 28 = .ok (.iadd, 1) := by decide +kernel
theorem dJ6_bitCount_0f7a4_29 : decode cJ6_bitCount_0f7a4 29 = .ok (.ldc_w 267, 3) := by decide +kernel
theorem dJ6_bitCount_0f7a4_32 : decode cJ6_bitCount_0f7a4 32 = .ok (.iand, 1) := by decide +kernel
theorem dJ6_bitCount_0f7a4_33 : decode cJ6_bitCount_0f7a4 33 = .ok (.istore_n 0, 1) := by decide +kernel
theorem dJ6_bitCount_0f7a4_34 : decode cJ6_bitCount_0f7a4 34 = .ok (.iload_n 0, 1) := by decide +kernel
theorem dJ6_bitCount_0f7a4_35 : decode cJ6_bitCount_0f7a4 35 = .ok (.iload_n 0, 1) := by decide +kernel
theorem dJ6_bitCount_0f7a4_36 : decode cJ6_bitCount_0f7a4 36 = .ok (.bipush 8, 2) := by decide +kernel
theorem dJ6_bitCount_0f7a4_38 : decode cJ6_bitCount_0f7a4 38 = .ok (.iushr, 1) := by decide +kernel
theorem dJ6_bitCount_0f7a4_39 : decode cJ6_bitCount_0f7a4 39 = .ok (.iadd, 1) := by decide +kernel
theorem dJ6_bitCount_0f7a4_40 : decode cJ6_bitCount_0f7a4 40 = .ok (.istore_n 0, 1) := by decide +kernel
theorem dJ6_bitCount_0f7a4_41 : decode cJ6_bitCount_0f7a4 41 = .ok (.iload_n 0, 1) := by decide +kernel
theorem dJ6_bitCount_0f7a4_42 : decode cJ6_bitCount_0f7a4 42 = .ok (.iload_n 0, 1) := by decide +kernel
theorem dJ6_bitCount_0f7a4_43 : decode cJ6_bitCount_0f7a4 43 = .ok (.bipush 16, 2) := by decide +kernel
theorem dJ6_bitCount_0f7a4_45 : decode cJ6_bitCount_0f7a4 45 = .ok (.iushr, 1) := by decide +kernel
theorem dJ6_bitCount_0f7a4_46 : decode cJ6_bitCount_0f7a4 46 = .ok (.iadd, 1) := by decide +kernel
theorem dJ6_bitCount_0f7a4_47 : decode cJ6_bitCount_0f7a4 47 = .ok (.istore_n 0, 1) := by decide +kernel
theorem dJ6_bitCount_0f7a4_48 : decode cJ6_bitCount_0f7a4 48 = .ok (.iload_n 0, 1) := by decide +kernel
theorem dJ6_bitCount_0f7a4_49 : decode cJ6_bitCount_0f7a4 49 = .ok (.bipush 63, 2) := by decide +kernel
theorem dJ6_bitCount_0f7a4_51 : decode cJ6_bitCount_0f7a4 51 = .ok (.iand, 1) := by decide +kernel
theorem dJ6_bitCount_0f7a4_52 : decode cJ6_bitCount_0f7a4 52 = .ok (.ireturn, 1) := by decide +kernel
theorem dJ9_max_7cf53_0 : decode cJ9_max_7cf53 0 = .ok (.iload_n 0, 1) := by decide +kernel
theorem dJ9_max_7cf53_1 : decode cJ9_max_7cf53 1 = .ok (.iload_n 1, 1) := by decide +kernel
theorem dJ9_max_7cf53_2 : decode cJ9_max_7cf53 2 = .ok (.if_icmp .lt 7, 3) := by decide +kernel
theorem dJ9_max_7cf53_5 : decode cJ9_max_7cf53 5 = .ok (.iload_n 0, 1) := by decide +kernel
theorem dJ9_max_7cf53_6 : decode cJ9_max_7cf53 6 = .ok (.goto 4, 3) := by decide +kernel
theorem dJ9_max_7cf53_9 : decode cJ9_max_7cf53 9 = .ok (.iload_n 1, 1) := by decide +kernel
theorem dJ9_max_7cf53_10 : decode cJ9_max_7cf53 10 = .ok (.ireturn, 1) := by decide +kernel
theorem dJ0_length_8abf5_0 : decode cJ0_length_8abf5 0 = .ok (.aload_n 0, 1) := by decide +kernel
theorem dJ0_length_8abf5_1 : decode cJ0_length_8abf5 1 = .ok (.getfield 9, 3) := by decide +kernel
theorem dJ0_length_8abf5_4 : decode cJ0_length_8abf5 4 = .ok (.arraylength, 1) := by decide +kernel
theorem dJ0_length_8abf5_5 : decode cJ0_length_8abf5 5 = .ok (.aload_n 0, 1) := by decide +kernel
theorem dJ0_length_8abf5_6 : decode cJ0_length_8abf5 6 = .ok (.invokevirtual 335, 3) := by decide +kernel
theorem dJ0_length_8abf5_9 : decode cJ0_length_8abf5 9 = .ok (.ishr, 1) := by decide +kernel
theorem dJ0_length_8abf5_10 : decode cJ0_length_8abf5 10 = .ok (.ireturn, 1) := by decide +kernel
theorem dJ0_charAt_5068e_0 : decode cJ0_charAt_5068e 0 = .ok (.aload_n 0, 1) := by decide +kernel
theorem dJ0_charAt_5068e_1 : decode cJ0_charAt_5068e 1 = .ok (.invokevirtual 492, 3) := by decide +kernel
theorem dJ0_charAt_5068e_4 : decode cJ0_charAt_5068e 4 = .ok (.ifCond .eq 12, 3) := by decide +kernel
theorem dJ0_charAt_5068e_7 : decode cJ0_charAt_5068e 7 = .ok (.aload_n 0, 1) := by decide +kernel
theorem dJ0_charAt_5068e_8 : decode cJ0_charAt_5068e 8 = .ok (.getfield 9, 3) := by decide +kernel
theorem dJ0_charAt_5068e_11 : decode cJ0_charAt_5068e 11 = .ok (.iload_n 1, 1) := by decide +kernel
theorem dJ0_charAt_5068e_12 : decode cJ0_charAt_5068e 12 = .ok (.invokestatic 495, 3) := by decide +kernel
theorem dJ0_charAt_5068e_15 : decode cJ0_charAt_5068e 15 = .ok (.ireturn, 1) := by decide +kernel
theorem dJ0_charAt_5068e_16 : decode cJ0_charAt_5068e 16 = .ok (.aload_n 0, 1) := by decide +kernel
theorem dJ0_charAt_5068e_17 : decode cJ0_charAt_5068e 17 = .ok (.getfield 9, 3) := by decide +kernel
theorem dJ0_charAt_5068e_20 : decode cJ0_charAt_5068e 20 = .ok (.iload_n 1, 1) := by decide +kernel
theorem dJ0_charAt_5068e_21 : decode cJ0_charAt_5068e 21 = .ok (.invokestatic 498, 3) := by decide +kernel
theorem dJ0_charAt_5068e_24 : decode cJ0_charAt_5068e 24 = .ok (.ireturn, 1) := by decide +kernel
theorem dJ0_coder_7d493_0 : decode cJ0_coder_7d493 0 = .ok (.getstatic 38, 3) := by decide +kernel
theorem dJ0_coder_7d493_3 : decode cJ0_coder_7d493 3 = .ok (.ifCond .eq 10, 3) := by decide +kernel
theorem dJ0_coder_7d493_6 : decode cJ0_coder_7d493 6 = .ok (.aload_n 0, 1) := by decide +kernel
theorem dJ0_coder_7d493_7 : decode cJ0_coder_7d493 7 = .ok (.getfield 15, 3) := by decide +kernel
theorem dJ0_coder_7d493_10 : decode cJ0_coder_7d493 10 = .ok (.goto 4, 3) := by decide +kernel
theorem dJ0_coder_7d493_13 : decode cJ0_coder_7d493 13 = .ok (.iconst 1, 1) := by decide +kernel
theorem dJ0_coder_7d493_14 : decode cJ0_coder_7d493 14 = .ok (.ireturn, 1) := by decide +kernel
theorem dJ0_isLatin1_aae02_0 : decode cJ0_isLatin1_aae02 0 = .ok (.getstatic 38, 3) := by decide +kernel
theorem dJ0_isLatin1_aae02_3 : decode cJ0_isLatin1_aae02 3 = .ok (.ifCond .eq 14, 3) := by decide +kernel
theorem dJ0_isLatin1_aae02_6 : decode cJ0_isLatin1_aae02 6 = .ok (.aload_n 0, 1) := by decide +kernel
theorem dJ0_isLatin1_aae02_7 : decode cJ0_isLatin1_aae02 7 = .ok (.getfield 15, 3) := by decide +kernel
theorem dJ0_isLatin1_aae02_10 : decode cJ0_isLatin1_aae02 10 = .ok (.ifCond .ne 7, 3) := by decide +kernel
theorem dJ0_isLatin1_aae02_13 : decode cJ0_isLatin1_aae02 13 = .ok (.iconst 1, 1) := by decide +kernel
theorem dJ0_isLatin1_aae02_14 : decode cJ0_isLatin1_aae02 14 = .ok (.goto 4, 3) := by decide +kernel
theorem dJ0_isLatin1_aae02_17 : decode cJ0_isLatin1_aae02 17 = .ok (.iconst 0, 1) := by decide +kernel
theorem dJ0_isLatin1_aae02_18 : decode cJ0_isLatin1_aae02 18 = .ok (.ireturn, 1) := by decide +kernel
theorem dJ0_checkIndex_df160_0 : decode cJ0_checkIndex_df160 0 = .ok (.iload_n 0, 1) := by decide +kernel
theorem dJ0_checkIndex_df160_1 : decode cJ0_checkIndex_df160 1 = .ok (.iload_n 1, 1) := by decide +kernel
theorem dJ0_checkIndex_df160_2 : decode cJ0_checkIndex_df160 2 = .ok (.getstatic 1053, 3) := by decide +kernel
theorem dJ0_checkIndex_df160_5 : decode cJ0_checkIndex_df160 5 = .ok (.invokestatic 1059, 3) := by decide +kernel
theorem dJ0_checkIndex_df160_8 : decode cJ0_checkIndex_df160 8 = .ok (.pop, 1) := by decide +kernel
theorem dJ0_checkIndex_df160_9 : decode cJ0_checkIndex_df160 9 = .ok (.return_, 1) := by decide +kernel
theorem dJ1_charAt_3b067_0 : decode cJ1_charAt_3b067 0 = .ok (.iload_n 1, 1) := by decide +kernel
theorem dJ1_charAt_3b067_1 : decode cJ1_charAt_3b067 1 = .ok (.aload_n 0, 1) := by decide +kernel
theorem dJ1_charAt_3b067_2 : decode cJ1_charAt_3b067 2 = .ok (.arraylength, 1) := by decide +kernel
theorem dJ1_charAt_3b067_3 : decode cJ1_charAt_3b067 3 = .ok (.invokestatic 9, 3) := by decide +kernel
theorem dJ1_charAt_3b067_6 : decode cJ1_charAt_3b067 6 = .ok (.aload_n 0, 1) := by decide +kernel
theorem dJ1_charAt_3b067_7 : decode cJ1_charAt_3b067 7 = .ok (.iload_n 1, 1) := by decide +kernel
theorem dJ1_charAt_3b067_8 : decode cJ1_charAt_3b067 8 = .ok (.baload, 1) := by decide +kernel
theorem dJ1_charAt_3b067_9 : decode cJ1_charAt_3b067 9 = .ok (.sipush 255, 3) := by decide +kernel
theorem dJ1_charAt_3b067_12 : decode cJ1_charAt_3b067 12 = .ok (.iand, 1) := by decide +kernel
theorem dJ1_charAt_3b067_13 : decode cJ1_charAt_3b067 13 = .ok (.i2c, 1) := by decide +kernel
theorem dJ1_charAt_3b067_14 : decode cJ1_charAt_3b067 14 = .ok (.ireturn, 1) := by decide +kernel
theorem dJ2_getChar_3b067_0 : decode cJ2_getChar_3b067 0 = .ok (.getstatic 44, 3) := by decide +kernel
theorem dJ2_getChar_3b067_3 : decode cJ2_getChar_3b067 3 = .ok (.ifCond .ne 25, 3) := by decide +kernel
theorem dJ2_getChar_3b067_6 : decode cJ2_getChar_3b067 6 = .ok (.iload_n 1, 1) := by decide +kernel
theorem dJ2_getChar_3b067_7 : decode cJ2_getChar_3b067 7 = .ok (.ifCond .lt 11, 3) := by decide +kernel
theorem dJ2_getChar_3b067_10 : decode cJ2_getChar_3b067 10 = .ok (.iload_n 1, 1) := by decide +kernel
theorem dJ2_getChar_3b067_11 : decode cJ2_getChar_3b067 11 = .ok (.aload_n 0, 1) := by decide +kernel
theorem dJ2_getChar_3b067_12 : decode cJ2_getChar_3b067 12 = .ok (.invokestatic 48, 3) := by decide +kernel
theorem dJ2_getChar_3b067_15 : decode cJ2_getChar_3b067 15 = .ok (.if_icmp .lt 13, 3) := by decide +kernel
theorem dJ2_getChar_3b067_18 : decode cJ2_getChar_3b067 18 = .ok (.new 52, 3) := by decide +kernel
theorem dJ2_getChar_3b067_21 : decode cJ2_getChar_3b067 21 = .ok (.dup, 1) := by decide +kernel
theorem dJ2_getChar_3b067_22 : decode cJ2_getChar_3b067 22 = .ok (.ldc 54, 2) := by decide +kernel
theorem dJ2_getChar_3b067_24 : decode cJ2_getChar_3b067 24 = .ok (.invokespecial 56, 3) := by decide +kernel
theorem dJ2_getChar_3b067_27 : decode cJ2_getChar_3b067 27 = .ok (.athrow, 1) := by decide +kernel
theorem dJ2_getChar_3b067_28 : decode cJ2_getChar_3b067 28 = .ok (.iload_n 1, 1) := by decide +kernel
theorem dJ2_getChar_3b067_29 : decode cJ2_getChar_3b067 29 = .ok (.iconst 1, 1) := by decide +kernel
theorem dJ2_getChar_3b067_30 : decode cJ2_getChar_3b067 30 = .ok (.ishl, 1) := by decide +kernel
theorem dJ2_getChar_3b067_31 : decode cJ2_getChar_3b067 31 = .ok (.istore_n 1, 1) := by decide +kernel
theorem dJ2_getChar_3b067_32 : decode cJ2_getChar_3b067 32 = .ok (.aload_n 0, 1) := by decide +kernel
theorem dJ2_getChar_3b067_33 : decode cJ2_getChar_3b067 33 = .ok (.iload_n 1, 1) := by decide +kernel
theorem dJ2_getChar_3b067_34 : decode cJ2_getChar_3b067 34 = .ok (.iinc 1 1, 3) := by decide +kernel
theorem dJ2_getChar_3b067_37 : decode cJ2_getChar_3b067 37 = .ok (.baload, 1) := by decide +kernel
theorem dJ2_getChar_3b067_38 : decode cJ2_getChar_3b067 38 = .ok (.sipush 255, 3) := by decide +kernel
theorem dJ2_getChar_3b067_41 : decode cJ2_getChar_3b067 41 = .ok (.iand, 1) := by decide +kernel
theorem dJ2_getChar_3b067_42 : decode cJ2_getChar_3b067 42 = .ok (.getstatic 59, 3) := by decide +kernel
theorem dJ2_getChar_3b067_45 : decode cJ2_getChar_3b067 45 = .ok (.ishl, 1) := by decide +kernel
theorem dJ2_getChar_3b067_46 : decode cJ2_getChar_3b067 46 = .ok (.aload_n 0, 1) := by decide +kernel
theorem dJ2_getChar_3b067_47 : decode cJ2_getChar_3b067 47 = .ok (.iload_n 1, 1) := by decide +kernel
theorem dJ2_getChar_3b067_48 : decode cJ2_getChar_3b067 48 = .ok (.baload, 1) := by decide +kernel
theorem dJ2_getChar_3b067_49 : decode cJ2_getChar_3b067 49 = .ok (.sipush 255, 3) := by decide +kernel
theorem dJ2_getChar_3b067_52 : decode cJ2_getChar_3b067 52 = .ok (.iand, 1) := by decide +kernel
theorem dJ2_getChar_3b067_53 : decode cJ2_getChar_3b067 53 = .ok (.getstatic 63, 3) := by decide +kernel
theorem dJ2_getChar_3b067_56 : decode cJ2_getChar_3b067 56 = .ok (.ishl, 1) := by decide +kernel
theorem dJ2_getChar_3b067_57 : decode cJ2_getChar_3b067 57 = .ok (.ior, 1) := by decide +kernel
theorem dJ2_getChar_3b067_58 : decode cJ2_getChar_3b067 58 = .ok (.i2c, 1) := by decide +kernel
theorem dJ2_getChar_3b067_59 : decode cJ2_getChar_3b067 59 = .ok (.ireturn, 1) := by decide +kernel
theorem dJ2_length_9d52b_0 : decode cJ2_length_9d52b 0 = .ok (.aload_n 0, 1) := by decide +kernel
theorem dJ2_length_9d52b_1 : decode cJ2_length_9d52b 1 = .ok (.arraylength, 1) := by decide +kernel
theorem dJ2_length_9d52b_2 : decode cJ2_length_9d52b 2 = .ok (.iconst 1, 1) := by decide +kernel
theorem dJ2_length_9d52b_3 : decode cJ2_length_9d52b 3 = .ok (.ishr, 1) := by decide +kernel
theorem dJ2_length_9d52b_4 : decode cJ2_length_9d52b 4 = .ok (.ireturn, 1) := by decide +kernel
theorem dJ2_charAt_3b067_0 : decode cJ2_charAt_3b067 0 = .ok (.iload_n 1, 1) := by decide +kernel
theorem dJ2_charAt_3b067_1 : decode cJ2_charAt_3b067 1 = .ok (.aload_n 0, 1) := by decide +kernel
theorem dJ2_charAt_3b067_2 : decode cJ2_charAt_3b067 2 = .ok (.invokestatic 67, 3) := by decide +kernel
theorem dJ2_charAt_3b067_5 : decode cJ2_charAt_3b067 5 = .ok (.aload_n 0, 1) := by decide +kernel
theorem dJ2_charAt_3b067_6 : decode cJ2_charAt_3b067 6 = .ok (.iload_n 1, 1) := by decide +kernel
theorem dJ2_charAt_3b067_7 : decode cJ2_charAt_3b067 7 = .ok (.invokestatic 71, 3) := by decide +kernel
theorem dJ2_charAt_3b067_10 : decode cJ2_charAt_3b067 10 = .ok (.ireturn, 1) := by decide +kernel
theorem dJ2_checkIndex_2214a_0 : decode cJ2_checkIndex_2214a 0 = .ok (.iload_n 0, 1) := by decide +kernel
theorem dJ2_checkIndex_2214a_1 : decode cJ2_checkIndex_2214a 1 = .ok (.aload_n 1, 1) := by decide +kernel
theorem dJ2_checkIndex_2214a_2 : decode cJ2_checkIndex_2214a 2 = .ok (.invokestatic 48, 3) := by decide +kernel
theorem dJ2_checkIndex_2214a_5 : decode cJ2_checkIndex_2214a 5 = .ok (.invokestatic 414, 3) := by decide +kernel
theorem dJ2_checkIndex_2214a_8 : decode cJ2_checkIndex_2214a 8 = .ok (.return_, 1) := by decide +kernel
theorem dJ3_checkIndex_8e157_0 : decode cJ3_checkIndex_8e157 0 = .ok (.iload_n 0, 1) := by decide +kernel
theorem dJ3_checkIndex_8e157_1 : decode cJ3_checkIndex_8e157 1 = .ok (.ifCond .lt 8, 3) := by decide +kernel
theorem dJ3_checkIndex_8e157_4 : decode cJ3_checkIndex_8e157 4 = .ok (.iload_n 0, 1) := by decide +kernel
theorem dJ3_checkIndex_8e157_5 : decode cJ3_checkIndex_8e157 5 = .ok (.iload_n 1, 1) := by decide +kernel
theorem dJ3_checkIndex_8e157_6 : decode cJ3_checkIndex_8e157 6 = .ok (.if_icmp .lt 10, 3) := by decide +kernel
theorem dJ3_checkIndex_8e157_9 : decode cJ3_checkIndex_8e157 9 = .ok (.aload_n 2, 1) := by decide +kernel
theorem dJ3_checkIndex_8e157_10 : decode cJ3_checkIndex_8e157 10 = .ok (.iload_n 0, 1) := by decide +kernel
theorem dJ3_checkIndex_8e157_11 : decode cJ3_checkIndex_8e157 11 = .ok (.iload_n 1, 1) := by decide +kernel
theorem dJ3_checkIndex_8e157_12 : decode cJ3_checkIndex_8e157 12 = .ok (.invokestatic 95, 3) := by decide +kernel
theorem dJ3_checkIndex_8e157_15 : decode cJ3_checkIndex_8e157 15 = .ok (.athrow, 1) := by decide +kernel
theorem dJ3_checkIndex_8e157_16 : decode cJ3_checkIndex_8e157 16 = .ok (.iload_n 0, 1) := by decide +kernel
theorem dJ3_checkIndex_8e157_17 : decode cJ3_checkIndex_8e157 17 = .ok (.ireturn, 1) := by decide +kernel
theorem dL_law_0 : decode cL_law 0 = .ok (.new 7, 3) := by decide +kernel
theorem dL_law_3 : decode cL_law 3 = .ok (.dup, 1) := by decide +kernel
theorem dL_law_4 : decode cL_law 4 = .ok (.invokespecial 9, 3) := by decide +kernel
theorem dL_law_7 : decode cL_law 7 = .ok (.astore_n 1, 1) := by decide +kernel
theorem dL_law_8 : decode cL_law 8 = .ok (.new 10, 3) := by decide +kernel
theorem dL_law_11 : decode cL_law 11 = .ok (.dup, 1) := by decide +kernel
theorem dL_law_12 : decode cL_law 12 = .ok (.invokespecial 12, 3) := by decide +kernel
theorem dL_law_15 : decode cL_law 15 = .ok (.astore_n 2, 1) := by decide +kernel
theorem dL_law_16 : decode cL_law 16 = .ok (.iconst 0, 1) := by decide +kernel
theorem dL_law_17 : decode cL_law 17 = .ok (.istore_n 3, 1) := by decide +kernel
theorem dL_law_18 : decode cL_law 18 = .ok (.iload_n 3, 1) := by decide +kernel
theorem dL_law_19 : decode cL_law 19 = .ok (.aload_n 0, 1) := by decide +kernel
theorem dL_law_20 : decode cL_law 20 = .ok (.arraylength, 1) := by decide +kernel
theorem dL_law_21 : decode cL_law 21 = .ok (.iconst 5, 1) := by decide +kernel
theorem dL_law_22 : decode cL_law 22 = .ok (.isub, 1) := by decide +kernel
theorem dL_law_23 : decode cL_law 23 = .ok (.if_icmp .gt 1047, 3) := by decide +kernel
theorem dL_law_26 : decode cL_law 26 = .ok (.aload_n 0, 1) := by decide +kernel
theorem dL_law_27 : decode cL_law 27 = .ok (.iload_n 3, 1) := by decide +kernel
theorem dL_law_28 : decode cL_law 28 = .ok (.iaload, 1) := by decide +kernel
theorem dL_law_29 : decode cL_law 29 = .ok (.bipush 31, 2) := by decide +kernel
theorem dL_law_31 : decode cL_law 31 = .ok (.iand, 1) := by decide +kernel
theorem dL_law_32 : decode cL_law 32 = .ok (.tableswitch 1032 0 31 #[144, 157, 190, 243, 266, 279, 292, 325, 348, 361, 394, 427, 460, 493, 526, 539, 572, 595, 628, 681, 734, 747, 770, 793, 836, 869, 902, 926, 949, 972, 995, 1018], 144) := by decide +kernel
theorem dL_law_176 : decode cL_law 176 = .ok (.aload_n 1, 1) := by decide +kernel
theorem dL_law_177 : decode cL_law 177 = .ok (.invokevirtual 13, 3) := by decide +kernel
theorem dL_law_180 : decode cL_law 180 = .ok (.aload_n 2, 1) := by decide +kernel
theorem dL_law_181 : decode cL_law 181 = .ok (.invokevirtual 17, 3) := by decide +kernel
theorem dL_law_184 : decode cL_law 184 = .ok (.if_icmp .eq 880, 3) := by decide +kernel
theorem dL_law_187 : decode cL_law 187 = .ok (.iconst 0, 1) := by decide +kernel
theorem dL_law_188 : decode cL_law 188 = .ok (.ireturn, 1) := by decide +kernel
theorem dL_law_189 : decode cL_law 189 = .ok (.aload_n 1, 1) := by decide +kernel
theorem dL_law_190 : decode cL_law 190 = .ok (.aload_n 0, 1) := by decide +kernel
theorem dL_law_191 : decode cL_law 191 = .ok (.iload_n 3, 1) := by decide +kernel
theorem dL_law_192 : decode cL_law 192 = .ok (.iconst 1, 1) := by decide +kernel
theorem dL_law_193 : decode cL_law 193 = .ok (.iadd, 1) := by decide +kernel
theorem dL_law_194 : decode cL_law 194 = .ok (.iaload, 1) := by decide +kernel
theorem dL_law_195 : decode cL_law 195 = .ok (.aload_n 0, 1) := by decide +kernel
theorem dL_law_196 : decode cL_law 196 = .ok (.iload_n 3, 1) := by decide +kernel
theorem dL_law_197 : decode cL_law 197 = .ok (.iconst 2, 1) := by decide +kernel
theorem dL_law_198 : decode cL_law 198 = .ok (.iadd, 1) := by decide +kernel
theorem dL_law_199 : decode cL_law 199 = .ok (.iaload, 1) := by decide +kernel
theorem dL_law_200 : decode cL_law 200 = .ok (.invokevirtual 18, 3) := by decide +kernel
theorem dL_law_203 : decode cL_law 203 = .ok (.aload_n 2, 1) := by decide +kernel
theorem dL_law_204 : decode cL_law 204 = .ok (.aload_n 0, 1) := by decide +kernel
theorem dL_law_205 : decode cL_law 205 = .ok (.iload_n 3, 1) := by decide +kernel
theorem dL_law_206 : decode cL_law 206 = .ok (.iconst 1, 1) := by decide +kernel
theorem dL_law_207 : decode cL_law 207 = .ok (.iadd, 1) := by decide +kernel
theorem dL_law_208 : decode cL_law 208 = .ok (.iaload, 1) := by decide +kernel
theorem dL_law_209 : decode cL_law 209 = .ok (.aload_n 0, 1) := by decide +kernel
theorem dL_law_210 : decode cL_law 210 = .ok (.iload_n 3, 1) := by decide +kernel
theorem dL_law_211 : decode cL_law 211 = .ok (.iconst 2, 1) := by decide +kernel
theorem dL_law_212 : decode cL_law 212 = .ok (.iadd, 1) := by decide +kernel
theorem dL_law_213 : decode cL_law 213 = .ok (.iaload, 1) := by decide +kernel
theorem dL_law_214 : decode cL_law 214 = .ok (.invokevirtual 22, 3) := by decide +kernel
theorem dL_law_217 : decode cL_law 217 = .ok (.if_icmp .eq 847, 3) := by decide +kernel
theorem dL_law_220 : decode cL_law 220 = .ok (.iconst 0, 1) := by decide +kernel
theorem dL_law_221 : decode cL_law 221 = .ok (.ireturn, 1) := by decide +kernel
theorem dL_law_222 : decode cL_law 222 = .ok (.aload_n 1, 1) := by decide +kernel
theorem dL_law_223 : decode cL_law 223 = .ok (.aload_n 0, 1) := by decide +kernel
theorem dL_law_224 : decode cL_law 224 = .ok (.iload_n 3, 1) := by decide +kernel
theorem dL_law_225 : decode cL_law 225 = .ok (.iconst 1, 1) := by decide +kernel
theorem dL_law_226 : decode cL_law 226 = .ok (.iadd, 1) := by decide +kernel
theorem dL_law_227 : decode cL_law 227 = .ok (.iaload, 1) := by decide +kernel
theorem dL_law_228 : decode cL_law 228 = .ok (.aload_n 0, 1) := by decide +kernel
theorem dL_law_229 : decode cL_law 229 = .ok (.iload_n 3, 1) := by decide +kernel
theorem dL_law_230 : decode cL_law 230 = .ok (.iconst 2, 1) := by decide +kernel
theorem dL_law_231 : decode cL_law 231 = .ok (.iadd, 1) := by decide +kernel
theorem dL_law_232 : decode cL_law 232 = .ok (.iaload, 1) := by decide +kernel
theorem dL_law_233 : decode cL_law 233 = .ok (.aload_n 0, 1) := by decide +kernel
theorem dL_law_234 : decode cL_law 234 = .ok (.iload_n 3, 1) := by decide +kernel
theorem dL_law_235 : decode cL_law 235 = .ok (.iconst 3, 1) := by decide +kernel
theorem dL_law_236 : decode cL_law 236 = .ok (.iadd, 1) := by decide +kernel
theorem dL_law_237 : decode cL_law 237 = .ok (.iaload, 1) := by decide +kernel
theorem dL_law_238 : decode cL_law 238 = .ok (.aload_n 0, 1) := by decide +kernel
theorem dL_law_239 : decode cL_law 239 = .ok (.iload_n 3, 1) := by decide +kernel
theorem dL_law_240 : decode cL_law 240 = .ok (.iconst 4, 1) := by decide +kernel
theorem dL_law_241 : decode cL_law 241 = .ok (.iadd, 1) := by decide +kernel
theorem dL_law_242 : decode cL_law 242 = .ok (.iaload, 1) := by decide +kernel
theorem dL_law_243 : decode cL_law 243 = .ok (.invokevirtual 23, 3) := by decide +kernel
theorem dL_law_246 : decode cL_law 246 = .ok (.aload_n 2, 1) := by decide +kernel
theorem dL_law_247 : decode cL_law 247 = .ok (.aload_n 0, 1) := by decide +kernel
theorem dL_law_248 : decode cL_law 248 = .ok (.iload_n 3, 1) := by decide +kernel
theorem dL_law_249 : decode cL_law 249 = .ok (.iconst 1, 1) := by decide +kernel
theorem dL_law_250 : decode cL_law 250 = .ok (.iadd, 1) := by decide +kernel
theorem dL_law_251 : decode cL_law 251 = .ok (.iaload, 1) := by decide +kernel
theorem dL_law_252 : decode cL_law 252 = .ok (.aload_n 0, 1) := by decide +kernel
theorem dL_law_253 : decode cL_law 253 = .ok (.iload_n 3, 1) := by decide +kernel
theorem dL_law_254 : decode cL_law 254 = .ok (.iconst 2, 1) := by decide +kernel
theorem dL_law_255 : decode cL_law 255 = .ok (.iadd, 1) := by decide +kernel
theorem dL_law_256 : decode cL_law 256 = .ok (.iaload, 1) := by decide +kernel
theorem dL_law_257 : decode cL_law 257 = .ok (.aload_n 0, 1) := by decide +kernel
theorem dL_law_258 : decode cL_law 258 = .ok (.iload_n 3, 1) := by decide +kernel
theorem dL_law_259 : decode cL_law 259 = .ok (.iconst 3, 1) := by decide +kernel
theorem dL_law_260 : decode cL_law 260 = .ok (.iadd, 1) := by decide +kernel
theorem dL_law_261 : decode cL_law 261 = .ok (.iaload, 1) := by decide +kernel
theorem dL_law_262 : decode cL_law 262 = .ok (.aload_n 0, 1) := by decide +kernel
theorem dL_law_263 : decode cL_law 263 = .ok (.iload_n 3, 1) := by decide +kernel
theorem dL_law_264 : decode cL_law 264 = .ok (.iconst 4, 1) := by decide +kernel
theorem dL_law_265 : decode cL_law 265 = .ok (.iadd, 1) := by decide +kernel
theorem dL_law_266 : decode cL_law 266 = .ok (.iaload, 1) := by decide +kernel
theorem dL_law_267 : decode cL_law 267 = .ok (.invokevirtual 27, 3) := by decide +kernel
theorem dL_law_270 : decode cL_law 270 = .ok (.if_icmp .eq 794, 3) := by decide +kernel
theorem dL_law_273 : decode cL_law 273 = .ok (.iconst 0, 1) := by decide +kernel
theorem dL_law_274 : decode cL_law 274 = .ok (.ireturn, 1) := by decide +kernel
theorem dL_law_275 : decode cL_law 275 = .ok (.aload_n 1, 1) := by decide +kernel
theorem dL_law_276 : decode cL_law 276 = .ok (.aload_n 0, 1) := by decide +kernel
theorem dL_law_277 : decode cL_law 277 = .ok (.iload_n 3, 1) := by decide +kernel
theorem dL_law_278 : decode cL_law 278 = .ok (.iconst 1, 1) := by decide +kernel
theorem dL_law_279 : decode cL_law 279 = .ok (.iadd, 1) := by decide +kernel
theorem dL_law_280 : decode cL_law 280 = .ok (.iaload, 1) := by decide +kernel
theorem dL_law_281 : decode cL_law 281 = .ok (.invokevirtual 28, 3) := by decide +kernel
theorem dL_law_284 : decode cL_law 284 = .ok (.aload_n 2, 1) := by decide +kernel
theorem dL_law_285 : decode cL_law 285 = .ok (.aload_n 0, 1) := by decide +kernel
theorem dL_law_286 : decode cL_law 286 = .ok (.iload_n 3, 1) := by decide +kernel
theorem dL_law_287 : decode cL_law 287 = .ok (.iconst 1, 1) := by decide +kernel
theorem dL_law_288 : decode cL_law 288 = .ok (.iadd, 1) := by decide +kernel
theorem dL_law_289 : decode cL_law 289 = .ok (.iaload, 1) := by decide +kernel
theorem dL_law_290 : decode cL_law 290 = .ok (.invokevirtual 32, 3) := by decide +kernel
theorem dL_law_293 : decode cL_law 293 = .ok (.if_icmp .eq 771, 3) := by decide +kernel
theorem dL_law_296 : decode cL_law 296 = .ok (.iconst 0, 1) := by decide +kernel
theorem dL_law_297 : decode cL_law 297 = .ok (.ireturn, 1) := by decide +kernel
theorem dL_law_298 : decode cL_law 298 = .ok (.aload_n 1, 1) := by decide +kernel
theorem dL_law_299 : decode cL_law 299 = .ok (.invokevirtual 33, 3) := by decide +kernel
theorem dL_law_302 : decode cL_law 302 = .ok (.aload_n 2, 1) := by decide +kernel
theorem dL_law_303 : decode cL_law 303 = .ok (.invokevirtual 36, 3) := by decide +kernel
theorem dL_law_306 : decode cL_law 306 = .ok (.if_icmp .eq 758, 3) := by decide +kernel
theorem dL_law_309 : decode cL_law 309 = .ok (.iconst 0, 1) := by decide +kernel
theorem dL_law_310 : decode cL_law 310 = .ok (.ireturn, 1) := by decide +kernel
theorem dL_law_311 : decode cL_law 311 = .ok (.aload_n 1, 1) := by decide +kernel
theorem dL_law_312 : decode cL_law 312 = .ok (.invokevirtual 37, 3) := by decide +kernel
theorem dL_law_315 : decode cL_law 315 = .ok (.aload_n 2, 1) := by decide +kernel
theorem dL_law_316 : decode cL_law 316 = .ok (.invokevirtual 40, 3) := by decide +kernel
theorem dL_law_319 : decode cL_law 319 = .ok (.if_icmp .eq 745, 3) := by decide +kernel
theorem dL_law_322 : decode cL_law 322 = .ok (.iconst 0, 1) := by decide +kernel
theorem dL_law_323 : decode cL_law 323 = .ok (.ireturn, 1) := by decide +kernel
theorem dL_law_324 : decode cL_law 324 = .ok (.aload_n 1, 1) := by decide +kernel
theorem dL_law_325 : decode cL_law 325 = .ok (.aload_n 0, 1) := by decide +kernel
theorem dL_law_326 : decode cL_law 326 = .ok (.iload_n 3, 1) := by decide +kernel
theorem dL_law_327 : decode cL_law 327 = .ok (.iconst 1, 1) := by decide +kernel
theorem dL_law_328 : decode cL_law 328 = .ok (.iadd, 1) := by decide +kernel
theorem dL_law_329 : decode cL_law 329 = .ok (.iaload, 1) := by decide +kernel
theorem dL_law_330 : decode cL_law 330 = .ok (.aload_n 0, 1) := by decide +kernel
theorem dL_law_331 : decode cL_law 331 = .ok (.iload_n 3, 1) := by decide +kernel
theorem dL_law_332 : decode cL_law 332 = .ok (.iconst 2, 1) := by decide +kernel
theorem dL_law_333 : decode cL_law 333 = .ok (.iadd, 1) := by decide +kernel
theorem dL_law_334 : decode cL_law 334 = .ok (.iaload, 1) := by decide +kernel
theorem dL_law_335 : decode cL_law 335 = .ok (.invokevirtual 41, 3) := by decide +kernel
theorem dL_law_338 : decode cL_law 338 = .ok (.aload_n 2, 1) := by decide +kernel
theorem dL_law_339 : decode cL_law 339 = .ok (.aload_n 0, 1) := by decide +kernel
theorem dL_law_340 : decode cL_law 340 = .ok (.iload_n 3, 1) := by decide +kernel
theorem dL_law_341 : decode cL_law 341 = .ok (.iconst 1, 1) := by decide +kernel
theorem dL_law_342 : decode cL_law 342 = .ok (.iadd, 1) := by decide +kernel
theorem dL_law_343 : decode cL_law 343 = .ok (.iaload, 1) := by decide +kernel
theorem dL_law_344 : decode cL_law 344 = .ok (.aload_n 0, 1) := by decide +kernel
theorem dL_law_345 : decode cL_law 345 = .ok (.iload_n 3, 1) := by decide +kernel
theorem dL_law_346 : decode cL_law 346 = .ok (.iconst 2, 1) := by decide +kernel
theorem dL_law_347 : decode cL_law 347 = .ok (.iadd, 1) := by decide +kernel
theorem dL_law_348 : decode cL_law 348 = .ok (.iaload, 1) := by decide +kernel
theorem dL_law_349 : decode cL_law 349 = .ok (.invokevirtual 44, 3) := by decide +kernel
theorem dL_law_352 : decode cL_law 352 = .ok (.if_icmp .eq 712, 3) := by decide +kernel
theorem dL_law_355 : decode cL_law 355 = .ok (.iconst 0, 1) := by decide +kernel
theorem dL_law_356 : decode cL_law 356 = .ok (.ireturn, 1) := by decide +kernel
theorem dL_law_357 : decode cL_law 357 = .ok (.aload_n 1, 1) := by decide +kernel
theorem dL_law_358 : decode cL_law 358 = .ok (.aload_n 0, 1) := by decide +kernel
theorem dL_law_359 : decode cL_law 359 = .ok (.iload_n 3, 1) := by decide +kernel
theorem dL_law_360 : decode cL_law 360 = .ok (.iconst 1, 1) := by decide +kernel
theorem dL_law_361 : decode cL_law 361 = .ok (.iadd, 1) := by decide +kernel
theorem dL_law_362 : decode cL_law 362 = .ok (.iaload, 1) := by decide +kernel
theorem dL_law_363 : decode cL_law 363 = .ok (.invokevirtual 45, 3) := by decide +kernel
theorem dL_law_366 : decode cL_law 366 = .ok (.aload_n 2, 1) := by decide +kernel
theorem dL_law_367 : decode cL_law 367 = .ok (.aload_n 0, 1) := by decide +kernel
theorem dL_law_368 : decode cL_law 368 = .ok (.iload_n 3, 1) := by decide +kernel
theorem dL_law_369 : decode cL_law 369 = .ok (.iconst 1, 1) := by decide +kernel
theorem dL_law_370 : decode cL_law 370 = .ok (.iadd, 1) := by decide +kernel
theorem dL_law_371 : decode cL_law 371 = .ok (.iaload, 1) := by decide +kernel
theorem dL_law_372 : decode cL_law 372 = .ok (.invokevirtual 48, 3) := by decide +kernel
theorem dL_law_375 : decode cL_law 375 = .ok (.if_icmp .eq 689, 3) := by decide +kernel
theorem dL_law_378 : decode cL_law 378 = .ok (.iconst 0, 1) := by decide +kernel
theorem dL_law_379 : decode cL_law 379 = .ok (.ireturn, 1) := by decide +kernel
theorem dL_law_380 : decode cL_law 380 = .ok (.aload_n 1, 1) := by decide +kernel
theorem dL_law_381 : decode cL_law 381 = .ok (.invokevirtual 49, 3) := by decide +kernel
theorem dL_law_384 : decode cL_law 384 = .ok (.aload_n 2, 1) := by decide +kernel
theorem dL_law_385 : decode cL_law 385 = .ok (.invokevirtual 52, 3) := by decide +kernel
theorem dL_law_388 : decode cL_law 388 = .ok (.if_icmp .eq 676, 3) := by decide +kernel
theorem dL_law_391 : decode cL_law 391 = .ok (.iconst 0, 1) := by decide +kernel
theorem dL_law_392 : decode cL_law 392 = .ok (.ireturn, 1) := by decide +kernel
theorem dL_law_393 : decode cL_law 393 = .ok (.aload_n 1, 1) := by decide +kernel
theorem dL_law_394 : decode cL_law 394 = .ok (.aload_n 0, 1) := by decide +kernel
theorem dL_law_395 : decode cL_law 395 = .ok (.iload_n 3, 1) := by decide +kernel
theorem dL_law_396 : decode cL_law 396 = .ok (.iconst 1, 1) := by decide +kernel
theorem dL_law_397 : decode cL_law 397 = .ok (.iadd, 1) := by decide +kernel
theorem dL_law_398 : decode cL_law 398 = .ok (.iaload, 1) := by decide +kernel
theorem dL_law_399 : decode cL_law 399 = .ok (.aload_n 0, 1) := by decide +kernel
theorem dL_law_400 : decode cL_law 400 = .ok (.iload_n 3, 1) := by decide +kernel
theorem dL_law_401 : decode cL_law 401 = .ok (.iconst 2, 1) := by decide +kernel
theorem dL_law_402 : decode cL_law 402 = .ok (.iadd, 1) := by decide +kernel
theorem dL_law_403 : decode cL_law 403 = .ok (.iaload, 1) := by decide +kernel
theorem dL_law_404 : decode cL_law 404 = .ok (.invokevirtual 53, 3) := by decide +kernel
theorem dL_law_407 : decode cL_law 407 = .ok (.aload_n 2, 1) := by decide +kernel
theorem dL_law_408 : decode cL_law 408 = .ok (.aload_n 0, 1) := by decide +kernel
theorem dL_law_409 : decode cL_law 409 = .ok (.iload_n 3, 1) := by decide +kernel
theorem dL_law_410 : decode cL_law 410 = .ok (.iconst 1, 1) := by decide +kernel
theorem dL_law_411 : decode cL_law 411 = .ok (.iadd, 1) := by decide +kernel
theorem dL_law_412 : decode cL_law 412 = .ok (.iaload, 1) := by decide +kernel
theorem dL_law_413 : decode cL_law 413 = .ok (.aload_n 0, 1) := by decide +kernel
theorem dL_law_414 : decode cL_law 414 = .ok (.iload_n 3, 1) := by decide +kernel
theorem dL_law_415 : decode cL_law 415 = .ok (.iconst 2, 1) := by decide +kernel
theorem dL_law_416 : decode cL_law 416 = .ok (.iadd, 1) := by decide +kernel
theorem dL_law_417 : decode cL_law 417 = .ok (.iaload, 1) := by decide +kernel
theorem dL_law_418 : decode cL_law 418 = .ok (.invokevirtual 56, 3) := by decide +kernel
theorem dL_law_421 : decode cL_law 421 = .ok (.if_icmp .eq 643, 3) := by decide +kernel
theorem dL_law_424 : decode cL_law 424 = .ok (.iconst 0, 1) := by decide +kernel
theorem dL_law_425 : decode cL_law 425 = .ok (.ireturn, 1) := by decide +kernel
theorem dL_law_426 : decode cL_law 426 = .ok (.aload_n 1, 1) := by decide +kernel
theorem dL_law_427 : decode cL_law 427 = .ok (.aload_n 0, 1) := by decide +kernel
theorem dL_law_428 : decode cL_law 428 = .ok (.iload_n 3, 1) := by decide +kernel
theorem dL_law_429 : decode cL_law 429 = .ok (.iconst 1, 1) := by decide +kernel
theorem dL_law_430 : decode cL_law 430 = .ok (.iadd, 1) := by decide +kernel
theorem dL_law_431 : decode cL_law 431 = .ok (.iaload, 1) := by decide +kernel
theorem dL_law_432 : decode cL_law 432 = .ok (.aload_n 0, 1) := by decide +kernel
theorem dL_law_433 : decode cL_law 433 = .ok (.iload_n 3, 1) := by decide +kernel
theorem dL_law_434 : decode cL_law 434 = .ok (.iconst 2, 1) := by decide +kernel
theorem dL_law_435 : decode cL_law 435 = .ok (.iadd, 1) := by decide +kernel
theorem dL_law_436 : decode cL_law 436 = .ok (.iaload, 1) := by decide +kernel
theorem dL_law_437 : decode cL_law 437 = .ok (.invokevirtual 57, 3) := by decide +kernel
theorem dL_law_440 : decode cL_law 440 = .ok (.aload_n 2, 1) := by decide +kernel
theorem dL_law_441 : decode cL_law 441 = .ok (.aload_n 0, 1) := by decide +kernel
theorem dL_law_442 : decode cL_law 442 = .ok (.iload_n 3, 1) := by decide +kernel
theorem dL_law_443 : decode cL_law 443 = .ok (.iconst 1, 1) := by decide +kernel
theorem dL_law_444 : decode cL_law 444 = .ok (.iadd, 1) := by decide +kernel
theorem dL_law_445 : decode cL_law 445 = .ok (.iaload, 1) := by decide +kernel
theorem dL_law_446 : decode cL_law 446 = .ok (.aload_n 0, 1) := by decide +kernel
theorem dL_law_447 : decode cL_law 447 = .ok (.iload_n 3, 1) := by decide +kernel
theorem dL_law_448 : decode cL_law 448 = .ok (.iconst 2, 1) := by decide +kernel
theorem dL_law_449 : decode cL_law 449 = .ok (.iadd, 1) := by decide +kernel
theorem dL_law_450 : decode cL_law 450 = .ok (.iaload, 1) := by decide +kernel
theorem dL_law_451 : decode cL_law 451 = .ok (.invokevirtual 60, 3) := by decide +kernel
theorem dL_law_454 : decode cL_law 454 = .ok (.if_icmp .eq 610, 3) := by decide +kernel
theorem dL_law_457 : decode cL_law 457 = .ok (.iconst 0, 1) := by decide +kernel
theorem dL_law_458 : decode cL_law 458 = .ok (.ireturn, 1) := by decide +kernel
theorem dL_law_459 : decode cL_law 459 = .ok (.aload_n 1, 1) := by decide +kernel
theorem dL_law_460 : decode cL_law 460 = .ok (.aload_n 0, 1) := by decide +kernel
theorem dL_law_461 : decode cL_law 461 = .ok (.iload_n 3, 1) := by decide +kernel
theorem dL_law_462 : decode cL_law 462 = .ok (.iconst 1, 1) := by decide +kernel
theorem dL_law_463 : decode cL_law 463 = .ok (.iadd, 1) := by decide +kernel
theorem dL_law_464 : decode cL_law 464 = .ok (.iaload, 1) := by decide +kernel
theorem dL_law_465 : decode cL_law 465 = .ok (.aload_n 0, 1) := by decide +kernel
theorem dL_law_466 : decode cL_law 466 = .ok (.iload_n 3, 1) := by decide +kernel
theorem dL_law_467 : decode cL_law 467 = .ok (.iconst 2, 1) := by decide +kernel
theorem dL_law_468 : decode cL_law 468 = .ok (.iadd, 1) := by decide +kernel
theorem dL_law_469 : decode cL_law 469 = .ok (.iaload, 1) := by decide +kernel
theorem dL_law_470 : decode cL_law 470 = .ok (.invokevirtual 61, 3) := by decide +kernel
theorem dL_law_473 : decode cL_law 473 = .ok (.aload_n 2, 1) := by decide +kernel
theorem dL_law_474 : decode cL_law 474 = .ok (.aload_n 0, 1) := by decide +kernel
theorem dL_law_475 : decode cL_law 475 = .ok (.iload_n 3, 1) := by decide +kernel
theorem dL_law_476 : decode cL_law 476 = .ok (.iconst 1, 1) := by decide +kernel
theorem dL_law_477 : decode cL_law 477 = .ok (.iadd, 1) := by decide +kernel
theorem dL_law_478 : decode cL_law 478 = .ok (.iaload, 1) := by decide +kernel
theorem dL_law_479 : decode cL_law 479 = .ok (.aload_n 0, 1) := by decide +kernel
theorem dL_law_480 : decode cL_law 480 = .ok (.iload_n 3, 1) := by decide +kernel
theorem dL_law_481 : decode cL_law 481 = .ok (.iconst 2, 1) := by decide +kernel
theorem dL_law_482 : decode cL_law 482 = .ok (.iadd, 1) := by decide +kernel
theorem dL_law_483 : decode cL_law 483 = .ok (.iaload, 1) := by decide +kernel
theorem dL_law_484 : decode cL_law 484 = .ok (.invokevirtual 64, 3) := by decide +kernel
theorem dL_law_487 : decode cL_law 487 = .ok (.if_icmp .eq 577, 3) := by decide +kernel
theorem dL_law_490 : decode cL_law 490 = .ok (.iconst 0, 1) := by decide +kernel
theorem dL_law_491 : decode cL_law 491 = .ok (.ireturn, 1) := by decide +kernel
theorem dL_law_492 : decode cL_law 492 = .ok (.aload_n 1, 1) := by decide +kernel
theorem dL_law_493 : decode cL_law 493 = .ok (.aload_n 0, 1) := by decide +kernel
theorem dL_law_494 : decode cL_law 494 = .ok (.iload_n 3, 1) := by decide +kernel
theorem dL_law_495 : decode cL_law 495 = .ok (.iconst 1, 1) := by decide +kernel
theorem dL_law_496 : decode cL_law 496 = .ok (.iadd, 1) := by decide +kernel
theorem dL_law_497 : decode cL_law 497 = .ok (.iaload, 1) := by decide +kernel
theorem dL_law_498 : decode cL_law 498 = .ok (.aload_n 0, 1) := by decide +kernel
theorem dL_law_499 : decode cL_law 499 = .ok (.iload_n 3, 1) := by decide +kernel
theorem dL_law_500 : decode cL_law 500 = .ok (.iconst 2, 1) := by decide +kernel
theorem dL_law_501 : decode cL_law 501 = .ok (.iadd, 1) := by decide +kernel
theorem dL_law_502 : decode cL_law 502 = .ok (.iaload, 1) := by decide +kernel
theorem dL_law_503 : decode cL_law 503 = .ok (.invokevirtual 65, 3) := by decide +kernel
theorem dL_law_506 : decode cL_law 506 = .ok (.aload_n 2, 1) := by decide +kernel
theorem dL_law_507 : decode cL_law 507 = .ok (.aload_n 0, 1) := by decide +kernel
theorem dL_law_508 : decode cL_law 508 = .ok (.iload_n 3, 1) := by decide +kernel
theorem dL_law_509 : decode cL_law 509 = .ok (.iconst 1, 1) := by decide +kernel
theorem dL_law_510 : decode cL_law 510 = .ok (.iadd, 1) := by decide +kernel
theorem dL_law_511 : decode cL_law 511 = .ok (.iaload, 1) := by decide +kernel
theorem dL_law_512 : decode cL_law 512 = .ok (.aload_n 0, 1) := by decide +kernel
theorem dL_law_513 : decode cL_law 513 = .ok (.iload_n 3, 1) := by decide +kernel
theorem dL_law_514 : decode cL_law 514 = .ok (.iconst 2, 1) := by decide +kernel
theorem dL_law_515 : decode cL_law 515 = .ok (.iadd, 1) := by decide +kernel
theorem dL_law_516 : decode cL_law 516 = .ok (.iaload, 1) := by decide +kernel
theorem dL_law_517 : decode cL_law 517 = .ok (.invokevirtual 68, 3) := by decide +kernel
theorem dL_law_520 : decode cL_law 520 = .ok (.if_icmp .eq 544, 3) := by decide +kernel
theorem dL_law_523 : decode cL_law 523 = .ok (.iconst 0, 1) := by decide +kernel
theorem dL_law_524 : decode cL_law 524 = .ok (.ireturn, 1) := by decide +kernel
theorem dL_law_525 : decode cL_law 525 = .ok (.aload_n 1, 1) := by decide +kernel
theorem dL_law_526 : decode cL_law 526 = .ok (.aload_n 0, 1) := by decide +kernel
theorem dL_law_527 : decode cL_law 527 = .ok (.iload_n 3, 1) := by decide +kernel
theorem dL_law_528 : decode cL_law 528 = .ok (.iconst 1, 1) := by decide +kernel
theorem dL_law_529 : decode cL_law 529 = .ok (.iadd, 1) := by decide +kernel
theorem dL_law_530 : decode cL_law 530 = .ok (.iaload, 1) := by decide +kernel
theorem dL_law_531 : decode cL_law 531 = .ok (.aload_n 0, 1) := by decide +kernel
theorem dL_law_532 : decode cL_law 532 = .ok (.iload_n 3, 1) := by decide +kernel
theorem dL_law_533 : decode cL_law 533 = .ok (.iconst 2, 1) := by decide +kernel
theorem dL_law_534 : decode cL_law 534 = .ok (.iadd, 1) := by decide +kernel
theorem dL_law_535 : decode cL_law 535 = .ok (.iaload, 1) := by decide +kernel
theorem dL_law_536 : decode cL_law 536 = .ok (.invokevirtual 69, 3) := by decide +kernel
theorem dL_law_539 : decode cL_law 539 = .ok (.aload_n 2, 1) := by decide +kernel
theorem dL_law_540 : decode cL_law 540 = .ok (.aload_n 0, 1) := by decide +kernel
theorem dL_law_541 : decode cL_law 541 = .ok (.iload_n 3, 1) := by decide +kernel
theorem dL_law_542 : decode cL_law 542 = .ok (.iconst 1, 1) := by decide +kernel
theorem dL_law_543 : decode cL_law 543 = .ok (.iadd, 1) := by decide +kernel
theorem dL_law_544 : decode cL_law 544 = .ok (.iaload, 1) := by decide +kernel
theorem dL_law_545 : decode cL_law 545 = .ok (.aload_n 0, 1) := by decide +kernel
theorem dL_law_546 : decode cL_law 546 = .ok (.iload_n 3, 1) := by decide +kernel
theorem dL_law_547 : decode cL_law 547 = .ok (.iconst 2, 1) := by decide +kernel
theorem dL_law_548 : decode cL_law 548 = .ok (.iadd, 1) := by decide +kernel
theorem dL_law_549 : decode cL_law 549 = .ok (.iaload, 1) := by decide +kernel
theorem dL_law_550 : decode cL_law 550 = .ok (.invokevirtual 72, 3) := by decide +kernel
theorem dL_law_553 : decode cL_law 553 = .ok (.if_icmp .eq 511, 3) := by decide +kernel
theorem dL_law_556 : decode cL_law 556 = .ok (.iconst 0, 1) := by decide +kernel
theorem dL_law_557 : decode cL_law 557 = .ok (.ireturn, 1) := by decide +kernel
theorem dL_law_558 : decode cL_law 558 = .ok (.aload_n 1, 1) := by decide +kernel
theorem dL_law_559 : decode cL_law 559 = .ok (.invokevirtual 73, 3) := by decide +kernel
theorem dL_law_562 : decode cL_law 562 = .ok (.aload_n 2, 1) := by decide +kernel
theorem dL_law_563 : decode cL_law 563 = .ok (.invokevirtual 76, 3) := by decide +kernel
theorem dL_law_566 : decode cL_law 566 = .ok (.if_icmp .eq 498, 3) := by decide +kernel
theorem dL_law_569 : decode cL_law 569 = .ok (.iconst 0, 1) := by decide +kernel
theorem dL_law_570 : decode cL_law 570 = .ok (.ireturn, 1) := by decide +kernel
theorem dL_law_571 : decode cL_law 571 = .ok (.aload_n 1, 1) := by decide +kernel
theorem dL_law_572 : decode cL_law 572 = .ok (.aload_n 0, 1) := by decide +kernel
theorem dL_law_573 : decode cL_law 573 = .ok (.iload_n 3, 1) := by decide +kernel
theorem dL_law_574 : decode cL_law 574 = .ok (.iconst 1, 1) := by decide +kernel
theorem dL_law_575 : decode cL_law 575 = .ok (.iadd, 1) := by decide +kernel
theorem dL_law_576 : decode cL_law 576 = .ok (.iaload, 1) := by decide +kernel
theorem dL_law_577 : decode cL_law 577 = .ok (.aload_n 0, 1) := by decide +kernel
theorem dL_law_578 : decode cL_law 578 = .ok (.iload_n 3, 1) := by decide +kernel
theorem dL_law_579 : decode cL_law 579 = .ok (.iconst 2, 1) := by decide +kernel
theorem dL_law_580 : decode cL_law 580 = .ok (.iadd, 1) := by decide +kernel
theorem dL_law_581 : decode cL_law 581 = .ok (.iaload, 1) := by decide +kernel
theorem dL_law_582 : decode cL_law 582 = .ok (.invokevirtual 77, 3) := by decide +kernel
theorem dL_law_585 : decode cL_law 585 = .ok (.aload_n 2, 1) := by decide +kernel
theorem dL_law_586 : decode cL_law 586 = .ok (.aload_n 0, 1) := by decide +kernel
theorem dL_law_587 : decode cL_law 587 = .ok (.iload_n 3, 1) := by decide +kernel
theorem dL_law_588 : decode cL_law 588 = .ok (.iconst 1, 1) := by decide +kernel
theorem dL_law_589 : decode cL_law 589 = .ok (.iadd, 1) := by decide +kernel
theorem dL_law_590 : decode cL_law 590 = .ok (.iaload, 1) := by decide +kernel
theorem dL_law_591 : decode cL_law 591 = .ok (.aload_n 0, 1) := by decide +kernel
theorem dL_law_592 : decode cL_law 592 = .ok (.iload_n 3, 1) := by decide +kernel
theorem dL_law_593 : decode cL_law 593 = .ok (.iconst 2, 1) := by decide +kernel
theorem dL_law_594 : decode cL_law 594 = .ok (.iadd, 1) := by decide +kernel
theorem dL_law_595 : decode cL_law 595 = .ok (.iaload, 1) := by decide +kernel
theorem dL_law_596 : decode cL_law 596 = .ok (.invokevirtual 80, 3) := by decide +kernel
theorem dL_law_599 : decode cL_law 599 = .ok (.if_icmp .eq 465, 3) := by decide +kernel
theorem dL_law_602 : decode cL_law 602 = .ok (.iconst 0, 1) := by decide +kernel
theorem dL_law_603 : decode cL_law 603 = .ok (.ireturn, 1) := by decide +kernel
theorem dL_law_604 : decode cL_law 604 = .ok (.aload_n 1, 1) := by decide +kernel
theorem dL_law_605 : decode cL_law 605 = .ok (.aload_n 0, 1) := by decide +kernel
theorem dL_law_606 : decode cL_law 606 = .ok (.iload_n 3, 1) := by decide +kernel
theorem dL_law_607 : decode cL_law 607 = .ok (.iconst 1, 1) := by decide +kernel
theorem dL_law_608 : decode cL_law 608 = .ok (.iadd, 1) := by decide +kernel
theorem dL_law_609 : decode cL_law 609 = .ok (.iaload, 1) := by decide +kernel
theorem dL_law_610 : decode cL_law 610 = .ok (.invokevirtual 81, 3) := by decide +kernel
theorem dL_law_613 : decode cL_law 613 = .ok (.aload_n 2, 1) := by decide +kernel
theorem dL_law_614 : decode cL_law 614 = .ok (.aload_n 0, 1) := by decide +kernel
theorem dL_law_615 : decode cL_law 615 = .ok (.iload_n 3, 1) := by decide +kernel
theorem dL_law_616 : decode cL_law 616 = .ok (.iconst 1, 1) := by decide +kernel
theorem dL_law_617 : decode cL_law 617 = .ok (.iadd, 1) := by decide +kernel
theorem dL_law_618 : decode cL_law 618 = .ok (.iaload, 1) := by decide +kernel
theorem dL_law_619 : decode cL_law 619 = .ok (.invokevirtual 84, 3) := by decide +kernel
theorem dL_law_622 : decode cL_law 622 = .ok (.if_icmp .eq 442, 3) := by decide +kernel
theorem dL_law_625 : decode cL_law 625 = .ok (.iconst 0, 1) := by decide +kernel
theorem dL_law_626 : decode cL_law 626 = .ok (.ireturn, 1) := by decide +kernel
theorem dL_law_627 : decode cL_law 627 = .ok (.aload_n 1, 1) := by decide +kernel
theorem dL_law_628 : decode cL_law 628 = .ok (.aload_n 0, 1) := by decide +kernel
theorem dL_law_629 : decode cL_law 629 = .ok (.iload_n 3, 1) := by decide +kernel
theorem dL_law_630 : decode cL_law 630 = .ok (.iconst 1, 1) := by decide +kernel
theorem dL_law_631 : decode cL_law 631 = .ok (.iadd, 1) := by decide +kernel
theorem dL_law_632 : decode cL_law 632 = .ok (.iaload, 1) := by decide +kernel
theorem dL_law_633 : decode cL_law 633 = .ok (.aload_n 0, 1) := by decide +kernel
theorem dL_law_634 : decode cL_law 634 = .ok (.iload_n 3, 1) := by decide +kernel
theorem dL_law_635 : decode cL_law 635 = .ok (.iconst 2, 1) := by decide +kernel
theorem dL_law_636 : decode cL_law 636 = .ok (.iadd, 1) := by decide +kernel
theorem dL_law_637 : decode cL_law 637 = .ok (.iaload, 1) := by decide +kernel
theorem dL_law_638 : decode cL_law 638 = .ok (.invokevirtual 85, 3) := by decide +kernel
theorem dL_law_641 : decode cL_law 641 = .ok (.aload_n 2, 1) := by decide +kernel
theorem dL_law_642 : decode cL_law 642 = .ok (.aload_n 0, 1) := by decide +kernel
theorem dL_law_643 : decode cL_law 643 = .ok (.iload_n 3, 1) := by decide +kernel
theorem dL_law_644 : decode cL_law 644 = .ok (.iconst 1, 1) := by decide +kernel
theorem dL_law_645 : decode cL_law 645 = .ok (.iadd, 1) := by decide +kernel
theorem dL_law_646 : decode cL_law 646 = .ok (.iaload, 1) := by decide +kernel
theorem dL_law_647 : decode cL_law 647 = .ok (.aload_n 0, 1) := by decide +kernel
theorem dL_law_648 : decode cL_law 648 = .ok (.iload_n 3, 1) := by decide +kernel
theorem dL_law_649 : decode cL_law 649 = .ok (.iconst 2, 1) := by decide +kernel
theorem dL_law_650 : decode cL_law 650 = .ok (.iadd, 1) := by decide +kernel
theorem dL_law_651 : decode cL_law 651 = .ok (.iaload, 1) := by decide +kernel
theorem dL_law_652 : decode cL_law 652 = .ok (.invokevirtual 88, 3) := by decide +kernel
theorem dL_law_655 : decode cL_law 655 = .ok (.if_icmp .eq 409, 3) := by decide +kernel
theorem dL_law_658 : decode cL_law 658 = .ok (.iconst 0, 1) := by decide +kernel
theorem dL_law_659 : decode cL_law 659 = .ok (.ireturn, 1) := by decide +kernel
theorem dL_law_660 : decode cL_law 660 = .ok (.aload_n 1, 1) := by decide +kernel
theorem dL_law_661 : decode cL_law 661 = .ok (.aload_n 0, 1) := by decide +kernel
theorem dL_law_662 : decode cL_law 662 = .ok (.iload_n 3, 1) := by decide +kernel
theorem dL_law_663 : decode cL_law 663 = .ok (.iconst 1, 1) := by decide +kernel
theorem dL_law_664 : decode cL_law 664 = .ok (.iadd, 1) := by decide +kernel
theorem dL_law_665 : decode cL_law 665 = .ok (.iaload, 1) := by decide +kernel
theorem dL_law_666 : decode cL_law 666 = .ok (.aload_n 0, 1) := by decide +kernel
theorem dL_law_667 : decode cL_law 667 = .ok (.iload_n 3, 1) := by decide +kernel
theorem dL_law_668 : decode cL_law 668 = .ok (.iconst 2, 1) := by decide +kernel
theorem dL_law_669 : decode cL_law 669 = .ok (.iadd, 1) := by decide +kernel
theorem dL_law_670 : decode cL_law 670 = .ok (.iaload, 1) := by decide +kernel
theorem dL_law_671 : decode cL_law 671 = .ok (.aload_n 0, 1) := by decide +kernel
theorem dL_law_672 : decode cL_law 672 = .ok (.iload_n 3, 1) := by decide +kernel
theorem dL_law_673 : decode cL_law 673 = .ok (.iconst 3, 1) := by decide +kernel
theorem dL_law_674 : decode cL_law 674 = .ok (.iadd, 1) := by decide +kernel
theorem dL_law_675 : decode cL_law 675 = .ok (.iaload, 1) := by decide +kernel
theorem dL_law_676 : decode cL_law 676 = .ok (.aload_n 0, 1) := by decide +kernel
theorem dL_law_677 : decode cL_law 677 = .ok (.iload_n 3, 1) := by decide +kernel
theorem dL_law_678 : decode cL_law 678 = .ok (.iconst 4, 1) := by decide +kernel
theorem dL_law_679 : decode cL_law 679 = .ok (.iadd, 1) := by decide +kernel
theorem dL_law_680 : decode cL_law 680 = .ok (.iaload, 1) := by decide +kernel
theorem dL_law_681 : decode cL_law 681 = .ok (.invokevirtual 89, 3) := by decide +kernel
theorem dL_law_684 : decode cL_law 684 = .ok (.aload_n 2, 1) := by decide +kernel
theorem dL_law_685 : decode cL_law 685 = .ok (.aload_n 0, 1) := by decide +kernel
theorem dL_law_686 : decode cL_law 686 = .ok (.iload_n 3, 1) := by decide +kernel
theorem dL_law_687 : decode cL_law 687 = .ok (.iconst 1, 1) := by decide +kernel
theorem dL_law_688 : decode cL_law 688 = .ok (.iadd, 1) := by decide +kernel
theorem dL_law_689 : decode cL_law 689 = .ok (.iaload, 1) := by decide +kernel
theorem dL_law_690 : decode cL_law 690 = .ok (.aload_n 0, 1) := by decide +kernel
theorem dL_law_691 : decode cL_law 691 = .ok (.iload_n 3, 1) := by decide +kernel
theorem dL_law_692 : decode cL_law 692 = .ok (.iconst 2, 1) := by decide +kernel
theorem dL_law_693 : decode cL_law 693 = .ok (.iadd, 1) := by decide +kernel
theorem dL_law_694 : decode cL_law 694 = .ok (.iaload, 1) := by decide +kernel
theorem dL_law_695 : decode cL_law 695 = .ok (.aload_n 0, 1) := by decide +kernel
theorem dL_law_696 : decode cL_law 696 = .ok (.iload_n 3, 1) := by decide +kernel
theorem dL_law_697 : decode cL_law 697 = .ok (.iconst 3, 1) := by decide +kernel
theorem dL_law_698 : decode cL_law 698 = .ok (.iadd, 1) := by decide +kernel
theorem dL_law_699 : decode cL_law 699 = .ok (.iaload, 1) := by decide +kernel
theorem dL_law_700 : decode cL_law 700 = .ok (.aload_n 0, 1) := by decide +kernel
theorem dL_law_701 : decode cL_law 701 = .ok (.iload_n 3, 1) := by decide +kernel
theorem dL_law_702 : decode cL_law 702 = .ok (.iconst 4, 1) := by decide +kernel
theorem dL_law_703 : decode cL_law 703 = .ok (.iadd, 1) := by decide +kernel
theorem dL_law_704 : decode cL_law 704 = .ok (.iaload, 1) := by decide +kernel
theorem dL_law_705 : decode cL_law 705 = .ok (.invokevirtual 92, 3) := by decide +kernel
theorem dL_law_708 : decode cL_law 708 = .ok (.if_icmp .eq 356, 3) := by decide +kernel
theorem dL_law_711 : decode cL_law 711 = .ok (.iconst 0, 1) := by decide +kernel
theorem dL_law_712 : decode cL_law 712 = .ok (.ireturn, 1) := by decide +kernel
theorem dL_law_713 : decode cL_law 713 = .ok (.aload_n 1, 1) := by decide +kernel
theorem dL_law_714 : decode cL_law 714 = .ok (.aload_n 0, 1) := by decide +kernel
theorem dL_law_715 : decode cL_law 715 = .ok (.iload_n 3, 1) := by decide +kernel
theorem dL_law_716 : decode cL_law 716 = .ok (.iconst 1, 1) := by decide +kernel
theorem dL_law_717 : decode cL_law 717 = .ok (.iadd, 1) := by decide +kernel
theorem dL_law_718 : decode cL_law 718 = .ok (.iaload, 1) := by decide +kernel
theorem dL_law_719 : decode cL_law 719 = .ok (.aload_n 0, 1) := by decide +kernel
theorem dL_law_720 : decode cL_law 720 = .ok (.iload_n 3, 1) := by decide +kernel
theorem dL_law_721 : decode cL_law 721 = .ok (.iconst 2, 1) := by decide +kernel
theorem dL_law_722 : decode cL_law 722 = .ok (.iadd, 1) := by decide +kernel
theorem dL_law_723 : decode cL_law 723 = .ok (.iaload, 1) := by decide +kernel
theorem dL_law_724 : decode cL_law 724 = .ok (.aload_n 0, 1) := by decide +kernel
theorem dL_law_725 : decode cL_law 725 = .ok (.iload_n 3, 1) := by decide +kernel
theorem dL_law_726 : decode cL_law 726 = .ok (.iconst 3, 1) := by decide +kernel
theorem dL_law_727 : decode cL_law 727 = .ok (.iadd, 1) := by decide +kernel
theorem dL_law_728 : decode cL_law 728 = .ok (.iaload, 1) := by decide +kernel
theorem dL_law_729 : decode cL_law 729 = .ok (.aload_n 0, 1) := by decide +kernel
theorem dL_law_730 : decode cL_law 730 = .ok (.iload_n 3, 1) := by decide +kernel
theorem dL_law_731 : decode cL_law 731 = .ok (.iconst 4, 1) := by decide +kernel
theorem dL_law_732 : decode cL_law 732 = .ok (.iadd, 1) := by decide +kernel
theorem dL_law_733 : decode cL_law 733 = .ok (.iaload, 1) := by decide +kernel
theorem dL_law_734 : decode cL_law 734 = .ok (.invokevirtual 93, 3) := by decide +kernel
theorem dL_law_737 : decode cL_law 737 = .ok (.aload_n 2, 1) := by decide +kernel
theorem dL_law_738 : decode cL_law 738 = .ok (.aload_n 0, 1) := by decide +kernel
theorem dL_law_739 : decode cL_law 739 = .ok (.iload_n 3, 1) := by decide +kernel
theorem dL_law_740 : decode cL_law 740 = .ok (.iconst 1, 1) := by decide +kernel
theorem dL_law_741 : decode cL_law 741 = .ok (.iadd, 1) := by decide +kernel
theorem dL_law_742 : decode cL_law 742 = .ok (.iaload, 1) := by decide +kernel
theorem dL_law_743 : decode cL_law 743 = .ok (.aload_n 0, 1) := by decide +kernel
theorem dL_law_744 : decode cL_law 744 = .ok (.iload_n 3, 1) := by decide +kernel
theorem dL_law_745 : decode cL_law 745 = .ok (.iconst 2, 1) := by decide +kernel
theorem dL_law_746 : decode cL_law 746 = .ok (.iadd, 1) := by decide +kernel
theorem dL_law_747 : decode cL_law 747 = .ok (.iaload, 1) := by decide +kernel
theorem dL_law_748 : decode cL_law 748 = .ok (.aload_n 0, 1) := by decide +kernel
theorem dL_law_749 : decode cL_law 749 = .ok (.iload_n 3, 1) := by decide +kernel
theorem dL_law_750 : decode cL_law 750 = .ok (.iconst 3, 1) := by decide +kernel
theorem dL_law_751 : decode cL_law 751 = .ok (.iadd, 1) := by decide +kernel
theorem dL_law_752 : decode cL_law 752 = .ok (.iaload, 1) := by decide +kernel
theorem dL_law_753 : decode cL_law 753 = .ok (.aload_n 0, 1) := by decide +kernel
theorem dL_law_754 : decode cL_law 754 = .ok (.iload_n 3, 1) := by decide +kernel
theorem dL_law_755 : decode cL_law 755 = .ok (.iconst 4, 1) := by decide +kernel
theorem dL_law_756 : decode cL_law 756 = .ok (.iadd, 1) := by decide +kernel
theorem dL_law_757 : decode cL_law 757 = .ok (.iaload, 1) := by decide +kernel
theorem dL_law_758 : decode cL_law 758 = .ok (.invokevirtual 96, 3) := by decide +kernel
theorem dL_law_761 : decode cL_law 761 = .ok (.if_icmp .eq 303, 3) := by decide +kernel
theorem dL_law_764 : decode cL_law 764 = .ok (.iconst 0, 1) := by decide +kernel
theorem dL_law_765 : decode cL_law 765 = .ok (.ireturn, 1) := by decide +kernel
theorem dL_law_766 : decode cL_law 766 = .ok (.aload_n 1, 1) := by decide +kernel
theorem dL_law_767 : decode cL_law 767 = .ok (.invokevirtual 97, 3) := by decide +kernel
theorem dL_law_770 : decode cL_law 770 = .ok (.aload_n 2, 1) := by decide +kernel
theorem dL_law_771 : decode cL_law 771 = .ok (.invokevirtual 100, 3) := by decide +kernel
theorem dL_law_774 : decode cL_law 774 = .ok (.if_icmp .eq 290, 3) := by decide +kernel
theorem dL_law_777 : decode cL_law 777 = .ok (.iconst 0, 1) := by decide +kernel
theorem dL_law_778 : decode cL_law 778 = .ok (.ireturn, 1) := by decide +kernel
theorem dL_law_779 : decode cL_law 779 = .ok (.aload_n 1, 1) := by decide +kernel
theorem dL_law_780 : decode cL_law 780 = .ok (.aload_n 0, 1) := by decide +kernel
theorem dL_law_781 : decode cL_law 781 = .ok (.iload_n 3, 1) := by decide +kernel
theorem dL_law_782 : decode cL_law 782 = .ok (.iconst 1, 1) := by decide +kernel
theorem dL_law_783 : decode cL_law 783 = .ok (.iadd, 1) := by decide +kernel
theorem dL_law_784 : decode cL_law 784 = .ok (.iaload, 1) := by decide +kernel
theorem dL_law_785 : decode cL_law 785 = .ok (.invokevirtual 101, 3) := by decide +kernel
theorem dL_law_788 : decode cL_law 788 = .ok (.aload_n 2, 1) := by decide +kernel
theorem dL_law_789 : decode cL_law 789 = .ok (.aload_n 0, 1) := by decide +kernel
theorem dL_law_790 : decode cL_law 790 = .ok (.iload_n 3, 1) := by decide +kernel
theorem dL_law_791 : decode cL_law 791 = .ok (.iconst 1, 1) := by decide +kernel
theorem dL_law_792 : decode cL_law 792 = .ok (.iadd, 1) := by decide +kernel
theorem dL_law_793 : decode cL_law 793 = .ok (.iaload, 1) := by decide +kernel
theorem dL_law_794 : decode cL_law 794 = .ok (.invokevirtual 104, 3) := by decide +kernel
theorem dL_law_797 : decode cL_law 797 = .ok (.if_icmp .eq 267, 3) := by decide +kernel
theorem dL_law_800 : decode cL_law 800 = .ok (.iconst 0, 1) := by decide +kernel
theorem dL_law_801 : decode cL_law 801 = .ok (.ireturn, 1) := by decide +kernel
theorem dL_law_802 : decode cL_law 802 = .ok (.aload_n 1, 1) := by decide +kernel
theorem dL_law_803 : decode cL_law 803 = .ok (.aload_n 0, 1) := by decide +kernel
theorem dL_law_804 : decode cL_law 804 = .ok (.iload_n 3, 1) := by decide +kernel
theorem dL_law_805 : decode cL_law 805 = .ok (.iconst 1, 1) := by decide +kernel
theorem dL_law_806 : decode cL_law 806 = .ok (.iadd, 1) := by decide +kernel
theorem dL_law_807 : decode cL_law 807 = .ok (.iaload, 1) := by decide +kernel
theorem dL_law_808 : decode cL_law 808 = .ok (.invokevirtual 105, 3) := by decide +kernel
theorem dL_law_811 : decode cL_law 811 = .ok (.aload_n 2, 1) := by decide +kernel
theorem dL_law_812 : decode cL_law 812 = .ok (.aload_n 0, 1) := by decide +kernel
theorem dL_law_813 : decode cL_law 813 = .ok (.iload_n 3, 1) := by decide +kernel
theorem dL_law_814 : decode cL_law 814 = .ok (.iconst 1, 1) := by decide +kernel
theorem dL_law_815 : decode cL_law 815 = .ok (.iadd, 1) := by decide +kernel
theorem dL_law_816 : decode cL_law 816 = .ok (.iaload, 1) := by decide +kernel
theorem dL_law_817 : decode cL_law 817 = .ok (.invokevirtual 108, 3) := by decide +kernel
theorem dL_law_820 : decode cL_law 820 = .ok (.if_icmp .eq 244, 3) := by decide +kernel
theorem dL_law_823 : decode cL_law 823 = .ok (.iconst 0, 1) := by decide +kernel
theorem dL_law_824 : decode cL_law 824 = .ok (.ireturn, 1) := by decide +kernel
theorem dL_law_825 : decode cL_law 825 = .ok (.aload_n 1, 1) := by decide +kernel
theorem dL_law_826 : decode cL_law 826 = .ok (.aload_n 0, 1) := by decide +kernel
theorem dL_law_827 : decode cL_law 827 = .ok (.iload_n 3, 1) := by decide +kernel
theorem dL_law_828 : decode cL_law 828 = .ok (.iconst 1, 1) := by decide +kernel
theorem dL_law_829 : decode cL_law 829 = .ok (.iadd, 1) := by decide +kernel
theorem dL_law_830 : decode cL_law 830 = .ok (.iaload, 1) := by decide +kernel
theorem dL_law_831 : decode cL_law 831 = .ok (.aload_n 0, 1) := by decide +kernel
theorem dL_law_832 : decode cL_law 832 = .ok (.iload_n 3, 1) := by decide +kernel
theorem dL_law_833 : decode cL_law 833 = .ok (.iconst 2, 1) := by decide +kernel
theorem dL_law_834 : decode cL_law 834 = .ok (.iadd, 1) := by decide +kernel
theorem dL_law_835 : decode cL_law 835 = .ok (.iaload, 1) := by decide +kernel
theorem dL_law_836 : decode cL_law 836 = .ok (.aload_n 0, 1) := by decide +kernel
theorem dL_law_837 : decode cL_law 837 = .ok (.iload_n 3, 1) := by decide +kernel
theorem dL_law_838 : decode cL_law 838 = .ok (.iconst 3, 1) := by decide +kernel
theorem dL_law_839 : decode cL_law 839 = .ok (.iadd, 1) := by decide +kernel
theorem dL_law_840 : decode cL_law 840 = .ok (.iaload, 1) := by decide +kernel
theorem dL_law_841 : decode cL_law 841 = .ok (.invokevirtual 109, 3) := by decide +kernel
theorem dL_law_844 : decode cL_law 844 = .ok (.aload_n 2, 1) := by decide +kernel
theorem dL_law_845 : decode cL_law 845 = .ok (.aload_n 0, 1) := by decide +kernel
theorem dL_law_846 : decode cL_law 846 = .ok (.iload_n 3, 1) := by decide +kernel
theorem dL_law_847 : decode cL_law 847 = .ok (.iconst 1, 1) := by decide +kernel
theorem dL_law_848 : decode cL_law 848 = .ok (.iadd, 1) := by decide +kernel
theorem dL_law_849 : decode cL_law 849 = .ok (.iaload, 1) := by decide +kernel
theorem dL_law_850 : decode cL_law 850 = .ok (.aload_n 0, 1) := by decide +kernel
theorem dL_law_851 : decode cL_law 851 = .ok (.iload_n 3, 1) := by decide +kernel
theorem dL_law_852 : decode cL_law 852 = .ok (.iconst 2, 1) := by decide +kernel
theorem dL_law_853 : decode cL_law 853 = .ok (.iadd, 1) := by decide +kernel
theorem dL_law_854 : decode cL_law 854 = .ok (.iaload, 1) := by decide +kernel
theorem dL_law_855 : decode cL_law 855 = .ok (.aload_n 0, 1) := by decide +kernel
theorem dL_law_856 : decode cL_law 856 = .ok (.iload_n 3, 1) := by decide +kernel
theorem dL_law_857 : decode cL_law 857 = .ok (.iconst 3, 1) := by decide +kernel
theorem dL_law_858 : decode cL_law 858 = .ok (.iadd, 1) := by decide +kernel
theorem dL_law_859 : decode cL_law 859 = .ok (.iaload, 1) := by decide +kernel
theorem dL_law_860 : decode cL_law 860 = .ok (.invokevirtual 113, 3) := by decide +kernel
theorem dL_law_863 : decode cL_law 863 = .ok (.if_icmp .eq 201, 3) := by decide +kernel
theorem dL_law_866 : decode cL_law 866 = .ok (.iconst 0, 1) := by decide +kernel
theorem dL_law_867 : decode cL_law 867 = .ok (.ireturn, 1) := by decide +kernel
theorem dL_law_868 : decode cL_law 868 = .ok (.aload_n 1, 1) := by decide +kernel
theorem dL_law_869 : decode cL_law 869 = .ok (.aload_n 0, 1) := by decide +kernel
theorem dL_law_870 : decode cL_law 870 = .ok (.iload_n 3, 1) := by decide +kernel
theorem dL_law_871 : decode cL_law 871 = .ok (.iconst 1, 1) := by decide +kernel
theorem dL_law_872 : decode cL_law 872 = .ok (.iadd, 1) := by decide +kernel
theorem dL_law_873 : decode cL_law 873 = .ok (.iaload, 1) := by decide +kernel
theorem dL_law_874 : decode cL_law 874 = .ok (.aload_n 0, 1) := by decide +kernel
theorem dL_law_875 : decode cL_law 875 = .ok (.iload_n 3, 1) := by decide +kernel
theorem dL_law_876 : decode cL_law 876 = .ok (.iconst 2, 1) := by decide +kernel
theorem dL_law_877 : decode cL_law 877 = .ok (.iadd, 1) := by decide +kernel
theorem dL_law_878 : decode cL_law 878 = .ok (.iaload, 1) := by decide +kernel
theorem dL_law_879 : decode cL_law 879 = .ok (.invokevirtual 114, 3) := by decide +kernel
theorem dL_law_882 : decode cL_law 882 = .ok (.aload_n 2, 1) := by decide +kernel
theorem dL_law_883 : decode cL_law 883 = .ok (.aload_n 0, 1) := by decide +kernel
theorem dL_law_884 : decode cL_law 884 = .ok (.iload_n 3, 1) := by decide +kernel
theorem dL_law_885 : decode cL_law 885 = .ok (.iconst 1, 1) := by decide +kernel
theorem dL_law_886 : decode cL_law 886 = .ok (.iadd, 1) := by decide +kernel
theorem dL_law_887 : decode cL_law 887 = .ok (.iaload, 1) := by decide +kernel
theorem dL_law_888 : decode cL_law 888 = .ok (.aload_n 0, 1) := by decide +kernel
theorem dL_law_889 : decode cL_law 889 = .ok (.iload_n 3, 1) := by decide +kernel
theorem dL_law_890 : decode cL_law 890 = .ok (.iconst 2, 1) := by decide +kernel
theorem dL_law_891 : decode cL_law 891 = .ok (.iadd, 1) := by decide +kernel
theorem dL_law_892 : decode cL_law 892 = .ok (.iaload, 1) := by decide +kernel
theorem dL_law_893 : decode cL_law 893 = .ok (.invokevirtual 117, 3) := by decide +kernel
theorem dL_law_896 : decode cL_law 896 = .ok (.if_icmp .eq 168, 3) := by decide +kernel
theorem dL_law_899 : decode cL_law 899 = .ok (.iconst 0, 1) := by decide +kernel
theorem dL_law_900 : decode cL_law 900 = .ok (.ireturn, 1) := by decide +kernel
theorem dL_law_901 : decode cL_law 901 = .ok (.aload_n 1, 1) := by decide +kernel
theorem dL_law_902 : decode cL_law 902 = .ok (.aload_n 0, 1) := by decide +kernel
theorem dL_law_903 : decode cL_law 903 = .ok (.iload_n 3, 1) := by decide +kernel
theorem dL_law_904 : decode cL_law 904 = .ok (.iconst 1, 1) := by decide +kernel
theorem dL_law_905 : decode cL_law 905 = .ok (.iadd, 1) := by decide +kernel
theorem dL_law_906 : decode cL_law 906 = .ok (.iaload, 1) := by decide +kernel
theorem dL_law_907 : decode cL_law 907 = .ok (.aload_n 0, 1) := by decide +kernel
theorem dL_law_908 : decode cL_law 908 = .ok (.iload_n 3, 1) := by decide +kernel
theorem dL_law_909 : decode cL_law 909 = .ok (.iconst 2, 1) := by decide +kernel
theorem dL_law_910 : decode cL_law 910 = .ok (.iadd, 1) := by decide +kernel
theorem dL_law_911 : decode cL_law 911 = .ok (.iaload, 1) := by decide +kernel
theorem dL_law_912 : decode cL_law 912 = .ok (.invokevirtual 118, 3) := by decide +kernel
theorem dL_law_915 : decode cL_law 915 = .ok (.aload_n 2, 1) := by decide +kernel
theorem dL_law_916 : decode cL_law 916 = .ok (.aload_n 0, 1) := by decide +kernel
theorem dL_law_917 : decode cL_law 917 = .ok (.iload_n 3, 1) := by decide +kernel
theorem dL_law_918 : decode cL_law 918 = .ok (.iconst 1, 1) := by decide +kernel
theorem dL_law_919 : decode cL_law 919 = .ok (.iadd, 1) := by decide +kernel
theorem dL_law_920 : decode cL_law 920 = .ok (.iaload, 1) := by decide +kernel
theorem dL_law_921 : decode cL_law 921 = .ok (.aload_n 0, 1) := by decide +kernel
theorem dL_law_922 : decode cL_law 922 = .ok (.iload_n 3, 1) := by decide +kernel
theorem dL_law_923 : decode cL_law 923 = .ok (.iconst 2, 1) := by decide +kernel
theorem dL_law_924 : decode cL_law 924 = .ok (.iadd, 1) := by decide +kernel
theorem dL_law_925 : decode cL_law 925 = .ok (.iaload, 1) := by decide +kernel
theorem dL_law_926 : decode cL_law 926 = .ok (.invokevirtual 121, 3) := by decide +kernel
theorem dL_law_929 : decode cL_law 929 = .ok (.if_icmp .eq 135, 3) := by decide +kernel
theorem dL_law_932 : decode cL_law 932 = .ok (.iconst 0, 1) := by decide +kernel
theorem dL_law_933 : decode cL_law 933 = .ok (.ireturn, 1) := by decide +kernel
theorem dL_law_934 : decode cL_law 934 = .ok (.aload_n 1, 1) := by decide +kernel
theorem dL_law_935 : decode cL_law 935 = .ok (.aload_n 0, 1) := by decide +kernel
theorem dL_law_936 : decode cL_law 936 = .ok (.iload_n 3, 1) := by decide +kernel
theorem dL_law_937 : decode cL_law 937 = .ok (.iconst 1, 1) := by decide +kernel
theorem dL_law_938 : decode cL_law 938 = .ok (.iadd, 1) := by decide +kernel
theorem dL_law_939 : decode cL_law 939 = .ok (.iaload, 1) := by decide +kernel
theorem dL_law_940 : decode cL_law 940 = .ok (.invokevirtual 122, 3) := by decide +kernel
theorem dL_law_943 : decode cL_law 943 = .ok (.aload_n 2, 1) := by decide +kernel
theorem dL_law_944 : decode cL_law 944 = .ok (.aload_n 0, 1) := by decide +kernel
theorem dL_law_945 : decode cL_law 945 = .ok (.iload_n 3, 1) := by decide +kernel
theorem dL_law_946 : decode cL_law 946 = .ok (.iconst 1, 1) := by decide +kernel
theorem dL_law_947 : decode cL_law 947 = .ok (.iadd, 1) := by decide +kernel
theorem dL_law_948 : decode cL_law 948 = .ok (.iaload, 1) := by decide +kernel
theorem dL_law_949 : decode cL_law 949 = .ok (.invokevirtual 126, 3) := by decide +kernel
theorem dL_law_952 : decode cL_law 952 = .ok (.lcmp, 1) := by decide +kernel
theorem dL_law_953 : decode cL_law 953 = .ok (.ifCond .eq 111, 3) := by decide +kernel
theorem dL_law_956 : decode cL_law 956 = .ok (.iconst 0, 1) := by decide +kernel
theorem dL_law_957 : decode cL_law 957 = .ok (.ireturn, 1) := by decide +kernel
theorem dL_law_958 : decode cL_law 958 = .ok (.aload_n 1, 1) := by decide +kernel
theorem dL_law_959 : decode cL_law 959 = .ok (.aload_n 0, 1) := by decide +kernel
theorem dL_law_960 : decode cL_law 960 = .ok (.iload_n 3, 1) := by decide +kernel
theorem dL_law_961 : decode cL_law 961 = .ok (.iconst 1, 1) := by decide +kernel
theorem dL_law_962 : decode cL_law 962 = .ok (.iadd, 1) := by decide +kernel
theorem dL_law_963 : decode cL_law 963 = .ok (.iaload, 1) := by decide +kernel
theorem dL_law_964 : decode cL_law 964 = .ok (.invokevirtual 127, 3) := by decide +kernel
theorem dL_law_967 : decode cL_law 967 = .ok (.aload_n 2, 1) := by decide +kernel
theorem dL_law_968 : decode cL_law 968 = .ok (.aload_n 0, 1) := by decide +kernel
theorem dL_law_969 : decode cL_law 969 = .ok (.iload_n 3, 1) := by decide +kernel
theorem dL_law_970 : decode cL_law 970 = .ok (.iconst 1, 1) := by decide +kernel
theorem dL_law_971 : decode cL_law 971 = .ok (.iadd, 1) := by decide +kernel
theorem dL_law_972 : decode cL_law 972 = .ok (.iaload, 1) := by decide +kernel
theorem dL_law_973 : decode cL_law 973 = .ok (.invokevirtual 130, 3) := by decide +kernel
theorem dL_law_976 : decode cL_law 976 = .ok (.if_icmp .eq 88, 3) := by decide +kernel
theorem dL_law_979 : decode cL_law 979 = .ok (.iconst 0, 1) := by decide +kernel
theorem dL_law_980 : decode cL_law 980 = .ok (.ireturn, 1) := by decide +kernel
theorem dL_law_981 : decode cL_law 981 = .ok (.aload_n 1, 1) := by decide +kernel
theorem dL_law_982 : decode cL_law 982 = .ok (.aload_n 0, 1) := by decide +kernel
theorem dL_law_983 : decode cL_law 983 = .ok (.iload_n 3, 1) := by decide +kernel
theorem dL_law_984 : decode cL_law 984 = .ok (.iconst 1, 1) := by decide +kernel
theorem dL_law_985 : decode cL_law 985 = .ok (.iadd, 1) := by decide +kernel
theorem dL_law_986 : decode cL_law 986 = .ok (.iaload, 1) := by decide +kernel
theorem dL_law_987 : decode cL_law 987 = .ok (.invokevirtual 131, 3) := by decide +kernel
theorem dL_law_990 : decode cL_law 990 = .ok (.aload_n 2, 1) := by decide +kernel
theorem dL_law_991 : decode cL_law 991 = .ok (.aload_n 0, 1) := by decide +kernel
theorem dL_law_992 : decode cL_law 992 = .ok (.iload_n 3, 1) := by decide +kernel
theorem dL_law_993 : decode cL_law 993 = .ok (.iconst 1, 1) := by decide +kernel
theorem dL_law_994 : decode cL_law 994 = .ok (.iadd, 1) := by decide +kernel
theorem dL_law_995 : decode cL_law 995 = .ok (.iaload, 1) := by decide +kernel
theorem dL_law_996 : decode cL_law 996 = .ok (.invokevirtual 134, 3) := by decide +kernel
theorem dL_law_999 : decode cL_law 999 = .ok (.if_icmp .eq 65, 3) := by decide +kernel
theorem dL_law_1002 : decode cL_law 1002 = .ok (.iconst 0, 1) := by decide +kernel
theorem dL_law_1003 : decode cL_law 1003 = .ok (.ireturn, 1) := by decide +kernel
theorem dL_law_1004 : decode cL_law 1004 = .ok (.aload_n 1, 1) := by decide +kernel
theorem dL_law_1005 : decode cL_law 1005 = .ok (.aload_n 0, 1) := by decide +kernel
theorem dL_law_1006 : decode cL_law 1006 = .ok (.iload_n 3, 1) := by decide +kernel
theorem dL_law_1007 : decode cL_law 1007 = .ok (.iconst 1, 1) := by decide +kernel
theorem dL_law_1008 : decode cL_law 1008 = .ok (.iadd, 1) := by decide +kernel
theorem dL_law_1009 : decode cL_law 1009 = .ok (.iaload, 1) := by decide +kernel
theorem dL_law_1010 : decode cL_law 1010 = .ok (.invokevirtual 135, 3) := by decide +kernel
theorem dL_law_1013 : decode cL_law 1013 = .ok (.aload_n 2, 1) := by decide +kernel
theorem dL_law_1014 : decode cL_law 1014 = .ok (.aload_n 0, 1) := by decide +kernel
theorem dL_law_1015 : decode cL_law 1015 = .ok (.iload_n 3, 1) := by decide +kernel
theorem dL_law_1016 : decode cL_law 1016 = .ok (.iconst 1, 1) := by decide +kernel
theorem dL_law_1017 : decode cL_law 1017 = .ok (.iadd, 1) := by decide +kernel
theorem dL_law_1018 : decode cL_law 1018 = .ok (.iaload, 1) := by decide +kernel
theorem dL_law_1019 : decode cL_law 1019 = .ok (.invokevirtual 138, 3) := by decide +kernel
theorem dL_law_1022 : decode cL_law 1022 = .ok (.if_icmp .eq 42, 3) := by decide +kernel
theorem dL_law_1025 : decode cL_law 1025 = .ok (.iconst 0, 1) := by decide +kernel
theorem dL_law_1026 : decode cL_law 1026 = .ok (.ireturn, 1) := by decide +kernel
theorem dL_law_1027 : decode cL_law 1027 = .ok (.aload_n 1, 1) := by decide +kernel
theorem dL_law_1028 : decode cL_law 1028 = .ok (.aload_n 0, 1) := by decide +kernel
theorem dL_law_1029 : decode cL_law 1029 = .ok (.iload_n 3, 1) := by decide +kernel
theorem dL_law_1030 : decode cL_law 1030 = .ok (.iconst 1, 1) := by decide +kernel
theorem dL_law_1031 : decode cL_law 1031 = .ok (.iadd, 1) := by decide +kernel
theorem dL_law_1032 : decode cL_law 1032 = .ok (.iaload, 1) := by decide +kernel
theorem dL_law_1033 : decode cL_law 1033 = .ok (.invokevirtual 139, 3) := by decide +kernel
theorem dL_law_1036 : decode cL_law 1036 = .ok (.aload_n 2, 1) := by decide +kernel
theorem dL_law_1037 : decode cL_law 1037 = .ok (.aload_n 0, 1) := by decide +kernel
theorem dL_law_1038 : decode cL_law 1038 = .ok (.iload_n 3, 1) := by decide +kernel
theorem dL_law_1039 : decode cL_law 1039 = .ok (.iconst 1, 1) := by decide +kernel
theorem dL_law_1040 : decode cL_law 1040 = .ok (.iadd, 1) := by decide +kernel
theorem dL_law_1041 : decode cL_law 1041 = .ok (.iaload, 1) := by decide +kernel
theorem dL_law_1042 : decode cL_law 1042 = .ok (.invokevirtual 142, 3) := by decide +kernel
theorem dL_law_1045 : decode cL_law 1045 = .ok (.if_icmp .eq 19, 3) := by decide +kernel
theorem dL_law_1048 : decode cL_law 1048 = .ok (.iconst 0, 1) := by decide +kernel
theorem dL_law_1049 : decode cL_law 1049 = .ok (.ireturn, 1) := by decide +kernel
theorem dL_law_1050 : decode cL_law 1050 = .ok (.aload_n 1, 1) := by decide +kernel
theorem dL_law_1051 : decode cL_law 1051 = .ok (.invokevirtual 143, 3) := by decide +kernel
theorem dL_law_1054 : decode cL_law 1054 = .ok (.aload_n 2, 1) := by decide +kernel
theorem dL_law_1055 : decode cL_law 1055 = .ok (.invokevirtual 147, 3) := by decide +kernel
theorem dL_law_1058 : decode cL_law 1058 = .ok (.lcmp, 1) := by decide +kernel
theorem dL_law_1059 : decode cL_law 1059 = .ok (.ifCond .eq 5, 3) := by decide +kernel
theorem dL_law_1062 : decode cL_law 1062 = .ok (.iconst 0, 1) := by decide +kernel
theorem dL_law_1063 : decode cL_law 1063 = .ok (.ireturn, 1) := by decide +kernel
theorem dL_law_1064 : decode cL_law 1064 = .ok (.iinc 3 5, 3) := by decide +kernel
theorem dL_law_1067 : decode cL_law 1067 = .ok (.goto (-1049), 3) := by decide +kernel
theorem dL_law_1070 : decode cL_law 1070 = .ok (.iconst 1, 1) := by decide +kernel
theorem dL_law_1071 : decode cL_law 1071 = .ok (.ireturn, 1) := by decide +kernel
end
section
/-! THE FRAME: an abstract store (objects by their numbers: rows of ints, of longs; kinds, addresses and references stay), what a method does to it (Ok), a place of a walk over it (G), a row an instruction (g_) -/
abbrev WG : Type := va_G × (ClassId × ClassId × ClassId) × List (Nat × Nat) × (Nat → Nat) × (Nat → Nat → Option Nat) × (Nat → Nat) × (Nat → Nat)
def gK (w : WG) : List (Nat × Nat) := w.2.2.1
def gA (w : WG) : Nat → Nat := w.2.2.2.1
def gP (w : WG) : Nat → Nat → Option Nat := w.2.2.2.2.1
abbrev SI : Type := Nat → Nat → Int32
abbrev SL : Type := Nat → Nat → Int64
abbrev QT : Type := Option Value → SI → SL → Prop
def ft (c : Nat) : List Nat :=
  match c with
  | 0 => [2, 2, 0, 0, 0, 0]
  | 1 => [2, 0]
  | 2 => [0, 0, 0, 0, 0, 0, 2, 2, 2, 2, 2, 2, 2, 2, 2]
  | 3 => [2, 2, 2, 2, 0, 0, 0, 0, 0, 2, 2, 2]
  | _ => [2, 0, 0, 0, 0, 0, 2, 2, 2, 2, 2, 2, 2, 2, 2, 2, 2, 2, 0, 0, 0, 0, 0, 2, 2, 0, 2, 0, 2, 1, 1, 2, 2, 1]
def fv (t : Nat) (x : Int32) (y : Int64) (z : Option Nat) : Value := if t = 0 then .int x else if t = 1 then .long y else va_rf z
def cE (w : WG) (κ : Nat × Nat) (i : Nat → Int32) (j : Nat → Int64) (r : Nat → Option Nat) : va_E :=
  if κ.1 < 5 then .inr (κ.1, (ft κ.1).mapIdx (fun k t => fv t (i k) (j k) (r k)))
  else if κ.1 = 5 then .inl (w.2.1.1, κ.2, .inl i)
  else if κ.1 = 6 then .inl (w.2.1.2.1, κ.2, .inl i)
  else .inl (w.2.1.2.2, κ.2, .inr (.inr (.inr (.inr r))))
def gT (w : WG) : List (ClassId × FieldType) := [(w.2.1.1, .byte), (w.2.1.2.1, .int), (w.2.1.2.2, .object RX3)]
def wsO (w : WG) (I : SI) (L : SL) : va_W := (gK w).mapIdx (fun o κ => (gA w o, cE w κ (I o) (L o) (gP w o)))
theorem wsO_get {w : WG} {I : SI} {L : SL} {o : Nat} {κ : Nat × Nat} (h : (gK w)[o]? = some κ) : (wsO w I L)[o]? = some (gA w o, cE w κ (I o) (L o) (gP w o)) := by
  simp [wsO, List.getElem?_mapIdx, h]
def rS {α : Type} (I : Nat → α) (o : Nat) (f : α) : Nat → α := fun q => if q = o then f else I q
theorem rS_eq {α : Type} (I : Nat → α) (o : Nat) (f : α) : rS I o f o = f := by simp [rS]
theorem rS_ne {α : Type} (I : Nat → α) (o : Nat) (f : α) {q : Nat} (h : q ≠ o) : rS I o f q = I q := by simp [rS, h]
theorem wsO_setI {w : WG} {I : SI} {L : SL} {o : Nat} {κ : Nat × Nat} {f : Nat → Int32} (h : (gK w)[o]? = some κ) : (wsO w I L).set o (gA w o, cE w κ f (L o) (gP w o)) = wsO w (rS I o f) L := by
  apply List.ext_getElem?
  intro k
  rw [List.getElem?_set]
  by_cases hk : o = k
  · subst hk
    rw [if_pos rfl, wsO_get h, rS_eq, if_pos]
    rw [wsO, List.length_mapIdx]
    exact (List.getElem?_eq_some_iff.mp h).1
  · rw [if_neg hk]
    simp only [wsO, List.getElem?_mapIdx]
    rw [rS_ne _ _ _ (fun e => hk e.symm)]
theorem wsO_setL {w : WG} {I : SI} {L : SL} {o : Nat} {κ : Nat × Nat} {f : Nat → Int64} (h : (gK w)[o]? = some κ) : (wsO w I L).set o (gA w o, cE w κ (I o) f (gP w o)) = wsO w I (rS L o f) := by
  apply List.ext_getElem?
  intro k
  rw [List.getElem?_set]
  by_cases hk : o = k
  · subst hk
    rw [if_pos rfl, wsO_get h, rS_eq, if_pos]
    rw [wsO, List.length_mapIdx]
    exact (List.getElem?_eq_some_iff.mp h).1
  · rw [if_neg hk]
    simp only [wsO, List.getElem?_mapIdx]
    rw [rS_ne _ _ _ (fun e => hk e.symm)]
theorem fs_get {c k t : Nat} (i : Nat → Int32) (j : Nat → Int64) (r : Nat → Option Nat) (h : (ft c)[k]? = some t) : ((ft c).mapIdx (fun k t => fv t (i k) (j k) (r k)))[k]? = some (fv t (i k) (j k) (r k)) := by
  simp [List.getElem?_mapIdx, h]
theorem fs_setI {c k : Nat} (i : Nat → Int32) (j : Nat → Int64) (r : Nat → Option Nat) (x : Int32) (h : (ft c)[k]? = some 0) : ((ft c).mapIdx (fun k t => fv t (i k) (j k) (r k))).set k (.int x) = (ft c).mapIdx (fun q t => fv t (upd i k x q) (j q) (r q)) := by
  apply List.ext_getElem?
  intro q
  rw [List.getElem?_set, List.getElem?_mapIdx, List.getElem?_mapIdx]
  by_cases hq : k = q
  · subst hq
    obtain ⟨hl, he⟩ := List.getElem?_eq_some_iff.mp h
    simp [fv, upd, hl, he]
  · have hq2 : ¬ q = k := fun e => hq e.symm
    simp [hq, hq2, upd]

theorem fs_setL {c k : Nat} (i : Nat → Int32) (j : Nat → Int64) (r : Nat → Option Nat) (x : Int64) (h : (ft c)[k]? = some 1) : ((ft c).mapIdx (fun k t => fv t (i k) (j k) (r k))).set k (.long x) = (ft c).mapIdx (fun q t => fv t (i q) (vp_updL j k x q) (r q)) := by
  apply List.ext_getElem?
  intro q
  rw [List.getElem?_set, List.getElem?_mapIdx, List.getElem?_mapIdx]
  by_cases hq : k = q
  · subst hq
    obtain ⟨hl, he⟩ := List.getElem?_eq_some_iff.mp h
    simp [fv, vp_updL, hl, he]
  · have hq2 : ¬ q = k := fun e => hq e.symm
    simp [hq, hq2, vp_updL]
/-- the literals and the statics, outside of what a method may change -/
def SW (w : WG) (A : Nat → Prop) (U : State) (H : Heap) : Prop :=
  vk_S 4 [7, 3, 3, 5] [[118, 105, 108, 108, 97, 103, 101], [109, 97, 110], [100, 111, 103], [98, 114, 105, 98, 101]] w.2.2.2.2.2.1 w.2.2.2.2.2.2 A U H ∧
  vk_R RX1 27 "village" (w.2.2.2.2.2.1 0) U ∧ vk_R RX1 44 "man" (w.2.2.2.2.2.1 1) U ∧ vk_R RX1 49 "dog" (w.2.2.2.2.2.1 2) U ∧ vk_R RX1 54 "bribe" (w.2.2.2.2.2.1 3) U ∧
  va_Z "java/lang/String" "COMPACT_STRINGS" "Z" (.int 1) A U H ∧ va_Zq "jdk/internal/util/Preconditions" "SIOOBE_FORMATTER" "Ljava/util/function/BiFunction;" A U H
theorem SW.same {w : WG} {A : Nat → Prop} {u U : State} {H : Heap} (hvm : U.vm = u.vm) (h : SW w A u H) : SW w A U H := by
  obtain ⟨h1, h2, h3, h4, h5, h6, h7⟩ := h
  have ha : u.vm.Alike U.vm := by rw [hvm]; exact Vm.Alike.refl u.vm
  exact ⟨vk_S.moved ha h1, vk_R.same hvm h2, vk_R.same hvm h3, vk_R.same hvm h4, vk_R.same hvm h5, va_Z.moved ha h6, va_Zq.moved ha h7⟩
theorem SW.warm {w : WG} {A : Nat → Prop} {u U : State} {H : Heap} (hW : u.WarmedH U.vm) (h : SW w A u H) : SW w A U H := by
  obtain ⟨h1, h2, h3, h4, h5, h6, h7⟩ := h
  exact ⟨vk_S.moved hW.alike h1, vk_R.warm hW h2, vk_R.warm hW h3, vk_R.warm hW h4, vk_R.warm hW h5, va_Z.moved hW.alike h6, va_Zq.moved hW.alike h7⟩
theorem SW.kept {w : WG} {A : Nat → Prop} {U : State} {H H1 : Heap} (h : SW w A U H) (hq : ∀ a : Nat, a < H.size → ¬ A a → H1[a]? = H[a]?) : SW w A U H1 := by
  obtain ⟨h1, h2, h3, h4, h5, h6, h7⟩ := h
  exact ⟨h1.kept hq, h2, h3, h4, h5, h6.kept hq, h7.kept hq⟩
theorem SW.narrow {w : WG} {A B : Nat → Prop} {U : State} {H : Heap} (h : SW w A U H) (hAB : ∀ q, B q → A q) : SW w B U H := by
  obtain ⟨h1, h2, h3, h4, h5, h6, h7⟩ := h
  exact ⟨h1.narrow hAB, h2, h3, h4, h5, h6.narrow hAB, h7.narrow hAB⟩
/-- what a method finds -/
def PreO (w : WG) (I : SI) (L : SL) (sz : Nat) (U : State) : Prop :=
  U.heap.size = sz ∧ va_P w.1 vwCl (wsO w I L) U.heap ∧ va_K w.1 vwCl (gT w) U ∧ va_D (fun _ => True) (wsO w I L) ∧ SW w (va_A (wsO w I L) sz) U U.heap
/-- what it leaves -/
def QcO (w : WG) (Q : QT) (A : Nat → Prop) : Array Value → State → Outcome → State → Prop := fun _ st oc t =>
  (∃ (r : Option Value) (I' : SI) (L' : SL), oc = .returned r ∧ Q r I' L' ∧ va_P w.1 vwCl (wsO w I' L') t.heap ∧ va_D A (wsO w I' L')) ∧ va_F A st t
abbrev MD : Type := MethodName × ByteArray × Nat × Option FieldType × Nat
def rmO (d : Nat) : Room := { frames := d, cells := 0, slots := 0, locals := 40 * d }
def wsM (M : MD) : List Cond := Cond.code M.1 M.2.1 M.2.2.1 M.2.2.2.1 :: BG
/-- the method's contract, over the whole store -/
def Ok (w : WG) (M : MD) (av : List Value) (I : SI) (L : SL) (Q : QT) : Prop := ∀ (l : Launch) (sz : Nat), Met l M.1 (wsM M) (rmO M.2.2.2.2) (va_Pc av (PreO w I L sz)) (QcO w Q (va_A (wsO w I L) sz)) 0 0 (va_A (wsO w I L) sz)
abbrev LV : Type := Nat → Option Value
def noL : Option Value → Option Value
  | some (.int x) => some (.int x)
  | some (.ref x) => some (.ref x)
  | some .null => some .null
  | _ => none
def st1 (f : LV) (i : Nat) (v : Value) : LV := fun j => bif Nat.beq j i then some v else bif Nat.beq (j + 1) i then noL (f j) else f j
def st2 (f : LV) (i : Nat) (v : Value) : LV := fun j => bif Nat.beq j i then some v else bif Nat.beq j (i + 1) then none else bif Nat.beq (j + 1) i then noL (f j) else f j
def lvO : List (Nat × Value) → LV
  | [] => fun _ => none
  | (i, v) :: r => fun j => bif Nat.beq j i then some v else lvO r j
def hasL (ls : Array Slot) (nL : Nat) (f : LV) : Prop := ls.size = nL ∧ lv_wf ls ∧ ∀ (i : Nat) (v : Value), f i = some v → ls[i]? = some (.val v)
theorem lvO_mem {l : List (Nat × Value)} {i : Nat} {v : Value} (h : lvO l i = some v) : (i, v) ∈ l := by
  induction l with
  | nil => simp [lvO] at h
  | cons q r ih =>
    obtain ⟨j, u⟩ := q
    simp only [lvO] at h
    by_cases hj : i = j
    · subst hj
      simp at h
      subst h
      exact List.mem_cons_self
    · have hb : Nat.beq i j = false := by
        cases hq : Nat.beq i j with
        | false => rfl
        | true => exact absurd (Nat.eq_of_beq_eq_true hq) hj
      rw [hb] at h
      exact List.mem_cons_of_mem _ (ih h)
theorem hasL_of {ls : Array Slot} {nL : Nat} {l : List (Nat × Value)} (h : lv_has ls nL l) : hasL ls nL (lvO l) := ⟨h.1, h.2.1, fun _ _ hi => h.2.2 _ (lvO_mem hi)⟩
def lvL (nL : Nat) (f : LV) : List (Nat × Value) := (List.range nL).filterMap (fun i => (f i).map (fun v => (i, v)))
theorem lvL_mem {nL : Nat} {f : LV} {i : Nat} {v : Value} : (i, v) ∈ lvL nL f ↔ i < nL ∧ f i = some v := by
  simp only [lvL, List.mem_filterMap, List.mem_range, Option.map_eq_some_iff]
  constructor
  · rintro ⟨a, ha, u, hu, he⟩
    cases he
    exact ⟨ha, hu⟩
  · rintro ⟨h1, h2⟩
    exact ⟨i, h1, v, h2, rfl⟩
theorem hasL.to {ls : Array Slot} {nL : Nat} {f : LV} (h : hasL ls nL f) : lv_has ls nL (lvL nL f) := ⟨h.1, h.2.1, fun q hq => h.2.2 q.1 q.2 (lvL_mem.mp hq).2⟩
theorem hasL.lt {ls : Array Slot} {nL : Nat} {f : LV} (h : hasL ls nL f) {i : Nat} {v : Value} (hi : f i = some v) : i < nL := by
  have := (Array.getElem?_eq_some_iff.mp (h.2.2 i v hi)).1
  rw [h.1] at this
  exact this
theorem hasL.mono {ls : Array Slot} {nL : Nat} {f g : LV} (h : hasL ls nL f) (hg : ∀ i v, g i = some v → f i = some v) : hasL ls nL g := ⟨h.1, h.2.1, fun i v hi => h.2.2 i v (hg i v hi)⟩
theorem beq_ff {i j : Nat} (h : i ≠ j) : Nat.beq i j = false := by
  cases hq : Nat.beq i j with
  | false => rfl
  | true => exact absurd (Nat.eq_of_beq_eq_true hq) h
theorem beq_tt (i : Nat) : Nat.beq i i = true := Nat.beq_refl i
theorem noL_spec {x : Option Value} {v : Value} (h : noL x = some v) : x = some v ∧ v.category = 1 := by
  cases x with
  | none => simp [noL] at h
  | some y => cases y <;> simp [noL] at h <;> (subst h; exact ⟨rfl, rfl⟩)
theorem st1_mem {nL : Nat} {f : LV} {i j : Nat} {v u : Value} (hf : ∀ j u, f j = some u → j < nL) (h : st1 f i v j = some u) : (j, u) ∈ ((i, v) :: (lvL nL f).filter (fun q => !(q.1 == i) && !(q.1 + 1 == i && q.2.category == 2))) := by
  unfold st1 at h
  by_cases hj : j = i
  · subst hj
    rw [beq_tt] at h
    cases h
    exact List.mem_cons_self
  · rw [beq_ff hj] at h
    refine List.mem_cons_of_mem _ (List.mem_filter.mpr ?_)
    by_cases hk : j + 1 = i
    · rw [hk, beq_tt] at h
      obtain ⟨h1, h2⟩ := noL_spec h
      exact ⟨lvL_mem.mpr ⟨hf _ _ h1, h1⟩, by simp [hj, h2]⟩
    · rw [beq_ff hk] at h
      exact ⟨lvL_mem.mpr ⟨hf _ _ h, h⟩, by simp [hj, hk]⟩
theorem st2_mem {nL : Nat} {f : LV} {i j : Nat} {v u : Value} (hf : ∀ j u, f j = some u → j < nL) (h : st2 f i v j = some u) : (j, u) ∈ ((i, v) :: (lvL nL f).filter (fun q => !(q.1 == i) && (!(q.1 == i + 1) && !(q.1 + 1 == i && q.2.category == 2)))) := by
  unfold st2 at h
  by_cases hj : j = i
  · subst hj
    rw [beq_tt] at h
    cases h
    exact List.mem_cons_self
  · rw [beq_ff hj] at h
    refine List.mem_cons_of_mem _ (List.mem_filter.mpr ?_)
    by_cases hm : j = i + 1
    · rw [hm, beq_tt] at h
      cases h
    · rw [beq_ff hm] at h
      by_cases hk : j + 1 = i
      · rw [hk, beq_tt] at h
        obtain ⟨h1, h2⟩ := noL_spec h
        exact ⟨lvL_mem.mpr ⟨hf _ _ h1, h1⟩, by simp [hj, hm, h2]⟩
      · rw [beq_ff hk] at h
        exact ⟨lvL_mem.mpr ⟨hf _ _ h, h⟩, by simp [hj, hm, hk]⟩
theorem hasL.s1 {ls ls' : Array Slot} {nL : Nat} {f : LV} {i : Nat} {v : Value} (h : hasL ls nL f) (h' : lv_has ls' nL ((i, v) :: (lvL nL f).filter (fun q => !(q.1 == i) && !(q.1 + 1 == i && q.2.category == 2)))) : hasL ls' nL (st1 f i v) :=
  ⟨h'.1, h'.2.1, fun j u hj => h'.2.2 (j, u) (st1_mem (fun _ _ => h.lt) hj)⟩
theorem hasL.s2 {ls ls' : Array Slot} {nL : Nat} {f : LV} {i : Nat} {v : Value} (h : hasL ls nL f) (h' : lv_has ls' nL ((i, v) :: (lvL nL f).filter (fun q => !(q.1 == i) && (!(q.1 == i + 1) && !(q.1 + 1 == i && q.2.category == 2))))) : hasL ls' nL (st2 f i v) :=
  ⟨h'.1, h'.2.1, fun j u hj => h'.2.2 (j, u) (st2_mem (fun _ _ => h.lt) hj)⟩
/-- a walk's place -/
abbrev CT : Type := Program × Launch × Env × Room × State × MethodId × Array Value × List Frame × Method × Code × (Nat → Prop) × Nat × Nat × (State → Prop)
def Cx (X : CT) (w : WG) (M : MD) (Q : QT) : Prop := match X with
  | (p, _, _, R, s, m, args, below, meth, c, A, cells, slots, Qf) =>
    p.tables.exec = Jvm.exec ∧ c.code = M.2.1 ∧ c.maxLocals = M.2.2.1 ∧ meth.sig.returnType = M.2.2.2.1 ∧ meth.locks = false ∧ s.vm.findClass M.1.cls = some m.cls ∧ (∀ q ∈ BG, q.before args s = true) ∧ va_K w.1 vwCl (gT w) s ∧ SW w A s s.heap ∧ (∀ q : Nat, s.heap.size ≤ q → A q) ∧ (M.2.2.2.2 ≤ R.frames ∧ 40 * M.2.2.2.2 ≤ R.locals) ∧ cells = 0 ∧ slots = 0 ∧ Qf = MQ below (QcO w Q A) args s 0 0 A
def G (X : CT) (w : WG) (M : MD) (I : SI) (L : SL) (pc : Nat) (lv : LV) (st : List Value) : Prop := match X with
  | (p, l, e, R, s, m, args, below, meth, c, A, cells, slots, Qf) =>
    ∀ (H : Heap) (locs : List Loc) (ls : Array Slot), va_P w.1 vwCl (wsO w I L) H → va_D A (wsO w I L) → va_S A s.heap H locs → hasL ls M.2.2.1 lv → W p l e R s m args below meth c H locs cells slots Qf (F0 m pc ls st)
theorem Ok.of {w : WG} {M : MD} {av : List Value} {I : SI} {L : SL} {Q : QT} (hy : plainName M.1.cls = true) (hn : (lg_sl av).length ≤ M.2.2.1) (h : ∀ X : CT, Cx X w M Q → G X w M I L 0 (lvO (lv_args 0 av)) []) : Ok w M av I L Q := by
  intro l sz
  refine Met.ofW (cc := M.2.1) (maxL := M.2.2.1) (ret := M.2.2.2.1) hy rfl ?_
  intro p e s m args below meth c s₁ B hml hv
  obtain ⟨rfl, hsz, hP, hK, hD0, hSW⟩ := hv
  have hts := atoms_spec (ws := wsM M) B.pre
  subst hsz
  have hl := lv_entry av (n := M.2.2.1) hn
  rw [lg_entry_eq]
  exact h (p, l, e, (headSpec (wsM M) (rmO M.2.2.2.2)).room, s, m, av.toArray, below, meth, c, va_A (wsO w I L) s.heap.size, 0, 0, MQ below (QcO w Q (va_A (wsO w I L) s.heap.size)) av.toArray s 0 0 (va_A (wsO w I L) s.heap.size))
    ⟨B.exec, B.bytes, hml, B.returns, B.notSynchronized, findClass_of_methodNamed B.named, fun q hq => hts q (List.mem_cons_of_mem _ hq), hK, hSW, fun q h => Or.inr h, ⟨Nat.le_refl _, Nat.le_refl _⟩, rfl, rfl, rfl⟩
    s.heap [] _ hP hD0.self va_S.rf (hasL_of hl)
theorem G.lv {X : CT} {w : WG} {M : MD} {I : SI} {L : SL} {pc : Nat} {f g : LV} {st : List Value} (hg : ∀ i v, g i = some v → f i = some v) (h : G X w M I L pc g st) : G X w M I L pc f st := by
  obtain ⟨p, l, e, R, s, m, args, below, meth, c, A, cells, slots, Qf⟩ := X
  exact fun H locs ls hP hD hS hl => h H locs ls hP hD hS (hl.mono hg)
def lvIn (f : LV) : List (Nat × Value) → Prop
  | [] => True
  | (i, v) :: r => f i = some v ∧ lvIn f r
theorem lvIn_ok {f : LV} : ∀ {l : List (Nat × Value)}, lvIn f l → ∀ i v, lvO l i = some v → f i = some v := by
  intro l
  induction l with
  | nil => intro _ i v h; simp [lvO] at h
  | cons q r ih =>
    obtain ⟨j, u⟩ := q
    intro h i v hi
    simp only [lvO] at hi
    by_cases hj : i = j
    · subst hj
      rw [beq_tt] at hi
      cases hi
      exact h.1
    · rw [beq_ff hj] at hi
      exact ih h.2 i v hi
/-- a place by a list of its locals -/
theorem G.at {X : CT} {w : WG} {M : MD} {I : SI} {L : SL} {pc : Nat} {f : LV} {st : List Value} {l : List (Nat × Value)} (h : G X w M I L pc (lvO l) st) (hl : lvIn f l) : G X w M I L pc f st := h.lv (lvIn_ok hl)

theorem g_iconst {X : CT} {w : WG} {M : MD} {Q : QT} {I : SI} {L : SL} {pc : Nat} {f : LV} {n : Int} {v : Int32} {st : List Value} (hX : Cx X w M Q) (hd : decode M.2.1 pc = .ok (.iconst n, 1)) (hv : Int32.ofInt n = v) (k : G X w M I L (pc + 1) (f) (.int v :: st)) : G X w M I L pc f (st) := by
  obtain ⟨p, l, e, R, s, m, args, below, meth, c, A, cells, slots, Qf⟩ := X
  obtain ⟨hx, hb, hml, hr, hlk, ho, hts, hK, hSW, hA, hR, hc, hs, hq⟩ := hX
  intro H locs ls hP hD hS hl
  exact lv_iconst hx hb hd hv (k H locs ls hP hD hS hl)
theorem g_bipush {X : CT} {w : WG} {M : MD} {Q : QT} {I : SI} {L : SL} {pc : Nat} {f : LV} {n : Int} {v : Int32} {st : List Value} (hX : Cx X w M Q) (hd : decode M.2.1 pc = .ok (.bipush n, 2)) (hv : (Int8.ofInt n).toInt32 = v) (k : G X w M I L (pc + 2) (f) (.int v :: st)) : G X w M I L pc f (st) := by
  obtain ⟨p, l, e, R, s, m, args, below, meth, c, A, cells, slots, Qf⟩ := X
  obtain ⟨hx, hb, hml, hr, hlk, ho, hts, hK, hSW, hA, hR, hc, hs, hq⟩ := hX
  intro H locs ls hP hD hS hl
  exact lv_bipush hx hb hd hv (k H locs ls hP hD hS hl)
theorem g_sipush {X : CT} {w : WG} {M : MD} {Q : QT} {I : SI} {L : SL} {pc : Nat} {f : LV} {n : Int} {v : Int32} {st : List Value} (hX : Cx X w M Q) (hd : decode M.2.1 pc = .ok (.sipush n, 3)) (hv : (Int16.ofInt n).toInt32 = v) (k : G X w M I L (pc + 3) (f) (.int v :: st)) : G X w M I L pc f (st) := by
  obtain ⟨p, l, e, R, s, m, args, below, meth, c, A, cells, slots, Qf⟩ := X
  obtain ⟨hx, hb, hml, hr, hlk, ho, hts, hK, hSW, hA, hR, hc, hs, hq⟩ := hX
  intro H locs ls hP hD hS hl
  exact lv_sipush hx hb hd hv (k H locs ls hP hD hS hl)
theorem g_lconst {X : CT} {w : WG} {M : MD} {Q : QT} {I : SI} {L : SL} {pc : Nat} {f : LV} {n : Fin 2} {v : Int64} {st : List Value} (hX : Cx X w M Q) (hd : decode M.2.1 pc = .ok (.lconst n, 1)) (hv : Int64.ofNat (n : Nat) = v) (k : G X w M I L (pc + 1) (f) (.long v :: st)) : G X w M I L pc f (st) := by
  obtain ⟨p, l, e, R, s, m, args, below, meth, c, A, cells, slots, Qf⟩ := X
  obtain ⟨hx, hb, hml, hr, hlk, ho, hts, hK, hSW, hA, hR, hc, hs, hq⟩ := hX
  intro H locs ls hP hD hS hl
  exact lv_lconst hx hb hd hv (k H locs ls hP hD hS hl)
theorem g_ldc {X : CT} {w : WG} {M : MD} {Q : QT} {I : SI} {L : SL} {pc : Nat} {f : LV} {i : Nat} {v : Int32} {st : List Value} (hX : Cx X w M Q) (hd : decode M.2.1 pc = .ok (.ldc i, 2)) (hw : Cond.constant M.1.cls i v ∈ BG) (k : G X w M I L (pc + 2) (f) (.int v :: st)) : G X w M I L pc f (st) := by
  obtain ⟨p, l, e, R, s, m, args, below, meth, c, A, cells, slots, Qf⟩ := X
  obtain ⟨hx, hb, hml, hr, hlk, ho, hts, hK, hSW, hA, hR, hc, hs, hq⟩ := hX
  intro H locs ls hP hD hS hl
  exact lv_ldc hx hb ho (hts _ hw) hd (k H locs ls hP hD hS hl)
theorem g_ldcw {X : CT} {w : WG} {M : MD} {Q : QT} {I : SI} {L : SL} {pc : Nat} {f : LV} {i : Nat} {v : Int32} {st : List Value} (hX : Cx X w M Q) (hd : decode M.2.1 pc = .ok (.ldc_w i, 3)) (hw : Cond.constant M.1.cls i v ∈ BG) (k : G X w M I L (pc + 3) (f) (.int v :: st)) : G X w M I L pc f (st) := by
  obtain ⟨p, l, e, R, s, m, args, below, meth, c, A, cells, slots, Qf⟩ := X
  obtain ⟨hx, hb, hml, hr, hlk, ho, hts, hK, hSW, hA, hR, hc, hs, hq⟩ := hX
  intro H locs ls hP hD hS hl
  exact lv_ldcw hx hb ho (hts _ hw) hd (k H locs ls hP hD hS hl)
theorem g_ldc2 {X : CT} {w : WG} {M : MD} {Q : QT} {I : SI} {L : SL} {pc : Nat} {f : LV} {i : Nat} {v : Int64} {st : List Value} (hX : Cx X w M Q) (hd : decode M.2.1 pc = .ok (.ldc2_w i, 3)) (hw : Cond.constantLong M.1.cls i v ∈ BG) (k : G X w M I L (pc + 3) (f) (.long v :: st)) : G X w M I L pc f (st) := by
  obtain ⟨p, l, e, R, s, m, args, below, meth, c, A, cells, slots, Qf⟩ := X
  obtain ⟨hx, hb, hml, hr, hlk, ho, hts, hK, hSW, hA, hR, hc, hs, hq⟩ := hX
  intro H locs ls hP hD hS hl
  exact lv_ldc2 hx hb ho (hts _ hw) hd (k H locs ls hP hD hS hl)
theorem g_iload_n {X : CT} {w : WG} {M : MD} {Q : QT} {I : SI} {L : SL} {pc : Nat} {f : LV} {k : Fin 4} {i : Nat} {x : Int32} {st : List Value} (hX : Cx X w M Q) (hd : decode M.2.1 pc = .ok (.iload_n k, 1)) (hi : (k : Nat) = i) (hf : f i = some (.int x)) (kk : G X w M I L (pc + 1) (f) (.int x :: st)) : G X w M I L pc f (st) := by
  obtain ⟨p, l, e, R, s, m, args, below, meth, c, A, cells, slots, Qf⟩ := X
  obtain ⟨hx, hb, hml, hr, hlk, ho, hts, hK, hSW, hA, hR, hc, hs, hq⟩ := hX
  intro H locs ls hP hD hS hl
  exact lv_iload_n hx hb hd hi (hl.2.2 _ _ hf) (kk H locs ls hP hD hS hl)
theorem g_iload {X : CT} {w : WG} {M : MD} {Q : QT} {I : SI} {L : SL} {pc : Nat} {f : LV} {i : Nat} {x : Int32} {st : List Value} (hX : Cx X w M Q) (hd : decode M.2.1 pc = .ok (.iload i, 2)) (hf : f i = some (.int x)) (k : G X w M I L (pc + 2) (f) (.int x :: st)) : G X w M I L pc f (st) := by
  obtain ⟨p, l, e, R, s, m, args, below, meth, c, A, cells, slots, Qf⟩ := X
  obtain ⟨hx, hb, hml, hr, hlk, ho, hts, hK, hSW, hA, hR, hc, hs, hq⟩ := hX
  intro H locs ls hP hD hS hl
  exact lv_iload hx hb hd (hl.2.2 _ _ hf) (k H locs ls hP hD hS hl)
theorem g_lload_n {X : CT} {w : WG} {M : MD} {Q : QT} {I : SI} {L : SL} {pc : Nat} {f : LV} {k : Fin 4} {i : Nat} {x : Int64} {st : List Value} (hX : Cx X w M Q) (hd : decode M.2.1 pc = .ok (.lload_n k, 1)) (hi : (k : Nat) = i) (hf : f i = some (.long x)) (kk : G X w M I L (pc + 1) (f) (.long x :: st)) : G X w M I L pc f (st) := by
  obtain ⟨p, l, e, R, s, m, args, below, meth, c, A, cells, slots, Qf⟩ := X
  obtain ⟨hx, hb, hml, hr, hlk, ho, hts, hK, hSW, hA, hR, hc, hs, hq⟩ := hX
  intro H locs ls hP hD hS hl
  exact lv_lload_n hx hb hd hi (hl.2.2 _ _ hf) (kk H locs ls hP hD hS hl)
theorem g_lload {X : CT} {w : WG} {M : MD} {Q : QT} {I : SI} {L : SL} {pc : Nat} {f : LV} {i : Nat} {x : Int64} {st : List Value} (hX : Cx X w M Q) (hd : decode M.2.1 pc = .ok (.lload i, 2)) (hf : f i = some (.long x)) (k : G X w M I L (pc + 2) (f) (.long x :: st)) : G X w M I L pc f (st) := by
  obtain ⟨p, l, e, R, s, m, args, below, meth, c, A, cells, slots, Qf⟩ := X
  obtain ⟨hx, hb, hml, hr, hlk, ho, hts, hK, hSW, hA, hR, hc, hs, hq⟩ := hX
  intro H locs ls hP hD hS hl
  exact lv_lload hx hb hd (hl.2.2 _ _ hf) (k H locs ls hP hD hS hl)
theorem g_aload_n {X : CT} {w : WG} {M : MD} {Q : QT} {I : SI} {L : SL} {pc : Nat} {f : LV} {k : Fin 4} {i : Nat} {x : Nat} {st : List Value} (hX : Cx X w M Q) (hd : decode M.2.1 pc = .ok (.aload_n k, 1)) (hi : (k : Nat) = i) (hf : f i = some (.ref x)) (kk : G X w M I L (pc + 1) (f) (.ref x :: st)) : G X w M I L pc f (st) := by
  obtain ⟨p, l, e, R, s, m, args, below, meth, c, A, cells, slots, Qf⟩ := X
  obtain ⟨hx, hb, hml, hr, hlk, ho, hts, hK, hSW, hA, hR, hc, hs, hq⟩ := hX
  intro H locs ls hP hD hS hl
  exact lv_aload_n hx hb hd hi (hl.2.2 _ _ hf) (kk H locs ls hP hD hS hl)
theorem g_aload {X : CT} {w : WG} {M : MD} {Q : QT} {I : SI} {L : SL} {pc : Nat} {f : LV} {i : Nat} {x : Nat} {st : List Value} (hX : Cx X w M Q) (hd : decode M.2.1 pc = .ok (.aload i, 2)) (hf : f i = some (.ref x)) (k : G X w M I L (pc + 2) (f) (.ref x :: st)) : G X w M I L pc f (st) := by
  obtain ⟨p, l, e, R, s, m, args, below, meth, c, A, cells, slots, Qf⟩ := X
  obtain ⟨hx, hb, hml, hr, hlk, ho, hts, hK, hSW, hA, hR, hc, hs, hq⟩ := hX
  intro H locs ls hP hD hS hl
  exact lv_aload hx hb hd (hl.2.2 _ _ hf) (k H locs ls hP hD hS hl)
theorem g_istore_n {X : CT} {w : WG} {M : MD} {Q : QT} {I : SI} {L : SL} {pc : Nat} {f : LV} {k : Fin 4} {i : Nat} {x : Int32} {st : List Value} (hX : Cx X w M Q) (hd : decode M.2.1 pc = .ok (.istore_n k, 1)) (hi : (k : Nat) = i) (hn : i < M.2.2.1) (kk : G X w M I L (pc + 1) (st1 f i (.int x)) st) : G X w M I L pc f (.int x :: st) := by
  obtain ⟨p, l, e, R, s, m, args, below, meth, c, A, cells, slots, Qf⟩ := X
  obtain ⟨hx, hb, hml, hr, hlk, ho, hts, hK, hSW, hA, hR, hc, hs, hq⟩ := hX
  intro H locs ls hP hD hS hl
  exact lv_istore_n hx hb hd hi hl.to hn rfl (fun ls' h' => kk H locs ls' hP hD hS (hl.s1 h'))
theorem g_istore {X : CT} {w : WG} {M : MD} {Q : QT} {I : SI} {L : SL} {pc : Nat} {f : LV} {i : Nat} {x : Int32} {st : List Value} (hX : Cx X w M Q) (hd : decode M.2.1 pc = .ok (.istore i, 2)) (hn : i < M.2.2.1) (kk : G X w M I L (pc + 2) (st1 f i (.int x)) st) : G X w M I L pc f (.int x :: st) := by
  obtain ⟨p, l, e, R, s, m, args, below, meth, c, A, cells, slots, Qf⟩ := X
  obtain ⟨hx, hb, hml, hr, hlk, ho, hts, hK, hSW, hA, hR, hc, hs, hq⟩ := hX
  intro H locs ls hP hD hS hl
  exact lv_istore hx hb hd hl.to hn rfl (fun ls' h' => kk H locs ls' hP hD hS (hl.s1 h'))
theorem g_lstore_n {X : CT} {w : WG} {M : MD} {Q : QT} {I : SI} {L : SL} {pc : Nat} {f : LV} {k : Fin 4} {i : Nat} {x : Int64} {st : List Value} (hX : Cx X w M Q) (hd : decode M.2.1 pc = .ok (.lstore_n k, 1)) (hi : (k : Nat) = i) (hn : i + 1 < M.2.2.1) (kk : G X w M I L (pc + 1) (st2 f i (.long x)) st) : G X w M I L pc f (.long x :: st) := by
  obtain ⟨p, l, e, R, s, m, args, below, meth, c, A, cells, slots, Qf⟩ := X
  obtain ⟨hx, hb, hml, hr, hlk, ho, hts, hK, hSW, hA, hR, hc, hs, hq⟩ := hX
  intro H locs ls hP hD hS hl
  exact lv_lstore_n hx hb hd hi hl.to hn rfl (fun ls' h' => kk H locs ls' hP hD hS (hl.s2 h'))
theorem g_lstore {X : CT} {w : WG} {M : MD} {Q : QT} {I : SI} {L : SL} {pc : Nat} {f : LV} {i : Nat} {x : Int64} {st : List Value} (hX : Cx X w M Q) (hd : decode M.2.1 pc = .ok (.lstore i, 2)) (hn : i + 1 < M.2.2.1) (kk : G X w M I L (pc + 2) (st2 f i (.long x)) st) : G X w M I L pc f (.long x :: st) := by
  obtain ⟨p, l, e, R, s, m, args, below, meth, c, A, cells, slots, Qf⟩ := X
  obtain ⟨hx, hb, hml, hr, hlk, ho, hts, hK, hSW, hA, hR, hc, hs, hq⟩ := hX
  intro H locs ls hP hD hS hl
  exact lv_lstore hx hb hd hl.to hn rfl (fun ls' h' => kk H locs ls' hP hD hS (hl.s2 h'))
theorem g_astore_n {X : CT} {w : WG} {M : MD} {Q : QT} {I : SI} {L : SL} {pc : Nat} {f : LV} {k : Fin 4} {i : Nat} {x : Nat} {st : List Value} (hX : Cx X w M Q) (hd : decode M.2.1 pc = .ok (.astore_n k, 1)) (hi : (k : Nat) = i) (hn : i < M.2.2.1) (kk : G X w M I L (pc + 1) (st1 f i (.ref x)) st) : G X w M I L pc f (.ref x :: st) := by
  obtain ⟨p, l, e, R, s, m, args, below, meth, c, A, cells, slots, Qf⟩ := X
  obtain ⟨hx, hb, hml, hr, hlk, ho, hts, hK, hSW, hA, hR, hc, hs, hq⟩ := hX
  intro H locs ls hP hD hS hl
  exact lv_astore_n hx hb hd hi hl.to hn rfl (fun ls' h' => kk H locs ls' hP hD hS (hl.s1 h'))
theorem g_astore {X : CT} {w : WG} {M : MD} {Q : QT} {I : SI} {L : SL} {pc : Nat} {f : LV} {i : Nat} {x : Nat} {st : List Value} (hX : Cx X w M Q) (hd : decode M.2.1 pc = .ok (.astore i, 2)) (hn : i < M.2.2.1) (kk : G X w M I L (pc + 2) (st1 f i (.ref x)) st) : G X w M I L pc f (.ref x :: st) := by
  obtain ⟨p, l, e, R, s, m, args, below, meth, c, A, cells, slots, Qf⟩ := X
  obtain ⟨hx, hb, hml, hr, hlk, ho, hts, hK, hSW, hA, hR, hc, hs, hq⟩ := hX
  intro H locs ls hP hD hS hl
  exact lv_astore hx hb hd hl.to hn rfl (fun ls' h' => kk H locs ls' hP hD hS (hl.s1 h'))
theorem g_iinc {X : CT} {w : WG} {M : MD} {Q : QT} {I : SI} {L : SL} {pc : Nat} {f : LV} {i : Nat} {n : Int} {x : Int32} {st : List Value} (hX : Cx X w M Q) (hd : decode M.2.1 pc = .ok (.iinc i n, 3)) (hf : f i = some (.int x)) {d : Int32} (hv : Int32.ofInt n = d) (kk : G X w M I L (pc + 3) (st1 f i (.int (x + d))) st) : G X w M I L pc f st := by
  obtain ⟨p, l, e, R, s, m, args, below, meth, c, A, cells, slots, Qf⟩ := X
  obtain ⟨hx, hb, hml, hr, hlk, ho, hts, hK, hSW, hA, hR, hc, hs, hq⟩ := hX
  intro H locs ls hP hD hS hl
  obtain ⟨q, hq⟩ := List.getElem?_of_mem (lvL_mem.mpr ⟨hl.lt hf, hf⟩)
  subst hv
  exact lv_iinc hx hb hd hl.to hq rfl (hl.lt hf) rfl (fun ls' h' => kk H locs ls' hP hD hS (hl.s1 h'))
theorem g_iadd {X : CT} {w : WG} {M : MD} {Q : QT} {I : SI} {L : SL} {pc : Nat} {f : LV} {x y : Int32} {st : List Value} (hX : Cx X w M Q) (hd : decode M.2.1 pc = .ok (.iadd, 1)) (k : G X w M I L (pc + 1) (f) (.int (x + y) :: st)) : G X w M I L pc f (.int y :: .int x :: st) := by
  obtain ⟨p, l, e, R, s, m, args, below, meth, c, A, cells, slots, Qf⟩ := X
  obtain ⟨hx, hb, hml, hr, hlk, ho, hts, hK, hSW, hA, hR, hc, hs, hq⟩ := hX
  intro H locs ls hP hD hS hl
  exact lv_iadd hx hb hd (k H locs ls hP hD hS hl)
theorem g_isub {X : CT} {w : WG} {M : MD} {Q : QT} {I : SI} {L : SL} {pc : Nat} {f : LV} {x y : Int32} {st : List Value} (hX : Cx X w M Q) (hd : decode M.2.1 pc = .ok (.isub, 1)) (k : G X w M I L (pc + 1) (f) (.int (x - y) :: st)) : G X w M I L pc f (.int y :: .int x :: st) := by
  obtain ⟨p, l, e, R, s, m, args, below, meth, c, A, cells, slots, Qf⟩ := X
  obtain ⟨hx, hb, hml, hr, hlk, ho, hts, hK, hSW, hA, hR, hc, hs, hq⟩ := hX
  intro H locs ls hP hD hS hl
  exact lv_isub hx hb hd (k H locs ls hP hD hS hl)
theorem g_imul {X : CT} {w : WG} {M : MD} {Q : QT} {I : SI} {L : SL} {pc : Nat} {f : LV} {x y : Int32} {st : List Value} (hX : Cx X w M Q) (hd : decode M.2.1 pc = .ok (.imul, 1)) (k : G X w M I L (pc + 1) (f) (.int (x * y) :: st)) : G X w M I L pc f (.int y :: .int x :: st) := by
  obtain ⟨p, l, e, R, s, m, args, below, meth, c, A, cells, slots, Qf⟩ := X
  obtain ⟨hx, hb, hml, hr, hlk, ho, hts, hK, hSW, hA, hR, hc, hs, hq⟩ := hX
  intro H locs ls hP hD hS hl
  exact lv_imul hx hb hd (k H locs ls hP hD hS hl)
theorem g_iand {X : CT} {w : WG} {M : MD} {Q : QT} {I : SI} {L : SL} {pc : Nat} {f : LV} {x y : Int32} {st : List Value} (hX : Cx X w M Q) (hd : decode M.2.1 pc = .ok (.iand, 1)) (k : G X w M I L (pc + 1) (f) (.int (x &&& y) :: st)) : G X w M I L pc f (.int y :: .int x :: st) := by
  obtain ⟨p, l, e, R, s, m, args, below, meth, c, A, cells, slots, Qf⟩ := X
  obtain ⟨hx, hb, hml, hr, hlk, ho, hts, hK, hSW, hA, hR, hc, hs, hq⟩ := hX
  intro H locs ls hP hD hS hl
  exact lv_iand hx hb hd (k H locs ls hP hD hS hl)
theorem g_ior {X : CT} {w : WG} {M : MD} {Q : QT} {I : SI} {L : SL} {pc : Nat} {f : LV} {x y : Int32} {st : List Value} (hX : Cx X w M Q) (hd : decode M.2.1 pc = .ok (.ior, 1)) (k : G X w M I L (pc + 1) (f) (.int (x ||| y) :: st)) : G X w M I L pc f (.int y :: .int x :: st) := by
  obtain ⟨p, l, e, R, s, m, args, below, meth, c, A, cells, slots, Qf⟩ := X
  obtain ⟨hx, hb, hml, hr, hlk, ho, hts, hK, hSW, hA, hR, hc, hs, hq⟩ := hX
  intro H locs ls hP hD hS hl
  exact lv_ior hx hb hd (k H locs ls hP hD hS hl)
theorem g_ixor {X : CT} {w : WG} {M : MD} {Q : QT} {I : SI} {L : SL} {pc : Nat} {f : LV} {x y : Int32} {st : List Value} (hX : Cx X w M Q) (hd : decode M.2.1 pc = .ok (.ixor, 1)) (k : G X w M I L (pc + 1) (f) (.int (x ^^^ y) :: st)) : G X w M I L pc f (.int y :: .int x :: st) := by
  obtain ⟨p, l, e, R, s, m, args, below, meth, c, A, cells, slots, Qf⟩ := X
  obtain ⟨hx, hb, hml, hr, hlk, ho, hts, hK, hSW, hA, hR, hc, hs, hq⟩ := hX
  intro H locs ls hP hD hS hl
  exact lv_ixor hx hb hd (k H locs ls hP hD hS hl)
theorem g_ishl {X : CT} {w : WG} {M : MD} {Q : QT} {I : SI} {L : SL} {pc : Nat} {f : LV} {x y : Int32} {st : List Value} (hX : Cx X w M Q) (hd : decode M.2.1 pc = .ok (.ishl, 1)) (k : G X w M I L (pc + 1) (f) (.int (x <<< (y &&& 31)) :: st)) : G X w M I L pc f (.int y :: .int x :: st) := by
  obtain ⟨p, l, e, R, s, m, args, below, meth, c, A, cells, slots, Qf⟩ := X
  obtain ⟨hx, hb, hml, hr, hlk, ho, hts, hK, hSW, hA, hR, hc, hs, hq⟩ := hX
  intro H locs ls hP hD hS hl
  exact lv_ishl hx hb hd (k H locs ls hP hD hS hl)
theorem g_ishr {X : CT} {w : WG} {M : MD} {Q : QT} {I : SI} {L : SL} {pc : Nat} {f : LV} {x y : Int32} {st : List Value} (hX : Cx X w M Q) (hd : decode M.2.1 pc = .ok (.ishr, 1)) (k : G X w M I L (pc + 1) (f) (.int (x >>> (y &&& 31)) :: st)) : G X w M I L pc f (.int y :: .int x :: st) := by
  obtain ⟨p, l, e, R, s, m, args, below, meth, c, A, cells, slots, Qf⟩ := X
  obtain ⟨hx, hb, hml, hr, hlk, ho, hts, hK, hSW, hA, hR, hc, hs, hq⟩ := hX
  intro H locs ls hP hD hS hl
  exact lv_ishr hx hb hd (k H locs ls hP hD hS hl)
theorem g_ladd {X : CT} {w : WG} {M : MD} {Q : QT} {I : SI} {L : SL} {pc : Nat} {f : LV} {x y : Int64} {st : List Value} (hX : Cx X w M Q) (hd : decode M.2.1 pc = .ok (.ladd, 1)) (k : G X w M I L (pc + 1) (f) (.long (x + y) :: st)) : G X w M I L pc f (.long y :: .long x :: st) := by
  obtain ⟨p, l, e, R, s, m, args, below, meth, c, A, cells, slots, Qf⟩ := X
  obtain ⟨hx, hb, hml, hr, hlk, ho, hts, hK, hSW, hA, hR, hc, hs, hq⟩ := hX
  intro H locs ls hP hD hS hl
  exact lv_ladd hx hb hd (k H locs ls hP hD hS hl)
theorem g_lsub {X : CT} {w : WG} {M : MD} {Q : QT} {I : SI} {L : SL} {pc : Nat} {f : LV} {x y : Int64} {st : List Value} (hX : Cx X w M Q) (hd : decode M.2.1 pc = .ok (.lsub, 1)) (k : G X w M I L (pc + 1) (f) (.long (x - y) :: st)) : G X w M I L pc f (.long y :: .long x :: st) := by
  obtain ⟨p, l, e, R, s, m, args, below, meth, c, A, cells, slots, Qf⟩ := X
  obtain ⟨hx, hb, hml, hr, hlk, ho, hts, hK, hSW, hA, hR, hc, hs, hq⟩ := hX
  intro H locs ls hP hD hS hl
  exact lv_lsub hx hb hd (k H locs ls hP hD hS hl)
theorem g_lmul {X : CT} {w : WG} {M : MD} {Q : QT} {I : SI} {L : SL} {pc : Nat} {f : LV} {x y : Int64} {st : List Value} (hX : Cx X w M Q) (hd : decode M.2.1 pc = .ok (.lmul, 1)) (k : G X w M I L (pc + 1) (f) (.long (x * y) :: st)) : G X w M I L pc f (.long y :: .long x :: st) := by
  obtain ⟨p, l, e, R, s, m, args, below, meth, c, A, cells, slots, Qf⟩ := X
  obtain ⟨hx, hb, hml, hr, hlk, ho, hts, hK, hSW, hA, hR, hc, hs, hq⟩ := hX
  intro H locs ls hP hD hS hl
  exact lv_lmul hx hb hd (k H locs ls hP hD hS hl)
theorem g_idiv {X : CT} {w : WG} {M : MD} {Q : QT} {I : SI} {L : SL} {pc : Nat} {f : LV} {x y : Int32} {st : List Value} (hX : Cx X w M Q) (hd : decode M.2.1 pc = .ok (.idiv, 1)) (hne : ¬ y = 0) (k : G X w M I L (pc + 1) (f) (.int (x / y) :: st)) : G X w M I L pc f (.int y :: .int x :: st) := by
  obtain ⟨p, l, e, R, s, m, args, below, meth, c, A, cells, slots, Qf⟩ := X
  obtain ⟨hx, hb, hml, hr, hlk, ho, hts, hK, hSW, hA, hR, hc, hs, hq⟩ := hX
  intro H locs ls hP hD hS hl
  exact lv_idiv hx hb hd hne (k H locs ls hP hD hS hl)
theorem g_irem {X : CT} {w : WG} {M : MD} {Q : QT} {I : SI} {L : SL} {pc : Nat} {f : LV} {x y : Int32} {st : List Value} (hX : Cx X w M Q) (hd : decode M.2.1 pc = .ok (.irem, 1)) (hne : ¬ y = 0) (k : G X w M I L (pc + 1) (f) (.int (x - x / y * y) :: st)) : G X w M I L pc f (.int y :: .int x :: st) := by
  obtain ⟨p, l, e, R, s, m, args, below, meth, c, A, cells, slots, Qf⟩ := X
  obtain ⟨hx, hb, hml, hr, hlk, ho, hts, hK, hSW, hA, hR, hc, hs, hq⟩ := hX
  intro H locs ls hP hD hS hl
  exact lv_irem hx hb hd hne (k H locs ls hP hD hS hl)
theorem g_ldiv {X : CT} {w : WG} {M : MD} {Q : QT} {I : SI} {L : SL} {pc : Nat} {f : LV} {x y : Int64} {st : List Value} (hX : Cx X w M Q) (hd : decode M.2.1 pc = .ok (.ldiv, 1)) (hne : ¬ y = 0) (k : G X w M I L (pc + 1) (f) (.long (x / y) :: st)) : G X w M I L pc f (.long y :: .long x :: st) := by
  obtain ⟨p, l, e, R, s, m, args, below, meth, c, A, cells, slots, Qf⟩ := X
  obtain ⟨hx, hb, hml, hr, hlk, ho, hts, hK, hSW, hA, hR, hc, hs, hq⟩ := hX
  intro H locs ls hP hD hS hl
  exact lv_ldiv hx hb hd hne (k H locs ls hP hD hS hl)
theorem g_lrem {X : CT} {w : WG} {M : MD} {Q : QT} {I : SI} {L : SL} {pc : Nat} {f : LV} {x y : Int64} {st : List Value} (hX : Cx X w M Q) (hd : decode M.2.1 pc = .ok (.lrem, 1)) (hne : ¬ y = 0) (k : G X w M I L (pc + 1) (f) (.long (x - x / y * y) :: st)) : G X w M I L pc f (.long y :: .long x :: st) := by
  obtain ⟨p, l, e, R, s, m, args, below, meth, c, A, cells, slots, Qf⟩ := X
  obtain ⟨hx, hb, hml, hr, hlk, ho, hts, hK, hSW, hA, hR, hc, hs, hq⟩ := hX
  intro H locs ls hP hD hS hl
  exact lv_lrem hx hb hd hne (k H locs ls hP hD hS hl)
theorem g_ineg {X : CT} {w : WG} {M : MD} {Q : QT} {I : SI} {L : SL} {pc : Nat} {f : LV} {x : Int32} {st : List Value} (hX : Cx X w M Q) (hd : decode M.2.1 pc = .ok (.ineg, 1)) (k : G X w M I L (pc + 1) (f) (.int (-x) :: st)) : G X w M I L pc f (.int x :: st) := by
  obtain ⟨p, l, e, R, s, m, args, below, meth, c, A, cells, slots, Qf⟩ := X
  obtain ⟨hx, hb, hml, hr, hlk, ho, hts, hK, hSW, hA, hR, hc, hs, hq⟩ := hX
  intro H locs ls hP hD hS hl
  exact lv_ineg hx hb hd (k H locs ls hP hD hS hl)
theorem g_iushr {X : CT} {w : WG} {M : MD} {Q : QT} {I : SI} {L : SL} {pc : Nat} {f : LV} {x y : Int32} {st : List Value} (hX : Cx X w M Q) (hd : decode M.2.1 pc = .ok (.iushr, 1)) (k : G X w M I L (pc + 1) (f) (.int ((x.toUInt32 >>> (y.toUInt32 &&& Int32.toUInt32 31)).toInt32) :: st)) : G X w M I L pc f (.int y :: .int x :: st) := by
  obtain ⟨p, l, e, R, s, m, args, below, meth, c, A, cells, slots, Qf⟩ := X
  obtain ⟨hx, hb, hml, hr, hlk, ho, hts, hK, hSW, hA, hR, hc, hs, hq⟩ := hX
  intro H locs ls hP hD hS hl
  exact lv_iushr hx hb hd rfl (k H locs ls hP hD hS hl)
theorem g_i2l {X : CT} {w : WG} {M : MD} {Q : QT} {I : SI} {L : SL} {pc : Nat} {f : LV} {x : Int32} {st : List Value} (hX : Cx X w M Q) (hd : decode M.2.1 pc = .ok (.i2l, 1)) (k : G X w M I L (pc + 1) (f) (.long (x.toInt64) :: st)) : G X w M I L pc f (.int x :: st) := by
  obtain ⟨p, l, e, R, s, m, args, below, meth, c, A, cells, slots, Qf⟩ := X
  obtain ⟨hx, hb, hml, hr, hlk, ho, hts, hK, hSW, hA, hR, hc, hs, hq⟩ := hX
  intro H locs ls hP hD hS hl
  exact lv_i2l hx hb hd rfl (k H locs ls hP hD hS hl)
theorem g_l2i {X : CT} {w : WG} {M : MD} {Q : QT} {I : SI} {L : SL} {pc : Nat} {f : LV} {x : Int64} {st : List Value} (hX : Cx X w M Q) (hd : decode M.2.1 pc = .ok (.l2i, 1)) (k : G X w M I L (pc + 1) (f) (.int (x.toInt32) :: st)) : G X w M I L pc f (.long x :: st) := by
  obtain ⟨p, l, e, R, s, m, args, below, meth, c, A, cells, slots, Qf⟩ := X
  obtain ⟨hx, hb, hml, hr, hlk, ho, hts, hK, hSW, hA, hR, hc, hs, hq⟩ := hX
  intro H locs ls hP hD hS hl
  exact lv_l2i hx hb hd rfl (k H locs ls hP hD hS hl)
theorem g_i2b {X : CT} {w : WG} {M : MD} {Q : QT} {I : SI} {L : SL} {pc : Nat} {f : LV} {x : Int32} {st : List Value} (hX : Cx X w M Q) (hd : decode M.2.1 pc = .ok (.i2b, 1)) (k : G X w M I L (pc + 1) (f) (.int (x.toInt8.toInt32) :: st)) : G X w M I L pc f (.int x :: st) := by
  obtain ⟨p, l, e, R, s, m, args, below, meth, c, A, cells, slots, Qf⟩ := X
  obtain ⟨hx, hb, hml, hr, hlk, ho, hts, hK, hSW, hA, hR, hc, hs, hq⟩ := hX
  intro H locs ls hP hD hS hl
  exact lv_i2b hx hb hd rfl (k H locs ls hP hD hS hl)
theorem g_i2c {X : CT} {w : WG} {M : MD} {Q : QT} {I : SI} {L : SL} {pc : Nat} {f : LV} {x : Int32} {st : List Value} (hX : Cx X w M Q) (hd : decode M.2.1 pc = .ok (.i2c, 1)) (k : G X w M I L (pc + 1) (f) (.int ((x.toUInt32 % 65536).toInt32) :: st)) : G X w M I L pc f (.int x :: st) := by
  obtain ⟨p, l, e, R, s, m, args, below, meth, c, A, cells, slots, Qf⟩ := X
  obtain ⟨hx, hb, hml, hr, hlk, ho, hts, hK, hSW, hA, hR, hc, hs, hq⟩ := hX
  intro H locs ls hP hD hS hl
  exact lv_i2c hx hb hd rfl (k H locs ls hP hD hS hl)
theorem g_lcmp {X : CT} {w : WG} {M : MD} {Q : QT} {I : SI} {L : SL} {pc : Nat} {f : LV} {x y : Int64} {st : List Value} (hX : Cx X w M Q) (hd : decode M.2.1 pc = .ok (.lcmp, 1)) (k : G X w M I L (pc + 1) (f) (.int (lg_cmp x y) :: st)) : G X w M I L pc f (.long y :: .long x :: st) := by
  obtain ⟨p, l, e, R, s, m, args, below, meth, c, A, cells, slots, Qf⟩ := X
  obtain ⟨hx, hb, hml, hr, hlk, ho, hts, hK, hSW, hA, hR, hc, hs, hq⟩ := hX
  intro H locs ls hP hD hS hl
  exact W.lcmp hx hb hd (k H locs ls hP hD hS hl)
theorem g_dup {X : CT} {w : WG} {M : MD} {Q : QT} {I : SI} {L : SL} {pc : Nat} {f : LV} {a : Value} {st : List Value} (hX : Cx X w M Q) (hd : decode M.2.1 pc = .ok (.dup, 1)) (ha : a.category = 1) (k : G X w M I L (pc + 1) (f) (a :: a :: st)) : G X w M I L pc f (a :: st) := by
  obtain ⟨p, l, e, R, s, m, args, below, meth, c, A, cells, slots, Qf⟩ := X
  obtain ⟨hx, hb, hml, hr, hlk, ho, hts, hK, hSW, hA, hR, hc, hs, hq⟩ := hX
  intro H locs ls hP hD hS hl
  exact lv_dup hx hb hd ha (k H locs ls hP hD hS hl)
theorem g_pop {X : CT} {w : WG} {M : MD} {Q : QT} {I : SI} {L : SL} {pc : Nat} {f : LV} {a : Value} {st : List Value} (hX : Cx X w M Q) (hd : decode M.2.1 pc = .ok (.pop, 1)) (ha : a.category = 1) (k : G X w M I L (pc + 1) (f) (st)) : G X w M I L pc f (a :: st) := by
  obtain ⟨p, l, e, R, s, m, args, below, meth, c, A, cells, slots, Qf⟩ := X
  obtain ⟨hx, hb, hml, hr, hlk, ho, hts, hK, hSW, hA, hR, hc, hs, hq⟩ := hX
  intro H locs ls hP hD hS hl
  exact lv_pop hx hb hd ha (k H locs ls hP hD hS hl)
theorem g_dup_x1 {X : CT} {w : WG} {M : MD} {Q : QT} {I : SI} {L : SL} {pc : Nat} {f : LV} {a b : Value} {st : List Value} (hX : Cx X w M Q) (hd : decode M.2.1 pc = .ok (.dup_x1, 1)) (ha : a.category = 1) (hb2 : b.category = 1) (k : G X w M I L (pc + 1) (f) (a :: b :: a :: st)) : G X w M I L pc f (a :: b :: st) := by
  obtain ⟨p, l, e, R, s, m, args, below, meth, c, A, cells, slots, Qf⟩ := X
  obtain ⟨hx, hb, hml, hr, hlk, ho, hts, hK, hSW, hA, hR, hc, hs, hq⟩ := hX
  intro H locs ls hP hD hS hl
  exact lv_dup_x1 hx hb hd ha hb2 (k H locs ls hP hD hS hl)
theorem g_dup2 {X : CT} {w : WG} {M : MD} {Q : QT} {I : SI} {L : SL} {pc : Nat} {f : LV} {a b : Value} {st : List Value} (hX : Cx X w M Q) (hd : decode M.2.1 pc = .ok (.dup2, 1)) (ha : a.category = 1) (hb2 : b.category = 1) (k : G X w M I L (pc + 1) (f) (a :: b :: a :: b :: st)) : G X w M I L pc f (a :: b :: st) := by
  obtain ⟨p, l, e, R, s, m, args, below, meth, c, A, cells, slots, Qf⟩ := X
  obtain ⟨hx, hb, hml, hr, hlk, ho, hts, hK, hSW, hA, hR, hc, hs, hq⟩ := hX
  intro H locs ls hP hD hS hl
  exact lv_dup2_11 hx hb hd ha hb2 (k H locs ls hP hD hS hl)
theorem g_dup2l {X : CT} {w : WG} {M : MD} {Q : QT} {I : SI} {L : SL} {pc : Nat} {f : LV} {a : Value} {st : List Value} (hX : Cx X w M Q) (hd : decode M.2.1 pc = .ok (.dup2, 1)) (ha : a.category = 2) (k : G X w M I L (pc + 1) (f) (a :: a :: st)) : G X w M I L pc f (a :: st) := by
  obtain ⟨p, l, e, R, s, m, args, below, meth, c, A, cells, slots, Qf⟩ := X
  obtain ⟨hx, hb, hml, hr, hlk, ho, hts, hK, hSW, hA, hR, hc, hs, hq⟩ := hX
  intro H locs ls hP hD hS hl
  exact lv_dup2_2 hx hb hd ha (k H locs ls hP hD hS hl)
theorem g_if_eq {X : CT} {w : WG} {M : MD} {Q : QT} {I : SI} {L : SL} {pc : Nat} {f : LV} {x : Int32} {off : Int} {tgt : Nat} {st : List Value} (hX : Cx X w M Q) (hd : decode M.2.1 pc = .ok (.ifCond .eq off, 3)) (ht : (pc : Int) + off = (tgt : Int)) (kt : x = 0 → G X w M I L tgt f st) (kf : ¬ x = 0 → G X w M I L (pc + 3) f st) : G X w M I L pc f (.int x :: st) := by
  obtain ⟨p, l, e, R, s, m, args, below, meth, c, A, cells, slots, Qf⟩ := X
  obtain ⟨hx, hb, hml, hr, hlk, ho, hts, hK, hSW, hA, hR, hc, hs, hq⟩ := hX
  intro H locs ls hP hD hS hl
  exact lv_if_eq hx hb hd ht (fun h => kt h H locs ls hP hD hS hl) (fun h => kf h H locs ls hP hD hS hl)
theorem g_icmp_eq {X : CT} {w : WG} {M : MD} {Q : QT} {I : SI} {L : SL} {pc : Nat} {f : LV} {x y : Int32} {off : Int} {tgt : Nat} {st : List Value} (hX : Cx X w M Q) (hd : decode M.2.1 pc = .ok (.if_icmp .eq off, 3)) (ht : (pc : Int) + off = (tgt : Int)) (kt : x = y → G X w M I L tgt f st) (kf : ¬ x = y → G X w M I L (pc + 3) f st) : G X w M I L pc f (.int y :: .int x :: st) := by
  obtain ⟨p, l, e, R, s, m, args, below, meth, c, A, cells, slots, Qf⟩ := X
  obtain ⟨hx, hb, hml, hr, hlk, ho, hts, hK, hSW, hA, hR, hc, hs, hq⟩ := hX
  intro H locs ls hP hD hS hl
  exact lv_icmp_eq hx hb hd ht (fun h => kt h H locs ls hP hD hS hl) (fun h => kf h H locs ls hP hD hS hl)
theorem g_if_ne {X : CT} {w : WG} {M : MD} {Q : QT} {I : SI} {L : SL} {pc : Nat} {f : LV} {x : Int32} {off : Int} {tgt : Nat} {st : List Value} (hX : Cx X w M Q) (hd : decode M.2.1 pc = .ok (.ifCond .ne off, 3)) (ht : (pc : Int) + off = (tgt : Int)) (kt : ¬ x = 0 → G X w M I L tgt f st) (kf : x = 0 → G X w M I L (pc + 3) f st) : G X w M I L pc f (.int x :: st) := by
  obtain ⟨p, l, e, R, s, m, args, below, meth, c, A, cells, slots, Qf⟩ := X
  obtain ⟨hx, hb, hml, hr, hlk, ho, hts, hK, hSW, hA, hR, hc, hs, hq⟩ := hX
  intro H locs ls hP hD hS hl
  exact lv_if_ne hx hb hd ht (fun h => kt h H locs ls hP hD hS hl) (fun h => kf h H locs ls hP hD hS hl)
theorem g_icmp_ne {X : CT} {w : WG} {M : MD} {Q : QT} {I : SI} {L : SL} {pc : Nat} {f : LV} {x y : Int32} {off : Int} {tgt : Nat} {st : List Value} (hX : Cx X w M Q) (hd : decode M.2.1 pc = .ok (.if_icmp .ne off, 3)) (ht : (pc : Int) + off = (tgt : Int)) (kt : ¬ x = y → G X w M I L tgt f st) (kf : x = y → G X w M I L (pc + 3) f st) : G X w M I L pc f (.int y :: .int x :: st) := by
  obtain ⟨p, l, e, R, s, m, args, below, meth, c, A, cells, slots, Qf⟩ := X
  obtain ⟨hx, hb, hml, hr, hlk, ho, hts, hK, hSW, hA, hR, hc, hs, hq⟩ := hX
  intro H locs ls hP hD hS hl
  exact lv_icmp_ne hx hb hd ht (fun h => kt h H locs ls hP hD hS hl) (fun h => kf h H locs ls hP hD hS hl)
theorem g_if_lt {X : CT} {w : WG} {M : MD} {Q : QT} {I : SI} {L : SL} {pc : Nat} {f : LV} {x : Int32} {off : Int} {tgt : Nat} {st : List Value} (hX : Cx X w M Q) (hd : decode M.2.1 pc = .ok (.ifCond .lt off, 3)) (ht : (pc : Int) + off = (tgt : Int)) (kt : x < 0 → G X w M I L tgt f st) (kf : ¬ x < 0 → G X w M I L (pc + 3) f st) : G X w M I L pc f (.int x :: st) := by
  obtain ⟨p, l, e, R, s, m, args, below, meth, c, A, cells, slots, Qf⟩ := X
  obtain ⟨hx, hb, hml, hr, hlk, ho, hts, hK, hSW, hA, hR, hc, hs, hq⟩ := hX
  intro H locs ls hP hD hS hl
  exact lv_if_lt hx hb hd ht (fun h => kt h H locs ls hP hD hS hl) (fun h => kf h H locs ls hP hD hS hl)
theorem g_icmp_lt {X : CT} {w : WG} {M : MD} {Q : QT} {I : SI} {L : SL} {pc : Nat} {f : LV} {x y : Int32} {off : Int} {tgt : Nat} {st : List Value} (hX : Cx X w M Q) (hd : decode M.2.1 pc = .ok (.if_icmp .lt off, 3)) (ht : (pc : Int) + off = (tgt : Int)) (kt : x < y → G X w M I L tgt f st) (kf : ¬ x < y → G X w M I L (pc + 3) f st) : G X w M I L pc f (.int y :: .int x :: st) := by
  obtain ⟨p, l, e, R, s, m, args, below, meth, c, A, cells, slots, Qf⟩ := X
  obtain ⟨hx, hb, hml, hr, hlk, ho, hts, hK, hSW, hA, hR, hc, hs, hq⟩ := hX
  intro H locs ls hP hD hS hl
  exact lv_icmp_lt hx hb hd ht (fun h => kt h H locs ls hP hD hS hl) (fun h => kf h H locs ls hP hD hS hl)
theorem g_if_ge {X : CT} {w : WG} {M : MD} {Q : QT} {I : SI} {L : SL} {pc : Nat} {f : LV} {x : Int32} {off : Int} {tgt : Nat} {st : List Value} (hX : Cx X w M Q) (hd : decode M.2.1 pc = .ok (.ifCond .ge off, 3)) (ht : (pc : Int) + off = (tgt : Int)) (kt : 0 ≤ x → G X w M I L tgt f st) (kf : ¬ 0 ≤ x → G X w M I L (pc + 3) f st) : G X w M I L pc f (.int x :: st) := by
  obtain ⟨p, l, e, R, s, m, args, below, meth, c, A, cells, slots, Qf⟩ := X
  obtain ⟨hx, hb, hml, hr, hlk, ho, hts, hK, hSW, hA, hR, hc, hs, hq⟩ := hX
  intro H locs ls hP hD hS hl
  exact lv_if_ge hx hb hd ht (fun h => kt h H locs ls hP hD hS hl) (fun h => kf h H locs ls hP hD hS hl)
theorem g_icmp_ge {X : CT} {w : WG} {M : MD} {Q : QT} {I : SI} {L : SL} {pc : Nat} {f : LV} {x y : Int32} {off : Int} {tgt : Nat} {st : List Value} (hX : Cx X w M Q) (hd : decode M.2.1 pc = .ok (.if_icmp .ge off, 3)) (ht : (pc : Int) + off = (tgt : Int)) (kt : y ≤ x → G X w M I L tgt f st) (kf : ¬ y ≤ x → G X w M I L (pc + 3) f st) : G X w M I L pc f (.int y :: .int x :: st) := by
  obtain ⟨p, l, e, R, s, m, args, below, meth, c, A, cells, slots, Qf⟩ := X
  obtain ⟨hx, hb, hml, hr, hlk, ho, hts, hK, hSW, hA, hR, hc, hs, hq⟩ := hX
  intro H locs ls hP hD hS hl
  exact lv_icmp_ge hx hb hd ht (fun h => kt h H locs ls hP hD hS hl) (fun h => kf h H locs ls hP hD hS hl)
theorem g_if_gt {X : CT} {w : WG} {M : MD} {Q : QT} {I : SI} {L : SL} {pc : Nat} {f : LV} {x : Int32} {off : Int} {tgt : Nat} {st : List Value} (hX : Cx X w M Q) (hd : decode M.2.1 pc = .ok (.ifCond .gt off, 3)) (ht : (pc : Int) + off = (tgt : Int)) (kt : 0 < x → G X w M I L tgt f st) (kf : ¬ 0 < x → G X w M I L (pc + 3) f st) : G X w M I L pc f (.int x :: st) := by
  obtain ⟨p, l, e, R, s, m, args, below, meth, c, A, cells, slots, Qf⟩ := X
  obtain ⟨hx, hb, hml, hr, hlk, ho, hts, hK, hSW, hA, hR, hc, hs, hq⟩ := hX
  intro H locs ls hP hD hS hl
  exact lv_if_gt hx hb hd ht (fun h => kt h H locs ls hP hD hS hl) (fun h => kf h H locs ls hP hD hS hl)
theorem g_icmp_gt {X : CT} {w : WG} {M : MD} {Q : QT} {I : SI} {L : SL} {pc : Nat} {f : LV} {x y : Int32} {off : Int} {tgt : Nat} {st : List Value} (hX : Cx X w M Q) (hd : decode M.2.1 pc = .ok (.if_icmp .gt off, 3)) (ht : (pc : Int) + off = (tgt : Int)) (kt : y < x → G X w M I L tgt f st) (kf : ¬ y < x → G X w M I L (pc + 3) f st) : G X w M I L pc f (.int y :: .int x :: st) := by
  obtain ⟨p, l, e, R, s, m, args, below, meth, c, A, cells, slots, Qf⟩ := X
  obtain ⟨hx, hb, hml, hr, hlk, ho, hts, hK, hSW, hA, hR, hc, hs, hq⟩ := hX
  intro H locs ls hP hD hS hl
  exact lv_icmp_gt hx hb hd ht (fun h => kt h H locs ls hP hD hS hl) (fun h => kf h H locs ls hP hD hS hl)
theorem g_if_le {X : CT} {w : WG} {M : MD} {Q : QT} {I : SI} {L : SL} {pc : Nat} {f : LV} {x : Int32} {off : Int} {tgt : Nat} {st : List Value} (hX : Cx X w M Q) (hd : decode M.2.1 pc = .ok (.ifCond .le off, 3)) (ht : (pc : Int) + off = (tgt : Int)) (kt : x ≤ 0 → G X w M I L tgt f st) (kf : ¬ x ≤ 0 → G X w M I L (pc + 3) f st) : G X w M I L pc f (.int x :: st) := by
  obtain ⟨p, l, e, R, s, m, args, below, meth, c, A, cells, slots, Qf⟩ := X
  obtain ⟨hx, hb, hml, hr, hlk, ho, hts, hK, hSW, hA, hR, hc, hs, hq⟩ := hX
  intro H locs ls hP hD hS hl
  exact lv_if_le hx hb hd ht (fun h => kt h H locs ls hP hD hS hl) (fun h => kf h H locs ls hP hD hS hl)
theorem g_icmp_le {X : CT} {w : WG} {M : MD} {Q : QT} {I : SI} {L : SL} {pc : Nat} {f : LV} {x y : Int32} {off : Int} {tgt : Nat} {st : List Value} (hX : Cx X w M Q) (hd : decode M.2.1 pc = .ok (.if_icmp .le off, 3)) (ht : (pc : Int) + off = (tgt : Int)) (kt : x ≤ y → G X w M I L tgt f st) (kf : ¬ x ≤ y → G X w M I L (pc + 3) f st) : G X w M I L pc f (.int y :: .int x :: st) := by
  obtain ⟨p, l, e, R, s, m, args, below, meth, c, A, cells, slots, Qf⟩ := X
  obtain ⟨hx, hb, hml, hr, hlk, ho, hts, hK, hSW, hA, hR, hc, hs, hq⟩ := hX
  intro H locs ls hP hD hS hl
  exact lv_icmp_le hx hb hd ht (fun h => kt h H locs ls hP hD hS hl) (fun h => kf h H locs ls hP hD hS hl)
theorem g_goto {X : CT} {w : WG} {M : MD} {Q : QT} {I : SI} {L : SL} {pc : Nat} {f : LV} {off : Int} {tgt : Nat} {st : List Value} (hX : Cx X w M Q) (hd : decode M.2.1 pc = .ok (.goto off, 3)) (ht : (pc : Int) + off = (tgt : Int)) (kk : G X w M I L tgt f st) : G X w M I L pc f st := by
  obtain ⟨p, l, e, R, s, m, args, below, meth, c, A, cells, slots, Qf⟩ := X
  obtain ⟨hx, hb, hml, hr, hlk, ho, hts, hK, hSW, hA, hR, hc, hs, hq⟩ := hX
  intro H locs ls hP hD hS hl
  exact lv_goto hx hb hd ht (kk H locs ls hP hD hS hl)
theorem g_tabOut {X : CT} {w : WG} {M : MD} {Q : QT} {I : SI} {L : SL} {pc : Nat} {f : LV} {dflt lo hi : Int} {offs : Array Int} {len : Nat} {x : Int32} {tgt : Nat} {st : List Value} (hX : Cx X w M Q) (hd : decode M.2.1 pc = .ok (.tableswitch dflt lo hi offs, len)) (h : x.toInt < lo ∨ hi < x.toInt) (ht : (pc : Int) + dflt = (tgt : Int)) (kk : G X w M I L tgt f st) : G X w M I L pc f (.int x :: st) := by
  obtain ⟨p, l, e, R, s, m, args, below, meth, c, A, cells, slots, Qf⟩ := X
  obtain ⟨hx, hb, hml, hr, hlk, ho, hts, hK, hSW, hA, hR, hc, hs, hq⟩ := hX
  intro H locs ls hP hD hS hl
  exact lv_tableOut hx hb hd h ht (kk H locs ls hP hD hS hl)
theorem g_tabIn {X : CT} {w : WG} {M : MD} {Q : QT} {I : SI} {L : SL} {pc : Nat} {f : LV} {dflt lo hi : Int} {offs : Array Int} {len : Nat} {x : Int32} {off : Int} {tgt : Nat} {st : List Value} (hX : Cx X w M Q) (hd : decode M.2.1 pc = .ok (.tableswitch dflt lo hi offs, len)) (h1 : ¬ x.toInt < lo) (h2 : ¬ hi < x.toInt) (ho2 : offs[(x.toInt - lo).toNat]? = some off) (ht : (pc : Int) + off = (tgt : Int)) (kk : G X w M I L tgt f st) : G X w M I L pc f (.int x :: st) := by
  obtain ⟨p, l, e, R, s, m, args, below, meth, c, A, cells, slots, Qf⟩ := X
  obtain ⟨hx, hb, hml, hr, hlk, ho, hts, hK, hSW, hA, hR, hc, hs, hq⟩ := hX
  intro H locs ls hP hD hS hl
  exact lv_tableIn hx hb hd h1 h2 ho2 ht (kk H locs ls hP hD hS hl)
theorem g_lookup {X : CT} {w : WG} {M : MD} {Q : QT} {I : SI} {L : SL} {pc : Nat} {f : LV} {dflt : Int} {ps : Array (Int × Int)} {len : Nat} {x : Int32} {off : Int} {tgt : Nat} {st : List Value} (hX : Cx X w M Q) (hd : decode M.2.1 pc = .ok (.lookupswitch dflt ps, len)) (hp : (ps.toList.zip (ps.toList.drop 1)).all (fun (a, next) => a.1 < next.1) = true) (ho2 : Op.lookupswitch.offset ps.toList dflt x.toInt = off) (ht : (pc : Int) + off = (tgt : Int)) (kk : G X w M I L tgt f st) : G X w M I L pc f (.int x :: st) := by
  obtain ⟨p, l, e, R, s, m, args, below, meth, c, A, cells, slots, Qf⟩ := X
  obtain ⟨hx, hb, hml, hr, hlk, ho, hts, hK, hSW, hA, hR, hc, hs, hq⟩ := hX
  intro H locs ls hP hD hS hl
  exact lv_lookup hx hb hd hp ho2 ht (kk H locs ls hP hD hS hl)
theorem cE_obj (w : WG) {c n : Nat} (h : c < 5) (i : Nat → Int32) (j : Nat → Int64) (r : Nat → Option Nat) : cE w (c, n) i j r = .inr (c, (ft c).mapIdx (fun k t => fv t (i k) (j k) (r k))) := by
  simp [cE, h]
theorem cE_byte (w : WG) (n : Nat) (i : Nat → Int32) (j : Nat → Int64) (r : Nat → Option Nat) : cE w (5, n) i j r = .inl (w.2.1.1, n, .inl i) := rfl
theorem cE_int (w : WG) (n : Nat) (i : Nat → Int32) (j : Nat → Int64) (r : Nat → Option Nat) : cE w (6, n) i j r = .inl (w.2.1.2.1, n, .inl i) := rfl
theorem cE_ref (w : WG) (n : Nat) (i : Nat → Int32) (j : Nat → Int64) (r : Nat → Option Nat) : cE w (7, n) i j r = .inl (w.2.1.2.2, n, .inr (.inr (.inr (.inr r)))) := rfl
theorem ob_get {w : WG} {I : SI} {L : SL} {o c n : Nat} (hc : c < 5) (h : (gK w)[o]? = some (c, n)) : (wsO w I L)[o]? = some (gA w o, .inr (c, (ft c).mapIdx (fun k t => fv t (I o k) (L o k) (gP w o k)))) := by
  rw [wsO_get h, cE_obj w hc]
theorem ob_setI {w : WG} {I : SI} {L : SL} {o c n k : Nat} (hc : c < 5) (h : (gK w)[o]? = some (c, n)) (hf : (ft c)[k]? = some 0) (x : Int32) : (wsO w I L).set o (gA w o, .inr (c, ((ft c).mapIdx (fun k t => fv t (I o k) (L o k) (gP w o k))).set k (.int x))) = wsO w (rS I o (upd (I o) k x)) L := by
  rw [fs_setI _ _ _ x hf, ← cE_obj w (n := n) hc]
  exact wsO_setI h
theorem ob_setL {w : WG} {I : SI} {L : SL} {o c n k : Nat} (hc : c < 5) (h : (gK w)[o]? = some (c, n)) (hf : (ft c)[k]? = some 1) (x : Int64) : (wsO w I L).set o (gA w o, .inr (c, ((ft c).mapIdx (fun k t => fv t (I o k) (L o k) (gP w o k))).set k (.long x))) = wsO w I (rS L o (vp_updL (L o) k x)) := by
  rw [fs_setL _ _ _ x hf, ← cE_obj w (n := n) hc]
  exact wsO_setL h
/-- what a program decides of a field -/
def pf1 (k t : Nat) (ty : FieldType) : Prop := (ft 0)[k]? = some t ∧ k < 6 ∧ (TX1 k).2.2.2 = false ∧ parseFieldDescriptor (TX1 k).2.2.1 = some ty
theorem g_get1I {X : CT} {w : WG} {M : MD} {Q : QT} {I : SI} {L : SL} {pc : Nat} {f : LV} {o n idx : Nat} {st : List Value} (hX : Cx X w M Q) (k : Nat) (hd : decode M.2.1 pc = .ok (.getfield idx, 3)) (hw : Cond.fieldLink M.1.cls idx (TX1 k).1 (TX1 k).2.1 (TX1 k).2.2.1 ∈ BG) (hk : (gK w)[o]? = some (0, n)) (hf : (ft 0)[k]? = some 0 ∧ k < 6) (kk : G X w M I L (pc + 3) f (.int (I o k) :: st)) : G X w M I L pc f (.ref (gA w o) :: st) := by
  obtain ⟨p, l, e, R, s, m, args, below, meth, c, A, cells, slots, Qf⟩ := X
  obtain ⟨hx, hb, hml, hr, hlk, ho, hts, hK, hSW, hA, hR, hc, hs, hq⟩ := hX
  intro H locs ls hP hD hS hl
  exact va_get (D := w.1) (cl := vwCl) (ci := 0) (C := RX1) (T := TX1) (N := 6) hx hb hts inB1 ho hK hP o (ob_get (by decide) hk) rfl k hf.2 (hts _ hw) (fun _ h => h) (fs_get _ _ _ hf.1) hd (kk H locs ls hP hD hS hl)
theorem g_get1R {X : CT} {w : WG} {M : MD} {Q : QT} {I : SI} {L : SL} {pc : Nat} {f : LV} {o n idx a : Nat} {st : List Value} (hX : Cx X w M Q) (k : Nat) (hd : decode M.2.1 pc = .ok (.getfield idx, 3)) (hw : Cond.fieldLink M.1.cls idx (TX1 k).1 (TX1 k).2.1 (TX1 k).2.2.1 ∈ BG) (hk : (gK w)[o]? = some (0, n)) (hf : (ft 0)[k]? = some 2 ∧ k < 6) (hp : gP w o k = some a) (kk : G X w M I L (pc + 3) f (.ref a :: st)) : G X w M I L pc f (.ref (gA w o) :: st) := by
  obtain ⟨p, l, e, R, s, m, args, below, meth, c, A, cells, slots, Qf⟩ := X
  obtain ⟨hx, hb, hml, hr, hlk, ho, hts, hK, hSW, hA, hR, hc, hs, hq⟩ := hX
  intro H locs ls hP hD hS hl
  refine va_get (D := w.1) (cl := vwCl) (ci := 0) (C := RX1) (T := TX1) (N := 6) (v := .ref a) hx hb hts inB1 ho hK hP o (ob_get (by decide) hk) rfl k hf.2 (hts _ hw) (fun _ h => h) ?_ hd (kk H locs ls hP hD hS hl)
  rw [fs_get _ _ _ hf.1, hp]
  rfl
theorem g_put1I {X : CT} {w : WG} {M : MD} {Q : QT} {I : SI} {L : SL} {pc : Nat} {f : LV} {o n idx : Nat} {x : Int32} {st : List Value} (hX : Cx X w M Q) (k : Nat) (hd : decode M.2.1 pc = .ok (.putfield idx, 3)) (hw : Cond.fieldLink M.1.cls idx (TX1 k).1 (TX1 k).2.1 (TX1 k).2.2.1 ∈ BG) (hk : (gK w)[o]? = some (0, n)) (hf : pf1 k 0 .int) (kk : G X w M (rS I o (upd (I o) k x)) L (pc + 3) f st) : G X w M I L pc f (.int x :: .ref (gA w o) :: st) := by
  obtain ⟨p, l, e, R, s, m, args, below, meth, c, A, cells, slots, Qf⟩ := X
  obtain ⟨hx, hb, hml, hr, hlk, ho, hts, hK, hSW, hA, hR, hc, hs, hq⟩ := hX
  intro H locs ls hP hD hS hl
  obtain ⟨hf0, hN, hfin, hpd⟩ := hf
  refine va_put (D := w.1) (cl := vwCl) (ci := 0) (C := RX1) (T := TX1) (N := 6) hx hb hts inB1 tyX1 tyX1_ok nmX1 ho hK hP hD hS o (ob_get (by decide) hk) rfl k hN (hts _ hw) (fun _ h => h) hfin hpd rfl rfl ?_ hd (fun H1 locs1 hP1 hD1 hS1 => kk H1 locs1 ls ?_ ?_ hS1 hl)
  · simpa using (List.getElem?_eq_some_iff.mp hf0).1
  · rw [← ob_setI (by decide) hk hf0 x]
    exact hP1
  · rw [← ob_setI (by decide) hk hf0 x]
    exact hD1
/-- what a program decides of a field -/
def pf2 (k t : Nat) (ty : FieldType) : Prop := (ft 1)[k]? = some t ∧ k < 2 ∧ (TX2 k).2.2.2 = false ∧ parseFieldDescriptor (TX2 k).2.2.1 = some ty
theorem g_get2I {X : CT} {w : WG} {M : MD} {Q : QT} {I : SI} {L : SL} {pc : Nat} {f : LV} {o n idx : Nat} {st : List Value} (hX : Cx X w M Q) (k : Nat) (hd : decode M.2.1 pc = .ok (.getfield idx, 3)) (hw : Cond.fieldLink M.1.cls idx (TX2 k).1 (TX2 k).2.1 (TX2 k).2.2.1 ∈ BG) (hk : (gK w)[o]? = some (1, n)) (hf : (ft 1)[k]? = some 0 ∧ k < 2) (kk : G X w M I L (pc + 3) f (.int (I o k) :: st)) : G X w M I L pc f (.ref (gA w o) :: st) := by
  obtain ⟨p, l, e, R, s, m, args, below, meth, c, A, cells, slots, Qf⟩ := X
  obtain ⟨hx, hb, hml, hr, hlk, ho, hts, hK, hSW, hA, hR, hc, hs, hq⟩ := hX
  intro H locs ls hP hD hS hl
  exact va_get (D := w.1) (cl := vwCl) (ci := 1) (C := RX2) (T := TX2) (N := 2) hx hb hts inB2 ho hK hP o (ob_get (by decide) hk) rfl k hf.2 (hts _ hw) (fun _ h => h) (fs_get _ _ _ hf.1) hd (kk H locs ls hP hD hS hl)
theorem g_get2R {X : CT} {w : WG} {M : MD} {Q : QT} {I : SI} {L : SL} {pc : Nat} {f : LV} {o n idx a : Nat} {st : List Value} (hX : Cx X w M Q) (k : Nat) (hd : decode M.2.1 pc = .ok (.getfield idx, 3)) (hw : Cond.fieldLink M.1.cls idx (TX2 k).1 (TX2 k).2.1 (TX2 k).2.2.1 ∈ BG) (hk : (gK w)[o]? = some (1, n)) (hf : (ft 1)[k]? = some 2 ∧ k < 2) (hp : gP w o k = some a) (kk : G X w M I L (pc + 3) f (.ref a :: st)) : G X w M I L pc f (.ref (gA w o) :: st) := by
  obtain ⟨p, l, e, R, s, m, args, below, meth, c, A, cells, slots, Qf⟩ := X
  obtain ⟨hx, hb, hml, hr, hlk, ho, hts, hK, hSW, hA, hR, hc, hs, hq⟩ := hX
  intro H locs ls hP hD hS hl
  refine va_get (D := w.1) (cl := vwCl) (ci := 1) (C := RX2) (T := TX2) (N := 2) (v := .ref a) hx hb hts inB2 ho hK hP o (ob_get (by decide) hk) rfl k hf.2 (hts _ hw) (fun _ h => h) ?_ hd (kk H locs ls hP hD hS hl)
  rw [fs_get _ _ _ hf.1, hp]
  rfl
theorem g_put2I {X : CT} {w : WG} {M : MD} {Q : QT} {I : SI} {L : SL} {pc : Nat} {f : LV} {o n idx : Nat} {x : Int32} {st : List Value} (hX : Cx X w M Q) (k : Nat) (hd : decode M.2.1 pc = .ok (.putfield idx, 3)) (hw : Cond.fieldLink M.1.cls idx (TX2 k).1 (TX2 k).2.1 (TX2 k).2.2.1 ∈ BG) (hk : (gK w)[o]? = some (1, n)) (hf : pf2 k 0 .int) (kk : G X w M (rS I o (upd (I o) k x)) L (pc + 3) f st) : G X w M I L pc f (.int x :: .ref (gA w o) :: st) := by
  obtain ⟨p, l, e, R, s, m, args, below, meth, c, A, cells, slots, Qf⟩ := X
  obtain ⟨hx, hb, hml, hr, hlk, ho, hts, hK, hSW, hA, hR, hc, hs, hq⟩ := hX
  intro H locs ls hP hD hS hl
  obtain ⟨hf0, hN, hfin, hpd⟩ := hf
  refine va_put (D := w.1) (cl := vwCl) (ci := 1) (C := RX2) (T := TX2) (N := 2) hx hb hts inB2 tyX2 tyX2_ok nmX2 ho hK hP hD hS o (ob_get (by decide) hk) rfl k hN (hts _ hw) (fun _ h => h) hfin hpd rfl rfl ?_ hd (fun H1 locs1 hP1 hD1 hS1 => kk H1 locs1 ls ?_ ?_ hS1 hl)
  · simpa using (List.getElem?_eq_some_iff.mp hf0).1
  · rw [← ob_setI (by decide) hk hf0 x]
    exact hP1
  · rw [← ob_setI (by decide) hk hf0 x]
    exact hD1
/-- what a program decides of a field -/
def pf3 (k t : Nat) (ty : FieldType) : Prop := (ft 2)[k]? = some t ∧ k < 15 ∧ (TX3 k).2.2.2 = false ∧ parseFieldDescriptor (TX3 k).2.2.1 = some ty
theorem g_get3I {X : CT} {w : WG} {M : MD} {Q : QT} {I : SI} {L : SL} {pc : Nat} {f : LV} {o n idx : Nat} {st : List Value} (hX : Cx X w M Q) (k : Nat) (hd : decode M.2.1 pc = .ok (.getfield idx, 3)) (hw : Cond.fieldLink M.1.cls idx (TX3 k).1 (TX3 k).2.1 (TX3 k).2.2.1 ∈ BG) (hk : (gK w)[o]? = some (2, n)) (hf : (ft 2)[k]? = some 0 ∧ k < 15) (kk : G X w M I L (pc + 3) f (.int (I o k) :: st)) : G X w M I L pc f (.ref (gA w o) :: st) := by
  obtain ⟨p, l, e, R, s, m, args, below, meth, c, A, cells, slots, Qf⟩ := X
  obtain ⟨hx, hb, hml, hr, hlk, ho, hts, hK, hSW, hA, hR, hc, hs, hq⟩ := hX
  intro H locs ls hP hD hS hl
  exact va_get (D := w.1) (cl := vwCl) (ci := 2) (C := RX3) (T := TX3) (N := 15) hx hb hts inB3 ho hK hP o (ob_get (by decide) hk) rfl k hf.2 (hts _ hw) (fun _ h => h) (fs_get _ _ _ hf.1) hd (kk H locs ls hP hD hS hl)
theorem g_get3R {X : CT} {w : WG} {M : MD} {Q : QT} {I : SI} {L : SL} {pc : Nat} {f : LV} {o n idx a : Nat} {st : List Value} (hX : Cx X w M Q) (k : Nat) (hd : decode M.2.1 pc = .ok (.getfield idx, 3)) (hw : Cond.fieldLink M.1.cls idx (TX3 k).1 (TX3 k).2.1 (TX3 k).2.2.1 ∈ BG) (hk : (gK w)[o]? = some (2, n)) (hf : (ft 2)[k]? = some 2 ∧ k < 15) (hp : gP w o k = some a) (kk : G X w M I L (pc + 3) f (.ref a :: st)) : G X w M I L pc f (.ref (gA w o) :: st) := by
  obtain ⟨p, l, e, R, s, m, args, below, meth, c, A, cells, slots, Qf⟩ := X
  obtain ⟨hx, hb, hml, hr, hlk, ho, hts, hK, hSW, hA, hR, hc, hs, hq⟩ := hX
  intro H locs ls hP hD hS hl
  refine va_get (D := w.1) (cl := vwCl) (ci := 2) (C := RX3) (T := TX3) (N := 15) (v := .ref a) hx hb hts inB3 ho hK hP o (ob_get (by decide) hk) rfl k hf.2 (hts _ hw) (fun _ h => h) ?_ hd (kk H locs ls hP hD hS hl)
  rw [fs_get _ _ _ hf.1, hp]
  rfl
theorem g_put3I {X : CT} {w : WG} {M : MD} {Q : QT} {I : SI} {L : SL} {pc : Nat} {f : LV} {o n idx : Nat} {x : Int32} {st : List Value} (hX : Cx X w M Q) (k : Nat) (hd : decode M.2.1 pc = .ok (.putfield idx, 3)) (hw : Cond.fieldLink M.1.cls idx (TX3 k).1 (TX3 k).2.1 (TX3 k).2.2.1 ∈ BG) (hk : (gK w)[o]? = some (2, n)) (hf : pf3 k 0 .int) (kk : G X w M (rS I o (upd (I o) k x)) L (pc + 3) f st) : G X w M I L pc f (.int x :: .ref (gA w o) :: st) := by
  obtain ⟨p, l, e, R, s, m, args, below, meth, c, A, cells, slots, Qf⟩ := X
  obtain ⟨hx, hb, hml, hr, hlk, ho, hts, hK, hSW, hA, hR, hc, hs, hq⟩ := hX
  intro H locs ls hP hD hS hl
  obtain ⟨hf0, hN, hfin, hpd⟩ := hf
  refine va_put (D := w.1) (cl := vwCl) (ci := 2) (C := RX3) (T := TX3) (N := 15) hx hb hts inB3 tyX3 tyX3_ok nmX3 ho hK hP hD hS o (ob_get (by decide) hk) rfl k hN (hts _ hw) (fun _ h => h) hfin hpd rfl rfl ?_ hd (fun H1 locs1 hP1 hD1 hS1 => kk H1 locs1 ls ?_ ?_ hS1 hl)
  · simpa using (List.getElem?_eq_some_iff.mp hf0).1
  · rw [← ob_setI (by decide) hk hf0 x]
    exact hP1
  · rw [← ob_setI (by decide) hk hf0 x]
    exact hD1
/-- what a program decides of a field -/
def pf4 (k t : Nat) (ty : FieldType) : Prop := (ft 3)[k]? = some t ∧ k < 12 ∧ (TX4 k).2.2.2 = false ∧ parseFieldDescriptor (TX4 k).2.2.1 = some ty
theorem g_get4I {X : CT} {w : WG} {M : MD} {Q : QT} {I : SI} {L : SL} {pc : Nat} {f : LV} {o n idx : Nat} {st : List Value} (hX : Cx X w M Q) (k : Nat) (hd : decode M.2.1 pc = .ok (.getfield idx, 3)) (hw : Cond.fieldLink M.1.cls idx (TX4 k).1 (TX4 k).2.1 (TX4 k).2.2.1 ∈ BG) (hk : (gK w)[o]? = some (3, n)) (hf : (ft 3)[k]? = some 0 ∧ k < 12) (kk : G X w M I L (pc + 3) f (.int (I o k) :: st)) : G X w M I L pc f (.ref (gA w o) :: st) := by
  obtain ⟨p, l, e, R, s, m, args, below, meth, c, A, cells, slots, Qf⟩ := X
  obtain ⟨hx, hb, hml, hr, hlk, ho, hts, hK, hSW, hA, hR, hc, hs, hq⟩ := hX
  intro H locs ls hP hD hS hl
  exact va_get (D := w.1) (cl := vwCl) (ci := 3) (C := RX4) (T := TX4) (N := 12) hx hb hts inB4 ho hK hP o (ob_get (by decide) hk) rfl k hf.2 (hts _ hw) (fun _ h => h) (fs_get _ _ _ hf.1) hd (kk H locs ls hP hD hS hl)
theorem g_get4R {X : CT} {w : WG} {M : MD} {Q : QT} {I : SI} {L : SL} {pc : Nat} {f : LV} {o n idx a : Nat} {st : List Value} (hX : Cx X w M Q) (k : Nat) (hd : decode M.2.1 pc = .ok (.getfield idx, 3)) (hw : Cond.fieldLink M.1.cls idx (TX4 k).1 (TX4 k).2.1 (TX4 k).2.2.1 ∈ BG) (hk : (gK w)[o]? = some (3, n)) (hf : (ft 3)[k]? = some 2 ∧ k < 12) (hp : gP w o k = some a) (kk : G X w M I L (pc + 3) f (.ref a :: st)) : G X w M I L pc f (.ref (gA w o) :: st) := by
  obtain ⟨p, l, e, R, s, m, args, below, meth, c, A, cells, slots, Qf⟩ := X
  obtain ⟨hx, hb, hml, hr, hlk, ho, hts, hK, hSW, hA, hR, hc, hs, hq⟩ := hX
  intro H locs ls hP hD hS hl
  refine va_get (D := w.1) (cl := vwCl) (ci := 3) (C := RX4) (T := TX4) (N := 12) (v := .ref a) hx hb hts inB4 ho hK hP o (ob_get (by decide) hk) rfl k hf.2 (hts _ hw) (fun _ h => h) ?_ hd (kk H locs ls hP hD hS hl)
  rw [fs_get _ _ _ hf.1, hp]
  rfl
theorem g_put4I {X : CT} {w : WG} {M : MD} {Q : QT} {I : SI} {L : SL} {pc : Nat} {f : LV} {o n idx : Nat} {x : Int32} {st : List Value} (hX : Cx X w M Q) (k : Nat) (hd : decode M.2.1 pc = .ok (.putfield idx, 3)) (hw : Cond.fieldLink M.1.cls idx (TX4 k).1 (TX4 k).2.1 (TX4 k).2.2.1 ∈ BG) (hk : (gK w)[o]? = some (3, n)) (hf : pf4 k 0 .int) (kk : G X w M (rS I o (upd (I o) k x)) L (pc + 3) f st) : G X w M I L pc f (.int x :: .ref (gA w o) :: st) := by
  obtain ⟨p, l, e, R, s, m, args, below, meth, c, A, cells, slots, Qf⟩ := X
  obtain ⟨hx, hb, hml, hr, hlk, ho, hts, hK, hSW, hA, hR, hc, hs, hq⟩ := hX
  intro H locs ls hP hD hS hl
  obtain ⟨hf0, hN, hfin, hpd⟩ := hf
  refine va_put (D := w.1) (cl := vwCl) (ci := 3) (C := RX4) (T := TX4) (N := 12) hx hb hts inB4 tyX4 tyX4_ok nmX4 ho hK hP hD hS o (ob_get (by decide) hk) rfl k hN (hts _ hw) (fun _ h => h) hfin hpd rfl rfl ?_ hd (fun H1 locs1 hP1 hD1 hS1 => kk H1 locs1 ls ?_ ?_ hS1 hl)
  · simpa using (List.getElem?_eq_some_iff.mp hf0).1
  · rw [← ob_setI (by decide) hk hf0 x]
    exact hP1
  · rw [← ob_setI (by decide) hk hf0 x]
    exact hD1
/-- what a program decides of a field -/
def pf5 (k t : Nat) (ty : FieldType) : Prop := (ft 4)[k]? = some t ∧ k < 34 ∧ (TX5 k).2.2.2 = false ∧ parseFieldDescriptor (TX5 k).2.2.1 = some ty
theorem g_get5I {X : CT} {w : WG} {M : MD} {Q : QT} {I : SI} {L : SL} {pc : Nat} {f : LV} {o n idx : Nat} {st : List Value} (hX : Cx X w M Q) (k : Nat) (hd : decode M.2.1 pc = .ok (.getfield idx, 3)) (hw : Cond.fieldLink M.1.cls idx (TX5 k).1 (TX5 k).2.1 (TX5 k).2.2.1 ∈ BG) (hk : (gK w)[o]? = some (4, n)) (hf : (ft 4)[k]? = some 0 ∧ k < 34) (kk : G X w M I L (pc + 3) f (.int (I o k) :: st)) : G X w M I L pc f (.ref (gA w o) :: st) := by
  obtain ⟨p, l, e, R, s, m, args, below, meth, c, A, cells, slots, Qf⟩ := X
  obtain ⟨hx, hb, hml, hr, hlk, ho, hts, hK, hSW, hA, hR, hc, hs, hq⟩ := hX
  intro H locs ls hP hD hS hl
  exact va_get (D := w.1) (cl := vwCl) (ci := 4) (C := RX5) (T := TX5) (N := 34) hx hb hts inB5 ho hK hP o (ob_get (by decide) hk) rfl k hf.2 (hts _ hw) (fun _ h => h) (fs_get _ _ _ hf.1) hd (kk H locs ls hP hD hS hl)
theorem g_get5L {X : CT} {w : WG} {M : MD} {Q : QT} {I : SI} {L : SL} {pc : Nat} {f : LV} {o n idx : Nat} {st : List Value} (hX : Cx X w M Q) (k : Nat) (hd : decode M.2.1 pc = .ok (.getfield idx, 3)) (hw : Cond.fieldLink M.1.cls idx (TX5 k).1 (TX5 k).2.1 (TX5 k).2.2.1 ∈ BG) (hk : (gK w)[o]? = some (4, n)) (hf : (ft 4)[k]? = some 1 ∧ k < 34) (kk : G X w M I L (pc + 3) f (.long (L o k) :: st)) : G X w M I L pc f (.ref (gA w o) :: st) := by
  obtain ⟨p, l, e, R, s, m, args, below, meth, c, A, cells, slots, Qf⟩ := X
  obtain ⟨hx, hb, hml, hr, hlk, ho, hts, hK, hSW, hA, hR, hc, hs, hq⟩ := hX
  intro H locs ls hP hD hS hl
  exact va_get (D := w.1) (cl := vwCl) (ci := 4) (C := RX5) (T := TX5) (N := 34) hx hb hts inB5 ho hK hP o (ob_get (by decide) hk) rfl k hf.2 (hts _ hw) (fun _ h => h) (fs_get _ _ _ hf.1) hd (kk H locs ls hP hD hS hl)
theorem g_get5R {X : CT} {w : WG} {M : MD} {Q : QT} {I : SI} {L : SL} {pc : Nat} {f : LV} {o n idx a : Nat} {st : List Value} (hX : Cx X w M Q) (k : Nat) (hd : decode M.2.1 pc = .ok (.getfield idx, 3)) (hw : Cond.fieldLink M.1.cls idx (TX5 k).1 (TX5 k).2.1 (TX5 k).2.2.1 ∈ BG) (hk : (gK w)[o]? = some (4, n)) (hf : (ft 4)[k]? = some 2 ∧ k < 34) (hp : gP w o k = some a) (kk : G X w M I L (pc + 3) f (.ref a :: st)) : G X w M I L pc f (.ref (gA w o) :: st) := by
  obtain ⟨p, l, e, R, s, m, args, below, meth, c, A, cells, slots, Qf⟩ := X
  obtain ⟨hx, hb, hml, hr, hlk, ho, hts, hK, hSW, hA, hR, hc, hs, hq⟩ := hX
  intro H locs ls hP hD hS hl
  refine va_get (D := w.1) (cl := vwCl) (ci := 4) (C := RX5) (T := TX5) (N := 34) (v := .ref a) hx hb hts inB5 ho hK hP o (ob_get (by decide) hk) rfl k hf.2 (hts _ hw) (fun _ h => h) ?_ hd (kk H locs ls hP hD hS hl)
  rw [fs_get _ _ _ hf.1, hp]
  rfl
theorem g_put5I {X : CT} {w : WG} {M : MD} {Q : QT} {I : SI} {L : SL} {pc : Nat} {f : LV} {o n idx : Nat} {x : Int32} {st : List Value} (hX : Cx X w M Q) (k : Nat) (hd : decode M.2.1 pc = .ok (.putfield idx, 3)) (hw : Cond.fieldLink M.1.cls idx (TX5 k).1 (TX5 k).2.1 (TX5 k).2.2.1 ∈ BG) (hk : (gK w)[o]? = some (4, n)) (hf : pf5 k 0 .int) (kk : G X w M (rS I o (upd (I o) k x)) L (pc + 3) f st) : G X w M I L pc f (.int x :: .ref (gA w o) :: st) := by
  obtain ⟨p, l, e, R, s, m, args, below, meth, c, A, cells, slots, Qf⟩ := X
  obtain ⟨hx, hb, hml, hr, hlk, ho, hts, hK, hSW, hA, hR, hc, hs, hq⟩ := hX
  intro H locs ls hP hD hS hl
  obtain ⟨hf0, hN, hfin, hpd⟩ := hf
  refine va_put (D := w.1) (cl := vwCl) (ci := 4) (C := RX5) (T := TX5) (N := 34) hx hb hts inB5 tyX5 tyX5_ok nmX5 ho hK hP hD hS o (ob_get (by decide) hk) rfl k hN (hts _ hw) (fun _ h => h) hfin hpd rfl rfl ?_ hd (fun H1 locs1 hP1 hD1 hS1 => kk H1 locs1 ls ?_ ?_ hS1 hl)
  · simpa using (List.getElem?_eq_some_iff.mp hf0).1
  · rw [← ob_setI (by decide) hk hf0 x]
    exact hP1
  · rw [← ob_setI (by decide) hk hf0 x]
    exact hD1
theorem g_put5L {X : CT} {w : WG} {M : MD} {Q : QT} {I : SI} {L : SL} {pc : Nat} {f : LV} {o n idx : Nat} {x : Int64} {st : List Value} (hX : Cx X w M Q) (k : Nat) (hd : decode M.2.1 pc = .ok (.putfield idx, 3)) (hw : Cond.fieldLink M.1.cls idx (TX5 k).1 (TX5 k).2.1 (TX5 k).2.2.1 ∈ BG) (hk : (gK w)[o]? = some (4, n)) (hf : pf5 k 1 .long) (kk : G X w M I (rS L o (vp_updL (L o) k x)) (pc + 3) f st) : G X w M I L pc f (.long x :: .ref (gA w o) :: st) := by
  obtain ⟨p, l, e, R, s, m, args, below, meth, c, A, cells, slots, Qf⟩ := X
  obtain ⟨hx, hb, hml, hr, hlk, ho, hts, hK, hSW, hA, hR, hc, hs, hq⟩ := hX
  intro H locs ls hP hD hS hl
  obtain ⟨hf0, hN, hfin, hpd⟩ := hf
  refine va_put (D := w.1) (cl := vwCl) (ci := 4) (C := RX5) (T := TX5) (N := 34) hx hb hts inB5 tyX5 tyX5_ok nmX5 ho hK hP hD hS o (ob_get (by decide) hk) rfl k hN (hts _ hw) (fun _ h => h) hfin hpd rfl rfl ?_ hd (fun H1 locs1 hP1 hD1 hS1 => kk H1 locs1 ls ?_ ?_ hS1 hl)
  · simpa using (List.getElem?_eq_some_iff.mp hf0).1
  · rw [← ob_setL (by decide) hk hf0 x]
    exact hP1
  · rw [← ob_setL (by decide) hk hf0 x]
    exact hD1
theorem g_iald {X : CT} {w : WG} {M : MD} {Q : QT} {I : SI} {L : SL} {pc : Nat} {f : LV} {o n : Nat} {i : Int32} {st : List Value} (hX : Cx X w M Q) (hd : decode M.2.1 pc = .ok (.iaload, 1)) (hk : (gK w)[o]? = some (6, n)) (hin : vp_in i n) (kk : G X w M I L (pc + 1) f (.int (I o i.toNatClampNeg) :: st)) : G X w M I L pc f (.int i :: .ref (gA w o) :: st) := by
  obtain ⟨p, l, e, R, s, m, args, below, meth, c, A, cells, slots, Qf⟩ := X
  obtain ⟨hx, hb, hml, hr, hlk, ho, hts, hK, hSW, hA, hR, hc, hs, hq⟩ := hX
  intro H locs ls hP hD hS hl
  exact va_iald hx hb hK hP o 1 (wsO_get hk) rfl hin hd (kk H locs ls hP hD hS hl)
theorem g_iast {X : CT} {w : WG} {M : MD} {Q : QT} {I : SI} {L : SL} {pc : Nat} {f : LV} {o n : Nat} {i x : Int32} {st : List Value} (hX : Cx X w M Q) (hd : decode M.2.1 pc = .ok (.iastore, 1)) (hk : (gK w)[o]? = some (6, n)) (hin : vp_in i n) (kk : G X w M (rS I o (upd (I o) i.toNatClampNeg (x))) L (pc + 1) f st) : G X w M I L pc f (.int x :: .int i :: .ref (gA w o) :: st) := by
  obtain ⟨p, l, e, R, s, m, args, below, meth, c, A, cells, slots, Qf⟩ := X
  obtain ⟨hx, hb, hml, hr, hlk, ho, hts, hK, hSW, hA, hR, hc, hs, hq⟩ := hX
  intro H locs ls hP hD hS hl
  refine va_iast hx hb hK hP hD hS o 1 (wsO_get hk) rfl hin hd (fun H1 locs1 hP1 hD1 hS1 => kk H1 locs1 ls ?_ ?_ hS1 hl)
  · rw [← wsO_setI hk]
    exact hP1
  · rw [← wsO_setI hk]
    exact hD1
theorem g_bald {X : CT} {w : WG} {M : MD} {Q : QT} {I : SI} {L : SL} {pc : Nat} {f : LV} {o n : Nat} {i : Int32} {st : List Value} (hX : Cx X w M Q) (hd : decode M.2.1 pc = .ok (.baload, 1)) (hk : (gK w)[o]? = some (5, n)) (hin : vp_in i n) (kk : G X w M I L (pc + 1) f (.int (I o i.toNatClampNeg) :: st)) : G X w M I L pc f (.int i :: .ref (gA w o) :: st) := by
  obtain ⟨p, l, e, R, s, m, args, below, meth, c, A, cells, slots, Qf⟩ := X
  obtain ⟨hx, hb, hml, hr, hlk, ho, hts, hK, hSW, hA, hR, hc, hs, hq⟩ := hX
  intro H locs ls hP hD hS hl
  exact va_bald hx hb hK hP o 0 (wsO_get hk) rfl hin hd (kk H locs ls hP hD hS hl)
theorem g_bast {X : CT} {w : WG} {M : MD} {Q : QT} {I : SI} {L : SL} {pc : Nat} {f : LV} {o n : Nat} {i x : Int32} {st : List Value} (hX : Cx X w M Q) (hd : decode M.2.1 pc = .ok (.bastore, 1)) (hk : (gK w)[o]? = some (5, n)) (hin : vp_in i n) (kk : G X w M (rS I o (upd (I o) i.toNatClampNeg (vp_nar .byte x))) L (pc + 1) f st) : G X w M I L pc f (.int x :: .int i :: .ref (gA w o) :: st) := by
  obtain ⟨p, l, e, R, s, m, args, below, meth, c, A, cells, slots, Qf⟩ := X
  obtain ⟨hx, hb, hml, hr, hlk, ho, hts, hK, hSW, hA, hR, hc, hs, hq⟩ := hX
  intro H locs ls hP hD hS hl
  refine va_bast hx hb hK hP hD hS o 0 (wsO_get hk) rfl hin hd (fun H1 locs1 hP1 hD1 hS1 => kk H1 locs1 ls ?_ ?_ hS1 hl)
  · rw [← wsO_setI hk]
    exact hP1
  · rw [← wsO_setI hk]
    exact hD1
theorem g_aald {X : CT} {w : WG} {M : MD} {Q : QT} {I : SI} {L : SL} {pc : Nat} {f : LV} {o n : Nat} {i : Int32} {r : Option Nat} {st : List Value} (hX : Cx X w M Q) (hd : decode M.2.1 pc = .ok (.aaload, 1)) (hk : (gK w)[o]? = some (7, n)) (hin : vp_in i n) (hp : gP w o i.toNatClampNeg = r) (kk : G X w M I L (pc + 1) f (va_rf r :: st)) : G X w M I L pc f (.int i :: .ref (gA w o) :: st) := by
  obtain ⟨p, l, e, R, s, m, args, below, meth, c, A, cells, slots, Qf⟩ := X
  obtain ⟨hx, hb, hml, hr, hlk, ho, hts, hK, hSW, hA, hR, hc, hs, hq⟩ := hX
  intro H locs ls hP hD hS hl
  subst hp
  exact va_aldq hx hb hK hP o 2 (wsO_get hk) rfl hin hd (kk H locs ls hP hD hS hl)
theorem g_ifnn {X : CT} {w : WG} {M : MD} {Q : QT} {I : SI} {L : SL} {pc : Nat} {f : LV} {a : Nat} {off : Int} {tgt : Nat} {st : List Value} (hX : Cx X w M Q) (hd : decode M.2.1 pc = .ok (.ifnonnull off, 3)) (ht : (pc : Int) + off = (tgt : Int)) (kk : G X w M I L tgt f st) : G X w M I L pc f (.ref a :: st) := by
  obtain ⟨p, l, e, R, s, m, args, below, meth, c, A, cells, slots, Qf⟩ := X
  obtain ⟨hx, hb, hml, hr, hlk, ho, hts, hK, hSW, hA, hR, hc, hs, hq⟩ := hX
  intro H locs ls hP hD hS hl
  exact lv_ifnonnull hx hb hd ht (kk H locs ls hP hD hS hl)
theorem g_ifnnN {X : CT} {w : WG} {M : MD} {Q : QT} {I : SI} {L : SL} {pc : Nat} {f : LV} {off : Int} {st : List Value} (hX : Cx X w M Q) (hd : decode M.2.1 pc = .ok (.ifnonnull off, 3)) (kk : G X w M I L (pc + 3) f st) : G X w M I L pc f (.null :: st) := by
  obtain ⟨p, l, e, R, s, m, args, below, meth, c, A, cells, slots, Qf⟩ := X
  obtain ⟨hx, hb, hml, hr, hlk, ho, hts, hK, hSW, hA, hR, hc, hs, hq⟩ := hX
  intro H locs ls hP hD hS hl
  exact lv_ifnonnullN hx hb hd (kk H locs ls hP hD hS hl)
theorem g_iret {X : CT} {w : WG} {M : MD} {Q : QT} {I : SI} {L : SL} {pc : Nat} {f : LV} {v : Int32} (hX : Cx X w M Q) (hd : decode M.2.1 pc = .ok (.ireturn, 1)) (hr0 : M.2.2.2.1 = some .int) (hQ : Q (some (.int v)) I L) : G X w M I L pc f [.int v] := by
  obtain ⟨p, l, e, R, s, m, args, below, meth, c, A, cells, slots, Qf⟩ := X
  obtain ⟨hx, hb, hml, hr, hlk, ho, hts, hK, hSW, hA, hR, hc, hs, hq⟩ := hX
  intro H locs ls hP hD hS hl
  subst hc; subst hs; subst hq
  exact W.iret (v := v) hx hb (hr.trans hr0) (fun t ht hW => ⟨⟨_, I, L, rfl, hQ, by rw [ht]; exact hP, hD⟩, hS.F ht⟩) hS.2.2 hd hlk
theorem g_zret {X : CT} {w : WG} {M : MD} {Q : QT} {I : SI} {L : SL} {pc : Nat} {f : LV} {v : Int32} {ty : FieldType} (hX : Cx X w M Q) (hd : decode M.2.1 pc = .ok (.ireturn, 1)) (hr0 : M.2.2.2.1 = some ty) (hn : narrow ty (.int v) = .int v) (hQ : Q (some (.int v)) I L) : G X w M I L pc f [.int v] := by
  obtain ⟨p, l, e, R, s, m, args, below, meth, c, A, cells, slots, Qf⟩ := X
  obtain ⟨hx, hb, hml, hr, hlk, ho, hts, hK, hSW, hA, hR, hc, hs, hq⟩ := hX
  intro H locs ls hP hD hS hl
  subst hc; subst hs; subst hq
  exact W.zret (v := v) hx hb (hr.trans hr0) hn (fun t ht hW => ⟨⟨_, I, L, rfl, hQ, by rw [ht]; exact hP, hD⟩, hS.F ht⟩) hS.2.2 hd hlk
theorem g_lret {X : CT} {w : WG} {M : MD} {Q : QT} {I : SI} {L : SL} {pc : Nat} {f : LV} {v : Int64} (hX : Cx X w M Q) (hd : decode M.2.1 pc = .ok (.lreturn, 1)) (hr0 : M.2.2.2.1 = some .long) (hQ : Q (some (.long v)) I L) : G X w M I L pc f [.long v] := by
  obtain ⟨p, l, e, R, s, m, args, below, meth, c, A, cells, slots, Qf⟩ := X
  obtain ⟨hx, hb, hml, hr, hlk, ho, hts, hK, hSW, hA, hR, hc, hs, hq⟩ := hX
  intro H locs ls hP hD hS hl
  subst hc; subst hs; subst hq
  exact W.lret (v := v) hx hb (hr.trans hr0) (fun t ht hW => ⟨⟨_, I, L, rfl, hQ, by rw [ht]; exact hP, hD⟩, hS.F ht⟩) hS.2.2 hd hlk
theorem g_vret {X : CT} {w : WG} {M : MD} {Q : QT} {I : SI} {L : SL} {pc : Nat} {f : LV}  (hX : Cx X w M Q) (hd : decode M.2.1 pc = .ok (.return_, 1)) (hr0 : M.2.2.2.1 = none) (hQ : Q (none) I L) : G X w M I L pc f [] := by
  obtain ⟨p, l, e, R, s, m, args, below, meth, c, A, cells, slots, Qf⟩ := X
  obtain ⟨hx, hb, hml, hr, hlk, ho, hts, hK, hSW, hA, hR, hc, hs, hq⟩ := hX
  intro H locs ls hP hD hS hl
  subst hc; subst hs; subst hq
  exact W.vret hx hb (hr.trans hr0) (fun t ht hW => ⟨⟨_, I, L, rfl, hQ, by rw [ht]; exact hP, hD⟩, hS.F ht⟩) hS.2.2 hd hlk
/-- a call's words, by a program -/
def LkS (own : String) (idx : Nat) (M : MD) (n : Nat) : Prop := (Cond.methodLink own idx M.1 ∈ BG ∧ Cond.static M.1 ∈ BG ∧ Cond.initialized M.1.cls ∈ BG ∧ Cond.code M.1 M.2.1 M.2.2.1 M.2.2.2.1 ∈ BG) ∧ M.1.cls ≠ "java/lang/invoke/MethodHandle" ∧ M.1.cls ≠ "java/lang/invoke/VarHandle" ∧ (parseMethodDescriptor M.1.desc).map (fun d => d.parameters.length) = some n
def LkV (own : String) (idx : Nat) (M : MD) (n : Nat) : Prop := (Cond.methodLink own idx M.1 ∈ BG ∧ Cond.instanceMethod M.1 ∈ BG ∧ Cond.selects M.1.cls M.1 M.1 ∈ BG ∧ Cond.initialized M.1.cls ∈ BG ∧ Cond.code M.1 M.2.1 M.2.2.1 M.2.2.2.1 ∈ BG) ∧ M.1.cls ≠ "java/lang/invoke/MethodHandle" ∧ M.1.cls ≠ "java/lang/invoke/VarHandle" ∧ (parseMethodDescriptor M.1.desc).map (fun d => d.parameters.length) = some n
theorem good_bg {ws : List Cond} (h : ∀ w ∈ ws, w ∈ BG) : GoodIn BG ws := fun w hw => ⟨h w hw, bg_good (h w hw)⟩
theorem LkS.good {own : String} {idx : Nat} {M : MD} {n : Nat} (h : LkS own idx M n) : GoodIn BG (va_wsS own idx M.1 (wsM M)) := by
  refine good_bg (fun w hw => ?_)
  obtain ⟨⟨h1, h2, h3, h4⟩, -⟩ := h
  simp only [va_wsS, wsM, List.cons_append, List.nil_append, List.mem_cons] at hw
  rcases hw with rfl | rfl | rfl | rfl | hw
  · exact h1
  · exact h2
  · exact h3
  · exact h4
  · exact hw
theorem LkV.good {own : String} {idx : Nat} {M : MD} {n : Nat} (h : LkV own idx M n) : GoodIn BG (wsV own idx M.1.cls M.1 (wsM M)) := by
  refine good_bg (fun w hw => ?_)
  obtain ⟨⟨h1, h2, h3, h4, h5⟩, -⟩ := h
  simp only [wsV, wsM, List.cons_append, List.nil_append, List.mem_cons] at hw
  rcases hw with rfl | rfl | rfl | rfl | rfl | hw
  · exact h1
  · exact h2
  · exact h3
  · exact h4
  · exact h5
  · exact hw
theorem pre_blind {w : WG} {av : List Value} {I : SI} {L : SL} {sz : Nat} : FrameBlind (va_Pc av (PreO w I L sz)) := by
  intro a U g mk q
  obtain ⟨q0, q1, qP, qK, qD, qS⟩ := q
  exact ⟨q0, q1, qP, va_K.moved (u := U) (U := U.calling g mk a) (Vm.Alike.refl U.vm) qK, qD, SW.same (u := U) rfl qS⟩
theorem pre_at {w : WG} {I : SI} {L : SL} {s : State} {A : Nat → Prop} {H : Heap} {locs : List Loc} (hP : va_P w.1 vwCl (wsO w I L) H) (hD : va_D A (wsO w I L)) (hS : va_S A s.heap H locs) (hK : va_K w.1 vwCl (gT w) s) (hSW : SW w A s s.heap) (hA : ∀ q : Nat, s.heap.size ≤ q → A q) : ∀ U : State, U.heap = H → s.WarmedH U.vm → PreO w I L H.size U := by
  intro U hU hW
  have hF : ∀ q, va_A (wsO w I L) H.size q → A q := fun q h => by
    rcases h with ⟨k, e, h⟩ | h
    · exact hD.2 k (q, e) h
    · exact hA q (Nat.le_trans hS.1 h)
  refine ⟨by rw [hU], by rw [hU]; exact hP, va_K.moved hW.alike hK, hD.weaken (fun _ _ _ _ => trivial), ?_⟩
  rw [hU]
  exact ((hSW.kept (fun a h1 h2 => hS.2.1 a h1 h2)).narrow hF).warm hW
/-- behind a call -/
theorem run_on {p : Program} {l : Launch} {e : Env} {R : Room} {s : State} {m : MethodId} {args : Array Value} {below : List Frame} {meth : Method} {c : Code} {A : Nat → Prop} {cells slots : Nat} {Qf : State → Prop} {w : WG} {M : MD} {I : SI} {L : SL} {pc : Nat} {f : LV} {st rest : List Value} {Qy : QT} {aa : Array Value} {H : Heap} {locs : List Loc} {ls : Array Slot}
    (hr : va_Run p l e R s m args below meth c H locs cells slots 0 0 (F0 m pc ls st) rest (QcO w Qy (va_A (wsO w I L) H.size) aa) (va_A (wsO w I L) H.size)) (hD : va_D A (wsO w I L)) (hS : va_S A s.heap H locs) (hA : ∀ q : Nat, s.heap.size ≤ q → A q) (hl : hasL ls M.2.2.1 f)
    (kk : ∀ (r : Option Value) (I' : SI) (L' : SL), Qy r I' L' → G (p, l, e, R, s, m, args, below, meth, c, A, cells, slots, Qf) w M I' L' (pc + 3) f (r.toList ++ rest)) : W p l e R s m args below meth c H locs cells slots Qf (F0 m pc ls st) := by
  have hF : ∀ q, va_A (wsO w I L) H.size q → A q := fun q h => by
    rcases h with ⟨k, e, h⟩ | h
    · exact hD.2 k (q, e) h
    · exact hA q (Nat.le_trans hS.1 h)
  intro T hT X0
  obtain ⟨v, st₀, t, T', Ls, h0, X', hL, e1, e2, ⟨⟨r, I', L', hv, hQ, hP1, hD1⟩, hz, hk1⟩, stp⟩ := hr T hT X0
  cases hv
  rw [h0] at hz hk1
  obtain ⟨t2, a1, b1⟩ := kk v I' L' hQ T'.heap (locs ++ Ls) ls (by rw [e1]; exact hP1) (hD1.weaken (fun _ q _ h => hF q.1 h))
    ⟨Nat.le_trans hS.1 (by rw [e1]; exact hz), fun q h1 h2 => by rw [e1, hk1 q (Nat.lt_of_lt_of_le h1 hS.1) (fun z => h2 (hF q z))]; exact hS.2.1 q h1 h2, fun q hq => by
      rcases List.mem_append.mp hq with h | h
      · exact hS.2.2 q h
      · exact hF _ (hL q h)⟩ hl T' rfl X'
  exact ⟨t2, stp t2 a1, b1⟩
theorem room_ok {R : Room} {d : Nat} {My : MD} (hR : d ≤ R.frames ∧ 40 * d ≤ R.locals) (hlt : My.2.2.2.2 + 1 ≤ d ∧ My.2.2.1 ≤ 21) : (rmO My.2.2.2.2).frames + 1 ≤ R.frames ∧ 8 + (My.2.2.1 + 11) + (rmO My.2.2.2.2).locals ≤ R.locals := by
  obtain ⟨h1, h2⟩ := hR
  obtain ⟨h3, h4⟩ := hlt
  constructor
  · show My.2.2.2.2 + 1 ≤ R.frames
    omega
  · show 8 + (My.2.2.1 + 11) + 40 * My.2.2.2.2 ≤ R.locals
    omega
theorem g_callS {X : CT} {w : WG} {M : MD} {Q : QT} {I : SI} {L : SL} {pc : Nat} {f : LV} {My : MD} {idx n : Nat} {av st : List Value} {Qy : QT} (rest : List Value) (hX : Cx X w M Q) (hd : decode M.2.1 pc = .ok (.invokestatic idx, 3)) (hk : LkS M.1.cls idx My n) (hlt : My.2.2.2.2 + 1 ≤ M.2.2.2.2 ∧ My.2.2.1 ≤ 21) (hn : av.length = n) (hO : Ok w My av I L Qy) (hst : st = av.reverse ++ rest) (hW : (rest.map fun v => v.category).sum ≤ 8) (kk : ∀ (r : Option Value) (I' : SI) (L' : SL), Qy r I' L' → G X w M I' L' (pc + 3) f (r.toList ++ rest)) : G X w M I L pc f st := by
  obtain ⟨p, l, e, R, s, m, args, below, meth, c, A, cells, slots, Qf⟩ := X
  obtain ⟨hx, hb, hml, hr, hlk, ho, hts, hK, hSW, hA, hR, hc, hs, hq⟩ := hX
  intro H locs ls hP hD hS hl
  exact run_on (va_runS (p := p) (l := l) (e := e) (R := R) (below := below) (meth := meth) (locs := locs) (cells := cells) (slots := slots) (H := H) (As := av) (rest := rest) (Ts := BG) (own := M.1.cls) (nL := M.2.2.1) (cc := M.2.1) ⟨hx, hb, hml, ho, hts⟩ (hO l H.size) (va_cwS n hts hk.good rfl rfl rfl hk.2 (room_ok hR hlt)) ⟨pre_blind, fun U hU hW2 => ⟨rfl, pre_at hP hD hS hK hSW hA U hU hW2⟩⟩ rfl hn hl.1 hst (lv_room hW) hd ⟨by subst hc; exact Nat.zero_le _, by subst hs; exact Nat.zero_le _⟩) hD hS hA hl kk
theorem g_callV {X : CT} {w : WG} {M : MD} {Q : QT} {I : SI} {L : SL} {pc : Nat} {f : LV} {My : MD} {idx n o c0 n0 : Nat} {av st : List Value} {Qy : QT} (rest : List Value) (hX : Cx X w M Q) (hd : decode M.2.1 pc = .ok (.invokevirtual idx, 3)) (hk : LkV M.1.cls idx My n) (hlt : My.2.2.2.2 + 1 ≤ M.2.2.2.2 ∧ My.2.2.1 ≤ 21) (hc0 : c0 < 5) (hko : (gK w)[o]? = some (c0, n0)) (hcl : (vwCl[c0]?).map (fun q => q.1) = some My.1.cls) (hn : av.length = n) (hO : Ok w My (.ref (gA w o) :: av) I L Qy) (hst : st = av.reverse ++ .ref (gA w o) :: rest) (hW : (rest.map fun v => v.category).sum ≤ 8) (kk : ∀ (r : Option Value) (I' : SI) (L' : SL), Qy r I' L' → G X w M I' L' (pc + 3) f (r.toList ++ rest)) : G X w M I L pc f st := by
  obtain ⟨p, l, e, R, s, m, args, below, meth, c, A, cells, slots, Qf⟩ := X
  obtain ⟨hx, hb, hml, hr, hlk, ho, hts, hK, hSW, hA, hR, hc, hs, hq⟩ := hX
  intro H locs ls hP hD hS hl
  have hrec : ∃ cell : Cell, H[gA w o]? = some cell ∧ cell.vm.isStatics = false ∧ s.vm.findClass My.1.cls = some cell.cls := by
    obtain ⟨q, hq1, hq2⟩ := Option.map_eq_some_iff.mp hcl
    rw [← hq2]
    exact va_recv hK hP hq1 (ob_get hc0 hko)
  exact run_on (va_runV (p := p) (l := l) (e := e) (R := R) (below := below) (meth := meth) (locs := locs) (cells := cells) (slots := slots) (H := H) (As := av) (rest := rest) (Ts := BG) (own := M.1.cls) (C := My.1.cls) (b := gA w o) (nL := M.2.2.1) (cc := M.2.1) ⟨hx, hb, hml, ho, hts⟩ (hO l H.size) (cwV n hts hk.good rfl rfl rfl ⟨rfl, hk.2⟩ (room_ok hR hlt)) ⟨pre_blind, hrec, fun U hU hW2 => ⟨rfl, pre_at hP hD hS hK hSW hA U hU hW2⟩⟩ rfl hn hl.1 hst (lv_room hW) hd ⟨by subst hc; exact Nat.zero_le _, by subst hs; exact Nat.zero_le _⟩) hD hS hA hl kk
/-- a method that only answers -/
def Pr (v : Value) (I : SI) (L : SL) : QT := fun r I' L' => r = some v ∧ I' = I ∧ L' = L
theorem g_callSp {X : CT} {w : WG} {M : MD} {Q : QT} {I : SI} {L : SL} {pc : Nat} {f : LV} {My : MD} {idx n : Nat} {av st : List Value} {v : Value} (rest : List Value) (hX : Cx X w M Q) (hd : decode M.2.1 pc = .ok (.invokestatic idx, 3)) (hk : LkS M.1.cls idx My n) (hlt : My.2.2.2.2 + 1 ≤ M.2.2.2.2 ∧ My.2.2.1 ≤ 21) (hn : av.length = n) (hO : Ok w My av I L (Pr v I L)) (hst : st = av.reverse ++ rest) (hW : (rest.map fun v => v.category).sum ≤ 8) (kk : G X w M I L (pc + 3) f (v :: rest)) : G X w M I L pc f st :=
  g_callS rest hX hd hk hlt hn hO hst hW (fun r I' L' h => by obtain ⟨rfl, rfl, rfl⟩ := h; exact kk)
theorem g_callVp {X : CT} {w : WG} {M : MD} {Q : QT} {I : SI} {L : SL} {pc : Nat} {f : LV} {My : MD} {idx n o c0 n0 : Nat} {av st : List Value} {v : Value} (rest : List Value) (hX : Cx X w M Q) (hd : decode M.2.1 pc = .ok (.invokevirtual idx, 3)) (hk : LkV M.1.cls idx My n) (hlt : My.2.2.2.2 + 1 ≤ M.2.2.2.2 ∧ My.2.2.1 ≤ 21) (hc0 : c0 < 5) (hko : (gK w)[o]? = some (c0, n0)) (hcl : (vwCl[c0]?).map (fun q => q.1) = some My.1.cls) (hn : av.length = n) (hO : Ok w My (.ref (gA w o) :: av) I L (Pr v I L)) (hst : st = av.reverse ++ .ref (gA w o) :: rest) (hW : (rest.map fun v => v.category).sum ≤ 8) (kk : G X w M I L (pc + 3) f (v :: rest)) : G X w M I L pc f st :=
  g_callV rest hX hd hk hlt hc0 hko hcl hn hO hst hW (fun r I' L' h => by obtain ⟨rfl, rfl, rfl⟩ := h; exact kk)
theorem Ok.mono {w : WG} {M : MD} {av : List Value} {I : SI} {L : SL} {Q Q' : QT} (h : Ok w M av I L Q) (hQ : ∀ r I' L', Q r I' L' → Q' r I' L') : Ok w M av I L Q' := by
  intro l sz p e ha hc hk s m args below hf happ hP hK
  obtain ⟨k, o, h1, h2, h3, ⟨⟨r, I', L', q1, q2, q3⟩, q4⟩, q5⟩ := h l sz p e ha hc hk s m args below hf happ hP hK
  exact ⟨k, o, h1, h2, h3, ⟨⟨r, I', L', q1, hQ _ _ _ q2, q3⟩, q4⟩, q5⟩
/-- what is said of one row only -/
theorem g_copy {X : CT} {w : WG} {M : MD} {Q : QT} {I : SI} {L : SL} {pc : Nat} {f : LV} {o1 o2 n1 n2 idx : Nat} {sp dp n : Int32} {st : List Value} (hX : Cx X w M Q) (hd : decode M.2.1 pc = .ok (.invokestatic idx, 3)) (hw : Cond.methodLink M.1.cls idx arraycopyName ∈ BG) (hd2 : 2 ≤ M.2.2.2.2) (hk1 : (gK w)[o1]? = some (6, n1)) (hk2 : (gK w)[o2]? = some (6, n2)) (h1 : ¬ sp < 0) (h2 : ¬ dp < 0) (h3 : ¬ n < 0) (h4 : sp.toNatClampNeg + n.toNatClampNeg ≤ n1) (h5 : dp.toNatClampNeg + n.toNatClampNeg ≤ n2) (hst : (st.map fun v => v.category).sum ≤ 8)
    (kk : G X w M (rS I o2 (va_cpy (I o1) (I o2) sp.toNatClampNeg dp.toNatClampNeg n.toNatClampNeg)) L (pc + 3) f st) : G X w M I L pc f (.int n :: .int dp :: .ref (gA w o2) :: .int sp :: .ref (gA w o1) :: st) := by
  obtain ⟨p, l, e, R, s, m, args, below, meth, c, A, cells, slots, Qf⟩ := X
  obtain ⟨hx, hb, hml, hr, hlk, ho, hts, hK, hSW, hA, hR, hc, hs, hq⟩ := hX
  intro H locs ls hP hD hS hl
  have hw2 : (st.map fun v => v.category).sum + (nativeFrameWords "java/lang/System" "arraycopy" 5 + 11) ≤ R.locals := by
    have : nativeFrameWords "java/lang/System" "arraycopy" 5 ≤ 40 := by decide +kernel
    have h7 := hR.2
    omega
  refine va_copyi hx hb (hml.trans hl.1.symm) ho (hts _ hw) (hts _ b_nam_arraycopyName) (hts _ b_stm_arraycopyName) (hts _ b_in_J10) hK hP hD hS o1 o2 1 1 (wsO_get hk1) (wsO_get hk2) rfl rfl rfl h1 h2 h3 h4 h5 (fun _ _ => rfl) (by have := hR.1; omega) hw2 hd (fun H1 locs1 hP1 hD1 hS1 => kk H1 locs1 ls ?_ ?_ hS1 hl)
  · rw [← wsO_setI hk2]
    exact hP1
  · rw [← wsO_setI hk2]
    exact hD1
theorem g_ialdN {X : CT} {w : WG} {M : MD} {Q : QT} {I : SI} {L : SL} {pc : Nat} {f : LV} {o n j : Nat} {i : Int32} {st : List Value} (hX : Cx X w M Q) (hd : decode M.2.1 pc = .ok (.iaload, 1)) (hk : (gK w)[o]? = some (6, n)) (hj : i = nI j ∧ j < n) (hn : n < 2 ^ 31) (kk : G X w M I L (pc + 1) f (.int (I o j) :: st)) : G X w M I L pc f (.int i :: .ref (gA w o) :: st) := by
  obtain ⟨rfl, hj⟩ := hj
  refine g_iald hX hd hk (vp_in_nI hj hn) ?_
  rw [nI_clamp (by omega)]
  exact kk
theorem g_iastN {X : CT} {w : WG} {M : MD} {Q : QT} {I : SI} {L : SL} {pc : Nat} {f : LV} {o n j : Nat} {i x : Int32} {st : List Value} (hX : Cx X w M Q) (hd : decode M.2.1 pc = .ok (.iastore, 1)) (hk : (gK w)[o]? = some (6, n)) (hj : i = nI j ∧ j < n) (hn : n < 2 ^ 31) (kk : G X w M (rS I o (upd (I o) j (x))) L (pc + 1) f st) : G X w M I L pc f (.int x :: .int i :: .ref (gA w o) :: st) := by
  obtain ⟨rfl, hj⟩ := hj
  refine g_iast hX hd hk (vp_in_nI hj hn) ?_
  rw [nI_clamp (by omega)]
  exact kk
theorem g_baldN {X : CT} {w : WG} {M : MD} {Q : QT} {I : SI} {L : SL} {pc : Nat} {f : LV} {o n j : Nat} {i : Int32} {st : List Value} (hX : Cx X w M Q) (hd : decode M.2.1 pc = .ok (.baload, 1)) (hk : (gK w)[o]? = some (5, n)) (hj : i = nI j ∧ j < n) (hn : n < 2 ^ 31) (kk : G X w M I L (pc + 1) f (.int (I o j) :: st)) : G X w M I L pc f (.int i :: .ref (gA w o) :: st) := by
  obtain ⟨rfl, hj⟩ := hj
  refine g_bald hX hd hk (vp_in_nI hj hn) ?_
  rw [nI_clamp (by omega)]
  exact kk
theorem g_bastN {X : CT} {w : WG} {M : MD} {Q : QT} {I : SI} {L : SL} {pc : Nat} {f : LV} {o n j : Nat} {i x : Int32} {st : List Value} (hX : Cx X w M Q) (hd : decode M.2.1 pc = .ok (.bastore, 1)) (hk : (gK w)[o]? = some (5, n)) (hj : i = nI j ∧ j < n) (hn : n < 2 ^ 31) (kk : G X w M (rS I o (upd (I o) j (vp_nar .byte x))) L (pc + 1) f st) : G X w M I L pc f (.int x :: .int i :: .ref (gA w o) :: st) := by
  obtain ⟨rfl, hj⟩ := hj
  refine g_bast hX hd hk (vp_in_nI hj hn) ?_
  rw [nI_clamp (by omega)]
  exact kk
theorem nI_nneg {a : Nat} (h : a < 2 ^ 31) : ¬ nI a < 0 := nI_pos h
theorem g_copyN {X : CT} {w : WG} {M : MD} {Q : QT} {I : SI} {L : SL} {pc : Nat} {f : LV} {o1 o2 n1 n2 idx a b m : Nat} {sp dp n : Int32} {st : List Value} (hX : Cx X w M Q) (hd : decode M.2.1 pc = .ok (.invokestatic idx, 3)) (hw : Cond.methodLink M.1.cls idx arraycopyName ∈ BG) (hd2 : 2 ≤ M.2.2.2.2) (hk1 : (gK w)[o1]? = some (6, n1)) (hk2 : (gK w)[o2]? = some (6, n2)) (hs : sp = nI a ∧ dp = nI b ∧ n = nI m) (h4 : a + m ≤ n1 ∧ b + m ≤ n2) (h5 : n1 < 2 ^ 31 ∧ n2 < 2 ^ 31) (hst : (st.map fun v => v.category).sum ≤ 8)
    (kk : G X w M (rS I o2 (va_cpy (I o1) (I o2) a b m)) L (pc + 3) f st) : G X w M I L pc f (.int n :: .int dp :: .ref (gA w o2) :: .int sp :: .ref (gA w o1) :: st) := by
  obtain ⟨rfl, rfl, rfl⟩ := hs
  have ha : (nI a).toNatClampNeg = a := nI_clamp (by omega)
  have hb2 : (nI b).toNatClampNeg = b := nI_clamp (by omega)
  have hm : (nI m).toNatClampNeg = m := nI_clamp (by omega)
  refine g_copy hX hd hw hd2 hk1 hk2 (nI_pos (by omega)) (nI_pos (by omega)) (nI_pos (by omega)) (by rw [ha, hm]; exact h4.1) (by rw [hb2, hm]; exact h4.2) hst ?_
  rw [ha, hb2, hm]
  exact kk
end
section
def mX4_init : MD := (yX4_init, cX4_init, 1, none, 2)
def mX3_init : MD := (yX3_init, cX3_init, 1, none, 1)
def mX2_init : MD := (yX2_init, cX2_init, 1, none, 1)
def mX4_village : MD := (yX4_village, cX4_village, 2, (some .int), 1)
def mX3_empty : MD := (yX3_empty, cX3_empty, 1, none, 0)
def mX4_man : MD := (yX4_man, cX4_man, 3, (some .int), 1)
def mX4_within : MD := (yX4_within, cX4_within, 3, (some .boolean), 0)
def mX4_refuse : MD := (yX4_refuse, cX4_refuse, 2, (some .int), 0)
def mX3_addMan : MD := (yX3_addMan, cX3_addMan, 3, (some .int), 0)
def mX4_dog : MD := (yX4_dog, cX4_dog, 5, (some .int), 1)
def mX3_addDog : MD := (yX3_addDog, cX3_addDog, 5, (some .int), 0)
def mX4_type : MD := (yX4_type, cX4_type, 2, (some .int), 1)
def mX2_add : MD := (yX2_add, cX2_add, 2, (some .int), 0)
def mX4_clear : MD := (yX4_clear, cX4_clear, 2, (some .int), 0)
def mX4_read : MD := (yX4_read, cX4_read, 3, (some .int), 8)
def mX1_init : MD := (yX1_init, cX1_init, 3, none, 1)
def mX1_readVillage : MD := (yX1_readVillage, cX1_readVillage, 3, (some .int), 7)
def mX1_next : MD := (yX1_next, cX1_next, 2, none, 2)
def mX2_at : MD := (yX2_at, cX2_at, 2, (some .int), 0)
def mX1_isLetter : MD := (yX1_isLetter, cX1_isLetter, 1, (some .boolean), 0)
def mX1_isFigure : MD := (yX1_isFigure, cX1_isFigure, 1, (some .boolean), 0)
def mX1_takeNumber : MD := (yX1_takeNumber, cX1_takeNumber, 2, none, 1)
def mX1_wordHere : MD := (yX1_wordHere, cX1_wordHere, 3, (some .boolean), 5)
def mJ0_length_8abf5 : MD := (yJ0_length_8abf5, cJ0_length_8abf5, 1, (some .int), 1)
def mJ0_coder_7d493 : MD := (yJ0_coder_7d493, cJ0_coder_7d493, 1, (some .byte), 0)
def mJ0_charAt_5068e : MD := (yJ0_charAt_5068e, cJ0_charAt_5068e, 2, (some .char), 4)
def mJ0_isLatin1_aae02 : MD := (yJ0_isLatin1_aae02, cJ0_isLatin1_aae02, 1, (some .boolean), 0)
def mJ1_charAt_3b067 : MD := (yJ1_charAt_3b067, cJ1_charAt_3b067, 2, (some .char), 2)
def mJ0_checkIndex_df160 : MD := (yJ0_checkIndex_df160, cJ0_checkIndex_df160, 2, none, 1)
def mJ3_checkIndex_8e157 : MD := (yJ3_checkIndex_8e157, cJ3_checkIndex_8e157, 3, (some .int), 0)
def mJ2_charAt_3b067 : MD := (yJ2_charAt_3b067, cJ2_charAt_3b067, 2, (some .char), 3)
def mJ2_checkIndex_2214a : MD := (yJ2_checkIndex_2214a, cJ2_checkIndex_2214a, 2, none, 2)
def mJ2_length_9d52b : MD := (yJ2_length_9d52b, cJ2_length_9d52b, 1, (some .int), 0)
def mJ2_getChar_3b067 : MD := (yJ2_getChar_3b067, cJ2_getChar_3b067, 2, (some .char), 1)
def mX1_semicolonNext : MD := (yX1_semicolonNext, cX1_semicolonNext, 1, (some .boolean), 3)
def mX1_readItem : MD := (yX1_readItem, cX1_readItem, 1, (some .boolean), 6)
def mX1_readMan : MD := (yX1_readMan, cX1_readMan, 2, (some .boolean), 4)
def mX1_numberNext : MD := (yX1_numberNext, cX1_numberNext, 3, (some .boolean), 3)
def mX1_readDog : MD := (yX1_readDog, cX1_readDog, 4, (some .boolean), 4)
def mX1_readBribe : MD := (yX1_readBribe, cX1_readBribe, 2, (some .boolean), 4)
def mX3_mayBribe : MD := (yX3_mayBribe, cX3_mayBribe, 3, (some .boolean), 2)
def mX3_isAsleep : MD := (yX3_isAsleep, cX3_isAsleep, 2, (some .boolean), 1)
def mX3_isIn : MD := (yX3_isIn, cX3_isIn, 2, (some .boolean), 0)
def mX3_putToSleep : MD := (yX3_putToSleep, cX3_putToSleep, 3, none, 0)
def mX3_takeFrom : MD := (yX3_takeFrom, cX3_takeFrom, 2, none, 2)
def mX4_bribe : MD := (yX4_bribe, cX4_bribe, 3, (some .int), 3)
def mX3_hasMan : MD := (yX3_hasMan, cX3_hasMan, 2, (some .boolean), 0)
def mX3_hasDog : MD := (yX3_hasDog, cX3_hasDog, 2, (some .boolean), 0)
def mX3_keepPast : MD := (yX3_keepPast, cX3_keepPast, 2, none, 2)
def mX4_round : MD := (yX4_round, cX4_round, 3, (some .int), 3)
def mX3_addRound : MD := (yX3_addRound, cX3_addRound, 8, none, 2)
def mX3_startOf : MD := (yX3_startOf, cX3_startOf, 2, (some .int), 0)
def mX3_bittenBy : MD := (yX3_bittenBy, cX3_bittenBy, 7, (some .int), 1)
def mX0_bites : MD := (yX0_bites, cX0_bites, 1, (some .int), 0)
def mX0_wouldBite : MD := (yX0_wouldBite, cX0_wouldBite, 3, (some .boolean), 0)
def mX0_width : MD := (yX0_width, cX0_width, 2, (some .int), 0)
def mX4_postmanOf : MD := (yX4_postmanOf, cX4_postmanOf, 4, (some .int), 0)
def mX4_undo : MD := (yX4_undo, cX4_undo, 1, (some .int), 3)
def mX3_goBack : MD := (yX3_goBack, cX3_goBack, 2, none, 2)
def mX4_of : MD := (yX4_of, cX4_of, 3, (some .int), 1)
def mX4_about : MD := (yX4_about, cX4_about, 3, (some .int), 2)
def mX4_bitten : MD := (yX4_bitten, cX4_bitten, 4, (some .int), 3)
def mX3_bitersOf : MD := (yX3_bitersOf, cX3_bitersOf, 6, (some .int), 2)
def mX3_widthTo : MD := (yX3_widthTo, cX3_widthTo, 6, (some .int), 2)
def mX4_then : MD := (yX4_then, cX4_then, 3, (some .int), 4)
def mX4_lookAhead : MD := (yX4_lookAhead, cX4_lookAhead, 3, none, 3)
def mX4_won : MD := (yX4_won, cX4_won, 3, (some .int), 4)
def mX4_leaverOf : MD := (yX4_leaverOf, cX4_leaverOf, 4, (some .int), 0)
def mX4_letters : MD := (yX4_letters, cX4_letters, 4, (some .int), 4)
def mX4_bribes : MD := (yX4_bribes, cX4_bribes, 8, (some .int), 5)
def mX3_everyDog : MD := (yX3_everyDog, cX3_everyDog, 1, (some .int), 0)
def mX3_hungerOf : MD := (yX3_hungerOf, cX3_hungerOf, 4, (some .int), 1)
def mX4_winsByBribing : MD := (yX4_winsByBribing, cX4_winsByBribing, 3, (some .boolean), 4)
def mX4_still : MD := (yX4_still, cX4_still, 3, (some .int), 4)
def mX4_first : MD := (yX4_first, cX4_first, 7, (some .int), 3)
def mX4_slept : MD := (yX4_slept, cX4_slept, 11, (some .int), 3)
def mX4_note : MD := (yX4_note, cX4_note, 5, (some .int), 1)
def mX3_addNote : MD := (yX3_addNote, cX3_addNote, 6, (some .int), 0)
def mX4_forget : MD := (yX4_forget, cX4_forget, 2, (some .int), 0)
def mX4_is : MD := (yX4_is, cX4_is, 2, (some .int), 3)
def mX3_kindsBy : MD := (yX3_kindsBy, cX3_kindsBy, 6, (some .int), 2)
def mX0_biting : MD := (yX0_biting, cX0_biting, 4, (some .int), 1)
def mX4_send : MD := (yX4_send, cX4_send, 8, (some .int), 3)
def mJ6_bitCount_0f7a4 : MD := (yJ6_bitCount_0f7a4, cJ6_bitCount_0f7a4, 1, (some .int), 0)
def mJ9_max_7cf53 : MD := (yJ9_max_7cf53, cJ9_max_7cf53, 2, (some .int), 0)
def mX4_two : MD := (yX4_two, cX4_two, 7, (some .int), 4)
def mX4_fillGains : MD := (yX4_fillGains, cX4_fillGains, 7, none, 3)
def mX4_mayChoose : MD := (yX4_mayChoose, cX4_mayChoose, 2, (some .boolean), 2)
def mX4_doorOf : MD := (yX4_doorOf, cX4_doorOf, 1, (some .int), 0)
def mX4_priceOf : MD := (yX4_priceOf, cX4_priceOf, 1, (some .int), 0)
def mX4_rests : MD := (yX4_rests, cX4_rests, 5, (some .boolean), 3)
def mX4_strays : MD := (yX4_strays, cX4_strays, 6, (some .int), 3)
def mX4_commonDivisor : MD := (yX4_commonDivisor, cX4_commonDivisor, 6, (some .int), 0)
def mX4_villages : MD := (yX4_villages, cX4_villages, 8, (some .int), 4)
def mX4_part : MD := (yX4_part, cX4_part, 2, (some .long), 1)
def mX4_image : MD := (yX4_image, cX4_image, 3, (some .int), 3)
def mX4_from : MD := (yX4_from, cX4_from, 3, (some .int), 3)
def mX4_status : MD := (yX4_status, cX4_status, 2, (some .int), 1)
def mX4_count : MD := (yX4_count, cX4_count, 2, (some .int), 2)
def mX4_counted : MD := (yX4_counted, cX4_counted, 2, (some .int), 1)
def mX4_digest : MD := (yX4_digest, cX4_digest, 4, (some .long), 3)
def mX3_digestOn : MD := (yX3_digestOn, cX3_digestOn, 6, (some .long), 2)
def mX5_init : MD := (yX5_init, cX5_init, 1, none, 1)
def mX5_begin : MD := (yX5_begin, cX5_begin, 1, none, 0)
def mX5_village : MD := (yX5_village, cX5_village, 2, (some .int), 1)
def mX5_man : MD := (yX5_man, cX5_man, 3, (some .int), 1)
def mX5_in : MD := (yX5_in, cX5_in, 3, (some .boolean), 0)
def mX5_bad : MD := (yX5_bad, cX5_bad, 1, (some .int), 0)
def mX5_full : MD := (yX5_full, cX5_full, 1, (some .int), 0)
def mX5_addMan : MD := (yX5_addMan, cX5_addMan, 3, (some .int), 0)
def mX5_dog : MD := (yX5_dog, cX5_dog, 5, (some .int), 1)
def mX5_addDog : MD := (yX5_addDog, cX5_addDog, 5, (some .int), 0)
def mX5_type : MD := (yX5_type, cX5_type, 2, (some .int), 1)
def mX5_clear : MD := (yX5_clear, cX5_clear, 2, (some .int), 0)
def mX5_read : MD := (yX5_read, cX5_read, 3, (some .int), 6)
def mX5_readsVillage : MD := (yX5_readsVillage, cX5_readsVillage, 2, (some .int), 5)
def mX5_skip : MD := (yX5_skip, cX5_skip, 1, none, 1)
def mX5_here : MD := (yX5_here, cX5_here, 1, (some .int), 0)
def mX5_wordHere : MD := (yX5_wordHere, cX5_wordHere, 2, (some .int), 3)
def mX5_wordSize : MD := (yX5_wordSize, cX5_wordSize, 2, (some .int), 2)
def mX5_isLetter : MD := (yX5_isLetter, cX5_isLetter, 1, (some .boolean), 1)
def mX5_letter : MD := (yX5_letter, cX5_letter, 2, (some .int), 0)
def mX5_ends : MD := (yX5_ends, cX5_ends, 1, (some .boolean), 2)
def mX5_readsItem : MD := (yX5_readsItem, cX5_readsItem, 2, (some .boolean), 4)
def mX5_readsMan : MD := (yX5_readsMan, cX5_readsMan, 1, (some .boolean), 3)
def mX5_number : MD := (yX5_number, cX5_number, 5, (some .boolean), 2)
def mX5_isFigure : MD := (yX5_isFigure, cX5_isFigure, 1, (some .boolean), 1)
def mX5_readsDog : MD := (yX5_readsDog, cX5_readsDog, 4, (some .boolean), 3)
def mX5_readsBribe : MD := (yX5_readsBribe, cX5_readsBribe, 4, (some .boolean), 3)
def mX5_has : MD := (yX5_has, cX5_has, 2, (some .boolean), 0)
def mX5_bribe : MD := (yX5_bribe, cX5_bribe, 3, (some .int), 2)
def mX5_isMan : MD := (yX5_isMan, cX5_isMan, 2, (some .boolean), 1)
def mX5_isDog : MD := (yX5_isDog, cX5_isDog, 2, (some .boolean), 1)
def mX5_no : MD := (yX5_no, cX5_no, 1, (some .int), 0)
def mX5_notes : MD := (yX5_notes, cX5_notes, 2, none, 1)
def mX5_lays : MD := (yX5_lays, cX5_lays, 4, none, 0)
def mX5_round : MD := (yX5_round, cX5_round, 3, (some .int), 4)
def mX5_pass : MD := (yX5_pass, cX5_pass, 2, none, 3)
def mX5_firstOf : MD := (yX5_firstOf, cX5_firstOf, 2, (some .int), 0)
def mX5_comesTo : MD := (yX5_comesTo, cX5_comesTo, 6, (some .int), 2)
def mX5_isBitten : MD := (yX5_isBitten, cX5_isBitten, 9, (some .boolean), 1)
def mX5_bitesMany : MD := (yX5_bitesMany, cX5_bitesMany, 1, (some .int), 0)
def mX5_bitesBy : MD := (yX5_bitesBy, cX5_bitesBy, 3, (some .boolean), 0)
def mX5_holeBy : MD := (yX5_holeBy, cX5_holeBy, 2, (some .int), 0)
def mX5_postman : MD := (yX5_postman, cX5_postman, 3, (some .int), 0)
def mX5_undo : MD := (yX5_undo, cX5_undo, 1, (some .int), 1)
def mX5_takes : MD := (yX5_takes, cX5_takes, 4, none, 0)
def mX5_of : MD := (yX5_of, cX5_of, 3, (some .int), 2)
def mX5_about : MD := (yX5_about, cX5_about, 3, (some .int), 2)
def mX5_bitten : MD := (yX5_bitten, cX5_bitten, 5, (some .int), 3)
def mX5_then : MD := (yX5_then, cX5_then, 4, (some .int), 4)
def mX5_puts : MD := (yX5_puts, cX5_puts, 1, none, 1)
def mX5_back : MD := (yX5_back, cX5_back, 1, none, 1)
def mX5_won : MD := (yX5_won, cX5_won, 3, (some .int), 5)
def mX5_wonIn : MD := (yX5_wonIn, cX5_wonIn, 4, (some .int), 4)
def mX5_nextVillage : MD := (yX5_nextVillage, cX5_nextVillage, 3, (some .int), 0)
def mX5_letters : MD := (yX5_letters, cX5_letters, 4, (some .int), 5)
def mX5_bribes : MD := (yX5_bribes, cX5_bribes, 7, (some .int), 5)
def mX5_hungerOf : MD := (yX5_hungerOf, cX5_hungerOf, 4, (some .int), 1)
def mX5_still : MD := (yX5_still, cX5_still, 4, (some .int), 4)
def mX5_first : MD := (yX5_first, cX5_first, 5, (some .int), 3)
def mX5_slept : MD := (yX5_slept, cX5_slept, 9, (some .int), 3)
def mX5_note : MD := (yX5_note, cX5_note, 5, (some .int), 2)
def mX5_forget : MD := (yX5_forget, cX5_forget, 2, (some .int), 0)
def mX5_is : MD := (yX5_is, cX5_is, 2, (some .int), 2)
def mX5_kindsOf : MD := (yX5_kindsOf, cX5_kindsOf, 7, (some .int), 1)
def mX5_send : MD := (yX5_send, cX5_send, 10, (some .int), 2)
def mX5_two : MD := (yX5_two, cX5_two, 8, (some .int), 5)
def mX5_ten : MD := (yX5_ten, cX5_ten, 1, (some .int), 0)
def mX5_isChoice : MD := (yX5_isChoice, cX5_isChoice, 2, (some .boolean), 1)
def mX5_rests : MD := (yX5_rests, cX5_rests, 7, (some .boolean), 4)
def mX5_gets : MD := (yX5_gets, cX5_gets, 5, (some .int), 3)
def mX5_strays : MD := (yX5_strays, cX5_strays, 3, (some .int), 3)
def mX5_lay : MD := (yX5_lay, cX5_lay, 11, none, 0)
def mX5_villages : MD := (yX5_villages, cX5_villages, 6, (some .int), 4)
def mX5_part : MD := (yX5_part, cX5_part, 2, (some .long), 1)
def mX5_image : MD := (yX5_image, cX5_image, 4, (some .int), 1)
def mX5_from : MD := (yX5_from, cX5_from, 4, (some .int), 1)
def mX5_status : MD := (yX5_status, cX5_status, 2, (some .int), 1)
def mX5_count : MD := (yX5_count, cX5_count, 2, (some .int), 2)
def mX5_countOf : MD := (yX5_countOf, cX5_countOf, 2, (some .int), 1)
def mX5_bits : MD := (yX5_bits, cX5_bits, 3, (some .int), 0)
def mX5_digest : MD := (yX5_digest, cX5_digest, 2, (some .long), 2)
def mX5_mix : MD := (yX5_mix, cX5_mix, 3, none, 0)
theorem k_X4_50 : LkV RX4 50 mX3_empty 0 := ⟨⟨b_ml_X4_50, b_inm_yX3_empty, b_se_yX3_empty, b_in_X3, b_co_yX3_empty⟩, by decide +kernel, by decide +kernel, by decide +kernel⟩
theorem k_X4_53 : LkS RX4 53 mX4_within 3 := ⟨⟨b_ml_X4_53, b_stm_yX4_within, b_in_X4, b_co_yX4_within⟩, by decide +kernel, by decide +kernel, by decide +kernel⟩
theorem k_X4_57 : LkV RX4 57 mX4_refuse 1 := ⟨⟨b_ml_X4_57, b_inm_yX4_refuse, b_se_yX4_refuse, b_in_X4, b_co_yX4_refuse⟩, by decide +kernel, by decide +kernel, by decide +kernel⟩
theorem k_X4_64 : LkV RX4 64 mX3_addMan 2 := ⟨⟨b_ml_X4_64, b_inm_yX3_addMan, b_se_yX3_addMan, b_in_X3, b_co_yX3_addMan⟩, by decide +kernel, by decide +kernel, by decide +kernel⟩
theorem k_X4_68 : LkV RX4 68 mX3_addDog 4 := ⟨⟨b_ml_X4_68, b_inm_yX3_addDog, b_se_yX3_addDog, b_in_X3, b_co_yX3_addDog⟩, by decide +kernel, by decide +kernel, by decide +kernel⟩
theorem k_X4_75 : LkV RX4 75 mX2_add 1 := ⟨⟨b_ml_X4_75, b_inm_yX2_add, b_se_yX2_add, b_in_X2, b_co_yX2_add⟩, by decide +kernel, by decide +kernel, by decide +kernel⟩
theorem k_X4_83 : LkV RX4 83 mX1_readVillage 0 := ⟨⟨b_ml_X4_83, b_inm_yX1_readVillage, b_se_yX1_readVillage, b_in_X1, b_co_yX1_readVillage⟩, by decide +kernel, by decide +kernel, by decide +kernel⟩
theorem k_X4_90 : LkV RX4 90 mX3_takeFrom 1 := ⟨⟨b_ml_X4_90, b_inm_yX3_takeFrom, b_se_yX3_takeFrom, b_in_X3, b_co_yX3_takeFrom⟩, by decide +kernel, by decide +kernel, by decide +kernel⟩
theorem k_X1_19 : LkV RX1 19 mX3_empty 0 := ⟨⟨b_ml_X1_19, b_inm_yX3_empty, b_se_yX3_empty, b_in_X3, b_co_yX3_empty⟩, by decide +kernel, by decide +kernel, by decide +kernel⟩
theorem k_X1_24 : LkV RX1 24 mX1_next 0 := ⟨⟨b_ml_X1_24, b_inm_yX1_next, b_se_yX1_next, b_in_X1, b_co_yX1_next⟩, by decide +kernel, by decide +kernel, by decide +kernel⟩
theorem k_X1_29 : LkV RX1 29 mX1_wordHere 1 := ⟨⟨b_ml_X1_29, b_inm_yX1_wordHere, b_se_yX1_wordHere, b_in_X1, b_co_yX1_wordHere⟩, by decide +kernel, by decide +kernel, by decide +kernel⟩
theorem k_X1_33 : LkV RX1 33 mX1_semicolonNext 0 := ⟨⟨b_ml_X1_33, b_inm_yX1_semicolonNext, b_se_yX1_semicolonNext, b_in_X1, b_co_yX1_semicolonNext⟩, by decide +kernel, by decide +kernel, by decide +kernel⟩
theorem k_X1_41 : LkV RX1 41 mX1_readItem 0 := ⟨⟨b_ml_X1_41, b_inm_yX1_readItem, b_se_yX1_readItem, b_in_X1, b_co_yX1_readItem⟩, by decide +kernel, by decide +kernel, by decide +kernel⟩
theorem k_X1_110 : LkS RX1 110 mX1_isLetter 1 := ⟨⟨b_ml_X1_110, b_stm_yX1_isLetter, b_in_X1, b_co_yX1_isLetter⟩, by decide +kernel, by decide +kernel, by decide +kernel⟩
theorem k_X1_114 : LkS RX1 114 mX1_isFigure 1 := ⟨⟨b_ml_X1_114, b_stm_yX1_isFigure, b_in_X1, b_co_yX1_isFigure⟩, by decide +kernel, by decide +kernel, by decide +kernel⟩
theorem k_X1_99 : LkV RX1 99 mX2_at 1 := ⟨⟨b_ml_X1_99, b_inm_yX2_at, b_se_yX2_at, b_in_X2, b_co_yX2_at⟩, by decide +kernel, by decide +kernel, by decide +kernel⟩
theorem k_X1_117 : LkV RX1 117 mX1_takeNumber 1 := ⟨⟨b_ml_X1_117, b_inm_yX1_takeNumber, b_se_yX1_takeNumber, b_in_X1, b_co_yX1_takeNumber⟩, by decide +kernel, by decide +kernel, by decide +kernel⟩
theorem k_X1_93 : LkV RX1 93 mJ0_length_8abf5 0 := ⟨⟨b_ml_X1_93, b_inm_yJ0_length_8abf5, b_se_yJ0_length_8abf5, b_in_J0, b_co_yJ0_length_8abf5⟩, by decide +kernel, by decide +kernel, by decide +kernel⟩
theorem k_X1_104 : LkV RX1 104 mJ0_charAt_5068e 1 := ⟨⟨b_ml_X1_104, b_inm_yJ0_charAt_5068e, b_se_yJ0_charAt_5068e, b_in_J0, b_co_yJ0_charAt_5068e⟩, by decide +kernel, by decide +kernel, by decide +kernel⟩
theorem k_J0_335 : LkV RJ0 335 mJ0_coder_7d493 0 := ⟨⟨b_ml_J0_335, b_inm_yJ0_coder_7d493, b_se_yJ0_coder_7d493, b_in_J0, b_co_yJ0_coder_7d493⟩, by decide +kernel, by decide +kernel, by decide +kernel⟩
theorem k_J0_495 : LkS RJ0 495 mJ1_charAt_3b067 2 := ⟨⟨b_ml_J0_495, b_stm_yJ1_charAt_3b067, b_in_J1, b_co_yJ1_charAt_3b067⟩, by decide +kernel, by decide +kernel, by decide +kernel⟩
theorem k_J0_498 : LkS RJ0 498 mJ2_charAt_3b067 2 := ⟨⟨b_ml_J0_498, b_stm_yJ2_charAt_3b067, b_in_J2, b_co_yJ2_charAt_3b067⟩, by decide +kernel, by decide +kernel, by decide +kernel⟩
theorem k_J0_492 : LkV RJ0 492 mJ0_isLatin1_aae02 0 := ⟨⟨b_ml_J0_492, b_inm_yJ0_isLatin1_aae02, b_se_yJ0_isLatin1_aae02, b_in_J0, b_co_yJ0_isLatin1_aae02⟩, by decide +kernel, by decide +kernel, by decide +kernel⟩
theorem k_J1_9 : LkS RJ1 9 mJ0_checkIndex_df160 2 := ⟨⟨b_ml_J1_9, b_stm_yJ0_checkIndex_df160, b_in_J0, b_co_yJ0_checkIndex_df160⟩, by decide +kernel, by decide +kernel, by decide +kernel⟩
theorem k_J0_1059 : LkS RJ0 1059 mJ3_checkIndex_8e157 3 := ⟨⟨b_ml_J0_1059, b_stm_yJ3_checkIndex_8e157, b_in_J3, b_co_yJ3_checkIndex_8e157⟩, by decide +kernel, by decide +kernel, by decide +kernel⟩
theorem k_J2_67 : LkS RJ2 67 mJ2_checkIndex_2214a 2 := ⟨⟨b_ml_J2_67, b_stm_yJ2_checkIndex_2214a, b_in_J2, b_co_yJ2_checkIndex_2214a⟩, by decide +kernel, by decide +kernel, by decide +kernel⟩
theorem k_J2_71 : LkS RJ2 71 mJ2_getChar_3b067 2 := ⟨⟨b_ml_J2_71, b_stm_yJ2_getChar_3b067, b_in_J2, b_co_yJ2_getChar_3b067⟩, by decide +kernel, by decide +kernel, by decide +kernel⟩
theorem k_J2_48 : LkS RJ2 48 mJ2_length_9d52b 1 := ⟨⟨b_ml_J2_48, b_stm_yJ2_length_9d52b, b_in_J2, b_co_yJ2_length_9d52b⟩, by decide +kernel, by decide +kernel, by decide +kernel⟩
theorem k_J2_414 : LkS RJ2 414 mJ0_checkIndex_df160 2 := ⟨⟨b_ml_J2_414, b_stm_yJ0_checkIndex_df160, b_in_J0, b_co_yJ0_checkIndex_df160⟩, by decide +kernel, by decide +kernel, by decide +kernel⟩
theorem k_X1_46 : LkV RX1 46 mX1_readMan 0 := ⟨⟨b_ml_X1_46, b_inm_yX1_readMan, b_se_yX1_readMan, b_in_X1, b_co_yX1_readMan⟩, by decide +kernel, by decide +kernel, by decide +kernel⟩
theorem k_X1_51 : LkV RX1 51 mX1_readDog 0 := ⟨⟨b_ml_X1_51, b_inm_yX1_readDog, b_se_yX1_readDog, b_in_X1, b_co_yX1_readDog⟩, by decide +kernel, by decide +kernel, by decide +kernel⟩
theorem k_X1_56 : LkV RX1 56 mX1_readBribe 0 := ⟨⟨b_ml_X1_56, b_inm_yX1_readBribe, b_se_yX1_readBribe, b_in_X1, b_co_yX1_readBribe⟩, by decide +kernel, by decide +kernel, by decide +kernel⟩
theorem k_X1_62 : LkV RX1 62 mX1_numberNext 2 := ⟨⟨b_ml_X1_62, b_inm_yX1_numberNext, b_se_yX1_numberNext, b_in_X1, b_co_yX1_numberNext⟩, by decide +kernel, by decide +kernel, by decide +kernel⟩
theorem k_X1_69 : LkV RX1 69 mX3_addMan 2 := ⟨⟨b_ml_X1_69, b_inm_yX3_addMan, b_se_yX3_addMan, b_in_X3, b_co_yX3_addMan⟩, by decide +kernel, by decide +kernel, by decide +kernel⟩
theorem k_X1_76 : LkV RX1 76 mX3_addDog 4 := ⟨⟨b_ml_X1_76, b_inm_yX3_addDog, b_se_yX3_addDog, b_in_X3, b_co_yX3_addDog⟩, by decide +kernel, by decide +kernel, by decide +kernel⟩
theorem k_X1_80 : LkV RX1 80 mX3_mayBribe 2 := ⟨⟨b_ml_X1_80, b_inm_yX3_mayBribe, b_se_yX3_mayBribe, b_in_X3, b_co_yX3_mayBribe⟩, by decide +kernel, by decide +kernel, by decide +kernel⟩
theorem k_X1_83 : LkV RX1 83 mX3_putToSleep 2 := ⟨⟨b_ml_X1_83, b_inm_yX3_putToSleep, b_se_yX3_putToSleep, b_in_X3, b_co_yX3_putToSleep⟩, by decide +kernel, by decide +kernel, by decide +kernel⟩
theorem k_X3_68 : LkV RX3 68 mX3_isAsleep 1 := ⟨⟨b_ml_X3_68, b_inm_yX3_isAsleep, b_se_yX3_isAsleep, b_in_X3, b_co_yX3_isAsleep⟩, by decide +kernel, by decide +kernel, by decide +kernel⟩
theorem k_X3_64 : LkS RX3 64 mX3_isIn 2 := ⟨⟨b_ml_X3_64, b_stm_yX3_isIn, b_in_X3, b_co_yX3_isIn⟩, by decide +kernel, by decide +kernel, by decide +kernel⟩
theorem k_X4_94 : LkV RX4 94 mX3_hasMan 1 := ⟨⟨b_ml_X4_94, b_inm_yX3_hasMan, b_se_yX3_hasMan, b_in_X3, b_co_yX3_hasMan⟩, by decide +kernel, by decide +kernel, by decide +kernel⟩
theorem k_X4_98 : LkV RX4 98 mX3_hasDog 1 := ⟨⟨b_ml_X4_98, b_inm_yX3_hasDog, b_se_yX3_hasDog, b_in_X3, b_co_yX3_hasDog⟩, by decide +kernel, by decide +kernel, by decide +kernel⟩
theorem k_X4_101 : LkV RX4 101 mX3_mayBribe 2 := ⟨⟨b_ml_X4_101, b_inm_yX3_mayBribe, b_se_yX3_mayBribe, b_in_X3, b_co_yX3_mayBribe⟩, by decide +kernel, by decide +kernel, by decide +kernel⟩
theorem k_X4_105 : LkV RX4 105 mX3_keepPast 0 := ⟨⟨b_ml_X4_105, b_inm_yX3_keepPast, b_se_yX3_keepPast, b_in_X3, b_co_yX3_keepPast⟩, by decide +kernel, by decide +kernel, by decide +kernel⟩
theorem k_X4_108 : LkV RX4 108 mX3_putToSleep 2 := ⟨⟨b_ml_X4_108, b_inm_yX3_putToSleep, b_se_yX3_putToSleep, b_in_X3, b_co_yX3_putToSleep⟩, by decide +kernel, by decide +kernel, by decide +kernel⟩
theorem k_X4_128 : LkS RX4 128 mX4_postmanOf 2 := ⟨⟨b_ml_X4_128, b_stm_yX4_postmanOf, b_in_X4, b_co_yX4_postmanOf⟩, by decide +kernel, by decide +kernel, by decide +kernel⟩
theorem k_X4_124 : LkV RX4 124 mX3_addRound 3 := ⟨⟨b_ml_X4_124, b_inm_yX3_addRound, b_se_yX3_addRound, b_in_X3, b_co_yX3_addRound⟩, by decide +kernel, by decide +kernel, by decide +kernel⟩
theorem k_X3_86 : LkS RX3 86 mX0_width 2 := ⟨⟨b_ml_X3_86, b_stm_yX0_width, b_in_X0, b_co_yX0_width⟩, by decide +kernel, by decide +kernel, by decide +kernel⟩
theorem k_X3_82 : LkV RX3 82 mX3_bittenBy 2 := ⟨⟨b_ml_X3_82, b_inm_yX3_bittenBy, b_se_yX3_bittenBy, b_in_X3, b_co_yX3_bittenBy⟩, by decide +kernel, by decide +kernel, by decide +kernel⟩
theorem k_X3_89 : LkV RX3 89 mX3_startOf 1 := ⟨⟨b_ml_X3_89, b_inm_yX3_startOf, b_se_yX3_startOf, b_in_X3, b_co_yX3_startOf⟩, by decide +kernel, by decide +kernel, by decide +kernel⟩
theorem k_X3_72 : LkS RX3 72 mX0_bites 1 := ⟨⟨b_ml_X3_72, b_stm_yX0_bites, b_in_X0, b_co_yX0_bites⟩, by decide +kernel, by decide +kernel, by decide +kernel⟩
theorem k_X3_78 : LkS RX3 78 mX0_wouldBite 3 := ⟨⟨b_ml_X3_78, b_stm_yX0_wouldBite, b_in_X0, b_co_yX0_wouldBite⟩, by decide +kernel, by decide +kernel, by decide +kernel⟩
theorem k_X4_135 : LkV RX4 135 mX3_goBack 0 := ⟨⟨b_ml_X4_135, b_inm_yX3_goBack, b_se_yX3_goBack, b_in_X3, b_co_yX3_goBack⟩, by decide +kernel, by decide +kernel, by decide +kernel⟩
theorem k_X4_156 : LkS RX4 156 mX0_width 2 := ⟨⟨b_ml_X4_156, b_stm_yX0_width, b_in_X0, b_co_yX0_width⟩, by decide +kernel, by decide +kernel, by decide +kernel⟩
theorem k_X4_161 : LkS RX4 161 mX0_bites 1 := ⟨⟨b_ml_X4_161, b_stm_yX0_bites, b_in_X0, b_co_yX0_bites⟩, by decide +kernel, by decide +kernel, by decide +kernel⟩
theorem k_X4_153 : LkV RX4 153 mX3_isAsleep 1 := ⟨⟨b_ml_X4_153, b_inm_yX3_isAsleep, b_se_yX3_isAsleep, b_in_X3, b_co_yX3_isAsleep⟩, by decide +kernel, by decide +kernel, by decide +kernel⟩
theorem k_X4_164 : LkV RX4 164 mX3_startOf 1 := ⟨⟨b_ml_X4_164, b_inm_yX3_startOf, b_se_yX3_startOf, b_in_X3, b_co_yX3_startOf⟩, by decide +kernel, by decide +kernel, by decide +kernel⟩
theorem k_X4_167 : LkV RX4 167 mX3_bitersOf 3 := ⟨⟨b_ml_X4_167, b_inm_yX3_bitersOf, b_se_yX3_bitersOf, b_in_X3, b_co_yX3_bitersOf⟩, by decide +kernel, by decide +kernel, by decide +kernel⟩
theorem k_X4_171 : LkV RX4 171 mX3_widthTo 3 := ⟨⟨b_ml_X4_171, b_inm_yX3_widthTo, b_se_yX3_widthTo, b_in_X3, b_co_yX3_widthTo⟩, by decide +kernel, by decide +kernel, by decide +kernel⟩
theorem k_X4_174 : LkV RX4 174 mX4_lookAhead 1 := ⟨⟨b_ml_X4_174, b_inm_yX4_lookAhead, b_se_yX4_lookAhead, b_in_X4, b_co_yX4_lookAhead⟩, by decide +kernel, by decide +kernel, by decide +kernel⟩
theorem k_X4_178 : LkS RX4 178 mX4_leaverOf 2 := ⟨⟨b_ml_X4_178, b_stm_yX4_leaverOf, b_in_X4, b_co_yX4_leaverOf⟩, by decide +kernel, by decide +kernel, by decide +kernel⟩
theorem k_X4_181 : LkV RX4 181 mX3_everyDog 0 := ⟨⟨b_ml_X4_181, b_inm_yX3_everyDog, b_se_yX3_everyDog, b_in_X3, b_co_yX3_everyDog⟩, by decide +kernel, by decide +kernel, by decide +kernel⟩
theorem k_X4_184 : LkV RX4 184 mX3_hungerOf 1 := ⟨⟨b_ml_X4_184, b_inm_yX3_hungerOf, b_se_yX3_hungerOf, b_in_X3, b_co_yX3_hungerOf⟩, by decide +kernel, by decide +kernel, by decide +kernel⟩
theorem k_X4_187 : LkV RX4 187 mX4_winsByBribing 2 := ⟨⟨b_ml_X4_187, b_inm_yX4_winsByBribing, b_se_yX4_winsByBribing, b_in_X4, b_co_yX4_winsByBribing⟩, by decide +kernel, by decide +kernel, by decide +kernel⟩
theorem k_X4_193 : LkV RX4 193 mX3_addNote 4 := ⟨⟨b_ml_X4_193, b_inm_yX3_addNote, b_se_yX3_addNote, b_in_X3, b_co_yX3_addNote⟩, by decide +kernel, by decide +kernel, by decide +kernel⟩
theorem k_X4_196 : LkV RX4 196 mX3_kindsBy 1 := ⟨⟨b_ml_X4_196, b_inm_yX3_kindsBy, b_se_yX3_kindsBy, b_in_X3, b_co_yX3_kindsBy⟩, by decide +kernel, by decide +kernel, by decide +kernel⟩
theorem k_X3_92 : LkS RX3 92 mX0_biting 2 := ⟨⟨b_ml_X3_92, b_stm_yX0_biting, b_in_X0, b_co_yX0_biting⟩, by decide +kernel, by decide +kernel, by decide +kernel⟩
theorem k_X0_11 : LkS RX0 11 mX0_wouldBite 3 := ⟨⟨b_ml_X0_11, b_stm_yX0_wouldBite, b_in_X0, b_co_yX0_wouldBite⟩, by decide +kernel, by decide +kernel, by decide +kernel⟩
theorem k_X4_199 : LkS RX4 199 mX0_biting 2 := ⟨⟨b_ml_X4_199, b_stm_yX0_biting, b_in_X0, b_co_yX0_biting⟩, by decide +kernel, by decide +kernel, by decide +kernel⟩
theorem k_X4_203 : LkS RX4 203 mJ6_bitCount_0f7a4 1 := ⟨⟨b_ml_X4_203, b_stm_yJ6_bitCount_0f7a4, b_in_J6, b_co_yJ6_bitCount_0f7a4⟩, by decide +kernel, by decide +kernel, by decide +kernel⟩
theorem k_X4_208 : LkS RX4 208 mJ9_max_7cf53 2 := ⟨⟨b_ml_X4_208, b_stm_yJ9_max_7cf53, b_in_J9, b_co_yJ9_max_7cf53⟩, by decide +kernel, by decide +kernel, by decide +kernel⟩
theorem k_X4_213 : LkV RX4 213 mX4_fillGains 2 := ⟨⟨b_ml_X4_213, b_inm_yX4_fillGains, b_se_yX4_fillGains, b_in_X4, b_co_yX4_fillGains⟩, by decide +kernel, by decide +kernel, by decide +kernel⟩
theorem k_X4_216 : LkV RX4 216 mX4_rests 2 := ⟨⟨b_ml_X4_216, b_inm_yX4_rests, b_se_yX4_rests, b_in_X4, b_co_yX4_rests⟩, by decide +kernel, by decide +kernel, by decide +kernel⟩
theorem k_X4_262 : LkS RX4 262 mX4_doorOf 1 := ⟨⟨b_ml_X4_262, b_stm_yX4_doorOf, b_in_X4, b_co_yX4_doorOf⟩, by decide +kernel, by decide +kernel, by decide +kernel⟩
theorem k_X4_265 : LkS RX4 265 mX4_priceOf 1 := ⟨⟨b_ml_X4_265, b_stm_yX4_priceOf, b_in_X4, b_co_yX4_priceOf⟩, by decide +kernel, by decide +kernel, by decide +kernel⟩
theorem k_X4_259 : LkV RX4 259 mX4_mayChoose 1 := ⟨⟨b_ml_X4_259, b_inm_yX4_mayChoose, b_se_yX4_mayChoose, b_in_X4, b_co_yX4_mayChoose⟩, by decide +kernel, by decide +kernel, by decide +kernel⟩
theorem k_X4_219 : LkS RX4 219 mX4_commonDivisor 2 := ⟨⟨b_ml_X4_219, b_stm_yX4_commonDivisor, b_in_X4, b_co_yX4_commonDivisor⟩, by decide +kernel, by decide +kernel, by decide +kernel⟩
theorem k_X4_242 : LkV RX4 242 mX4_counted 1 := ⟨⟨b_ml_X4_242, b_inm_yX4_counted, b_se_yX4_counted, b_in_X4, b_co_yX4_counted⟩, by decide +kernel, by decide +kernel, by decide +kernel⟩
theorem k_X4_249 : LkV RX4 249 mX3_digestOn 1 := ⟨⟨b_ml_X4_249, b_inm_yX3_digestOn, b_se_yX3_digestOn, b_in_X3, b_co_yX3_digestOn⟩, by decide +kernel, by decide +kernel, by decide +kernel⟩
theorem k_X5_71 : LkV RX5 71 mX5_begin 0 := ⟨⟨b_ml_X5_71, b_inm_yX5_begin, b_se_yX5_begin, b_in_X5, b_co_yX5_begin⟩, by decide +kernel, by decide +kernel, by decide +kernel⟩
theorem k_X5_93 : LkS RX5 93 mX5_in 3 := ⟨⟨b_ml_X5_93, b_stm_yX5_in, b_in_X5, b_co_yX5_in⟩, by decide +kernel, by decide +kernel, by decide +kernel⟩
theorem k_X5_97 : LkV RX5 97 mX5_bad 0 := ⟨⟨b_ml_X5_97, b_inm_yX5_bad, b_se_yX5_bad, b_in_X5, b_co_yX5_bad⟩, by decide +kernel, by decide +kernel, by decide +kernel⟩
theorem k_X5_101 : LkV RX5 101 mX5_full 0 := ⟨⟨b_ml_X5_101, b_inm_yX5_full, b_se_yX5_full, b_in_X5, b_co_yX5_full⟩, by decide +kernel, by decide +kernel, by decide +kernel⟩
theorem k_X5_104 : LkV RX5 104 mX5_addMan 2 := ⟨⟨b_ml_X5_104, b_inm_yX5_addMan, b_se_yX5_addMan, b_in_X5, b_co_yX5_addMan⟩, by decide +kernel, by decide +kernel, by decide +kernel⟩
theorem k_X5_108 : LkV RX5 108 mX5_addDog 4 := ⟨⟨b_ml_X5_108, b_inm_yX5_addDog, b_se_yX5_addDog, b_in_X5, b_co_yX5_addDog⟩, by decide +kernel, by decide +kernel, by decide +kernel⟩
theorem k_X5_176 : LkV RX5 176 mX5_readsVillage 0 := ⟨⟨b_ml_X5_176, b_inm_yX5_readsVillage, b_se_yX5_readsVillage, b_in_X5, b_co_yX5_readsVillage⟩, by decide +kernel, by decide +kernel, by decide +kernel⟩
theorem k_X5_132 : LkV RX5 132 mX5_skip 0 := ⟨⟨b_ml_X5_132, b_inm_yX5_skip, b_se_yX5_skip, b_in_X5, b_co_yX5_skip⟩, by decide +kernel, by decide +kernel, by decide +kernel⟩
theorem k_X5_148 : LkV RX5 148 mX5_ends 0 := ⟨⟨b_ml_X5_148, b_inm_yX5_ends, b_se_yX5_ends, b_in_X5, b_co_yX5_ends⟩, by decide +kernel, by decide +kernel, by decide +kernel⟩
theorem k_X5_161 : LkV RX5 161 mX5_wordHere 0 := ⟨⟨b_ml_X5_161, b_inm_yX5_wordHere, b_se_yX5_wordHere, b_in_X5, b_co_yX5_wordHere⟩, by decide +kernel, by decide +kernel, by decide +kernel⟩
theorem k_X5_173 : LkV RX5 173 mX5_readsItem 0 := ⟨⟨b_ml_X5_173, b_inm_yX5_readsItem, b_se_yX5_readsItem, b_in_X5, b_co_yX5_readsItem⟩, by decide +kernel, by decide +kernel, by decide +kernel⟩
theorem k_X5_118 : LkV RX5 118 mX5_here 0 := ⟨⟨b_ml_X5_118, b_inm_yX5_here, b_se_yX5_here, b_in_X5, b_co_yX5_here⟩, by decide +kernel, by decide +kernel, by decide +kernel⟩
theorem k_X5_125 : LkV RX5 125 mX5_wordSize 0 := ⟨⟨b_ml_X5_125, b_inm_yX5_wordSize, b_se_yX5_wordSize, b_in_X5, b_co_yX5_wordSize⟩, by decide +kernel, by decide +kernel, by decide +kernel⟩
theorem k_X5_128 : LkV RX5 128 mX5_letter 1 := ⟨⟨b_ml_X5_128, b_inm_yX5_letter, b_se_yX5_letter, b_in_X5, b_co_yX5_letter⟩, by decide +kernel, by decide +kernel, by decide +kernel⟩
theorem k_X5_121 : LkS RX5 121 mX5_isLetter 1 := ⟨⟨b_ml_X5_121, b_stm_yX5_isLetter, b_in_X5, b_co_yX5_isLetter⟩, by decide +kernel, by decide +kernel, by decide +kernel⟩
theorem k_X5_164 : LkV RX5 164 mX5_readsMan 0 := ⟨⟨b_ml_X5_164, b_inm_yX5_readsMan, b_se_yX5_readsMan, b_in_X5, b_co_yX5_readsMan⟩, by decide +kernel, by decide +kernel, by decide +kernel⟩
theorem k_X5_167 : LkV RX5 167 mX5_readsDog 0 := ⟨⟨b_ml_X5_167, b_inm_yX5_readsDog, b_se_yX5_readsDog, b_in_X5, b_co_yX5_readsDog⟩, by decide +kernel, by decide +kernel, by decide +kernel⟩
theorem k_X5_170 : LkV RX5 170 mX5_readsBribe 0 := ⟨⟨b_ml_X5_170, b_inm_yX5_readsBribe, b_se_yX5_readsBribe, b_in_X5, b_co_yX5_readsBribe⟩, by decide +kernel, by decide +kernel, by decide +kernel⟩
theorem k_X5_141 : LkV RX5 141 mX5_number 2 := ⟨⟨b_ml_X5_141, b_inm_yX5_number, b_se_yX5_number, b_in_X5, b_co_yX5_number⟩, by decide +kernel, by decide +kernel, by decide +kernel⟩
theorem k_X5_135 : LkS RX5 135 mX5_isFigure 1 := ⟨⟨b_ml_X5_135, b_stm_yX5_isFigure, b_in_X5, b_co_yX5_isFigure⟩, by decide +kernel, by decide +kernel, by decide +kernel⟩
theorem k_X5_158 : LkS RX5 158 mX5_has 2 := ⟨⟨b_ml_X5_158, b_stm_yX5_has, b_in_X5, b_co_yX5_has⟩, by decide +kernel, by decide +kernel, by decide +kernel⟩
theorem k_X5_206 : LkV RX5 206 mX5_isMan 1 := ⟨⟨b_ml_X5_206, b_inm_yX5_isMan, b_se_yX5_isMan, b_in_X5, b_co_yX5_isMan⟩, by decide +kernel, by decide +kernel, by decide +kernel⟩
theorem k_X5_209 : LkV RX5 209 mX5_isDog 1 := ⟨⟨b_ml_X5_209, b_inm_yX5_isDog, b_se_yX5_isDog, b_in_X5, b_co_yX5_isDog⟩, by decide +kernel, by decide +kernel, by decide +kernel⟩
theorem k_X5_212 : LkV RX5 212 mX5_no 0 := ⟨⟨b_ml_X5_212, b_inm_yX5_no, b_se_yX5_no, b_in_X5, b_co_yX5_no⟩, by decide +kernel, by decide +kernel, by decide +kernel⟩
theorem k_X5_215 : LkV RX5 215 mX5_notes 0 := ⟨⟨b_ml_X5_215, b_inm_yX5_notes, b_se_yX5_notes, b_in_X5, b_co_yX5_notes⟩, by decide +kernel, by decide +kernel, by decide +kernel⟩
theorem k_X5_199 : LkV RX5 199 mX5_lays 2 := ⟨⟨b_ml_X5_199, b_inm_yX5_lays, b_se_yX5_lays, b_in_X5, b_co_yX5_lays⟩, by decide +kernel, by decide +kernel, by decide +kernel⟩
theorem k_X5_218 : LkV RX5 218 mX5_pass 0 := ⟨⟨b_ml_X5_218, b_inm_yX5_pass, b_se_yX5_pass, b_in_X5, b_co_yX5_pass⟩, by decide +kernel, by decide +kernel, by decide +kernel⟩
theorem k_X5_221 : LkV RX5 221 mX5_postman 0 := ⟨⟨b_ml_X5_221, b_inm_yX5_postman, b_se_yX5_postman, b_in_X5, b_co_yX5_postman⟩, by decide +kernel, by decide +kernel, by decide +kernel⟩
theorem k_X5_192 : LkV RX5 192 mX5_firstOf 1 := ⟨⟨b_ml_X5_192, b_inm_yX5_firstOf, b_se_yX5_firstOf, b_in_X5, b_co_yX5_firstOf⟩, by decide +kernel, by decide +kernel, by decide +kernel⟩
theorem k_X5_195 : LkV RX5 195 mX5_comesTo 3 := ⟨⟨b_ml_X5_195, b_inm_yX5_comesTo, b_se_yX5_comesTo, b_in_X5, b_co_yX5_comesTo⟩, by decide +kernel, by decide +kernel, by decide +kernel⟩
theorem k_X5_189 : LkS RX5 189 mX5_holeBy 2 := ⟨⟨b_ml_X5_189, b_stm_yX5_holeBy, b_in_X5, b_co_yX5_holeBy⟩, by decide +kernel, by decide +kernel, by decide +kernel⟩
theorem k_X5_186 : LkV RX5 186 mX5_isBitten 3 := ⟨⟨b_ml_X5_186, b_inm_yX5_isBitten, b_se_yX5_isBitten, b_in_X5, b_co_yX5_isBitten⟩, by decide +kernel, by decide +kernel, by decide +kernel⟩
theorem k_X5_179 : LkS RX5 179 mX5_bitesMany 1 := ⟨⟨b_ml_X5_179, b_stm_yX5_bitesMany, b_in_X5, b_co_yX5_bitesMany⟩, by decide +kernel, by decide +kernel, by decide +kernel⟩
theorem k_X5_182 : LkS RX5 182 mX5_bitesBy 3 := ⟨⟨b_ml_X5_182, b_stm_yX5_bitesBy, b_in_X5, b_co_yX5_bitesBy⟩, by decide +kernel, by decide +kernel, by decide +kernel⟩
theorem k_X5_203 : LkV RX5 203 mX5_takes 2 := ⟨⟨b_ml_X5_203, b_inm_yX5_takes, b_se_yX5_takes, b_in_X5, b_co_yX5_takes⟩, by decide +kernel, by decide +kernel, by decide +kernel⟩
theorem k_X5_224 : LkV RX5 224 mX5_puts 0 := ⟨⟨b_ml_X5_224, b_inm_yX5_puts, b_se_yX5_puts, b_in_X5, b_co_yX5_puts⟩, by decide +kernel, by decide +kernel, by decide +kernel⟩
theorem k_X5_227 : LkV RX5 227 mX5_back 0 := ⟨⟨b_ml_X5_227, b_inm_yX5_back, b_se_yX5_back, b_in_X5, b_co_yX5_back⟩, by decide +kernel, by decide +kernel, by decide +kernel⟩
theorem k_X5_233 : LkV RX5 233 mX5_wonIn 2 := ⟨⟨b_ml_X5_233, b_inm_yX5_wonIn, b_se_yX5_wonIn, b_in_X5, b_co_yX5_wonIn⟩, by decide +kernel, by decide +kernel, by decide +kernel⟩
theorem k_X5_230 : LkV RX5 230 mX5_nextVillage 0 := ⟨⟨b_ml_X5_230, b_inm_yX5_nextVillage, b_se_yX5_nextVillage, b_in_X5, b_co_yX5_nextVillage⟩, by decide +kernel, by decide +kernel, by decide +kernel⟩
theorem k_X5_236 : LkV RX5 236 mX5_hungerOf 1 := ⟨⟨b_ml_X5_236, b_inm_yX5_hungerOf, b_se_yX5_hungerOf, b_in_X5, b_co_yX5_hungerOf⟩, by decide +kernel, by decide +kernel, by decide +kernel⟩
theorem k_X5_239 : LkV RX5 239 mX5_kindsOf 1 := ⟨⟨b_ml_X5_239, b_inm_yX5_kindsOf, b_se_yX5_kindsOf, b_in_X5, b_co_yX5_kindsOf⟩, by decide +kernel, by decide +kernel, by decide +kernel⟩
theorem k_X5_243 : LkV RX5 243 mX5_isChoice 1 := ⟨⟨b_ml_X5_243, b_inm_yX5_isChoice, b_se_yX5_isChoice, b_in_X5, b_co_yX5_isChoice⟩, by decide +kernel, by decide +kernel, by decide +kernel⟩
theorem k_X5_249 : LkV RX5 249 mX5_ten 0 := ⟨⟨b_ml_X5_249, b_inm_yX5_ten, b_se_yX5_ten, b_in_X5, b_co_yX5_ten⟩, by decide +kernel, by decide +kernel, by decide +kernel⟩
theorem k_X5_252 : LkV RX5 252 mX5_rests 4 := ⟨⟨b_ml_X5_252, b_inm_yX5_rests, b_se_yX5_rests, b_in_X5, b_co_yX5_rests⟩, by decide +kernel, by decide +kernel, by decide +kernel⟩
theorem k_X5_246 : LkV RX5 246 mX5_gets 3 := ⟨⟨b_ml_X5_246, b_inm_yX5_gets, b_se_yX5_gets, b_in_X5, b_co_yX5_gets⟩, by decide +kernel, by decide +kernel, by decide +kernel⟩
theorem k_X5_261 : LkV RX5 261 mX5_lay 2 := ⟨⟨b_ml_X5_261, b_inm_yX5_lay, b_se_yX5_lay, b_in_X5, b_co_yX5_lay⟩, by decide +kernel, by decide +kernel, by decide +kernel⟩
theorem k_X5_279 : LkV RX5 279 mX5_countOf 1 := ⟨⟨b_ml_X5_279, b_inm_yX5_countOf, b_se_yX5_countOf, b_in_X5, b_co_yX5_countOf⟩, by decide +kernel, by decide +kernel, by decide +kernel⟩
theorem k_X5_276 : LkS RX5 276 mX5_bits 1 := ⟨⟨b_ml_X5_276, b_stm_yX5_bits, b_in_X5, b_co_yX5_bits⟩, by decide +kernel, by decide +kernel, by decide +kernel⟩
theorem k_X5_289 : LkV RX5 289 mX5_mix 1 := ⟨⟨b_ml_X5_289, b_inm_yX5_mix, b_se_yX5_mix, b_in_X5, b_co_yX5_mix⟩, by decide +kernel, by decide +kernel, by decide +kernel⟩
end
section
theorem pf1_2 : pf1 2 0 .int := ⟨rfl, by decide, rfl, by decide +kernel⟩
theorem pf1_3 : pf1 3 0 .int := ⟨rfl, by decide, rfl, by decide +kernel⟩
theorem pf1_4 : pf1 4 0 .int := ⟨rfl, by decide, rfl, by decide +kernel⟩
theorem pf1_5 : pf1 5 0 .int := ⟨rfl, by decide, rfl, by decide +kernel⟩
theorem pf2_1 : pf2 1 0 .int := ⟨rfl, by decide, rfl, by decide +kernel⟩
theorem pf3_0 : pf3 0 0 .int := ⟨rfl, by decide, rfl, by decide +kernel⟩
theorem pf3_1 : pf3 1 0 .int := ⟨rfl, by decide, rfl, by decide +kernel⟩
theorem pf3_2 : pf3 2 0 .int := ⟨rfl, by decide, rfl, by decide +kernel⟩
theorem pf3_3 : pf3 3 0 .int := ⟨rfl, by decide, rfl, by decide +kernel⟩
theorem pf3_4 : pf3 4 0 .int := ⟨rfl, by decide, rfl, by decide +kernel⟩
theorem pf3_5 : pf3 5 0 .int := ⟨rfl, by decide, rfl, by decide +kernel⟩
theorem pf4_4 : pf4 4 0 .int := ⟨rfl, by decide, rfl, by decide +kernel⟩
theorem pf4_5 : pf4 5 0 .int := ⟨rfl, by decide, rfl, by decide +kernel⟩
theorem pf4_6 : pf4 6 0 .int := ⟨rfl, by decide, rfl, by decide +kernel⟩
theorem pf4_7 : pf4 7 0 .int := ⟨rfl, by decide, rfl, by decide +kernel⟩
theorem pf4_8 : pf4 8 0 .int := ⟨rfl, by decide, rfl, by decide +kernel⟩
theorem pf5_1 : pf5 1 0 .int := ⟨rfl, by decide, rfl, by decide +kernel⟩
theorem pf5_2 : pf5 2 0 .int := ⟨rfl, by decide, rfl, by decide +kernel⟩
theorem pf5_3 : pf5 3 0 .int := ⟨rfl, by decide, rfl, by decide +kernel⟩
theorem pf5_4 : pf5 4 0 .int := ⟨rfl, by decide, rfl, by decide +kernel⟩
theorem pf5_5 : pf5 5 0 .int := ⟨rfl, by decide, rfl, by decide +kernel⟩
theorem pf5_18 : pf5 18 0 .int := ⟨rfl, by decide, rfl, by decide +kernel⟩
theorem pf5_19 : pf5 19 0 .int := ⟨rfl, by decide, rfl, by decide +kernel⟩
theorem pf5_20 : pf5 20 0 .int := ⟨rfl, by decide, rfl, by decide +kernel⟩
theorem pf5_21 : pf5 21 0 .int := ⟨rfl, by decide, rfl, by decide +kernel⟩
theorem pf5_22 : pf5 22 0 .int := ⟨rfl, by decide, rfl, by decide +kernel⟩
theorem pf5_25 : pf5 25 0 .int := ⟨rfl, by decide, rfl, by decide +kernel⟩
theorem pf5_27 : pf5 27 0 .int := ⟨rfl, by decide, rfl, by decide +kernel⟩
theorem pf5_29 : pf5 29 1 .long := ⟨rfl, by decide, rfl, by decide +kernel⟩
theorem pf5_30 : pf5 30 1 .long := ⟨rfl, by decide, rfl, by decide +kernel⟩
theorem pf5_33 : pf5 33 1 .long := ⟨rfl, by decide, rfl, by decide +kernel⟩
/-- a village stands at v, its rows behind it -/
def VL (w : WG) (v : Nat) : Prop := (gK w)[v]? = some (2, 0) ∧ (gK w)[v + 1]? = some (6, 4) ∧ (gK w)[v + 2]? = some (6, 4) ∧ (gK w)[v + 3]? = some (6, 4) ∧ (gK w)[v + 4]? = some (6, 7) ∧ (gK w)[v + 5]? = some (6, 7) ∧ (gK w)[v + 6]? = some (6, 7) ∧ (gK w)[v + 7]? = some (6, 7) ∧ (gK w)[v + 8]? = some (6, 24) ∧ (gK w)[v + 9]? = some (6, 80) ∧ gP w v 6 = some (gA w (v + 1)) ∧ gP w v 7 = some (gA w (v + 2)) ∧ gP w v 8 = some (gA w (v + 3)) ∧ gP w v 9 = some (gA w (v + 4)) ∧ gP w v 10 = some (gA w (v + 5)) ∧ gP w v 11 = some (gA w (v + 6)) ∧ gP w v 12 = some (gA w (v + 7)) ∧ gP w v 13 = some (gA w (v + 8)) ∧ gP w v 14 = some (gA w (v + 9))
theorem VL.k0 {w : WG} {v : Nat} (h : VL w v) : (gK w)[v]? = some (2, 0) := h.1
theorem VL.k1 {w : WG} {v : Nat} (h : VL w v) : (gK w)[v + 1]? = some (6, 4) := h.2.1
theorem VL.k2 {w : WG} {v : Nat} (h : VL w v) : (gK w)[v + 2]? = some (6, 4) := h.2.2.1
theorem VL.k3 {w : WG} {v : Nat} (h : VL w v) : (gK w)[v + 3]? = some (6, 4) := h.2.2.2.1
theorem VL.k4 {w : WG} {v : Nat} (h : VL w v) : (gK w)[v + 4]? = some (6, 7) := h.2.2.2.2.1
theorem VL.k5 {w : WG} {v : Nat} (h : VL w v) : (gK w)[v + 5]? = some (6, 7) := h.2.2.2.2.2.1
theorem VL.k6 {w : WG} {v : Nat} (h : VL w v) : (gK w)[v + 6]? = some (6, 7) := h.2.2.2.2.2.2.1
theorem VL.k7 {w : WG} {v : Nat} (h : VL w v) : (gK w)[v + 7]? = some (6, 7) := h.2.2.2.2.2.2.2.1
theorem VL.k8 {w : WG} {v : Nat} (h : VL w v) : (gK w)[v + 8]? = some (6, 24) := h.2.2.2.2.2.2.2.2.1
theorem VL.k9 {w : WG} {v : Nat} (h : VL w v) : (gK w)[v + 9]? = some (6, 80) := h.2.2.2.2.2.2.2.2.2.1
theorem VL.p6 {w : WG} {v : Nat} (h : VL w v) : gP w v 6 = some (gA w (v + 1)) := h.2.2.2.2.2.2.2.2.2.2.1
theorem VL.p7 {w : WG} {v : Nat} (h : VL w v) : gP w v 7 = some (gA w (v + 2)) := h.2.2.2.2.2.2.2.2.2.2.2.1
theorem VL.p8 {w : WG} {v : Nat} (h : VL w v) : gP w v 8 = some (gA w (v + 3)) := h.2.2.2.2.2.2.2.2.2.2.2.2.1
theorem VL.p9 {w : WG} {v : Nat} (h : VL w v) : gP w v 9 = some (gA w (v + 4)) := h.2.2.2.2.2.2.2.2.2.2.2.2.2.1
theorem VL.p10 {w : WG} {v : Nat} (h : VL w v) : gP w v 10 = some (gA w (v + 5)) := h.2.2.2.2.2.2.2.2.2.2.2.2.2.2.1
theorem VL.p11 {w : WG} {v : Nat} (h : VL w v) : gP w v 11 = some (gA w (v + 6)) := h.2.2.2.2.2.2.2.2.2.2.2.2.2.2.2.1
theorem VL.p12 {w : WG} {v : Nat} (h : VL w v) : gP w v 12 = some (gA w (v + 7)) := h.2.2.2.2.2.2.2.2.2.2.2.2.2.2.2.2.1
theorem VL.p13 {w : WG} {v : Nat} (h : VL w v) : gP w v 13 = some (gA w (v + 8)) := h.2.2.2.2.2.2.2.2.2.2.2.2.2.2.2.2.2.1
theorem VL.p14 {w : WG} {v : Nat} (h : VL w v) : gP w v 14 = some (gA w (v + 9)) := h.2.2.2.2.2.2.2.2.2.2.2.2.2.2.2.2.2.2
/-- a text stands at t -/
def TL (w : WG) (t : Nat) : Prop := (gK w)[t]? = some (1, 0) ∧ (gK w)[t + 1]? = some (5, 150) ∧ gP w t 0 = some (gA w (t + 1))
theorem TL.k0 {w : WG} {t : Nat} (h : TL w t) : (gK w)[t]? = some (1, 0) := h.1
theorem TL.k1 {w : WG} {t : Nat} (h : TL w t) : (gK w)[t + 1]? = some (5, 150) := h.2.1
theorem TL.p0 {w : WG} {t : Nat} (h : TL w t) : gP w t 0 = some (gA w (t + 1)) := h.2.2
/-- the class stands at 0 -/
def XL (w : WG) : Prop := (gK w)[0]? = some (3, 0) ∧ VL w 1 ∧ VL w 11 ∧ (gK w)[21]? = some (7, 2) ∧ TL w 22 ∧ (gK w)[24]? = some (6, 4) ∧ (gK w)[25]? = some (6, 64) ∧ (gK w)[26]? = some (6, 64) ∧ gP w 0 0 = some (gA w 1) ∧ gP w 0 1 = some (gA w 11) ∧ gP w 0 2 = some (gA w 21) ∧ gP w 0 3 = some (gA w 22) ∧ gP w 0 9 = some (gA w 24) ∧ gP w 0 10 = some (gA w 25) ∧ gP w 0 11 = some (gA w 26)
theorem XL.k0 {w : WG} (h : XL w) : (gK w)[0]? = some (3, 0) := h.1
theorem XL.now {w : WG} (h : XL w) : VL w 1 := h.2.1
theorem XL.spare {w : WG} (h : XL w) : VL w 11 := h.2.2.1
theorem XL.k21 {w : WG} (h : XL w) : (gK w)[21]? = some (7, 2) := h.2.2.2.1
theorem XL.text {w : WG} (h : XL w) : TL w 22 := h.2.2.2.2.1
theorem XL.k24 {w : WG} (h : XL w) : (gK w)[24]? = some (6, 4) := h.2.2.2.2.2.1
theorem XL.k25 {w : WG} (h : XL w) : (gK w)[25]? = some (6, 64) := h.2.2.2.2.2.2.1
theorem XL.k26 {w : WG} (h : XL w) : (gK w)[26]? = some (6, 64) := h.2.2.2.2.2.2.2.1
theorem XL.p0 {w : WG} (h : XL w) : gP w 0 0 = some (gA w 1) := h.2.2.2.2.2.2.2.2.1
theorem XL.p1 {w : WG} (h : XL w) : gP w 0 1 = some (gA w 11) := h.2.2.2.2.2.2.2.2.2.1
theorem XL.p2 {w : WG} (h : XL w) : gP w 0 2 = some (gA w 21) := h.2.2.2.2.2.2.2.2.2.2.1
theorem XL.p3 {w : WG} (h : XL w) : gP w 0 3 = some (gA w 22) := h.2.2.2.2.2.2.2.2.2.2.2.1
theorem XL.p9 {w : WG} (h : XL w) : gP w 0 9 = some (gA w 24) := h.2.2.2.2.2.2.2.2.2.2.2.2.1
theorem XL.p10 {w : WG} (h : XL w) : gP w 0 10 = some (gA w 25) := h.2.2.2.2.2.2.2.2.2.2.2.2.2.1
theorem XL.p11 {w : WG} (h : XL w) : gP w 0 11 = some (gA w 26) := h.2.2.2.2.2.2.2.2.2.2.2.2.2.2
/-- a reader stands at r, over the text at t, into the village at v -/
def RL1 (w : WG) (r t v : Nat) : Prop := (gK w)[r]? = some (0, 0) ∧ TL w t ∧ VL w v ∧ gP w r 0 = some (gA w t) ∧ gP w r 1 = some (gA w v)
theorem RL1.k0 {w : WG} {r t v : Nat} (h : RL1 w r t v) : (gK w)[r]? = some (0, 0) := h.1
theorem RL1.text {w : WG} {r t v : Nat} (h : RL1 w r t v) : TL w t := h.2.1
theorem RL1.into {w : WG} {r t v : Nat} (h : RL1 w r t v) : VL w v := h.2.2.1
theorem RL1.p0 {w : WG} {r t v : Nat} (h : RL1 w r t v) : gP w r 0 = some (gA w t) := h.2.2.2.1
theorem RL1.p1 {w : WG} {r t v : Nat} (h : RL1 w r t v) : gP w r 1 = some (gA w v) := h.2.2.2.2
/-- the model stands at 0 -/
def ML (w : WG) : Prop := (gK w)[0]? = some (4, 0) ∧ (gK w)[1]? = some (6, 3) ∧ (gK w)[2]? = some (6, 4) ∧ (gK w)[3]? = some (6, 4) ∧ (gK w)[4]? = some (6, 4) ∧ (gK w)[5]? = some (6, 7) ∧ (gK w)[6]? = some (6, 7) ∧ (gK w)[7]? = some (6, 7) ∧ (gK w)[8]? = some (6, 7) ∧ (gK w)[9]? = some (6, 6) ∧ (gK w)[10]? = some (6, 6) ∧ (gK w)[11]? = some (6, 6) ∧ (gK w)[12]? = some (6, 6) ∧ (gK w)[13]? = some (6, 150) ∧ (gK w)[14]? = some (6, 8) ∧ (gK w)[15]? = some (6, 28) ∧ (gK w)[16]? = some (6, 80) ∧ (gK w)[17]? = some (6, 10) ∧ (gK w)[18]? = some (6, 300) ∧ (gK w)[19]? = some (6, 2) ∧ gP w 0 0 = some (gA w 1) ∧ gP w 0 6 = some (gA w 2) ∧ gP w 0 7 = some (gA w 3) ∧ gP w 0 8 = some (gA w 4) ∧ gP w 0 9 = some (gA w 5) ∧ gP w 0 10 = some (gA w 6) ∧ gP w 0 11 = some (gA w 7) ∧ gP w 0 12 = some (gA w 8) ∧ gP w 0 13 = some (gA w 9) ∧ gP w 0 14 = some (gA w 10) ∧ gP w 0 15 = some (gA w 11) ∧ gP w 0 16 = some (gA w 12) ∧ gP w 0 17 = some (gA w 13) ∧ gP w 0 23 = some (gA w 14) ∧ gP w 0 24 = some (gA w 15) ∧ gP w 0 26 = some (gA w 16) ∧ gP w 0 28 = some (gA w 17) ∧ gP w 0 31 = some (gA w 18) ∧ gP w 0 32 = some (gA w 19)
theorem ML.k0 {w : WG} (h : ML w) : (gK w)[0]? = some (4, 0) := h.1
theorem ML.k1 {w : WG} (h : ML w) : (gK w)[1]? = some (6, 3) := h.2.1
theorem ML.k2 {w : WG} (h : ML w) : (gK w)[2]? = some (6, 4) := h.2.2.1
theorem ML.k3 {w : WG} (h : ML w) : (gK w)[3]? = some (6, 4) := h.2.2.2.1
theorem ML.k4 {w : WG} (h : ML w) : (gK w)[4]? = some (6, 4) := h.2.2.2.2.1
theorem ML.k5 {w : WG} (h : ML w) : (gK w)[5]? = some (6, 7) := h.2.2.2.2.2.1
theorem ML.k6 {w : WG} (h : ML w) : (gK w)[6]? = some (6, 7) := h.2.2.2.2.2.2.1
theorem ML.k7 {w : WG} (h : ML w) : (gK w)[7]? = some (6, 7) := h.2.2.2.2.2.2.2.1
theorem ML.k8 {w : WG} (h : ML w) : (gK w)[8]? = some (6, 7) := h.2.2.2.2.2.2.2.2.1
theorem ML.k9 {w : WG} (h : ML w) : (gK w)[9]? = some (6, 6) := h.2.2.2.2.2.2.2.2.2.1
theorem ML.k10 {w : WG} (h : ML w) : (gK w)[10]? = some (6, 6) := h.2.2.2.2.2.2.2.2.2.2.1
theorem ML.k11 {w : WG} (h : ML w) : (gK w)[11]? = some (6, 6) := h.2.2.2.2.2.2.2.2.2.2.2.1
theorem ML.k12 {w : WG} (h : ML w) : (gK w)[12]? = some (6, 6) := h.2.2.2.2.2.2.2.2.2.2.2.2.1
theorem ML.k13 {w : WG} (h : ML w) : (gK w)[13]? = some (6, 150) := h.2.2.2.2.2.2.2.2.2.2.2.2.2.1
theorem ML.k14 {w : WG} (h : ML w) : (gK w)[14]? = some (6, 8) := h.2.2.2.2.2.2.2.2.2.2.2.2.2.2.1
theorem ML.k15 {w : WG} (h : ML w) : (gK w)[15]? = some (6, 28) := h.2.2.2.2.2.2.2.2.2.2.2.2.2.2.2.1
theorem ML.k16 {w : WG} (h : ML w) : (gK w)[16]? = some (6, 80) := h.2.2.2.2.2.2.2.2.2.2.2.2.2.2.2.2.1
theorem ML.k17 {w : WG} (h : ML w) : (gK w)[17]? = some (6, 10) := h.2.2.2.2.2.2.2.2.2.2.2.2.2.2.2.2.2.1
theorem ML.k18 {w : WG} (h : ML w) : (gK w)[18]? = some (6, 300) := h.2.2.2.2.2.2.2.2.2.2.2.2.2.2.2.2.2.2.1
theorem ML.k19 {w : WG} (h : ML w) : (gK w)[19]? = some (6, 2) := h.2.2.2.2.2.2.2.2.2.2.2.2.2.2.2.2.2.2.2.1
theorem ML.q1 {w : WG} (h : ML w) : gP w 0 0 = some (gA w 1) := h.2.2.2.2.2.2.2.2.2.2.2.2.2.2.2.2.2.2.2.2.1
theorem ML.q2 {w : WG} (h : ML w) : gP w 0 6 = some (gA w 2) := h.2.2.2.2.2.2.2.2.2.2.2.2.2.2.2.2.2.2.2.2.2.1
theorem ML.q3 {w : WG} (h : ML w) : gP w 0 7 = some (gA w 3) := h.2.2.2.2.2.2.2.2.2.2.2.2.2.2.2.2.2.2.2.2.2.2.1
theorem ML.q4 {w : WG} (h : ML w) : gP w 0 8 = some (gA w 4) := h.2.2.2.2.2.2.2.2.2.2.2.2.2.2.2.2.2.2.2.2.2.2.2.1
theorem ML.q5 {w : WG} (h : ML w) : gP w 0 9 = some (gA w 5) := h.2.2.2.2.2.2.2.2.2.2.2.2.2.2.2.2.2.2.2.2.2.2.2.2.1
theorem ML.q6 {w : WG} (h : ML w) : gP w 0 10 = some (gA w 6) := h.2.2.2.2.2.2.2.2.2.2.2.2.2.2.2.2.2.2.2.2.2.2.2.2.2.1
theorem ML.q7 {w : WG} (h : ML w) : gP w 0 11 = some (gA w 7) := h.2.2.2.2.2.2.2.2.2.2.2.2.2.2.2.2.2.2.2.2.2.2.2.2.2.2.1
theorem ML.q8 {w : WG} (h : ML w) : gP w 0 12 = some (gA w 8) := h.2.2.2.2.2.2.2.2.2.2.2.2.2.2.2.2.2.2.2.2.2.2.2.2.2.2.2.1
theorem ML.q9 {w : WG} (h : ML w) : gP w 0 13 = some (gA w 9) := h.2.2.2.2.2.2.2.2.2.2.2.2.2.2.2.2.2.2.2.2.2.2.2.2.2.2.2.2.1
theorem ML.q10 {w : WG} (h : ML w) : gP w 0 14 = some (gA w 10) := h.2.2.2.2.2.2.2.2.2.2.2.2.2.2.2.2.2.2.2.2.2.2.2.2.2.2.2.2.2.1
theorem ML.q11 {w : WG} (h : ML w) : gP w 0 15 = some (gA w 11) := h.2.2.2.2.2.2.2.2.2.2.2.2.2.2.2.2.2.2.2.2.2.2.2.2.2.2.2.2.2.2.1
theorem ML.q12 {w : WG} (h : ML w) : gP w 0 16 = some (gA w 12) := h.2.2.2.2.2.2.2.2.2.2.2.2.2.2.2.2.2.2.2.2.2.2.2.2.2.2.2.2.2.2.2.1
theorem ML.q13 {w : WG} (h : ML w) : gP w 0 17 = some (gA w 13) := h.2.2.2.2.2.2.2.2.2.2.2.2.2.2.2.2.2.2.2.2.2.2.2.2.2.2.2.2.2.2.2.2.1
theorem ML.q14 {w : WG} (h : ML w) : gP w 0 23 = some (gA w 14) := h.2.2.2.2.2.2.2.2.2.2.2.2.2.2.2.2.2.2.2.2.2.2.2.2.2.2.2.2.2.2.2.2.2.1
theorem ML.q15 {w : WG} (h : ML w) : gP w 0 24 = some (gA w 15) := h.2.2.2.2.2.2.2.2.2.2.2.2.2.2.2.2.2.2.2.2.2.2.2.2.2.2.2.2.2.2.2.2.2.2.1
theorem ML.q16 {w : WG} (h : ML w) : gP w 0 26 = some (gA w 16) := h.2.2.2.2.2.2.2.2.2.2.2.2.2.2.2.2.2.2.2.2.2.2.2.2.2.2.2.2.2.2.2.2.2.2.2.1
theorem ML.q17 {w : WG} (h : ML w) : gP w 0 28 = some (gA w 17) := h.2.2.2.2.2.2.2.2.2.2.2.2.2.2.2.2.2.2.2.2.2.2.2.2.2.2.2.2.2.2.2.2.2.2.2.2.1
theorem ML.q18 {w : WG} (h : ML w) : gP w 0 31 = some (gA w 18) := h.2.2.2.2.2.2.2.2.2.2.2.2.2.2.2.2.2.2.2.2.2.2.2.2.2.2.2.2.2.2.2.2.2.2.2.2.2.1
theorem ML.q19 {w : WG} (h : ML w) : gP w 0 32 = some (gA w 19) := h.2.2.2.2.2.2.2.2.2.2.2.2.2.2.2.2.2.2.2.2.2.2.2.2.2.2.2.2.2.2.2.2.2.2.2.2.2.2
theorem tab_out {x : Int32} {lo hi : Int} (h : ∀ j : Int, lo ≤ j → j ≤ hi → x ≠ Int32.ofInt j) : x.toInt < lo ∨ hi < x.toInt := by
  by_cases h1 : x.toInt < lo
  · exact Or.inl h1
  · by_cases h2 : hi < x.toInt
    · exact Or.inr h2
    · exact absurd (Int32.ofInt_toInt x).symm (h x.toInt (by omega) (by omega))
theorem G.eqI {X : CT} {w : WG} {M : MD} {I I' : SI} {L : SL} {pc : Nat} {f : LV} {st : List Value} (h : I = I') (k : G X w M I' L pc f st) : G X w M I L pc f st := h ▸ k
/-! PURE: bits, what the kinds do -/
def b01 (p : Prop) [Decidable p] : Int32 := if p then 1 else 0
def btI (x : Int32) (i : Nat) : Bool := x.toBitVec.getLsbD i
theorem btI_or (x y : Int32) (i : Nat) : btI (x ||| y) i = (btI x i || btI y i) := by unfold btI; rw [Int32.toBitVec_or, BitVec.getLsbD_or]
theorem btI_and (x y : Int32) (i : Nat) : btI (x &&& y) i = (btI x i && btI y i) := by unfold btI; rw [Int32.toBitVec_and, BitVec.getLsbD_and]
theorem btI_0 (i : Nat) : btI 0 i = false := BitVec.getLsbD_zero
theorem btI_ext {x y : Int32} (h : ∀ i, i < 32 → btI x i = btI y i) : x = y := Int32.toBitVec_inj.mp (BitVec.eq_of_getLsbD_eq (fun i hi => h i hi))
theorem btI_one : ∀ a, a < 31 → ∀ i, i < 32 → btI ((1 : Int32) <<< (nI a &&& 31)) i = decide (a = i) := by decide +kernel
/-- what a kind does to one that is, or isn't, its favourite, in such boots -/
def wbF (k f b : Int32) : Int32 := if k = 2 ∨ k = 4 then (if f = 0 then 1 else 0) else if k = 3 then (if b < 8 then 1 else 0) else if k = 5 then (if b < 5 then 1 else 0) else (if f = 0 ∧ b < 8 then 1 else 0)
/-- how many bites -/
def nbF (k : Int32) : Int32 := if k = 3 ∨ k = 5 then 3 else if k = 4 then 1 else 2
/-- how wide -/
def wdF (k x : Int32) : Int32 := if k = 1 then 0 else if k = 2 ∨ k = 4 then 2 * x else if k = 5 then x + 1 else x
/-- the bit k of a set -/
def inF (s k : Int32) : Int32 := if (s >>> (k &&& 31)) &&& 1 = 1 then 1 else 0
/-! what a village does, by its rows: K kinds, W weights, F favourites, B boots -/
theorem loop_up {P : Nat → Prop} {n : Nat} (h : ∀ k, k ≤ n → (k < n → P (k + 1)) → P k) : ∀ k, k ≤ n → P k := by
  intro k hk
  have key : ∀ m k, k + m = n → P k := by
    intro m
    induction m with
    | zero => intro k e; exact h k (by omega) (fun q => absurd q (by omega))
    | succ m ih => intro k e; exact h k (by omega) (fun _ => ih (k + 1) (by omega))
  exact key (n - k) k (by omega)
theorem vI {a b : Int32} (h : a = b) : some (Value.int a) = some (Value.int b) := by rw [h]
theorem vL {a b : Int64} (h : a = b) : some (Value.long a) = some (Value.long b) := by rw [h]
theorem rS_rS {α : Type} (I : Nat → α) (o : Nat) (f g : α) : rS (rS I o f) o g = rS I o g := by
  funext q; by_cases h : q = o <;> simp [rS, h]
theorem rS_self {α : Type} (I : Nat → α) (o : Nat) : rS I o (I o) = I := by
  funext q; by_cases h : q = o <;> simp [rS, h]
theorem nle {a b : Nat} (h : nI a ≤ nI b) (ha : a < 2 ^ 31) (hb : b < 2 ^ 31) : a ≤ b := (nI_leI ha hb).mp h
theorem nlt {a b : Nat} (h : nI a < nI b) (ha : a < 2 ^ 31) (hb : b < 2 ^ 31) : a < b := (nI_ltI ha hb).mp h
theorem nnle {a b : Nat} (h : ¬ nI a ≤ nI b) (ha : a < 2 ^ 31) (hb : b < 2 ^ 31) : b < a := by
  have := mt (nI_leI ha hb).mpr h; omega
theorem nnlt {a b : Nat} (h : ¬ nI a < nI b) (ha : a < 2 ^ 31) (hb : b < 2 ^ 31) : b ≤ a := by
  have := mt (nI_ltI ha hb).mpr h; omega
def stF (n r : Nat) : Nat := if n = 0 then 0 else r % n
def hgF (h : Nat → Int32) (s : Int32) : Nat → Int32
  | 0 => 0
  | k + 1 => if inF s (nI k) = 0 then hgF h s k else hgF h s k + h k
def bbS (K F : Int32) (B : Nat → Int32) (n a : Nat) : Nat → Int32 × Int32
  | 0 => (0, nbF K)
  | i + 1 => if 0 < (bbS K F B n a i).2 ∧ wbF K (b01 (F = nI ((a + i) % n))) (B ((a + i) % n)) ≠ 0 then ((bbS K F B n a i).1 ||| ((1 : Int32) <<< (nI ((a + i) % n) &&& 31)), (bbS K F B n a i).2 + (-1)) else bbS K F B n a i
def bbR (K F B : Nat → Int32) (n k a : Nat) : Int32 := (bbS (K k) (F k) B n a n).1
theorem bbS_yes {K F : Int32} {B : Nat → Int32} {n a i : Nat} (h1 : ¬ (bbS K F B n a i).2 ≤ 0) (h2 : wbF K (b01 (F = nI ((a + i) % n))) (B ((a + i) % n)) ≠ 0) : bbS K F B n a (i + 1) = ((bbS K F B n a i).1 ||| ((1 : Int32) <<< (nI ((a + i) % n) &&& 31)), (bbS K F B n a i).2 + (-1)) := by
  rw [bbS, if_pos ⟨Int32.not_le.mp h1, h2⟩]
theorem bbS_no {K F : Int32} {B : Nat → Int32} {n a i : Nat} (h2 : wbF K (b01 (F = nI ((a + i) % n))) (B ((a + i) % n)) = 0) : bbS K F B n a (i + 1) = bbS K F B n a i := by
  rw [bbS, if_neg (fun q => q.2 h2)]
theorem bbS_done {K F : Int32} {B : Nat → Int32} {n a i : Nat} (h : ¬ 0 < (bbS K F B n a i).2) : ∀ m, bbS K F B n a (i + m) = bbS K F B n a i := by
  intro m
  induction m with
  | zero => rfl
  | succ m ih =>
    show bbS K F B n a ((i + m) + 1) = _
    rw [bbS, ih, if_neg (fun q => h q.1)]
def wtR (K W F B : Nat → Int32) (n a : Nat) (c s : Int32) : Nat → Int32
  | 0 => 0
  | k + 1 => wtR K W F B n a c s k + (if inF s (nI k) = 0 ∧ inF (bbR K F B n k a) c ≠ 0 then wdF (K k) (W k) else 0)
def bsR (K F B : Nat → Int32) (n a : Nat) (c s : Int32) : Nat → Int32
  | 0 => 0
  | k + 1 => if inF s (nI k) = 0 ∧ inF (bbR K F B n k a) c ≠ 0 then bsR K F B n a c s k ||| ((1 : Int32) <<< (nI k &&& 31)) else bsR K F B n a c s k
/-- a row of holes behind k dogs of a round -/
def rdR (K W F B : Nat → Int32) (n a : Nat) (s : Int32) (h : Nat → Int32) (k : Nat) : Nat → Int32 := fun c => if c < n then h c + wtR K W F B n a (nI c) s k else h c
theorem rdR_0 (K W F B : Nat → Int32) (n a : Nat) (s : Int32) (h : Nat → Int32) : rdR K W F B n a s h 0 = h := by
  funext c; simp [rdR, wtR]
theorem inF_01 (s k : Int32) : inF s k = 0 ∨ inF s k = 1 := by
  unfold inF; split
  · exact Or.inr rfl
  · exact Or.inl rfl
/-! a village's rows as one value -/
abbrev VS : Type := Nat → Nat → Int32
def vx (I : SI) (v : Nat) : VS := fun j => I (v + j)
def wV (I : SI) (v : Nat) (V : VS) : SI := fun q => if v ≤ q ∧ q < v + 10 then V (q - v) else I q
theorem wV_at (I : SI) (v : Nat) (V : VS) {j : Nat} (h : j < 10) : wV I v V (v + j) = V j := by
  simp [wV, h]
theorem wV_0 (I : SI) (v : Nat) (V : VS) : wV I v V v = V 0 := by
  simp [wV]
theorem wV_out (I : SI) (v : Nat) (V : VS) {q : Nat} (h : q < v ∨ v + 10 ≤ q) : wV I v V q = I q := by
  unfold wV; rw [if_neg]; omega
theorem wV_id (I : SI) (v : Nat) : wV I v (vx I v) = I := by
  funext q; unfold wV vx; split
  · rw [show v + (q - v) = q by omega]
  · rfl
theorem wV_rS (I : SI) (v : Nat) (V : VS) {j : Nat} (f : Nat → Int32) (h : j < 10) : rS (wV I v V) (v + j) f = wV I v (rS V j f) := by
  funext q
  by_cases hq : q = v + j
  · subst hq
    rw [rS_eq, wV_at _ _ _ h, rS_eq]
  · rw [rS_ne _ _ _ hq]
    unfold wV; split
    · rw [rS_ne]; omega
    · rfl
theorem wV_rS0 (I : SI) (v : Nat) (V : VS) (f : Nat → Int32) : rS (wV I v V) v f = wV I v (rS V 0 f) := wV_rS I v V f (j := 0) (by decide)
theorem wV_wV (I : SI) (v : Nat) (V V' : VS) : wV (wV I v V) v V' = wV I v V' := by
  funext q; unfold wV; split <;> rfl
theorem vx_wV (I : SI) (v : Nat) (V : VS) {j : Nat} (h : j < 10) : vx (wV I v V) v j = V j := wV_at I v V h
/-- the contract of a method that changes one village -/
def Vd (I : SI) (v : Nat) (V : VS) (L : SL) (r : Option Value) : QT := fun r' I' L' => r' = r ∧ I' = wV I v V ∧ L' = L
def putV (V : VS) (c k : Nat) : VS := rS (rS V 0 (upd (V 0) 2 (V 0 2 ||| ((1 : Int32) <<< (nI k &&& 31))))) 2 (upd (V 2) c (V 2 c - V 6 k))
def emV (V : VS) : VS := rS V 0 (upd (upd (upd (upd (upd (upd (V 0) 0 0) 1 0) 2 0) 3 0) 4 0) 5 0)
def manV (V : VS) (n : Nat) (b h : Int32) : VS := rS (rS (rS (rS V 1 (upd (V 1) n b)) 2 (upd (V 2) n h)) 3 (upd (V 3) n 0)) 0 (upd (upd (V 0) 5 0) 0 (nI n + 1))
def dogV (V : VS) (d : Nat) (k x h f : Int32) : VS := rS (rS (rS (rS (rS V 4 (upd (V 4) d k)) 5 (upd (V 5) d x)) 6 (upd (V 6) d h)) 7 (upd (V 7) d f)) 0 (upd (upd (V 0) 5 0) 1 (nI d + 1))
def noteV (V : VS) (q : Nat) (k f b t : Int32) : VS := rS (rS V 8 (upd (upd (upd (upd (V 8) (q * 4) k) (q * 4 + 1) f) (q * 4 + 2) b) (q * 4 + 3) t)) 0 (upd (V 0) 4 (nI q + 1))
/-- one past more, at place p -/
def kpR (V : VS) (r : Nat → Int32) (p : Nat) : Nat → Int32 := upd (upd (va_cpy (V 3) (va_cpy (V 2) r 0 (p * 10) 4) 0 (p * 10 + 4) 4) (p * 10 + 8) (V 0 2)) (p * 10 + 9) (V 0 3)
def keepV (V : VS) (p : Nat) : VS := if p < 8 then rS (rS V 9 (kpR V (V 9) p)) 0 (upd (V 0) 5 (nI p + 1)) else rS (rS V 9 (kpR V (va_cpy (V 9) (V 9) 10 0 70) 7)) 0 (upd (upd (V 0) 5 7) 5 (nI 7 + 1))
/-- back by one past; p is left -/
def backV (V : VS) (p : Nat) : VS := rS (rS (rS V 2 (va_cpy (V 9) (V 2) (p * 10) 0 4)) 3 (va_cpy (V 9) (V 3) (p * 10 + 4) 0 4)) 0 (upd (upd (upd (V 0) 5 (nI p)) 2 (V 9 (p * 10 + 8))) 3 (V 9 (p * 10 + 9)))
def takeR (S V : VS) : VS := fun j => match j with
  | 0 => upd (upd (upd (upd (upd (upd (V 0) 0 (S 0 0)) 1 (S 0 1)) 2 (S 0 2)) 3 (S 0 3)) 4 (S 0 4)) 5 (S 0 5)
  | 1 => va_cpy (S 1) (V 1) 0 0 4
  | 2 => va_cpy (S 2) (V 2) 0 0 4
  | 3 => va_cpy (S 3) (V 3) 0 0 4
  | 4 => va_cpy (S 4) (V 4) 0 0 7
  | 5 => va_cpy (S 5) (V 5) 0 0 7
  | 6 => va_cpy (S 6) (V 6) 0 0 7
  | 7 => va_cpy (S 7) (V 7) 0 0 7
  | 8 => va_cpy (S 8) (V 8) 0 0 24
  | 9 => va_cpy (S 9) (V 9) 0 0 80
  | _ => V j
end
section
set_option maxHeartbeats 4000000 in
set_option maxRecDepth 100000 in
theorem ok_wouldBite {w : WG} {I : SI} {L : SL} (k f b : Int32) : Ok w mX0_wouldBite [.int k, .int f, .int b] I L (Pr (.int (wbF k f b)) I L) := by
  refine Ok.of (by decide) (Nat.le_of_ble_eq_true rfl) (fun X hX => ?_)
  refine g_iload_n hX dX0_wouldBite_0 rfl rfl ?_
  by_cases s_1_2 : k = 2
  · refine g_tabIn (tgt := 32) hX dX0_wouldBite_1 (by rw [s_1_2]; decide) (by rw [s_1_2]; decide) (by rw [s_1_2]; rfl) (by decide) ?_
    refine g_iload_n hX dX0_wouldBite_32 rfl rfl ?_
    refine g_if_ne (tgt := 40) hX dX0_wouldBite_33 (by decide) (fun c_33 => ?_) (fun c_33 => ?_)
    · refine g_iconst (v := 0) hX dX0_wouldBite_40 (by decide) ?_
      exact g_zret hX dX0_wouldBite_41 rfl rfl (⟨by simp_all [wbF, Int32.not_le, Int32.not_lt], rfl, rfl⟩)
    · refine g_iconst (v := 1) hX dX0_wouldBite_36 (by decide) ?_
      refine g_goto (tgt := 41) hX dX0_wouldBite_37 (by decide) ?_
      exact g_zret hX dX0_wouldBite_41 rfl rfl (⟨by simp_all [wbF, Int32.not_le, Int32.not_lt], rfl, rfl⟩)
  by_cases s_1_3 : k = 3
  · refine g_tabIn (tgt := 42) hX dX0_wouldBite_1 (by rw [s_1_3]; decide) (by rw [s_1_3]; decide) (by rw [s_1_3]; rfl) (by decide) ?_
    refine g_iload_n hX dX0_wouldBite_42 rfl rfl ?_
    refine g_bipush (v := 8) hX dX0_wouldBite_43 (by decide) ?_
    refine g_icmp_ge (tgt := 52) hX dX0_wouldBite_45 (by decide) (fun c_45 => ?_) (fun c_45 => ?_)
    · refine g_iconst (v := 0) hX dX0_wouldBite_52 (by decide) ?_
      exact g_zret hX dX0_wouldBite_53 rfl rfl (⟨by simp_all [wbF, Int32.not_le, Int32.not_lt], rfl, rfl⟩)
    · refine g_iconst (v := 1) hX dX0_wouldBite_48 (by decide) ?_
      refine g_goto (tgt := 53) hX dX0_wouldBite_49 (by decide) ?_
      exact g_zret hX dX0_wouldBite_53 rfl rfl (⟨by simp_all [wbF, Int32.not_le, Int32.not_lt], rfl, rfl⟩)
  by_cases s_1_4 : k = 4
  · refine g_tabIn (tgt := 32) hX dX0_wouldBite_1 (by rw [s_1_4]; decide) (by rw [s_1_4]; decide) (by rw [s_1_4]; rfl) (by decide) ?_
    refine g_iload_n hX dX0_wouldBite_32 rfl rfl ?_
    refine g_if_ne (tgt := 40) hX dX0_wouldBite_33 (by decide) (fun c_33 => ?_) (fun c_33 => ?_)
    · refine g_iconst (v := 0) hX dX0_wouldBite_40 (by decide) ?_
      exact g_zret hX dX0_wouldBite_41 rfl rfl (⟨by simp_all [wbF, Int32.not_le, Int32.not_lt], rfl, rfl⟩)
    · refine g_iconst (v := 1) hX dX0_wouldBite_36 (by decide) ?_
      refine g_goto (tgt := 41) hX dX0_wouldBite_37 (by decide) ?_
      exact g_zret hX dX0_wouldBite_41 rfl rfl (⟨by simp_all [wbF, Int32.not_le, Int32.not_lt], rfl, rfl⟩)
  by_cases s_1_5 : k = 5
  · refine g_tabIn (tgt := 54) hX dX0_wouldBite_1 (by rw [s_1_5]; decide) (by rw [s_1_5]; decide) (by rw [s_1_5]; rfl) (by decide) ?_
    refine g_iload_n hX dX0_wouldBite_54 rfl rfl ?_
    refine g_iconst (v := 5) hX dX0_wouldBite_55 (by decide) ?_
    refine g_icmp_ge (tgt := 63) hX dX0_wouldBite_56 (by decide) (fun c_56 => ?_) (fun c_56 => ?_)
    · refine g_iconst (v := 0) hX dX0_wouldBite_63 (by decide) ?_
      exact g_zret hX dX0_wouldBite_64 rfl rfl (⟨by simp_all [wbF, Int32.not_le, Int32.not_lt], rfl, rfl⟩)
    · refine g_iconst (v := 1) hX dX0_wouldBite_59 (by decide) ?_
      refine g_goto (tgt := 64) hX dX0_wouldBite_60 (by decide) ?_
      exact g_zret hX dX0_wouldBite_64 rfl rfl (⟨by simp_all [wbF, Int32.not_le, Int32.not_lt], rfl, rfl⟩)
  refine g_tabOut (tgt := 65) hX dX0_wouldBite_1 (tab_out (fun j h1 h2 => by rcases (show j = 2 ∨ j = 3 ∨ j = 4 ∨ j = 5 by omega) with rfl | rfl | rfl | rfl <;> assumption)) (by decide) ?_
  refine g_iload_n hX dX0_wouldBite_65 rfl rfl ?_
  refine g_if_ne (tgt := 79) hX dX0_wouldBite_66 (by decide) (fun c_66 => ?_) (fun c_66 => ?_)
  · refine g_iconst (v := 0) hX dX0_wouldBite_79 (by decide) ?_
    exact g_zret hX dX0_wouldBite_80 rfl rfl (⟨by simp_all [wbF, Int32.not_le, Int32.not_lt], rfl, rfl⟩)
  · refine g_iload_n hX dX0_wouldBite_69 rfl rfl ?_
    refine g_bipush (v := 8) hX dX0_wouldBite_70 (by decide) ?_
    refine g_icmp_ge (tgt := 79) hX dX0_wouldBite_72 (by decide) (fun c_72 => ?_) (fun c_72 => ?_)
    · refine g_iconst (v := 0) hX dX0_wouldBite_79 (by decide) ?_
      exact g_zret hX dX0_wouldBite_80 rfl rfl (⟨by simp_all [wbF, Int32.not_le, Int32.not_lt], rfl, rfl⟩)
    · refine g_iconst (v := 1) hX dX0_wouldBite_75 (by decide) ?_
      refine g_goto (tgt := 80) hX dX0_wouldBite_76 (by decide) ?_
      exact g_zret hX dX0_wouldBite_80 rfl rfl (⟨by simp_all [wbF, Int32.not_le, Int32.not_lt], rfl, rfl⟩)
set_option maxHeartbeats 4000000 in
set_option maxRecDepth 100000 in
theorem ok_bites {w : WG} {I : SI} {L : SL} (k : Int32) : Ok w mX0_bites [.int k] I L (Pr (.int (nbF k)) I L) := by
  refine Ok.of (by decide) (Nat.le_of_ble_eq_true rfl) (fun X hX => ?_)
  refine g_iload_n hX dX0_bites_0 rfl rfl ?_
  by_cases s_1_3 : k = 3
  · refine g_tabIn (tgt := 28) hX dX0_bites_1 (by rw [s_1_3]; decide) (by rw [s_1_3]; decide) (by rw [s_1_3]; rfl) (by decide) ?_
    refine g_iconst (v := 3) hX dX0_bites_28 (by decide) ?_
    exact g_iret hX dX0_bites_29 rfl (⟨by simp_all [nbF, Int32.not_le, Int32.not_lt], rfl, rfl⟩)
  by_cases s_1_4 : k = 4
  · refine g_tabIn (tgt := 30) hX dX0_bites_1 (by rw [s_1_4]; decide) (by rw [s_1_4]; decide) (by rw [s_1_4]; rfl) (by decide) ?_
    refine g_iconst (v := 1) hX dX0_bites_30 (by decide) ?_
    exact g_iret hX dX0_bites_31 rfl (⟨by simp_all [nbF, Int32.not_le, Int32.not_lt], rfl, rfl⟩)
  by_cases s_1_5 : k = 5
  · refine g_tabIn (tgt := 28) hX dX0_bites_1 (by rw [s_1_5]; decide) (by rw [s_1_5]; decide) (by rw [s_1_5]; rfl) (by decide) ?_
    refine g_iconst (v := 3) hX dX0_bites_28 (by decide) ?_
    exact g_iret hX dX0_bites_29 rfl (⟨by simp_all [nbF, Int32.not_le, Int32.not_lt], rfl, rfl⟩)
  refine g_tabOut (tgt := 32) hX dX0_bites_1 (tab_out (fun j h1 h2 => by rcases (show j = 3 ∨ j = 4 ∨ j = 5 by omega) with rfl | rfl | rfl <;> assumption)) (by decide) ?_
  refine g_iconst (v := 2) hX dX0_bites_32 (by decide) ?_
  exact g_iret hX dX0_bites_33 rfl (⟨by simp_all [nbF, Int32.not_le, Int32.not_lt], rfl, rfl⟩)
set_option maxHeartbeats 4000000 in
set_option maxRecDepth 100000 in
theorem ok_width {w : WG} {I : SI} {L : SL} (k x : Int32) : Ok w mX0_width [.int k, .int x] I L (Pr (.int (wdF k x)) I L) := by
  refine Ok.of (by decide) (Nat.le_of_ble_eq_true rfl) (fun X hX => ?_)
  refine g_iload_n hX dX0_width_0 rfl rfl ?_
  by_cases s_1_1 : k = 1
  · refine g_tabIn (tgt := 36) hX dX0_width_1 (by rw [s_1_1]; decide) (by rw [s_1_1]; decide) (by rw [s_1_1]; rfl) (by decide) ?_
    refine g_iconst (v := 0) hX dX0_width_36 (by decide) ?_
    exact g_iret hX dX0_width_37 rfl (⟨by simp_all [wdF, Int32.not_le, Int32.not_lt], rfl, rfl⟩)
  by_cases s_1_2 : k = 2
  · refine g_tabIn (tgt := 38) hX dX0_width_1 (by rw [s_1_2]; decide) (by rw [s_1_2]; decide) (by rw [s_1_2]; rfl) (by decide) ?_
    refine g_iconst (v := 2) hX dX0_width_38 (by decide) ?_
    refine g_iload_n hX dX0_width_39 rfl rfl ?_
    refine g_imul hX dX0_width_40 ?_
    exact g_iret hX dX0_width_41 rfl (⟨by simp_all [wdF, Int32.not_le, Int32.not_lt], rfl, rfl⟩)
  by_cases s_1_3 : k = 3
  · refine g_tabIn (tgt := 46) hX dX0_width_1 (by rw [s_1_3]; decide) (by rw [s_1_3]; decide) (by rw [s_1_3]; rfl) (by decide) ?_
    refine g_iload_n hX dX0_width_46 rfl rfl ?_
    exact g_iret hX dX0_width_47 rfl (⟨by simp_all [wdF, Int32.not_le, Int32.not_lt], rfl, rfl⟩)
  by_cases s_1_4 : k = 4
  · refine g_tabIn (tgt := 38) hX dX0_width_1 (by rw [s_1_4]; decide) (by rw [s_1_4]; decide) (by rw [s_1_4]; rfl) (by decide) ?_
    refine g_iconst (v := 2) hX dX0_width_38 (by decide) ?_
    refine g_iload_n hX dX0_width_39 rfl rfl ?_
    refine g_imul hX dX0_width_40 ?_
    exact g_iret hX dX0_width_41 rfl (⟨by simp_all [wdF, Int32.not_le, Int32.not_lt], rfl, rfl⟩)
  by_cases s_1_5 : k = 5
  · refine g_tabIn (tgt := 42) hX dX0_width_1 (by rw [s_1_5]; decide) (by rw [s_1_5]; decide) (by rw [s_1_5]; rfl) (by decide) ?_
    refine g_iload_n hX dX0_width_42 rfl rfl ?_
    refine g_iconst (v := 1) hX dX0_width_43 (by decide) ?_
    refine g_iadd hX dX0_width_44 ?_
    exact g_iret hX dX0_width_45 rfl (⟨by simp_all [wdF, Int32.not_le, Int32.not_lt], rfl, rfl⟩)
  refine g_tabOut (tgt := 46) hX dX0_width_1 (tab_out (fun j h1 h2 => by rcases (show j = 1 ∨ j = 2 ∨ j = 3 ∨ j = 4 ∨ j = 5 by omega) with rfl | rfl | rfl | rfl | rfl <;> assumption)) (by decide) ?_
  refine g_iload_n hX dX0_width_46 rfl rfl ?_
  exact g_iret hX dX0_width_47 rfl (⟨by simp_all [wdF, Int32.not_le, Int32.not_lt], rfl, rfl⟩)
set_option maxHeartbeats 4000000 in
set_option maxRecDepth 100000 in
theorem ok_isIn {w : WG} {I : SI} {L : SL} (s k : Int32) : Ok w mX3_isIn [.int s, .int k] I L (Pr (.int (inF s k)) I L) := by
  refine Ok.of (by decide) (Nat.le_of_ble_eq_true rfl) (fun X hX => ?_)
  refine g_iload_n hX dX3_isIn_0 rfl rfl ?_
  refine g_iload_n hX dX3_isIn_1 rfl rfl ?_
  refine g_ishr hX dX3_isIn_2 ?_
  refine g_iconst (v := 1) hX dX3_isIn_3 (by decide) ?_
  refine g_iand hX dX3_isIn_4 ?_
  refine g_iconst (v := 1) hX dX3_isIn_5 (by decide) ?_
  refine g_icmp_ne (tgt := 13) hX dX3_isIn_6 (by decide) (fun c_6 => ?_) (fun c_6 => ?_)
  · refine g_iconst (v := 0) hX dX3_isIn_13 (by decide) ?_
    exact g_zret hX dX3_isIn_14 rfl rfl (⟨by simp_all [inF, Int32.not_le, Int32.not_lt], rfl, rfl⟩)
  · refine g_iconst (v := 1) hX dX3_isIn_9 (by decide) ?_
    refine g_goto (tgt := 14) hX dX3_isIn_10 (by decide) ?_
    exact g_zret hX dX3_isIn_14 rfl rfl (⟨by simp_all [inF, Int32.not_le, Int32.not_lt], rfl, rfl⟩)
set_option maxHeartbeats 4000000 in
set_option maxRecDepth 100000 in
theorem ok_bitesBy {w : WG} {I : SI} {L : SL} (k f b : Int32) : Ok w mX5_bitesBy [.int k, .int f, .int b] I L (Pr (.int (wbF k f b)) I L) := by
  refine Ok.of (by decide) (Nat.le_of_ble_eq_true rfl) (fun X hX => ?_)
  refine g_iload_n hX dX5_bitesBy_0 rfl rfl ?_
  by_cases s_1_2 : k = 2
  · refine g_tabIn (tgt := 32) hX dX5_bitesBy_1 (by rw [s_1_2]; decide) (by rw [s_1_2]; decide) (by rw [s_1_2]; rfl) (by decide) ?_
    refine g_iload_n hX dX5_bitesBy_32 rfl rfl ?_
    refine g_if_ne (tgt := 40) hX dX5_bitesBy_33 (by decide) (fun c_33 => ?_) (fun c_33 => ?_)
    · refine g_iconst (v := 0) hX dX5_bitesBy_40 (by decide) ?_
      exact g_zret hX dX5_bitesBy_41 rfl rfl (⟨by simp_all [wbF, Int32.not_le, Int32.not_lt], rfl, rfl⟩)
    · refine g_iconst (v := 1) hX dX5_bitesBy_36 (by decide) ?_
      refine g_goto (tgt := 41) hX dX5_bitesBy_37 (by decide) ?_
      exact g_zret hX dX5_bitesBy_41 rfl rfl (⟨by simp_all [wbF, Int32.not_le, Int32.not_lt], rfl, rfl⟩)
  by_cases s_1_3 : k = 3
  · refine g_tabIn (tgt := 42) hX dX5_bitesBy_1 (by rw [s_1_3]; decide) (by rw [s_1_3]; decide) (by rw [s_1_3]; rfl) (by decide) ?_
    refine g_iload_n hX dX5_bitesBy_42 rfl rfl ?_
    refine g_bipush (v := 8) hX dX5_bitesBy_43 (by decide) ?_
    refine g_icmp_ge (tgt := 52) hX dX5_bitesBy_45 (by decide) (fun c_45 => ?_) (fun c_45 => ?_)
    · refine g_iconst (v := 0) hX dX5_bitesBy_52 (by decide) ?_
      exact g_zret hX dX5_bitesBy_53 rfl rfl (⟨by simp_all [wbF, Int32.not_le, Int32.not_lt], rfl, rfl⟩)
    · refine g_iconst (v := 1) hX dX5_bitesBy_48 (by decide) ?_
      refine g_goto (tgt := 53) hX dX5_bitesBy_49 (by decide) ?_
      exact g_zret hX dX5_bitesBy_53 rfl rfl (⟨by simp_all [wbF, Int32.not_le, Int32.not_lt], rfl, rfl⟩)
  by_cases s_1_4 : k = 4
  · refine g_tabIn (tgt := 54) hX dX5_bitesBy_1 (by rw [s_1_4]; decide) (by rw [s_1_4]; decide) (by rw [s_1_4]; rfl) (by decide) ?_
    refine g_iload_n hX dX5_bitesBy_54 rfl rfl ?_
    refine g_if_ne (tgt := 62) hX dX5_bitesBy_55 (by decide) (fun c_55 => ?_) (fun c_55 => ?_)
    · refine g_iconst (v := 0) hX dX5_bitesBy_62 (by decide) ?_
      exact g_zret hX dX5_bitesBy_63 rfl rfl (⟨by simp_all [wbF, Int32.not_le, Int32.not_lt], rfl, rfl⟩)
    · refine g_iconst (v := 1) hX dX5_bitesBy_58 (by decide) ?_
      refine g_goto (tgt := 63) hX dX5_bitesBy_59 (by decide) ?_
      exact g_zret hX dX5_bitesBy_63 rfl rfl (⟨by simp_all [wbF, Int32.not_le, Int32.not_lt], rfl, rfl⟩)
  by_cases s_1_5 : k = 5
  · refine g_tabIn (tgt := 64) hX dX5_bitesBy_1 (by rw [s_1_5]; decide) (by rw [s_1_5]; decide) (by rw [s_1_5]; rfl) (by decide) ?_
    refine g_iload_n hX dX5_bitesBy_64 rfl rfl ?_
    refine g_iconst (v := 5) hX dX5_bitesBy_65 (by decide) ?_
    refine g_icmp_ge (tgt := 73) hX dX5_bitesBy_66 (by decide) (fun c_66 => ?_) (fun c_66 => ?_)
    · refine g_iconst (v := 0) hX dX5_bitesBy_73 (by decide) ?_
      exact g_zret hX dX5_bitesBy_74 rfl rfl (⟨by simp_all [wbF, Int32.not_le, Int32.not_lt], rfl, rfl⟩)
    · refine g_iconst (v := 1) hX dX5_bitesBy_69 (by decide) ?_
      refine g_goto (tgt := 74) hX dX5_bitesBy_70 (by decide) ?_
      exact g_zret hX dX5_bitesBy_74 rfl rfl (⟨by simp_all [wbF, Int32.not_le, Int32.not_lt], rfl, rfl⟩)
  refine g_tabOut (tgt := 75) hX dX5_bitesBy_1 (tab_out (fun j h1 h2 => by rcases (show j = 2 ∨ j = 3 ∨ j = 4 ∨ j = 5 by omega) with rfl | rfl | rfl | rfl <;> assumption)) (by decide) ?_
  refine g_iload_n hX dX5_bitesBy_75 rfl rfl ?_
  refine g_if_ne (tgt := 89) hX dX5_bitesBy_76 (by decide) (fun c_76 => ?_) (fun c_76 => ?_)
  · refine g_iconst (v := 0) hX dX5_bitesBy_89 (by decide) ?_
    exact g_zret hX dX5_bitesBy_90 rfl rfl (⟨by simp_all [wbF, Int32.not_le, Int32.not_lt], rfl, rfl⟩)
  · refine g_iload_n hX dX5_bitesBy_79 rfl rfl ?_
    refine g_bipush (v := 8) hX dX5_bitesBy_80 (by decide) ?_
    refine g_icmp_ge (tgt := 89) hX dX5_bitesBy_82 (by decide) (fun c_82 => ?_) (fun c_82 => ?_)
    · refine g_iconst (v := 0) hX dX5_bitesBy_89 (by decide) ?_
      exact g_zret hX dX5_bitesBy_90 rfl rfl (⟨by simp_all [wbF, Int32.not_le, Int32.not_lt], rfl, rfl⟩)
    · refine g_iconst (v := 1) hX dX5_bitesBy_85 (by decide) ?_
      refine g_goto (tgt := 90) hX dX5_bitesBy_86 (by decide) ?_
      exact g_zret hX dX5_bitesBy_90 rfl rfl (⟨by simp_all [wbF, Int32.not_le, Int32.not_lt], rfl, rfl⟩)
set_option maxHeartbeats 4000000 in
set_option maxRecDepth 100000 in
theorem ok_bitesMany {w : WG} {I : SI} {L : SL} (k : Int32) : Ok w mX5_bitesMany [.int k] I L (Pr (.int (nbF k)) I L) := by
  refine Ok.of (by decide) (Nat.le_of_ble_eq_true rfl) (fun X hX => ?_)
  refine g_iload_n hX dX5_bitesMany_0 rfl rfl ?_
  by_cases s_1_3 : k = 3
  · refine g_tabIn (tgt := 28) hX dX5_bitesMany_1 (by rw [s_1_3]; decide) (by rw [s_1_3]; decide) (by rw [s_1_3]; rfl) (by decide) ?_
    refine g_iconst (v := 3) hX dX5_bitesMany_28 (by decide) ?_
    exact g_iret hX dX5_bitesMany_29 rfl (⟨by simp_all [nbF, Int32.not_le, Int32.not_lt], rfl, rfl⟩)
  by_cases s_1_4 : k = 4
  · refine g_tabIn (tgt := 30) hX dX5_bitesMany_1 (by rw [s_1_4]; decide) (by rw [s_1_4]; decide) (by rw [s_1_4]; rfl) (by decide) ?_
    refine g_iconst (v := 1) hX dX5_bitesMany_30 (by decide) ?_
    exact g_iret hX dX5_bitesMany_31 rfl (⟨by simp_all [nbF, Int32.not_le, Int32.not_lt], rfl, rfl⟩)
  by_cases s_1_5 : k = 5
  · refine g_tabIn (tgt := 32) hX dX5_bitesMany_1 (by rw [s_1_5]; decide) (by rw [s_1_5]; decide) (by rw [s_1_5]; rfl) (by decide) ?_
    refine g_iconst (v := 3) hX dX5_bitesMany_32 (by decide) ?_
    exact g_iret hX dX5_bitesMany_33 rfl (⟨by simp_all [nbF, Int32.not_le, Int32.not_lt], rfl, rfl⟩)
  refine g_tabOut (tgt := 34) hX dX5_bitesMany_1 (tab_out (fun j h1 h2 => by rcases (show j = 3 ∨ j = 4 ∨ j = 5 by omega) with rfl | rfl | rfl <;> assumption)) (by decide) ?_
  refine g_iconst (v := 2) hX dX5_bitesMany_34 (by decide) ?_
  exact g_iret hX dX5_bitesMany_35 rfl (⟨by simp_all [nbF, Int32.not_le, Int32.not_lt], rfl, rfl⟩)
set_option maxHeartbeats 4000000 in
set_option maxRecDepth 100000 in
theorem ok_holeBy {w : WG} {I : SI} {L : SL} (k x : Int32) : Ok w mX5_holeBy [.int k, .int x] I L (Pr (.int (wdF k x)) I L) := by
  refine Ok.of (by decide) (Nat.le_of_ble_eq_true rfl) (fun X hX => ?_)
  refine g_iload_n hX dX5_holeBy_0 rfl rfl ?_
  by_cases s_1_1 : k = 1
  · refine g_tabIn (tgt := 36) hX dX5_holeBy_1 (by rw [s_1_1]; decide) (by rw [s_1_1]; decide) (by rw [s_1_1]; rfl) (by decide) ?_
    refine g_iconst (v := 0) hX dX5_holeBy_36 (by decide) ?_
    exact g_iret hX dX5_holeBy_37 rfl (⟨by simp_all [wdF, Int32.not_le, Int32.not_lt], rfl, rfl⟩)
  by_cases s_1_2 : k = 2
  · refine g_tabIn (tgt := 38) hX dX5_holeBy_1 (by rw [s_1_2]; decide) (by rw [s_1_2]; decide) (by rw [s_1_2]; rfl) (by decide) ?_
    refine g_iconst (v := 2) hX dX5_holeBy_38 (by decide) ?_
    refine g_iload_n hX dX5_holeBy_39 rfl rfl ?_
    refine g_imul hX dX5_holeBy_40 ?_
    exact g_iret hX dX5_holeBy_41 rfl (⟨by simp_all [wdF, Int32.not_le, Int32.not_lt], rfl, rfl⟩)
  by_cases s_1_3 : k = 3
  · refine g_tabIn (tgt := 50) hX dX5_holeBy_1 (by rw [s_1_3]; decide) (by rw [s_1_3]; decide) (by rw [s_1_3]; rfl) (by decide) ?_
    refine g_iload_n hX dX5_holeBy_50 rfl rfl ?_
    exact g_iret hX dX5_holeBy_51 rfl (⟨by simp_all [wdF, Int32.not_le, Int32.not_lt], rfl, rfl⟩)
  by_cases s_1_4 : k = 4
  · refine g_tabIn (tgt := 42) hX dX5_holeBy_1 (by rw [s_1_4]; decide) (by rw [s_1_4]; decide) (by rw [s_1_4]; rfl) (by decide) ?_
    refine g_iconst (v := 2) hX dX5_holeBy_42 (by decide) ?_
    refine g_iload_n hX dX5_holeBy_43 rfl rfl ?_
    refine g_imul hX dX5_holeBy_44 ?_
    exact g_iret hX dX5_holeBy_45 rfl (⟨by simp_all [wdF, Int32.not_le, Int32.not_lt], rfl, rfl⟩)
  by_cases s_1_5 : k = 5
  · refine g_tabIn (tgt := 46) hX dX5_holeBy_1 (by rw [s_1_5]; decide) (by rw [s_1_5]; decide) (by rw [s_1_5]; rfl) (by decide) ?_
    refine g_iload_n hX dX5_holeBy_46 rfl rfl ?_
    refine g_iconst (v := 1) hX dX5_holeBy_47 (by decide) ?_
    refine g_iadd hX dX5_holeBy_48 ?_
    exact g_iret hX dX5_holeBy_49 rfl (⟨by simp_all [wdF, Int32.not_le, Int32.not_lt], rfl, rfl⟩)
  refine g_tabOut (tgt := 50) hX dX5_holeBy_1 (tab_out (fun j h1 h2 => by rcases (show j = 1 ∨ j = 2 ∨ j = 3 ∨ j = 4 ∨ j = 5 by omega) with rfl | rfl | rfl | rfl | rfl <;> assumption)) (by decide) ?_
  refine g_iload_n hX dX5_holeBy_50 rfl rfl ?_
  exact g_iret hX dX5_holeBy_51 rfl (⟨by simp_all [wdF, Int32.not_le, Int32.not_lt], rfl, rfl⟩)
set_option maxHeartbeats 4000000 in
set_option maxRecDepth 100000 in
theorem ok_has {w : WG} {I : SI} {L : SL} (s k : Int32) : Ok w mX5_has [.int s, .int k] I L (Pr (.int (inF s k)) I L) := by
  refine Ok.of (by decide) (Nat.le_of_ble_eq_true rfl) (fun X hX => ?_)
  refine g_iload_n hX dX5_has_0 rfl rfl ?_
  refine g_iload_n hX dX5_has_1 rfl rfl ?_
  refine g_ishr hX dX5_has_2 ?_
  refine g_iconst (v := 1) hX dX5_has_3 (by decide) ?_
  refine g_iand hX dX5_has_4 ?_
  refine g_iconst (v := 1) hX dX5_has_5 (by decide) ?_
  refine g_icmp_ne (tgt := 13) hX dX5_has_6 (by decide) (fun c_6 => ?_) (fun c_6 => ?_)
  · refine g_iconst (v := 0) hX dX5_has_13 (by decide) ?_
    exact g_zret hX dX5_has_14 rfl rfl (⟨by simp_all [inF, Int32.not_le, Int32.not_lt], rfl, rfl⟩)
  · refine g_iconst (v := 1) hX dX5_has_9 (by decide) ?_
    refine g_goto (tgt := 14) hX dX5_has_10 (by decide) ?_
    exact g_zret hX dX5_has_14 rfl rfl (⟨by simp_all [inF, Int32.not_le, Int32.not_lt], rfl, rfl⟩)
set_option maxHeartbeats 4000000 in
set_option maxRecDepth 100000 in
theorem ok_within {w : WG} {I : SI} {L : SL} (v a b : Int32) : Ok w mX4_within [.int v, .int a, .int b] I L (Pr (.int (b01 (a ≤ v ∧ v ≤ b))) I L) := by
  refine Ok.of (by decide) (Nat.le_of_ble_eq_true rfl) (fun X hX => ?_)
  refine g_iload_n hX dX4_within_0 rfl rfl ?_
  refine g_iload_n hX dX4_within_1 rfl rfl ?_
  refine g_icmp_lt (tgt := 14) hX dX4_within_2 (by decide) (fun c_2 => ?_) (fun c_2 => ?_)
  · refine g_iconst (v := 0) hX dX4_within_14 (by decide) ?_
    exact g_zret hX dX4_within_15 rfl rfl (⟨by simp [b01, Int32.not_le.mpr c_2], rfl, rfl⟩)
  · refine g_iload_n hX dX4_within_5 rfl rfl ?_
    refine g_iload_n hX dX4_within_6 rfl rfl ?_
    refine g_icmp_gt (tgt := 14) hX dX4_within_7 (by decide) (fun c_7 => ?_) (fun c_7 => ?_)
    · refine g_iconst (v := 0) hX dX4_within_14 (by decide) ?_
      exact g_zret hX dX4_within_15 rfl rfl (⟨by simp [b01, Int32.not_le.mpr c_7], rfl, rfl⟩)
    · refine g_iconst (v := 1) hX dX4_within_10 (by decide) ?_
      refine g_goto (tgt := 15) hX dX4_within_11 (by decide) ?_
      exact g_zret hX dX4_within_15 rfl rfl (⟨by simp [b01, Int32.not_lt.mp c_2, Int32.not_lt.mp c_7], rfl, rfl⟩)
set_option maxHeartbeats 4000000 in
set_option maxRecDepth 100000 in
theorem ok_in {w : WG} {I : SI} {L : SL} (v a b : Int32) : Ok w mX5_in [.int v, .int a, .int b] I L (Pr (.int (b01 (a ≤ v ∧ v ≤ b))) I L) := by
  refine Ok.of (by decide) (Nat.le_of_ble_eq_true rfl) (fun X hX => ?_)
  refine g_iload_n hX dX5_in_0 rfl rfl ?_
  refine g_iload_n hX dX5_in_1 rfl rfl ?_
  refine g_icmp_lt (tgt := 14) hX dX5_in_2 (by decide) (fun c_2 => ?_) (fun c_2 => ?_)
  · refine g_iconst (v := 0) hX dX5_in_14 (by decide) ?_
    exact g_zret hX dX5_in_15 rfl rfl (⟨by simp [b01, Int32.not_le.mpr c_2], rfl, rfl⟩)
  · refine g_iload_n hX dX5_in_5 rfl rfl ?_
    refine g_iload_n hX dX5_in_6 rfl rfl ?_
    refine g_icmp_gt (tgt := 14) hX dX5_in_7 (by decide) (fun c_7 => ?_) (fun c_7 => ?_)
    · refine g_iconst (v := 0) hX dX5_in_14 (by decide) ?_
      exact g_zret hX dX5_in_15 rfl rfl (⟨by simp [b01, Int32.not_le.mpr c_7], rfl, rfl⟩)
    · refine g_iconst (v := 1) hX dX5_in_10 (by decide) ?_
      refine g_goto (tgt := 15) hX dX5_in_11 (by decide) ?_
      exact g_zret hX dX5_in_15 rfl rfl (⟨by simp [b01, Int32.not_lt.mp c_2, Int32.not_lt.mp c_7], rfl, rfl⟩)
end
section
theorem inF_nar (s k : Int32) : narrow .boolean (.int (inF s k)) = .int (inF s k) := by
  rcases inF_01 s k with h | h <;> rw [h] <;> rfl
set_option maxHeartbeats 4000000 in
set_option maxRecDepth 100000 in
theorem ok_isAsleep {w : WG} {I : SI} {L : SL} {v : Nat} (hV : VL w v) (k : Int32) : Ok w mX3_isAsleep [.ref (gA w v), .int k] I L (Pr (.int (inF (I v 2) k)) I L) := by
  refine Ok.of (by decide) (Nat.le_of_ble_eq_true rfl) (fun X hX => ?_)
  refine g_aload_n hX dX3_isAsleep_0 rfl rfl ?_
  refine g_get3I hX 2 dX3_isAsleep_1 b_fl_X3_46 hV.k0 (by decide) ?_
  refine g_iload_n hX dX3_isAsleep_4 rfl rfl ?_
  refine g_callSp _ hX dX3_isAsleep_5 k_X3_64 ⟨by decide, by decide⟩ rfl (ok_isIn _ _) rfl (Nat.le_of_ble_eq_true rfl) ?_
  exact g_zret hX dX3_isAsleep_8 rfl (inF_nar _ _) (⟨rfl, rfl, rfl⟩)
set_option maxHeartbeats 4000000 in
set_option maxRecDepth 100000 in
theorem ok_everyDog {w : WG} {I : SI} {L : SL} {v : Nat} (hV : VL w v) : Ok w mX3_everyDog [.ref (gA w v)] I L (Pr (.int (((1 : Int32) <<< (I v 1 &&& 31)) - 1)) I L) := by
  refine Ok.of (by decide) (Nat.le_of_ble_eq_true rfl) (fun X hX => ?_)
  refine g_iconst (v := 1) hX dX3_everyDog_0 (by decide) ?_
  refine g_aload_n hX dX3_everyDog_1 rfl rfl ?_
  refine g_get3I hX 1 dX3_everyDog_2 b_fl_X3_43 hV.k0 (by decide) ?_
  refine g_ishl hX dX3_everyDog_5 ?_
  refine g_iconst (v := 1) hX dX3_everyDog_6 (by decide) ?_
  refine g_isub hX dX3_everyDog_7 ?_
  exact g_iret hX dX3_everyDog_8 rfl (⟨rfl, rfl, rfl⟩)
set_option maxHeartbeats 4000000 in
set_option maxRecDepth 100000 in
theorem ok_hasMan {w : WG} {I : SI} {L : SL} {v : Nat} (hV : VL w v) (c : Int32) : Ok w mX3_hasMan [.ref (gA w v), .int c] I L (Pr (.int (b01 (0 ≤ c ∧ c < I v 0))) I L) := by
  refine Ok.of (by decide) (Nat.le_of_ble_eq_true rfl) (fun X hX => ?_)
  refine g_iload_n hX dX3_hasMan_0 rfl rfl ?_
  refine g_if_lt (tgt := 16) hX dX3_hasMan_1 (by decide) (fun c_1 => ?_) (fun c_1 => ?_)
  · refine g_iconst (v := 0) hX dX3_hasMan_16 (by decide) ?_
    exact g_zret hX dX3_hasMan_17 rfl rfl (⟨by simp [b01, Int32.not_le.mpr c_1], rfl, rfl⟩)
  · refine g_iload_n hX dX3_hasMan_4 rfl rfl ?_
    refine g_aload_n hX dX3_hasMan_5 rfl rfl ?_
    refine g_get3I hX 0 dX3_hasMan_6 b_fl_X3_39 hV.k0 (by decide) ?_
    refine g_icmp_ge (tgt := 16) hX dX3_hasMan_9 (by decide) (fun c_9 => ?_) (fun c_9 => ?_)
    · refine g_iconst (v := 0) hX dX3_hasMan_16 (by decide) ?_
      exact g_zret hX dX3_hasMan_17 rfl rfl (⟨by simp [b01, Int32.not_lt.mpr c_9], rfl, rfl⟩)
    · refine g_iconst (v := 1) hX dX3_hasMan_12 (by decide) ?_
      refine g_goto (tgt := 17) hX dX3_hasMan_13 (by decide) ?_
      exact g_zret hX dX3_hasMan_17 rfl rfl (⟨by simp [b01, Int32.not_lt.mp c_1, Int32.not_le.mp c_9], rfl, rfl⟩)
set_option maxHeartbeats 4000000 in
set_option maxRecDepth 100000 in
theorem ok_hasDog {w : WG} {I : SI} {L : SL} {v : Nat} (hV : VL w v) (c : Int32) : Ok w mX3_hasDog [.ref (gA w v), .int c] I L (Pr (.int (b01 (0 ≤ c ∧ c < I v 1))) I L) := by
  refine Ok.of (by decide) (Nat.le_of_ble_eq_true rfl) (fun X hX => ?_)
  refine g_iload_n hX dX3_hasDog_0 rfl rfl ?_
  refine g_if_lt (tgt := 16) hX dX3_hasDog_1 (by decide) (fun c_1 => ?_) (fun c_1 => ?_)
  · refine g_iconst (v := 0) hX dX3_hasDog_16 (by decide) ?_
    exact g_zret hX dX3_hasDog_17 rfl rfl (⟨by simp [b01, Int32.not_le.mpr c_1], rfl, rfl⟩)
  · refine g_iload_n hX dX3_hasDog_4 rfl rfl ?_
    refine g_aload_n hX dX3_hasDog_5 rfl rfl ?_
    refine g_get3I hX 1 dX3_hasDog_6 b_fl_X3_43 hV.k0 (by decide) ?_
    refine g_icmp_ge (tgt := 16) hX dX3_hasDog_9 (by decide) (fun c_9 => ?_) (fun c_9 => ?_)
    · refine g_iconst (v := 0) hX dX3_hasDog_16 (by decide) ?_
      exact g_zret hX dX3_hasDog_17 rfl rfl (⟨by simp [b01, Int32.not_lt.mpr c_9], rfl, rfl⟩)
    · refine g_iconst (v := 1) hX dX3_hasDog_12 (by decide) ?_
      refine g_goto (tgt := 17) hX dX3_hasDog_13 (by decide) ?_
      exact g_zret hX dX3_hasDog_17 rfl rfl (⟨by simp [b01, Int32.not_lt.mp c_1, Int32.not_le.mp c_9], rfl, rfl⟩)
set_option maxHeartbeats 4000000 in
set_option maxRecDepth 100000 in
theorem ok_startOf {w : WG} {I : SI} {L : SL} {v n r : Nat} (hV : VL w v) (hn : I v 0 = nI n) (hn4 : n ≤ 4) (hr : r < 2 ^ 31) : Ok w mX3_startOf [.ref (gA w v), .int (nI r)] I L (Pr (.int (nI (stF n r))) I L) := by
  refine Ok.of (by decide) (Nat.le_of_ble_eq_true rfl) (fun X hX => ?_)
  refine g_aload_n hX dX3_startOf_0 rfl rfl ?_
  refine g_get3I hX 0 dX3_startOf_1 b_fl_X3_39 hV.k0 (by decide) ?_
  rw [hn]
  refine g_if_ne (tgt := 11) hX dX3_startOf_4 (by decide) (fun c_4 => ?_) (fun c_4 => ?_)
  · refine g_iload_n hX dX3_startOf_11 rfl rfl ?_
    refine g_aload_n hX dX3_startOf_12 rfl rfl ?_
    refine g_get3I hX 0 dX3_startOf_13 b_fl_X3_39 hV.k0 (by decide) ?_
    rw [hn]
    refine g_irem hX dX3_startOf_16 (c_4) ?_
    exact g_iret hX dX3_startOf_17 rfl (⟨by rw [stF, if_neg (fun e => c_4 (by rw [e]; rfl)), pk_rem hr (Nat.pos_of_ne_zero (fun e => c_4 (by rw [e]; rfl))) (by omega)], rfl, rfl⟩)
  · refine g_iconst (v := 0) hX dX3_startOf_7 (by decide) ?_
    refine g_goto (tgt := 17) hX dX3_startOf_8 (by decide) ?_
    exact g_iret hX dX3_startOf_17 rfl (⟨by rw [stF, if_pos ((nI_eq (by omega) (by decide)).mp c_4)]; rfl, rfl, rfl⟩)
set_option maxHeartbeats 4000000 in
set_option maxRecDepth 100000 in
theorem ok_hungerOf {w : WG} {I : SI} {L : SL} {v d : Nat} (hV : VL w v) (hd : I v 1 = nI d) (hd7 : d ≤ 7) (s : Int32) : Ok w mX3_hungerOf [.ref (gA w v), .int s] I L (Pr (.int (hgF (I (v + 6)) s d)) I L) := by
  refine Ok.of (by decide) (Nat.le_of_ble_eq_true rfl) (fun X hX => ?_)
  have loop := loop_up (n := d) (P := fun k => G X w mX3_hungerOf I L 4 (lvO [(0, .ref (gA w v)), (1, .int s), (2, .int (hgF (I (v + 6)) s k)), (3, .int (nI k))]) []) (fun k hk ih => by
    refine g_iload_n hX dX3_hungerOf_4 rfl rfl ?_
    refine g_aload_n hX dX3_hungerOf_5 rfl rfl ?_
    refine g_get3I hX 1 dX3_hungerOf_6 b_fl_X3_43 hV.k0 (by decide) ?_
    rw [hd]
    refine g_icmp_ge (tgt := 35) hX dX3_hungerOf_9 (by decide) (fun c_9 => ?_) (fun c_9 => ?_)
    · refine g_iload_n hX dX3_hungerOf_35 rfl rfl ?_
      exact g_iret hX dX3_hungerOf_36 rfl (⟨by rw [show k = d from Nat.le_antisymm hk (nle c_9 (by omega) (by omega))], rfl, rfl⟩)
    · have hlt := nnle c_9 (by omega) (by omega)
      refine g_iload_n hX dX3_hungerOf_12 rfl rfl ?_
      refine g_iload_n hX dX3_hungerOf_13 rfl rfl ?_
      refine g_callSp _ hX dX3_hungerOf_14 k_X3_64 ⟨by decide, by decide⟩ rfl (ok_isIn _ _) rfl (Nat.le_of_ble_eq_true rfl) ?_
      refine g_if_eq (tgt := 29) hX dX3_hungerOf_17 (by decide) (fun c_17 => ?_) (fun c_17 => ?_)
      · refine g_iinc hX dX3_hungerOf_29 rfl (d := 1) (by decide) ?_
        refine g_goto (tgt := 4) hX dX3_hungerOf_32 (by decide) ?_
        exact G.at (ih hlt) ⟨rfl, rfl, vI (by simp [hgF, c_17]), vI (nI_1 k), trivial⟩
      · refine g_iload_n hX dX3_hungerOf_20 rfl rfl ?_
        refine g_aload_n hX dX3_hungerOf_21 rfl rfl ?_
        refine g_get3R hX 11 dX3_hungerOf_22 b_fl_X3_27 hV.k0 (by decide) hV.p11 ?_
        refine g_iload_n hX dX3_hungerOf_25 rfl rfl ?_
        refine g_ialdN hX dX3_hungerOf_26 hV.k6 (⟨rfl, by omega⟩) (by decide) ?_
        refine g_iadd hX dX3_hungerOf_27 ?_
        refine g_istore_n hX dX3_hungerOf_28 rfl (by decide) ?_
        refine g_iinc hX dX3_hungerOf_29 rfl (d := 1) (by decide) ?_
        refine g_goto (tgt := 4) hX dX3_hungerOf_32 (by decide) ?_
        exact G.at (ih hlt) ⟨rfl, rfl, vI (by simp [hgF, c_17]), vI (nI_1 k), trivial⟩
    )
  refine g_iconst (v := 0) hX dX3_hungerOf_0 (by decide) ?_
  refine g_istore_n hX dX3_hungerOf_1 rfl (by decide) ?_
  refine g_iconst (v := 0) hX dX3_hungerOf_2 (by decide) ?_
  refine g_istore_n hX dX3_hungerOf_3 rfl (by decide) ?_
  exact G.at (loop 0 (Nat.zero_le _)) ⟨rfl, rfl, rfl, rfl, trivial⟩
set_option maxHeartbeats 4000000 in
set_option maxRecDepth 100000 in
theorem ok_bittenBy {w : WG} {I : SI} {L : SL} {v n k a : Nat} (hV : VL w v) (hn : I v 0 = nI n) (hn4 : n ≤ 4) (hk7 : k < 7) (ha : a < 2000) : Ok w mX3_bittenBy [.ref (gA w v), .int (nI k), .int (nI a)] I L (Pr (.int (bbR (I (v + 4)) (I (v + 7)) (I (v + 1)) n k a)) I L) := by
  refine Ok.of (by decide) (Nat.le_of_ble_eq_true rfl) (fun X hX => ?_)
  have loop := loop_up (n := n) (P := fun i => G X w mX3_bittenBy I L 16 (lvO [(0, .ref (gA w v)), (1, .int (nI k)), (2, .int (nI a)), (3, .int (bbS (I (v + 4) k) (I (v + 7) k) (I (v + 1)) n a i).1), (4, .int (bbS (I (v + 4) k) (I (v + 7) k) (I (v + 1)) n a i).2), (5, .int (nI i))]) []) (fun i hk ih => by
    refine g_iload hX dX3_bittenBy_16 rfl ?_
    refine g_aload_n hX dX3_bittenBy_18 rfl rfl ?_
    refine g_get3I hX 0 dX3_bittenBy_19 b_fl_X3_39 hV.k0 (by decide) ?_
    rw [hn]
    refine g_icmp_ge (tgt := 92) hX dX3_bittenBy_22 (by decide) (fun c_22 => ?_) (fun c_22 => ?_)
    · refine g_iload_n hX dX3_bittenBy_92 rfl rfl ?_
      exact g_iret hX dX3_bittenBy_93 rfl (⟨by rw [bbR, show i = n from Nat.le_antisymm hk (nle c_22 (by omega) (by omega))], rfl, rfl⟩)
    · have hlt := nnle c_22 (by omega) (by omega)
      refine g_iload hX dX3_bittenBy_25 rfl ?_
      refine g_if_le (tgt := 92) hX dX3_bittenBy_27 (by decide) (fun c_27 => ?_) (fun c_27 => ?_)
      · refine g_iload_n hX dX3_bittenBy_92 rfl rfl ?_
        exact g_iret hX dX3_bittenBy_93 rfl (⟨by rw [bbR, show bbS (I (v + 4) k) (I (v + 7) k) (I (v + 1)) n a n = bbS (I (v + 4) k) (I (v + 7) k) (I (v + 1)) n a i by have := bbS_done (Int32.not_lt.mpr c_27) (n - i); rwa [show i + (n - i) = n by omega] at this], rfl, rfl⟩)
      · refine g_iload_n hX dX3_bittenBy_30 rfl rfl ?_
        refine g_iload hX dX3_bittenBy_31 rfl ?_
        refine g_iadd hX dX3_bittenBy_33 ?_
        refine g_aload_n hX dX3_bittenBy_34 rfl rfl ?_
        refine g_get3I hX 0 dX3_bittenBy_35 b_fl_X3_39 hV.k0 (by decide) ?_
        rw [nI_add, hn]
        refine g_irem hX dX3_bittenBy_38 (nI_ne0 (by omega) (by omega)) ?_
        rw [pk_rem (by omega) (by omega) (by omega)]
        refine g_istore hX dX3_bittenBy_39 (by decide) ?_
        have hc4 : (a + i) % n < n := Nat.mod_lt _ (by omega)
        refine g_aload_n hX dX3_bittenBy_41 rfl rfl ?_
        refine g_get3R hX 9 dX3_bittenBy_42 b_fl_X3_21 hV.k0 (by decide) hV.p9 ?_
        refine g_iload_n hX dX3_bittenBy_45 rfl rfl ?_
        refine g_ialdN hX dX3_bittenBy_46 hV.k4 (⟨rfl, by omega⟩) (by decide) ?_
        refine g_aload_n hX dX3_bittenBy_47 rfl rfl ?_
        refine g_get3R hX 12 dX3_bittenBy_48 b_fl_X3_30 hV.k0 (by decide) hV.p12 ?_
        refine g_iload_n hX dX3_bittenBy_51 rfl rfl ?_
        refine g_ialdN hX dX3_bittenBy_52 hV.k7 (⟨rfl, by omega⟩) (by decide) ?_
        refine g_iload hX dX3_bittenBy_53 rfl ?_
        refine g_icmp_ne (tgt := 62) hX dX3_bittenBy_55 (by decide) (fun c_55 => ?_) (fun c_55 => ?_)
        · refine g_iconst (v := 0) hX dX3_bittenBy_62 (by decide) ?_
          refine g_aload_n hX dX3_bittenBy_63 rfl rfl ?_
          refine g_get3R hX 6 dX3_bittenBy_64 b_fl_X3_9 hV.k0 (by decide) hV.p6 ?_
          refine g_iload hX dX3_bittenBy_67 rfl ?_
          refine g_ialdN hX dX3_bittenBy_69 hV.k1 (⟨rfl, by omega⟩) (by decide) ?_
          refine g_callSp _ hX dX3_bittenBy_70 k_X3_78 ⟨by decide, by decide⟩ rfl (ok_wouldBite _ _ _) rfl (Nat.le_of_ble_eq_true rfl) ?_
          refine g_if_eq (tgt := 86) hX dX3_bittenBy_73 (by decide) (fun c_73 => ?_) (fun c_73 => ?_)
          · refine g_iinc hX dX3_bittenBy_86 rfl (d := 1) (by decide) ?_
            refine g_goto (tgt := 16) hX dX3_bittenBy_89 (by decide) ?_
            exact G.at (ih hlt) ⟨rfl, rfl, rfl, vI (by rw [bbS_no (by first | (rw [show b01 _ = (1 : Int32) from if_pos c_55]; exact c_73) | (rw [show b01 _ = (0 : Int32) from if_neg c_55]; exact c_73))]), vI (by rw [bbS_no (by first | (rw [show b01 _ = (1 : Int32) from if_pos c_55]; exact c_73) | (rw [show b01 _ = (0 : Int32) from if_neg c_55]; exact c_73))]), vI (nI_1 i), trivial⟩
          · refine g_iload_n hX dX3_bittenBy_76 rfl rfl ?_
            refine g_iconst (v := 1) hX dX3_bittenBy_77 (by decide) ?_
            refine g_iload hX dX3_bittenBy_78 rfl ?_
            refine g_ishl hX dX3_bittenBy_80 ?_
            refine g_ior hX dX3_bittenBy_81 ?_
            refine g_istore_n hX dX3_bittenBy_82 rfl (by decide) ?_
            refine g_iinc hX dX3_bittenBy_83 rfl (d := -1) (by decide) ?_
            refine g_iinc hX dX3_bittenBy_86 rfl (d := 1) (by decide) ?_
            refine g_goto (tgt := 16) hX dX3_bittenBy_89 (by decide) ?_
            exact G.at (ih hlt) ⟨rfl, rfl, rfl, vI (by rw [bbS_yes c_27 (by first | (rw [show b01 _ = (1 : Int32) from if_pos c_55]; exact c_73) | (rw [show b01 _ = (0 : Int32) from if_neg c_55]; exact c_73))]), vI (by rw [bbS_yes c_27 (by first | (rw [show b01 _ = (1 : Int32) from if_pos c_55]; exact c_73) | (rw [show b01 _ = (0 : Int32) from if_neg c_55]; exact c_73))]), vI (nI_1 i), trivial⟩
        · refine g_iconst (v := 1) hX dX3_bittenBy_58 (by decide) ?_
          refine g_goto (tgt := 63) hX dX3_bittenBy_59 (by decide) ?_
          refine g_aload_n hX dX3_bittenBy_63 rfl rfl ?_
          refine g_get3R hX 6 dX3_bittenBy_64 b_fl_X3_9 hV.k0 (by decide) hV.p6 ?_
          refine g_iload hX dX3_bittenBy_67 rfl ?_
          refine g_ialdN hX dX3_bittenBy_69 hV.k1 (⟨rfl, by omega⟩) (by decide) ?_
          refine g_callSp _ hX dX3_bittenBy_70 k_X3_78 ⟨by decide, by decide⟩ rfl (ok_wouldBite _ _ _) rfl (Nat.le_of_ble_eq_true rfl) ?_
          refine g_if_eq (tgt := 86) hX dX3_bittenBy_73 (by decide) (fun c_73 => ?_) (fun c_73 => ?_)
          · refine g_iinc hX dX3_bittenBy_86 rfl (d := 1) (by decide) ?_
            refine g_goto (tgt := 16) hX dX3_bittenBy_89 (by decide) ?_
            exact G.at (ih hlt) ⟨rfl, rfl, rfl, vI (by rw [bbS_no (by first | (rw [show b01 _ = (1 : Int32) from if_pos c_55]; exact c_73) | (rw [show b01 _ = (0 : Int32) from if_neg c_55]; exact c_73))]), vI (by rw [bbS_no (by first | (rw [show b01 _ = (1 : Int32) from if_pos c_55]; exact c_73) | (rw [show b01 _ = (0 : Int32) from if_neg c_55]; exact c_73))]), vI (nI_1 i), trivial⟩
          · refine g_iload_n hX dX3_bittenBy_76 rfl rfl ?_
            refine g_iconst (v := 1) hX dX3_bittenBy_77 (by decide) ?_
            refine g_iload hX dX3_bittenBy_78 rfl ?_
            refine g_ishl hX dX3_bittenBy_80 ?_
            refine g_ior hX dX3_bittenBy_81 ?_
            refine g_istore_n hX dX3_bittenBy_82 rfl (by decide) ?_
            refine g_iinc hX dX3_bittenBy_83 rfl (d := -1) (by decide) ?_
            refine g_iinc hX dX3_bittenBy_86 rfl (d := 1) (by decide) ?_
            refine g_goto (tgt := 16) hX dX3_bittenBy_89 (by decide) ?_
            exact G.at (ih hlt) ⟨rfl, rfl, rfl, vI (by rw [bbS_yes c_27 (by first | (rw [show b01 _ = (1 : Int32) from if_pos c_55]; exact c_73) | (rw [show b01 _ = (0 : Int32) from if_neg c_55]; exact c_73))]), vI (by rw [bbS_yes c_27 (by first | (rw [show b01 _ = (1 : Int32) from if_pos c_55]; exact c_73) | (rw [show b01 _ = (0 : Int32) from if_neg c_55]; exact c_73))]), vI (nI_1 i), trivial⟩
    )
  refine g_iconst (v := 0) hX dX3_bittenBy_0 (by decide) ?_
  refine g_istore_n hX dX3_bittenBy_1 rfl (by decide) ?_
  refine g_aload_n hX dX3_bittenBy_2 rfl rfl ?_
  refine g_get3R hX 9 dX3_bittenBy_3 b_fl_X3_21 hV.k0 (by decide) hV.p9 ?_
  refine g_iload_n hX dX3_bittenBy_6 rfl rfl ?_
  refine g_ialdN hX dX3_bittenBy_7 hV.k4 (⟨rfl, by omega⟩) (by decide) ?_
  refine g_callSp _ hX dX3_bittenBy_8 k_X3_72 ⟨by decide, by decide⟩ rfl (ok_bites _) rfl (Nat.le_of_ble_eq_true rfl) ?_
  refine g_istore hX dX3_bittenBy_11 (by decide) ?_
  refine g_iconst (v := 0) hX dX3_bittenBy_13 (by decide) ?_
  refine g_istore hX dX3_bittenBy_14 (by decide) ?_
  exact G.at (loop 0 (Nat.zero_le _)) ⟨rfl, rfl, rfl, rfl, rfl, rfl, trivial⟩
end
section
set_option maxHeartbeats 4000000 in
set_option maxRecDepth 100000 in
theorem ok_widthTo {w : WG} {I : SI} {L : SL} {v n d a : Nat} (hV : VL w v) (hn : I v 0 = nI n) (hn4 : n ≤ 4) (hd : I v 1 = nI d) (hd7 : d ≤ 7) (ha : a < 2000) (c s : Int32) : Ok w mX3_widthTo [.ref (gA w v), .int c, .int (nI a), .int s] I L (Pr (.int (wtR (I (v + 4)) (I (v + 5)) (I (v + 7)) (I (v + 1)) n a c s d)) I L) := by
  refine Ok.of (by decide) (Nat.le_of_ble_eq_true rfl) (fun X hX => ?_)
  have loop := loop_up (n := d) (P := fun k => G X w mX3_widthTo I L 6 (lvO [(0, .ref (gA w v)), (1, .int c), (2, .int (nI a)), (3, .int s), (4, .int (wtR (I (v + 4)) (I (v + 5)) (I (v + 7)) (I (v + 1)) n a c s k)), (5, .int (nI k))]) []) (fun k hk ih => by
    refine g_iload hX dX3_widthTo_6 rfl ?_
    refine g_aload_n hX dX3_widthTo_8 rfl rfl ?_
    refine g_get3I hX 1 dX3_widthTo_9 b_fl_X3_43 hV.k0 (by decide) ?_
    rw [hd]
    refine g_icmp_ge (tgt := 66) hX dX3_widthTo_12 (by decide) (fun c_12 => ?_) (fun c_12 => ?_)
    · refine g_iload hX dX3_widthTo_66 rfl ?_
      exact g_iret hX dX3_widthTo_68 rfl (⟨by rw [show k = d from Nat.le_antisymm hk (nle c_12 (by omega) (by omega))], rfl, rfl⟩)
    · have hlt := nnle c_12 (by omega) (by omega)
      refine g_iload_n hX dX3_widthTo_15 rfl rfl ?_
      refine g_iload hX dX3_widthTo_16 rfl ?_
      refine g_callSp _ hX dX3_widthTo_18 k_X3_64 ⟨by decide, by decide⟩ rfl (ok_isIn _ _) rfl (Nat.le_of_ble_eq_true rfl) ?_
      refine g_if_ne (tgt := 60) hX dX3_widthTo_21 (by decide) (fun c_21 => ?_) (fun c_21 => ?_)
      · refine g_iinc hX dX3_widthTo_60 rfl (d := 1) (by decide) ?_
        refine g_goto (tgt := 6) hX dX3_widthTo_63 (by decide) ?_
        exact G.at (ih hlt) ⟨rfl, rfl, rfl, rfl, vI (by rw [wtR, if_neg (fun q => c_21 q.1)]; rw [Int32.add_zero]), vI (nI_1 k), trivial⟩
      · refine g_aload_n hX dX3_widthTo_24 rfl rfl ?_
        refine g_iload hX dX3_widthTo_25 rfl ?_
        refine g_iload_n hX dX3_widthTo_27 rfl rfl ?_
        refine g_callVp _ hX dX3_widthTo_28 k_X3_82 ⟨by decide, by decide⟩ (by decide) hV.k0 rfl rfl (ok_bittenBy hV hn hn4 (by omega) (by omega)) rfl (Nat.le_of_ble_eq_true rfl) ?_
        refine g_iload_n hX dX3_widthTo_31 rfl rfl ?_
        refine g_callSp _ hX dX3_widthTo_32 k_X3_64 ⟨by decide, by decide⟩ rfl (ok_isIn _ _) rfl (Nat.le_of_ble_eq_true rfl) ?_
        refine g_if_eq (tgt := 60) hX dX3_widthTo_35 (by decide) (fun c_35 => ?_) (fun c_35 => ?_)
        · refine g_iinc hX dX3_widthTo_60 rfl (d := 1) (by decide) ?_
          refine g_goto (tgt := 6) hX dX3_widthTo_63 (by decide) ?_
          exact G.at (ih hlt) ⟨rfl, rfl, rfl, rfl, vI (by rw [wtR, if_neg (fun q => q.2 c_35)]; rw [Int32.add_zero]), vI (nI_1 k), trivial⟩
        · refine g_iload hX dX3_widthTo_38 rfl ?_
          refine g_aload_n hX dX3_widthTo_40 rfl rfl ?_
          refine g_get3R hX 9 dX3_widthTo_41 b_fl_X3_21 hV.k0 (by decide) hV.p9 ?_
          refine g_iload hX dX3_widthTo_44 rfl ?_
          refine g_ialdN hX dX3_widthTo_46 hV.k4 (⟨rfl, by omega⟩) (by decide) ?_
          refine g_aload_n hX dX3_widthTo_47 rfl rfl ?_
          refine g_get3R hX 10 dX3_widthTo_48 b_fl_X3_24 hV.k0 (by decide) hV.p10 ?_
          refine g_iload hX dX3_widthTo_51 rfl ?_
          refine g_ialdN hX dX3_widthTo_53 hV.k5 (⟨rfl, by omega⟩) (by decide) ?_
          refine g_callSp _ hX dX3_widthTo_54 k_X3_86 ⟨by decide, by decide⟩ rfl (ok_width _ _) rfl (Nat.le_of_ble_eq_true rfl) ?_
          refine g_iadd hX dX3_widthTo_57 ?_
          refine g_istore hX dX3_widthTo_58 (by decide) ?_
          refine g_iinc hX dX3_widthTo_60 rfl (d := 1) (by decide) ?_
          refine g_goto (tgt := 6) hX dX3_widthTo_63 (by decide) ?_
          exact G.at (ih hlt) ⟨rfl, rfl, rfl, rfl, vI (by rw [wtR, if_pos ⟨c_21, c_35⟩]), vI (nI_1 k), trivial⟩
    )
  refine g_iconst (v := 0) hX dX3_widthTo_0 (by decide) ?_
  refine g_istore hX dX3_widthTo_1 (by decide) ?_
  refine g_iconst (v := 0) hX dX3_widthTo_3 (by decide) ?_
  refine g_istore hX dX3_widthTo_4 (by decide) ?_
  exact G.at (loop 0 (Nat.zero_le _)) ⟨rfl, rfl, rfl, rfl, rfl, rfl, trivial⟩
set_option maxHeartbeats 4000000 in
set_option maxRecDepth 100000 in
theorem ok_bitersOf {w : WG} {I : SI} {L : SL} {v n d a : Nat} (hV : VL w v) (hn : I v 0 = nI n) (hn4 : n ≤ 4) (hd : I v 1 = nI d) (hd7 : d ≤ 7) (ha : a < 2000) (c s : Int32) : Ok w mX3_bitersOf [.ref (gA w v), .int c, .int (nI a), .int s] I L (Pr (.int (bsR (I (v + 4)) (I (v + 7)) (I (v + 1)) n a c s d)) I L) := by
  refine Ok.of (by decide) (Nat.le_of_ble_eq_true rfl) (fun X hX => ?_)
  have loop := loop_up (n := d) (P := fun k => G X w mX3_bitersOf I L 6 (lvO [(0, .ref (gA w v)), (1, .int c), (2, .int (nI a)), (3, .int s), (4, .int (bsR (I (v + 4)) (I (v + 7)) (I (v + 1)) n a c s k)), (5, .int (nI k))]) []) (fun k hk ih => by
    refine g_iload hX dX3_bitersOf_6 rfl ?_
    refine g_aload_n hX dX3_bitersOf_8 rfl rfl ?_
    refine g_get3I hX 1 dX3_bitersOf_9 b_fl_X3_43 hV.k0 (by decide) ?_
    rw [hd]
    refine g_icmp_ge (tgt := 53) hX dX3_bitersOf_12 (by decide) (fun c_12 => ?_) (fun c_12 => ?_)
    · refine g_iload hX dX3_bitersOf_53 rfl ?_
      exact g_iret hX dX3_bitersOf_55 rfl (⟨by rw [show k = d from Nat.le_antisymm hk (nle c_12 (by omega) (by omega))], rfl, rfl⟩)
    · have hlt := nnle c_12 (by omega) (by omega)
      refine g_iload_n hX dX3_bitersOf_15 rfl rfl ?_
      refine g_iload hX dX3_bitersOf_16 rfl ?_
      refine g_callSp _ hX dX3_bitersOf_18 k_X3_64 ⟨by decide, by decide⟩ rfl (ok_isIn _ _) rfl (Nat.le_of_ble_eq_true rfl) ?_
      refine g_if_ne (tgt := 47) hX dX3_bitersOf_21 (by decide) (fun c_21 => ?_) (fun c_21 => ?_)
      · refine g_iinc hX dX3_bitersOf_47 rfl (d := 1) (by decide) ?_
        refine g_goto (tgt := 6) hX dX3_bitersOf_50 (by decide) ?_
        exact G.at (ih hlt) ⟨rfl, rfl, rfl, rfl, vI (by rw [bsR, if_neg (fun q => c_21 q.1)]), vI (nI_1 k), trivial⟩
      · refine g_aload_n hX dX3_bitersOf_24 rfl rfl ?_
        refine g_iload hX dX3_bitersOf_25 rfl ?_
        refine g_iload_n hX dX3_bitersOf_27 rfl rfl ?_
        refine g_callVp _ hX dX3_bitersOf_28 k_X3_82 ⟨by decide, by decide⟩ (by decide) hV.k0 rfl rfl (ok_bittenBy hV hn hn4 (by omega) (by omega)) rfl (Nat.le_of_ble_eq_true rfl) ?_
        refine g_iload_n hX dX3_bitersOf_31 rfl rfl ?_
        refine g_callSp _ hX dX3_bitersOf_32 k_X3_64 ⟨by decide, by decide⟩ rfl (ok_isIn _ _) rfl (Nat.le_of_ble_eq_true rfl) ?_
        refine g_if_eq (tgt := 47) hX dX3_bitersOf_35 (by decide) (fun c_35 => ?_) (fun c_35 => ?_)
        · refine g_iinc hX dX3_bitersOf_47 rfl (d := 1) (by decide) ?_
          refine g_goto (tgt := 6) hX dX3_bitersOf_50 (by decide) ?_
          exact G.at (ih hlt) ⟨rfl, rfl, rfl, rfl, vI (by rw [bsR, if_neg (fun q => q.2 c_35)]), vI (nI_1 k), trivial⟩
        · refine g_iload hX dX3_bitersOf_38 rfl ?_
          refine g_iconst (v := 1) hX dX3_bitersOf_40 (by decide) ?_
          refine g_iload hX dX3_bitersOf_41 rfl ?_
          refine g_ishl hX dX3_bitersOf_43 ?_
          refine g_ior hX dX3_bitersOf_44 ?_
          refine g_istore hX dX3_bitersOf_45 (by decide) ?_
          refine g_iinc hX dX3_bitersOf_47 rfl (d := 1) (by decide) ?_
          refine g_goto (tgt := 6) hX dX3_bitersOf_50 (by decide) ?_
          exact G.at (ih hlt) ⟨rfl, rfl, rfl, rfl, vI (by rw [bsR, if_pos ⟨c_21, c_35⟩]), vI (nI_1 k), trivial⟩
    )
  refine g_iconst (v := 0) hX dX3_bitersOf_0 (by decide) ?_
  refine g_istore hX dX3_bitersOf_1 (by decide) ?_
  refine g_iconst (v := 0) hX dX3_bitersOf_3 (by decide) ?_
  refine g_istore hX dX3_bitersOf_4 (by decide) ?_
  exact G.at (loop 0 (Nat.zero_le _)) ⟨rfl, rfl, rfl, rfl, rfl, rfl, trivial⟩
set_option maxHeartbeats 4000000 in
set_option maxRecDepth 100000 in
theorem ok_mayBribe {w : WG} {I : SI} {L : SL} {v c k : Nat} (hV : VL w v) (hc : c < 4) (hk : k < 7) : Ok w mX3_mayBribe [.ref (gA w v), .int (nI c), .int (nI k)] I L (Pr (.int (b01 (inF (I v 2) (nI k) = 0 ∧ I (v + 6) k ≤ I (v + 2) c))) I L) := by
  refine Ok.of (by decide) (Nat.le_of_ble_eq_true rfl) (fun X hX => ?_)
  refine g_aload_n hX dX3_mayBribe_0 rfl rfl ?_
  refine g_iload_n hX dX3_mayBribe_1 rfl rfl ?_
  refine g_callVp _ hX dX3_mayBribe_2 k_X3_68 ⟨by decide, by decide⟩ (by decide) hV.k0 rfl rfl (ok_isAsleep hV _) rfl (Nat.le_of_ble_eq_true rfl) ?_
  refine g_if_ne (tgt := 27) hX dX3_mayBribe_5 (by decide) (fun c_5 => ?_) (fun c_5 => ?_)
  · refine g_iconst (v := 0) hX dX3_mayBribe_27 (by decide) ?_
    exact g_zret hX dX3_mayBribe_28 rfl rfl (⟨by simp [b01, c_5], rfl, rfl⟩)
  · refine g_aload_n hX dX3_mayBribe_8 rfl rfl ?_
    refine g_get3R hX 11 dX3_mayBribe_9 b_fl_X3_27 hV.k0 (by decide) hV.p11 ?_
    refine g_iload_n hX dX3_mayBribe_12 rfl rfl ?_
    refine g_ialdN hX dX3_mayBribe_13 hV.k6 (⟨rfl, by omega⟩) (by decide) ?_
    refine g_aload_n hX dX3_mayBribe_14 rfl rfl ?_
    refine g_get3R hX 7 dX3_mayBribe_15 b_fl_X3_15 hV.k0 (by decide) hV.p7 ?_
    refine g_iload_n hX dX3_mayBribe_18 rfl rfl ?_
    refine g_ialdN hX dX3_mayBribe_19 hV.k2 (⟨rfl, by omega⟩) (by decide) ?_
    refine g_icmp_gt (tgt := 27) hX dX3_mayBribe_20 (by decide) (fun c_20 => ?_) (fun c_20 => ?_)
    · refine g_iconst (v := 0) hX dX3_mayBribe_27 (by decide) ?_
      exact g_zret hX dX3_mayBribe_28 rfl rfl (⟨by simp [b01, Int32.not_le.mpr c_20], rfl, rfl⟩)
    · refine g_iconst (v := 1) hX dX3_mayBribe_23 (by decide) ?_
      refine g_goto (tgt := 28) hX dX3_mayBribe_24 (by decide) ?_
      exact g_zret hX dX3_mayBribe_28 rfl rfl (⟨by simp [b01, c_5, Int32.not_lt.mp c_20], rfl, rfl⟩)
set_option maxHeartbeats 4000000 in
set_option maxRecDepth 100000 in
theorem ok_empty_V {w : WG} {I : SI} {L : SL} {V : VS} {v : Nat} (hV : VL w v) : Ok w mX3_empty [.ref (gA w v)] (wV I v V) L (Vd I v (emV V) L (none)) := by
  refine Ok.of (by decide) (Nat.le_of_ble_eq_true rfl) (fun X hX => ?_)
  refine g_aload_n hX dX3_empty_0 rfl rfl ?_
  refine g_iconst (v := 0) hX dX3_empty_1 (by decide) ?_
  refine g_put3I hX 0 dX3_empty_2 b_fl_X3_39 hV.k0 pf3_0 ?_
  try simp (disch := decide) only [wV_0, wV_at, wV_rS, wV_rS0, rS_eq, rS_ne, rS_rS, pk_us, pk_un]
  refine g_aload_n hX dX3_empty_5 rfl rfl ?_
  refine g_iconst (v := 0) hX dX3_empty_6 (by decide) ?_
  refine g_put3I hX 1 dX3_empty_7 b_fl_X3_43 hV.k0 pf3_1 ?_
  try simp (disch := decide) only [wV_0, wV_at, wV_rS, wV_rS0, rS_eq, rS_ne, rS_rS, pk_us, pk_un]
  refine g_aload_n hX dX3_empty_10 rfl rfl ?_
  refine g_iconst (v := 0) hX dX3_empty_11 (by decide) ?_
  refine g_put3I hX 2 dX3_empty_12 b_fl_X3_46 hV.k0 pf3_2 ?_
  try simp (disch := decide) only [wV_0, wV_at, wV_rS, wV_rS0, rS_eq, rS_ne, rS_rS, pk_us, pk_un]
  refine g_aload_n hX dX3_empty_15 rfl rfl ?_
  refine g_iconst (v := 0) hX dX3_empty_16 (by decide) ?_
  refine g_put3I hX 3 dX3_empty_17 b_fl_X3_49 hV.k0 pf3_3 ?_
  try simp (disch := decide) only [wV_0, wV_at, wV_rS, wV_rS0, rS_eq, rS_ne, rS_rS, pk_us, pk_un]
  refine g_aload_n hX dX3_empty_20 rfl rfl ?_
  refine g_iconst (v := 0) hX dX3_empty_21 (by decide) ?_
  refine g_put3I hX 4 dX3_empty_22 b_fl_X3_52 hV.k0 pf3_4 ?_
  try simp (disch := decide) only [wV_0, wV_at, wV_rS, wV_rS0, rS_eq, rS_ne, rS_rS, pk_us, pk_un]
  refine g_aload_n hX dX3_empty_25 rfl rfl ?_
  refine g_iconst (v := 0) hX dX3_empty_26 (by decide) ?_
  refine g_put3I hX 5 dX3_empty_27 b_fl_X3_55 hV.k0 pf3_5 ?_
  try simp (disch := decide) only [wV_0, wV_at, wV_rS, wV_rS0, rS_eq, rS_ne, rS_rS, pk_us, pk_un]
  exact g_vret hX dX3_empty_30 rfl (⟨rfl, rfl, rfl⟩)
set_option maxHeartbeats 4000000 in
set_option maxRecDepth 100000 in
theorem ok_addMan_V {w : WG} {I : SI} {L : SL} {V : VS} {v n : Nat} (hV : VL w v) (hn : V 0 0 = nI n) (hn4 : n < 4) (b h : Int32) : Ok w mX3_addMan [.ref (gA w v), .int b, .int h] (wV I v V) L (Vd I v (manV V n b h) L (some (.int (nI n)))) := by
  refine Ok.of (by decide) (Nat.le_of_ble_eq_true rfl) (fun X hX => ?_)
  refine g_aload_n hX dX3_addMan_0 rfl rfl ?_
  refine g_get3R hX 6 dX3_addMan_1 b_fl_X3_9 hV.k0 (by decide) hV.p6 ?_
  refine g_aload_n hX dX3_addMan_4 rfl rfl ?_
  refine g_get3I hX 0 dX3_addMan_5 b_fl_X3_39 hV.k0 (by decide) ?_
  try simp (disch := decide) only [wV_0, wV_at, wV_rS, wV_rS0, rS_eq, rS_ne, rS_rS, pk_us, pk_un]
  refine g_iload_n hX dX3_addMan_8 rfl rfl ?_
  refine g_iastN hX dX3_addMan_9 hV.k1 (⟨hn, by omega⟩) (by decide) ?_
  try simp (disch := decide) only [wV_0, wV_at, wV_rS, wV_rS0, rS_eq, rS_ne, rS_rS, pk_us, pk_un]
  refine g_aload_n hX dX3_addMan_10 rfl rfl ?_
  refine g_get3R hX 7 dX3_addMan_11 b_fl_X3_15 hV.k0 (by decide) hV.p7 ?_
  refine g_aload_n hX dX3_addMan_14 rfl rfl ?_
  refine g_get3I hX 0 dX3_addMan_15 b_fl_X3_39 hV.k0 (by decide) ?_
  try simp (disch := decide) only [wV_0, wV_at, wV_rS, wV_rS0, rS_eq, rS_ne, rS_rS, pk_us, pk_un]
  refine g_iload_n hX dX3_addMan_18 rfl rfl ?_
  refine g_iastN hX dX3_addMan_19 hV.k2 (⟨hn, by omega⟩) (by decide) ?_
  try simp (disch := decide) only [wV_0, wV_at, wV_rS, wV_rS0, rS_eq, rS_ne, rS_rS, pk_us, pk_un]
  refine g_aload_n hX dX3_addMan_20 rfl rfl ?_
  refine g_get3R hX 8 dX3_addMan_21 b_fl_X3_18 hV.k0 (by decide) hV.p8 ?_
  refine g_aload_n hX dX3_addMan_24 rfl rfl ?_
  refine g_get3I hX 0 dX3_addMan_25 b_fl_X3_39 hV.k0 (by decide) ?_
  try simp (disch := decide) only [wV_0, wV_at, wV_rS, wV_rS0, rS_eq, rS_ne, rS_rS, pk_us, pk_un]
  refine g_iconst (v := 0) hX dX3_addMan_28 (by decide) ?_
  refine g_iastN hX dX3_addMan_29 hV.k3 (⟨hn, by omega⟩) (by decide) ?_
  try simp (disch := decide) only [wV_0, wV_at, wV_rS, wV_rS0, rS_eq, rS_ne, rS_rS, pk_us, pk_un]
  refine g_aload_n hX dX3_addMan_30 rfl rfl ?_
  refine g_iconst (v := 0) hX dX3_addMan_31 (by decide) ?_
  refine g_put3I hX 5 dX3_addMan_32 b_fl_X3_55 hV.k0 pf3_5 ?_
  try simp (disch := decide) only [wV_0, wV_at, wV_rS, wV_rS0, rS_eq, rS_ne, rS_rS, pk_us, pk_un]
  refine g_aload_n hX dX3_addMan_35 rfl rfl ?_
  refine g_dup hX dX3_addMan_36 rfl ?_
  refine g_get3I hX 0 dX3_addMan_37 b_fl_X3_39 hV.k0 (by decide) ?_
  try simp (disch := decide) only [wV_0, wV_at, wV_rS, wV_rS0, rS_eq, rS_ne, rS_rS, pk_us, pk_un]
  refine g_dup_x1 hX dX3_addMan_40 rfl rfl ?_
  refine g_iconst (v := 1) hX dX3_addMan_41 (by decide) ?_
  refine g_iadd hX dX3_addMan_42 ?_
  refine g_put3I hX 0 dX3_addMan_43 b_fl_X3_39 hV.k0 pf3_0 ?_
  try simp (disch := decide) only [wV_0, wV_at, wV_rS, wV_rS0, rS_eq, rS_ne, rS_rS, pk_us, pk_un]
  exact g_iret hX dX3_addMan_46 rfl (⟨by rw [hn], by rw [manV, hn], rfl⟩)
set_option maxHeartbeats 4000000 in
set_option maxRecDepth 100000 in
theorem ok_addDog_V {w : WG} {I : SI} {L : SL} {V : VS} {v d : Nat} (hV : VL w v) (hd : V 0 1 = nI d) (hd7 : d < 7) (k x h f : Int32) : Ok w mX3_addDog [.ref (gA w v), .int k, .int x, .int h, .int f] (wV I v V) L (Vd I v (dogV V d k x h f) L (some (.int (nI d)))) := by
  refine Ok.of (by decide) (Nat.le_of_ble_eq_true rfl) (fun X hX => ?_)
  refine g_aload_n hX dX3_addDog_0 rfl rfl ?_
  refine g_get3R hX 9 dX3_addDog_1 b_fl_X3_21 hV.k0 (by decide) hV.p9 ?_
  refine g_aload_n hX dX3_addDog_4 rfl rfl ?_
  refine g_get3I hX 1 dX3_addDog_5 b_fl_X3_43 hV.k0 (by decide) ?_
  try simp (disch := decide) only [wV_0, wV_at, wV_rS, wV_rS0, rS_eq, rS_ne, rS_rS, pk_us, pk_un]
  refine g_iload_n hX dX3_addDog_8 rfl rfl ?_
  refine g_iastN hX dX3_addDog_9 hV.k4 (⟨hd, by omega⟩) (by decide) ?_
  try simp (disch := decide) only [wV_0, wV_at, wV_rS, wV_rS0, rS_eq, rS_ne, rS_rS, pk_us, pk_un]
  refine g_aload_n hX dX3_addDog_10 rfl rfl ?_
  refine g_get3R hX 10 dX3_addDog_11 b_fl_X3_24 hV.k0 (by decide) hV.p10 ?_
  refine g_aload_n hX dX3_addDog_14 rfl rfl ?_
  refine g_get3I hX 1 dX3_addDog_15 b_fl_X3_43 hV.k0 (by decide) ?_
  try simp (disch := decide) only [wV_0, wV_at, wV_rS, wV_rS0, rS_eq, rS_ne, rS_rS, pk_us, pk_un]
  refine g_iload_n hX dX3_addDog_18 rfl rfl ?_
  refine g_iastN hX dX3_addDog_19 hV.k5 (⟨hd, by omega⟩) (by decide) ?_
  try simp (disch := decide) only [wV_0, wV_at, wV_rS, wV_rS0, rS_eq, rS_ne, rS_rS, pk_us, pk_un]
  refine g_aload_n hX dX3_addDog_20 rfl rfl ?_
  refine g_get3R hX 11 dX3_addDog_21 b_fl_X3_27 hV.k0 (by decide) hV.p11 ?_
  refine g_aload_n hX dX3_addDog_24 rfl rfl ?_
  refine g_get3I hX 1 dX3_addDog_25 b_fl_X3_43 hV.k0 (by decide) ?_
  try simp (disch := decide) only [wV_0, wV_at, wV_rS, wV_rS0, rS_eq, rS_ne, rS_rS, pk_us, pk_un]
  refine g_iload_n hX dX3_addDog_28 rfl rfl ?_
  refine g_iastN hX dX3_addDog_29 hV.k6 (⟨hd, by omega⟩) (by decide) ?_
  try simp (disch := decide) only [wV_0, wV_at, wV_rS, wV_rS0, rS_eq, rS_ne, rS_rS, pk_us, pk_un]
  refine g_aload_n hX dX3_addDog_30 rfl rfl ?_
  refine g_get3R hX 12 dX3_addDog_31 b_fl_X3_30 hV.k0 (by decide) hV.p12 ?_
  refine g_aload_n hX dX3_addDog_34 rfl rfl ?_
  refine g_get3I hX 1 dX3_addDog_35 b_fl_X3_43 hV.k0 (by decide) ?_
  try simp (disch := decide) only [wV_0, wV_at, wV_rS, wV_rS0, rS_eq, rS_ne, rS_rS, pk_us, pk_un]
  refine g_iload hX dX3_addDog_38 rfl ?_
  refine g_iastN hX dX3_addDog_40 hV.k7 (⟨hd, by omega⟩) (by decide) ?_
  try simp (disch := decide) only [wV_0, wV_at, wV_rS, wV_rS0, rS_eq, rS_ne, rS_rS, pk_us, pk_un]
  refine g_aload_n hX dX3_addDog_41 rfl rfl ?_
  refine g_iconst (v := 0) hX dX3_addDog_42 (by decide) ?_
  refine g_put3I hX 5 dX3_addDog_43 b_fl_X3_55 hV.k0 pf3_5 ?_
  try simp (disch := decide) only [wV_0, wV_at, wV_rS, wV_rS0, rS_eq, rS_ne, rS_rS, pk_us, pk_un]
  refine g_aload_n hX dX3_addDog_46 rfl rfl ?_
  refine g_dup hX dX3_addDog_47 rfl ?_
  refine g_get3I hX 1 dX3_addDog_48 b_fl_X3_43 hV.k0 (by decide) ?_
  try simp (disch := decide) only [wV_0, wV_at, wV_rS, wV_rS0, rS_eq, rS_ne, rS_rS, pk_us, pk_un]
  refine g_dup_x1 hX dX3_addDog_51 rfl rfl ?_
  refine g_iconst (v := 1) hX dX3_addDog_52 (by decide) ?_
  refine g_iadd hX dX3_addDog_53 ?_
  refine g_put3I hX 1 dX3_addDog_54 b_fl_X3_43 hV.k0 pf3_1 ?_
  try simp (disch := decide) only [wV_0, wV_at, wV_rS, wV_rS0, rS_eq, rS_ne, rS_rS, pk_us, pk_un]
  exact g_iret hX dX3_addDog_57 rfl (⟨by rw [hd], by rw [dogV, hd], rfl⟩)
set_option maxHeartbeats 4000000 in
set_option maxRecDepth 100000 in
theorem ok_putToSleep_V {w : WG} {I : SI} {L : SL} {V : VS} {v c k : Nat} (hV : VL w v) (hc : c < 4) (hk : k < 7) : Ok w mX3_putToSleep [.ref (gA w v), .int (nI c), .int (nI k)] (wV I v V) L (Vd I v (putV V c k) L (none)) := by
  refine Ok.of (by decide) (Nat.le_of_ble_eq_true rfl) (fun X hX => ?_)
  refine g_aload_n hX dX3_putToSleep_0 rfl rfl ?_
  refine g_dup hX dX3_putToSleep_1 rfl ?_
  refine g_get3I hX 2 dX3_putToSleep_2 b_fl_X3_46 hV.k0 (by decide) ?_
  try simp (disch := decide) only [wV_0, wV_at, wV_rS, wV_rS0, rS_eq, rS_ne, rS_rS, pk_us, pk_un]
  refine g_iconst (v := 1) hX dX3_putToSleep_5 (by decide) ?_
  refine g_iload_n hX dX3_putToSleep_6 rfl rfl ?_
  refine g_ishl hX dX3_putToSleep_7 ?_
  refine g_ior hX dX3_putToSleep_8 ?_
  refine g_put3I hX 2 dX3_putToSleep_9 b_fl_X3_46 hV.k0 pf3_2 ?_
  try simp (disch := decide) only [wV_0, wV_at, wV_rS, wV_rS0, rS_eq, rS_ne, rS_rS, pk_us, pk_un]
  refine g_aload_n hX dX3_putToSleep_12 rfl rfl ?_
  refine g_get3R hX 7 dX3_putToSleep_13 b_fl_X3_15 hV.k0 (by decide) hV.p7 ?_
  refine g_iload_n hX dX3_putToSleep_16 rfl rfl ?_
  refine g_dup2 hX dX3_putToSleep_17 rfl rfl ?_
  refine g_ialdN hX dX3_putToSleep_18 hV.k2 (⟨rfl, by omega⟩) (by decide) ?_
  try simp (disch := decide) only [wV_0, wV_at, wV_rS, wV_rS0, rS_eq, rS_ne, rS_rS, pk_us, pk_un]
  refine g_aload_n hX dX3_putToSleep_19 rfl rfl ?_
  refine g_get3R hX 11 dX3_putToSleep_20 b_fl_X3_27 hV.k0 (by decide) hV.p11 ?_
  refine g_iload_n hX dX3_putToSleep_23 rfl rfl ?_
  refine g_ialdN hX dX3_putToSleep_24 hV.k6 (⟨rfl, by omega⟩) (by decide) ?_
  try simp (disch := decide) only [wV_0, wV_at, wV_rS, wV_rS0, rS_eq, rS_ne, rS_rS, pk_us, pk_un]
  refine g_isub hX dX3_putToSleep_25 ?_
  refine g_iastN hX dX3_putToSleep_26 hV.k2 (⟨rfl, by omega⟩) (by decide) ?_
  try simp (disch := decide) only [wV_0, wV_at, wV_rS, wV_rS0, rS_eq, rS_ne, rS_rS, pk_us, pk_un]
  exact g_vret hX dX3_putToSleep_27 rfl (⟨rfl, rfl, rfl⟩)
set_option maxHeartbeats 4000000 in
set_option maxRecDepth 100000 in
theorem ok_addNote_V {w : WG} {I : SI} {L : SL} {V : VS} {v q : Nat} (hV : VL w v) (hq : V 0 4 = nI q) (hq6 : q < 6) (k f b t : Int32) : Ok w mX3_addNote [.ref (gA w v), .int k, .int f, .int b, .int t] (wV I v V) L (Vd I v (noteV V q k f b t) L (some (.int (nI q + 1)))) := by
  refine Ok.of (by decide) (Nat.le_of_ble_eq_true rfl) (fun X hX => ?_)
  refine g_aload_n hX dX3_addNote_0 rfl rfl ?_
  refine g_get3I hX 4 dX3_addNote_1 b_fl_X3_52 hV.k0 (by decide) ?_
  try simp (disch := decide) only [wV_0, wV_at, wV_rS, wV_rS0, rS_eq, rS_ne, rS_rS, pk_us, pk_un]
  rw [hq]
  refine g_iconst (v := 4) hX dX3_addNote_4 (by decide) ?_
  refine g_imul hX dX3_addNote_5 ?_
  rw [show (4 : Int32) = nI 4 from rfl, pk_mul]
  refine g_istore hX dX3_addNote_6 (by decide) ?_
  refine g_aload_n hX dX3_addNote_8 rfl rfl ?_
  refine g_get3R hX 13 dX3_addNote_9 b_fl_X3_33 hV.k0 (by decide) hV.p13 ?_
  refine g_iload hX dX3_addNote_12 rfl ?_
  refine g_iload_n hX dX3_addNote_14 rfl rfl ?_
  refine g_iastN hX dX3_addNote_15 hV.k8 (⟨rfl, by omega⟩) (by decide) ?_
  try simp (disch := decide) only [wV_0, wV_at, wV_rS, wV_rS0, rS_eq, rS_ne, rS_rS, pk_us, pk_un]
  refine g_aload_n hX dX3_addNote_16 rfl rfl ?_
  refine g_get3R hX 13 dX3_addNote_17 b_fl_X3_33 hV.k0 (by decide) hV.p13 ?_
  refine g_iload hX dX3_addNote_20 rfl ?_
  refine g_iconst (v := 1) hX dX3_addNote_22 (by decide) ?_
  refine g_iadd hX dX3_addNote_23 ?_
  refine g_iload_n hX dX3_addNote_24 rfl rfl ?_
  refine g_iastN hX dX3_addNote_25 hV.k8 (⟨nI_1 _, by omega⟩) (by decide) ?_
  try simp (disch := decide) only [wV_0, wV_at, wV_rS, wV_rS0, rS_eq, rS_ne, rS_rS, pk_us, pk_un]
  refine g_aload_n hX dX3_addNote_26 rfl rfl ?_
  refine g_get3R hX 13 dX3_addNote_27 b_fl_X3_33 hV.k0 (by decide) hV.p13 ?_
  refine g_iload hX dX3_addNote_30 rfl ?_
  refine g_iconst (v := 2) hX dX3_addNote_32 (by decide) ?_
  refine g_iadd hX dX3_addNote_33 ?_
  refine g_iload_n hX dX3_addNote_34 rfl rfl ?_
  refine g_iastN hX dX3_addNote_35 hV.k8 (⟨nI_add _ 2, by omega⟩) (by decide) ?_
  try simp (disch := decide) only [wV_0, wV_at, wV_rS, wV_rS0, rS_eq, rS_ne, rS_rS, pk_us, pk_un]
  refine g_aload_n hX dX3_addNote_36 rfl rfl ?_
  refine g_get3R hX 13 dX3_addNote_37 b_fl_X3_33 hV.k0 (by decide) hV.p13 ?_
  refine g_iload hX dX3_addNote_40 rfl ?_
  refine g_iconst (v := 3) hX dX3_addNote_42 (by decide) ?_
  refine g_iadd hX dX3_addNote_43 ?_
  refine g_iload hX dX3_addNote_44 rfl ?_
  refine g_iastN hX dX3_addNote_46 hV.k8 (⟨nI_add _ 3, by omega⟩) (by decide) ?_
  try simp (disch := decide) only [wV_0, wV_at, wV_rS, wV_rS0, rS_eq, rS_ne, rS_rS, pk_us, pk_un]
  refine g_aload_n hX dX3_addNote_47 rfl rfl ?_
  refine g_dup hX dX3_addNote_48 rfl ?_
  refine g_get3I hX 4 dX3_addNote_49 b_fl_X3_52 hV.k0 (by decide) ?_
  try simp (disch := decide) only [wV_0, wV_at, wV_rS, wV_rS0, rS_eq, rS_ne, rS_rS, pk_us, pk_un]
  refine g_iconst (v := 1) hX dX3_addNote_52 (by decide) ?_
  refine g_iadd hX dX3_addNote_53 ?_
  refine g_put3I hX 4 dX3_addNote_54 b_fl_X3_52 hV.k0 pf3_4 ?_
  try simp (disch := decide) only [wV_0, wV_at, wV_rS, wV_rS0, rS_eq, rS_ne, rS_rS, pk_us, pk_un]
  refine g_aload_n hX dX3_addNote_57 rfl rfl ?_
  refine g_get3I hX 4 dX3_addNote_58 b_fl_X3_52 hV.k0 (by decide) ?_
  try simp (disch := decide) only [wV_0, wV_at, wV_rS, wV_rS0, rS_eq, rS_ne, rS_rS, pk_us, pk_un]
  exact g_iret hX dX3_addNote_61 rfl (⟨by rw [hq], by rw [noteV, hq], rfl⟩)
end
