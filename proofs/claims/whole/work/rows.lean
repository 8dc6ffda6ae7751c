section
-- ===== PART A: goes FIRST, ahead of the names: the tables' words, and 'selects' of the private methods out of them =====
/-- a private method of a class that the tables say can be made, by its rows of tables_1 -/
def lw_okq (q : MethodName × Nat) : Prop := (q.1.cls ≠ "java/lang/invoke/MethodHandle" ∧ q.1.cls ≠ "java/lang/invoke/VarHandle") ∧ Cond.instantiable q.1.cls q.2 ∈ tables_1 ∧ Cond.privateMethod q.1 ∈ tables_1 ∧ Cond.instanceMethod q.1 ∈ tables_1
theorem lw_p0 : lw_okq (⟨"DogsPostman", "refuse", "(I)I"⟩, 12) := ⟨⟨by decide +kernel, by decide +kernel⟩, List.mem_of_getElem? (i := 15) (by decide +kernel), List.mem_of_getElem? (i := 160) (by decide +kernel), List.mem_of_getElem? (i := 161) (by decide +kernel)⟩
theorem lw_p1 : lw_okq (⟨"DogsPostman", "lookAhead", "(I)V"⟩, 12) := ⟨⟨by decide +kernel, by decide +kernel⟩, List.mem_of_getElem? (i := 15) (by decide +kernel), List.mem_of_getElem? (i := 427) (by decide +kernel), List.mem_of_getElem? (i := 428) (by decide +kernel)⟩
theorem lw_p2 : lw_okq (⟨"DogsPostman", "winsByBribing", "(II)Z"⟩, 12) := ⟨⟨by decide +kernel, by decide +kernel⟩, List.mem_of_getElem? (i := 15) (by decide +kernel), List.mem_of_getElem? (i := 455) (by decide +kernel), List.mem_of_getElem? (i := 456) (by decide +kernel)⟩
theorem lw_p3 : lw_okq (⟨"DogsPostman", "fillGains", "(II)V"⟩, 12) := ⟨⟨by decide +kernel, by decide +kernel⟩, List.mem_of_getElem? (i := 15) (by decide +kernel), List.mem_of_getElem? (i := 513) (by decide +kernel), List.mem_of_getElem? (i := 514) (by decide +kernel)⟩
theorem lw_p4 : lw_okq (⟨"DogsPostman", "mayChoose", "(I)Z"⟩, 12) := ⟨⟨by decide +kernel, by decide +kernel⟩, List.mem_of_getElem? (i := 15) (by decide +kernel), List.mem_of_getElem? (i := 517) (by decide +kernel), List.mem_of_getElem? (i := 518) (by decide +kernel)⟩
theorem lw_p5 : lw_okq (⟨"DogsPostman", "rests", "(II)Z"⟩, 12) := ⟨⟨by decide +kernel, by decide +kernel⟩, List.mem_of_getElem? (i := 15) (by decide +kernel), List.mem_of_getElem? (i := 527) (by decide +kernel), List.mem_of_getElem? (i := 528) (by decide +kernel)⟩
theorem lw_p6 : lw_okq (⟨"DogsPostman", "counted", "(I)I"⟩, 12) := ⟨⟨by decide +kernel, by decide +kernel⟩, List.mem_of_getElem? (i := 15) (by decide +kernel), List.mem_of_getElem? (i := 568) (by decide +kernel), List.mem_of_getElem? (i := 569) (by decide +kernel)⟩
theorem lw_p7 : lw_okq (⟨"DogsPostmanModel", "begin", "()V"⟩, 34) := ⟨⟨by decide +kernel, by decide +kernel⟩, List.mem_of_getElem? (i := 583) (by decide +kernel), List.mem_of_getElem? (i := 589) (by decide +kernel), List.mem_of_getElem? (i := 590) (by decide +kernel)⟩
theorem lw_p8 : lw_okq (⟨"DogsPostmanModel", "bad", "()I"⟩, 34) := ⟨⟨by decide +kernel, by decide +kernel⟩, List.mem_of_getElem? (i := 583) (by decide +kernel), List.mem_of_getElem? (i := 707) (by decide +kernel), List.mem_of_getElem? (i := 708) (by decide +kernel)⟩
theorem lw_p9 : lw_okq (⟨"DogsPostmanModel", "full", "()I"⟩, 34) := ⟨⟨by decide +kernel, by decide +kernel⟩, List.mem_of_getElem? (i := 583) (by decide +kernel), List.mem_of_getElem? (i := 711) (by decide +kernel), List.mem_of_getElem? (i := 712) (by decide +kernel)⟩
theorem lw_p10 : lw_okq (⟨"DogsPostmanModel", "addMan", "(II)I"⟩, 34) := ⟨⟨by decide +kernel, by decide +kernel⟩, List.mem_of_getElem? (i := 583) (by decide +kernel), List.mem_of_getElem? (i := 715) (by decide +kernel), List.mem_of_getElem? (i := 716) (by decide +kernel)⟩
theorem lw_p11 : lw_okq (⟨"DogsPostmanModel", "addDog", "(IIII)I"⟩, 34) := ⟨⟨by decide +kernel, by decide +kernel⟩, List.mem_of_getElem? (i := 583) (by decide +kernel), List.mem_of_getElem? (i := 723) (by decide +kernel), List.mem_of_getElem? (i := 724) (by decide +kernel)⟩
theorem lw_p12 : lw_okq (⟨"DogsPostmanModel", "readsVillage", "()I"⟩, 34) := ⟨⟨by decide +kernel, by decide +kernel⟩, List.mem_of_getElem? (i := 583) (by decide +kernel), List.mem_of_getElem? (i := 739) (by decide +kernel), List.mem_of_getElem? (i := 740) (by decide +kernel)⟩
theorem lw_p13 : lw_okq (⟨"DogsPostmanModel", "skip", "()V"⟩, 34) := ⟨⟨by decide +kernel, by decide +kernel⟩, List.mem_of_getElem? (i := 583) (by decide +kernel), List.mem_of_getElem? (i := 743) (by decide +kernel), List.mem_of_getElem? (i := 744) (by decide +kernel)⟩
theorem lw_p14 : lw_okq (⟨"DogsPostmanModel", "here", "()I"⟩, 34) := ⟨⟨by decide +kernel, by decide +kernel⟩, List.mem_of_getElem? (i := 583) (by decide +kernel), List.mem_of_getElem? (i := 747) (by decide +kernel), List.mem_of_getElem? (i := 748) (by decide +kernel)⟩
theorem lw_p15 : lw_okq (⟨"DogsPostmanModel", "wordHere", "()I"⟩, 34) := ⟨⟨by decide +kernel, by decide +kernel⟩, List.mem_of_getElem? (i := 583) (by decide +kernel), List.mem_of_getElem? (i := 751) (by decide +kernel), List.mem_of_getElem? (i := 752) (by decide +kernel)⟩
def lw_privs_1 : List (MethodName × Nat) := [(⟨"DogsPostman", "refuse", "(I)I"⟩, 12), (⟨"DogsPostman", "lookAhead", "(I)V"⟩, 12), (⟨"DogsPostman", "winsByBribing", "(II)Z"⟩, 12), (⟨"DogsPostman", "fillGains", "(II)V"⟩, 12), (⟨"DogsPostman", "mayChoose", "(I)Z"⟩, 12), (⟨"DogsPostman", "rests", "(II)Z"⟩, 12), (⟨"DogsPostman", "counted", "(I)I"⟩, 12), (⟨"DogsPostmanModel", "begin", "()V"⟩, 34), (⟨"DogsPostmanModel", "bad", "()I"⟩, 34), (⟨"DogsPostmanModel", "full", "()I"⟩, 34), (⟨"DogsPostmanModel", "addMan", "(II)I"⟩, 34), (⟨"DogsPostmanModel", "addDog", "(IIII)I"⟩, 34), (⟨"DogsPostmanModel", "readsVillage", "()I"⟩, 34), (⟨"DogsPostmanModel", "skip", "()V"⟩, 34), (⟨"DogsPostmanModel", "here", "()I"⟩, 34), (⟨"DogsPostmanModel", "wordHere", "()I"⟩, 34)]
theorem lw_r1 : ∀ q ∈ lw_privs_1, lw_okq q := List.forall_mem_cons.mpr ⟨lw_p0, List.forall_mem_cons.mpr ⟨lw_p1, List.forall_mem_cons.mpr ⟨lw_p2, List.forall_mem_cons.mpr ⟨lw_p3, List.forall_mem_cons.mpr ⟨lw_p4, List.forall_mem_cons.mpr ⟨lw_p5, List.forall_mem_cons.mpr ⟨lw_p6, List.forall_mem_cons.mpr ⟨lw_p7, List.forall_mem_cons.mpr ⟨lw_p8, List.forall_mem_cons.mpr ⟨lw_p9, List.forall_mem_cons.mpr ⟨lw_p10, List.forall_mem_cons.mpr ⟨lw_p11, List.forall_mem_cons.mpr ⟨lw_p12, List.forall_mem_cons.mpr ⟨lw_p13, List.forall_mem_cons.mpr ⟨lw_p14, List.forall_mem_cons.mpr ⟨lw_p15, fun _ h => absurd h List.not_mem_nil⟩⟩⟩⟩⟩⟩⟩⟩⟩⟩⟩⟩⟩⟩⟩⟩
theorem lw_p16 : lw_okq (⟨"DogsPostmanModel", "wordSize", "()I"⟩, 34) := ⟨⟨by decide +kernel, by decide +kernel⟩, List.mem_of_getElem? (i := 583) (by decide +kernel), List.mem_of_getElem? (i := 755) (by decide +kernel), List.mem_of_getElem? (i := 756) (by decide +kernel)⟩
theorem lw_p17 : lw_okq (⟨"DogsPostmanModel", "letter", "(I)I"⟩, 34) := ⟨⟨by decide +kernel, by decide +kernel⟩, List.mem_of_getElem? (i := 583) (by decide +kernel), List.mem_of_getElem? (i := 762) (by decide +kernel), List.mem_of_getElem? (i := 763) (by decide +kernel)⟩
theorem lw_p18 : lw_okq (⟨"DogsPostmanModel", "ends", "()Z"⟩, 34) := ⟨⟨by decide +kernel, by decide +kernel⟩, List.mem_of_getElem? (i := 583) (by decide +kernel), List.mem_of_getElem? (i := 766) (by decide +kernel), List.mem_of_getElem? (i := 767) (by decide +kernel)⟩
theorem lw_p19 : lw_okq (⟨"DogsPostmanModel", "readsItem", "()Z"⟩, 34) := ⟨⟨by decide +kernel, by decide +kernel⟩, List.mem_of_getElem? (i := 583) (by decide +kernel), List.mem_of_getElem? (i := 770) (by decide +kernel), List.mem_of_getElem? (i := 771) (by decide +kernel)⟩
theorem lw_p20 : lw_okq (⟨"DogsPostmanModel", "readsMan", "()Z"⟩, 34) := ⟨⟨by decide +kernel, by decide +kernel⟩, List.mem_of_getElem? (i := 583) (by decide +kernel), List.mem_of_getElem? (i := 774) (by decide +kernel), List.mem_of_getElem? (i := 775) (by decide +kernel)⟩
theorem lw_p21 : lw_okq (⟨"DogsPostmanModel", "number", "(II)Z"⟩, 34) := ⟨⟨by decide +kernel, by decide +kernel⟩, List.mem_of_getElem? (i := 583) (by decide +kernel), List.mem_of_getElem? (i := 778) (by decide +kernel), List.mem_of_getElem? (i := 779) (by decide +kernel)⟩
theorem lw_p22 : lw_okq (⟨"DogsPostmanModel", "readsDog", "()Z"⟩, 34) := ⟨⟨by decide +kernel, by decide +kernel⟩, List.mem_of_getElem? (i := 583) (by decide +kernel), List.mem_of_getElem? (i := 785) (by decide +kernel), List.mem_of_getElem? (i := 786) (by decide +kernel)⟩
theorem lw_p23 : lw_okq (⟨"DogsPostmanModel", "readsBribe", "()Z"⟩, 34) := ⟨⟨by decide +kernel, by decide +kernel⟩, List.mem_of_getElem? (i := 583) (by decide +kernel), List.mem_of_getElem? (i := 789) (by decide +kernel), List.mem_of_getElem? (i := 790) (by decide +kernel)⟩
theorem lw_p24 : lw_okq (⟨"DogsPostmanModel", "isMan", "(I)Z"⟩, 34) := ⟨⟨by decide +kernel, by decide +kernel⟩, List.mem_of_getElem? (i := 583) (by decide +kernel), List.mem_of_getElem? (i := 800) (by decide +kernel), List.mem_of_getElem? (i := 801) (by decide +kernel)⟩
theorem lw_p25 : lw_okq (⟨"DogsPostmanModel", "isDog", "(I)Z"⟩, 34) := ⟨⟨by decide +kernel, by decide +kernel⟩, List.mem_of_getElem? (i := 583) (by decide +kernel), List.mem_of_getElem? (i := 804) (by decide +kernel), List.mem_of_getElem? (i := 805) (by decide +kernel)⟩
theorem lw_p26 : lw_okq (⟨"DogsPostmanModel", "no", "()I"⟩, 34) := ⟨⟨by decide +kernel, by decide +kernel⟩, List.mem_of_getElem? (i := 583) (by decide +kernel), List.mem_of_getElem? (i := 808) (by decide +kernel), List.mem_of_getElem? (i := 809) (by decide +kernel)⟩
theorem lw_p27 : lw_okq (⟨"DogsPostmanModel", "notes", "()V"⟩, 34) := ⟨⟨by decide +kernel, by decide +kernel⟩, List.mem_of_getElem? (i := 583) (by decide +kernel), List.mem_of_getElem? (i := 812) (by decide +kernel), List.mem_of_getElem? (i := 813) (by decide +kernel)⟩
theorem lw_p28 : lw_okq (⟨"DogsPostmanModel", "lays", "([II)V"⟩, 34) := ⟨⟨by decide +kernel, by decide +kernel⟩, List.mem_of_getElem? (i := 583) (by decide +kernel), List.mem_of_getElem? (i := 816) (by decide +kernel), List.mem_of_getElem? (i := 817) (by decide +kernel)⟩
theorem lw_p29 : lw_okq (⟨"DogsPostmanModel", "pass", "()V"⟩, 34) := ⟨⟨by decide +kernel, by decide +kernel⟩, List.mem_of_getElem? (i := 583) (by decide +kernel), List.mem_of_getElem? (i := 824) (by decide +kernel), List.mem_of_getElem? (i := 825) (by decide +kernel)⟩
theorem lw_p30 : lw_okq (⟨"DogsPostmanModel", "firstOf", "(I)I"⟩, 34) := ⟨⟨by decide +kernel, by decide +kernel⟩, List.mem_of_getElem? (i := 583) (by decide +kernel), List.mem_of_getElem? (i := 828) (by decide +kernel), List.mem_of_getElem? (i := 829) (by decide +kernel)⟩
theorem lw_p31 : lw_okq (⟨"DogsPostmanModel", "comesTo", "(III)I"⟩, 34) := ⟨⟨by decide +kernel, by decide +kernel⟩, List.mem_of_getElem? (i := 583) (by decide +kernel), List.mem_of_getElem? (i := 832) (by decide +kernel), List.mem_of_getElem? (i := 833) (by decide +kernel)⟩
def lw_privs_2 : List (MethodName × Nat) := [(⟨"DogsPostmanModel", "wordSize", "()I"⟩, 34), (⟨"DogsPostmanModel", "letter", "(I)I"⟩, 34), (⟨"DogsPostmanModel", "ends", "()Z"⟩, 34), (⟨"DogsPostmanModel", "readsItem", "()Z"⟩, 34), (⟨"DogsPostmanModel", "readsMan", "()Z"⟩, 34), (⟨"DogsPostmanModel", "number", "(II)Z"⟩, 34), (⟨"DogsPostmanModel", "readsDog", "()Z"⟩, 34), (⟨"DogsPostmanModel", "readsBribe", "()Z"⟩, 34), (⟨"DogsPostmanModel", "isMan", "(I)Z"⟩, 34), (⟨"DogsPostmanModel", "isDog", "(I)Z"⟩, 34), (⟨"DogsPostmanModel", "no", "()I"⟩, 34), (⟨"DogsPostmanModel", "notes", "()V"⟩, 34), (⟨"DogsPostmanModel", "lays", "([II)V"⟩, 34), (⟨"DogsPostmanModel", "pass", "()V"⟩, 34), (⟨"DogsPostmanModel", "firstOf", "(I)I"⟩, 34), (⟨"DogsPostmanModel", "comesTo", "(III)I"⟩, 34)]
theorem lw_r2 : ∀ q ∈ lw_privs_2, lw_okq q := List.forall_mem_cons.mpr ⟨lw_p16, List.forall_mem_cons.mpr ⟨lw_p17, List.forall_mem_cons.mpr ⟨lw_p18, List.forall_mem_cons.mpr ⟨lw_p19, List.forall_mem_cons.mpr ⟨lw_p20, List.forall_mem_cons.mpr ⟨lw_p21, List.forall_mem_cons.mpr ⟨lw_p22, List.forall_mem_cons.mpr ⟨lw_p23, List.forall_mem_cons.mpr ⟨lw_p24, List.forall_mem_cons.mpr ⟨lw_p25, List.forall_mem_cons.mpr ⟨lw_p26, List.forall_mem_cons.mpr ⟨lw_p27, List.forall_mem_cons.mpr ⟨lw_p28, List.forall_mem_cons.mpr ⟨lw_p29, List.forall_mem_cons.mpr ⟨lw_p30, List.forall_mem_cons.mpr ⟨lw_p31, fun _ h => absurd h List.not_mem_nil⟩⟩⟩⟩⟩⟩⟩⟩⟩⟩⟩⟩⟩⟩⟩⟩
theorem lw_p32 : lw_okq (⟨"DogsPostmanModel", "isBitten", "(III)Z"⟩, 34) := ⟨⟨by decide +kernel, by decide +kernel⟩, List.mem_of_getElem? (i := 583) (by decide +kernel), List.mem_of_getElem? (i := 836) (by decide +kernel), List.mem_of_getElem? (i := 837) (by decide +kernel)⟩
theorem lw_p33 : lw_okq (⟨"DogsPostmanModel", "postman", "()I"⟩, 34) := ⟨⟨by decide +kernel, by decide +kernel⟩, List.mem_of_getElem? (i := 583) (by decide +kernel), List.mem_of_getElem? (i := 849) (by decide +kernel), List.mem_of_getElem? (i := 850) (by decide +kernel)⟩
theorem lw_p34 : lw_okq (⟨"DogsPostmanModel", "takes", "([II)V"⟩, 34) := ⟨⟨by decide +kernel, by decide +kernel⟩, List.mem_of_getElem? (i := 583) (by decide +kernel), List.mem_of_getElem? (i := 857) (by decide +kernel), List.mem_of_getElem? (i := 858) (by decide +kernel)⟩
theorem lw_p35 : lw_okq (⟨"DogsPostmanModel", "puts", "()V"⟩, 34) := ⟨⟨by decide +kernel, by decide +kernel⟩, List.mem_of_getElem? (i := 583) (by decide +kernel), List.mem_of_getElem? (i := 877) (by decide +kernel), List.mem_of_getElem? (i := 878) (by decide +kernel)⟩
theorem lw_p36 : lw_okq (⟨"DogsPostmanModel", "back", "()V"⟩, 34) := ⟨⟨by decide +kernel, by decide +kernel⟩, List.mem_of_getElem? (i := 583) (by decide +kernel), List.mem_of_getElem? (i := 881) (by decide +kernel), List.mem_of_getElem? (i := 882) (by decide +kernel)⟩
theorem lw_p37 : lw_okq (⟨"DogsPostmanModel", "wonIn", "(II)I"⟩, 34) := ⟨⟨by decide +kernel, by decide +kernel⟩, List.mem_of_getElem? (i := 583) (by decide +kernel), List.mem_of_getElem? (i := 889) (by decide +kernel), List.mem_of_getElem? (i := 890) (by decide +kernel)⟩
theorem lw_p38 : lw_okq (⟨"DogsPostmanModel", "nextVillage", "()I"⟩, 34) := ⟨⟨by decide +kernel, by decide +kernel⟩, List.mem_of_getElem? (i := 583) (by decide +kernel), List.mem_of_getElem? (i := 893) (by decide +kernel), List.mem_of_getElem? (i := 894) (by decide +kernel)⟩
theorem lw_p39 : lw_okq (⟨"DogsPostmanModel", "hungerOf", "(I)I"⟩, 34) := ⟨⟨by decide +kernel, by decide +kernel⟩, List.mem_of_getElem? (i := 583) (by decide +kernel), List.mem_of_getElem? (i := 905) (by decide +kernel), List.mem_of_getElem? (i := 906) (by decide +kernel)⟩
theorem lw_p40 : lw_okq (⟨"DogsPostmanModel", "kindsOf", "(I)I"⟩, 34) := ⟨⟨by decide +kernel, by decide +kernel⟩, List.mem_of_getElem? (i := 583) (by decide +kernel), List.mem_of_getElem? (i := 933) (by decide +kernel), List.mem_of_getElem? (i := 934) (by decide +kernel)⟩
theorem lw_p41 : lw_okq (⟨"DogsPostmanModel", "ten", "()I"⟩, 34) := ⟨⟨by decide +kernel, by decide +kernel⟩, List.mem_of_getElem? (i := 583) (by decide +kernel), List.mem_of_getElem? (i := 946) (by decide +kernel), List.mem_of_getElem? (i := 947) (by decide +kernel)⟩
theorem lw_p42 : lw_okq (⟨"DogsPostmanModel", "isChoice", "(I)Z"⟩, 34) := ⟨⟨by decide +kernel, by decide +kernel⟩, List.mem_of_getElem? (i := 583) (by decide +kernel), List.mem_of_getElem? (i := 950) (by decide +kernel), List.mem_of_getElem? (i := 951) (by decide +kernel)⟩
theorem lw_p43 : lw_okq (⟨"DogsPostmanModel", "rests", "(IIII)Z"⟩, 34) := ⟨⟨by decide +kernel, by decide +kernel⟩, List.mem_of_getElem? (i := 583) (by decide +kernel), List.mem_of_getElem? (i := 954) (by decide +kernel), List.mem_of_getElem? (i := 955) (by decide +kernel)⟩
theorem lw_p44 : lw_okq (⟨"DogsPostmanModel", "gets", "(III)I"⟩, 34) := ⟨⟨by decide +kernel, by decide +kernel⟩, List.mem_of_getElem? (i := 583) (by decide +kernel), List.mem_of_getElem? (i := 958) (by decide +kernel), List.mem_of_getElem? (i := 959) (by decide +kernel)⟩
theorem lw_p45 : lw_okq (⟨"DogsPostmanModel", "lay", "(JJ)V"⟩, 34) := ⟨⟨by decide +kernel, by decide +kernel⟩, List.mem_of_getElem? (i := 583) (by decide +kernel), List.mem_of_getElem? (i := 967) (by decide +kernel), List.mem_of_getElem? (i := 968) (by decide +kernel)⟩
theorem lw_p46 : lw_okq (⟨"DogsPostmanModel", "countOf", "(I)I"⟩, 34) := ⟨⟨by decide +kernel, by decide +kernel⟩, List.mem_of_getElem? (i := 583) (by decide +kernel), List.mem_of_getElem? (i := 1001) (by decide +kernel), List.mem_of_getElem? (i := 1002) (by decide +kernel)⟩
theorem lw_p47 : lw_okq (⟨"DogsPostmanModel", "mix", "(J)V"⟩, 34) := ⟨⟨by decide +kernel, by decide +kernel⟩, List.mem_of_getElem? (i := 583) (by decide +kernel), List.mem_of_getElem? (i := 1013) (by decide +kernel), List.mem_of_getElem? (i := 1014) (by decide +kernel)⟩
def lw_privs_3 : List (MethodName × Nat) := [(⟨"DogsPostmanModel", "isBitten", "(III)Z"⟩, 34), (⟨"DogsPostmanModel", "postman", "()I"⟩, 34), (⟨"DogsPostmanModel", "takes", "([II)V"⟩, 34), (⟨"DogsPostmanModel", "puts", "()V"⟩, 34), (⟨"DogsPostmanModel", "back", "()V"⟩, 34), (⟨"DogsPostmanModel", "wonIn", "(II)I"⟩, 34), (⟨"DogsPostmanModel", "nextVillage", "()I"⟩, 34), (⟨"DogsPostmanModel", "hungerOf", "(I)I"⟩, 34), (⟨"DogsPostmanModel", "kindsOf", "(I)I"⟩, 34), (⟨"DogsPostmanModel", "ten", "()I"⟩, 34), (⟨"DogsPostmanModel", "isChoice", "(I)Z"⟩, 34), (⟨"DogsPostmanModel", "rests", "(IIII)Z"⟩, 34), (⟨"DogsPostmanModel", "gets", "(III)I"⟩, 34), (⟨"DogsPostmanModel", "lay", "(JJ)V"⟩, 34), (⟨"DogsPostmanModel", "countOf", "(I)I"⟩, 34), (⟨"DogsPostmanModel", "mix", "(J)V"⟩, 34)]
theorem lw_r3 : ∀ q ∈ lw_privs_3, lw_okq q := List.forall_mem_cons.mpr ⟨lw_p32, List.forall_mem_cons.mpr ⟨lw_p33, List.forall_mem_cons.mpr ⟨lw_p34, List.forall_mem_cons.mpr ⟨lw_p35, List.forall_mem_cons.mpr ⟨lw_p36, List.forall_mem_cons.mpr ⟨lw_p37, List.forall_mem_cons.mpr ⟨lw_p38, List.forall_mem_cons.mpr ⟨lw_p39, List.forall_mem_cons.mpr ⟨lw_p40, List.forall_mem_cons.mpr ⟨lw_p41, List.forall_mem_cons.mpr ⟨lw_p42, List.forall_mem_cons.mpr ⟨lw_p43, List.forall_mem_cons.mpr ⟨lw_p44, List.forall_mem_cons.mpr ⟨lw_p45, List.forall_mem_cons.mpr ⟨lw_p46, List.forall_mem_cons.mpr ⟨lw_p47, fun _ h => absurd h List.not_mem_nil⟩⟩⟩⟩⟩⟩⟩⟩⟩⟩⟩⟩⟩⟩⟩⟩
def lw_privs : List (MethodName × Nat) := lw_privs_1 ++ (lw_privs_2 ++ (lw_privs_3))
def lw_tbl : List Cond := k2_sels lw_privs ++ tables_1
theorem lw_privs_ok : ∀ q ∈ lw_privs, lw_okq q := by
  show ∀ q ∈ lw_privs_1 ++ (lw_privs_2 ++ (lw_privs_3)), lw_okq q
  exact List.forall_mem_append.mpr ⟨lw_r1, List.forall_mem_append.mpr ⟨lw_r2, lw_r3⟩⟩

/-! ===== BEGIN words of one list among another's, by their places ===== -/
theorem goodIn_r {big : List Cond} (ws : List Cond) (ps : List Nat) (hp : ws = ps.filterMap (fun i => big[i]?)) (h : ws.all goodWord = true) : GoodIn big ws := by
  intro w hw
  have h1 := List.all_eq_true.mp h w hw
  rw [hp] at hw
  obtain ⟨i, -, hi⟩ := List.mem_filterMap.mp hw
  have hm : w ∈ big := by first | exact List.mem_of_getElem? hi | exact List.getElem?_mem hi
  exact ⟨hm, good_of_word h1⟩
theorem goodIn_app {big a b : List Cond} (ha : GoodIn big a) (hb : GoodIn big b) : GoodIn big (a ++ b) := fun w h => (List.mem_append.mp h).elim (ha w) (hb w)
theorem goodIn_ca {big a b : List Cond} {c : Cond} (ha : GoodIn big (c :: a)) (hb : GoodIn big b) : GoodIn big (c :: (a ++ b)) := fun w h => (List.mem_cons.mp h).elim (fun e => ha w (List.mem_cons.mpr (Or.inl e))) (fun h => (List.mem_append.mp h).elim (fun h => ha w (List.mem_cons.mpr (Or.inr h))) (hb w))
theorem goodIn_sub {big ws : List Cond} (hm : ∀ w ∈ ws, w ∈ big) (h : ws.all goodWord = true) : GoodIn big ws := fun w hw => ⟨hm w hw, good_of_word (List.all_eq_true.mp h w hw)⟩
/-! ===== END ===== -/

/-! ===== BEGIN printed: names, fields, word lists, decode rows ===== -/
def RX0 : String := "DogsPostman$Kinds"
def TX0 : u_T := fun k => match k with
  | _ => ("", "", "", false)
def tyX0 : Nat → FieldType := fun k => match k with
  | _ => .int
abbrev wsX00 : List Cond := u_ws RX0 TX0 0
theorem nmX0 : ∀ a, a < 0 → ∀ b, b < 0 → a ≠ b → (TX0 a).2.1 ≠ (TX0 b).2.1 := by decide +kernel
theorem tyX0_ok : ∀ k, k < 0 → parseFieldDescriptor (TX0 k).2.2.1 = some (tyX0 k) := by decide +kernel
abbrev cX0_wouldBite : ByteArray := prog_2_method_2_code
def yX0_wouldBite : MethodName := ⟨RX0, "wouldBite", "(IZI)Z"⟩
abbrev cX0_bites : ByteArray := prog_2_method_3_code
def yX0_bites : MethodName := ⟨RX0, "bites", "(I)I"⟩
abbrev cX0_width : ByteArray := prog_2_method_4_code
def yX0_width : MethodName := ⟨RX0, "width", "(II)I"⟩
abbrev cX0_biting : ByteArray := prog_2_method_5_code
def yX0_biting : MethodName := ⟨RX0, "biting", "(ZI)I"⟩
def RX1 : String := "DogsPostman$Reader"
def TX1 : u_T := fun k => match k with
  | 0 => ("DogsPostman$Reader", "text", "LDogsPostman$Text;", true)
  | 1 => ("DogsPostman$Reader", "into", "LDogsPostman$Village;", true)
  | 2 => ("DogsPostman$Reader", "sort", "I", false)
  | 3 => ("DogsPostman$Reader", "at", "I", false)
  | 4 => ("DogsPostman$Reader", "behind", "I", false)
  | _ => ("DogsPostman$Reader", "value", "I", false)
def tyX1 : Nat → FieldType := fun k => match k with
  | 0 => .object "DogsPostman$Text"
  | 1 => .object "DogsPostman$Village"
  | 2 => .int
  | 3 => .int
  | 4 => .int
  | _ => .int
abbrev wsX10 : List Cond := u_ws RX1 TX1 6
theorem nmX1 : ∀ a, a < 6 → ∀ b, b < 6 → a ≠ b → (TX1 a).2.1 ≠ (TX1 b).2.1 := by decide +kernel
theorem tyX1_ok : ∀ k, k < 6 → parseFieldDescriptor (TX1 k).2.2.1 = some (tyX1 k) := by decide +kernel
abbrev cX1_init : ByteArray := prog_3_method_1_code
def yX1_init : MethodName := ⟨RX1, "<init>", "(LDogsPostman$Text;LDogsPostman$Village;)V"⟩
abbrev cX1_readVillage : ByteArray := prog_3_method_2_code
def yX1_readVillage : MethodName := ⟨RX1, "readVillage", "()I"⟩
abbrev cX1_readItem : ByteArray := prog_3_method_3_code
def yX1_readItem : MethodName := ⟨RX1, "readItem", "()Z"⟩
abbrev cX1_readMan : ByteArray := prog_3_method_4_code
def yX1_readMan : MethodName := ⟨RX1, "readMan", "()Z"⟩
abbrev cX1_readDog : ByteArray := prog_3_method_5_code
def yX1_readDog : MethodName := ⟨RX1, "readDog", "()Z"⟩
abbrev cX1_readBribe : ByteArray := prog_3_method_6_code
def yX1_readBribe : MethodName := ⟨RX1, "readBribe", "()Z"⟩
abbrev cX1_numberNext : ByteArray := prog_3_method_7_code
def yX1_numberNext : MethodName := ⟨RX1, "numberNext", "(II)Z"⟩
abbrev cX1_semicolonNext : ByteArray := prog_3_method_8_code
def yX1_semicolonNext : MethodName := ⟨RX1, "semicolonNext", "()Z"⟩
abbrev cX1_wordHere : ByteArray := prog_3_method_9_code
def yX1_wordHere : MethodName := ⟨RX1, "wordHere", "(Ljava/lang/String;)Z"⟩
abbrev cX1_next : ByteArray := prog_3_method_10_code
def yX1_next : MethodName := ⟨RX1, "next", "()V"⟩
abbrev cX1_takeNumber : ByteArray := prog_3_method_11_code
def yX1_takeNumber : MethodName := ⟨RX1, "takeNumber", "(I)V"⟩
abbrev cX1_isLetter : ByteArray := prog_3_method_12_code
def yX1_isLetter : MethodName := ⟨RX1, "isLetter", "(I)Z"⟩
abbrev cX1_isFigure : ByteArray := prog_3_method_13_code
def yX1_isFigure : MethodName := ⟨RX1, "isFigure", "(I)Z"⟩
def RX2 : String := "DogsPostman$Text"
def TX2 : u_T := fun k => match k with
  | 0 => ("DogsPostman$Text", "bytes", "[B", true)
  | _ => ("DogsPostman$Text", "length", "I", false)
def tyX2 : Nat → FieldType := fun k => match k with
  | 0 => .array .byte
  | _ => .int
abbrev wsX20 : List Cond := u_ws RX2 TX2 2
theorem nmX2 : ∀ a, a < 2 → ∀ b, b < 2 → a ≠ b → (TX2 a).2.1 ≠ (TX2 b).2.1 := by decide +kernel
theorem tyX2_ok : ∀ k, k < 2 → parseFieldDescriptor (TX2 k).2.2.1 = some (tyX2 k) := by decide +kernel
abbrev cX2_init : ByteArray := prog_4_method_1_code
def yX2_init : MethodName := ⟨RX2, "<init>", "()V"⟩
abbrev cX2_add : ByteArray := prog_4_method_2_code
def yX2_add : MethodName := ⟨RX2, "add", "(I)I"⟩
abbrev cX2_at : ByteArray := prog_4_method_3_code
def yX2_at : MethodName := ⟨RX2, "at", "(I)I"⟩
def RX3 : String := "DogsPostman$Village"
def TX3 : u_T := fun k => match k with
  | 0 => ("DogsPostman$Village", "men", "I", false)
  | 1 => ("DogsPostman$Village", "dogs", "I", false)
  | 2 => ("DogsPostman$Village", "asleep", "I", false)
  | 3 => ("DogsPostman$Village", "round", "I", false)
  | 4 => ("DogsPostman$Village", "notes", "I", false)
  | 5 => ("DogsPostman$Village", "pasts", "I", false)
  | 6 => ("DogsPostman$Village", "boots", "[I", true)
  | 7 => ("DogsPostman$Village", "ham", "[I", true)
  | 8 => ("DogsPostman$Village", "holes", "[I", true)
  | 9 => ("DogsPostman$Village", "kind", "[I", true)
  | 10 => ("DogsPostman$Village", "weight", "[I", true)
  | 11 => ("DogsPostman$Village", "hunger", "[I", true)
  | 12 => ("DogsPostman$Village", "favourite", "[I", true)
  | 13 => ("DogsPostman$Village", "noted", "[I", true)
  | _ => ("DogsPostman$Village", "past", "[I", true)
def tyX3 : Nat → FieldType := fun k => match k with
  | 0 => .int
  | 1 => .int
  | 2 => .int
  | 3 => .int
  | 4 => .int
  | 5 => .int
  | 6 => .array .int
  | 7 => .array .int
  | 8 => .array .int
  | 9 => .array .int
  | 10 => .array .int
  | 11 => .array .int
  | 12 => .array .int
  | 13 => .array .int
  | _ => .array .int
abbrev wsX30 : List Cond := u_ws RX3 TX3 15
theorem nmX3 : ∀ a, a < 15 → ∀ b, b < 15 → a ≠ b → (TX3 a).2.1 ≠ (TX3 b).2.1 := by decide +kernel
theorem tyX3_ok : ∀ k, k < 15 → parseFieldDescriptor (TX3 k).2.2.1 = some (tyX3 k) := by decide +kernel
abbrev cX3_init : ByteArray := prog_5_method_1_code
def yX3_init : MethodName := ⟨RX3, "<init>", "()V"⟩
abbrev cX3_empty : ByteArray := prog_5_method_2_code
def yX3_empty : MethodName := ⟨RX3, "empty", "()V"⟩
abbrev cX3_takeFrom : ByteArray := prog_5_method_3_code
def yX3_takeFrom : MethodName := ⟨RX3, "takeFrom", "(LDogsPostman$Village;)V"⟩
abbrev cX3_hasMan : ByteArray := prog_5_method_4_code
def yX3_hasMan : MethodName := ⟨RX3, "hasMan", "(I)Z"⟩
abbrev cX3_hasDog : ByteArray := prog_5_method_5_code
def yX3_hasDog : MethodName := ⟨RX3, "hasDog", "(I)Z"⟩
abbrev cX3_isIn : ByteArray := prog_5_method_6_code
def yX3_isIn : MethodName := ⟨RX3, "isIn", "(II)Z"⟩
abbrev cX3_isAsleep : ByteArray := prog_5_method_7_code
def yX3_isAsleep : MethodName := ⟨RX3, "isAsleep", "(I)Z"⟩
abbrev cX3_everyDog : ByteArray := prog_5_method_8_code
def yX3_everyDog : MethodName := ⟨RX3, "everyDog", "()I"⟩
abbrev cX3_addMan : ByteArray := prog_5_method_9_code
def yX3_addMan : MethodName := ⟨RX3, "addMan", "(II)I"⟩
abbrev cX3_addDog : ByteArray := prog_5_method_10_code
def yX3_addDog : MethodName := ⟨RX3, "addDog", "(IIII)I"⟩
abbrev cX3_mayBribe : ByteArray := prog_5_method_11_code
def yX3_mayBribe : MethodName := ⟨RX3, "mayBribe", "(II)Z"⟩
abbrev cX3_putToSleep : ByteArray := prog_5_method_12_code
def yX3_putToSleep : MethodName := ⟨RX3, "putToSleep", "(II)V"⟩
abbrev cX3_hungerOf : ByteArray := prog_5_method_13_code
def yX3_hungerOf : MethodName := ⟨RX3, "hungerOf", "(I)I"⟩
abbrev cX3_keepPast : ByteArray := prog_5_method_14_code
def yX3_keepPast : MethodName := ⟨RX3, "keepPast", "()V"⟩
abbrev cX3_goBack : ByteArray := prog_5_method_15_code
def yX3_goBack : MethodName := ⟨RX3, "goBack", "()V"⟩
abbrev cX3_startOf : ByteArray := prog_5_method_16_code
def yX3_startOf : MethodName := ⟨RX3, "startOf", "(I)I"⟩
abbrev cX3_bittenBy : ByteArray := prog_5_method_17_code
def yX3_bittenBy : MethodName := ⟨RX3, "bittenBy", "(II)I"⟩
abbrev cX3_bitersOf : ByteArray := prog_5_method_18_code
def yX3_bitersOf : MethodName := ⟨RX3, "bitersOf", "(III)I"⟩
abbrev cX3_widthTo : ByteArray := prog_5_method_19_code
def yX3_widthTo : MethodName := ⟨RX3, "widthTo", "(III)I"⟩
abbrev cX3_addRound : ByteArray := prog_5_method_20_code
def yX3_addRound : MethodName := ⟨RX3, "addRound", "([III)V"⟩
abbrev cX3_addNote : ByteArray := prog_5_method_21_code
def yX3_addNote : MethodName := ⟨RX3, "addNote", "(IIII)I"⟩
abbrev cX3_kindsBy : ByteArray := prog_5_method_22_code
def yX3_kindsBy : MethodName := ⟨RX3, "kindsBy", "(I)I"⟩
abbrev cX3_digestOn : ByteArray := prog_5_method_23_code
def yX3_digestOn : MethodName := ⟨RX3, "digestOn", "(J)J"⟩
def RX4 : String := "DogsPostman"
def TX4 : u_T := fun k => match k with
  | 0 => ("DogsPostman", "now", "LDogsPostman$Village;", true)
  | 1 => ("DogsPostman", "spare", "LDogsPostman$Village;", true)
  | 2 => ("DogsPostman", "images", "[LDogsPostman$Village;", true)
  | 3 => ("DogsPostman", "text", "LDogsPostman$Text;", true)
  | 4 => ("DogsPostman", "above", "I", false)
  | 5 => ("DogsPostman", "below", "I", false)
  | 6 => ("DogsPostman", "badCalls", "I", false)
  | 7 => ("DogsPostman", "noCalls", "I", false)
  | 8 => ("DogsPostman", "fullCalls", "I", false)
  | 9 => ("DogsPostman", "row", "[I", true)
  | 10 => ("DogsPostman", "gainA", "[I", true)
  | _ => ("DogsPostman", "gainB", "[I", true)
def tyX4 : Nat → FieldType := fun k => match k with
  | 0 => .object "DogsPostman$Village"
  | 1 => .object "DogsPostman$Village"
  | 2 => .array (.object "DogsPostman$Village")
  | 3 => .object "DogsPostman$Text"
  | 4 => .int
  | 5 => .int
  | 6 => .int
  | 7 => .int
  | 8 => .int
  | 9 => .array .int
  | 10 => .array .int
  | _ => .array .int
abbrev wsX40 : List Cond := u_ws RX4 TX4 12
theorem nmX4 : ∀ a, a < 12 → ∀ b, b < 12 → a ≠ b → (TX4 a).2.1 ≠ (TX4 b).2.1 := by decide +kernel
theorem tyX4_ok : ∀ k, k < 12 → parseFieldDescriptor (TX4 k).2.2.1 = some (tyX4 k) := by decide +kernel
abbrev cX4_init : ByteArray := prog_1_method_1_code
def yX4_init : MethodName := ⟨RX4, "<init>", "()V"⟩
abbrev cX4_village : ByteArray := prog_1_method_2_code
def yX4_village : MethodName := ⟨RX4, "village", "()I"⟩
abbrev cX4_man : ByteArray := prog_1_method_3_code
def yX4_man : MethodName := ⟨RX4, "man", "(II)I"⟩
abbrev cX4_dog : ByteArray := prog_1_method_4_code
def yX4_dog : MethodName := ⟨RX4, "dog", "(IIII)I"⟩
abbrev cX4_type : ByteArray := prog_1_method_5_code
def yX4_type : MethodName := ⟨RX4, "type", "(I)I"⟩
abbrev cX4_clear : ByteArray := prog_1_method_6_code
def yX4_clear : MethodName := ⟨RX4, "clear", "()I"⟩
abbrev cX4_read : ByteArray := prog_1_method_7_code
def yX4_read : MethodName := ⟨RX4, "read", "()I"⟩
abbrev cX4_bribe : ByteArray := prog_1_method_8_code
def yX4_bribe : MethodName := ⟨RX4, "bribe", "(II)I"⟩
abbrev cX4_round : ByteArray := prog_1_method_9_code
def yX4_round : MethodName := ⟨RX4, "round", "(I)I"⟩
abbrev cX4_undo : ByteArray := prog_1_method_10_code
def yX4_undo : MethodName := ⟨RX4, "undo", "()I"⟩
abbrev cX4_of : ByteArray := prog_1_method_11_code
def yX4_of : MethodName := ⟨RX4, "of", "(II)I"⟩
abbrev cX4_about : ByteArray := prog_1_method_12_code
def yX4_about : MethodName := ⟨RX4, "about", "(II)I"⟩
abbrev cX4_bitten : ByteArray := prog_1_method_13_code
def yX4_bitten : MethodName := ⟨RX4, "bitten", "(II)I"⟩
abbrev cX4_then : ByteArray := prog_1_method_14_code
def yX4_then : MethodName := ⟨RX4, "then", "(II)I"⟩
abbrev cX4_won : ByteArray := prog_1_method_15_code
def yX4_won : MethodName := ⟨RX4, "won", "(II)I"⟩
abbrev cX4_letters : ByteArray := prog_1_method_16_code
def yX4_letters : MethodName := ⟨RX4, "letters", "()I"⟩
abbrev cX4_bribes : ByteArray := prog_1_method_17_code
def yX4_bribes : MethodName := ⟨RX4, "bribes", "(II)I"⟩
abbrev cX4_still : ByteArray := prog_1_method_18_code
def yX4_still : MethodName := ⟨RX4, "still", "(I)I"⟩
abbrev cX4_first : ByteArray := prog_1_method_19_code
def yX4_first : MethodName := ⟨RX4, "first", "(II)I"⟩
abbrev cX4_slept : ByteArray := prog_1_method_20_code
def yX4_slept : MethodName := ⟨RX4, "slept", "(IIII)I"⟩
abbrev cX4_note : ByteArray := prog_1_method_21_code
def yX4_note : MethodName := ⟨RX4, "note", "(IIII)I"⟩
abbrev cX4_forget : ByteArray := prog_1_method_22_code
def yX4_forget : MethodName := ⟨RX4, "forget", "()I"⟩
abbrev cX4_is : ByteArray := prog_1_method_23_code
def yX4_is : MethodName := ⟨RX4, "is", "(I)I"⟩
abbrev cX4_send : ByteArray := prog_1_method_24_code
def yX4_send : MethodName := ⟨RX4, "send", "(I)I"⟩
abbrev cX4_two : ByteArray := prog_1_method_25_code
def yX4_two : MethodName := ⟨RX4, "two", "(III)I"⟩
abbrev cX4_strays : ByteArray := prog_1_method_26_code
def yX4_strays : MethodName := ⟨RX4, "strays", "(II)I"⟩
abbrev cX4_villages : ByteArray := prog_1_method_27_code
def yX4_villages : MethodName := ⟨RX4, "villages", "(II)I"⟩
abbrev cX4_part : ByteArray := prog_1_method_28_code
def yX4_part : MethodName := ⟨RX4, "part", "(I)J"⟩
abbrev cX4_image : ByteArray := prog_1_method_29_code
def yX4_image : MethodName := ⟨RX4, "image", "(I)I"⟩
abbrev cX4_from : ByteArray := prog_1_method_30_code
def yX4_from : MethodName := ⟨RX4, "from", "(I)I"⟩
abbrev cX4_status : ByteArray := prog_1_method_31_code
def yX4_status : MethodName := ⟨RX4, "status", "(I)I"⟩
abbrev cX4_count : ByteArray := prog_1_method_32_code
def yX4_count : MethodName := ⟨RX4, "count", "(I)I"⟩
abbrev cX4_digest : ByteArray := prog_1_method_33_code
def yX4_digest : MethodName := ⟨RX4, "digest", "()J"⟩
abbrev cX4_within : ByteArray := prog_1_method_34_code
def yX4_within : MethodName := ⟨RX4, "within", "(III)Z"⟩
abbrev cX4_refuse : ByteArray := prog_1_method_35_code
def yX4_refuse : MethodName := ⟨RX4, "refuse", "(I)I"⟩
abbrev cX4_counted : ByteArray := prog_1_method_36_code
def yX4_counted : MethodName := ⟨RX4, "counted", "(I)I"⟩
abbrev cX4_lookAhead : ByteArray := prog_1_method_37_code
def yX4_lookAhead : MethodName := ⟨RX4, "lookAhead", "(I)V"⟩
abbrev cX4_winsByBribing : ByteArray := prog_1_method_38_code
def yX4_winsByBribing : MethodName := ⟨RX4, "winsByBribing", "(II)Z"⟩
abbrev cX4_postmanOf : ByteArray := prog_1_method_39_code
def yX4_postmanOf : MethodName := ⟨RX4, "postmanOf", "([II)I"⟩
abbrev cX4_leaverOf : ByteArray := prog_1_method_40_code
def yX4_leaverOf : MethodName := ⟨RX4, "leaverOf", "([II)I"⟩
abbrev cX4_mayChoose : ByteArray := prog_1_method_41_code
def yX4_mayChoose : MethodName := ⟨RX4, "mayChoose", "(I)Z"⟩
abbrev cX4_fillGains : ByteArray := prog_1_method_42_code
def yX4_fillGains : MethodName := ⟨RX4, "fillGains", "(II)V"⟩
abbrev cX4_doorOf : ByteArray := prog_1_method_43_code
def yX4_doorOf : MethodName := ⟨RX4, "doorOf", "(I)I"⟩
abbrev cX4_priceOf : ByteArray := prog_1_method_44_code
def yX4_priceOf : MethodName := ⟨RX4, "priceOf", "(I)I"⟩
abbrev cX4_rests : ByteArray := prog_1_method_45_code
def yX4_rests : MethodName := ⟨RX4, "rests", "(II)Z"⟩
abbrev cX4_commonDivisor : ByteArray := prog_1_method_46_code
def yX4_commonDivisor : MethodName := ⟨RX4, "commonDivisor", "(II)I"⟩
def RX5 : String := "DogsPostmanModel"
def TX5 : u_T := fun k => match k with
  | 0 => ("DogsPostmanModel", "refused", "[I", true)
  | 1 => ("DogsPostmanModel", "men", "I", false)
  | 2 => ("DogsPostmanModel", "many", "I", false)
  | 3 => ("DogsPostmanModel", "now", "I", false)
  | 4 => ("DogsPostmanModel", "asleep", "I", false)
  | 5 => ("DogsPostmanModel", "noteMany", "I", false)
  | 6 => ("DogsPostmanModel", "boots", "[I", true)
  | 7 => ("DogsPostmanModel", "ham", "[I", true)
  | 8 => ("DogsPostmanModel", "holes", "[I", true)
  | 9 => ("DogsPostmanModel", "kinds", "[I", true)
  | 10 => ("DogsPostmanModel", "weights", "[I", true)
  | 11 => ("DogsPostmanModel", "hungers", "[I", true)
  | 12 => ("DogsPostmanModel", "favourites", "[I", true)
  | 13 => ("DogsPostmanModel", "noteDog", "[I", true)
  | 14 => ("DogsPostmanModel", "noteFavourite", "[I", true)
  | 15 => ("DogsPostmanModel", "noteBoots", "[I", true)
  | 16 => ("DogsPostmanModel", "noteBit", "[I", true)
  | 17 => ("DogsPostmanModel", "text", "[I", true)
  | 18 => ("DogsPostmanModel", "typed", "I", false)
  | 19 => ("DogsPostmanModel", "readAt", "I", false)
  | 20 => ("DogsPostmanModel", "readMen", "I", false)
  | 21 => ("DogsPostmanModel", "readMany", "I", false)
  | 22 => ("DogsPostmanModel", "readAsleep", "I", false)
  | 23 => ("DogsPostmanModel", "readMan", "[I", true)
  | 24 => ("DogsPostmanModel", "readDog", "[I", true)
  | 25 => ("DogsPostmanModel", "readNumber", "I", false)
  | 26 => ("DogsPostmanModel", "ahead", "[I", true)
  | 27 => ("DogsPostmanModel", "undoMany", "I", false)
  | 28 => ("DogsPostmanModel", "aside", "[I", true)
  | 29 => ("DogsPostmanModel", "above", "J", false)
  | 30 => ("DogsPostmanModel", "below", "J", false)
  | 31 => ("DogsPostmanModel", "images", "[I", true)
  | 32 => ("DogsPostmanModel", "isKept", "[I", true)
  | _ => ("DogsPostmanModel", "h0", "J", false)
def tyX5 : Nat → FieldType := fun k => match k with
  | 0 => .array .int
  | 1 => .int
  | 2 => .int
  | 3 => .int
  | 4 => .int
  | 5 => .int
  | 6 => .array .int
  | 7 => .array .int
  | 8 => .array .int
  | 9 => .array .int
  | 10 => .array .int
  | 11 => .array .int
  | 12 => .array .int
  | 13 => .array .int
  | 14 => .array .int
  | 15 => .array .int
  | 16 => .array .int
  | 17 => .array .int
  | 18 => .int
  | 19 => .int
  | 20 => .int
  | 21 => .int
  | 22 => .int
  | 23 => .array .int
  | 24 => .array .int
  | 25 => .int
  | 26 => .array .int
  | 27 => .int
  | 28 => .array .int
  | 29 => .long
  | 30 => .long
  | 31 => .array .int
  | 32 => .array .int
  | _ => .long
abbrev wsX50 : List Cond := u_ws RX5 TX5 34
theorem nmX5 : ∀ a, a < 34 → ∀ b, b < 34 → a ≠ b → (TX5 a).2.1 ≠ (TX5 b).2.1 := by decide +kernel
theorem tyX5_ok : ∀ k, k < 34 → parseFieldDescriptor (TX5 k).2.2.1 = some (tyX5 k) := by decide +kernel
abbrev cX5_bad : ByteArray := prog_7_method_1_code
def yX5_bad : MethodName := ⟨RX5, "bad", "()I"⟩
abbrev cX5_ten : ByteArray := prog_7_method_2_code
def yX5_ten : MethodName := ⟨RX5, "ten", "()I"⟩
abbrev cX5_no : ByteArray := prog_7_method_3_code
def yX5_no : MethodName := ⟨RX5, "no", "()I"⟩
abbrev cX5_full : ByteArray := prog_7_method_4_code
def yX5_full : MethodName := ⟨RX5, "full", "()I"⟩
abbrev cX5_in : ByteArray := prog_7_method_5_code
def yX5_in : MethodName := ⟨RX5, "in", "(III)Z"⟩
abbrev cX5_has : ByteArray := prog_7_method_6_code
def yX5_has : MethodName := ⟨RX5, "has", "(II)Z"⟩
abbrev cX5_bits : ByteArray := prog_7_method_7_code
def yX5_bits : MethodName := ⟨RX5, "bits", "(I)I"⟩
abbrev cX5_init : ByteArray := prog_7_method_8_code
def yX5_init : MethodName := ⟨RX5, "<init>", "()V"⟩
abbrev cX5_begin : ByteArray := prog_7_method_9_code
def yX5_begin : MethodName := ⟨RX5, "begin", "()V"⟩
abbrev cX5_isMan : ByteArray := prog_7_method_10_code
def yX5_isMan : MethodName := ⟨RX5, "isMan", "(I)Z"⟩
abbrev cX5_isDog : ByteArray := prog_7_method_11_code
def yX5_isDog : MethodName := ⟨RX5, "isDog", "(I)Z"⟩
abbrev cX5_village : ByteArray := prog_7_method_12_code
def yX5_village : MethodName := ⟨RX5, "village", "()I"⟩
abbrev cX5_addMan : ByteArray := prog_7_method_13_code
def yX5_addMan : MethodName := ⟨RX5, "addMan", "(II)I"⟩
abbrev cX5_addDog : ByteArray := prog_7_method_14_code
def yX5_addDog : MethodName := ⟨RX5, "addDog", "(IIII)I"⟩
abbrev cX5_man : ByteArray := prog_7_method_15_code
def yX5_man : MethodName := ⟨RX5, "man", "(II)I"⟩
abbrev cX5_dog : ByteArray := prog_7_method_16_code
def yX5_dog : MethodName := ⟨RX5, "dog", "(IIII)I"⟩
abbrev cX5_type : ByteArray := prog_7_method_17_code
def yX5_type : MethodName := ⟨RX5, "type", "(I)I"⟩
abbrev cX5_clear : ByteArray := prog_7_method_18_code
def yX5_clear : MethodName := ⟨RX5, "clear", "()I"⟩
abbrev cX5_here : ByteArray := prog_7_method_19_code
def yX5_here : MethodName := ⟨RX5, "here", "()I"⟩
abbrev cX5_skip : ByteArray := prog_7_method_20_code
def yX5_skip : MethodName := ⟨RX5, "skip", "()V"⟩
abbrev cX5_isLetter : ByteArray := prog_7_method_21_code
def yX5_isLetter : MethodName := ⟨RX5, "isLetter", "(I)Z"⟩
abbrev cX5_isFigure : ByteArray := prog_7_method_22_code
def yX5_isFigure : MethodName := ⟨RX5, "isFigure", "(I)Z"⟩
abbrev cX5_wordSize : ByteArray := prog_7_method_23_code
def yX5_wordSize : MethodName := ⟨RX5, "wordSize", "()I"⟩
abbrev cX5_letter : ByteArray := prog_7_method_24_code
def yX5_letter : MethodName := ⟨RX5, "letter", "(I)I"⟩
abbrev cX5_wordHere : ByteArray := prog_7_method_25_code
def yX5_wordHere : MethodName := ⟨RX5, "wordHere", "()I"⟩
abbrev cX5_number : ByteArray := prog_7_method_26_code
def yX5_number : MethodName := ⟨RX5, "number", "(II)Z"⟩
abbrev cX5_ends : ByteArray := prog_7_method_27_code
def yX5_ends : MethodName := ⟨RX5, "ends", "()Z"⟩
abbrev cX5_readsMan : ByteArray := prog_7_method_28_code
def yX5_readsMan : MethodName := ⟨RX5, "readsMan", "()Z"⟩
abbrev cX5_readsDog : ByteArray := prog_7_method_29_code
def yX5_readsDog : MethodName := ⟨RX5, "readsDog", "()Z"⟩
abbrev cX5_readsBribe : ByteArray := prog_7_method_30_code
def yX5_readsBribe : MethodName := ⟨RX5, "readsBribe", "()Z"⟩
abbrev cX5_readsItem : ByteArray := prog_7_method_31_code
def yX5_readsItem : MethodName := ⟨RX5, "readsItem", "()Z"⟩
abbrev cX5_readsVillage : ByteArray := prog_7_method_32_code
def yX5_readsVillage : MethodName := ⟨RX5, "readsVillage", "()I"⟩
abbrev cX5_read : ByteArray := prog_7_method_33_code
def yX5_read : MethodName := ⟨RX5, "read", "()I"⟩
abbrev cX5_bitesBy : ByteArray := prog_7_method_34_code
def yX5_bitesBy : MethodName := ⟨RX5, "bitesBy", "(IZI)Z"⟩
abbrev cX5_bitesMany : ByteArray := prog_7_method_35_code
def yX5_bitesMany : MethodName := ⟨RX5, "bitesMany", "(I)I"⟩
abbrev cX5_holeBy : ByteArray := prog_7_method_36_code
def yX5_holeBy : MethodName := ⟨RX5, "holeBy", "(II)I"⟩
abbrev cX5_isBitten : ByteArray := prog_7_method_37_code
def yX5_isBitten : MethodName := ⟨RX5, "isBitten", "(III)Z"⟩
abbrev cX5_comesTo : ByteArray := prog_7_method_38_code
def yX5_comesTo : MethodName := ⟨RX5, "comesTo", "(III)I"⟩
abbrev cX5_firstOf : ByteArray := prog_7_method_39_code
def yX5_firstOf : MethodName := ⟨RX5, "firstOf", "(I)I"⟩
abbrev cX5_pass : ByteArray := prog_7_method_40_code
def yX5_pass : MethodName := ⟨RX5, "pass", "()V"⟩
abbrev cX5_postman : ByteArray := prog_7_method_41_code
def yX5_postman : MethodName := ⟨RX5, "postman", "()I"⟩
abbrev cX5_nextVillage : ByteArray := prog_7_method_42_code
def yX5_nextVillage : MethodName := ⟨RX5, "nextVillage", "()I"⟩
abbrev cX5_lays : ByteArray := prog_7_method_43_code
def yX5_lays : MethodName := ⟨RX5, "lays", "([II)V"⟩
abbrev cX5_takes : ByteArray := prog_7_method_44_code
def yX5_takes : MethodName := ⟨RX5, "takes", "([II)V"⟩
abbrev cX5_notes : ByteArray := prog_7_method_45_code
def yX5_notes : MethodName := ⟨RX5, "notes", "()V"⟩
abbrev cX5_puts : ByteArray := prog_7_method_46_code
def yX5_puts : MethodName := ⟨RX5, "puts", "()V"⟩
abbrev cX5_back : ByteArray := prog_7_method_47_code
def yX5_back : MethodName := ⟨RX5, "back", "()V"⟩
abbrev cX5_bribe : ByteArray := prog_7_method_48_code
def yX5_bribe : MethodName := ⟨RX5, "bribe", "(II)I"⟩
abbrev cX5_round : ByteArray := prog_7_method_49_code
def yX5_round : MethodName := ⟨RX5, "round", "(I)I"⟩
abbrev cX5_undo : ByteArray := prog_7_method_50_code
def yX5_undo : MethodName := ⟨RX5, "undo", "()I"⟩
abbrev cX5_of : ByteArray := prog_7_method_51_code
def yX5_of : MethodName := ⟨RX5, "of", "(II)I"⟩
abbrev cX5_about : ByteArray := prog_7_method_52_code
def yX5_about : MethodName := ⟨RX5, "about", "(II)I"⟩
abbrev cX5_bitten : ByteArray := prog_7_method_53_code
def yX5_bitten : MethodName := ⟨RX5, "bitten", "(II)I"⟩
abbrev cX5_then : ByteArray := prog_7_method_54_code
def yX5_then : MethodName := ⟨RX5, "then", "(II)I"⟩
abbrev cX5_wonIn : ByteArray := prog_7_method_55_code
def yX5_wonIn : MethodName := ⟨RX5, "wonIn", "(II)I"⟩
abbrev cX5_won : ByteArray := prog_7_method_56_code
def yX5_won : MethodName := ⟨RX5, "won", "(II)I"⟩
abbrev cX5_letters : ByteArray := prog_7_method_57_code
def yX5_letters : MethodName := ⟨RX5, "letters", "()I"⟩
abbrev cX5_hungerOf : ByteArray := prog_7_method_58_code
def yX5_hungerOf : MethodName := ⟨RX5, "hungerOf", "(I)I"⟩
abbrev cX5_bribes : ByteArray := prog_7_method_59_code
def yX5_bribes : MethodName := ⟨RX5, "bribes", "(II)I"⟩
abbrev cX5_still : ByteArray := prog_7_method_60_code
def yX5_still : MethodName := ⟨RX5, "still", "(I)I"⟩
abbrev cX5_first : ByteArray := prog_7_method_61_code
def yX5_first : MethodName := ⟨RX5, "first", "(II)I"⟩
abbrev cX5_slept : ByteArray := prog_7_method_62_code
def yX5_slept : MethodName := ⟨RX5, "slept", "(IIII)I"⟩
abbrev cX5_note : ByteArray := prog_7_method_63_code
def yX5_note : MethodName := ⟨RX5, "note", "(IIII)I"⟩
abbrev cX5_forget : ByteArray := prog_7_method_64_code
def yX5_forget : MethodName := ⟨RX5, "forget", "()I"⟩
abbrev cX5_kindsOf : ByteArray := prog_7_method_65_code
def yX5_kindsOf : MethodName := ⟨RX5, "kindsOf", "(I)I"⟩
abbrev cX5_is : ByteArray := prog_7_method_66_code
def yX5_is : MethodName := ⟨RX5, "is", "(I)I"⟩
abbrev cX5_send : ByteArray := prog_7_method_67_code
def yX5_send : MethodName := ⟨RX5, "send", "(I)I"⟩
abbrev cX5_gets : ByteArray := prog_7_method_68_code
def yX5_gets : MethodName := ⟨RX5, "gets", "(III)I"⟩
abbrev cX5_isChoice : ByteArray := prog_7_method_69_code
def yX5_isChoice : MethodName := ⟨RX5, "isChoice", "(I)Z"⟩
abbrev cX5_rests : ByteArray := prog_7_method_70_code
def yX5_rests : MethodName := ⟨RX5, "rests", "(IIII)Z"⟩
abbrev cX5_two : ByteArray := prog_7_method_71_code
def yX5_two : MethodName := ⟨RX5, "two", "(III)I"⟩
abbrev cX5_lay : ByteArray := prog_7_method_72_code
def yX5_lay : MethodName := ⟨RX5, "lay", "(JJ)V"⟩
abbrev cX5_strays : ByteArray := prog_7_method_73_code
def yX5_strays : MethodName := ⟨RX5, "strays", "(II)I"⟩
abbrev cX5_villages : ByteArray := prog_7_method_74_code
def yX5_villages : MethodName := ⟨RX5, "villages", "(II)I"⟩
abbrev cX5_part : ByteArray := prog_7_method_75_code
def yX5_part : MethodName := ⟨RX5, "part", "(I)J"⟩
abbrev cX5_image : ByteArray := prog_7_method_76_code
def yX5_image : MethodName := ⟨RX5, "image", "(I)I"⟩
abbrev cX5_from : ByteArray := prog_7_method_77_code
def yX5_from : MethodName := ⟨RX5, "from", "(I)I"⟩
abbrev cX5_status : ByteArray := prog_7_method_78_code
def yX5_status : MethodName := ⟨RX5, "status", "(I)I"⟩
abbrev cX5_countOf : ByteArray := prog_7_method_79_code
def yX5_countOf : MethodName := ⟨RX5, "countOf", "(I)I"⟩
abbrev cX5_count : ByteArray := prog_7_method_80_code
def yX5_count : MethodName := ⟨RX5, "count", "(I)I"⟩
abbrev cX5_mix : ByteArray := prog_7_method_81_code
def yX5_mix : MethodName := ⟨RX5, "mix", "(J)V"⟩
abbrev cX5_digest : ByteArray := prog_7_method_82_code
def yX5_digest : MethodName := ⟨RX5, "digest", "()J"⟩
def RJ6 : String := "java/lang/Integer"
def TJ6 : u_T := fun k => match k with
  | _ => ("", "", "", false)
def tyJ6 : Nat → FieldType := fun k => match k with
  | _ => .int
abbrev wsJ60 : List Cond := u_ws RJ6 TJ6 0
theorem nmJ6 : ∀ a, a < 0 → ∀ b, b < 0 → a ≠ b → (TJ6 a).2.1 ≠ (TJ6 b).2.1 := by decide +kernel
theorem tyJ6_ok : ∀ k, k < 0 → parseFieldDescriptor (TJ6 k).2.2.1 = some (tyJ6 k) := by decide +kernel
abbrev cJ6_bitCount_0f7a4 : ByteArray := prog_8_method_49_code
def yJ6_bitCount_0f7a4 : MethodName := ⟨RJ6, "bitCount", "(I)I"⟩
def RJ9 : String := "java/lang/Math"
def TJ9 : u_T := fun k => match k with
  | _ => ("", "", "", false)
def tyJ9 : Nat → FieldType := fun k => match k with
  | _ => .int
abbrev wsJ90 : List Cond := u_ws RJ9 TJ9 0
theorem nmJ9 : ∀ a, a < 0 → ∀ b, b < 0 → a ≠ b → (TJ9 a).2.1 ≠ (TJ9 b).2.1 := by decide +kernel
theorem tyJ9_ok : ∀ k, k < 0 → parseFieldDescriptor (TJ9 k).2.2.1 = some (tyJ9 k) := by decide +kernel
abbrev cJ9_max_7cf53 : ByteArray := prog_9_method_65_code
def yJ9_max_7cf53 : MethodName := ⟨RJ9, "max", "(II)I"⟩
def RJ0 : String := "java/lang/String"
def TJ0 : u_T := fun k => match k with
  | _ => ("", "", "", false)
def tyJ0 : Nat → FieldType := fun k => match k with
  | _ => .int
abbrev wsJ00 : List Cond := u_ws RJ0 TJ0 0
theorem nmJ0 : ∀ a, a < 0 → ∀ b, b < 0 → a ≠ b → (TJ0 a).2.1 ≠ (TJ0 b).2.1 := by decide +kernel
theorem tyJ0_ok : ∀ k, k < 0 → parseFieldDescriptor (TJ0 k).2.2.1 = some (tyJ0 k) := by decide +kernel
abbrev cJ0_length_8abf5 : ByteArray := prog_10_method_54_code
def yJ0_length_8abf5 : MethodName := ⟨RJ0, "length", "()I"⟩
abbrev cJ0_charAt_5068e : ByteArray := prog_10_method_56_code
def yJ0_charAt_5068e : MethodName := ⟨RJ0, "charAt", "(I)C"⟩
abbrev cJ0_coder_7d493 : ByteArray := prog_10_method_152_code
def yJ0_coder_7d493 : MethodName := ⟨RJ0, "coder", "()B"⟩
abbrev cJ0_isLatin1_aae02 : ByteArray := prog_10_method_154_code
def yJ0_isLatin1_aae02 : MethodName := ⟨RJ0, "isLatin1", "()Z"⟩
abbrev cJ0_checkIndex_df160 : ByteArray := prog_10_method_155_code
def yJ0_checkIndex_df160 : MethodName := ⟨RJ0, "checkIndex", "(II)V"⟩
def RJ1 : String := "java/lang/StringLatin1"
def TJ1 : u_T := fun k => match k with
  | _ => ("", "", "", false)
def tyJ1 : Nat → FieldType := fun k => match k with
  | _ => .int
abbrev wsJ10 : List Cond := u_ws RJ1 TJ1 0
theorem nmJ1 : ∀ a, a < 0 → ∀ b, b < 0 → a ≠ b → (TJ1 a).2.1 ≠ (TJ1 b).2.1 := by decide +kernel
theorem tyJ1_ok : ∀ k, k < 0 → parseFieldDescriptor (TJ1 k).2.2.1 = some (tyJ1 k) := by decide +kernel
abbrev cJ1_charAt_3b067 : ByteArray := prog_11_method_2_code
def yJ1_charAt_3b067 : MethodName := ⟨RJ1, "charAt", "([BI)C"⟩
def RJ2 : String := "java/lang/StringUTF16"
def TJ2 : u_T := fun k => match k with
  | _ => ("", "", "", false)
def tyJ2 : Nat → FieldType := fun k => match k with
  | _ => .int
abbrev wsJ20 : List Cond := u_ws RJ2 TJ2 0
theorem nmJ2 : ∀ a, a < 0 → ∀ b, b < 0 → a ≠ b → (TJ2 a).2.1 ≠ (TJ2 b).2.1 := by decide +kernel
theorem tyJ2_ok : ∀ k, k < 0 → parseFieldDescriptor (TJ2 k).2.2.1 = some (tyJ2 k) := by decide +kernel
abbrev cJ2_getChar_3b067 : ByteArray := prog_12_method_5_code
def yJ2_getChar_3b067 : MethodName := ⟨RJ2, "getChar", "([BI)C"⟩
abbrev cJ2_length_9d52b : ByteArray := prog_12_method_6_code
def yJ2_length_9d52b : MethodName := ⟨RJ2, "length", "([B)I"⟩
abbrev cJ2_charAt_3b067 : ByteArray := prog_12_method_83_code
def yJ2_charAt_3b067 : MethodName := ⟨RJ2, "charAt", "([BI)C"⟩
abbrev cJ2_checkIndex_2214a : ByteArray := prog_12_method_91_code
def yJ2_checkIndex_2214a : MethodName := ⟨RJ2, "checkIndex", "(I[B)V"⟩
def RJ10 : String := "java/lang/System"
def TJ10 : u_T := fun k => match k with
  | _ => ("", "", "", false)
def tyJ10 : Nat → FieldType := fun k => match k with
  | _ => .int
abbrev wsJ100 : List Cond := u_ws RJ10 TJ10 0
theorem nmJ10 : ∀ a, a < 0 → ∀ b, b < 0 → a ≠ b → (TJ10 a).2.1 ≠ (TJ10 b).2.1 := by decide +kernel
theorem tyJ10_ok : ∀ k, k < 0 → parseFieldDescriptor (TJ10 k).2.2.1 = some (tyJ10 k) := by decide +kernel
def RJ3 : String := "jdk/internal/util/Preconditions"
def TJ3 : u_T := fun k => match k with
  | _ => ("", "", "", false)
def tyJ3 : Nat → FieldType := fun k => match k with
  | _ => .int
abbrev wsJ30 : List Cond := u_ws RJ3 TJ3 0
theorem nmJ3 : ∀ a, a < 0 → ∀ b, b < 0 → a ≠ b → (TJ3 a).2.1 ≠ (TJ3 b).2.1 := by decide +kernel
theorem tyJ3_ok : ∀ k, k < 0 → parseFieldDescriptor (TJ3 k).2.2.1 = some (tyJ3 k) := by decide +kernel
abbrev cJ3_checkIndex_8e157 : ByteArray := prog_14_method_11_code
def yJ3_checkIndex_8e157 : MethodName := ⟨RJ3, "checkIndex", "(IILjava/util/function/BiFunction;)I"⟩
def RL : String := "DogsPostmanLaw"
abbrev cL_law : ByteArray := code
def yL_law : MethodName := ⟨RL, "law", "([I)Z"⟩
abbrev vwCl : List vw_C := [(RX1, TX1, 6), (RX2, TX2, 2), (RX3, TX3, 15), (RX4, TX4, 12), (RX5, TX5, 34)]
end
section
/-- the words that every method may use: the tables' words that stay -/
def BG : List Cond := lw_tbl.filter goodWord
theorem bg {w : Cond} (h : w ∈ lw_tbl) (hg : goodWord w = true) : w ∈ BG := List.mem_filter.mpr ⟨h, hg⟩
theorem bg_in {w : Cond} (h : w ∈ BG) : w ∈ lw_tbl := (List.mem_filter.mp h).1
theorem bg_good {w : Cond} (h : w ∈ BG) : (w.onTables && w.keeps) = true ∨ ∃ ty, w = .arrayClass ty := good_of_word (List.mem_filter.mp h).2
theorem tb1 {w : Cond} {i : Nat} (h : tables_1_1[i]? = some w) (hg : goodWord w = true) : w ∈ BG := bg (List.mem_append_right _ (List.mem_append_left _ (List.mem_of_getElem? h))) hg
theorem tb2 {w : Cond} {i : Nat} (h : tables_1_2[i]? = some w) (hg : goodWord w = true) : w ∈ BG := bg (List.mem_append_right _ (List.mem_append_right _ (List.mem_append_left _ (List.mem_of_getElem? h)))) hg
theorem tb3 {w : Cond} {i : Nat} (h : tables_1_3[i]? = some w) (hg : goodWord w = true) : w ∈ BG := bg (List.mem_append_right _ (List.mem_append_right _ (List.mem_append_right _ (List.mem_append_left _ (List.mem_of_getElem? h))))) hg
theorem tb4 {w : Cond} {i : Nat} (h : tables_1_4[i]? = some w) (hg : goodWord w = true) : w ∈ BG := bg (List.mem_append_right _ (List.mem_append_right _ (List.mem_append_right _ (List.mem_append_right _ (List.mem_append_left _ (List.mem_of_getElem? h)))))) hg
theorem tb5 {w : Cond} {i : Nat} (h : tables_1_5[i]? = some w) (hg : goodWord w = true) : w ∈ BG := bg (List.mem_append_right _ (List.mem_append_right _ (List.mem_append_right _ (List.mem_append_right _ (List.mem_append_right _ (List.mem_of_getElem? h)))))) hg
theorem tbs {w : Cond} {i : Nat} (h : (k2_sels lw_privs)[i]? = some w) (hg : goodWord w = true) : w ∈ BG := bg (List.mem_append_left _ (List.mem_of_getElem? h)) hg
theorem b_in_L : Cond.initialized RL ∈ BG := tb1 (i := 0) (by decide +kernel) (by decide +kernel)
theorem b_in_X4 : Cond.initialized RX4 ∈ BG := tb1 (i := 1) (by decide +kernel) (by decide +kernel)
theorem b_in_X3 : Cond.initialized RX3 ∈ BG := tb1 (i := 2) (by decide +kernel) (by decide +kernel)
theorem b_in_X2 : Cond.initialized RX2 ∈ BG := tb1 (i := 3) (by decide +kernel) (by decide +kernel)
theorem b_in_X5 : Cond.initialized RX5 ∈ BG := tb1 (i := 4) (by decide +kernel) (by decide +kernel)
theorem b_in_X1 : Cond.initialized RX1 ∈ BG := tb1 (i := 5) (by decide +kernel) (by decide +kernel)
theorem b_in_J0 : Cond.initialized RJ0 ∈ BG := tb1 (i := 6) (by decide +kernel) (by decide +kernel)
theorem b_in_J1 : Cond.initialized RJ1 ∈ BG := tb1 (i := 7) (by decide +kernel) (by decide +kernel)
theorem b_in_J3 : Cond.initialized RJ3 ∈ BG := tb1 (i := 8) (by decide +kernel) (by decide +kernel)
theorem b_in_J2 : Cond.initialized RJ2 ∈ BG := tb1 (i := 9) (by decide +kernel) (by decide +kernel)
theorem b_in_J10 : Cond.initialized RJ10 ∈ BG := tb1 (i := 10) (by decide +kernel) (by decide +kernel)
theorem b_in_X0 : Cond.initialized RX0 ∈ BG := tb1 (i := 11) (by decide +kernel) (by decide +kernel)
theorem b_in_J6 : Cond.initialized RJ6 ∈ BG := tb1 (i := 12) (by decide +kernel) (by decide +kernel)
theorem b_in_J9 : Cond.initialized RJ9 ∈ BG := tb1 (i := 13) (by decide +kernel) (by decide +kernel)
theorem b_cl_L_7 : Cond.classLink RL 7 RX4 ∈ BG := tb1 (i := 14) (by decide +kernel) (by decide +kernel)
theorem b_is_X4 : Cond.instantiable RX4 12 ∈ BG := tb1 (i := 15) (by decide +kernel) (by decide +kernel)
theorem b_ml_L_9 : Cond.methodLink RL 9 yX4_init ∈ BG := tb1 (i := 16) (by decide +kernel) (by decide +kernel)
theorem b_inm_yX4_init : Cond.instanceMethod yX4_init ∈ BG := tb1 (i := 17) (by decide +kernel) (by decide +kernel)
theorem b_co_yX4_init : Cond.code yX4_init cX4_init 1 none ∈ BG := tb1 (i := 18) (by decide +kernel) (by decide +kernel)
theorem b_ml_X4_1 : Cond.methodLink RX4 1 objectInit ∈ BG := tb1 (i := 19) (by decide +kernel) (by decide +kernel)
theorem b_inm_objectInit : Cond.instanceMethod objectInit ∈ BG := tb1 (i := 20) (by decide +kernel) (by decide +kernel)
theorem b_co_objectInit : Cond.code objectInit ⟨#[0xb1]⟩ 1 none ∈ BG := tb1 (i := 21) (by decide +kernel) (by decide +kernel)
theorem b_cl_X4_7 : Cond.classLink RX4 7 RX3 ∈ BG := tb1 (i := 22) (by decide +kernel) (by decide +kernel)
theorem b_is_X3 : Cond.instantiable RX3 15 ∈ BG := tb1 (i := 23) (by decide +kernel) (by decide +kernel)
theorem b_ml_X4_9 : Cond.methodLink RX4 9 yX3_init ∈ BG := tb1 (i := 24) (by decide +kernel) (by decide +kernel)
theorem b_inm_yX3_init : Cond.instanceMethod yX3_init ∈ BG := tb1 (i := 25) (by decide +kernel) (by decide +kernel)
theorem b_co_yX3_init : Cond.code yX3_init cX3_init 1 none ∈ BG := tb1 (i := 26) (by decide +kernel) (by decide +kernel)
theorem b_ml_X3_3 : Cond.methodLink RX3 3 objectInit ∈ BG := tb1 (i := 27) (by decide +kernel) (by decide +kernel)
theorem b_fl_X3_39 : Cond.fieldLink RX3 39 "DogsPostman$Village" "men" "I" ∈ BG := tb1 (i := 28) (by decide +kernel) (by decide +kernel)
theorem b_fl_X4_61 : Cond.fieldLink RX4 61 "DogsPostman$Village" "men" "I" ∈ BG := tb1 (i := 29) (by decide +kernel) (by decide +kernel)
theorem b_fl_X1_59 : Cond.fieldLink RX1 59 "DogsPostman$Village" "men" "I" ∈ BG := tb1 (i := 30) (by decide +kernel) (by decide +kernel)
theorem b_fl_X4_47 : Cond.fieldLink RX4 47 "DogsPostman$Village" "dogs" "I" ∈ BG := tb1 (i := 31) (by decide +kernel) (by decide +kernel)
theorem b_fl_X3_43 : Cond.fieldLink RX3 43 "DogsPostman$Village" "dogs" "I" ∈ BG := tb1 (i := 32) (by decide +kernel) (by decide +kernel)
theorem b_fl_X1_73 : Cond.fieldLink RX1 73 "DogsPostman$Village" "dogs" "I" ∈ BG := tb1 (i := 33) (by decide +kernel) (by decide +kernel)
theorem b_fl_X3_46 : Cond.fieldLink RX3 46 "DogsPostman$Village" "asleep" "I" ∈ BG := tb1 (i := 34) (by decide +kernel) (by decide +kernel)
theorem b_fl_X4_121 : Cond.fieldLink RX4 121 "DogsPostman$Village" "asleep" "I" ∈ BG := tb1 (i := 35) (by decide +kernel) (by decide +kernel)
theorem b_fl_X3_49 : Cond.fieldLink RX3 49 "DogsPostman$Village" "round" "I" ∈ BG := tb1 (i := 36) (by decide +kernel) (by decide +kernel)
theorem b_fl_X4_115 : Cond.fieldLink RX4 115 "DogsPostman$Village" "round" "I" ∈ BG := tb1 (i := 37) (by decide +kernel) (by decide +kernel)
theorem b_fl_X3_52 : Cond.fieldLink RX3 52 "DogsPostman$Village" "notes" "I" ∈ BG := tb1 (i := 38) (by decide +kernel) (by decide +kernel)
theorem b_fl_X4_190 : Cond.fieldLink RX4 190 "DogsPostman$Village" "notes" "I" ∈ BG := tb1 (i := 39) (by decide +kernel) (by decide +kernel)
theorem b_fl_X3_55 : Cond.fieldLink RX3 55 "DogsPostman$Village" "pasts" "I" ∈ BG := tb1 (i := 40) (by decide +kernel) (by decide +kernel)
theorem b_fl_X4_132 : Cond.fieldLink RX4 132 "DogsPostman$Village" "pasts" "I" ∈ BG := tb1 (i := 41) (by decide +kernel) (by decide +kernel)
theorem b_fl_X3_9 : Cond.fieldLink RX3 9 "DogsPostman$Village" "boots" "[I" ∈ BG := tb1 (i := 42) (by decide +kernel) (by decide +kernel)
theorem b_fl_X4_138 : Cond.fieldLink RX4 138 "DogsPostman$Village" "boots" "[I" ∈ BG := tb1 (i := 43) (by decide +kernel) (by decide +kernel)
theorem b_fl_X3_15 : Cond.fieldLink RX3 15 "DogsPostman$Village" "ham" "[I" ∈ BG := tb1 (i := 44) (by decide +kernel) (by decide +kernel)
theorem b_fl_X4_112 : Cond.fieldLink RX4 112 "DogsPostman$Village" "ham" "[I" ∈ BG := tb1 (i := 45) (by decide +kernel) (by decide +kernel)
theorem b_fl_X3_18 : Cond.fieldLink RX3 18 "DogsPostman$Village" "holes" "[I" ∈ BG := tb1 (i := 46) (by decide +kernel) (by decide +kernel)
theorem b_fl_X4_118 : Cond.fieldLink RX4 118 "DogsPostman$Village" "holes" "[I" ∈ BG := tb1 (i := 47) (by decide +kernel) (by decide +kernel)
theorem b_fl_X3_21 : Cond.fieldLink RX3 21 "DogsPostman$Village" "kind" "[I" ∈ BG := tb1 (i := 48) (by decide +kernel) (by decide +kernel)
theorem b_fl_X4_141 : Cond.fieldLink RX4 141 "DogsPostman$Village" "kind" "[I" ∈ BG := tb1 (i := 49) (by decide +kernel) (by decide +kernel)
theorem b_fl_X3_24 : Cond.fieldLink RX3 24 "DogsPostman$Village" "weight" "[I" ∈ BG := tb1 (i := 50) (by decide +kernel) (by decide +kernel)
theorem b_fl_X4_144 : Cond.fieldLink RX4 144 "DogsPostman$Village" "weight" "[I" ∈ BG := tb1 (i := 51) (by decide +kernel) (by decide +kernel)
theorem b_fl_X3_27 : Cond.fieldLink RX3 27 "DogsPostman$Village" "hunger" "[I" ∈ BG := tb1 (i := 52) (by decide +kernel) (by decide +kernel)
theorem b_fl_X4_147 : Cond.fieldLink RX4 147 "DogsPostman$Village" "hunger" "[I" ∈ BG := tb1 (i := 53) (by decide +kernel) (by decide +kernel)
theorem b_fl_X3_30 : Cond.fieldLink RX3 30 "DogsPostman$Village" "favourite" "[I" ∈ BG := tb1 (i := 54) (by decide +kernel) (by decide +kernel)
theorem b_fl_X4_150 : Cond.fieldLink RX4 150 "DogsPostman$Village" "favourite" "[I" ∈ BG := tb1 (i := 55) (by decide +kernel) (by decide +kernel)
theorem b_fl_X3_33 : Cond.fieldLink RX3 33 "DogsPostman$Village" "noted" "[I" ∈ BG := tb1 (i := 56) (by decide +kernel) (by decide +kernel)
theorem b_fl_X3_36 : Cond.fieldLink RX3 36 "DogsPostman$Village" "past" "[I" ∈ BG := tb1 (i := 57) (by decide +kernel) (by decide +kernel)
theorem b_ac_int : Cond.arrayClass .int ∈ BG := tb1 (i := 89) (by decide +kernel) (by decide +kernel)
theorem b_cl_X4_23 : Cond.classLink RX4 23 RX2 ∈ BG := tb1 (i := 91) (by decide +kernel) (by decide +kernel)
theorem b_is_X2 : Cond.instantiable RX2 2 ∈ BG := tb1 (i := 92) (by decide +kernel) (by decide +kernel)
theorem b_ml_X4_25 : Cond.methodLink RX4 25 yX2_init ∈ BG := tb1 (i := 93) (by decide +kernel) (by decide +kernel)
theorem b_inm_yX2_init : Cond.instanceMethod yX2_init ∈ BG := tb1 (i := 94) (by decide +kernel) (by decide +kernel)
theorem b_co_yX2_init : Cond.code yX2_init cX2_init 1 none ∈ BG := tb1 (i := 95) (by decide +kernel) (by decide +kernel)
theorem b_ml_X2_3 : Cond.methodLink RX2 3 objectInit ∈ BG := tb1 (i := 96) (by decide +kernel) (by decide +kernel)
theorem b_fl_X2_9 : Cond.fieldLink RX2 9 "DogsPostman$Text" "bytes" "[B" ∈ BG := tb1 (i := 97) (by decide +kernel) (by decide +kernel)
theorem b_fl_X2_15 : Cond.fieldLink RX2 15 "DogsPostman$Text" "length" "I" ∈ BG := tb1 (i := 98) (by decide +kernel) (by decide +kernel)
theorem b_fl_X4_72 : Cond.fieldLink RX4 72 "DogsPostman$Text" "length" "I" ∈ BG := tb1 (i := 99) (by decide +kernel) (by decide +kernel)
theorem b_fl_X1_108 : Cond.fieldLink RX1 108 "DogsPostman$Text" "length" "I" ∈ BG := tb1 (i := 100) (by decide +kernel) (by decide +kernel)
theorem b_ac_byte : Cond.arrayClass .byte ∈ BG := tb1 (i := 106) (by decide +kernel) (by decide +kernel)
theorem b_fl_X4_10 : Cond.fieldLink RX4 10 "DogsPostman" "now" "LDogsPostman$Village;" ∈ BG := tb1 (i := 107) (by decide +kernel) (by decide +kernel)
theorem b_fl_X4_16 : Cond.fieldLink RX4 16 "DogsPostman" "spare" "LDogsPostman$Village;" ∈ BG := tb1 (i := 108) (by decide +kernel) (by decide +kernel)
theorem b_fl_X4_19 : Cond.fieldLink RX4 19 "DogsPostman" "images" "[LDogsPostman$Village;" ∈ BG := tb1 (i := 109) (by decide +kernel) (by decide +kernel)
theorem b_fl_X4_26 : Cond.fieldLink RX4 26 "DogsPostman" "text" "LDogsPostman$Text;" ∈ BG := tb1 (i := 110) (by decide +kernel) (by decide +kernel)
theorem b_fl_X4_30 : Cond.fieldLink RX4 30 "DogsPostman" "above" "I" ∈ BG := tb1 (i := 111) (by decide +kernel) (by decide +kernel)
theorem b_fl_X4_34 : Cond.fieldLink RX4 34 "DogsPostman" "below" "I" ∈ BG := tb1 (i := 112) (by decide +kernel) (by decide +kernel)
theorem b_fl_X4_233 : Cond.fieldLink RX4 233 "DogsPostman" "badCalls" "I" ∈ BG := tb1 (i := 113) (by decide +kernel) (by decide +kernel)
theorem b_fl_X4_236 : Cond.fieldLink RX4 236 "DogsPostman" "noCalls" "I" ∈ BG := tb1 (i := 114) (by decide +kernel) (by decide +kernel)
theorem b_fl_X4_239 : Cond.fieldLink RX4 239 "DogsPostman" "fullCalls" "I" ∈ BG := tb1 (i := 115) (by decide +kernel) (by decide +kernel)
theorem b_fl_X4_37 : Cond.fieldLink RX4 37 "DogsPostman" "row" "[I" ∈ BG := tb1 (i := 116) (by decide +kernel) (by decide +kernel)
theorem b_fl_X4_41 : Cond.fieldLink RX4 41 "DogsPostman" "gainA" "[I" ∈ BG := tb1 (i := 117) (by decide +kernel) (by decide +kernel)
theorem b_fl_X4_44 : Cond.fieldLink RX4 44 "DogsPostman" "gainB" "[I" ∈ BG := tb1 (i := 118) (by decide +kernel) (by decide +kernel)
theorem b_ml_L_13 : Cond.methodLink RL 13 yX4_village ∈ BG := tb1 (i := 144) (by decide +kernel) (by decide +kernel)
theorem b_inm_yX4_village : Cond.instanceMethod yX4_village ∈ BG := tb1 (i := 145) (by decide +kernel) (by decide +kernel)
theorem b_se_yX4_village : Cond.selects RX4 yX4_village yX4_village ∈ BG := tb1 (i := 146) (by decide +kernel) (by decide +kernel)
theorem b_co_yX4_village : Cond.code yX4_village cX4_village 2 (some .int) ∈ BG := tb1 (i := 147) (by decide +kernel) (by decide +kernel)
theorem b_ml_X4_50 : Cond.methodLink RX4 50 yX3_empty ∈ BG := tb1 (i := 148) (by decide +kernel) (by decide +kernel)
theorem b_inm_yX3_empty : Cond.instanceMethod yX3_empty ∈ BG := tb1 (i := 149) (by decide +kernel) (by decide +kernel)
theorem b_se_yX3_empty : Cond.selects RX3 yX3_empty yX3_empty ∈ BG := tb1 (i := 150) (by decide +kernel) (by decide +kernel)
theorem b_co_yX3_empty : Cond.code yX3_empty cX3_empty 1 none ∈ BG := tb1 (i := 151) (by decide +kernel) (by decide +kernel)
theorem b_ml_L_18 : Cond.methodLink RL 18 yX4_man ∈ BG := tb1 (i := 152) (by decide +kernel) (by decide +kernel)
theorem b_inm_yX4_man : Cond.instanceMethod yX4_man ∈ BG := tb1 (i := 153) (by decide +kernel) (by decide +kernel)
theorem b_se_yX4_man : Cond.selects RX4 yX4_man yX4_man ∈ BG := tb1 (i := 154) (by decide +kernel) (by decide +kernel)
theorem b_co_yX4_man : Cond.code yX4_man cX4_man 3 (some .int) ∈ BG := tb1 (i := 155) (by decide +kernel) (by decide +kernel)
theorem b_ml_X4_53 : Cond.methodLink RX4 53 yX4_within ∈ BG := tb1 (i := 156) (by decide +kernel) (by decide +kernel)
theorem b_stm_yX4_within : Cond.static yX4_within ∈ BG := tb1 (i := 157) (by decide +kernel) (by decide +kernel)
theorem b_co_yX4_within : Cond.code yX4_within cX4_within 3 (some .boolean) ∈ BG := tb1 (i := 158) (by decide +kernel) (by decide +kernel)
theorem b_ml_X4_57 : Cond.methodLink RX4 57 yX4_refuse ∈ BG := tb1 (i := 159) (by decide +kernel) (by decide +kernel)
theorem b_inm_yX4_refuse : Cond.instanceMethod yX4_refuse ∈ BG := tb1 (i := 161) (by decide +kernel) (by decide +kernel)
theorem b_co_yX4_refuse : Cond.code yX4_refuse cX4_refuse 2 (some .int) ∈ BG := tb1 (i := 162) (by decide +kernel) (by decide +kernel)
theorem b_ml_X4_64 : Cond.methodLink RX4 64 yX3_addMan ∈ BG := tb1 (i := 163) (by decide +kernel) (by decide +kernel)
theorem b_inm_yX3_addMan : Cond.instanceMethod yX3_addMan ∈ BG := tb1 (i := 164) (by decide +kernel) (by decide +kernel)
theorem b_se_yX3_addMan : Cond.selects RX3 yX3_addMan yX3_addMan ∈ BG := tb1 (i := 165) (by decide +kernel) (by decide +kernel)
theorem b_co_yX3_addMan : Cond.code yX3_addMan cX3_addMan 3 (some .int) ∈ BG := tb1 (i := 166) (by decide +kernel) (by decide +kernel)
theorem b_ml_L_23 : Cond.methodLink RL 23 yX4_dog ∈ BG := tb1 (i := 167) (by decide +kernel) (by decide +kernel)
theorem b_inm_yX4_dog : Cond.instanceMethod yX4_dog ∈ BG := tb1 (i := 168) (by decide +kernel) (by decide +kernel)
theorem b_se_yX4_dog : Cond.selects RX4 yX4_dog yX4_dog ∈ BG := tb1 (i := 169) (by decide +kernel) (by decide +kernel)
theorem b_co_yX4_dog : Cond.code yX4_dog cX4_dog 5 (some .int) ∈ BG := tb1 (i := 170) (by decide +kernel) (by decide +kernel)
theorem b_ml_X4_68 : Cond.methodLink RX4 68 yX3_addDog ∈ BG := tb1 (i := 171) (by decide +kernel) (by decide +kernel)
theorem b_inm_yX3_addDog : Cond.instanceMethod yX3_addDog ∈ BG := tb1 (i := 172) (by decide +kernel) (by decide +kernel)
theorem b_se_yX3_addDog : Cond.selects RX3 yX3_addDog yX3_addDog ∈ BG := tb1 (i := 173) (by decide +kernel) (by decide +kernel)
theorem b_co_yX3_addDog : Cond.code yX3_addDog cX3_addDog 5 (some .int) ∈ BG := tb1 (i := 174) (by decide +kernel) (by decide +kernel)
theorem b_ml_L_28 : Cond.methodLink RL 28 yX4_type ∈ BG := tb1 (i := 175) (by decide +kernel) (by decide +kernel)
theorem b_inm_yX4_type : Cond.instanceMethod yX4_type ∈ BG := tb1 (i := 176) (by decide +kernel) (by decide +kernel)
theorem b_se_yX4_type : Cond.selects RX4 yX4_type yX4_type ∈ BG := tb1 (i := 177) (by decide +kernel) (by decide +kernel)
theorem b_co_yX4_type : Cond.code yX4_type cX4_type 2 (some .int) ∈ BG := tb1 (i := 178) (by decide +kernel) (by decide +kernel)
theorem b_ml_X4_75 : Cond.methodLink RX4 75 yX2_add ∈ BG := tb1 (i := 179) (by decide +kernel) (by decide +kernel)
theorem b_inm_yX2_add : Cond.instanceMethod yX2_add ∈ BG := tb1 (i := 180) (by decide +kernel) (by decide +kernel)
theorem b_se_yX2_add : Cond.selects RX2 yX2_add yX2_add ∈ BG := tb1 (i := 181) (by decide +kernel) (by decide +kernel)
theorem b_co_yX2_add : Cond.code yX2_add cX2_add 2 (some .int) ∈ BG := tb1 (i := 182) (by decide +kernel) (by decide +kernel)
theorem b_ml_L_33 : Cond.methodLink RL 33 yX4_clear ∈ BG := tb1 (i := 183) (by decide +kernel) (by decide +kernel)
theorem b_inm_yX4_clear : Cond.instanceMethod yX4_clear ∈ BG := tb1 (i := 184) (by decide +kernel) (by decide +kernel)
theorem b_se_yX4_clear : Cond.selects RX4 yX4_clear yX4_clear ∈ BG := tb1 (i := 185) (by decide +kernel) (by decide +kernel)
theorem b_co_yX4_clear : Cond.code yX4_clear cX4_clear 2 (some .int) ∈ BG := tb1 (i := 186) (by decide +kernel) (by decide +kernel)
theorem b_ml_L_37 : Cond.methodLink RL 37 yX4_read ∈ BG := tb1 (i := 187) (by decide +kernel) (by decide +kernel)
theorem b_inm_yX4_read : Cond.instanceMethod yX4_read ∈ BG := tb1 (i := 188) (by decide +kernel) (by decide +kernel)
theorem b_se_yX4_read : Cond.selects RX4 yX4_read yX4_read ∈ BG := tb1 (i := 189) (by decide +kernel) (by decide +kernel)
theorem b_co_yX4_read : Cond.code yX4_read cX4_read 3 (some .int) ∈ BG := tb1 (i := 190) (by decide +kernel) (by decide +kernel)
theorem b_cl_X4_78 : Cond.classLink RX4 78 RX1 ∈ BG := tb1 (i := 191) (by decide +kernel) (by decide +kernel)
theorem b_is_X1 : Cond.instantiable RX1 6 ∈ BG := tb1 (i := 192) (by decide +kernel) (by decide +kernel)
theorem b_ml_X4_80 : Cond.methodLink RX4 80 yX1_init ∈ BG := tb1 (i := 193) (by decide +kernel) (by decide +kernel)
theorem b_inm_yX1_init : Cond.instanceMethod yX1_init ∈ BG := tb1 (i := 194) (by decide +kernel) (by decide +kernel)
theorem b_co_yX1_init : Cond.code yX1_init cX1_init 3 none ∈ BG := tb1 (i := 195) (by decide +kernel) (by decide +kernel)
theorem b_ml_X1_3 : Cond.methodLink RX1 3 objectInit ∈ BG := tb1 (i := 196) (by decide +kernel) (by decide +kernel)
theorem b_fl_X1_9 : Cond.fieldLink RX1 9 "DogsPostman$Reader" "text" "LDogsPostman$Text;" ∈ BG := tb1 (i := 197) (by decide +kernel) (by decide +kernel)
theorem b_fl_X1_15 : Cond.fieldLink RX1 15 "DogsPostman$Reader" "into" "LDogsPostman$Village;" ∈ BG := tb1 (i := 198) (by decide +kernel) (by decide +kernel)
theorem b_fl_X1_37 : Cond.fieldLink RX1 37 "DogsPostman$Reader" "sort" "I" ∈ BG := tb1 (i := 199) (by decide +kernel) (by decide +kernel)
theorem b_fl_X4_87 : Cond.fieldLink RX4 87 "DogsPostman$Reader" "at" "I" ∈ BG := tb1 (i := 200) (by decide +kernel) (by decide +kernel)
theorem b_fl_X1_90 : Cond.fieldLink RX1 90 "DogsPostman$Reader" "at" "I" ∈ BG := tb1 (i := 201) (by decide +kernel) (by decide +kernel)
theorem b_fl_X1_87 : Cond.fieldLink RX1 87 "DogsPostman$Reader" "behind" "I" ∈ BG := tb1 (i := 202) (by decide +kernel) (by decide +kernel)
theorem b_fl_X1_66 : Cond.fieldLink RX1 66 "DogsPostman$Reader" "value" "I" ∈ BG := tb1 (i := 203) (by decide +kernel) (by decide +kernel)
theorem b_ml_X4_83 : Cond.methodLink RX4 83 yX1_readVillage ∈ BG := tb1 (i := 217) (by decide +kernel) (by decide +kernel)
theorem b_inm_yX1_readVillage : Cond.instanceMethod yX1_readVillage ∈ BG := tb1 (i := 218) (by decide +kernel) (by decide +kernel)
theorem b_se_yX1_readVillage : Cond.selects RX1 yX1_readVillage yX1_readVillage ∈ BG := tb1 (i := 219) (by decide +kernel) (by decide +kernel)
theorem b_co_yX1_readVillage : Cond.code yX1_readVillage cX1_readVillage 3 (some .int) ∈ BG := tb1 (i := 220) (by decide +kernel) (by decide +kernel)
theorem b_ml_X1_19 : Cond.methodLink RX1 19 yX3_empty ∈ BG := tb1 (i := 221) (by decide +kernel) (by decide +kernel)
theorem b_ml_X1_24 : Cond.methodLink RX1 24 yX1_next ∈ BG := tb1 (i := 222) (by decide +kernel) (by decide +kernel)
theorem b_inm_yX1_next : Cond.instanceMethod yX1_next ∈ BG := tb1 (i := 223) (by decide +kernel) (by decide +kernel)
theorem b_se_yX1_next : Cond.selects RX1 yX1_next yX1_next ∈ BG := tb1 (i := 224) (by decide +kernel) (by decide +kernel)
theorem b_co_yX1_next : Cond.code yX1_next cX1_next 2 none ∈ BG := tb1 (i := 225) (by decide +kernel) (by decide +kernel)
theorem b_ml_X1_99 : Cond.methodLink RX1 99 yX2_at ∈ BG := tb1 (i := 226) (by decide +kernel) (by decide +kernel)
theorem b_inm_yX2_at : Cond.instanceMethod yX2_at ∈ BG := tb1 (i := 227) (by decide +kernel) (by decide +kernel)
theorem b_se_yX2_at : Cond.selects RX2 yX2_at yX2_at ∈ BG := tb1 (i := 228) (by decide +kernel) (by decide +kernel)
theorem b_co_yX2_at : Cond.code yX2_at cX2_at 2 (some .int) ∈ BG := tb1 (i := 229) (by decide +kernel) (by decide +kernel)
theorem b_ml_X1_110 : Cond.methodLink RX1 110 yX1_isLetter ∈ BG := tb1 (i := 230) (by decide +kernel) (by decide +kernel)
theorem b_stm_yX1_isLetter : Cond.static yX1_isLetter ∈ BG := tb1 (i := 231) (by decide +kernel) (by decide +kernel)
theorem b_co_yX1_isLetter : Cond.code yX1_isLetter cX1_isLetter 1 (some .boolean) ∈ BG := tb1 (i := 232) (by decide +kernel) (by decide +kernel)
theorem b_ml_X1_114 : Cond.methodLink RX1 114 yX1_isFigure ∈ BG := tb1 (i := 233) (by decide +kernel) (by decide +kernel)
theorem b_stm_yX1_isFigure : Cond.static yX1_isFigure ∈ BG := tb1 (i := 234) (by decide +kernel) (by decide +kernel)
theorem b_co_yX1_isFigure : Cond.code yX1_isFigure cX1_isFigure 1 (some .boolean) ∈ BG := tb1 (i := 235) (by decide +kernel) (by decide +kernel)
theorem b_ml_X1_117 : Cond.methodLink RX1 117 yX1_takeNumber ∈ BG := tb1 (i := 236) (by decide +kernel) (by decide +kernel)
theorem b_inm_yX1_takeNumber : Cond.instanceMethod yX1_takeNumber ∈ BG := tb1 (i := 237) (by decide +kernel) (by decide +kernel)
theorem b_se_yX1_takeNumber : Cond.selects RX1 yX1_takeNumber yX1_takeNumber ∈ BG := tb1 (i := 238) (by decide +kernel) (by decide +kernel)
theorem b_co_yX1_takeNumber : Cond.code yX1_takeNumber cX1_takeNumber 2 none ∈ BG := tb1 (i := 239) (by decide +kernel) (by decide +kernel)
theorem b_ml_X1_29 : Cond.methodLink RX1 29 yX1_wordHere ∈ BG := tb2 (i := 1) (by decide +kernel) (by decide +kernel)
theorem b_inm_yX1_wordHere : Cond.instanceMethod yX1_wordHere ∈ BG := tb2 (i := 2) (by decide +kernel) (by decide +kernel)
theorem b_se_yX1_wordHere : Cond.selects RX1 yX1_wordHere yX1_wordHere ∈ BG := tb2 (i := 3) (by decide +kernel) (by decide +kernel)
theorem b_co_yX1_wordHere : Cond.code yX1_wordHere cX1_wordHere 3 (some .boolean) ∈ BG := tb2 (i := 4) (by decide +kernel) (by decide +kernel)
theorem b_ml_X1_93 : Cond.methodLink RX1 93 yJ0_length_8abf5 ∈ BG := tb2 (i := 5) (by decide +kernel) (by decide +kernel)
theorem b_inm_yJ0_length_8abf5 : Cond.instanceMethod yJ0_length_8abf5 ∈ BG := tb2 (i := 6) (by decide +kernel) (by decide +kernel)
theorem b_se_yJ0_length_8abf5 : Cond.selects RJ0 yJ0_length_8abf5 yJ0_length_8abf5 ∈ BG := tb2 (i := 7) (by decide +kernel) (by decide +kernel)
theorem b_co_yJ0_length_8abf5 : Cond.code yJ0_length_8abf5 cJ0_length_8abf5 1 (some .int) ∈ BG := tb2 (i := 8) (by decide +kernel) (by decide +kernel)
theorem b_ml_J0_335 : Cond.methodLink RJ0 335 yJ0_coder_7d493 ∈ BG := tb2 (i := 9) (by decide +kernel) (by decide +kernel)
theorem b_inm_yJ0_coder_7d493 : Cond.instanceMethod yJ0_coder_7d493 ∈ BG := tb2 (i := 10) (by decide +kernel) (by decide +kernel)
theorem b_se_yJ0_coder_7d493 : Cond.selects RJ0 yJ0_coder_7d493 yJ0_coder_7d493 ∈ BG := tb2 (i := 11) (by decide +kernel) (by decide +kernel)
theorem b_co_yJ0_coder_7d493 : Cond.code yJ0_coder_7d493 cJ0_coder_7d493 1 (some .byte) ∈ BG := tb2 (i := 12) (by decide +kernel) (by decide +kernel)
theorem b_fl_J0_38 : Cond.fieldLink RJ0 38 "java/lang/String" "COMPACT_STRINGS" "Z" ∈ BG := tb2 (i := 13) (by decide +kernel) (by decide +kernel)
theorem b_ml_X1_104 : Cond.methodLink RX1 104 yJ0_charAt_5068e ∈ BG := tb2 (i := 15) (by decide +kernel) (by decide +kernel)
theorem b_inm_yJ0_charAt_5068e : Cond.instanceMethod yJ0_charAt_5068e ∈ BG := tb2 (i := 16) (by decide +kernel) (by decide +kernel)
theorem b_se_yJ0_charAt_5068e : Cond.selects RJ0 yJ0_charAt_5068e yJ0_charAt_5068e ∈ BG := tb2 (i := 17) (by decide +kernel) (by decide +kernel)
theorem b_co_yJ0_charAt_5068e : Cond.code yJ0_charAt_5068e cJ0_charAt_5068e 2 (some .char) ∈ BG := tb2 (i := 18) (by decide +kernel) (by decide +kernel)
theorem b_ml_J0_492 : Cond.methodLink RJ0 492 yJ0_isLatin1_aae02 ∈ BG := tb2 (i := 19) (by decide +kernel) (by decide +kernel)
theorem b_inm_yJ0_isLatin1_aae02 : Cond.instanceMethod yJ0_isLatin1_aae02 ∈ BG := tb2 (i := 20) (by decide +kernel) (by decide +kernel)
theorem b_se_yJ0_isLatin1_aae02 : Cond.selects RJ0 yJ0_isLatin1_aae02 yJ0_isLatin1_aae02 ∈ BG := tb2 (i := 21) (by decide +kernel) (by decide +kernel)
theorem b_co_yJ0_isLatin1_aae02 : Cond.code yJ0_isLatin1_aae02 cJ0_isLatin1_aae02 1 (some .boolean) ∈ BG := tb2 (i := 22) (by decide +kernel) (by decide +kernel)
theorem b_ml_J0_495 : Cond.methodLink RJ0 495 yJ1_charAt_3b067 ∈ BG := tb2 (i := 23) (by decide +kernel) (by decide +kernel)
theorem b_stm_yJ1_charAt_3b067 : Cond.static yJ1_charAt_3b067 ∈ BG := tb2 (i := 24) (by decide +kernel) (by decide +kernel)
theorem b_co_yJ1_charAt_3b067 : Cond.code yJ1_charAt_3b067 cJ1_charAt_3b067 2 (some .char) ∈ BG := tb2 (i := 25) (by decide +kernel) (by decide +kernel)
theorem b_ml_J1_9 : Cond.methodLink RJ1 9 yJ0_checkIndex_df160 ∈ BG := tb2 (i := 26) (by decide +kernel) (by decide +kernel)
theorem b_stm_yJ0_checkIndex_df160 : Cond.static yJ0_checkIndex_df160 ∈ BG := tb2 (i := 27) (by decide +kernel) (by decide +kernel)
theorem b_co_yJ0_checkIndex_df160 : Cond.code yJ0_checkIndex_df160 cJ0_checkIndex_df160 2 none ∈ BG := tb2 (i := 28) (by decide +kernel) (by decide +kernel)
theorem b_fl_J0_1053 : Cond.fieldLink RJ0 1053 "jdk/internal/util/Preconditions" "SIOOBE_FORMATTER" "Ljava/util/function/BiFunction;" ∈ BG := tb2 (i := 29) (by decide +kernel) (by decide +kernel)
theorem b_ml_J0_1059 : Cond.methodLink RJ0 1059 yJ3_checkIndex_8e157 ∈ BG := tb2 (i := 31) (by decide +kernel) (by decide +kernel)
theorem b_stm_yJ3_checkIndex_8e157 : Cond.static yJ3_checkIndex_8e157 ∈ BG := tb2 (i := 32) (by decide +kernel) (by decide +kernel)
theorem b_co_yJ3_checkIndex_8e157 : Cond.code yJ3_checkIndex_8e157 cJ3_checkIndex_8e157 3 (some .int) ∈ BG := tb2 (i := 33) (by decide +kernel) (by decide +kernel)
theorem b_ml_J0_498 : Cond.methodLink RJ0 498 yJ2_charAt_3b067 ∈ BG := tb2 (i := 34) (by decide +kernel) (by decide +kernel)
theorem b_stm_yJ2_charAt_3b067 : Cond.static yJ2_charAt_3b067 ∈ BG := tb2 (i := 35) (by decide +kernel) (by decide +kernel)
theorem b_co_yJ2_charAt_3b067 : Cond.code yJ2_charAt_3b067 cJ2_charAt_3b067 2 (some .char) ∈ BG := tb2 (i := 36) (by decide +kernel) (by decide +kernel)
theorem b_ml_J2_67 : Cond.methodLink RJ2 67 yJ2_checkIndex_2214a ∈ BG := tb2 (i := 37) (by decide +kernel) (by decide +kernel)
theorem b_stm_yJ2_checkIndex_2214a : Cond.static yJ2_checkIndex_2214a ∈ BG := tb2 (i := 38) (by decide +kernel) (by decide +kernel)
theorem b_co_yJ2_checkIndex_2214a : Cond.code yJ2_checkIndex_2214a cJ2_checkIndex_2214a 2 none ∈ BG := tb2 (i := 39) (by decide +kernel) (by decide +kernel)
theorem b_ml_J2_48 : Cond.methodLink RJ2 48 yJ2_length_9d52b ∈ BG := tb2 (i := 40) (by decide +kernel) (by decide +kernel)
theorem b_stm_yJ2_length_9d52b : Cond.static yJ2_length_9d52b ∈ BG := tb2 (i := 41) (by decide +kernel) (by decide +kernel)
theorem b_co_yJ2_length_9d52b : Cond.code yJ2_length_9d52b cJ2_length_9d52b 1 (some .int) ∈ BG := tb2 (i := 42) (by decide +kernel) (by decide +kernel)
theorem b_ml_J2_414 : Cond.methodLink RJ2 414 yJ0_checkIndex_df160 ∈ BG := tb2 (i := 43) (by decide +kernel) (by decide +kernel)
theorem b_ml_J2_71 : Cond.methodLink RJ2 71 yJ2_getChar_3b067 ∈ BG := tb2 (i := 44) (by decide +kernel) (by decide +kernel)
theorem b_stm_yJ2_getChar_3b067 : Cond.static yJ2_getChar_3b067 ∈ BG := tb2 (i := 45) (by decide +kernel) (by decide +kernel)
theorem b_co_yJ2_getChar_3b067 : Cond.code yJ2_getChar_3b067 cJ2_getChar_3b067 2 (some .char) ∈ BG := tb2 (i := 46) (by decide +kernel) (by decide +kernel)
theorem b_fl_J2_44 : Cond.fieldLink RJ2 44 "java/lang/StringUTF16" "$assertionsDisabled" "Z" ∈ BG := tb2 (i := 47) (by decide +kernel) (by decide +kernel)
theorem b_fl_J2_59 : Cond.fieldLink RJ2 59 "java/lang/StringUTF16" "HI_BYTE_SHIFT" "I" ∈ BG := tb2 (i := 49) (by decide +kernel) (by decide +kernel)
theorem b_fl_J2_63 : Cond.fieldLink RJ2 63 "java/lang/StringUTF16" "LO_BYTE_SHIFT" "I" ∈ BG := tb2 (i := 51) (by decide +kernel) (by decide +kernel)
theorem b_ml_X1_33 : Cond.methodLink RX1 33 yX1_semicolonNext ∈ BG := tb2 (i := 53) (by decide +kernel) (by decide +kernel)
theorem b_inm_yX1_semicolonNext : Cond.instanceMethod yX1_semicolonNext ∈ BG := tb2 (i := 54) (by decide +kernel) (by decide +kernel)
theorem b_se_yX1_semicolonNext : Cond.selects RX1 yX1_semicolonNext yX1_semicolonNext ∈ BG := tb2 (i := 55) (by decide +kernel) (by decide +kernel)
theorem b_co_yX1_semicolonNext : Cond.code yX1_semicolonNext cX1_semicolonNext 1 (some .boolean) ∈ BG := tb2 (i := 56) (by decide +kernel) (by decide +kernel)
theorem b_ml_X1_41 : Cond.methodLink RX1 41 yX1_readItem ∈ BG := tb2 (i := 57) (by decide +kernel) (by decide +kernel)
theorem b_inm_yX1_readItem : Cond.instanceMethod yX1_readItem ∈ BG := tb2 (i := 58) (by decide +kernel) (by decide +kernel)
theorem b_se_yX1_readItem : Cond.selects RX1 yX1_readItem yX1_readItem ∈ BG := tb2 (i := 59) (by decide +kernel) (by decide +kernel)
theorem b_co_yX1_readItem : Cond.code yX1_readItem cX1_readItem 1 (some .boolean) ∈ BG := tb2 (i := 60) (by decide +kernel) (by decide +kernel)
theorem b_ml_X1_46 : Cond.methodLink RX1 46 yX1_readMan ∈ BG := tb2 (i := 62) (by decide +kernel) (by decide +kernel)
theorem b_inm_yX1_readMan : Cond.instanceMethod yX1_readMan ∈ BG := tb2 (i := 63) (by decide +kernel) (by decide +kernel)
theorem b_se_yX1_readMan : Cond.selects RX1 yX1_readMan yX1_readMan ∈ BG := tb2 (i := 64) (by decide +kernel) (by decide +kernel)
theorem b_co_yX1_readMan : Cond.code yX1_readMan cX1_readMan 2 (some .boolean) ∈ BG := tb2 (i := 65) (by decide +kernel) (by decide +kernel)
theorem b_ml_X1_62 : Cond.methodLink RX1 62 yX1_numberNext ∈ BG := tb2 (i := 66) (by decide +kernel) (by decide +kernel)
theorem b_inm_yX1_numberNext : Cond.instanceMethod yX1_numberNext ∈ BG := tb2 (i := 67) (by decide +kernel) (by decide +kernel)
theorem b_se_yX1_numberNext : Cond.selects RX1 yX1_numberNext yX1_numberNext ∈ BG := tb2 (i := 68) (by decide +kernel) (by decide +kernel)
theorem b_co_yX1_numberNext : Cond.code yX1_numberNext cX1_numberNext 3 (some .boolean) ∈ BG := tb2 (i := 69) (by decide +kernel) (by decide +kernel)
theorem b_ml_X1_69 : Cond.methodLink RX1 69 yX3_addMan ∈ BG := tb2 (i := 70) (by decide +kernel) (by decide +kernel)
theorem b_ml_X1_51 : Cond.methodLink RX1 51 yX1_readDog ∈ BG := tb2 (i := 72) (by decide +kernel) (by decide +kernel)
theorem b_inm_yX1_readDog : Cond.instanceMethod yX1_readDog ∈ BG := tb2 (i := 73) (by decide +kernel) (by decide +kernel)
theorem b_se_yX1_readDog : Cond.selects RX1 yX1_readDog yX1_readDog ∈ BG := tb2 (i := 74) (by decide +kernel) (by decide +kernel)
theorem b_co_yX1_readDog : Cond.code yX1_readDog cX1_readDog 4 (some .boolean) ∈ BG := tb2 (i := 75) (by decide +kernel) (by decide +kernel)
theorem b_ml_X1_76 : Cond.methodLink RX1 76 yX3_addDog ∈ BG := tb2 (i := 76) (by decide +kernel) (by decide +kernel)
theorem b_ml_X1_56 : Cond.methodLink RX1 56 yX1_readBribe ∈ BG := tb2 (i := 78) (by decide +kernel) (by decide +kernel)
theorem b_inm_yX1_readBribe : Cond.instanceMethod yX1_readBribe ∈ BG := tb2 (i := 79) (by decide +kernel) (by decide +kernel)
theorem b_se_yX1_readBribe : Cond.selects RX1 yX1_readBribe yX1_readBribe ∈ BG := tb2 (i := 80) (by decide +kernel) (by decide +kernel)
theorem b_co_yX1_readBribe : Cond.code yX1_readBribe cX1_readBribe 2 (some .boolean) ∈ BG := tb2 (i := 81) (by decide +kernel) (by decide +kernel)
theorem b_ml_X1_80 : Cond.methodLink RX1 80 yX3_mayBribe ∈ BG := tb2 (i := 82) (by decide +kernel) (by decide +kernel)
theorem b_inm_yX3_mayBribe : Cond.instanceMethod yX3_mayBribe ∈ BG := tb2 (i := 83) (by decide +kernel) (by decide +kernel)
theorem b_se_yX3_mayBribe : Cond.selects RX3 yX3_mayBribe yX3_mayBribe ∈ BG := tb2 (i := 84) (by decide +kernel) (by decide +kernel)
theorem b_co_yX3_mayBribe : Cond.code yX3_mayBribe cX3_mayBribe 3 (some .boolean) ∈ BG := tb2 (i := 85) (by decide +kernel) (by decide +kernel)
theorem b_ml_X3_68 : Cond.methodLink RX3 68 yX3_isAsleep ∈ BG := tb2 (i := 86) (by decide +kernel) (by decide +kernel)
theorem b_inm_yX3_isAsleep : Cond.instanceMethod yX3_isAsleep ∈ BG := tb2 (i := 87) (by decide +kernel) (by decide +kernel)
theorem b_se_yX3_isAsleep : Cond.selects RX3 yX3_isAsleep yX3_isAsleep ∈ BG := tb2 (i := 88) (by decide +kernel) (by decide +kernel)
theorem b_co_yX3_isAsleep : Cond.code yX3_isAsleep cX3_isAsleep 2 (some .boolean) ∈ BG := tb2 (i := 89) (by decide +kernel) (by decide +kernel)
theorem b_ml_X3_64 : Cond.methodLink RX3 64 yX3_isIn ∈ BG := tb2 (i := 90) (by decide +kernel) (by decide +kernel)
theorem b_stm_yX3_isIn : Cond.static yX3_isIn ∈ BG := tb2 (i := 91) (by decide +kernel) (by decide +kernel)
theorem b_co_yX3_isIn : Cond.code yX3_isIn cX3_isIn 2 (some .boolean) ∈ BG := tb2 (i := 92) (by decide +kernel) (by decide +kernel)
theorem b_ml_X1_83 : Cond.methodLink RX1 83 yX3_putToSleep ∈ BG := tb2 (i := 93) (by decide +kernel) (by decide +kernel)
theorem b_inm_yX3_putToSleep : Cond.instanceMethod yX3_putToSleep ∈ BG := tb2 (i := 94) (by decide +kernel) (by decide +kernel)
theorem b_se_yX3_putToSleep : Cond.selects RX3 yX3_putToSleep yX3_putToSleep ∈ BG := tb2 (i := 95) (by decide +kernel) (by decide +kernel)
theorem b_co_yX3_putToSleep : Cond.code yX3_putToSleep cX3_putToSleep 3 none ∈ BG := tb2 (i := 96) (by decide +kernel) (by decide +kernel)
theorem b_ml_X4_90 : Cond.methodLink RX4 90 yX3_takeFrom ∈ BG := tb2 (i := 97) (by decide +kernel) (by decide +kernel)
theorem b_inm_yX3_takeFrom : Cond.instanceMethod yX3_takeFrom ∈ BG := tb2 (i := 98) (by decide +kernel) (by decide +kernel)
theorem b_se_yX3_takeFrom : Cond.selects RX3 yX3_takeFrom yX3_takeFrom ∈ BG := tb2 (i := 99) (by decide +kernel) (by decide +kernel)
theorem b_co_yX3_takeFrom : Cond.code yX3_takeFrom cX3_takeFrom 2 none ∈ BG := tb2 (i := 100) (by decide +kernel) (by decide +kernel)
theorem b_ml_X3_58 : Cond.methodLink RX3 58 arraycopyName ∈ BG := tb2 (i := 101) (by decide +kernel) (by decide +kernel)
theorem b_stm_arraycopyName : Cond.static arraycopyName ∈ BG := tb2 (i := 102) (by decide +kernel) (by decide +kernel)
theorem b_nam_arraycopyName : Cond.native arraycopyName ∈ BG := tb2 (i := 103) (by decide +kernel) (by decide +kernel)
theorem b_ml_L_41 : Cond.methodLink RL 41 yX4_bribe ∈ BG := tb2 (i := 104) (by decide +kernel) (by decide +kernel)
theorem b_inm_yX4_bribe : Cond.instanceMethod yX4_bribe ∈ BG := tb2 (i := 105) (by decide +kernel) (by decide +kernel)
theorem b_se_yX4_bribe : Cond.selects RX4 yX4_bribe yX4_bribe ∈ BG := tb2 (i := 106) (by decide +kernel) (by decide +kernel)
theorem b_co_yX4_bribe : Cond.code yX4_bribe cX4_bribe 3 (some .int) ∈ BG := tb2 (i := 107) (by decide +kernel) (by decide +kernel)
theorem b_ml_X4_94 : Cond.methodLink RX4 94 yX3_hasMan ∈ BG := tb2 (i := 108) (by decide +kernel) (by decide +kernel)
theorem b_inm_yX3_hasMan : Cond.instanceMethod yX3_hasMan ∈ BG := tb2 (i := 109) (by decide +kernel) (by decide +kernel)
theorem b_se_yX3_hasMan : Cond.selects RX3 yX3_hasMan yX3_hasMan ∈ BG := tb2 (i := 110) (by decide +kernel) (by decide +kernel)
theorem b_co_yX3_hasMan : Cond.code yX3_hasMan cX3_hasMan 2 (some .boolean) ∈ BG := tb2 (i := 111) (by decide +kernel) (by decide +kernel)
theorem b_ml_X4_98 : Cond.methodLink RX4 98 yX3_hasDog ∈ BG := tb2 (i := 112) (by decide +kernel) (by decide +kernel)
theorem b_inm_yX3_hasDog : Cond.instanceMethod yX3_hasDog ∈ BG := tb2 (i := 113) (by decide +kernel) (by decide +kernel)
theorem b_se_yX3_hasDog : Cond.selects RX3 yX3_hasDog yX3_hasDog ∈ BG := tb2 (i := 114) (by decide +kernel) (by decide +kernel)
theorem b_co_yX3_hasDog : Cond.code yX3_hasDog cX3_hasDog 2 (some .boolean) ∈ BG := tb2 (i := 115) (by decide +kernel) (by decide +kernel)
theorem b_ml_X4_101 : Cond.methodLink RX4 101 yX3_mayBribe ∈ BG := tb2 (i := 116) (by decide +kernel) (by decide +kernel)
theorem b_ml_X4_105 : Cond.methodLink RX4 105 yX3_keepPast ∈ BG := tb2 (i := 117) (by decide +kernel) (by decide +kernel)
theorem b_inm_yX3_keepPast : Cond.instanceMethod yX3_keepPast ∈ BG := tb2 (i := 118) (by decide +kernel) (by decide +kernel)
theorem b_se_yX3_keepPast : Cond.selects RX3 yX3_keepPast yX3_keepPast ∈ BG := tb2 (i := 119) (by decide +kernel) (by decide +kernel)
theorem b_co_yX3_keepPast : Cond.code yX3_keepPast cX3_keepPast 2 none ∈ BG := tb2 (i := 120) (by decide +kernel) (by decide +kernel)
theorem b_ml_X4_108 : Cond.methodLink RX4 108 yX3_putToSleep ∈ BG := tb2 (i := 121) (by decide +kernel) (by decide +kernel)
theorem b_ml_L_45 : Cond.methodLink RL 45 yX4_round ∈ BG := tb2 (i := 122) (by decide +kernel) (by decide +kernel)
theorem b_inm_yX4_round : Cond.instanceMethod yX4_round ∈ BG := tb2 (i := 123) (by decide +kernel) (by decide +kernel)
theorem b_se_yX4_round : Cond.selects RX4 yX4_round yX4_round ∈ BG := tb2 (i := 124) (by decide +kernel) (by decide +kernel)
theorem b_co_yX4_round : Cond.code yX4_round cX4_round 3 (some .int) ∈ BG := tb2 (i := 125) (by decide +kernel) (by decide +kernel)
theorem b_ml_X4_124 : Cond.methodLink RX4 124 yX3_addRound ∈ BG := tb2 (i := 126) (by decide +kernel) (by decide +kernel)
theorem b_inm_yX3_addRound : Cond.instanceMethod yX3_addRound ∈ BG := tb2 (i := 127) (by decide +kernel) (by decide +kernel)
theorem b_se_yX3_addRound : Cond.selects RX3 yX3_addRound yX3_addRound ∈ BG := tb2 (i := 128) (by decide +kernel) (by decide +kernel)
theorem b_co_yX3_addRound : Cond.code yX3_addRound cX3_addRound 8 none ∈ BG := tb2 (i := 129) (by decide +kernel) (by decide +kernel)
theorem b_ml_X3_89 : Cond.methodLink RX3 89 yX3_startOf ∈ BG := tb2 (i := 130) (by decide +kernel) (by decide +kernel)
theorem b_inm_yX3_startOf : Cond.instanceMethod yX3_startOf ∈ BG := tb2 (i := 131) (by decide +kernel) (by decide +kernel)
theorem b_se_yX3_startOf : Cond.selects RX3 yX3_startOf yX3_startOf ∈ BG := tb2 (i := 132) (by decide +kernel) (by decide +kernel)
theorem b_co_yX3_startOf : Cond.code yX3_startOf cX3_startOf 2 (some .int) ∈ BG := tb2 (i := 133) (by decide +kernel) (by decide +kernel)
theorem b_ml_X3_82 : Cond.methodLink RX3 82 yX3_bittenBy ∈ BG := tb2 (i := 134) (by decide +kernel) (by decide +kernel)
theorem b_inm_yX3_bittenBy : Cond.instanceMethod yX3_bittenBy ∈ BG := tb2 (i := 135) (by decide +kernel) (by decide +kernel)
theorem b_se_yX3_bittenBy : Cond.selects RX3 yX3_bittenBy yX3_bittenBy ∈ BG := tb2 (i := 136) (by decide +kernel) (by decide +kernel)
theorem b_co_yX3_bittenBy : Cond.code yX3_bittenBy cX3_bittenBy 7 (some .int) ∈ BG := tb2 (i := 137) (by decide +kernel) (by decide +kernel)
theorem b_ml_X3_72 : Cond.methodLink RX3 72 yX0_bites ∈ BG := tb2 (i := 138) (by decide +kernel) (by decide +kernel)
theorem b_stm_yX0_bites : Cond.static yX0_bites ∈ BG := tb2 (i := 139) (by decide +kernel) (by decide +kernel)
theorem b_co_yX0_bites : Cond.code yX0_bites cX0_bites 1 (some .int) ∈ BG := tb2 (i := 140) (by decide +kernel) (by decide +kernel)
theorem b_ml_X3_78 : Cond.methodLink RX3 78 yX0_wouldBite ∈ BG := tb2 (i := 141) (by decide +kernel) (by decide +kernel)
theorem b_stm_yX0_wouldBite : Cond.static yX0_wouldBite ∈ BG := tb2 (i := 142) (by decide +kernel) (by decide +kernel)
theorem b_co_yX0_wouldBite : Cond.code yX0_wouldBite cX0_wouldBite 3 (some .boolean) ∈ BG := tb2 (i := 143) (by decide +kernel) (by decide +kernel)
theorem b_ml_X3_86 : Cond.methodLink RX3 86 yX0_width ∈ BG := tb2 (i := 144) (by decide +kernel) (by decide +kernel)
theorem b_stm_yX0_width : Cond.static yX0_width ∈ BG := tb2 (i := 145) (by decide +kernel) (by decide +kernel)
theorem b_co_yX0_width : Cond.code yX0_width cX0_width 2 (some .int) ∈ BG := tb2 (i := 146) (by decide +kernel) (by decide +kernel)
theorem b_ml_X4_128 : Cond.methodLink RX4 128 yX4_postmanOf ∈ BG := tb2 (i := 147) (by decide +kernel) (by decide +kernel)
theorem b_stm_yX4_postmanOf : Cond.static yX4_postmanOf ∈ BG := tb2 (i := 148) (by decide +kernel) (by decide +kernel)
theorem b_co_yX4_postmanOf : Cond.code yX4_postmanOf cX4_postmanOf 4 (some .int) ∈ BG := tb2 (i := 149) (by decide +kernel) (by decide +kernel)
theorem b_ml_L_49 : Cond.methodLink RL 49 yX4_undo ∈ BG := tb2 (i := 150) (by decide +kernel) (by decide +kernel)
theorem b_inm_yX4_undo : Cond.instanceMethod yX4_undo ∈ BG := tb2 (i := 151) (by decide +kernel) (by decide +kernel)
theorem b_se_yX4_undo : Cond.selects RX4 yX4_undo yX4_undo ∈ BG := tb2 (i := 152) (by decide +kernel) (by decide +kernel)
theorem b_co_yX4_undo : Cond.code yX4_undo cX4_undo 1 (some .int) ∈ BG := tb2 (i := 153) (by decide +kernel) (by decide +kernel)
theorem b_ml_X4_135 : Cond.methodLink RX4 135 yX3_goBack ∈ BG := tb2 (i := 154) (by decide +kernel) (by decide +kernel)
theorem b_inm_yX3_goBack : Cond.instanceMethod yX3_goBack ∈ BG := tb2 (i := 155) (by decide +kernel) (by decide +kernel)
theorem b_se_yX3_goBack : Cond.selects RX3 yX3_goBack yX3_goBack ∈ BG := tb2 (i := 156) (by decide +kernel) (by decide +kernel)
theorem b_co_yX3_goBack : Cond.code yX3_goBack cX3_goBack 2 none ∈ BG := tb2 (i := 157) (by decide +kernel) (by decide +kernel)
theorem b_ml_L_53 : Cond.methodLink RL 53 yX4_of ∈ BG := tb2 (i := 158) (by decide +kernel) (by decide +kernel)
theorem b_inm_yX4_of : Cond.instanceMethod yX4_of ∈ BG := tb2 (i := 159) (by decide +kernel) (by decide +kernel)
theorem b_se_yX4_of : Cond.selects RX4 yX4_of yX4_of ∈ BG := tb2 (i := 160) (by decide +kernel) (by decide +kernel)
theorem b_co_yX4_of : Cond.code yX4_of cX4_of 3 (some .int) ∈ BG := tb2 (i := 161) (by decide +kernel) (by decide +kernel)
theorem b_ml_L_57 : Cond.methodLink RL 57 yX4_about ∈ BG := tb2 (i := 162) (by decide +kernel) (by decide +kernel)
theorem b_inm_yX4_about : Cond.instanceMethod yX4_about ∈ BG := tb2 (i := 163) (by decide +kernel) (by decide +kernel)
theorem b_se_yX4_about : Cond.selects RX4 yX4_about yX4_about ∈ BG := tb2 (i := 164) (by decide +kernel) (by decide +kernel)
theorem b_co_yX4_about : Cond.code yX4_about cX4_about 3 (some .int) ∈ BG := tb2 (i := 165) (by decide +kernel) (by decide +kernel)
theorem b_ml_X4_153 : Cond.methodLink RX4 153 yX3_isAsleep ∈ BG := tb2 (i := 166) (by decide +kernel) (by decide +kernel)
theorem b_ml_X4_156 : Cond.methodLink RX4 156 yX0_width ∈ BG := tb2 (i := 167) (by decide +kernel) (by decide +kernel)
theorem b_ml_X4_161 : Cond.methodLink RX4 161 yX0_bites ∈ BG := tb2 (i := 168) (by decide +kernel) (by decide +kernel)
theorem b_ml_L_61 : Cond.methodLink RL 61 yX4_bitten ∈ BG := tb2 (i := 169) (by decide +kernel) (by decide +kernel)
theorem b_inm_yX4_bitten : Cond.instanceMethod yX4_bitten ∈ BG := tb2 (i := 170) (by decide +kernel) (by decide +kernel)
theorem b_se_yX4_bitten : Cond.selects RX4 yX4_bitten yX4_bitten ∈ BG := tb2 (i := 171) (by decide +kernel) (by decide +kernel)
theorem b_co_yX4_bitten : Cond.code yX4_bitten cX4_bitten 4 (some .int) ∈ BG := tb2 (i := 172) (by decide +kernel) (by decide +kernel)
theorem b_ml_X4_164 : Cond.methodLink RX4 164 yX3_startOf ∈ BG := tb2 (i := 173) (by decide +kernel) (by decide +kernel)
theorem b_ml_X4_167 : Cond.methodLink RX4 167 yX3_bitersOf ∈ BG := tb2 (i := 174) (by decide +kernel) (by decide +kernel)
theorem b_inm_yX3_bitersOf : Cond.instanceMethod yX3_bitersOf ∈ BG := tb2 (i := 175) (by decide +kernel) (by decide +kernel)
theorem b_se_yX3_bitersOf : Cond.selects RX3 yX3_bitersOf yX3_bitersOf ∈ BG := tb2 (i := 176) (by decide +kernel) (by decide +kernel)
theorem b_co_yX3_bitersOf : Cond.code yX3_bitersOf cX3_bitersOf 6 (some .int) ∈ BG := tb2 (i := 177) (by decide +kernel) (by decide +kernel)
theorem b_ml_X4_171 : Cond.methodLink RX4 171 yX3_widthTo ∈ BG := tb2 (i := 178) (by decide +kernel) (by decide +kernel)
theorem b_inm_yX3_widthTo : Cond.instanceMethod yX3_widthTo ∈ BG := tb2 (i := 179) (by decide +kernel) (by decide +kernel)
theorem b_se_yX3_widthTo : Cond.selects RX3 yX3_widthTo yX3_widthTo ∈ BG := tb2 (i := 180) (by decide +kernel) (by decide +kernel)
theorem b_co_yX3_widthTo : Cond.code yX3_widthTo cX3_widthTo 6 (some .int) ∈ BG := tb2 (i := 181) (by decide +kernel) (by decide +kernel)
theorem b_ml_L_65 : Cond.methodLink RL 65 yX4_then ∈ BG := tb2 (i := 182) (by decide +kernel) (by decide +kernel)
theorem b_inm_yX4_then : Cond.instanceMethod yX4_then ∈ BG := tb2 (i := 183) (by decide +kernel) (by decide +kernel)
theorem b_se_yX4_then : Cond.selects RX4 yX4_then yX4_then ∈ BG := tb2 (i := 184) (by decide +kernel) (by decide +kernel)
theorem b_co_yX4_then : Cond.code yX4_then cX4_then 3 (some .int) ∈ BG := tb2 (i := 185) (by decide +kernel) (by decide +kernel)
theorem b_ml_X4_174 : Cond.methodLink RX4 174 yX4_lookAhead ∈ BG := tb2 (i := 186) (by decide +kernel) (by decide +kernel)
theorem b_inm_yX4_lookAhead : Cond.instanceMethod yX4_lookAhead ∈ BG := tb2 (i := 188) (by decide +kernel) (by decide +kernel)
theorem b_co_yX4_lookAhead : Cond.code yX4_lookAhead cX4_lookAhead 3 none ∈ BG := tb2 (i := 189) (by decide +kernel) (by decide +kernel)
theorem b_ml_X4_253 : Cond.methodLink RX4 253 arraycopyName ∈ BG := tb2 (i := 190) (by decide +kernel) (by decide +kernel)
theorem b_ml_L_69 : Cond.methodLink RL 69 yX4_won ∈ BG := tb2 (i := 191) (by decide +kernel) (by decide +kernel)
theorem b_inm_yX4_won : Cond.instanceMethod yX4_won ∈ BG := tb2 (i := 192) (by decide +kernel) (by decide +kernel)
theorem b_se_yX4_won : Cond.selects RX4 yX4_won yX4_won ∈ BG := tb2 (i := 193) (by decide +kernel) (by decide +kernel)
theorem b_co_yX4_won : Cond.code yX4_won cX4_won 3 (some .int) ∈ BG := tb2 (i := 194) (by decide +kernel) (by decide +kernel)
theorem b_ml_X4_178 : Cond.methodLink RX4 178 yX4_leaverOf ∈ BG := tb2 (i := 195) (by decide +kernel) (by decide +kernel)
theorem b_stm_yX4_leaverOf : Cond.static yX4_leaverOf ∈ BG := tb2 (i := 196) (by decide +kernel) (by decide +kernel)
theorem b_co_yX4_leaverOf : Cond.code yX4_leaverOf cX4_leaverOf 4 (some .int) ∈ BG := tb2 (i := 197) (by decide +kernel) (by decide +kernel)
theorem b_ml_L_73 : Cond.methodLink RL 73 yX4_letters ∈ BG := tb2 (i := 198) (by decide +kernel) (by decide +kernel)
theorem b_inm_yX4_letters : Cond.instanceMethod yX4_letters ∈ BG := tb2 (i := 199) (by decide +kernel) (by decide +kernel)
theorem b_se_yX4_letters : Cond.selects RX4 yX4_letters yX4_letters ∈ BG := tb2 (i := 200) (by decide +kernel) (by decide +kernel)
theorem b_co_yX4_letters : Cond.code yX4_letters cX4_letters 4 (some .int) ∈ BG := tb2 (i := 201) (by decide +kernel) (by decide +kernel)
theorem b_ml_L_77 : Cond.methodLink RL 77 yX4_bribes ∈ BG := tb2 (i := 202) (by decide +kernel) (by decide +kernel)
theorem b_inm_yX4_bribes : Cond.instanceMethod yX4_bribes ∈ BG := tb2 (i := 203) (by decide +kernel) (by decide +kernel)
theorem b_se_yX4_bribes : Cond.selects RX4 yX4_bribes yX4_bribes ∈ BG := tb2 (i := 204) (by decide +kernel) (by decide +kernel)
theorem b_co_yX4_bribes : Cond.code yX4_bribes cX4_bribes 8 (some .int) ∈ BG := tb2 (i := 205) (by decide +kernel) (by decide +kernel)
theorem b_ml_X4_181 : Cond.methodLink RX4 181 yX3_everyDog ∈ BG := tb2 (i := 206) (by decide +kernel) (by decide +kernel)
theorem b_inm_yX3_everyDog : Cond.instanceMethod yX3_everyDog ∈ BG := tb2 (i := 207) (by decide +kernel) (by decide +kernel)
theorem b_se_yX3_everyDog : Cond.selects RX3 yX3_everyDog yX3_everyDog ∈ BG := tb2 (i := 208) (by decide +kernel) (by decide +kernel)
theorem b_co_yX3_everyDog : Cond.code yX3_everyDog cX3_everyDog 1 (some .int) ∈ BG := tb2 (i := 209) (by decide +kernel) (by decide +kernel)
theorem b_ml_X4_184 : Cond.methodLink RX4 184 yX3_hungerOf ∈ BG := tb2 (i := 210) (by decide +kernel) (by decide +kernel)
theorem b_inm_yX3_hungerOf : Cond.instanceMethod yX3_hungerOf ∈ BG := tb2 (i := 211) (by decide +kernel) (by decide +kernel)
theorem b_se_yX3_hungerOf : Cond.selects RX3 yX3_hungerOf yX3_hungerOf ∈ BG := tb2 (i := 212) (by decide +kernel) (by decide +kernel)
theorem b_co_yX3_hungerOf : Cond.code yX3_hungerOf cX3_hungerOf 4 (some .int) ∈ BG := tb2 (i := 213) (by decide +kernel) (by decide +kernel)
theorem b_ml_X4_187 : Cond.methodLink RX4 187 yX4_winsByBribing ∈ BG := tb2 (i := 214) (by decide +kernel) (by decide +kernel)
theorem b_inm_yX4_winsByBribing : Cond.instanceMethod yX4_winsByBribing ∈ BG := tb2 (i := 216) (by decide +kernel) (by decide +kernel)
theorem b_co_yX4_winsByBribing : Cond.code yX4_winsByBribing cX4_winsByBribing 3 (some .boolean) ∈ BG := tb2 (i := 217) (by decide +kernel) (by decide +kernel)
theorem b_ml_L_81 : Cond.methodLink RL 81 yX4_still ∈ BG := tb2 (i := 218) (by decide +kernel) (by decide +kernel)
theorem b_inm_yX4_still : Cond.instanceMethod yX4_still ∈ BG := tb2 (i := 219) (by decide +kernel) (by decide +kernel)
theorem b_se_yX4_still : Cond.selects RX4 yX4_still yX4_still ∈ BG := tb2 (i := 220) (by decide +kernel) (by decide +kernel)
theorem b_co_yX4_still : Cond.code yX4_still cX4_still 3 (some .int) ∈ BG := tb2 (i := 221) (by decide +kernel) (by decide +kernel)
theorem b_ml_L_85 : Cond.methodLink RL 85 yX4_first ∈ BG := tb2 (i := 222) (by decide +kernel) (by decide +kernel)
theorem b_inm_yX4_first : Cond.instanceMethod yX4_first ∈ BG := tb2 (i := 223) (by decide +kernel) (by decide +kernel)
theorem b_se_yX4_first : Cond.selects RX4 yX4_first yX4_first ∈ BG := tb2 (i := 224) (by decide +kernel) (by decide +kernel)
theorem b_co_yX4_first : Cond.code yX4_first cX4_first 7 (some .int) ∈ BG := tb2 (i := 225) (by decide +kernel) (by decide +kernel)
theorem b_ml_L_89 : Cond.methodLink RL 89 yX4_slept ∈ BG := tb2 (i := 226) (by decide +kernel) (by decide +kernel)
theorem b_inm_yX4_slept : Cond.instanceMethod yX4_slept ∈ BG := tb2 (i := 227) (by decide +kernel) (by decide +kernel)
theorem b_se_yX4_slept : Cond.selects RX4 yX4_slept yX4_slept ∈ BG := tb2 (i := 228) (by decide +kernel) (by decide +kernel)
theorem b_co_yX4_slept : Cond.code yX4_slept cX4_slept 11 (some .int) ∈ BG := tb2 (i := 229) (by decide +kernel) (by decide +kernel)
theorem b_ml_L_93 : Cond.methodLink RL 93 yX4_note ∈ BG := tb2 (i := 230) (by decide +kernel) (by decide +kernel)
theorem b_inm_yX4_note : Cond.instanceMethod yX4_note ∈ BG := tb2 (i := 231) (by decide +kernel) (by decide +kernel)
theorem b_se_yX4_note : Cond.selects RX4 yX4_note yX4_note ∈ BG := tb2 (i := 232) (by decide +kernel) (by decide +kernel)
theorem b_co_yX4_note : Cond.code yX4_note cX4_note 5 (some .int) ∈ BG := tb2 (i := 233) (by decide +kernel) (by decide +kernel)
theorem b_ml_X4_193 : Cond.methodLink RX4 193 yX3_addNote ∈ BG := tb2 (i := 234) (by decide +kernel) (by decide +kernel)
theorem b_inm_yX3_addNote : Cond.instanceMethod yX3_addNote ∈ BG := tb2 (i := 235) (by decide +kernel) (by decide +kernel)
theorem b_se_yX3_addNote : Cond.selects RX3 yX3_addNote yX3_addNote ∈ BG := tb2 (i := 236) (by decide +kernel) (by decide +kernel)
theorem b_co_yX3_addNote : Cond.code yX3_addNote cX3_addNote 6 (some .int) ∈ BG := tb2 (i := 237) (by decide +kernel) (by decide +kernel)
theorem b_ml_L_97 : Cond.methodLink RL 97 yX4_forget ∈ BG := tb2 (i := 238) (by decide +kernel) (by decide +kernel)
theorem b_inm_yX4_forget : Cond.instanceMethod yX4_forget ∈ BG := tb2 (i := 239) (by decide +kernel) (by decide +kernel)
theorem b_se_yX4_forget : Cond.selects RX4 yX4_forget yX4_forget ∈ BG := tb3 (i := 0) (by decide +kernel) (by decide +kernel)
theorem b_co_yX4_forget : Cond.code yX4_forget cX4_forget 2 (some .int) ∈ BG := tb3 (i := 1) (by decide +kernel) (by decide +kernel)
theorem b_ml_L_101 : Cond.methodLink RL 101 yX4_is ∈ BG := tb3 (i := 2) (by decide +kernel) (by decide +kernel)
theorem b_inm_yX4_is : Cond.instanceMethod yX4_is ∈ BG := tb3 (i := 3) (by decide +kernel) (by decide +kernel)
theorem b_se_yX4_is : Cond.selects RX4 yX4_is yX4_is ∈ BG := tb3 (i := 4) (by decide +kernel) (by decide +kernel)
theorem b_co_yX4_is : Cond.code yX4_is cX4_is 2 (some .int) ∈ BG := tb3 (i := 5) (by decide +kernel) (by decide +kernel)
theorem b_ml_X4_196 : Cond.methodLink RX4 196 yX3_kindsBy ∈ BG := tb3 (i := 6) (by decide +kernel) (by decide +kernel)
theorem b_inm_yX3_kindsBy : Cond.instanceMethod yX3_kindsBy ∈ BG := tb3 (i := 7) (by decide +kernel) (by decide +kernel)
theorem b_se_yX3_kindsBy : Cond.selects RX3 yX3_kindsBy yX3_kindsBy ∈ BG := tb3 (i := 8) (by decide +kernel) (by decide +kernel)
theorem b_co_yX3_kindsBy : Cond.code yX3_kindsBy cX3_kindsBy 6 (some .int) ∈ BG := tb3 (i := 9) (by decide +kernel) (by decide +kernel)
theorem b_ml_X3_92 : Cond.methodLink RX3 92 yX0_biting ∈ BG := tb3 (i := 10) (by decide +kernel) (by decide +kernel)
theorem b_stm_yX0_biting : Cond.static yX0_biting ∈ BG := tb3 (i := 11) (by decide +kernel) (by decide +kernel)
theorem b_co_yX0_biting : Cond.code yX0_biting cX0_biting 4 (some .int) ∈ BG := tb3 (i := 12) (by decide +kernel) (by decide +kernel)
theorem b_ml_X0_11 : Cond.methodLink RX0 11 yX0_wouldBite ∈ BG := tb3 (i := 13) (by decide +kernel) (by decide +kernel)
theorem b_ml_L_105 : Cond.methodLink RL 105 yX4_send ∈ BG := tb3 (i := 14) (by decide +kernel) (by decide +kernel)
theorem b_inm_yX4_send : Cond.instanceMethod yX4_send ∈ BG := tb3 (i := 15) (by decide +kernel) (by decide +kernel)
theorem b_se_yX4_send : Cond.selects RX4 yX4_send yX4_send ∈ BG := tb3 (i := 16) (by decide +kernel) (by decide +kernel)
theorem b_co_yX4_send : Cond.code yX4_send cX4_send 8 (some .int) ∈ BG := tb3 (i := 17) (by decide +kernel) (by decide +kernel)
theorem b_ml_X4_199 : Cond.methodLink RX4 199 yX0_biting ∈ BG := tb3 (i := 18) (by decide +kernel) (by decide +kernel)
theorem b_ml_X4_203 : Cond.methodLink RX4 203 yJ6_bitCount_0f7a4 ∈ BG := tb3 (i := 19) (by decide +kernel) (by decide +kernel)
theorem b_stm_yJ6_bitCount_0f7a4 : Cond.static yJ6_bitCount_0f7a4 ∈ BG := tb3 (i := 20) (by decide +kernel) (by decide +kernel)
theorem b_co_yJ6_bitCount_0f7a4 : Cond.code yJ6_bitCount_0f7a4 cJ6_bitCount_0f7a4 1 (some .int) ∈ BG := tb3 (i := 21) (by decide +kernel) (by decide +kernel)
theorem b_ct_J6_265 : Cond.constant RJ6 265 (1431655765) ∈ BG := tb3 (i := 22) (by decide +kernel) (by decide +kernel)
theorem b_ct_J6_266 : Cond.constant RJ6 266 (858993459) ∈ BG := tb3 (i := 23) (by decide +kernel) (by decide +kernel)
theorem b_ct_J6_267 : Cond.constant RJ6 267 (252645135) ∈ BG := tb3 (i := 24) (by decide +kernel) (by decide +kernel)
theorem b_ml_X4_208 : Cond.methodLink RX4 208 yJ9_max_7cf53 ∈ BG := tb3 (i := 25) (by decide +kernel) (by decide +kernel)
theorem b_stm_yJ9_max_7cf53 : Cond.static yJ9_max_7cf53 ∈ BG := tb3 (i := 26) (by decide +kernel) (by decide +kernel)
theorem b_co_yJ9_max_7cf53 : Cond.code yJ9_max_7cf53 cJ9_max_7cf53 2 (some .int) ∈ BG := tb3 (i := 27) (by decide +kernel) (by decide +kernel)
theorem b_ml_L_109 : Cond.methodLink RL 109 yX4_two ∈ BG := tb3 (i := 28) (by decide +kernel) (by decide +kernel)
theorem b_inm_yX4_two : Cond.instanceMethod yX4_two ∈ BG := tb3 (i := 29) (by decide +kernel) (by decide +kernel)
theorem b_se_yX4_two : Cond.selects RX4 yX4_two yX4_two ∈ BG := tb3 (i := 30) (by decide +kernel) (by decide +kernel)
theorem b_co_yX4_two : Cond.code yX4_two cX4_two 7 (some .int) ∈ BG := tb3 (i := 31) (by decide +kernel) (by decide +kernel)
theorem b_ml_X4_213 : Cond.methodLink RX4 213 yX4_fillGains ∈ BG := tb3 (i := 32) (by decide +kernel) (by decide +kernel)
theorem b_inm_yX4_fillGains : Cond.instanceMethod yX4_fillGains ∈ BG := tb3 (i := 34) (by decide +kernel) (by decide +kernel)
theorem b_co_yX4_fillGains : Cond.code yX4_fillGains cX4_fillGains 7 none ∈ BG := tb3 (i := 35) (by decide +kernel) (by decide +kernel)
theorem b_ml_X4_259 : Cond.methodLink RX4 259 yX4_mayChoose ∈ BG := tb3 (i := 36) (by decide +kernel) (by decide +kernel)
theorem b_inm_yX4_mayChoose : Cond.instanceMethod yX4_mayChoose ∈ BG := tb3 (i := 38) (by decide +kernel) (by decide +kernel)
theorem b_co_yX4_mayChoose : Cond.code yX4_mayChoose cX4_mayChoose 2 (some .boolean) ∈ BG := tb3 (i := 39) (by decide +kernel) (by decide +kernel)
theorem b_ml_X4_262 : Cond.methodLink RX4 262 yX4_doorOf ∈ BG := tb3 (i := 40) (by decide +kernel) (by decide +kernel)
theorem b_stm_yX4_doorOf : Cond.static yX4_doorOf ∈ BG := tb3 (i := 41) (by decide +kernel) (by decide +kernel)
theorem b_co_yX4_doorOf : Cond.code yX4_doorOf cX4_doorOf 1 (some .int) ∈ BG := tb3 (i := 42) (by decide +kernel) (by decide +kernel)
theorem b_ml_X4_265 : Cond.methodLink RX4 265 yX4_priceOf ∈ BG := tb3 (i := 43) (by decide +kernel) (by decide +kernel)
theorem b_stm_yX4_priceOf : Cond.static yX4_priceOf ∈ BG := tb3 (i := 44) (by decide +kernel) (by decide +kernel)
theorem b_co_yX4_priceOf : Cond.code yX4_priceOf cX4_priceOf 1 (some .int) ∈ BG := tb3 (i := 45) (by decide +kernel) (by decide +kernel)
theorem b_ml_X4_216 : Cond.methodLink RX4 216 yX4_rests ∈ BG := tb3 (i := 46) (by decide +kernel) (by decide +kernel)
theorem b_inm_yX4_rests : Cond.instanceMethod yX4_rests ∈ BG := tb3 (i := 48) (by decide +kernel) (by decide +kernel)
theorem b_co_yX4_rests : Cond.code yX4_rests cX4_rests 5 (some .boolean) ∈ BG := tb3 (i := 49) (by decide +kernel) (by decide +kernel)
theorem b_ml_L_114 : Cond.methodLink RL 114 yX4_strays ∈ BG := tb3 (i := 50) (by decide +kernel) (by decide +kernel)
theorem b_inm_yX4_strays : Cond.instanceMethod yX4_strays ∈ BG := tb3 (i := 51) (by decide +kernel) (by decide +kernel)
theorem b_se_yX4_strays : Cond.selects RX4 yX4_strays yX4_strays ∈ BG := tb3 (i := 52) (by decide +kernel) (by decide +kernel)
theorem b_co_yX4_strays : Cond.code yX4_strays cX4_strays 6 (some .int) ∈ BG := tb3 (i := 53) (by decide +kernel) (by decide +kernel)
theorem b_ml_X4_219 : Cond.methodLink RX4 219 yX4_commonDivisor ∈ BG := tb3 (i := 54) (by decide +kernel) (by decide +kernel)
theorem b_stm_yX4_commonDivisor : Cond.static yX4_commonDivisor ∈ BG := tb3 (i := 55) (by decide +kernel) (by decide +kernel)
theorem b_co_yX4_commonDivisor : Cond.code yX4_commonDivisor cX4_commonDivisor 6 (some .int) ∈ BG := tb3 (i := 56) (by decide +kernel) (by decide +kernel)
theorem b_ml_L_118 : Cond.methodLink RL 118 yX4_villages ∈ BG := tb3 (i := 57) (by decide +kernel) (by decide +kernel)
theorem b_inm_yX4_villages : Cond.instanceMethod yX4_villages ∈ BG := tb3 (i := 58) (by decide +kernel) (by decide +kernel)
theorem b_se_yX4_villages : Cond.selects RX4 yX4_villages yX4_villages ∈ BG := tb3 (i := 59) (by decide +kernel) (by decide +kernel)
theorem b_co_yX4_villages : Cond.code yX4_villages cX4_villages 8 (some .int) ∈ BG := tb3 (i := 60) (by decide +kernel) (by decide +kernel)
theorem b_ct_X4_222 : Cond.constant RX4 222 (999999) ∈ BG := tb3 (i := 61) (by decide +kernel) (by decide +kernel)
theorem b_ct_X4_223 : Cond.constantLong RX4 223 (1103515245) ∈ BG := tb3 (i := 62) (by decide +kernel) (by decide +kernel)
theorem b_ct_X4_225 : Cond.constantLong RX4 225 (12345) ∈ BG := tb3 (i := 63) (by decide +kernel) (by decide +kernel)
theorem b_ct_X4_227 : Cond.constantLong RX4 227 (2147483648) ∈ BG := tb3 (i := 64) (by decide +kernel) (by decide +kernel)
theorem b_ct_X4_229 : Cond.constantLong RX4 229 (65536) ∈ BG := tb3 (i := 65) (by decide +kernel) (by decide +kernel)
theorem b_ct_X4_231 : Cond.constantLong RX4 231 (128) ∈ BG := tb3 (i := 66) (by decide +kernel) (by decide +kernel)
theorem b_ml_L_122 : Cond.methodLink RL 122 yX4_part ∈ BG := tb3 (i := 67) (by decide +kernel) (by decide +kernel)
theorem b_inm_yX4_part : Cond.instanceMethod yX4_part ∈ BG := tb3 (i := 68) (by decide +kernel) (by decide +kernel)
theorem b_se_yX4_part : Cond.selects RX4 yX4_part yX4_part ∈ BG := tb3 (i := 69) (by decide +kernel) (by decide +kernel)
theorem b_co_yX4_part : Cond.code yX4_part cX4_part 2 (some .long) ∈ BG := tb3 (i := 70) (by decide +kernel) (by decide +kernel)
theorem b_ml_L_127 : Cond.methodLink RL 127 yX4_image ∈ BG := tb3 (i := 71) (by decide +kernel) (by decide +kernel)
theorem b_inm_yX4_image : Cond.instanceMethod yX4_image ∈ BG := tb3 (i := 72) (by decide +kernel) (by decide +kernel)
theorem b_se_yX4_image : Cond.selects RX4 yX4_image yX4_image ∈ BG := tb3 (i := 73) (by decide +kernel) (by decide +kernel)
theorem b_co_yX4_image : Cond.code yX4_image cX4_image 3 (some .int) ∈ BG := tb3 (i := 74) (by decide +kernel) (by decide +kernel)
theorem b_ml_L_131 : Cond.methodLink RL 131 yX4_from ∈ BG := tb3 (i := 75) (by decide +kernel) (by decide +kernel)
theorem b_inm_yX4_from : Cond.instanceMethod yX4_from ∈ BG := tb3 (i := 76) (by decide +kernel) (by decide +kernel)
theorem b_se_yX4_from : Cond.selects RX4 yX4_from yX4_from ∈ BG := tb3 (i := 77) (by decide +kernel) (by decide +kernel)
theorem b_co_yX4_from : Cond.code yX4_from cX4_from 3 (some .int) ∈ BG := tb3 (i := 78) (by decide +kernel) (by decide +kernel)
theorem b_ml_L_135 : Cond.methodLink RL 135 yX4_status ∈ BG := tb3 (i := 79) (by decide +kernel) (by decide +kernel)
theorem b_inm_yX4_status : Cond.instanceMethod yX4_status ∈ BG := tb3 (i := 80) (by decide +kernel) (by decide +kernel)
theorem b_se_yX4_status : Cond.selects RX4 yX4_status yX4_status ∈ BG := tb3 (i := 81) (by decide +kernel) (by decide +kernel)
theorem b_co_yX4_status : Cond.code yX4_status cX4_status 2 (some .int) ∈ BG := tb3 (i := 82) (by decide +kernel) (by decide +kernel)
theorem b_ml_L_139 : Cond.methodLink RL 139 yX4_count ∈ BG := tb3 (i := 83) (by decide +kernel) (by decide +kernel)
theorem b_inm_yX4_count : Cond.instanceMethod yX4_count ∈ BG := tb3 (i := 84) (by decide +kernel) (by decide +kernel)
theorem b_se_yX4_count : Cond.selects RX4 yX4_count yX4_count ∈ BG := tb3 (i := 85) (by decide +kernel) (by decide +kernel)
theorem b_co_yX4_count : Cond.code yX4_count cX4_count 2 (some .int) ∈ BG := tb3 (i := 86) (by decide +kernel) (by decide +kernel)
theorem b_ml_X4_242 : Cond.methodLink RX4 242 yX4_counted ∈ BG := tb3 (i := 87) (by decide +kernel) (by decide +kernel)
theorem b_inm_yX4_counted : Cond.instanceMethod yX4_counted ∈ BG := tb3 (i := 89) (by decide +kernel) (by decide +kernel)
theorem b_co_yX4_counted : Cond.code yX4_counted cX4_counted 2 (some .int) ∈ BG := tb3 (i := 90) (by decide +kernel) (by decide +kernel)
theorem b_ml_L_143 : Cond.methodLink RL 143 yX4_digest ∈ BG := tb3 (i := 91) (by decide +kernel) (by decide +kernel)
theorem b_inm_yX4_digest : Cond.instanceMethod yX4_digest ∈ BG := tb3 (i := 92) (by decide +kernel) (by decide +kernel)
theorem b_se_yX4_digest : Cond.selects RX4 yX4_digest yX4_digest ∈ BG := tb3 (i := 93) (by decide +kernel) (by decide +kernel)
theorem b_co_yX4_digest : Cond.code yX4_digest cX4_digest 4 (some .long) ∈ BG := tb3 (i := 94) (by decide +kernel) (by decide +kernel)
theorem b_ct_X4_245 : Cond.constantLong RX4 245 (1367) ∈ BG := tb3 (i := 95) (by decide +kernel) (by decide +kernel)
theorem b_ct_X4_247 : Cond.constantLong RX4 247 (31) ∈ BG := tb3 (i := 96) (by decide +kernel) (by decide +kernel)
theorem b_ml_X4_249 : Cond.methodLink RX4 249 yX3_digestOn ∈ BG := tb3 (i := 97) (by decide +kernel) (by decide +kernel)
theorem b_inm_yX3_digestOn : Cond.instanceMethod yX3_digestOn ∈ BG := tb3 (i := 98) (by decide +kernel) (by decide +kernel)
theorem b_se_yX3_digestOn : Cond.selects RX3 yX3_digestOn yX3_digestOn ∈ BG := tb3 (i := 99) (by decide +kernel) (by decide +kernel)
theorem b_co_yX3_digestOn : Cond.code yX3_digestOn cX3_digestOn 6 (some .long) ∈ BG := tb3 (i := 100) (by decide +kernel) (by decide +kernel)
theorem b_ct_X3_96 : Cond.constantLong RX3 96 (31) ∈ BG := tb3 (i := 101) (by decide +kernel) (by decide +kernel)
theorem b_cl_L_10 : Cond.classLink RL 10 RX5 ∈ BG := tb3 (i := 102) (by decide +kernel) (by decide +kernel)
theorem b_is_X5 : Cond.instantiable RX5 34 ∈ BG := tb3 (i := 103) (by decide +kernel) (by decide +kernel)
theorem b_ml_L_12 : Cond.methodLink RL 12 yX5_init ∈ BG := tb3 (i := 104) (by decide +kernel) (by decide +kernel)
theorem b_inm_yX5_init : Cond.instanceMethod yX5_init ∈ BG := tb3 (i := 105) (by decide +kernel) (by decide +kernel)
theorem b_co_yX5_init : Cond.code yX5_init cX5_init 1 none ∈ BG := tb3 (i := 106) (by decide +kernel) (by decide +kernel)
theorem b_ml_X5_7 : Cond.methodLink RX5 7 objectInit ∈ BG := tb3 (i := 107) (by decide +kernel) (by decide +kernel)
theorem b_ml_X5_71 : Cond.methodLink RX5 71 yX5_begin ∈ BG := tb3 (i := 108) (by decide +kernel) (by decide +kernel)
theorem b_inm_yX5_begin : Cond.instanceMethod yX5_begin ∈ BG := tb3 (i := 110) (by decide +kernel) (by decide +kernel)
theorem b_co_yX5_begin : Cond.code yX5_begin cX5_begin 1 none ∈ BG := tb3 (i := 111) (by decide +kernel) (by decide +kernel)
theorem b_fl_X5_1 : Cond.fieldLink RX5 1 "DogsPostmanModel" "refused" "[I" ∈ BG := tb3 (i := 112) (by decide +kernel) (by decide +kernel)
theorem b_fl_X5_74 : Cond.fieldLink RX5 74 "DogsPostmanModel" "men" "I" ∈ BG := tb3 (i := 113) (by decide +kernel) (by decide +kernel)
theorem b_fl_X5_78 : Cond.fieldLink RX5 78 "DogsPostmanModel" "many" "I" ∈ BG := tb3 (i := 114) (by decide +kernel) (by decide +kernel)
theorem b_fl_X5_81 : Cond.fieldLink RX5 81 "DogsPostmanModel" "now" "I" ∈ BG := tb3 (i := 115) (by decide +kernel) (by decide +kernel)
theorem b_fl_X5_84 : Cond.fieldLink RX5 84 "DogsPostmanModel" "asleep" "I" ∈ BG := tb3 (i := 116) (by decide +kernel) (by decide +kernel)
theorem b_fl_X5_87 : Cond.fieldLink RX5 87 "DogsPostmanModel" "noteMany" "I" ∈ BG := tb3 (i := 117) (by decide +kernel) (by decide +kernel)
theorem b_fl_X5_13 : Cond.fieldLink RX5 13 "DogsPostmanModel" "boots" "[I" ∈ BG := tb3 (i := 118) (by decide +kernel) (by decide +kernel)
theorem b_fl_X5_16 : Cond.fieldLink RX5 16 "DogsPostmanModel" "ham" "[I" ∈ BG := tb3 (i := 119) (by decide +kernel) (by decide +kernel)
theorem b_fl_X5_19 : Cond.fieldLink RX5 19 "DogsPostmanModel" "holes" "[I" ∈ BG := tb3 (i := 120) (by decide +kernel) (by decide +kernel)
theorem b_fl_X5_22 : Cond.fieldLink RX5 22 "DogsPostmanModel" "kinds" "[I" ∈ BG := tb3 (i := 121) (by decide +kernel) (by decide +kernel)
theorem b_fl_X5_25 : Cond.fieldLink RX5 25 "DogsPostmanModel" "weights" "[I" ∈ BG := tb3 (i := 122) (by decide +kernel) (by decide +kernel)
theorem b_fl_X5_28 : Cond.fieldLink RX5 28 "DogsPostmanModel" "hungers" "[I" ∈ BG := tb3 (i := 123) (by decide +kernel) (by decide +kernel)
theorem b_fl_X5_31 : Cond.fieldLink RX5 31 "DogsPostmanModel" "favourites" "[I" ∈ BG := tb3 (i := 124) (by decide +kernel) (by decide +kernel)
theorem b_fl_X5_34 : Cond.fieldLink RX5 34 "DogsPostmanModel" "noteDog" "[I" ∈ BG := tb3 (i := 125) (by decide +kernel) (by decide +kernel)
theorem b_fl_X5_37 : Cond.fieldLink RX5 37 "DogsPostmanModel" "noteFavourite" "[I" ∈ BG := tb3 (i := 126) (by decide +kernel) (by decide +kernel)
theorem b_fl_X5_40 : Cond.fieldLink RX5 40 "DogsPostmanModel" "noteBoots" "[I" ∈ BG := tb3 (i := 127) (by decide +kernel) (by decide +kernel)
theorem b_fl_X5_43 : Cond.fieldLink RX5 43 "DogsPostmanModel" "noteBit" "[I" ∈ BG := tb3 (i := 128) (by decide +kernel) (by decide +kernel)
theorem b_fl_X5_46 : Cond.fieldLink RX5 46 "DogsPostmanModel" "text" "[I" ∈ BG := tb3 (i := 129) (by decide +kernel) (by decide +kernel)
theorem b_fl_X5_112 : Cond.fieldLink RX5 112 "DogsPostmanModel" "typed" "I" ∈ BG := tb3 (i := 130) (by decide +kernel) (by decide +kernel)
theorem b_fl_X5_115 : Cond.fieldLink RX5 115 "DogsPostmanModel" "readAt" "I" ∈ BG := tb3 (i := 131) (by decide +kernel) (by decide +kernel)
theorem b_fl_X5_145 : Cond.fieldLink RX5 145 "DogsPostmanModel" "readMen" "I" ∈ BG := tb3 (i := 132) (by decide +kernel) (by decide +kernel)
theorem b_fl_X5_152 : Cond.fieldLink RX5 152 "DogsPostmanModel" "readMany" "I" ∈ BG := tb3 (i := 133) (by decide +kernel) (by decide +kernel)
theorem b_fl_X5_155 : Cond.fieldLink RX5 155 "DogsPostmanModel" "readAsleep" "I" ∈ BG := tb3 (i := 134) (by decide +kernel) (by decide +kernel)
theorem b_fl_X5_49 : Cond.fieldLink RX5 49 "DogsPostmanModel" "readMan" "[I" ∈ BG := tb3 (i := 135) (by decide +kernel) (by decide +kernel)
theorem b_fl_X5_52 : Cond.fieldLink RX5 52 "DogsPostmanModel" "readDog" "[I" ∈ BG := tb3 (i := 136) (by decide +kernel) (by decide +kernel)
theorem b_fl_X5_138 : Cond.fieldLink RX5 138 "DogsPostmanModel" "readNumber" "I" ∈ BG := tb3 (i := 137) (by decide +kernel) (by decide +kernel)
theorem b_fl_X5_55 : Cond.fieldLink RX5 55 "DogsPostmanModel" "ahead" "[I" ∈ BG := tb3 (i := 138) (by decide +kernel) (by decide +kernel)
theorem b_fl_X5_90 : Cond.fieldLink RX5 90 "DogsPostmanModel" "undoMany" "I" ∈ BG := tb3 (i := 139) (by decide +kernel) (by decide +kernel)
theorem b_fl_X5_58 : Cond.fieldLink RX5 58 "DogsPostmanModel" "aside" "[I" ∈ BG := tb3 (i := 140) (by decide +kernel) (by decide +kernel)
theorem b_fl_X5_256 : Cond.fieldLink RX5 256 "DogsPostmanModel" "above" "J" ∈ BG := tb3 (i := 141) (by decide +kernel) (by decide +kernel)
theorem b_fl_X5_61 : Cond.fieldLink RX5 61 "DogsPostmanModel" "below" "J" ∈ BG := tb3 (i := 142) (by decide +kernel) (by decide +kernel)
theorem b_fl_X5_65 : Cond.fieldLink RX5 65 "DogsPostmanModel" "images" "[I" ∈ BG := tb3 (i := 143) (by decide +kernel) (by decide +kernel)
theorem b_fl_X5_68 : Cond.fieldLink RX5 68 "DogsPostmanModel" "isKept" "[I" ∈ BG := tb3 (i := 144) (by decide +kernel) (by decide +kernel)
theorem b_fl_X5_284 : Cond.fieldLink RX5 284 "DogsPostmanModel" "h0" "J" ∈ BG := tb3 (i := 145) (by decide +kernel) (by decide +kernel)
theorem b_ml_L_17 : Cond.methodLink RL 17 yX5_village ∈ BG := tb3 (i := 215) (by decide +kernel) (by decide +kernel)
theorem b_inm_yX5_village : Cond.instanceMethod yX5_village ∈ BG := tb3 (i := 216) (by decide +kernel) (by decide +kernel)
theorem b_se_yX5_village : Cond.selects RX5 yX5_village yX5_village ∈ BG := tb3 (i := 217) (by decide +kernel) (by decide +kernel)
theorem b_co_yX5_village : Cond.code yX5_village cX5_village 2 (some .int) ∈ BG := tb3 (i := 218) (by decide +kernel) (by decide +kernel)
theorem b_ml_L_22 : Cond.methodLink RL 22 yX5_man ∈ BG := tb3 (i := 219) (by decide +kernel) (by decide +kernel)
theorem b_inm_yX5_man : Cond.instanceMethod yX5_man ∈ BG := tb3 (i := 220) (by decide +kernel) (by decide +kernel)
theorem b_se_yX5_man : Cond.selects RX5 yX5_man yX5_man ∈ BG := tb3 (i := 221) (by decide +kernel) (by decide +kernel)
theorem b_co_yX5_man : Cond.code yX5_man cX5_man 3 (some .int) ∈ BG := tb3 (i := 222) (by decide +kernel) (by decide +kernel)
theorem b_ml_X5_93 : Cond.methodLink RX5 93 yX5_in ∈ BG := tb3 (i := 223) (by decide +kernel) (by decide +kernel)
theorem b_stm_yX5_in : Cond.static yX5_in ∈ BG := tb3 (i := 224) (by decide +kernel) (by decide +kernel)
theorem b_co_yX5_in : Cond.code yX5_in cX5_in 3 (some .boolean) ∈ BG := tb3 (i := 225) (by decide +kernel) (by decide +kernel)
theorem b_ml_X5_97 : Cond.methodLink RX5 97 yX5_bad ∈ BG := tb3 (i := 226) (by decide +kernel) (by decide +kernel)
theorem b_inm_yX5_bad : Cond.instanceMethod yX5_bad ∈ BG := tb3 (i := 228) (by decide +kernel) (by decide +kernel)
theorem b_co_yX5_bad : Cond.code yX5_bad cX5_bad 1 (some .int) ∈ BG := tb3 (i := 229) (by decide +kernel) (by decide +kernel)
theorem b_ml_X5_101 : Cond.methodLink RX5 101 yX5_full ∈ BG := tb3 (i := 230) (by decide +kernel) (by decide +kernel)
theorem b_inm_yX5_full : Cond.instanceMethod yX5_full ∈ BG := tb3 (i := 232) (by decide +kernel) (by decide +kernel)
theorem b_co_yX5_full : Cond.code yX5_full cX5_full 1 (some .int) ∈ BG := tb3 (i := 233) (by decide +kernel) (by decide +kernel)
theorem b_ml_X5_104 : Cond.methodLink RX5 104 yX5_addMan ∈ BG := tb3 (i := 234) (by decide +kernel) (by decide +kernel)
theorem b_inm_yX5_addMan : Cond.instanceMethod yX5_addMan ∈ BG := tb3 (i := 236) (by decide +kernel) (by decide +kernel)
theorem b_co_yX5_addMan : Cond.code yX5_addMan cX5_addMan 3 (some .int) ∈ BG := tb3 (i := 237) (by decide +kernel) (by decide +kernel)
theorem b_ml_L_27 : Cond.methodLink RL 27 yX5_dog ∈ BG := tb3 (i := 238) (by decide +kernel) (by decide +kernel)
theorem b_inm_yX5_dog : Cond.instanceMethod yX5_dog ∈ BG := tb3 (i := 239) (by decide +kernel) (by decide +kernel)
theorem b_se_yX5_dog : Cond.selects RX5 yX5_dog yX5_dog ∈ BG := tb4 (i := 0) (by decide +kernel) (by decide +kernel)
theorem b_co_yX5_dog : Cond.code yX5_dog cX5_dog 5 (some .int) ∈ BG := tb4 (i := 1) (by decide +kernel) (by decide +kernel)
theorem b_ml_X5_108 : Cond.methodLink RX5 108 yX5_addDog ∈ BG := tb4 (i := 2) (by decide +kernel) (by decide +kernel)
theorem b_inm_yX5_addDog : Cond.instanceMethod yX5_addDog ∈ BG := tb4 (i := 4) (by decide +kernel) (by decide +kernel)
theorem b_co_yX5_addDog : Cond.code yX5_addDog cX5_addDog 5 (some .int) ∈ BG := tb4 (i := 5) (by decide +kernel) (by decide +kernel)
theorem b_ml_L_32 : Cond.methodLink RL 32 yX5_type ∈ BG := tb4 (i := 6) (by decide +kernel) (by decide +kernel)
theorem b_inm_yX5_type : Cond.instanceMethod yX5_type ∈ BG := tb4 (i := 7) (by decide +kernel) (by decide +kernel)
theorem b_se_yX5_type : Cond.selects RX5 yX5_type yX5_type ∈ BG := tb4 (i := 8) (by decide +kernel) (by decide +kernel)
theorem b_co_yX5_type : Cond.code yX5_type cX5_type 2 (some .int) ∈ BG := tb4 (i := 9) (by decide +kernel) (by decide +kernel)
theorem b_ml_L_36 : Cond.methodLink RL 36 yX5_clear ∈ BG := tb4 (i := 10) (by decide +kernel) (by decide +kernel)
theorem b_inm_yX5_clear : Cond.instanceMethod yX5_clear ∈ BG := tb4 (i := 11) (by decide +kernel) (by decide +kernel)
theorem b_se_yX5_clear : Cond.selects RX5 yX5_clear yX5_clear ∈ BG := tb4 (i := 12) (by decide +kernel) (by decide +kernel)
theorem b_co_yX5_clear : Cond.code yX5_clear cX5_clear 2 (some .int) ∈ BG := tb4 (i := 13) (by decide +kernel) (by decide +kernel)
theorem b_ml_L_40 : Cond.methodLink RL 40 yX5_read ∈ BG := tb4 (i := 14) (by decide +kernel) (by decide +kernel)
theorem b_inm_yX5_read : Cond.instanceMethod yX5_read ∈ BG := tb4 (i := 15) (by decide +kernel) (by decide +kernel)
theorem b_se_yX5_read : Cond.selects RX5 yX5_read yX5_read ∈ BG := tb4 (i := 16) (by decide +kernel) (by decide +kernel)
theorem b_co_yX5_read : Cond.code yX5_read cX5_read 3 (some .int) ∈ BG := tb4 (i := 17) (by decide +kernel) (by decide +kernel)
theorem b_ml_X5_176 : Cond.methodLink RX5 176 yX5_readsVillage ∈ BG := tb4 (i := 18) (by decide +kernel) (by decide +kernel)
theorem b_inm_yX5_readsVillage : Cond.instanceMethod yX5_readsVillage ∈ BG := tb4 (i := 20) (by decide +kernel) (by decide +kernel)
theorem b_co_yX5_readsVillage : Cond.code yX5_readsVillage cX5_readsVillage 2 (some .int) ∈ BG := tb4 (i := 21) (by decide +kernel) (by decide +kernel)
theorem b_ml_X5_132 : Cond.methodLink RX5 132 yX5_skip ∈ BG := tb4 (i := 22) (by decide +kernel) (by decide +kernel)
theorem b_inm_yX5_skip : Cond.instanceMethod yX5_skip ∈ BG := tb4 (i := 24) (by decide +kernel) (by decide +kernel)
theorem b_co_yX5_skip : Cond.code yX5_skip cX5_skip 1 none ∈ BG := tb4 (i := 25) (by decide +kernel) (by decide +kernel)
theorem b_ml_X5_118 : Cond.methodLink RX5 118 yX5_here ∈ BG := tb4 (i := 26) (by decide +kernel) (by decide +kernel)
theorem b_inm_yX5_here : Cond.instanceMethod yX5_here ∈ BG := tb4 (i := 28) (by decide +kernel) (by decide +kernel)
theorem b_co_yX5_here : Cond.code yX5_here cX5_here 1 (some .int) ∈ BG := tb4 (i := 29) (by decide +kernel) (by decide +kernel)
theorem b_ml_X5_161 : Cond.methodLink RX5 161 yX5_wordHere ∈ BG := tb4 (i := 30) (by decide +kernel) (by decide +kernel)
theorem b_inm_yX5_wordHere : Cond.instanceMethod yX5_wordHere ∈ BG := tb4 (i := 32) (by decide +kernel) (by decide +kernel)
theorem b_co_yX5_wordHere : Cond.code yX5_wordHere cX5_wordHere 2 (some .int) ∈ BG := tb4 (i := 33) (by decide +kernel) (by decide +kernel)
theorem b_ml_X5_125 : Cond.methodLink RX5 125 yX5_wordSize ∈ BG := tb4 (i := 34) (by decide +kernel) (by decide +kernel)
theorem b_inm_yX5_wordSize : Cond.instanceMethod yX5_wordSize ∈ BG := tb4 (i := 36) (by decide +kernel) (by decide +kernel)
theorem b_co_yX5_wordSize : Cond.code yX5_wordSize cX5_wordSize 2 (some .int) ∈ BG := tb4 (i := 37) (by decide +kernel) (by decide +kernel)
theorem b_ml_X5_121 : Cond.methodLink RX5 121 yX5_isLetter ∈ BG := tb4 (i := 38) (by decide +kernel) (by decide +kernel)
theorem b_stm_yX5_isLetter : Cond.static yX5_isLetter ∈ BG := tb4 (i := 39) (by decide +kernel) (by decide +kernel)
theorem b_co_yX5_isLetter : Cond.code yX5_isLetter cX5_isLetter 1 (some .boolean) ∈ BG := tb4 (i := 40) (by decide +kernel) (by decide +kernel)
theorem b_ml_X5_128 : Cond.methodLink RX5 128 yX5_letter ∈ BG := tb4 (i := 41) (by decide +kernel) (by decide +kernel)
theorem b_inm_yX5_letter : Cond.instanceMethod yX5_letter ∈ BG := tb4 (i := 43) (by decide +kernel) (by decide +kernel)
theorem b_co_yX5_letter : Cond.code yX5_letter cX5_letter 2 (some .int) ∈ BG := tb4 (i := 44) (by decide +kernel) (by decide +kernel)
theorem b_ml_X5_148 : Cond.methodLink RX5 148 yX5_ends ∈ BG := tb4 (i := 45) (by decide +kernel) (by decide +kernel)
theorem b_inm_yX5_ends : Cond.instanceMethod yX5_ends ∈ BG := tb4 (i := 47) (by decide +kernel) (by decide +kernel)
theorem b_co_yX5_ends : Cond.code yX5_ends cX5_ends 1 (some .boolean) ∈ BG := tb4 (i := 48) (by decide +kernel) (by decide +kernel)
theorem b_ml_X5_173 : Cond.methodLink RX5 173 yX5_readsItem ∈ BG := tb4 (i := 49) (by decide +kernel) (by decide +kernel)
theorem b_inm_yX5_readsItem : Cond.instanceMethod yX5_readsItem ∈ BG := tb4 (i := 51) (by decide +kernel) (by decide +kernel)
theorem b_co_yX5_readsItem : Cond.code yX5_readsItem cX5_readsItem 2 (some .boolean) ∈ BG := tb4 (i := 52) (by decide +kernel) (by decide +kernel)
theorem b_ml_X5_164 : Cond.methodLink RX5 164 yX5_readsMan ∈ BG := tb4 (i := 53) (by decide +kernel) (by decide +kernel)
theorem b_inm_yX5_readsMan : Cond.instanceMethod yX5_readsMan ∈ BG := tb4 (i := 55) (by decide +kernel) (by decide +kernel)
theorem b_co_yX5_readsMan : Cond.code yX5_readsMan cX5_readsMan 1 (some .boolean) ∈ BG := tb4 (i := 56) (by decide +kernel) (by decide +kernel)
theorem b_ml_X5_141 : Cond.methodLink RX5 141 yX5_number ∈ BG := tb4 (i := 57) (by decide +kernel) (by decide +kernel)
theorem b_inm_yX5_number : Cond.instanceMethod yX5_number ∈ BG := tb4 (i := 59) (by decide +kernel) (by decide +kernel)
theorem b_co_yX5_number : Cond.code yX5_number cX5_number 5 (some .boolean) ∈ BG := tb4 (i := 60) (by decide +kernel) (by decide +kernel)
theorem b_ml_X5_135 : Cond.methodLink RX5 135 yX5_isFigure ∈ BG := tb4 (i := 61) (by decide +kernel) (by decide +kernel)
theorem b_stm_yX5_isFigure : Cond.static yX5_isFigure ∈ BG := tb4 (i := 62) (by decide +kernel) (by decide +kernel)
theorem b_co_yX5_isFigure : Cond.code yX5_isFigure cX5_isFigure 1 (some .boolean) ∈ BG := tb4 (i := 63) (by decide +kernel) (by decide +kernel)
theorem b_ml_X5_167 : Cond.methodLink RX5 167 yX5_readsDog ∈ BG := tb4 (i := 64) (by decide +kernel) (by decide +kernel)
theorem b_inm_yX5_readsDog : Cond.instanceMethod yX5_readsDog ∈ BG := tb4 (i := 66) (by decide +kernel) (by decide +kernel)
theorem b_co_yX5_readsDog : Cond.code yX5_readsDog cX5_readsDog 4 (some .boolean) ∈ BG := tb4 (i := 67) (by decide +kernel) (by decide +kernel)
theorem b_ml_X5_170 : Cond.methodLink RX5 170 yX5_readsBribe ∈ BG := tb4 (i := 68) (by decide +kernel) (by decide +kernel)
theorem b_inm_yX5_readsBribe : Cond.instanceMethod yX5_readsBribe ∈ BG := tb4 (i := 70) (by decide +kernel) (by decide +kernel)
theorem b_co_yX5_readsBribe : Cond.code yX5_readsBribe cX5_readsBribe 4 (some .boolean) ∈ BG := tb4 (i := 71) (by decide +kernel) (by decide +kernel)
theorem b_ml_X5_158 : Cond.methodLink RX5 158 yX5_has ∈ BG := tb4 (i := 72) (by decide +kernel) (by decide +kernel)
theorem b_stm_yX5_has : Cond.static yX5_has ∈ BG := tb4 (i := 73) (by decide +kernel) (by decide +kernel)
theorem b_co_yX5_has : Cond.code yX5_has cX5_has 2 (some .boolean) ∈ BG := tb4 (i := 74) (by decide +kernel) (by decide +kernel)
theorem b_ml_L_44 : Cond.methodLink RL 44 yX5_bribe ∈ BG := tb4 (i := 75) (by decide +kernel) (by decide +kernel)
theorem b_inm_yX5_bribe : Cond.instanceMethod yX5_bribe ∈ BG := tb4 (i := 76) (by decide +kernel) (by decide +kernel)
theorem b_se_yX5_bribe : Cond.selects RX5 yX5_bribe yX5_bribe ∈ BG := tb4 (i := 77) (by decide +kernel) (by decide +kernel)
theorem b_co_yX5_bribe : Cond.code yX5_bribe cX5_bribe 3 (some .int) ∈ BG := tb4 (i := 78) (by decide +kernel) (by decide +kernel)
theorem b_ml_X5_206 : Cond.methodLink RX5 206 yX5_isMan ∈ BG := tb4 (i := 79) (by decide +kernel) (by decide +kernel)
theorem b_inm_yX5_isMan : Cond.instanceMethod yX5_isMan ∈ BG := tb4 (i := 81) (by decide +kernel) (by decide +kernel)
theorem b_co_yX5_isMan : Cond.code yX5_isMan cX5_isMan 2 (some .boolean) ∈ BG := tb4 (i := 82) (by decide +kernel) (by decide +kernel)
theorem b_ml_X5_209 : Cond.methodLink RX5 209 yX5_isDog ∈ BG := tb4 (i := 83) (by decide +kernel) (by decide +kernel)
theorem b_inm_yX5_isDog : Cond.instanceMethod yX5_isDog ∈ BG := tb4 (i := 85) (by decide +kernel) (by decide +kernel)
theorem b_co_yX5_isDog : Cond.code yX5_isDog cX5_isDog 2 (some .boolean) ∈ BG := tb4 (i := 86) (by decide +kernel) (by decide +kernel)
theorem b_ml_X5_212 : Cond.methodLink RX5 212 yX5_no ∈ BG := tb4 (i := 87) (by decide +kernel) (by decide +kernel)
theorem b_inm_yX5_no : Cond.instanceMethod yX5_no ∈ BG := tb4 (i := 89) (by decide +kernel) (by decide +kernel)
theorem b_co_yX5_no : Cond.code yX5_no cX5_no 1 (some .int) ∈ BG := tb4 (i := 90) (by decide +kernel) (by decide +kernel)
theorem b_ml_X5_215 : Cond.methodLink RX5 215 yX5_notes ∈ BG := tb4 (i := 91) (by decide +kernel) (by decide +kernel)
theorem b_inm_yX5_notes : Cond.instanceMethod yX5_notes ∈ BG := tb4 (i := 93) (by decide +kernel) (by decide +kernel)
theorem b_co_yX5_notes : Cond.code yX5_notes cX5_notes 2 none ∈ BG := tb4 (i := 94) (by decide +kernel) (by decide +kernel)
theorem b_ml_X5_199 : Cond.methodLink RX5 199 yX5_lays ∈ BG := tb4 (i := 95) (by decide +kernel) (by decide +kernel)
theorem b_inm_yX5_lays : Cond.instanceMethod yX5_lays ∈ BG := tb4 (i := 97) (by decide +kernel) (by decide +kernel)
theorem b_co_yX5_lays : Cond.code yX5_lays cX5_lays 4 none ∈ BG := tb4 (i := 98) (by decide +kernel) (by decide +kernel)
theorem b_ml_L_48 : Cond.methodLink RL 48 yX5_round ∈ BG := tb4 (i := 99) (by decide +kernel) (by decide +kernel)
theorem b_inm_yX5_round : Cond.instanceMethod yX5_round ∈ BG := tb4 (i := 100) (by decide +kernel) (by decide +kernel)
theorem b_se_yX5_round : Cond.selects RX5 yX5_round yX5_round ∈ BG := tb4 (i := 101) (by decide +kernel) (by decide +kernel)
theorem b_co_yX5_round : Cond.code yX5_round cX5_round 3 (some .int) ∈ BG := tb4 (i := 102) (by decide +kernel) (by decide +kernel)
theorem b_ml_X5_218 : Cond.methodLink RX5 218 yX5_pass ∈ BG := tb4 (i := 103) (by decide +kernel) (by decide +kernel)
theorem b_inm_yX5_pass : Cond.instanceMethod yX5_pass ∈ BG := tb4 (i := 105) (by decide +kernel) (by decide +kernel)
theorem b_co_yX5_pass : Cond.code yX5_pass cX5_pass 2 none ∈ BG := tb4 (i := 106) (by decide +kernel) (by decide +kernel)
theorem b_ml_X5_192 : Cond.methodLink RX5 192 yX5_firstOf ∈ BG := tb4 (i := 107) (by decide +kernel) (by decide +kernel)
theorem b_inm_yX5_firstOf : Cond.instanceMethod yX5_firstOf ∈ BG := tb4 (i := 109) (by decide +kernel) (by decide +kernel)
theorem b_co_yX5_firstOf : Cond.code yX5_firstOf cX5_firstOf 2 (some .int) ∈ BG := tb4 (i := 110) (by decide +kernel) (by decide +kernel)
theorem b_ml_X5_195 : Cond.methodLink RX5 195 yX5_comesTo ∈ BG := tb4 (i := 111) (by decide +kernel) (by decide +kernel)
theorem b_inm_yX5_comesTo : Cond.instanceMethod yX5_comesTo ∈ BG := tb4 (i := 113) (by decide +kernel) (by decide +kernel)
theorem b_co_yX5_comesTo : Cond.code yX5_comesTo cX5_comesTo 6 (some .int) ∈ BG := tb4 (i := 114) (by decide +kernel) (by decide +kernel)
theorem b_ml_X5_186 : Cond.methodLink RX5 186 yX5_isBitten ∈ BG := tb4 (i := 115) (by decide +kernel) (by decide +kernel)
theorem b_inm_yX5_isBitten : Cond.instanceMethod yX5_isBitten ∈ BG := tb4 (i := 117) (by decide +kernel) (by decide +kernel)
theorem b_co_yX5_isBitten : Cond.code yX5_isBitten cX5_isBitten 9 (some .boolean) ∈ BG := tb4 (i := 118) (by decide +kernel) (by decide +kernel)
theorem b_ml_X5_179 : Cond.methodLink RX5 179 yX5_bitesMany ∈ BG := tb4 (i := 119) (by decide +kernel) (by decide +kernel)
theorem b_stm_yX5_bitesMany : Cond.static yX5_bitesMany ∈ BG := tb4 (i := 120) (by decide +kernel) (by decide +kernel)
theorem b_co_yX5_bitesMany : Cond.code yX5_bitesMany cX5_bitesMany 1 (some .int) ∈ BG := tb4 (i := 121) (by decide +kernel) (by decide +kernel)
theorem b_ml_X5_182 : Cond.methodLink RX5 182 yX5_bitesBy ∈ BG := tb4 (i := 122) (by decide +kernel) (by decide +kernel)
theorem b_stm_yX5_bitesBy : Cond.static yX5_bitesBy ∈ BG := tb4 (i := 123) (by decide +kernel) (by decide +kernel)
theorem b_co_yX5_bitesBy : Cond.code yX5_bitesBy cX5_bitesBy 3 (some .boolean) ∈ BG := tb4 (i := 124) (by decide +kernel) (by decide +kernel)
theorem b_ml_X5_189 : Cond.methodLink RX5 189 yX5_holeBy ∈ BG := tb4 (i := 125) (by decide +kernel) (by decide +kernel)
theorem b_stm_yX5_holeBy : Cond.static yX5_holeBy ∈ BG := tb4 (i := 126) (by decide +kernel) (by decide +kernel)
theorem b_co_yX5_holeBy : Cond.code yX5_holeBy cX5_holeBy 2 (some .int) ∈ BG := tb4 (i := 127) (by decide +kernel) (by decide +kernel)
theorem b_ml_X5_221 : Cond.methodLink RX5 221 yX5_postman ∈ BG := tb4 (i := 128) (by decide +kernel) (by decide +kernel)
theorem b_inm_yX5_postman : Cond.instanceMethod yX5_postman ∈ BG := tb4 (i := 130) (by decide +kernel) (by decide +kernel)
theorem b_co_yX5_postman : Cond.code yX5_postman cX5_postman 3 (some .int) ∈ BG := tb4 (i := 131) (by decide +kernel) (by decide +kernel)
theorem b_ml_L_52 : Cond.methodLink RL 52 yX5_undo ∈ BG := tb4 (i := 132) (by decide +kernel) (by decide +kernel)
theorem b_inm_yX5_undo : Cond.instanceMethod yX5_undo ∈ BG := tb4 (i := 133) (by decide +kernel) (by decide +kernel)
theorem b_se_yX5_undo : Cond.selects RX5 yX5_undo yX5_undo ∈ BG := tb4 (i := 134) (by decide +kernel) (by decide +kernel)
theorem b_co_yX5_undo : Cond.code yX5_undo cX5_undo 1 (some .int) ∈ BG := tb4 (i := 135) (by decide +kernel) (by decide +kernel)
theorem b_ml_X5_203 : Cond.methodLink RX5 203 yX5_takes ∈ BG := tb4 (i := 136) (by decide +kernel) (by decide +kernel)
theorem b_inm_yX5_takes : Cond.instanceMethod yX5_takes ∈ BG := tb4 (i := 138) (by decide +kernel) (by decide +kernel)
theorem b_co_yX5_takes : Cond.code yX5_takes cX5_takes 4 none ∈ BG := tb4 (i := 139) (by decide +kernel) (by decide +kernel)
theorem b_ml_L_56 : Cond.methodLink RL 56 yX5_of ∈ BG := tb4 (i := 140) (by decide +kernel) (by decide +kernel)
theorem b_inm_yX5_of : Cond.instanceMethod yX5_of ∈ BG := tb4 (i := 141) (by decide +kernel) (by decide +kernel)
theorem b_se_yX5_of : Cond.selects RX5 yX5_of yX5_of ∈ BG := tb4 (i := 142) (by decide +kernel) (by decide +kernel)
theorem b_co_yX5_of : Cond.code yX5_of cX5_of 3 (some .int) ∈ BG := tb4 (i := 143) (by decide +kernel) (by decide +kernel)
theorem b_ml_L_60 : Cond.methodLink RL 60 yX5_about ∈ BG := tb4 (i := 144) (by decide +kernel) (by decide +kernel)
theorem b_inm_yX5_about : Cond.instanceMethod yX5_about ∈ BG := tb4 (i := 145) (by decide +kernel) (by decide +kernel)
theorem b_se_yX5_about : Cond.selects RX5 yX5_about yX5_about ∈ BG := tb4 (i := 146) (by decide +kernel) (by decide +kernel)
theorem b_co_yX5_about : Cond.code yX5_about cX5_about 3 (some .int) ∈ BG := tb4 (i := 147) (by decide +kernel) (by decide +kernel)
theorem b_ml_L_64 : Cond.methodLink RL 64 yX5_bitten ∈ BG := tb4 (i := 148) (by decide +kernel) (by decide +kernel)
theorem b_inm_yX5_bitten : Cond.instanceMethod yX5_bitten ∈ BG := tb4 (i := 149) (by decide +kernel) (by decide +kernel)
theorem b_se_yX5_bitten : Cond.selects RX5 yX5_bitten yX5_bitten ∈ BG := tb4 (i := 150) (by decide +kernel) (by decide +kernel)
theorem b_co_yX5_bitten : Cond.code yX5_bitten cX5_bitten 5 (some .int) ∈ BG := tb4 (i := 151) (by decide +kernel) (by decide +kernel)
theorem b_ml_L_68 : Cond.methodLink RL 68 yX5_then ∈ BG := tb4 (i := 152) (by decide +kernel) (by decide +kernel)
theorem b_inm_yX5_then : Cond.instanceMethod yX5_then ∈ BG := tb4 (i := 153) (by decide +kernel) (by decide +kernel)
theorem b_se_yX5_then : Cond.selects RX5 yX5_then yX5_then ∈ BG := tb4 (i := 154) (by decide +kernel) (by decide +kernel)
theorem b_co_yX5_then : Cond.code yX5_then cX5_then 4 (some .int) ∈ BG := tb4 (i := 155) (by decide +kernel) (by decide +kernel)
theorem b_ml_X5_224 : Cond.methodLink RX5 224 yX5_puts ∈ BG := tb4 (i := 156) (by decide +kernel) (by decide +kernel)
theorem b_inm_yX5_puts : Cond.instanceMethod yX5_puts ∈ BG := tb4 (i := 158) (by decide +kernel) (by decide +kernel)
theorem b_co_yX5_puts : Cond.code yX5_puts cX5_puts 1 none ∈ BG := tb4 (i := 159) (by decide +kernel) (by decide +kernel)
theorem b_ml_X5_227 : Cond.methodLink RX5 227 yX5_back ∈ BG := tb4 (i := 160) (by decide +kernel) (by decide +kernel)
theorem b_inm_yX5_back : Cond.instanceMethod yX5_back ∈ BG := tb4 (i := 162) (by decide +kernel) (by decide +kernel)
theorem b_co_yX5_back : Cond.code yX5_back cX5_back 1 none ∈ BG := tb4 (i := 163) (by decide +kernel) (by decide +kernel)
theorem b_ml_L_72 : Cond.methodLink RL 72 yX5_won ∈ BG := tb4 (i := 164) (by decide +kernel) (by decide +kernel)
theorem b_inm_yX5_won : Cond.instanceMethod yX5_won ∈ BG := tb4 (i := 165) (by decide +kernel) (by decide +kernel)
theorem b_se_yX5_won : Cond.selects RX5 yX5_won yX5_won ∈ BG := tb4 (i := 166) (by decide +kernel) (by decide +kernel)
theorem b_co_yX5_won : Cond.code yX5_won cX5_won 3 (some .int) ∈ BG := tb4 (i := 167) (by decide +kernel) (by decide +kernel)
theorem b_ml_X5_233 : Cond.methodLink RX5 233 yX5_wonIn ∈ BG := tb4 (i := 168) (by decide +kernel) (by decide +kernel)
theorem b_inm_yX5_wonIn : Cond.instanceMethod yX5_wonIn ∈ BG := tb4 (i := 170) (by decide +kernel) (by decide +kernel)
theorem b_co_yX5_wonIn : Cond.code yX5_wonIn cX5_wonIn 4 (some .int) ∈ BG := tb4 (i := 171) (by decide +kernel) (by decide +kernel)
theorem b_ml_X5_230 : Cond.methodLink RX5 230 yX5_nextVillage ∈ BG := tb4 (i := 172) (by decide +kernel) (by decide +kernel)
theorem b_inm_yX5_nextVillage : Cond.instanceMethod yX5_nextVillage ∈ BG := tb4 (i := 174) (by decide +kernel) (by decide +kernel)
theorem b_co_yX5_nextVillage : Cond.code yX5_nextVillage cX5_nextVillage 3 (some .int) ∈ BG := tb4 (i := 175) (by decide +kernel) (by decide +kernel)
theorem b_ml_L_76 : Cond.methodLink RL 76 yX5_letters ∈ BG := tb4 (i := 176) (by decide +kernel) (by decide +kernel)
theorem b_inm_yX5_letters : Cond.instanceMethod yX5_letters ∈ BG := tb4 (i := 177) (by decide +kernel) (by decide +kernel)
theorem b_se_yX5_letters : Cond.selects RX5 yX5_letters yX5_letters ∈ BG := tb4 (i := 178) (by decide +kernel) (by decide +kernel)
theorem b_co_yX5_letters : Cond.code yX5_letters cX5_letters 4 (some .int) ∈ BG := tb4 (i := 179) (by decide +kernel) (by decide +kernel)
theorem b_ml_L_80 : Cond.methodLink RL 80 yX5_bribes ∈ BG := tb4 (i := 180) (by decide +kernel) (by decide +kernel)
theorem b_inm_yX5_bribes : Cond.instanceMethod yX5_bribes ∈ BG := tb4 (i := 181) (by decide +kernel) (by decide +kernel)
theorem b_se_yX5_bribes : Cond.selects RX5 yX5_bribes yX5_bribes ∈ BG := tb4 (i := 182) (by decide +kernel) (by decide +kernel)
theorem b_co_yX5_bribes : Cond.code yX5_bribes cX5_bribes 7 (some .int) ∈ BG := tb4 (i := 183) (by decide +kernel) (by decide +kernel)
theorem b_ml_X5_236 : Cond.methodLink RX5 236 yX5_hungerOf ∈ BG := tb4 (i := 184) (by decide +kernel) (by decide +kernel)
theorem b_inm_yX5_hungerOf : Cond.instanceMethod yX5_hungerOf ∈ BG := tb4 (i := 186) (by decide +kernel) (by decide +kernel)
theorem b_co_yX5_hungerOf : Cond.code yX5_hungerOf cX5_hungerOf 4 (some .int) ∈ BG := tb4 (i := 187) (by decide +kernel) (by decide +kernel)
theorem b_ml_L_84 : Cond.methodLink RL 84 yX5_still ∈ BG := tb4 (i := 188) (by decide +kernel) (by decide +kernel)
theorem b_inm_yX5_still : Cond.instanceMethod yX5_still ∈ BG := tb4 (i := 189) (by decide +kernel) (by decide +kernel)
theorem b_se_yX5_still : Cond.selects RX5 yX5_still yX5_still ∈ BG := tb4 (i := 190) (by decide +kernel) (by decide +kernel)
theorem b_co_yX5_still : Cond.code yX5_still cX5_still 4 (some .int) ∈ BG := tb4 (i := 191) (by decide +kernel) (by decide +kernel)
theorem b_ml_L_88 : Cond.methodLink RL 88 yX5_first ∈ BG := tb4 (i := 192) (by decide +kernel) (by decide +kernel)
theorem b_inm_yX5_first : Cond.instanceMethod yX5_first ∈ BG := tb4 (i := 193) (by decide +kernel) (by decide +kernel)
theorem b_se_yX5_first : Cond.selects RX5 yX5_first yX5_first ∈ BG := tb4 (i := 194) (by decide +kernel) (by decide +kernel)
theorem b_co_yX5_first : Cond.code yX5_first cX5_first 5 (some .int) ∈ BG := tb4 (i := 195) (by decide +kernel) (by decide +kernel)
theorem b_ml_L_92 : Cond.methodLink RL 92 yX5_slept ∈ BG := tb4 (i := 196) (by decide +kernel) (by decide +kernel)
theorem b_inm_yX5_slept : Cond.instanceMethod yX5_slept ∈ BG := tb4 (i := 197) (by decide +kernel) (by decide +kernel)
theorem b_se_yX5_slept : Cond.selects RX5 yX5_slept yX5_slept ∈ BG := tb4 (i := 198) (by decide +kernel) (by decide +kernel)
theorem b_co_yX5_slept : Cond.code yX5_slept cX5_slept 9 (some .int) ∈ BG := tb4 (i := 199) (by decide +kernel) (by decide +kernel)
theorem b_ml_L_96 : Cond.methodLink RL 96 yX5_note ∈ BG := tb4 (i := 200) (by decide +kernel) (by decide +kernel)
theorem b_inm_yX5_note : Cond.instanceMethod yX5_note ∈ BG := tb4 (i := 201) (by decide +kernel) (by decide +kernel)
theorem b_se_yX5_note : Cond.selects RX5 yX5_note yX5_note ∈ BG := tb4 (i := 202) (by decide +kernel) (by decide +kernel)
theorem b_co_yX5_note : Cond.code yX5_note cX5_note 5 (some .int) ∈ BG := tb4 (i := 203) (by decide +kernel) (by decide +kernel)
theorem b_ml_L_100 : Cond.methodLink RL 100 yX5_forget ∈ BG := tb4 (i := 204) (by decide +kernel) (by decide +kernel)
theorem b_inm_yX5_forget : Cond.instanceMethod yX5_forget ∈ BG := tb4 (i := 205) (by decide +kernel) (by decide +kernel)
theorem b_se_yX5_forget : Cond.selects RX5 yX5_forget yX5_forget ∈ BG := tb4 (i := 206) (by decide +kernel) (by decide +kernel)
theorem b_co_yX5_forget : Cond.code yX5_forget cX5_forget 2 (some .int) ∈ BG := tb4 (i := 207) (by decide +kernel) (by decide +kernel)
theorem b_ml_L_104 : Cond.methodLink RL 104 yX5_is ∈ BG := tb4 (i := 208) (by decide +kernel) (by decide +kernel)
theorem b_inm_yX5_is : Cond.instanceMethod yX5_is ∈ BG := tb4 (i := 209) (by decide +kernel) (by decide +kernel)
theorem b_se_yX5_is : Cond.selects RX5 yX5_is yX5_is ∈ BG := tb4 (i := 210) (by decide +kernel) (by decide +kernel)
theorem b_co_yX5_is : Cond.code yX5_is cX5_is 2 (some .int) ∈ BG := tb4 (i := 211) (by decide +kernel) (by decide +kernel)
theorem b_ml_X5_239 : Cond.methodLink RX5 239 yX5_kindsOf ∈ BG := tb4 (i := 212) (by decide +kernel) (by decide +kernel)
theorem b_inm_yX5_kindsOf : Cond.instanceMethod yX5_kindsOf ∈ BG := tb4 (i := 214) (by decide +kernel) (by decide +kernel)
theorem b_co_yX5_kindsOf : Cond.code yX5_kindsOf cX5_kindsOf 7 (some .int) ∈ BG := tb4 (i := 215) (by decide +kernel) (by decide +kernel)
theorem b_ml_L_108 : Cond.methodLink RL 108 yX5_send ∈ BG := tb4 (i := 216) (by decide +kernel) (by decide +kernel)
theorem b_inm_yX5_send : Cond.instanceMethod yX5_send ∈ BG := tb4 (i := 217) (by decide +kernel) (by decide +kernel)
theorem b_se_yX5_send : Cond.selects RX5 yX5_send yX5_send ∈ BG := tb4 (i := 218) (by decide +kernel) (by decide +kernel)
theorem b_co_yX5_send : Cond.code yX5_send cX5_send 10 (some .int) ∈ BG := tb4 (i := 219) (by decide +kernel) (by decide +kernel)
theorem b_ct_X5_242 : Cond.constant RX5 242 (1048576) ∈ BG := tb4 (i := 220) (by decide +kernel) (by decide +kernel)
theorem b_ml_L_113 : Cond.methodLink RL 113 yX5_two ∈ BG := tb4 (i := 221) (by decide +kernel) (by decide +kernel)
theorem b_inm_yX5_two : Cond.instanceMethod yX5_two ∈ BG := tb4 (i := 222) (by decide +kernel) (by decide +kernel)
theorem b_se_yX5_two : Cond.selects RX5 yX5_two yX5_two ∈ BG := tb4 (i := 223) (by decide +kernel) (by decide +kernel)
theorem b_co_yX5_two : Cond.code yX5_two cX5_two 8 (some .int) ∈ BG := tb4 (i := 224) (by decide +kernel) (by decide +kernel)
theorem b_ml_X5_249 : Cond.methodLink RX5 249 yX5_ten ∈ BG := tb4 (i := 225) (by decide +kernel) (by decide +kernel)
theorem b_inm_yX5_ten : Cond.instanceMethod yX5_ten ∈ BG := tb4 (i := 227) (by decide +kernel) (by decide +kernel)
theorem b_co_yX5_ten : Cond.code yX5_ten cX5_ten 1 (some .int) ∈ BG := tb4 (i := 228) (by decide +kernel) (by decide +kernel)
theorem b_ml_X5_243 : Cond.methodLink RX5 243 yX5_isChoice ∈ BG := tb4 (i := 229) (by decide +kernel) (by decide +kernel)
theorem b_inm_yX5_isChoice : Cond.instanceMethod yX5_isChoice ∈ BG := tb4 (i := 231) (by decide +kernel) (by decide +kernel)
theorem b_co_yX5_isChoice : Cond.code yX5_isChoice cX5_isChoice 2 (some .boolean) ∈ BG := tb4 (i := 232) (by decide +kernel) (by decide +kernel)
theorem b_ml_X5_252 : Cond.methodLink RX5 252 yX5_rests ∈ BG := tb4 (i := 233) (by decide +kernel) (by decide +kernel)
theorem b_inm_yX5_rests : Cond.instanceMethod yX5_rests ∈ BG := tb4 (i := 235) (by decide +kernel) (by decide +kernel)
theorem b_co_yX5_rests : Cond.code yX5_rests cX5_rests 7 (some .boolean) ∈ BG := tb4 (i := 236) (by decide +kernel) (by decide +kernel)
theorem b_ml_X5_246 : Cond.methodLink RX5 246 yX5_gets ∈ BG := tb4 (i := 237) (by decide +kernel) (by decide +kernel)
theorem b_inm_yX5_gets : Cond.instanceMethod yX5_gets ∈ BG := tb4 (i := 239) (by decide +kernel) (by decide +kernel)
theorem b_co_yX5_gets : Cond.code yX5_gets cX5_gets 5 (some .int) ∈ BG := tb5 (i := 0) (by decide +kernel) (by decide +kernel)
theorem b_ml_L_117 : Cond.methodLink RL 117 yX5_strays ∈ BG := tb5 (i := 1) (by decide +kernel) (by decide +kernel)
theorem b_inm_yX5_strays : Cond.instanceMethod yX5_strays ∈ BG := tb5 (i := 2) (by decide +kernel) (by decide +kernel)
theorem b_se_yX5_strays : Cond.selects RX5 yX5_strays yX5_strays ∈ BG := tb5 (i := 3) (by decide +kernel) (by decide +kernel)
theorem b_co_yX5_strays : Cond.code yX5_strays cX5_strays 3 (some .int) ∈ BG := tb5 (i := 4) (by decide +kernel) (by decide +kernel)
theorem b_ct_X5_259 : Cond.constantLong RX5 259 (10) ∈ BG := tb5 (i := 5) (by decide +kernel) (by decide +kernel)
theorem b_ml_X5_261 : Cond.methodLink RX5 261 yX5_lay ∈ BG := tb5 (i := 6) (by decide +kernel) (by decide +kernel)
theorem b_inm_yX5_lay : Cond.instanceMethod yX5_lay ∈ BG := tb5 (i := 8) (by decide +kernel) (by decide +kernel)
theorem b_co_yX5_lay : Cond.code yX5_lay cX5_lay 11 none ∈ BG := tb5 (i := 9) (by decide +kernel) (by decide +kernel)
theorem b_ml_L_121 : Cond.methodLink RL 121 yX5_villages ∈ BG := tb5 (i := 10) (by decide +kernel) (by decide +kernel)
theorem b_inm_yX5_villages : Cond.instanceMethod yX5_villages ∈ BG := tb5 (i := 11) (by decide +kernel) (by decide +kernel)
theorem b_se_yX5_villages : Cond.selects RX5 yX5_villages yX5_villages ∈ BG := tb5 (i := 12) (by decide +kernel) (by decide +kernel)
theorem b_co_yX5_villages : Cond.code yX5_villages cX5_villages 6 (some .int) ∈ BG := tb5 (i := 13) (by decide +kernel) (by decide +kernel)
theorem b_ct_X5_265 : Cond.constant RX5 265 (999999) ∈ BG := tb5 (i := 14) (by decide +kernel) (by decide +kernel)
theorem b_ct_X5_266 : Cond.constantLong RX5 266 (1103515245) ∈ BG := tb5 (i := 15) (by decide +kernel) (by decide +kernel)
theorem b_ct_X5_268 : Cond.constantLong RX5 268 (12345) ∈ BG := tb5 (i := 16) (by decide +kernel) (by decide +kernel)
theorem b_ct_X5_270 : Cond.constantLong RX5 270 (2147483648) ∈ BG := tb5 (i := 17) (by decide +kernel) (by decide +kernel)
theorem b_ct_X5_272 : Cond.constantLong RX5 272 (65536) ∈ BG := tb5 (i := 18) (by decide +kernel) (by decide +kernel)
theorem b_ct_X5_274 : Cond.constantLong RX5 274 (128) ∈ BG := tb5 (i := 19) (by decide +kernel) (by decide +kernel)
theorem b_ml_L_126 : Cond.methodLink RL 126 yX5_part ∈ BG := tb5 (i := 20) (by decide +kernel) (by decide +kernel)
theorem b_inm_yX5_part : Cond.instanceMethod yX5_part ∈ BG := tb5 (i := 21) (by decide +kernel) (by decide +kernel)
theorem b_se_yX5_part : Cond.selects RX5 yX5_part yX5_part ∈ BG := tb5 (i := 22) (by decide +kernel) (by decide +kernel)
theorem b_co_yX5_part : Cond.code yX5_part cX5_part 2 (some .long) ∈ BG := tb5 (i := 23) (by decide +kernel) (by decide +kernel)
theorem b_ml_L_130 : Cond.methodLink RL 130 yX5_image ∈ BG := tb5 (i := 24) (by decide +kernel) (by decide +kernel)
theorem b_inm_yX5_image : Cond.instanceMethod yX5_image ∈ BG := tb5 (i := 25) (by decide +kernel) (by decide +kernel)
theorem b_se_yX5_image : Cond.selects RX5 yX5_image yX5_image ∈ BG := tb5 (i := 26) (by decide +kernel) (by decide +kernel)
theorem b_co_yX5_image : Cond.code yX5_image cX5_image 4 (some .int) ∈ BG := tb5 (i := 27) (by decide +kernel) (by decide +kernel)
theorem b_ml_L_134 : Cond.methodLink RL 134 yX5_from ∈ BG := tb5 (i := 28) (by decide +kernel) (by decide +kernel)
theorem b_inm_yX5_from : Cond.instanceMethod yX5_from ∈ BG := tb5 (i := 29) (by decide +kernel) (by decide +kernel)
theorem b_se_yX5_from : Cond.selects RX5 yX5_from yX5_from ∈ BG := tb5 (i := 30) (by decide +kernel) (by decide +kernel)
theorem b_co_yX5_from : Cond.code yX5_from cX5_from 4 (some .int) ∈ BG := tb5 (i := 31) (by decide +kernel) (by decide +kernel)
theorem b_ml_L_138 : Cond.methodLink RL 138 yX5_status ∈ BG := tb5 (i := 32) (by decide +kernel) (by decide +kernel)
theorem b_inm_yX5_status : Cond.instanceMethod yX5_status ∈ BG := tb5 (i := 33) (by decide +kernel) (by decide +kernel)
theorem b_se_yX5_status : Cond.selects RX5 yX5_status yX5_status ∈ BG := tb5 (i := 34) (by decide +kernel) (by decide +kernel)
theorem b_co_yX5_status : Cond.code yX5_status cX5_status 2 (some .int) ∈ BG := tb5 (i := 35) (by decide +kernel) (by decide +kernel)
theorem b_ml_L_142 : Cond.methodLink RL 142 yX5_count ∈ BG := tb5 (i := 36) (by decide +kernel) (by decide +kernel)
theorem b_inm_yX5_count : Cond.instanceMethod yX5_count ∈ BG := tb5 (i := 37) (by decide +kernel) (by decide +kernel)
theorem b_se_yX5_count : Cond.selects RX5 yX5_count yX5_count ∈ BG := tb5 (i := 38) (by decide +kernel) (by decide +kernel)
theorem b_co_yX5_count : Cond.code yX5_count cX5_count 2 (some .int) ∈ BG := tb5 (i := 39) (by decide +kernel) (by decide +kernel)
theorem b_ml_X5_279 : Cond.methodLink RX5 279 yX5_countOf ∈ BG := tb5 (i := 40) (by decide +kernel) (by decide +kernel)
theorem b_inm_yX5_countOf : Cond.instanceMethod yX5_countOf ∈ BG := tb5 (i := 42) (by decide +kernel) (by decide +kernel)
theorem b_co_yX5_countOf : Cond.code yX5_countOf cX5_countOf 2 (some .int) ∈ BG := tb5 (i := 43) (by decide +kernel) (by decide +kernel)
theorem b_ml_X5_276 : Cond.methodLink RX5 276 yX5_bits ∈ BG := tb5 (i := 44) (by decide +kernel) (by decide +kernel)
theorem b_stm_yX5_bits : Cond.static yX5_bits ∈ BG := tb5 (i := 45) (by decide +kernel) (by decide +kernel)
theorem b_co_yX5_bits : Cond.code yX5_bits cX5_bits 3 (some .int) ∈ BG := tb5 (i := 46) (by decide +kernel) (by decide +kernel)
theorem b_ml_L_147 : Cond.methodLink RL 147 yX5_digest ∈ BG := tb5 (i := 47) (by decide +kernel) (by decide +kernel)
theorem b_inm_yX5_digest : Cond.instanceMethod yX5_digest ∈ BG := tb5 (i := 48) (by decide +kernel) (by decide +kernel)
theorem b_se_yX5_digest : Cond.selects RX5 yX5_digest yX5_digest ∈ BG := tb5 (i := 49) (by decide +kernel) (by decide +kernel)
theorem b_co_yX5_digest : Cond.code yX5_digest cX5_digest 2 (some .long) ∈ BG := tb5 (i := 50) (by decide +kernel) (by decide +kernel)
theorem b_ct_X5_287 : Cond.constantLong RX5 287 (1367) ∈ BG := tb5 (i := 51) (by decide +kernel) (by decide +kernel)
theorem b_ml_X5_289 : Cond.methodLink RX5 289 yX5_mix ∈ BG := tb5 (i := 52) (by decide +kernel) (by decide +kernel)
theorem b_inm_yX5_mix : Cond.instanceMethod yX5_mix ∈ BG := tb5 (i := 54) (by decide +kernel) (by decide +kernel)
theorem b_co_yX5_mix : Cond.code yX5_mix cX5_mix 3 none ∈ BG := tb5 (i := 55) (by decide +kernel) (by decide +kernel)
theorem b_ct_X5_282 : Cond.constantLong RX5 282 (31) ∈ BG := tb5 (i := 56) (by decide +kernel) (by decide +kernel)
theorem b_fl_J0_9 : Cond.fieldLink RJ0 9 "java/lang/String" "value" "[B" ∈ BG := tb5 (i := 57) (by decide +kernel) (by decide +kernel)
theorem b_fl_J0_15 : Cond.fieldLink RJ0 15 "java/lang/String" "coder" "B" ∈ BG := tb5 (i := 58) (by decide +kernel) (by decide +kernel)
theorem b_se_yX4_refuse : Cond.selects RX4 yX4_refuse yX4_refuse ∈ BG := tbs (i := 0) (by decide +kernel) (by decide +kernel)
theorem b_se_yX4_lookAhead : Cond.selects RX4 yX4_lookAhead yX4_lookAhead ∈ BG := tbs (i := 1) (by decide +kernel) (by decide +kernel)
theorem b_se_yX4_winsByBribing : Cond.selects RX4 yX4_winsByBribing yX4_winsByBribing ∈ BG := tbs (i := 2) (by decide +kernel) (by decide +kernel)
theorem b_se_yX4_fillGains : Cond.selects RX4 yX4_fillGains yX4_fillGains ∈ BG := tbs (i := 3) (by decide +kernel) (by decide +kernel)
theorem b_se_yX4_mayChoose : Cond.selects RX4 yX4_mayChoose yX4_mayChoose ∈ BG := tbs (i := 4) (by decide +kernel) (by decide +kernel)
theorem b_se_yX4_rests : Cond.selects RX4 yX4_rests yX4_rests ∈ BG := tbs (i := 5) (by decide +kernel) (by decide +kernel)
theorem b_se_yX4_counted : Cond.selects RX4 yX4_counted yX4_counted ∈ BG := tbs (i := 6) (by decide +kernel) (by decide +kernel)
theorem b_se_yX5_begin : Cond.selects RX5 yX5_begin yX5_begin ∈ BG := tbs (i := 7) (by decide +kernel) (by decide +kernel)
theorem b_se_yX5_bad : Cond.selects RX5 yX5_bad yX5_bad ∈ BG := tbs (i := 8) (by decide +kernel) (by decide +kernel)
theorem b_se_yX5_full : Cond.selects RX5 yX5_full yX5_full ∈ BG := tbs (i := 9) (by decide +kernel) (by decide +kernel)
theorem b_se_yX5_addMan : Cond.selects RX5 yX5_addMan yX5_addMan ∈ BG := tbs (i := 10) (by decide +kernel) (by decide +kernel)
theorem b_se_yX5_addDog : Cond.selects RX5 yX5_addDog yX5_addDog ∈ BG := tbs (i := 11) (by decide +kernel) (by decide +kernel)
theorem b_se_yX5_readsVillage : Cond.selects RX5 yX5_readsVillage yX5_readsVillage ∈ BG := tbs (i := 12) (by decide +kernel) (by decide +kernel)
theorem b_se_yX5_skip : Cond.selects RX5 yX5_skip yX5_skip ∈ BG := tbs (i := 13) (by decide +kernel) (by decide +kernel)
theorem b_se_yX5_here : Cond.selects RX5 yX5_here yX5_here ∈ BG := tbs (i := 14) (by decide +kernel) (by decide +kernel)
theorem b_se_yX5_wordHere : Cond.selects RX5 yX5_wordHere yX5_wordHere ∈ BG := tbs (i := 15) (by decide +kernel) (by decide +kernel)
theorem b_se_yX5_wordSize : Cond.selects RX5 yX5_wordSize yX5_wordSize ∈ BG := tbs (i := 16) (by decide +kernel) (by decide +kernel)
theorem b_se_yX5_letter : Cond.selects RX5 yX5_letter yX5_letter ∈ BG := tbs (i := 17) (by decide +kernel) (by decide +kernel)
theorem b_se_yX5_ends : Cond.selects RX5 yX5_ends yX5_ends ∈ BG := tbs (i := 18) (by decide +kernel) (by decide +kernel)
theorem b_se_yX5_readsItem : Cond.selects RX5 yX5_readsItem yX5_readsItem ∈ BG := tbs (i := 19) (by decide +kernel) (by decide +kernel)
theorem b_se_yX5_readsMan : Cond.selects RX5 yX5_readsMan yX5_readsMan ∈ BG := tbs (i := 20) (by decide +kernel) (by decide +kernel)
theorem b_se_yX5_number : Cond.selects RX5 yX5_number yX5_number ∈ BG := tbs (i := 21) (by decide +kernel) (by decide +kernel)
theorem b_se_yX5_readsDog : Cond.selects RX5 yX5_readsDog yX5_readsDog ∈ BG := tbs (i := 22) (by decide +kernel) (by decide +kernel)
theorem b_se_yX5_readsBribe : Cond.selects RX5 yX5_readsBribe yX5_readsBribe ∈ BG := tbs (i := 23) (by decide +kernel) (by decide +kernel)
theorem b_se_yX5_isMan : Cond.selects RX5 yX5_isMan yX5_isMan ∈ BG := tbs (i := 24) (by decide +kernel) (by decide +kernel)
theorem b_se_yX5_isDog : Cond.selects RX5 yX5_isDog yX5_isDog ∈ BG := tbs (i := 25) (by decide +kernel) (by decide +kernel)
theorem b_se_yX5_no : Cond.selects RX5 yX5_no yX5_no ∈ BG := tbs (i := 26) (by decide +kernel) (by decide +kernel)
theorem b_se_yX5_notes : Cond.selects RX5 yX5_notes yX5_notes ∈ BG := tbs (i := 27) (by decide +kernel) (by decide +kernel)
theorem b_se_yX5_lays : Cond.selects RX5 yX5_lays yX5_lays ∈ BG := tbs (i := 28) (by decide +kernel) (by decide +kernel)
theorem b_se_yX5_pass : Cond.selects RX5 yX5_pass yX5_pass ∈ BG := tbs (i := 29) (by decide +kernel) (by decide +kernel)
theorem b_se_yX5_firstOf : Cond.selects RX5 yX5_firstOf yX5_firstOf ∈ BG := tbs (i := 30) (by decide +kernel) (by decide +kernel)
theorem b_se_yX5_comesTo : Cond.selects RX5 yX5_comesTo yX5_comesTo ∈ BG := tbs (i := 31) (by decide +kernel) (by decide +kernel)
theorem b_se_yX5_isBitten : Cond.selects RX5 yX5_isBitten yX5_isBitten ∈ BG := tbs (i := 32) (by decide +kernel) (by decide +kernel)
theorem b_se_yX5_postman : Cond.selects RX5 yX5_postman yX5_postman ∈ BG := tbs (i := 33) (by decide +kernel) (by decide +kernel)
theorem b_se_yX5_takes : Cond.selects RX5 yX5_takes yX5_takes ∈ BG := tbs (i := 34) (by decide +kernel) (by decide +kernel)
theorem b_se_yX5_puts : Cond.selects RX5 yX5_puts yX5_puts ∈ BG := tbs (i := 35) (by decide +kernel) (by decide +kernel)
theorem b_se_yX5_back : Cond.selects RX5 yX5_back yX5_back ∈ BG := tbs (i := 36) (by decide +kernel) (by decide +kernel)
theorem b_se_yX5_wonIn : Cond.selects RX5 yX5_wonIn yX5_wonIn ∈ BG := tbs (i := 37) (by decide +kernel) (by decide +kernel)
theorem b_se_yX5_nextVillage : Cond.selects RX5 yX5_nextVillage yX5_nextVillage ∈ BG := tbs (i := 38) (by decide +kernel) (by decide +kernel)
theorem b_se_yX5_hungerOf : Cond.selects RX5 yX5_hungerOf yX5_hungerOf ∈ BG := tbs (i := 39) (by decide +kernel) (by decide +kernel)
theorem b_se_yX5_kindsOf : Cond.selects RX5 yX5_kindsOf yX5_kindsOf ∈ BG := tbs (i := 40) (by decide +kernel) (by decide +kernel)
theorem b_se_yX5_ten : Cond.selects RX5 yX5_ten yX5_ten ∈ BG := tbs (i := 41) (by decide +kernel) (by decide +kernel)
theorem b_se_yX5_isChoice : Cond.selects RX5 yX5_isChoice yX5_isChoice ∈ BG := tbs (i := 42) (by decide +kernel) (by decide +kernel)
theorem b_se_yX5_rests : Cond.selects RX5 yX5_rests yX5_rests ∈ BG := tbs (i := 43) (by decide +kernel) (by decide +kernel)
theorem b_se_yX5_gets : Cond.selects RX5 yX5_gets yX5_gets ∈ BG := tbs (i := 44) (by decide +kernel) (by decide +kernel)
theorem b_se_yX5_lay : Cond.selects RX5 yX5_lay yX5_lay ∈ BG := tbs (i := 45) (by decide +kernel) (by decide +kernel)
theorem b_se_yX5_countOf : Cond.selects RX5 yX5_countOf yX5_countOf ∈ BG := tbs (i := 46) (by decide +kernel) (by decide +kernel)
theorem b_se_yX5_mix : Cond.selects RX5 yX5_mix yX5_mix ∈ BG := tbs (i := 47) (by decide +kernel) (by decide +kernel)
theorem inB0 : ∀ w ∈ wsX00, w ∈ BG := fun w h => bg ((show ∀ w ∈ wsX00, w ∈ lw_tbl by decide +kernel) w h) ((show ∀ w ∈ wsX00, goodWord w = true by decide +kernel) w h)
theorem inB1 : ∀ w ∈ wsX10, w ∈ BG := fun w h => bg ((show ∀ w ∈ wsX10, w ∈ lw_tbl by decide +kernel) w h) ((show ∀ w ∈ wsX10, goodWord w = true by decide +kernel) w h)
theorem inB2 : ∀ w ∈ wsX20, w ∈ BG := fun w h => bg ((show ∀ w ∈ wsX20, w ∈ lw_tbl by decide +kernel) w h) ((show ∀ w ∈ wsX20, goodWord w = true by decide +kernel) w h)
theorem inB3 : ∀ w ∈ wsX30, w ∈ BG := fun w h => bg ((show ∀ w ∈ wsX30, w ∈ lw_tbl by decide +kernel) w h) ((show ∀ w ∈ wsX30, goodWord w = true by decide +kernel) w h)
theorem inB4 : ∀ w ∈ wsX40, w ∈ BG := fun w h => bg ((show ∀ w ∈ wsX40, w ∈ lw_tbl by decide +kernel) w h) ((show ∀ w ∈ wsX40, goodWord w = true by decide +kernel) w h)
theorem inB5 : ∀ w ∈ wsX50, w ∈ BG := fun w h => bg ((show ∀ w ∈ wsX50, w ∈ lw_tbl by decide +kernel) w h) ((show ∀ w ∈ wsX50, goodWord w = true by decide +kernel) w h)
end
section
/-! THE FRAME: an abstract store (objects by their numbers: rows of ints, of longs; kinds, addresses and references stay), what a method does to it (Ok), a place of a walk over it (G), a row an instruction (g_) -/
abbrev WG : Type := va_G × (ClassId × ClassId × ClassId) × List (Nat × Nat) × (Nat → Nat) × (Nat → Nat → Option Nat) × (Nat → Nat) × (Nat → Nat)
def gK (w : WG) : List (Nat × Nat) := w.2.2.1
def gA (w : WG) : Nat → Nat := w.2.2.2.1
def gP (w : WG) : Nat → Nat → Option Nat := w.2.2.2.2.1
abbrev SI : Type := Nat → Nat → Int32
abbrev SL : Type := Nat → Nat → Int64
abbrev QT : Type := Option Value → SI → SL → Prop
def ft (c : Nat) : List Nat :=
  match c with
  | 0 => [2, 2, 0, 0, 0, 0]
  | 1 => [2, 0]
  | 2 => [0, 0, 0, 0, 0, 0, 2, 2, 2, 2, 2, 2, 2, 2, 2]
  | 3 => [2, 2, 2, 2, 0, 0, 0, 0, 0, 2, 2, 2]
  | _ => [2, 0, 0, 0, 0, 0, 2, 2, 2, 2, 2, 2, 2, 2, 2, 2, 2, 2, 0, 0, 0, 0, 0, 2, 2, 0, 2, 0, 2, 1, 1, 2, 2, 1]
def fv (t : Nat) (x : Int32) (y : Int64) (z : Option Nat) : Value := if t = 0 then .int x else if t = 1 then .long y else va_rf z
def cE (w : WG) (κ : Nat × Nat) (i : Nat → Int32) (j : Nat → Int64) (r : Nat → Option Nat) : va_E :=
  if κ.1 < 5 then .inr (κ.1, (ft κ.1).mapIdx (fun k t => fv t (i k) (j k) (r k)))
  else if κ.1 = 5 then .inl (w.2.1.1, κ.2, .inl i)
  else if κ.1 = 6 then .inl (w.2.1.2.1, κ.2, .inl i)
  else .inl (w.2.1.2.2, κ.2, .inr (.inr (.inr (.inr r))))
def gT (w : WG) : List (ClassId × FieldType) := [(w.2.1.1, .byte), (w.2.1.2.1, .int), (w.2.1.2.2, .object RX3)]
def wsO (w : WG) (I : SI) (L : SL) : va_W := (gK w).mapIdx (fun o κ => (gA w o, cE w κ (I o) (L o) (gP w o)))
theorem wsO_get {w : WG} {I : SI} {L : SL} {o : Nat} {κ : Nat × Nat} (h : (gK w)[o]? = some κ) : (wsO w I L)[o]? = some (gA w o, cE w κ (I o) (L o) (gP w o)) := by
  simp [wsO, List.getElem?_mapIdx, h]
def rS {α : Type} (I : Nat → α) (o : Nat) (f : α) : Nat → α := fun q => if q = o then f else I q
theorem rS_eq {α : Type} (I : Nat → α) (o : Nat) (f : α) : rS I o f o = f := by simp [rS]
theorem rS_ne {α : Type} (I : Nat → α) (o : Nat) (f : α) {q : Nat} (h : q ≠ o) : rS I o f q = I q := by simp [rS, h]
theorem wsO_setI {w : WG} {I : SI} {L : SL} {o : Nat} {κ : Nat × Nat} {f : Nat → Int32} (h : (gK w)[o]? = some κ) : (wsO w I L).set o (gA w o, cE w κ f (L o) (gP w o)) = wsO w (rS I o f) L := by
  apply List.ext_getElem?
  intro k
  rw [List.getElem?_set]
  by_cases hk : o = k
  · subst hk
    rw [if_pos rfl, wsO_get h, rS_eq, if_pos]
    rw [wsO, List.length_mapIdx]
    exact (List.getElem?_eq_some_iff.mp h).1
  · rw [if_neg hk]
    simp only [wsO, List.getElem?_mapIdx]
    rw [rS_ne _ _ _ (fun e => hk e.symm)]
theorem wsO_setL {w : WG} {I : SI} {L : SL} {o : Nat} {κ : Nat × Nat} {f : Nat → Int64} (h : (gK w)[o]? = some κ) : (wsO w I L).set o (gA w o, cE w κ (I o) f (gP w o)) = wsO w I (rS L o f) := by
  apply List.ext_getElem?
  intro k
  rw [List.getElem?_set]
  by_cases hk : o = k
  · subst hk
    rw [if_pos rfl, wsO_get h, rS_eq, if_pos]
    rw [wsO, List.length_mapIdx]
    exact (List.getElem?_eq_some_iff.mp h).1
  · rw [if_neg hk]
    simp only [wsO, List.getElem?_mapIdx]
    rw [rS_ne _ _ _ (fun e => hk e.symm)]
theorem fs_get {c k t : Nat} (i : Nat → Int32) (j : Nat → Int64) (r : Nat → Option Nat) (h : (ft c)[k]? = some t) : ((ft c).mapIdx (fun k t => fv t (i k) (j k) (r k)))[k]? = some (fv t (i k) (j k) (r k)) := by
  simp [List.getElem?_mapIdx, h]
theorem fs_setI {c k : Nat} (i : Nat → Int32) (j : Nat → Int64) (r : Nat → Option Nat) (x : Int32) (h : (ft c)[k]? = some 0) : ((ft c).mapIdx (fun k t => fv t (i k) (j k) (r k))).set k (.int x) = (ft c).mapIdx (fun q t => fv t (upd i k x q) (j q) (r q)) := by
  apply List.ext_getElem?
  intro q
  rw [List.getElem?_set, List.getElem?_mapIdx, List.getElem?_mapIdx]
  by_cases hq : k = q
  · subst hq
    obtain ⟨hl, he⟩ := List.getElem?_eq_some_iff.mp h
    simp [fv, upd, hl, he]
  · have hq2 : ¬ q = k := fun e => hq e.symm
    simp [hq, hq2, upd]

theorem fs_setL {c k : Nat} (i : Nat → Int32) (j : Nat → Int64) (r : Nat → Option Nat) (x : Int64) (h : (ft c)[k]? = some 1) : ((ft c).mapIdx (fun k t => fv t (i k) (j k) (r k))).set k (.long x) = (ft c).mapIdx (fun q t => fv t (i q) (vp_updL j k x q) (r q)) := by
  apply List.ext_getElem?
  intro q
  rw [List.getElem?_set, List.getElem?_mapIdx, List.getElem?_mapIdx]
  by_cases hq : k = q
  · subst hq
    obtain ⟨hl, he⟩ := List.getElem?_eq_some_iff.mp h
    simp [fv, vp_updL, hl, he]
  · have hq2 : ¬ q = k := fun e => hq e.symm
    simp [hq, hq2, vp_updL]
/-- the literals and the statics, outside of what a method may change -/
def SW (w : WG) (A : Nat → Prop) (U : State) (H : Heap) : Prop :=
  vk_S 4 [7, 3, 3, 5] [[118, 105, 108, 108, 97, 103, 101], [109, 97, 110], [100, 111, 103], [98, 114, 105, 98, 101]] w.2.2.2.2.2.1 w.2.2.2.2.2.2 A U H ∧
  vk_R RX1 27 "village" (w.2.2.2.2.2.1 0) U ∧ vk_R RX1 44 "man" (w.2.2.2.2.2.1 1) U ∧ vk_R RX1 49 "dog" (w.2.2.2.2.2.1 2) U ∧ vk_R RX1 54 "bribe" (w.2.2.2.2.2.1 3) U ∧
  va_Z "java/lang/String" "COMPACT_STRINGS" "Z" (.int 1) A U H ∧ va_Zq "jdk/internal/util/Preconditions" "SIOOBE_FORMATTER" "Ljava/util/function/BiFunction;" A U H
theorem SW.same {w : WG} {A : Nat → Prop} {u U : State} {H : Heap} (hvm : U.vm = u.vm) (h : SW w A u H) : SW w A U H := by
  obtain ⟨h1, h2, h3, h4, h5, h6, h7⟩ := h
  have ha : u.vm.Alike U.vm := by rw [hvm]; exact Vm.Alike.refl u.vm
  exact ⟨vk_S.moved ha h1, vk_R.same hvm h2, vk_R.same hvm h3, vk_R.same hvm h4, vk_R.same hvm h5, va_Z.moved ha h6, va_Zq.moved ha h7⟩
theorem SW.warm {w : WG} {A : Nat → Prop} {u U : State} {H : Heap} (hW : u.WarmedH U.vm) (h : SW w A u H) : SW w A U H := by
  obtain ⟨h1, h2, h3, h4, h5, h6, h7⟩ := h
  exact ⟨vk_S.moved hW.alike h1, vk_R.warm hW h2, vk_R.warm hW h3, vk_R.warm hW h4, vk_R.warm hW h5, va_Z.moved hW.alike h6, va_Zq.moved hW.alike h7⟩
theorem SW.kept {w : WG} {A : Nat → Prop} {U : State} {H H1 : Heap} (h : SW w A U H) (hq : ∀ a : Nat, a < H.size → ¬ A a → H1[a]? = H[a]?) : SW w A U H1 := by
  obtain ⟨h1, h2, h3, h4, h5, h6, h7⟩ := h
  exact ⟨h1.kept hq, h2, h3, h4, h5, h6.kept hq, h7.kept hq⟩
theorem SW.narrow {w : WG} {A B : Nat → Prop} {U : State} {H : Heap} (h : SW w A U H) (hAB : ∀ q, B q → A q) : SW w B U H := by
  obtain ⟨h1, h2, h3, h4, h5, h6, h7⟩ := h
  exact ⟨h1.narrow hAB, h2, h3, h4, h5, h6.narrow hAB, h7.narrow hAB⟩
/-- what a method finds -/
def PreO (w : WG) (I : SI) (L : SL) (sz : Nat) (U : State) : Prop :=
  U.heap.size = sz ∧ va_P w.1 vwCl (wsO w I L) U.heap ∧ va_K w.1 vwCl (gT w) U ∧ va_D (fun _ => True) (wsO w I L) ∧ SW w (va_A (wsO w I L) sz) U U.heap
/-- what it leaves -/
def QcO (w : WG) (Q : QT) (A : Nat → Prop) : Array Value → State → Outcome → State → Prop := fun _ st oc t =>
  (∃ (r : Option Value) (I' : SI) (L' : SL), oc = .returned r ∧ Q r I' L' ∧ va_P w.1 vwCl (wsO w I' L') t.heap ∧ va_D A (wsO w I' L')) ∧ va_F A st t
abbrev MD : Type := MethodName × ByteArray × Nat × Option FieldType × Nat
def rmO (d : Nat) : Room := { frames := d, cells := 0, slots := 0, locals := 40 * d }
def wsM (M : MD) : List Cond := Cond.code M.1 M.2.1 M.2.2.1 M.2.2.2.1 :: BG
/-- the method's contract, over the whole store -/
def Ok (w : WG) (M : MD) (av : List Value) (I : SI) (L : SL) (Q : QT) : Prop := ∀ (l : Launch) (sz : Nat), Met l M.1 (wsM M) (rmO M.2.2.2.2) (va_Pc av (PreO w I L sz)) (QcO w Q (va_A (wsO w I L) sz)) 0 0 (va_A (wsO w I L) sz)
abbrev LV : Type := Nat → Option Value
def noL : Option Value → Option Value
  | some (.int x) => some (.int x)
  | some (.ref x) => some (.ref x)
  | some .null => some .null
  | _ => none
def st1 (f : LV) (i : Nat) (v : Value) : LV := fun j => bif Nat.beq j i then some v else bif Nat.beq (j + 1) i then noL (f j) else f j
def st2 (f : LV) (i : Nat) (v : Value) : LV := fun j => bif Nat.beq j i then some v else bif Nat.beq j (i + 1) then none else bif Nat.beq (j + 1) i then noL (f j) else f j
def lvO : List (Nat × Value) → LV
  | [] => fun _ => none
  | (i, v) :: r => fun j => bif Nat.beq j i then some v else lvO r j
def hasL (ls : Array Slot) (nL : Nat) (f : LV) : Prop := ls.size = nL ∧ lv_wf ls ∧ ∀ (i : Nat) (v : Value), f i = some v → ls[i]? = some (.val v)
theorem lvO_mem {l : List (Nat × Value)} {i : Nat} {v : Value} (h : lvO l i = some v) : (i, v) ∈ l := by
  induction l with
  | nil => simp [lvO] at h
  | cons q r ih =>
    obtain ⟨j, u⟩ := q
    simp only [lvO] at h
    by_cases hj : i = j
    · subst hj
      simp at h
      subst h
      exact List.mem_cons_self
    · have hb : Nat.beq i j = false := by
        cases hq : Nat.beq i j with
        | false => rfl
        | true => exact absurd (Nat.eq_of_beq_eq_true hq) hj
      rw [hb] at h
      exact List.mem_cons_of_mem _ (ih h)
theorem hasL_of {ls : Array Slot} {nL : Nat} {l : List (Nat × Value)} (h : lv_has ls nL l) : hasL ls nL (lvO l) := ⟨h.1, h.2.1, fun _ _ hi => h.2.2 _ (lvO_mem hi)⟩
def lvL (nL : Nat) (f : LV) : List (Nat × Value) := (List.range nL).filterMap (fun i => (f i).map (fun v => (i, v)))
theorem lvL_mem {nL : Nat} {f : LV} {i : Nat} {v : Value} : (i, v) ∈ lvL nL f ↔ i < nL ∧ f i = some v := by
  simp only [lvL, List.mem_filterMap, List.mem_range, Option.map_eq_some_iff]
  constructor
  · rintro ⟨a, ha, u, hu, he⟩
    cases he
    exact ⟨ha, hu⟩
  · rintro ⟨h1, h2⟩
    exact ⟨i, h1, v, h2, rfl⟩
theorem hasL.to {ls : Array Slot} {nL : Nat} {f : LV} (h : hasL ls nL f) : lv_has ls nL (lvL nL f) := ⟨h.1, h.2.1, fun q hq => h.2.2 q.1 q.2 (lvL_mem.mp hq).2⟩
theorem hasL.lt {ls : Array Slot} {nL : Nat} {f : LV} (h : hasL ls nL f) {i : Nat} {v : Value} (hi : f i = some v) : i < nL := by
  have := (Array.getElem?_eq_some_iff.mp (h.2.2 i v hi)).1
  rw [h.1] at this
  exact this
theorem hasL.mono {ls : Array Slot} {nL : Nat} {f g : LV} (h : hasL ls nL f) (hg : ∀ i v, g i = some v → f i = some v) : hasL ls nL g := ⟨h.1, h.2.1, fun i v hi => h.2.2 i v (hg i v hi)⟩
theorem beq_ff {i j : Nat} (h : i ≠ j) : Nat.beq i j = false := by
  cases hq : Nat.beq i j with
  | false => rfl
  | true => exact absurd (Nat.eq_of_beq_eq_true hq) h
theorem beq_tt (i : Nat) : Nat.beq i i = true := Nat.beq_refl i
theorem noL_spec {x : Option Value} {v : Value} (h : noL x = some v) : x = some v ∧ v.category = 1 := by
  cases x with
  | none => simp [noL] at h
  | some y => cases y <;> simp [noL] at h <;> (subst h; exact ⟨rfl, rfl⟩)
theorem st1_mem {nL : Nat} {f : LV} {i j : Nat} {v u : Value} (hf : ∀ j u, f j = some u → j < nL) (h : st1 f i v j = some u) : (j, u) ∈ ((i, v) :: (lvL nL f).filter (fun q => !(q.1 == i) && !(q.1 + 1 == i && q.2.category == 2))) := by
  unfold st1 at h
  by_cases hj : j = i
  · subst hj
    rw [beq_tt] at h
    cases h
    exact List.mem_cons_self
  · rw [beq_ff hj] at h
    refine List.mem_cons_of_mem _ (List.mem_filter.mpr ?_)
    by_cases hk : j + 1 = i
    · rw [hk, beq_tt] at h
      obtain ⟨h1, h2⟩ := noL_spec h
      exact ⟨lvL_mem.mpr ⟨hf _ _ h1, h1⟩, by simp [hj, h2]⟩
    · rw [beq_ff hk] at h
      exact ⟨lvL_mem.mpr ⟨hf _ _ h, h⟩, by simp [hj, hk]⟩
theorem st2_mem {nL : Nat} {f : LV} {i j : Nat} {v u : Value} (hf : ∀ j u, f j = some u → j < nL) (h : st2 f i v j = some u) : (j, u) ∈ ((i, v) :: (lvL nL f).filter (fun q => !(q.1 == i) && (!(q.1 == i + 1) && !(q.1 + 1 == i && q.2.category == 2)))) := by
  unfold st2 at h
  by_cases hj : j = i
  · subst hj
    rw [beq_tt] at h
    cases h
    exact List.mem_cons_self
  · rw [beq_ff hj] at h
    refine List.mem_cons_of_mem _ (List.mem_filter.mpr ?_)
    by_cases hm : j = i + 1
    · rw [hm, beq_tt] at h
      cases h
    · rw [beq_ff hm] at h
      by_cases hk : j + 1 = i
      · rw [hk, beq_tt] at h
        obtain ⟨h1, h2⟩ := noL_spec h
        exact ⟨lvL_mem.mpr ⟨hf _ _ h1, h1⟩, by simp [hj, hm, h2]⟩
      · rw [beq_ff hk] at h
        exact ⟨lvL_mem.mpr ⟨hf _ _ h, h⟩, by simp [hj, hm, hk]⟩
theorem hasL.s1 {ls ls' : Array Slot} {nL : Nat} {f : LV} {i : Nat} {v : Value} (h : hasL ls nL f) (h' : lv_has ls' nL ((i, v) :: (lvL nL f).filter (fun q => !(q.1 == i) && !(q.1 + 1 == i && q.2.category == 2)))) : hasL ls' nL (st1 f i v) :=
  ⟨h'.1, h'.2.1, fun j u hj => h'.2.2 (j, u) (st1_mem (fun _ _ => h.lt) hj)⟩
theorem hasL.s2 {ls ls' : Array Slot} {nL : Nat} {f : LV} {i : Nat} {v : Value} (h : hasL ls nL f) (h' : lv_has ls' nL ((i, v) :: (lvL nL f).filter (fun q => !(q.1 == i) && (!(q.1 == i + 1) && !(q.1 + 1 == i && q.2.category == 2))))) : hasL ls' nL (st2 f i v) :=
  ⟨h'.1, h'.2.1, fun j u hj => h'.2.2 (j, u) (st2_mem (fun _ _ => h.lt) hj)⟩
/-- a walk's place -/
abbrev CT : Type := Program × Launch × Env × Room × State × MethodId × Array Value × List Frame × Method × Code × (Nat → Prop) × Nat × Nat × (State → Prop)
def Cx (X : CT) (w : WG) (M : MD) (Q : QT) : Prop := match X with
  | (p, _, _, R, s, m, args, below, meth, c, A, cells, slots, Qf) =>
    p.tables.exec = Jvm.exec ∧ c.code = M.2.1 ∧ c.maxLocals = M.2.2.1 ∧ meth.sig.returnType = M.2.2.2.1 ∧ meth.locks = false ∧ s.vm.findClass M.1.cls = some m.cls ∧ (∀ q ∈ BG, q.before args s = true) ∧ va_K w.1 vwCl (gT w) s ∧ SW w A s s.heap ∧ (∀ q : Nat, s.heap.size ≤ q → A q) ∧ (M.2.2.2.2 ≤ R.frames ∧ 40 * M.2.2.2.2 ≤ R.locals) ∧ cells = 0 ∧ slots = 0 ∧ Qf = MQ below (QcO w Q A) args s 0 0 A
def G (X : CT) (w : WG) (M : MD) (I : SI) (L : SL) (pc : Nat) (lv : LV) (st : List Value) : Prop := match X with
  | (p, l, e, R, s, m, args, below, meth, c, A, cells, slots, Qf) =>
    ∀ (H : Heap) (locs : List Loc) (ls : Array Slot), va_P w.1 vwCl (wsO w I L) H → va_D A (wsO w I L) → va_S A s.heap H locs → hasL ls M.2.2.1 lv → W p l e R s m args below meth c H locs cells slots Qf (F0 m pc ls st)
theorem Ok.of {w : WG} {M : MD} {av : List Value} {I : SI} {L : SL} {Q : QT} (hy : plainName M.1.cls = true) (hn : (lg_sl av).length ≤ M.2.2.1) (h : ∀ X : CT, Cx X w M Q → G X w M I L 0 (lvO (lv_args 0 av)) []) : Ok w M av I L Q := by
  intro l sz
  refine Met.ofW (cc := M.2.1) (maxL := M.2.2.1) (ret := M.2.2.2.1) hy rfl ?_
  intro p e s m args below meth c s₁ B hml hv
  obtain ⟨rfl, hsz, hP, hK, hD0, hSW⟩ := hv
  have hts := atoms_spec (ws := wsM M) B.pre
  subst hsz
  have hl := lv_entry av (n := M.2.2.1) hn
  rw [lg_entry_eq]
  exact h (p, l, e, (headSpec (wsM M) (rmO M.2.2.2.2)).room, s, m, av.toArray, below, meth, c, va_A (wsO w I L) s.heap.size, 0, 0, MQ below (QcO w Q (va_A (wsO w I L) s.heap.size)) av.toArray s 0 0 (va_A (wsO w I L) s.heap.size))
    ⟨B.exec, B.bytes, hml, B.returns, B.notSynchronized, findClass_of_methodNamed B.named, fun q hq => hts q (List.mem_cons_of_mem _ hq), hK, hSW, fun q h => Or.inr h, ⟨Nat.le_refl _, Nat.le_refl _⟩, rfl, rfl, rfl⟩
    s.heap [] _ hP hD0.self va_S.rf (hasL_of hl)
theorem G.lv {X : CT} {w : WG} {M : MD} {I : SI} {L : SL} {pc : Nat} {f g : LV} {st : List Value} (hg : ∀ i v, g i = some v → f i = some v) (h : G X w M I L pc g st) : G X w M I L pc f st := by
  obtain ⟨p, l, e, R, s, m, args, below, meth, c, A, cells, slots, Qf⟩ := X
  exact fun H locs ls hP hD hS hl => h H locs ls hP hD hS (hl.mono hg)
def lvIn (f : LV) : List (Nat × Value) → Prop
  | [] => True
  | (i, v) :: r => f i = some v ∧ lvIn f r
theorem lvIn_ok {f : LV} : ∀ {l : List (Nat × Value)}, lvIn f l → ∀ i v, lvO l i = some v → f i = some v := by
  intro l
  induction l with
  | nil => intro _ i v h; simp [lvO] at h
  | cons q r ih =>
    obtain ⟨j, u⟩ := q
    intro h i v hi
    simp only [lvO] at hi
    by_cases hj : i = j
    · subst hj
      rw [beq_tt] at hi
      cases hi
      exact h.1
    · rw [beq_ff hj] at hi
      exact ih h.2 i v hi
/-- a place by a list of its locals -/
theorem G.at {X : CT} {w : WG} {M : MD} {I : SI} {L : SL} {pc : Nat} {f : LV} {st : List Value} {l : List (Nat × Value)} (h : G X w M I L pc (lvO l) st) (hl : lvIn f l) : G X w M I L pc f st := h.lv (lvIn_ok hl)

theorem g_iconst {X : CT} {w : WG} {M : MD} {Q : QT} {I : SI} {L : SL} {pc : Nat} {f : LV} {n : Int} {st : List Value} (hX : Cx X w M Q) (hd : decode M.2.1 pc = .ok (.iconst n, 1)) (k : G X w M I L (pc + 1) (f) (.int (Int32.ofInt n) :: st)) : G X w M I L pc f (st) := by
  obtain ⟨p, l, e, R, s, m, args, below, meth, c, A, cells, slots, Qf⟩ := X
  obtain ⟨hx, hb, hml, hr, hlk, ho, hts, hK, hSW, hA, hR, hc, hs, hq⟩ := hX
  intro H locs ls hP hD hS hl
  exact lv_iconst hx hb hd rfl (k H locs ls hP hD hS hl)
theorem g_bipush {X : CT} {w : WG} {M : MD} {Q : QT} {I : SI} {L : SL} {pc : Nat} {f : LV} {n : Int} {st : List Value} (hX : Cx X w M Q) (hd : decode M.2.1 pc = .ok (.bipush n, 2)) (k : G X w M I L (pc + 2) (f) (.int ((Int8.ofInt n).toInt32) :: st)) : G X w M I L pc f (st) := by
  obtain ⟨p, l, e, R, s, m, args, below, meth, c, A, cells, slots, Qf⟩ := X
  obtain ⟨hx, hb, hml, hr, hlk, ho, hts, hK, hSW, hA, hR, hc, hs, hq⟩ := hX
  intro H locs ls hP hD hS hl
  exact lv_bipush hx hb hd rfl (k H locs ls hP hD hS hl)
theorem g_sipush {X : CT} {w : WG} {M : MD} {Q : QT} {I : SI} {L : SL} {pc : Nat} {f : LV} {n : Int} {st : List Value} (hX : Cx X w M Q) (hd : decode M.2.1 pc = .ok (.sipush n, 3)) (k : G X w M I L (pc + 3) (f) (.int ((Int16.ofInt n).toInt32) :: st)) : G X w M I L pc f (st) := by
  obtain ⟨p, l, e, R, s, m, args, below, meth, c, A, cells, slots, Qf⟩ := X
  obtain ⟨hx, hb, hml, hr, hlk, ho, hts, hK, hSW, hA, hR, hc, hs, hq⟩ := hX
  intro H locs ls hP hD hS hl
  exact lv_sipush hx hb hd rfl (k H locs ls hP hD hS hl)
theorem g_lconst {X : CT} {w : WG} {M : MD} {Q : QT} {I : SI} {L : SL} {pc : Nat} {f : LV} {n : Fin 2} {st : List Value} (hX : Cx X w M Q) (hd : decode M.2.1 pc = .ok (.lconst n, 1)) (k : G X w M I L (pc + 1) (f) (.long (Int64.ofNat (n : Nat)) :: st)) : G X w M I L pc f (st) := by
  obtain ⟨p, l, e, R, s, m, args, below, meth, c, A, cells, slots, Qf⟩ := X
  obtain ⟨hx, hb, hml, hr, hlk, ho, hts, hK, hSW, hA, hR, hc, hs, hq⟩ := hX
  intro H locs ls hP hD hS hl
  exact lv_lconst hx hb hd rfl (k H locs ls hP hD hS hl)
theorem g_ldc {X : CT} {w : WG} {M : MD} {Q : QT} {I : SI} {L : SL} {pc : Nat} {f : LV} {i : Nat} {v : Int32} {st : List Value} (hX : Cx X w M Q) (hd : decode M.2.1 pc = .ok (.ldc i, 2)) (hw : Cond.constant M.1.cls i v ∈ BG) (k : G X w M I L (pc + 2) (f) (.int v :: st)) : G X w M I L pc f (st) := by
  obtain ⟨p, l, e, R, s, m, args, below, meth, c, A, cells, slots, Qf⟩ := X
  obtain ⟨hx, hb, hml, hr, hlk, ho, hts, hK, hSW, hA, hR, hc, hs, hq⟩ := hX
  intro H locs ls hP hD hS hl
  exact lv_ldc hx hb ho (hts _ hw) hd (k H locs ls hP hD hS hl)
theorem g_ldcw {X : CT} {w : WG} {M : MD} {Q : QT} {I : SI} {L : SL} {pc : Nat} {f : LV} {i : Nat} {v : Int32} {st : List Value} (hX : Cx X w M Q) (hd : decode M.2.1 pc = .ok (.ldc_w i, 3)) (hw : Cond.constant M.1.cls i v ∈ BG) (k : G X w M I L (pc + 3) (f) (.int v :: st)) : G X w M I L pc f (st) := by
  obtain ⟨p, l, e, R, s, m, args, below, meth, c, A, cells, slots, Qf⟩ := X
  obtain ⟨hx, hb, hml, hr, hlk, ho, hts, hK, hSW, hA, hR, hc, hs, hq⟩ := hX
  intro H locs ls hP hD hS hl
  exact lv_ldcw hx hb ho (hts _ hw) hd (k H locs ls hP hD hS hl)
theorem g_ldc2 {X : CT} {w : WG} {M : MD} {Q : QT} {I : SI} {L : SL} {pc : Nat} {f : LV} {i : Nat} {v : Int64} {st : List Value} (hX : Cx X w M Q) (hd : decode M.2.1 pc = .ok (.ldc2_w i, 3)) (hw : Cond.constantLong M.1.cls i v ∈ BG) (k : G X w M I L (pc + 3) (f) (.long v :: st)) : G X w M I L pc f (st) := by
  obtain ⟨p, l, e, R, s, m, args, below, meth, c, A, cells, slots, Qf⟩ := X
  obtain ⟨hx, hb, hml, hr, hlk, ho, hts, hK, hSW, hA, hR, hc, hs, hq⟩ := hX
  intro H locs ls hP hD hS hl
  exact lv_ldc2 hx hb ho (hts _ hw) hd (k H locs ls hP hD hS hl)
theorem g_iload_n {X : CT} {w : WG} {M : MD} {Q : QT} {I : SI} {L : SL} {pc : Nat} {f : LV} {k : Fin 4} {i : Nat} {x : Int32} {st : List Value} (hX : Cx X w M Q) (hd : decode M.2.1 pc = .ok (.iload_n k, 1)) (hi : (k : Nat) = i) (hf : f i = some (.int x)) (kk : G X w M I L (pc + 1) (f) (.int x :: st)) : G X w M I L pc f (st) := by
  obtain ⟨p, l, e, R, s, m, args, below, meth, c, A, cells, slots, Qf⟩ := X
  obtain ⟨hx, hb, hml, hr, hlk, ho, hts, hK, hSW, hA, hR, hc, hs, hq⟩ := hX
  intro H locs ls hP hD hS hl
  exact lv_iload_n hx hb hd hi (hl.2.2 _ _ hf) (kk H locs ls hP hD hS hl)
theorem g_iload {X : CT} {w : WG} {M : MD} {Q : QT} {I : SI} {L : SL} {pc : Nat} {f : LV} {i : Nat} {x : Int32} {st : List Value} (hX : Cx X w M Q) (hd : decode M.2.1 pc = .ok (.iload i, 2)) (hf : f i = some (.int x)) (k : G X w M I L (pc + 2) (f) (.int x :: st)) : G X w M I L pc f (st) := by
  obtain ⟨p, l, e, R, s, m, args, below, meth, c, A, cells, slots, Qf⟩ := X
  obtain ⟨hx, hb, hml, hr, hlk, ho, hts, hK, hSW, hA, hR, hc, hs, hq⟩ := hX
  intro H locs ls hP hD hS hl
  exact lv_iload hx hb hd (hl.2.2 _ _ hf) (k H locs ls hP hD hS hl)
theorem g_lload_n {X : CT} {w : WG} {M : MD} {Q : QT} {I : SI} {L : SL} {pc : Nat} {f : LV} {k : Fin 4} {i : Nat} {x : Int64} {st : List Value} (hX : Cx X w M Q) (hd : decode M.2.1 pc = .ok (.lload_n k, 1)) (hi : (k : Nat) = i) (hf : f i = some (.long x)) (kk : G X w M I L (pc + 1) (f) (.long x :: st)) : G X w M I L pc f (st) := by
  obtain ⟨p, l, e, R, s, m, args, below, meth, c, A, cells, slots, Qf⟩ := X
  obtain ⟨hx, hb, hml, hr, hlk, ho, hts, hK, hSW, hA, hR, hc, hs, hq⟩ := hX
  intro H locs ls hP hD hS hl
  exact lv_lload_n hx hb hd hi (hl.2.2 _ _ hf) (kk H locs ls hP hD hS hl)
theorem g_lload {X : CT} {w : WG} {M : MD} {Q : QT} {I : SI} {L : SL} {pc : Nat} {f : LV} {i : Nat} {x : Int64} {st : List Value} (hX : Cx X w M Q) (hd : decode M.2.1 pc = .ok (.lload i, 2)) (hf : f i = some (.long x)) (k : G X w M I L (pc + 2) (f) (.long x :: st)) : G X w M I L pc f (st) := by
  obtain ⟨p, l, e, R, s, m, args, below, meth, c, A, cells, slots, Qf⟩ := X
  obtain ⟨hx, hb, hml, hr, hlk, ho, hts, hK, hSW, hA, hR, hc, hs, hq⟩ := hX
  intro H locs ls hP hD hS hl
  exact lv_lload hx hb hd (hl.2.2 _ _ hf) (k H locs ls hP hD hS hl)
theorem g_aload_n {X : CT} {w : WG} {M : MD} {Q : QT} {I : SI} {L : SL} {pc : Nat} {f : LV} {k : Fin 4} {i : Nat} {x : Nat} {st : List Value} (hX : Cx X w M Q) (hd : decode M.2.1 pc = .ok (.aload_n k, 1)) (hi : (k : Nat) = i) (hf : f i = some (.ref x)) (kk : G X w M I L (pc + 1) (f) (.ref x :: st)) : G X w M I L pc f (st) := by
  obtain ⟨p, l, e, R, s, m, args, below, meth, c, A, cells, slots, Qf⟩ := X
  obtain ⟨hx, hb, hml, hr, hlk, ho, hts, hK, hSW, hA, hR, hc, hs, hq⟩ := hX
  intro H locs ls hP hD hS hl
  exact lv_aload_n hx hb hd hi (hl.2.2 _ _ hf) (kk H locs ls hP hD hS hl)
theorem g_aload {X : CT} {w : WG} {M : MD} {Q : QT} {I : SI} {L : SL} {pc : Nat} {f : LV} {i : Nat} {x : Nat} {st : List Value} (hX : Cx X w M Q) (hd : decode M.2.1 pc = .ok (.aload i, 2)) (hf : f i = some (.ref x)) (k : G X w M I L (pc + 2) (f) (.ref x :: st)) : G X w M I L pc f (st) := by
  obtain ⟨p, l, e, R, s, m, args, below, meth, c, A, cells, slots, Qf⟩ := X
  obtain ⟨hx, hb, hml, hr, hlk, ho, hts, hK, hSW, hA, hR, hc, hs, hq⟩ := hX
  intro H locs ls hP hD hS hl
  exact lv_aload hx hb hd (hl.2.2 _ _ hf) (k H locs ls hP hD hS hl)
theorem g_istore_n {X : CT} {w : WG} {M : MD} {Q : QT} {I : SI} {L : SL} {pc : Nat} {f : LV} {k : Fin 4} {i : Nat} {x : Int32} {st : List Value} (hX : Cx X w M Q) (hd : decode M.2.1 pc = .ok (.istore_n k, 1)) (hi : (k : Nat) = i) (hn : i < M.2.2.1) (kk : G X w M I L (pc + 1) (st1 f i (.int x)) st) : G X w M I L pc f (.int x :: st) := by
  obtain ⟨p, l, e, R, s, m, args, below, meth, c, A, cells, slots, Qf⟩ := X
  obtain ⟨hx, hb, hml, hr, hlk, ho, hts, hK, hSW, hA, hR, hc, hs, hq⟩ := hX
  intro H locs ls hP hD hS hl
  exact lv_istore_n hx hb hd hi hl.to hn rfl (fun ls' h' => kk H locs ls' hP hD hS (hl.s1 h'))
theorem g_istore {X : CT} {w : WG} {M : MD} {Q : QT} {I : SI} {L : SL} {pc : Nat} {f : LV} {i : Nat} {x : Int32} {st : List Value} (hX : Cx X w M Q) (hd : decode M.2.1 pc = .ok (.istore i, 2)) (hn : i < M.2.2.1) (kk : G X w M I L (pc + 2) (st1 f i (.int x)) st) : G X w M I L pc f (.int x :: st) := by
  obtain ⟨p, l, e, R, s, m, args, below, meth, c, A, cells, slots, Qf⟩ := X
  obtain ⟨hx, hb, hml, hr, hlk, ho, hts, hK, hSW, hA, hR, hc, hs, hq⟩ := hX
  intro H locs ls hP hD hS hl
  exact lv_istore hx hb hd hl.to hn rfl (fun ls' h' => kk H locs ls' hP hD hS (hl.s1 h'))
theorem g_lstore_n {X : CT} {w : WG} {M : MD} {Q : QT} {I : SI} {L : SL} {pc : Nat} {f : LV} {k : Fin 4} {i : Nat} {x : Int64} {st : List Value} (hX : Cx X w M Q) (hd : decode M.2.1 pc = .ok (.lstore_n k, 1)) (hi : (k : Nat) = i) (hn : i + 1 < M.2.2.1) (kk : G X w M I L (pc + 1) (st2 f i (.long x)) st) : G X w M I L pc f (.long x :: st) := by
  obtain ⟨p, l, e, R, s, m, args, below, meth, c, A, cells, slots, Qf⟩ := X
  obtain ⟨hx, hb, hml, hr, hlk, ho, hts, hK, hSW, hA, hR, hc, hs, hq⟩ := hX
  intro H locs ls hP hD hS hl
  exact lv_lstore_n hx hb hd hi hl.to hn rfl (fun ls' h' => kk H locs ls' hP hD hS (hl.s2 h'))
theorem g_lstore {X : CT} {w : WG} {M : MD} {Q : QT} {I : SI} {L : SL} {pc : Nat} {f : LV} {i : Nat} {x : Int64} {st : List Value} (hX : Cx X w M Q) (hd : decode M.2.1 pc = .ok (.lstore i, 2)) (hn : i + 1 < M.2.2.1) (kk : G X w M I L (pc + 2) (st2 f i (.long x)) st) : G X w M I L pc f (.long x :: st) := by
  obtain ⟨p, l, e, R, s, m, args, below, meth, c, A, cells, slots, Qf⟩ := X
  obtain ⟨hx, hb, hml, hr, hlk, ho, hts, hK, hSW, hA, hR, hc, hs, hq⟩ := hX
  intro H locs ls hP hD hS hl
  exact lv_lstore hx hb hd hl.to hn rfl (fun ls' h' => kk H locs ls' hP hD hS (hl.s2 h'))
theorem g_astore_n {X : CT} {w : WG} {M : MD} {Q : QT} {I : SI} {L : SL} {pc : Nat} {f : LV} {k : Fin 4} {i : Nat} {x : Nat} {st : List Value} (hX : Cx X w M Q) (hd : decode M.2.1 pc = .ok (.astore_n k, 1)) (hi : (k : Nat) = i) (hn : i < M.2.2.1) (kk : G X w M I L (pc + 1) (st1 f i (.ref x)) st) : G X w M I L pc f (.ref x :: st) := by
  obtain ⟨p, l, e, R, s, m, args, below, meth, c, A, cells, slots, Qf⟩ := X
  obtain ⟨hx, hb, hml, hr, hlk, ho, hts, hK, hSW, hA, hR, hc, hs, hq⟩ := hX
  intro H locs ls hP hD hS hl
  exact lv_astore_n hx hb hd hi hl.to hn rfl (fun ls' h' => kk H locs ls' hP hD hS (hl.s1 h'))
theorem g_astore {X : CT} {w : WG} {M : MD} {Q : QT} {I : SI} {L : SL} {pc : Nat} {f : LV} {i : Nat} {x : Nat} {st : List Value} (hX : Cx X w M Q) (hd : decode M.2.1 pc = .ok (.astore i, 2)) (hn : i < M.2.2.1) (kk : G X w M I L (pc + 2) (st1 f i (.ref x)) st) : G X w M I L pc f (.ref x :: st) := by
  obtain ⟨p, l, e, R, s, m, args, below, meth, c, A, cells, slots, Qf⟩ := X
  obtain ⟨hx, hb, hml, hr, hlk, ho, hts, hK, hSW, hA, hR, hc, hs, hq⟩ := hX
  intro H locs ls hP hD hS hl
  exact lv_astore hx hb hd hl.to hn rfl (fun ls' h' => kk H locs ls' hP hD hS (hl.s1 h'))
theorem g_iinc {X : CT} {w : WG} {M : MD} {Q : QT} {I : SI} {L : SL} {pc : Nat} {f : LV} {i : Nat} {n : Int} {x : Int32} {st : List Value} (hX : Cx X w M Q) (hd : decode M.2.1 pc = .ok (.iinc i n, 3)) (hf : f i = some (.int x)) (kk : G X w M I L (pc + 3) (st1 f i (.int (x + Int32.ofInt n))) st) : G X w M I L pc f st := by
  obtain ⟨p, l, e, R, s, m, args, below, meth, c, A, cells, slots, Qf⟩ := X
  obtain ⟨hx, hb, hml, hr, hlk, ho, hts, hK, hSW, hA, hR, hc, hs, hq⟩ := hX
  intro H locs ls hP hD hS hl
  obtain ⟨q, hq⟩ := List.getElem?_of_mem (lvL_mem.mpr ⟨hl.lt hf, hf⟩)
  exact lv_iinc hx hb hd hl.to hq rfl (hl.lt hf) rfl (fun ls' h' => kk H locs ls' hP hD hS (hl.s1 h'))
theorem g_iadd {X : CT} {w : WG} {M : MD} {Q : QT} {I : SI} {L : SL} {pc : Nat} {f : LV} {x y : Int32} {st : List Value} (hX : Cx X w M Q) (hd : decode M.2.1 pc = .ok (.iadd, 1)) (k : G X w M I L (pc + 1) (f) (.int (x + y) :: st)) : G X w M I L pc f (.int y :: .int x :: st) := by
  obtain ⟨p, l, e, R, s, m, args, below, meth, c, A, cells, slots, Qf⟩ := X
  obtain ⟨hx, hb, hml, hr, hlk, ho, hts, hK, hSW, hA, hR, hc, hs, hq⟩ := hX
  intro H locs ls hP hD hS hl
  exact lv_iadd hx hb hd (k H locs ls hP hD hS hl)
theorem g_isub {X : CT} {w : WG} {M : MD} {Q : QT} {I : SI} {L : SL} {pc : Nat} {f : LV} {x y : Int32} {st : List Value} (hX : Cx X w M Q) (hd : decode M.2.1 pc = .ok (.isub, 1)) (k : G X w M I L (pc + 1) (f) (.int (x - y) :: st)) : G X w M I L pc f (.int y :: .int x :: st) := by
  obtain ⟨p, l, e, R, s, m, args, below, meth, c, A, cells, slots, Qf⟩ := X
  obtain ⟨hx, hb, hml, hr, hlk, ho, hts, hK, hSW, hA, hR, hc, hs, hq⟩ := hX
  intro H locs ls hP hD hS hl
  exact lv_isub hx hb hd (k H locs ls hP hD hS hl)
theorem g_imul {X : CT} {w : WG} {M : MD} {Q : QT} {I : SI} {L : SL} {pc : Nat} {f : LV} {x y : Int32} {st : List Value} (hX : Cx X w M Q) (hd : decode M.2.1 pc = .ok (.imul, 1)) (k : G X w M I L (pc + 1) (f) (.int (x * y) :: st)) : G X w M I L pc f (.int y :: .int x :: st) := by
  obtain ⟨p, l, e, R, s, m, args, below, meth, c, A, cells, slots, Qf⟩ := X
  obtain ⟨hx, hb, hml, hr, hlk, ho, hts, hK, hSW, hA, hR, hc, hs, hq⟩ := hX
  intro H locs ls hP hD hS hl
  exact lv_imul hx hb hd (k H locs ls hP hD hS hl)
theorem g_iand {X : CT} {w : WG} {M : MD} {Q : QT} {I : SI} {L : SL} {pc : Nat} {f : LV} {x y : Int32} {st : List Value} (hX : Cx X w M Q) (hd : decode M.2.1 pc = .ok (.iand, 1)) (k : G X w M I L (pc + 1) (f) (.int (x &&& y) :: st)) : G X w M I L pc f (.int y :: .int x :: st) := by
  obtain ⟨p, l, e, R, s, m, args, below, meth, c, A, cells, slots, Qf⟩ := X
  obtain ⟨hx, hb, hml, hr, hlk, ho, hts, hK, hSW, hA, hR, hc, hs, hq⟩ := hX
  intro H locs ls hP hD hS hl
  exact lv_iand hx hb hd (k H locs ls hP hD hS hl)
theorem g_ior {X : CT} {w : WG} {M : MD} {Q : QT} {I : SI} {L : SL} {pc : Nat} {f : LV} {x y : Int32} {st : List Value} (hX : Cx X w M Q) (hd : decode M.2.1 pc = .ok (.ior, 1)) (k : G X w M I L (pc + 1) (f) (.int (x ||| y) :: st)) : G X w M I L pc f (.int y :: .int x :: st) := by
  obtain ⟨p, l, e, R, s, m, args, below, meth, c, A, cells, slots, Qf⟩ := X
  obtain ⟨hx, hb, hml, hr, hlk, ho, hts, hK, hSW, hA, hR, hc, hs, hq⟩ := hX
  intro H locs ls hP hD hS hl
  exact lv_ior hx hb hd (k H locs ls hP hD hS hl)
theorem g_ixor {X : CT} {w : WG} {M : MD} {Q : QT} {I : SI} {L : SL} {pc : Nat} {f : LV} {x y : Int32} {st : List Value} (hX : Cx X w M Q) (hd : decode M.2.1 pc = .ok (.ixor, 1)) (k : G X w M I L (pc + 1) (f) (.int (x ^^^ y) :: st)) : G X w M I L pc f (.int y :: .int x :: st) := by
  obtain ⟨p, l, e, R, s, m, args, below, meth, c, A, cells, slots, Qf⟩ := X
  obtain ⟨hx, hb, hml, hr, hlk, ho, hts, hK, hSW, hA, hR, hc, hs, hq⟩ := hX
  intro H locs ls hP hD hS hl
  exact lv_ixor hx hb hd (k H locs ls hP hD hS hl)
theorem g_ishl {X : CT} {w : WG} {M : MD} {Q : QT} {I : SI} {L : SL} {pc : Nat} {f : LV} {x y : Int32} {st : List Value} (hX : Cx X w M Q) (hd : decode M.2.1 pc = .ok (.ishl, 1)) (k : G X w M I L (pc + 1) (f) (.int (x <<< (y &&& 31)) :: st)) : G X w M I L pc f (.int y :: .int x :: st) := by
  obtain ⟨p, l, e, R, s, m, args, below, meth, c, A, cells, slots, Qf⟩ := X
  obtain ⟨hx, hb, hml, hr, hlk, ho, hts, hK, hSW, hA, hR, hc, hs, hq⟩ := hX
  intro H locs ls hP hD hS hl
  exact lv_ishl hx hb hd (k H locs ls hP hD hS hl)
theorem g_ishr {X : CT} {w : WG} {M : MD} {Q : QT} {I : SI} {L : SL} {pc : Nat} {f : LV} {x y : Int32} {st : List Value} (hX : Cx X w M Q) (hd : decode M.2.1 pc = .ok (.ishr, 1)) (k : G X w M I L (pc + 1) (f) (.int (x >>> (y &&& 31)) :: st)) : G X w M I L pc f (.int y :: .int x :: st) := by
  obtain ⟨p, l, e, R, s, m, args, below, meth, c, A, cells, slots, Qf⟩ := X
  obtain ⟨hx, hb, hml, hr, hlk, ho, hts, hK, hSW, hA, hR, hc, hs, hq⟩ := hX
  intro H locs ls hP hD hS hl
  exact lv_ishr hx hb hd (k H locs ls hP hD hS hl)
theorem g_ladd {X : CT} {w : WG} {M : MD} {Q : QT} {I : SI} {L : SL} {pc : Nat} {f : LV} {x y : Int64} {st : List Value} (hX : Cx X w M Q) (hd : decode M.2.1 pc = .ok (.ladd, 1)) (k : G X w M I L (pc + 1) (f) (.long (x + y) :: st)) : G X w M I L pc f (.long y :: .long x :: st) := by
  obtain ⟨p, l, e, R, s, m, args, below, meth, c, A, cells, slots, Qf⟩ := X
  obtain ⟨hx, hb, hml, hr, hlk, ho, hts, hK, hSW, hA, hR, hc, hs, hq⟩ := hX
  intro H locs ls hP hD hS hl
  exact lv_ladd hx hb hd (k H locs ls hP hD hS hl)
theorem g_lsub {X : CT} {w : WG} {M : MD} {Q : QT} {I : SI} {L : SL} {pc : Nat} {f : LV} {x y : Int64} {st : List Value} (hX : Cx X w M Q) (hd : decode M.2.1 pc = .ok (.lsub, 1)) (k : G X w M I L (pc + 1) (f) (.long (x - y) :: st)) : G X w M I L pc f (.long y :: .long x :: st) := by
  obtain ⟨p, l, e, R, s, m, args, below, meth, c, A, cells, slots, Qf⟩ := X
  obtain ⟨hx, hb, hml, hr, hlk, ho, hts, hK, hSW, hA, hR, hc, hs, hq⟩ := hX
  intro H locs ls hP hD hS hl
  exact lv_lsub hx hb hd (k H locs ls hP hD hS hl)
theorem g_lmul {X : CT} {w : WG} {M : MD} {Q : QT} {I : SI} {L : SL} {pc : Nat} {f : LV} {x y : Int64} {st : List Value} (hX : Cx X w M Q) (hd : decode M.2.1 pc = .ok (.lmul, 1)) (k : G X w M I L (pc + 1) (f) (.long (x * y) :: st)) : G X w M I L pc f (.long y :: .long x :: st) := by
  obtain ⟨p, l, e, R, s, m, args, below, meth, c, A, cells, slots, Qf⟩ := X
  obtain ⟨hx, hb, hml, hr, hlk, ho, hts, hK, hSW, hA, hR, hc, hs, hq⟩ := hX
  intro H locs ls hP hD hS hl
  exact lv_lmul hx hb hd (k H locs ls hP hD hS hl)
theorem g_idiv {X : CT} {w : WG} {M : MD} {Q : QT} {I : SI} {L : SL} {pc : Nat} {f : LV} {x y : Int32} {st : List Value} (hX : Cx X w M Q) (hd : decode M.2.1 pc = .ok (.idiv, 1)) (hne : ¬ y = 0) (k : G X w M I L (pc + 1) (f) (.int (x / y) :: st)) : G X w M I L pc f (.int y :: .int x :: st) := by
  obtain ⟨p, l, e, R, s, m, args, below, meth, c, A, cells, slots, Qf⟩ := X
  obtain ⟨hx, hb, hml, hr, hlk, ho, hts, hK, hSW, hA, hR, hc, hs, hq⟩ := hX
  intro H locs ls hP hD hS hl
  exact lv_idiv hx hb hd hne (k H locs ls hP hD hS hl)
theorem g_irem {X : CT} {w : WG} {M : MD} {Q : QT} {I : SI} {L : SL} {pc : Nat} {f : LV} {x y : Int32} {st : List Value} (hX : Cx X w M Q) (hd : decode M.2.1 pc = .ok (.irem, 1)) (hne : ¬ y = 0) (k : G X w M I L (pc + 1) (f) (.int (x - x / y * y) :: st)) : G X w M I L pc f (.int y :: .int x :: st) := by
  obtain ⟨p, l, e, R, s, m, args, below, meth, c, A, cells, slots, Qf⟩ := X
  obtain ⟨hx, hb, hml, hr, hlk, ho, hts, hK, hSW, hA, hR, hc, hs, hq⟩ := hX
  intro H locs ls hP hD hS hl
  exact lv_irem hx hb hd hne (k H locs ls hP hD hS hl)
theorem g_ldiv {X : CT} {w : WG} {M : MD} {Q : QT} {I : SI} {L : SL} {pc : Nat} {f : LV} {x y : Int64} {st : List Value} (hX : Cx X w M Q) (hd : decode M.2.1 pc = .ok (.ldiv, 1)) (hne : ¬ y = 0) (k : G X w M I L (pc + 1) (f) (.long (x / y) :: st)) : G X w M I L pc f (.long y :: .long x :: st) := by
  obtain ⟨p, l, e, R, s, m, args, below, meth, c, A, cells, slots, Qf⟩ := X
  obtain ⟨hx, hb, hml, hr, hlk, ho, hts, hK, hSW, hA, hR, hc, hs, hq⟩ := hX
  intro H locs ls hP hD hS hl
  exact lv_ldiv hx hb hd hne (k H locs ls hP hD hS hl)
theorem g_lrem {X : CT} {w : WG} {M : MD} {Q : QT} {I : SI} {L : SL} {pc : Nat} {f : LV} {x y : Int64} {st : List Value} (hX : Cx X w M Q) (hd : decode M.2.1 pc = .ok (.lrem, 1)) (hne : ¬ y = 0) (k : G X w M I L (pc + 1) (f) (.long (x - x / y * y) :: st)) : G X w M I L pc f (.long y :: .long x :: st) := by
  obtain ⟨p, l, e, R, s, m, args, below, meth, c, A, cells, slots, Qf⟩ := X
  obtain ⟨hx, hb, hml, hr, hlk, ho, hts, hK, hSW, hA, hR, hc, hs, hq⟩ := hX
  intro H locs ls hP hD hS hl
  exact lv_lrem hx hb hd hne (k H locs ls hP hD hS hl)
theorem g_ineg {X : CT} {w : WG} {M : MD} {Q : QT} {I : SI} {L : SL} {pc : Nat} {f : LV} {x : Int32} {st : List Value} (hX : Cx X w M Q) (hd : decode M.2.1 pc = .ok (.ineg, 1)) (k : G X w M I L (pc + 1) (f) (.int (-x) :: st)) : G X w M I L pc f (.int x :: st) := by
  obtain ⟨p, l, e, R, s, m, args, below, meth, c, A, cells, slots, Qf⟩ := X
  obtain ⟨hx, hb, hml, hr, hlk, ho, hts, hK, hSW, hA, hR, hc, hs, hq⟩ := hX
  intro H locs ls hP hD hS hl
  exact lv_ineg hx hb hd (k H locs ls hP hD hS hl)
theorem g_iushr {X : CT} {w : WG} {M : MD} {Q : QT} {I : SI} {L : SL} {pc : Nat} {f : LV} {x y : Int32} {st : List Value} (hX : Cx X w M Q) (hd : decode M.2.1 pc = .ok (.iushr, 1)) (k : G X w M I L (pc + 1) (f) (.int ((x.toUInt32 >>> (y.toUInt32 &&& Int32.toUInt32 31)).toInt32) :: st)) : G X w M I L pc f (.int y :: .int x :: st) := by
  obtain ⟨p, l, e, R, s, m, args, below, meth, c, A, cells, slots, Qf⟩ := X
  obtain ⟨hx, hb, hml, hr, hlk, ho, hts, hK, hSW, hA, hR, hc, hs, hq⟩ := hX
  intro H locs ls hP hD hS hl
  exact lv_iushr hx hb hd rfl (k H locs ls hP hD hS hl)
theorem g_i2l {X : CT} {w : WG} {M : MD} {Q : QT} {I : SI} {L : SL} {pc : Nat} {f : LV} {x : Int32} {st : List Value} (hX : Cx X w M Q) (hd : decode M.2.1 pc = .ok (.i2l, 1)) (k : G X w M I L (pc + 1) (f) (.long (x.toInt64) :: st)) : G X w M I L pc f (.int x :: st) := by
  obtain ⟨p, l, e, R, s, m, args, below, meth, c, A, cells, slots, Qf⟩ := X
  obtain ⟨hx, hb, hml, hr, hlk, ho, hts, hK, hSW, hA, hR, hc, hs, hq⟩ := hX
  intro H locs ls hP hD hS hl
  exact lv_i2l hx hb hd rfl (k H locs ls hP hD hS hl)
theorem g_l2i {X : CT} {w : WG} {M : MD} {Q : QT} {I : SI} {L : SL} {pc : Nat} {f : LV} {x : Int64} {st : List Value} (hX : Cx X w M Q) (hd : decode M.2.1 pc = .ok (.l2i, 1)) (k : G X w M I L (pc + 1) (f) (.int (x.toInt32) :: st)) : G X w M I L pc f (.long x :: st) := by
  obtain ⟨p, l, e, R, s, m, args, below, meth, c, A, cells, slots, Qf⟩ := X
  obtain ⟨hx, hb, hml, hr, hlk, ho, hts, hK, hSW, hA, hR, hc, hs, hq⟩ := hX
  intro H locs ls hP hD hS hl
  exact lv_l2i hx hb hd rfl (k H locs ls hP hD hS hl)
theorem g_i2b {X : CT} {w : WG} {M : MD} {Q : QT} {I : SI} {L : SL} {pc : Nat} {f : LV} {x : Int32} {st : List Value} (hX : Cx X w M Q) (hd : decode M.2.1 pc = .ok (.i2b, 1)) (k : G X w M I L (pc + 1) (f) (.int (x.toInt8.toInt32) :: st)) : G X w M I L pc f (.int x :: st) := by
  obtain ⟨p, l, e, R, s, m, args, below, meth, c, A, cells, slots, Qf⟩ := X
  obtain ⟨hx, hb, hml, hr, hlk, ho, hts, hK, hSW, hA, hR, hc, hs, hq⟩ := hX
  intro H locs ls hP hD hS hl
  exact lv_i2b hx hb hd rfl (k H locs ls hP hD hS hl)
theorem g_i2c {X : CT} {w : WG} {M : MD} {Q : QT} {I : SI} {L : SL} {pc : Nat} {f : LV} {x : Int32} {st : List Value} (hX : Cx X w M Q) (hd : decode M.2.1 pc = .ok (.i2c, 1)) (k : G X w M I L (pc + 1) (f) (.int ((x.toUInt32 % 65536).toInt32) :: st)) : G X w M I L pc f (.int x :: st) := by
  obtain ⟨p, l, e, R, s, m, args, below, meth, c, A, cells, slots, Qf⟩ := X
  obtain ⟨hx, hb, hml, hr, hlk, ho, hts, hK, hSW, hA, hR, hc, hs, hq⟩ := hX
  intro H locs ls hP hD hS hl
  exact lv_i2c hx hb hd rfl (k H locs ls hP hD hS hl)
theorem g_lcmp {X : CT} {w : WG} {M : MD} {Q : QT} {I : SI} {L : SL} {pc : Nat} {f : LV} {x y : Int64} {st : List Value} (hX : Cx X w M Q) (hd : decode M.2.1 pc = .ok (.lcmp, 1)) (k : G X w M I L (pc + 1) (f) (.int (lg_cmp x y) :: st)) : G X w M I L pc f (.long y :: .long x :: st) := by
  obtain ⟨p, l, e, R, s, m, args, below, meth, c, A, cells, slots, Qf⟩ := X
  obtain ⟨hx, hb, hml, hr, hlk, ho, hts, hK, hSW, hA, hR, hc, hs, hq⟩ := hX
  intro H locs ls hP hD hS hl
  exact W.lcmp hx hb hd (k H locs ls hP hD hS hl)
theorem g_dup {X : CT} {w : WG} {M : MD} {Q : QT} {I : SI} {L : SL} {pc : Nat} {f : LV} {a : Value} {st : List Value} (hX : Cx X w M Q) (hd : decode M.2.1 pc = .ok (.dup, 1)) (ha : a.category = 1) (k : G X w M I L (pc + 1) (f) (a :: a :: st)) : G X w M I L pc f (a :: st) := by
  obtain ⟨p, l, e, R, s, m, args, below, meth, c, A, cells, slots, Qf⟩ := X
  obtain ⟨hx, hb, hml, hr, hlk, ho, hts, hK, hSW, hA, hR, hc, hs, hq⟩ := hX
  intro H locs ls hP hD hS hl
  exact lv_dup hx hb hd ha (k H locs ls hP hD hS hl)
theorem g_pop {X : CT} {w : WG} {M : MD} {Q : QT} {I : SI} {L : SL} {pc : Nat} {f : LV} {a : Value} {st : List Value} (hX : Cx X w M Q) (hd : decode M.2.1 pc = .ok (.pop, 1)) (ha : a.category = 1) (k : G X w M I L (pc + 1) (f) (st)) : G X w M I L pc f (a :: st) := by
  obtain ⟨p, l, e, R, s, m, args, below, meth, c, A, cells, slots, Qf⟩ := X
  obtain ⟨hx, hb, hml, hr, hlk, ho, hts, hK, hSW, hA, hR, hc, hs, hq⟩ := hX
  intro H locs ls hP hD hS hl
  exact lv_pop hx hb hd ha (k H locs ls hP hD hS hl)
theorem g_dup_x1 {X : CT} {w : WG} {M : MD} {Q : QT} {I : SI} {L : SL} {pc : Nat} {f : LV} {a b : Value} {st : List Value} (hX : Cx X w M Q) (hd : decode M.2.1 pc = .ok (.dup_x1, 1)) (ha : a.category = 1) (hb2 : b.category = 1) (k : G X w M I L (pc + 1) (f) (a :: b :: a :: st)) : G X w M I L pc f (a :: b :: st) := by
  obtain ⟨p, l, e, R, s, m, args, below, meth, c, A, cells, slots, Qf⟩ := X
  obtain ⟨hx, hb, hml, hr, hlk, ho, hts, hK, hSW, hA, hR, hc, hs, hq⟩ := hX
  intro H locs ls hP hD hS hl
  exact lv_dup_x1 hx hb hd ha hb2 (k H locs ls hP hD hS hl)
theorem g_dup2 {X : CT} {w : WG} {M : MD} {Q : QT} {I : SI} {L : SL} {pc : Nat} {f : LV} {a b : Value} {st : List Value} (hX : Cx X w M Q) (hd : decode M.2.1 pc = .ok (.dup2, 1)) (ha : a.category = 1) (hb2 : b.category = 1) (k : G X w M I L (pc + 1) (f) (a :: b :: a :: b :: st)) : G X w M I L pc f (a :: b :: st) := by
  obtain ⟨p, l, e, R, s, m, args, below, meth, c, A, cells, slots, Qf⟩ := X
  obtain ⟨hx, hb, hml, hr, hlk, ho, hts, hK, hSW, hA, hR, hc, hs, hq⟩ := hX
  intro H locs ls hP hD hS hl
  exact lv_dup2_11 hx hb hd ha hb2 (k H locs ls hP hD hS hl)
theorem g_dup2l {X : CT} {w : WG} {M : MD} {Q : QT} {I : SI} {L : SL} {pc : Nat} {f : LV} {a : Value} {st : List Value} (hX : Cx X w M Q) (hd : decode M.2.1 pc = .ok (.dup2, 1)) (ha : a.category = 2) (k : G X w M I L (pc + 1) (f) (a :: a :: st)) : G X w M I L pc f (a :: st) := by
  obtain ⟨p, l, e, R, s, m, args, below, meth, c, A, cells, slots, Qf⟩ := X
  obtain ⟨hx, hb, hml, hr, hlk, ho, hts, hK, hSW, hA, hR, hc, hs, hq⟩ := hX
  intro H locs ls hP hD hS hl
  exact lv_dup2_2 hx hb hd ha (k H locs ls hP hD hS hl)
theorem g_if_eq {X : CT} {w : WG} {M : MD} {Q : QT} {I : SI} {L : SL} {pc : Nat} {f : LV} {x : Int32} {off : Int} {tgt : Nat} {st : List Value} (hX : Cx X w M Q) (hd : decode M.2.1 pc = .ok (.ifCond .eq off, 3)) (ht : (pc : Int) + off = (tgt : Int)) (kt : x = 0 → G X w M I L tgt f st) (kf : ¬ x = 0 → G X w M I L (pc + 3) f st) : G X w M I L pc f (.int x :: st) := by
  obtain ⟨p, l, e, R, s, m, args, below, meth, c, A, cells, slots, Qf⟩ := X
  obtain ⟨hx, hb, hml, hr, hlk, ho, hts, hK, hSW, hA, hR, hc, hs, hq⟩ := hX
  intro H locs ls hP hD hS hl
  exact lv_if_eq hx hb hd ht (fun h => kt h H locs ls hP hD hS hl) (fun h => kf h H locs ls hP hD hS hl)
theorem g_icmp_eq {X : CT} {w : WG} {M : MD} {Q : QT} {I : SI} {L : SL} {pc : Nat} {f : LV} {x y : Int32} {off : Int} {tgt : Nat} {st : List Value} (hX : Cx X w M Q) (hd : decode M.2.1 pc = .ok (.if_icmp .eq off, 3)) (ht : (pc : Int) + off = (tgt : Int)) (kt : x = y → G X w M I L tgt f st) (kf : ¬ x = y → G X w M I L (pc + 3) f st) : G X w M I L pc f (.int y :: .int x :: st) := by
  obtain ⟨p, l, e, R, s, m, args, below, meth, c, A, cells, slots, Qf⟩ := X
  obtain ⟨hx, hb, hml, hr, hlk, ho, hts, hK, hSW, hA, hR, hc, hs, hq⟩ := hX
  intro H locs ls hP hD hS hl
  exact lv_icmp_eq hx hb hd ht (fun h => kt h H locs ls hP hD hS hl) (fun h => kf h H locs ls hP hD hS hl)
theorem g_if_ne {X : CT} {w : WG} {M : MD} {Q : QT} {I : SI} {L : SL} {pc : Nat} {f : LV} {x : Int32} {off : Int} {tgt : Nat} {st : List Value} (hX : Cx X w M Q) (hd : decode M.2.1 pc = .ok (.ifCond .ne off, 3)) (ht : (pc : Int) + off = (tgt : Int)) (kt : ¬ x = 0 → G X w M I L tgt f st) (kf : x = 0 → G X w M I L (pc + 3) f st) : G X w M I L pc f (.int x :: st) := by
  obtain ⟨p, l, e, R, s, m, args, below, meth, c, A, cells, slots, Qf⟩ := X
  obtain ⟨hx, hb, hml, hr, hlk, ho, hts, hK, hSW, hA, hR, hc, hs, hq⟩ := hX
  intro H locs ls hP hD hS hl
  exact lv_if_ne hx hb hd ht (fun h => kt h H locs ls hP hD hS hl) (fun h => kf h H locs ls hP hD hS hl)
theorem g_icmp_ne {X : CT} {w : WG} {M : MD} {Q : QT} {I : SI} {L : SL} {pc : Nat} {f : LV} {x y : Int32} {off : Int} {tgt : Nat} {st : List Value} (hX : Cx X w M Q) (hd : decode M.2.1 pc = .ok (.if_icmp .ne off, 3)) (ht : (pc : Int) + off = (tgt : Int)) (kt : ¬ x = y → G X w M I L tgt f st) (kf : x = y → G X w M I L (pc + 3) f st) : G X w M I L pc f (.int y :: .int x :: st) := by
  obtain ⟨p, l, e, R, s, m, args, below, meth, c, A, cells, slots, Qf⟩ := X
  obtain ⟨hx, hb, hml, hr, hlk, ho, hts, hK, hSW, hA, hR, hc, hs, hq⟩ := hX
  intro H locs ls hP hD hS hl
  exact lv_icmp_ne hx hb hd ht (fun h => kt h H locs ls hP hD hS hl) (fun h => kf h H locs ls hP hD hS hl)
theorem g_if_lt {X : CT} {w : WG} {M : MD} {Q : QT} {I : SI} {L : SL} {pc : Nat} {f : LV} {x : Int32} {off : Int} {tgt : Nat} {st : List Value} (hX : Cx X w M Q) (hd : decode M.2.1 pc = .ok (.ifCond .lt off, 3)) (ht : (pc : Int) + off = (tgt : Int)) (kt : x < 0 → G X w M I L tgt f st) (kf : ¬ x < 0 → G X w M I L (pc + 3) f st) : G X w M I L pc f (.int x :: st) := by
  obtain ⟨p, l, e, R, s, m, args, below, meth, c, A, cells, slots, Qf⟩ := X
  obtain ⟨hx, hb, hml, hr, hlk, ho, hts, hK, hSW, hA, hR, hc, hs, hq⟩ := hX
  intro H locs ls hP hD hS hl
  exact lv_if_lt hx hb hd ht (fun h => kt h H locs ls hP hD hS hl) (fun h => kf h H locs ls hP hD hS hl)
theorem g_icmp_lt {X : CT} {w : WG} {M : MD} {Q : QT} {I : SI} {L : SL} {pc : Nat} {f : LV} {x y : Int32} {off : Int} {tgt : Nat} {st : List Value} (hX : Cx X w M Q) (hd : decode M.2.1 pc = .ok (.if_icmp .lt off, 3)) (ht : (pc : Int) + off = (tgt : Int)) (kt : x < y → G X w M I L tgt f st) (kf : ¬ x < y → G X w M I L (pc + 3) f st) : G X w M I L pc f (.int y :: .int x :: st) := by
  obtain ⟨p, l, e, R, s, m, args, below, meth, c, A, cells, slots, Qf⟩ := X
  obtain ⟨hx, hb, hml, hr, hlk, ho, hts, hK, hSW, hA, hR, hc, hs, hq⟩ := hX
  intro H locs ls hP hD hS hl
  exact lv_icmp_lt hx hb hd ht (fun h => kt h H locs ls hP hD hS hl) (fun h => kf h H locs ls hP hD hS hl)
theorem g_if_ge {X : CT} {w : WG} {M : MD} {Q : QT} {I : SI} {L : SL} {pc : Nat} {f : LV} {x : Int32} {off : Int} {tgt : Nat} {st : List Value} (hX : Cx X w M Q) (hd : decode M.2.1 pc = .ok (.ifCond .ge off, 3)) (ht : (pc : Int) + off = (tgt : Int)) (kt : 0 ≤ x → G X w M I L tgt f st) (kf : ¬ 0 ≤ x → G X w M I L (pc + 3) f st) : G X w M I L pc f (.int x :: st) := by
  obtain ⟨p, l, e, R, s, m, args, below, meth, c, A, cells, slots, Qf⟩ := X
  obtain ⟨hx, hb, hml, hr, hlk, ho, hts, hK, hSW, hA, hR, hc, hs, hq⟩ := hX
  intro H locs ls hP hD hS hl
  exact lv_if_ge hx hb hd ht (fun h => kt h H locs ls hP hD hS hl) (fun h => kf h H locs ls hP hD hS hl)
theorem g_icmp_ge {X : CT} {w : WG} {M : MD} {Q : QT} {I : SI} {L : SL} {pc : Nat} {f : LV} {x y : Int32} {off : Int} {tgt : Nat} {st : List Value} (hX : Cx X w M Q) (hd : decode M.2.1 pc = .ok (.if_icmp .ge off, 3)) (ht : (pc : Int) + off = (tgt : Int)) (kt : y ≤ x → G X w M I L tgt f st) (kf : ¬ y ≤ x → G X w M I L (pc + 3) f st) : G X w M I L pc f (.int y :: .int x :: st) := by
  obtain ⟨p, l, e, R, s, m, args, below, meth, c, A, cells, slots, Qf⟩ := X
  obtain ⟨hx, hb, hml, hr, hlk, ho, hts, hK, hSW, hA, hR, hc, hs, hq⟩ := hX
  intro H locs ls hP hD hS hl
  exact lv_icmp_ge hx hb hd ht (fun h => kt h H locs ls hP hD hS hl) (fun h => kf h H locs ls hP hD hS hl)
theorem g_if_gt {X : CT} {w : WG} {M : MD} {Q : QT} {I : SI} {L : SL} {pc : Nat} {f : LV} {x : Int32} {off : Int} {tgt : Nat} {st : List Value} (hX : Cx X w M Q) (hd : decode M.2.1 pc = .ok (.ifCond .gt off, 3)) (ht : (pc : Int) + off = (tgt : Int)) (kt : 0 < x → G X w M I L tgt f st) (kf : ¬ 0 < x → G X w M I L (pc + 3) f st) : G X w M I L pc f (.int x :: st) := by
  obtain ⟨p, l, e, R, s, m, args, below, meth, c, A, cells, slots, Qf⟩ := X
  obtain ⟨hx, hb, hml, hr, hlk, ho, hts, hK, hSW, hA, hR, hc, hs, hq⟩ := hX
  intro H locs ls hP hD hS hl
  exact lv_if_gt hx hb hd ht (fun h => kt h H locs ls hP hD hS hl) (fun h => kf h H locs ls hP hD hS hl)
theorem g_icmp_gt {X : CT} {w : WG} {M : MD} {Q : QT} {I : SI} {L : SL} {pc : Nat} {f : LV} {x y : Int32} {off : Int} {tgt : Nat} {st : List Value} (hX : Cx X w M Q) (hd : decode M.2.1 pc = .ok (.if_icmp .gt off, 3)) (ht : (pc : Int) + off = (tgt : Int)) (kt : y < x → G X w M I L tgt f st) (kf : ¬ y < x → G X w M I L (pc + 3) f st) : G X w M I L pc f (.int y :: .int x :: st) := by
  obtain ⟨p, l, e, R, s, m, args, below, meth, c, A, cells, slots, Qf⟩ := X
  obtain ⟨hx, hb, hml, hr, hlk, ho, hts, hK, hSW, hA, hR, hc, hs, hq⟩ := hX
  intro H locs ls hP hD hS hl
  exact lv_icmp_gt hx hb hd ht (fun h => kt h H locs ls hP hD hS hl) (fun h => kf h H locs ls hP hD hS hl)
theorem g_if_le {X : CT} {w : WG} {M : MD} {Q : QT} {I : SI} {L : SL} {pc : Nat} {f : LV} {x : Int32} {off : Int} {tgt : Nat} {st : List Value} (hX : Cx X w M Q) (hd : decode M.2.1 pc = .ok (.ifCond .le off, 3)) (ht : (pc : Int) + off = (tgt : Int)) (kt : x ≤ 0 → G X w M I L tgt f st) (kf : ¬ x ≤ 0 → G X w M I L (pc + 3) f st) : G X w M I L pc f (.int x :: st) := by
  obtain ⟨p, l, e, R, s, m, args, below, meth, c, A, cells, slots, Qf⟩ := X
  obtain ⟨hx, hb, hml, hr, hlk, ho, hts, hK, hSW, hA, hR, hc, hs, hq⟩ := hX
  intro H locs ls hP hD hS hl
  exact lv_if_le hx hb hd ht (fun h => kt h H locs ls hP hD hS hl) (fun h => kf h H locs ls hP hD hS hl)
theorem g_icmp_le {X : CT} {w : WG} {M : MD} {Q : QT} {I : SI} {L : SL} {pc : Nat} {f : LV} {x y : Int32} {off : Int} {tgt : Nat} {st : List Value} (hX : Cx X w M Q) (hd : decode M.2.1 pc = .ok (.if_icmp .le off, 3)) (ht : (pc : Int) + off = (tgt : Int)) (kt : x ≤ y → G X w M I L tgt f st) (kf : ¬ x ≤ y → G X w M I L (pc + 3) f st) : G X w M I L pc f (.int y :: .int x :: st) := by
  obtain ⟨p, l, e, R, s, m, args, below, meth, c, A, cells, slots, Qf⟩ := X
  obtain ⟨hx, hb, hml, hr, hlk, ho, hts, hK, hSW, hA, hR, hc, hs, hq⟩ := hX
  intro H locs ls hP hD hS hl
  exact lv_icmp_le hx hb hd ht (fun h => kt h H locs ls hP hD hS hl) (fun h => kf h H locs ls hP hD hS hl)
theorem g_goto {X : CT} {w : WG} {M : MD} {Q : QT} {I : SI} {L : SL} {pc : Nat} {f : LV} {off : Int} {tgt : Nat} {st : List Value} (hX : Cx X w M Q) (hd : decode M.2.1 pc = .ok (.goto off, 3)) (ht : (pc : Int) + off = (tgt : Int)) (kk : G X w M I L tgt f st) : G X w M I L pc f st := by
  obtain ⟨p, l, e, R, s, m, args, below, meth, c, A, cells, slots, Qf⟩ := X
  obtain ⟨hx, hb, hml, hr, hlk, ho, hts, hK, hSW, hA, hR, hc, hs, hq⟩ := hX
  intro H locs ls hP hD hS hl
  exact lv_goto hx hb hd ht (kk H locs ls hP hD hS hl)
theorem g_tabOut {X : CT} {w : WG} {M : MD} {Q : QT} {I : SI} {L : SL} {pc : Nat} {f : LV} {dflt lo hi : Int} {offs : Array Int} {len : Nat} {x : Int32} {tgt : Nat} {st : List Value} (hX : Cx X w M Q) (hd : decode M.2.1 pc = .ok (.tableswitch dflt lo hi offs, len)) (h : x.toInt < lo ∨ hi < x.toInt) (ht : (pc : Int) + dflt = (tgt : Int)) (kk : G X w M I L tgt f st) : G X w M I L pc f (.int x :: st) := by
  obtain ⟨p, l, e, R, s, m, args, below, meth, c, A, cells, slots, Qf⟩ := X
  obtain ⟨hx, hb, hml, hr, hlk, ho, hts, hK, hSW, hA, hR, hc, hs, hq⟩ := hX
  intro H locs ls hP hD hS hl
  exact lv_tableOut hx hb hd h ht (kk H locs ls hP hD hS hl)
theorem g_tabIn {X : CT} {w : WG} {M : MD} {Q : QT} {I : SI} {L : SL} {pc : Nat} {f : LV} {dflt lo hi : Int} {offs : Array Int} {len : Nat} {x : Int32} {off : Int} {tgt : Nat} {st : List Value} (hX : Cx X w M Q) (hd : decode M.2.1 pc = .ok (.tableswitch dflt lo hi offs, len)) (h1 : ¬ x.toInt < lo) (h2 : ¬ hi < x.toInt) (ho2 : offs[(x.toInt - lo).toNat]? = some off) (ht : (pc : Int) + off = (tgt : Int)) (kk : G X w M I L tgt f st) : G X w M I L pc f (.int x :: st) := by
  obtain ⟨p, l, e, R, s, m, args, below, meth, c, A, cells, slots, Qf⟩ := X
  obtain ⟨hx, hb, hml, hr, hlk, ho, hts, hK, hSW, hA, hR, hc, hs, hq⟩ := hX
  intro H locs ls hP hD hS hl
  exact lv_tableIn hx hb hd h1 h2 ho2 ht (kk H locs ls hP hD hS hl)
theorem g_lookup {X : CT} {w : WG} {M : MD} {Q : QT} {I : SI} {L : SL} {pc : Nat} {f : LV} {dflt : Int} {ps : Array (Int × Int)} {len : Nat} {x : Int32} {off : Int} {tgt : Nat} {st : List Value} (hX : Cx X w M Q) (hd : decode M.2.1 pc = .ok (.lookupswitch dflt ps, len)) (hp : (ps.toList.zip (ps.toList.drop 1)).all (fun (a, next) => a.1 < next.1) = true) (ho2 : Op.lookupswitch.offset ps.toList dflt x.toInt = off) (ht : (pc : Int) + off = (tgt : Int)) (kk : G X w M I L tgt f st) : G X w M I L pc f (.int x :: st) := by
  obtain ⟨p, l, e, R, s, m, args, below, meth, c, A, cells, slots, Qf⟩ := X
  obtain ⟨hx, hb, hml, hr, hlk, ho, hts, hK, hSW, hA, hR, hc, hs, hq⟩ := hX
  intro H locs ls hP hD hS hl
  exact lv_lookup hx hb hd hp ho2 ht (kk H locs ls hP hD hS hl)
theorem cE_obj (w : WG) {c n : Nat} (h : c < 5) (i : Nat → Int32) (j : Nat → Int64) (r : Nat → Option Nat) : cE w (c, n) i j r = .inr (c, (ft c).mapIdx (fun k t => fv t (i k) (j k) (r k))) := by
  simp [cE, h]
theorem cE_byte (w : WG) (n : Nat) (i : Nat → Int32) (j : Nat → Int64) (r : Nat → Option Nat) : cE w (5, n) i j r = .inl (w.2.1.1, n, .inl i) := rfl
theorem cE_int (w : WG) (n : Nat) (i : Nat → Int32) (j : Nat → Int64) (r : Nat → Option Nat) : cE w (6, n) i j r = .inl (w.2.1.2.1, n, .inl i) := rfl
theorem cE_ref (w : WG) (n : Nat) (i : Nat → Int32) (j : Nat → Int64) (r : Nat → Option Nat) : cE w (7, n) i j r = .inl (w.2.1.2.2, n, .inr (.inr (.inr (.inr r)))) := rfl
theorem ob_get {w : WG} {I : SI} {L : SL} {o c n : Nat} (hc : c < 5) (h : (gK w)[o]? = some (c, n)) : (wsO w I L)[o]? = some (gA w o, .inr (c, (ft c).mapIdx (fun k t => fv t (I o k) (L o k) (gP w o k)))) := by
  rw [wsO_get h, cE_obj w hc]
theorem ob_setI {w : WG} {I : SI} {L : SL} {o c n k : Nat} (hc : c < 5) (h : (gK w)[o]? = some (c, n)) (hf : (ft c)[k]? = some 0) (x : Int32) : (wsO w I L).set o (gA w o, .inr (c, ((ft c).mapIdx (fun k t => fv t (I o k) (L o k) (gP w o k))).set k (.int x))) = wsO w (rS I o (upd (I o) k x)) L := by
  rw [fs_setI _ _ _ x hf, ← cE_obj w (n := n) hc]
  exact wsO_setI h
theorem ob_setL {w : WG} {I : SI} {L : SL} {o c n k : Nat} (hc : c < 5) (h : (gK w)[o]? = some (c, n)) (hf : (ft c)[k]? = some 1) (x : Int64) : (wsO w I L).set o (gA w o, .inr (c, ((ft c).mapIdx (fun k t => fv t (I o k) (L o k) (gP w o k))).set k (.long x))) = wsO w I (rS L o (vp_updL (L o) k x)) := by
  rw [fs_setL _ _ _ x hf, ← cE_obj w (n := n) hc]
  exact wsO_setL h
/-- what a program decides of a field -/
def pf1 (k t : Nat) (ty : FieldType) : Prop := (ft 0)[k]? = some t ∧ k < 6 ∧ (TX1 k).2.2.2 = false ∧ parseFieldDescriptor (TX1 k).2.2.1 = some ty
theorem g_get1I {X : CT} {w : WG} {M : MD} {Q : QT} {I : SI} {L : SL} {pc : Nat} {f : LV} {o n idx : Nat} {st : List Value} (hX : Cx X w M Q) (k : Nat) (hd : decode M.2.1 pc = .ok (.getfield idx, 3)) (hw : Cond.fieldLink M.1.cls idx (TX1 k).1 (TX1 k).2.1 (TX1 k).2.2.1 ∈ BG) (hk : (gK w)[o]? = some (0, n)) (hf : (ft 0)[k]? = some 0 ∧ k < 6) (kk : G X w M I L (pc + 3) f (.int (I o k) :: st)) : G X w M I L pc f (.ref (gA w o) :: st) := by
  obtain ⟨p, l, e, R, s, m, args, below, meth, c, A, cells, slots, Qf⟩ := X
  obtain ⟨hx, hb, hml, hr, hlk, ho, hts, hK, hSW, hA, hR, hc, hs, hq⟩ := hX
  intro H locs ls hP hD hS hl
  exact va_get (D := w.1) (cl := vwCl) (ci := 0) (C := RX1) (T := TX1) (N := 6) hx hb hts inB1 ho hK hP o (ob_get (by decide) hk) rfl k hf.2 (hts _ hw) (fun _ h => h) (fs_get _ _ _ hf.1) hd (kk H locs ls hP hD hS hl)
theorem g_get1R {X : CT} {w : WG} {M : MD} {Q : QT} {I : SI} {L : SL} {pc : Nat} {f : LV} {o n idx a : Nat} {st : List Value} (hX : Cx X w M Q) (k : Nat) (hd : decode M.2.1 pc = .ok (.getfield idx, 3)) (hw : Cond.fieldLink M.1.cls idx (TX1 k).1 (TX1 k).2.1 (TX1 k).2.2.1 ∈ BG) (hk : (gK w)[o]? = some (0, n)) (hf : (ft 0)[k]? = some 2 ∧ k < 6) (hp : gP w o k = some a) (kk : G X w M I L (pc + 3) f (.ref a :: st)) : G X w M I L pc f (.ref (gA w o) :: st) := by
  obtain ⟨p, l, e, R, s, m, args, below, meth, c, A, cells, slots, Qf⟩ := X
  obtain ⟨hx, hb, hml, hr, hlk, ho, hts, hK, hSW, hA, hR, hc, hs, hq⟩ := hX
  intro H locs ls hP hD hS hl
  refine va_get (D := w.1) (cl := vwCl) (ci := 0) (C := RX1) (T := TX1) (N := 6) (v := .ref a) hx hb hts inB1 ho hK hP o (ob_get (by decide) hk) rfl k hf.2 (hts _ hw) (fun _ h => h) ?_ hd (kk H locs ls hP hD hS hl)
  rw [fs_get _ _ _ hf.1, hp]
  rfl
theorem g_put1I {X : CT} {w : WG} {M : MD} {Q : QT} {I : SI} {L : SL} {pc : Nat} {f : LV} {o n idx : Nat} {x : Int32} {st : List Value} (hX : Cx X w M Q) (k : Nat) (hd : decode M.2.1 pc = .ok (.putfield idx, 3)) (hw : Cond.fieldLink M.1.cls idx (TX1 k).1 (TX1 k).2.1 (TX1 k).2.2.1 ∈ BG) (hk : (gK w)[o]? = some (0, n)) (hf : pf1 k 0 .int) (kk : G X w M (rS I o (upd (I o) k x)) L (pc + 3) f st) : G X w M I L pc f (.int x :: .ref (gA w o) :: st) := by
  obtain ⟨p, l, e, R, s, m, args, below, meth, c, A, cells, slots, Qf⟩ := X
  obtain ⟨hx, hb, hml, hr, hlk, ho, hts, hK, hSW, hA, hR, hc, hs, hq⟩ := hX
  intro H locs ls hP hD hS hl
  obtain ⟨hf0, hN, hfin, hpd⟩ := hf
  refine va_put (D := w.1) (cl := vwCl) (ci := 0) (C := RX1) (T := TX1) (N := 6) hx hb hts inB1 tyX1 tyX1_ok nmX1 ho hK hP hD hS o (ob_get (by decide) hk) rfl k hN (hts _ hw) (fun _ h => h) hfin hpd rfl rfl ?_ hd (fun H1 locs1 hP1 hD1 hS1 => kk H1 locs1 ls ?_ ?_ hS1 hl)
  · simpa using (List.getElem?_eq_some_iff.mp hf0).1
  · rw [← ob_setI (by decide) hk hf0 x]
    exact hP1
  · rw [← ob_setI (by decide) hk hf0 x]
    exact hD1
/-- what a program decides of a field -/
def pf2 (k t : Nat) (ty : FieldType) : Prop := (ft 1)[k]? = some t ∧ k < 2 ∧ (TX2 k).2.2.2 = false ∧ parseFieldDescriptor (TX2 k).2.2.1 = some ty
theorem g_get2I {X : CT} {w : WG} {M : MD} {Q : QT} {I : SI} {L : SL} {pc : Nat} {f : LV} {o n idx : Nat} {st : List Value} (hX : Cx X w M Q) (k : Nat) (hd : decode M.2.1 pc = .ok (.getfield idx, 3)) (hw : Cond.fieldLink M.1.cls idx (TX2 k).1 (TX2 k).2.1 (TX2 k).2.2.1 ∈ BG) (hk : (gK w)[o]? = some (1, n)) (hf : (ft 1)[k]? = some 0 ∧ k < 2) (kk : G X w M I L (pc + 3) f (.int (I o k) :: st)) : G X w M I L pc f (.ref (gA w o) :: st) := by
  obtain ⟨p, l, e, R, s, m, args, below, meth, c, A, cells, slots, Qf⟩ := X
  obtain ⟨hx, hb, hml, hr, hlk, ho, hts, hK, hSW, hA, hR, hc, hs, hq⟩ := hX
  intro H locs ls hP hD hS hl
  exact va_get (D := w.1) (cl := vwCl) (ci := 1) (C := RX2) (T := TX2) (N := 2) hx hb hts inB2 ho hK hP o (ob_get (by decide) hk) rfl k hf.2 (hts _ hw) (fun _ h => h) (fs_get _ _ _ hf.1) hd (kk H locs ls hP hD hS hl)
theorem g_get2R {X : CT} {w : WG} {M : MD} {Q : QT} {I : SI} {L : SL} {pc : Nat} {f : LV} {o n idx a : Nat} {st : List Value} (hX : Cx X w M Q) (k : Nat) (hd : decode M.2.1 pc = .ok (.getfield idx, 3)) (hw : Cond.fieldLink M.1.cls idx (TX2 k).1 (TX2 k).2.1 (TX2 k).2.2.1 ∈ BG) (hk : (gK w)[o]? = some (1, n)) (hf : (ft 1)[k]? = some 2 ∧ k < 2) (hp : gP w o k = some a) (kk : G X w M I L (pc + 3) f (.ref a :: st)) : G X w M I L pc f (.ref (gA w o) :: st) := by
  obtain ⟨p, l, e, R, s, m, args, below, meth, c, A, cells, slots, Qf⟩ := X
  obtain ⟨hx, hb, hml, hr, hlk, ho, hts, hK, hSW, hA, hR, hc, hs, hq⟩ := hX
  intro H locs ls hP hD hS hl
  refine va_get (D := w.1) (cl := vwCl) (ci := 1) (C := RX2) (T := TX2) (N := 2) (v := .ref a) hx hb hts inB2 ho hK hP o (ob_get (by decide) hk) rfl k hf.2 (hts _ hw) (fun _ h => h) ?_ hd (kk H locs ls hP hD hS hl)
  rw [fs_get _ _ _ hf.1, hp]
  rfl
theorem g_put2I {X : CT} {w : WG} {M : MD} {Q : QT} {I : SI} {L : SL} {pc : Nat} {f : LV} {o n idx : Nat} {x : Int32} {st : List Value} (hX : Cx X w M Q) (k : Nat) (hd : decode M.2.1 pc = .ok (.putfield idx, 3)) (hw : Cond.fieldLink M.1.cls idx (TX2 k).1 (TX2 k).2.1 (TX2 k).2.2.1 ∈ BG) (hk : (gK w)[o]? = some (1, n)) (hf : pf2 k 0 .int) (kk : G X w M (rS I o (upd (I o) k x)) L (pc + 3) f st) : G X w M I L pc f (.int x :: .ref (gA w o) :: st) := by
  obtain ⟨p, l, e, R, s, m, args, below, meth, c, A, cells, slots, Qf⟩ := X
  obtain ⟨hx, hb, hml, hr, hlk, ho, hts, hK, hSW, hA, hR, hc, hs, hq⟩ := hX
  intro H locs ls hP hD hS hl
  obtain ⟨hf0, hN, hfin, hpd⟩ := hf
  refine va_put (D := w.1) (cl := vwCl) (ci := 1) (C := RX2) (T := TX2) (N := 2) hx hb hts inB2 tyX2 tyX2_ok nmX2 ho hK hP hD hS o (ob_get (by decide) hk) rfl k hN (hts _ hw) (fun _ h => h) hfin hpd rfl rfl ?_ hd (fun H1 locs1 hP1 hD1 hS1 => kk H1 locs1 ls ?_ ?_ hS1 hl)
  · simpa using (List.getElem?_eq_some_iff.mp hf0).1
  · rw [← ob_setI (by decide) hk hf0 x]
    exact hP1
  · rw [← ob_setI (by decide) hk hf0 x]
    exact hD1
/-- what a program decides of a field -/
def pf3 (k t : Nat) (ty : FieldType) : Prop := (ft 2)[k]? = some t ∧ k < 15 ∧ (TX3 k).2.2.2 = false ∧ parseFieldDescriptor (TX3 k).2.2.1 = some ty
theorem g_get3I {X : CT} {w : WG} {M : MD} {Q : QT} {I : SI} {L : SL} {pc : Nat} {f : LV} {o n idx : Nat} {st : List Value} (hX : Cx X w M Q) (k : Nat) (hd : decode M.2.1 pc = .ok (.getfield idx, 3)) (hw : Cond.fieldLink M.1.cls idx (TX3 k).1 (TX3 k).2.1 (TX3 k).2.2.1 ∈ BG) (hk : (gK w)[o]? = some (2, n)) (hf : (ft 2)[k]? = some 0 ∧ k < 15) (kk : G X w M I L (pc + 3) f (.int (I o k) :: st)) : G X w M I L pc f (.ref (gA w o) :: st) := by
  obtain ⟨p, l, e, R, s, m, args, below, meth, c, A, cells, slots, Qf⟩ := X
  obtain ⟨hx, hb, hml, hr, hlk, ho, hts, hK, hSW, hA, hR, hc, hs, hq⟩ := hX
  intro H locs ls hP hD hS hl
  exact va_get (D := w.1) (cl := vwCl) (ci := 2) (C := RX3) (T := TX3) (N := 15) hx hb hts inB3 ho hK hP o (ob_get (by decide) hk) rfl k hf.2 (hts _ hw) (fun _ h => h) (fs_get _ _ _ hf.1) hd (kk H locs ls hP hD hS hl)
theorem g_get3R {X : CT} {w : WG} {M : MD} {Q : QT} {I : SI} {L : SL} {pc : Nat} {f : LV} {o n idx a : Nat} {st : List Value} (hX : Cx X w M Q) (k : Nat) (hd : decode M.2.1 pc = .ok (.getfield idx, 3)) (hw : Cond.fieldLink M.1.cls idx (TX3 k).1 (TX3 k).2.1 (TX3 k).2.2.1 ∈ BG) (hk : (gK w)[o]? = some (2, n)) (hf : (ft 2)[k]? = some 2 ∧ k < 15) (hp : gP w o k = some a) (kk : G X w M I L (pc + 3) f (.ref a :: st)) : G X w M I L pc f (.ref (gA w o) :: st) := by
  obtain ⟨p, l, e, R, s, m, args, below, meth, c, A, cells, slots, Qf⟩ := X
  obtain ⟨hx, hb, hml, hr, hlk, ho, hts, hK, hSW, hA, hR, hc, hs, hq⟩ := hX
  intro H locs ls hP hD hS hl
  refine va_get (D := w.1) (cl := vwCl) (ci := 2) (C := RX3) (T := TX3) (N := 15) (v := .ref a) hx hb hts inB3 ho hK hP o (ob_get (by decide) hk) rfl k hf.2 (hts _ hw) (fun _ h => h) ?_ hd (kk H locs ls hP hD hS hl)
  rw [fs_get _ _ _ hf.1, hp]
  rfl
theorem g_put3I {X : CT} {w : WG} {M : MD} {Q : QT} {I : SI} {L : SL} {pc : Nat} {f : LV} {o n idx : Nat} {x : Int32} {st : List Value} (hX : Cx X w M Q) (k : Nat) (hd : decode M.2.1 pc = .ok (.putfield idx, 3)) (hw : Cond.fieldLink M.1.cls idx (TX3 k).1 (TX3 k).2.1 (TX3 k).2.2.1 ∈ BG) (hk : (gK w)[o]? = some (2, n)) (hf : pf3 k 0 .int) (kk : G X w M (rS I o (upd (I o) k x)) L (pc + 3) f st) : G X w M I L pc f (.int x :: .ref (gA w o) :: st) := by
  obtain ⟨p, l, e, R, s, m, args, below, meth, c, A, cells, slots, Qf⟩ := X
  obtain ⟨hx, hb, hml, hr, hlk, ho, hts, hK, hSW, hA, hR, hc, hs, hq⟩ := hX
  intro H locs ls hP hD hS hl
  obtain ⟨hf0, hN, hfin, hpd⟩ := hf
  refine va_put (D := w.1) (cl := vwCl) (ci := 2) (C := RX3) (T := TX3) (N := 15) hx hb hts inB3 tyX3 tyX3_ok nmX3 ho hK hP hD hS o (ob_get (by decide) hk) rfl k hN (hts _ hw) (fun _ h => h) hfin hpd rfl rfl ?_ hd (fun H1 locs1 hP1 hD1 hS1 => kk H1 locs1 ls ?_ ?_ hS1 hl)
  · simpa using (List.getElem?_eq_some_iff.mp hf0).1
  · rw [← ob_setI (by decide) hk hf0 x]
    exact hP1
  · rw [← ob_setI (by decide) hk hf0 x]
    exact hD1
/-- what a program decides of a field -/
def pf4 (k t : Nat) (ty : FieldType) : Prop := (ft 3)[k]? = some t ∧ k < 12 ∧ (TX4 k).2.2.2 = false ∧ parseFieldDescriptor (TX4 k).2.2.1 = some ty
theorem g_get4I {X : CT} {w : WG} {M : MD} {Q : QT} {I : SI} {L : SL} {pc : Nat} {f : LV} {o n idx : Nat} {st : List Value} (hX : Cx X w M Q) (k : Nat) (hd : decode M.2.1 pc = .ok (.getfield idx, 3)) (hw : Cond.fieldLink M.1.cls idx (TX4 k).1 (TX4 k).2.1 (TX4 k).2.2.1 ∈ BG) (hk : (gK w)[o]? = some (3, n)) (hf : (ft 3)[k]? = some 0 ∧ k < 12) (kk : G X w M I L (pc + 3) f (.int (I o k) :: st)) : G X w M I L pc f (.ref (gA w o) :: st) := by
  obtain ⟨p, l, e, R, s, m, args, below, meth, c, A, cells, slots, Qf⟩ := X
  obtain ⟨hx, hb, hml, hr, hlk, ho, hts, hK, hSW, hA, hR, hc, hs, hq⟩ := hX
  intro H locs ls hP hD hS hl
  exact va_get (D := w.1) (cl := vwCl) (ci := 3) (C := RX4) (T := TX4) (N := 12) hx hb hts inB4 ho hK hP o (ob_get (by decide) hk) rfl k hf.2 (hts _ hw) (fun _ h => h) (fs_get _ _ _ hf.1) hd (kk H locs ls hP hD hS hl)
theorem g_get4R {X : CT} {w : WG} {M : MD} {Q : QT} {I : SI} {L : SL} {pc : Nat} {f : LV} {o n idx a : Nat} {st : List Value} (hX : Cx X w M Q) (k : Nat) (hd : decode M.2.1 pc = .ok (.getfield idx, 3)) (hw : Cond.fieldLink M.1.cls idx (TX4 k).1 (TX4 k).2.1 (TX4 k).2.2.1 ∈ BG) (hk : (gK w)[o]? = some (3, n)) (hf : (ft 3)[k]? = some 2 ∧ k < 12) (hp : gP w o k = some a) (kk : G X w M I L (pc + 3) f (.ref a :: st)) : G X w M I L pc f (.ref (gA w o) :: st) := by
  obtain ⟨p, l, e, R, s, m, args, below, meth, c, A, cells, slots, Qf⟩ := X
  obtain ⟨hx, hb, hml, hr, hlk, ho, hts, hK, hSW, hA, hR, hc, hs, hq⟩ := hX
  intro H locs ls hP hD hS hl
  refine va_get (D := w.1) (cl := vwCl) (ci := 3) (C := RX4) (T := TX4) (N := 12) (v := .ref a) hx hb hts inB4 ho hK hP o (ob_get (by decide) hk) rfl k hf.2 (hts _ hw) (fun _ h => h) ?_ hd (kk H locs ls hP hD hS hl)
  rw [fs_get _ _ _ hf.1, hp]
  rfl
theorem g_put4I {X : CT} {w : WG} {M : MD} {Q : QT} {I : SI} {L : SL} {pc : Nat} {f : LV} {o n idx : Nat} {x : Int32} {st : List Value} (hX : Cx X w M Q) (k : Nat) (hd : decode M.2.1 pc = .ok (.putfield idx, 3)) (hw : Cond.fieldLink M.1.cls idx (TX4 k).1 (TX4 k).2.1 (TX4 k).2.2.1 ∈ BG) (hk : (gK w)[o]? = some (3, n)) (hf : pf4 k 0 .int) (kk : G X w M (rS I o (upd (I o) k x)) L (pc + 3) f st) : G X w M I L pc f (.int x :: .ref (gA w o) :: st) := by
  obtain ⟨p, l, e, R, s, m, args, below, meth, c, A, cells, slots, Qf⟩ := X
  obtain ⟨hx, hb, hml, hr, hlk, ho, hts, hK, hSW, hA, hR, hc, hs, hq⟩ := hX
  intro H locs ls hP hD hS hl
  obtain ⟨hf0, hN, hfin, hpd⟩ := hf
  refine va_put (D := w.1) (cl := vwCl) (ci := 3) (C := RX4) (T := TX4) (N := 12) hx hb hts inB4 tyX4 tyX4_ok nmX4 ho hK hP hD hS o (ob_get (by decide) hk) rfl k hN (hts _ hw) (fun _ h => h) hfin hpd rfl rfl ?_ hd (fun H1 locs1 hP1 hD1 hS1 => kk H1 locs1 ls ?_ ?_ hS1 hl)
  · simpa using (List.getElem?_eq_some_iff.mp hf0).1
  · rw [← ob_setI (by decide) hk hf0 x]
    exact hP1
  · rw [← ob_setI (by decide) hk hf0 x]
    exact hD1
/-- what a program decides of a field -/
def pf5 (k t : Nat) (ty : FieldType) : Prop := (ft 4)[k]? = some t ∧ k < 34 ∧ (TX5 k).2.2.2 = false ∧ parseFieldDescriptor (TX5 k).2.2.1 = some ty
theorem g_get5I {X : CT} {w : WG} {M : MD} {Q : QT} {I : SI} {L : SL} {pc : Nat} {f : LV} {o n idx : Nat} {st : List Value} (hX : Cx X w M Q) (k : Nat) (hd : decode M.2.1 pc = .ok (.getfield idx, 3)) (hw : Cond.fieldLink M.1.cls idx (TX5 k).1 (TX5 k).2.1 (TX5 k).2.2.1 ∈ BG) (hk : (gK w)[o]? = some (4, n)) (hf : (ft 4)[k]? = some 0 ∧ k < 34) (kk : G X w M I L (pc + 3) f (.int (I o k) :: st)) : G X w M I L pc f (.ref (gA w o) :: st) := by
  obtain ⟨p, l, e, R, s, m, args, below, meth, c, A, cells, slots, Qf⟩ := X
  obtain ⟨hx, hb, hml, hr, hlk, ho, hts, hK, hSW, hA, hR, hc, hs, hq⟩ := hX
  intro H locs ls hP hD hS hl
  exact va_get (D := w.1) (cl := vwCl) (ci := 4) (C := RX5) (T := TX5) (N := 34) hx hb hts inB5 ho hK hP o (ob_get (by decide) hk) rfl k hf.2 (hts _ hw) (fun _ h => h) (fs_get _ _ _ hf.1) hd (kk H locs ls hP hD hS hl)
theorem g_get5L {X : CT} {w : WG} {M : MD} {Q : QT} {I : SI} {L : SL} {pc : Nat} {f : LV} {o n idx : Nat} {st : List Value} (hX : Cx X w M Q) (k : Nat) (hd : decode M.2.1 pc = .ok (.getfield idx, 3)) (hw : Cond.fieldLink M.1.cls idx (TX5 k).1 (TX5 k).2.1 (TX5 k).2.2.1 ∈ BG) (hk : (gK w)[o]? = some (4, n)) (hf : (ft 4)[k]? = some 1 ∧ k < 34) (kk : G X w M I L (pc + 3) f (.long (L o k) :: st)) : G X w M I L pc f (.ref (gA w o) :: st) := by
  obtain ⟨p, l, e, R, s, m, args, below, meth, c, A, cells, slots, Qf⟩ := X
  obtain ⟨hx, hb, hml, hr, hlk, ho, hts, hK, hSW, hA, hR, hc, hs, hq⟩ := hX
  intro H locs ls hP hD hS hl
  exact va_get (D := w.1) (cl := vwCl) (ci := 4) (C := RX5) (T := TX5) (N := 34) hx hb hts inB5 ho hK hP o (ob_get (by decide) hk) rfl k hf.2 (hts _ hw) (fun _ h => h) (fs_get _ _ _ hf.1) hd (kk H locs ls hP hD hS hl)
theorem g_get5R {X : CT} {w : WG} {M : MD} {Q : QT} {I : SI} {L : SL} {pc : Nat} {f : LV} {o n idx a : Nat} {st : List Value} (hX : Cx X w M Q) (k : Nat) (hd : decode M.2.1 pc = .ok (.getfield idx, 3)) (hw : Cond.fieldLink M.1.cls idx (TX5 k).1 (TX5 k).2.1 (TX5 k).2.2.1 ∈ BG) (hk : (gK w)[o]? = some (4, n)) (hf : (ft 4)[k]? = some 2 ∧ k < 34) (hp : gP w o k = some a) (kk : G X w M I L (pc + 3) f (.ref a :: st)) : G X w M I L pc f (.ref (gA w o) :: st) := by
  obtain ⟨p, l, e, R, s, m, args, below, meth, c, A, cells, slots, Qf⟩ := X
  obtain ⟨hx, hb, hml, hr, hlk, ho, hts, hK, hSW, hA, hR, hc, hs, hq⟩ := hX
  intro H locs ls hP hD hS hl
  refine va_get (D := w.1) (cl := vwCl) (ci := 4) (C := RX5) (T := TX5) (N := 34) (v := .ref a) hx hb hts inB5 ho hK hP o (ob_get (by decide) hk) rfl k hf.2 (hts _ hw) (fun _ h => h) ?_ hd (kk H locs ls hP hD hS hl)
  rw [fs_get _ _ _ hf.1, hp]
  rfl
theorem g_put5I {X : CT} {w : WG} {M : MD} {Q : QT} {I : SI} {L : SL} {pc : Nat} {f : LV} {o n idx : Nat} {x : Int32} {st : List Value} (hX : Cx X w M Q) (k : Nat) (hd : decode M.2.1 pc = .ok (.putfield idx, 3)) (hw : Cond.fieldLink M.1.cls idx (TX5 k).1 (TX5 k).2.1 (TX5 k).2.2.1 ∈ BG) (hk : (gK w)[o]? = some (4, n)) (hf : pf5 k 0 .int) (kk : G X w M (rS I o (upd (I o) k x)) L (pc + 3) f st) : G X w M I L pc f (.int x :: .ref (gA w o) :: st) := by
  obtain ⟨p, l, e, R, s, m, args, below, meth, c, A, cells, slots, Qf⟩ := X
  obtain ⟨hx, hb, hml, hr, hlk, ho, hts, hK, hSW, hA, hR, hc, hs, hq⟩ := hX
  intro H locs ls hP hD hS hl
  obtain ⟨hf0, hN, hfin, hpd⟩ := hf
  refine va_put (D := w.1) (cl := vwCl) (ci := 4) (C := RX5) (T := TX5) (N := 34) hx hb hts inB5 tyX5 tyX5_ok nmX5 ho hK hP hD hS o (ob_get (by decide) hk) rfl k hN (hts _ hw) (fun _ h => h) hfin hpd rfl rfl ?_ hd (fun H1 locs1 hP1 hD1 hS1 => kk H1 locs1 ls ?_ ?_ hS1 hl)
  · simpa using (List.getElem?_eq_some_iff.mp hf0).1
  · rw [← ob_setI (by decide) hk hf0 x]
    exact hP1
  · rw [← ob_setI (by decide) hk hf0 x]
    exact hD1
theorem g_put5L {X : CT} {w : WG} {M : MD} {Q : QT} {I : SI} {L : SL} {pc : Nat} {f : LV} {o n idx : Nat} {x : Int64} {st : List Value} (hX : Cx X w M Q) (k : Nat) (hd : decode M.2.1 pc = .ok (.putfield idx, 3)) (hw : Cond.fieldLink M.1.cls idx (TX5 k).1 (TX5 k).2.1 (TX5 k).2.2.1 ∈ BG) (hk : (gK w)[o]? = some (4, n)) (hf : pf5 k 1 .long) (kk : G X w M I (rS L o (vp_updL (L o) k x)) (pc + 3) f st) : G X w M I L pc f (.long x :: .ref (gA w o) :: st) := by
  obtain ⟨p, l, e, R, s, m, args, below, meth, c, A, cells, slots, Qf⟩ := X
  obtain ⟨hx, hb, hml, hr, hlk, ho, hts, hK, hSW, hA, hR, hc, hs, hq⟩ := hX
  intro H locs ls hP hD hS hl
  obtain ⟨hf0, hN, hfin, hpd⟩ := hf
  refine va_put (D := w.1) (cl := vwCl) (ci := 4) (C := RX5) (T := TX5) (N := 34) hx hb hts inB5 tyX5 tyX5_ok nmX5 ho hK hP hD hS o (ob_get (by decide) hk) rfl k hN (hts _ hw) (fun _ h => h) hfin hpd rfl rfl ?_ hd (fun H1 locs1 hP1 hD1 hS1 => kk H1 locs1 ls ?_ ?_ hS1 hl)
  · simpa using (List.getElem?_eq_some_iff.mp hf0).1
  · rw [← ob_setL (by decide) hk hf0 x]
    exact hP1
  · rw [← ob_setL (by decide) hk hf0 x]
    exact hD1
theorem g_iald {X : CT} {w : WG} {M : MD} {Q : QT} {I : SI} {L : SL} {pc : Nat} {f : LV} {o n : Nat} {i : Int32} {st : List Value} (hX : Cx X w M Q) (hd : decode M.2.1 pc = .ok (.iaload, 1)) (hk : (gK w)[o]? = some (6, n)) (hin : vp_in i n) (kk : G X w M I L (pc + 1) f (.int (I o i.toNatClampNeg) :: st)) : G X w M I L pc f (.int i :: .ref (gA w o) :: st) := by
  obtain ⟨p, l, e, R, s, m, args, below, meth, c, A, cells, slots, Qf⟩ := X
  obtain ⟨hx, hb, hml, hr, hlk, ho, hts, hK, hSW, hA, hR, hc, hs, hq⟩ := hX
  intro H locs ls hP hD hS hl
  exact va_iald hx hb hK hP o 1 (wsO_get hk) rfl hin hd (kk H locs ls hP hD hS hl)
theorem g_iast {X : CT} {w : WG} {M : MD} {Q : QT} {I : SI} {L : SL} {pc : Nat} {f : LV} {o n : Nat} {i x : Int32} {st : List Value} (hX : Cx X w M Q) (hd : decode M.2.1 pc = .ok (.iastore, 1)) (hk : (gK w)[o]? = some (6, n)) (hin : vp_in i n) (kk : G X w M (rS I o (upd (I o) i.toNatClampNeg (x))) L (pc + 1) f st) : G X w M I L pc f (.int x :: .int i :: .ref (gA w o) :: st) := by
  obtain ⟨p, l, e, R, s, m, args, below, meth, c, A, cells, slots, Qf⟩ := X
  obtain ⟨hx, hb, hml, hr, hlk, ho, hts, hK, hSW, hA, hR, hc, hs, hq⟩ := hX
  intro H locs ls hP hD hS hl
  refine va_iast hx hb hK hP hD hS o 1 (wsO_get hk) rfl hin hd (fun H1 locs1 hP1 hD1 hS1 => kk H1 locs1 ls ?_ ?_ hS1 hl)
  · rw [← wsO_setI hk]
    exact hP1
  · rw [← wsO_setI hk]
    exact hD1
theorem g_bald {X : CT} {w : WG} {M : MD} {Q : QT} {I : SI} {L : SL} {pc : Nat} {f : LV} {o n : Nat} {i : Int32} {st : List Value} (hX : Cx X w M Q) (hd : decode M.2.1 pc = .ok (.baload, 1)) (hk : (gK w)[o]? = some (5, n)) (hin : vp_in i n) (kk : G X w M I L (pc + 1) f (.int (I o i.toNatClampNeg) :: st)) : G X w M I L pc f (.int i :: .ref (gA w o) :: st) := by
  obtain ⟨p, l, e, R, s, m, args, below, meth, c, A, cells, slots, Qf⟩ := X
  obtain ⟨hx, hb, hml, hr, hlk, ho, hts, hK, hSW, hA, hR, hc, hs, hq⟩ := hX
  intro H locs ls hP hD hS hl
  exact va_bald hx hb hK hP o 0 (wsO_get hk) rfl hin hd (kk H locs ls hP hD hS hl)
theorem g_bast {X : CT} {w : WG} {M : MD} {Q : QT} {I : SI} {L : SL} {pc : Nat} {f : LV} {o n : Nat} {i x : Int32} {st : List Value} (hX : Cx X w M Q) (hd : decode M.2.1 pc = .ok (.bastore, 1)) (hk : (gK w)[o]? = some (5, n)) (hin : vp_in i n) (kk : G X w M (rS I o (upd (I o) i.toNatClampNeg (vp_nar .byte x))) L (pc + 1) f st) : G X w M I L pc f (.int x :: .int i :: .ref (gA w o) :: st) := by
  obtain ⟨p, l, e, R, s, m, args, below, meth, c, A, cells, slots, Qf⟩ := X
  obtain ⟨hx, hb, hml, hr, hlk, ho, hts, hK, hSW, hA, hR, hc, hs, hq⟩ := hX
  intro H locs ls hP hD hS hl
  refine va_bast hx hb hK hP hD hS o 0 (wsO_get hk) rfl hin hd (fun H1 locs1 hP1 hD1 hS1 => kk H1 locs1 ls ?_ ?_ hS1 hl)
  · rw [← wsO_setI hk]
    exact hP1
  · rw [← wsO_setI hk]
    exact hD1
theorem g_aald {X : CT} {w : WG} {M : MD} {Q : QT} {I : SI} {L : SL} {pc : Nat} {f : LV} {o n : Nat} {i : Int32} {r : Option Nat} {st : List Value} (hX : Cx X w M Q) (hd : decode M.2.1 pc = .ok (.aaload, 1)) (hk : (gK w)[o]? = some (7, n)) (hin : vp_in i n) (hp : gP w o i.toNatClampNeg = r) (kk : G X w M I L (pc + 1) f (va_rf r :: st)) : G X w M I L pc f (.int i :: .ref (gA w o) :: st) := by
  obtain ⟨p, l, e, R, s, m, args, below, meth, c, A, cells, slots, Qf⟩ := X
  obtain ⟨hx, hb, hml, hr, hlk, ho, hts, hK, hSW, hA, hR, hc, hs, hq⟩ := hX
  intro H locs ls hP hD hS hl
  subst hp
  exact va_aldq hx hb hK hP o 2 (wsO_get hk) rfl hin hd (kk H locs ls hP hD hS hl)
theorem g_ifnn {X : CT} {w : WG} {M : MD} {Q : QT} {I : SI} {L : SL} {pc : Nat} {f : LV} {a : Nat} {off : Int} {tgt : Nat} {st : List Value} (hX : Cx X w M Q) (hd : decode M.2.1 pc = .ok (.ifnonnull off, 3)) (ht : (pc : Int) + off = (tgt : Int)) (kk : G X w M I L tgt f st) : G X w M I L pc f (.ref a :: st) := by
  obtain ⟨p, l, e, R, s, m, args, below, meth, c, A, cells, slots, Qf⟩ := X
  obtain ⟨hx, hb, hml, hr, hlk, ho, hts, hK, hSW, hA, hR, hc, hs, hq⟩ := hX
  intro H locs ls hP hD hS hl
  exact lv_ifnonnull hx hb hd ht (kk H locs ls hP hD hS hl)
theorem g_ifnnN {X : CT} {w : WG} {M : MD} {Q : QT} {I : SI} {L : SL} {pc : Nat} {f : LV} {off : Int} {st : List Value} (hX : Cx X w M Q) (hd : decode M.2.1 pc = .ok (.ifnonnull off, 3)) (kk : G X w M I L (pc + 3) f st) : G X w M I L pc f (.null :: st) := by
  obtain ⟨p, l, e, R, s, m, args, below, meth, c, A, cells, slots, Qf⟩ := X
  obtain ⟨hx, hb, hml, hr, hlk, ho, hts, hK, hSW, hA, hR, hc, hs, hq⟩ := hX
  intro H locs ls hP hD hS hl
  exact lv_ifnonnullN hx hb hd (kk H locs ls hP hD hS hl)
theorem g_iret {X : CT} {w : WG} {M : MD} {Q : QT} {I : SI} {L : SL} {pc : Nat} {f : LV} {v : Int32} (hX : Cx X w M Q) (hd : decode M.2.1 pc = .ok (.ireturn, 1)) (hr0 : M.2.2.2.1 = some .int) (hQ : Q (some (.int v)) I L) : G X w M I L pc f [.int v] := by
  obtain ⟨p, l, e, R, s, m, args, below, meth, c, A, cells, slots, Qf⟩ := X
  obtain ⟨hx, hb, hml, hr, hlk, ho, hts, hK, hSW, hA, hR, hc, hs, hq⟩ := hX
  intro H locs ls hP hD hS hl
  subst hc; subst hs; subst hq
  exact W.iret (v := v) hx hb (hr.trans hr0) (fun t ht hW => ⟨⟨_, I, L, rfl, hQ, by rw [ht]; exact hP, hD⟩, hS.F ht⟩) hS.2.2 hd hlk
theorem g_zret {X : CT} {w : WG} {M : MD} {Q : QT} {I : SI} {L : SL} {pc : Nat} {f : LV} {v : Int32} {ty : FieldType} (hX : Cx X w M Q) (hd : decode M.2.1 pc = .ok (.ireturn, 1)) (hr0 : M.2.2.2.1 = some ty) (hn : narrow ty (.int v) = .int v) (hQ : Q (some (.int v)) I L) : G X w M I L pc f [.int v] := by
  obtain ⟨p, l, e, R, s, m, args, below, meth, c, A, cells, slots, Qf⟩ := X
  obtain ⟨hx, hb, hml, hr, hlk, ho, hts, hK, hSW, hA, hR, hc, hs, hq⟩ := hX
  intro H locs ls hP hD hS hl
  subst hc; subst hs; subst hq
  exact W.zret (v := v) hx hb (hr.trans hr0) hn (fun t ht hW => ⟨⟨_, I, L, rfl, hQ, by rw [ht]; exact hP, hD⟩, hS.F ht⟩) hS.2.2 hd hlk
theorem g_lret {X : CT} {w : WG} {M : MD} {Q : QT} {I : SI} {L : SL} {pc : Nat} {f : LV} {v : Int64} (hX : Cx X w M Q) (hd : decode M.2.1 pc = .ok (.lreturn, 1)) (hr0 : M.2.2.2.1 = some .long) (hQ : Q (some (.long v)) I L) : G X w M I L pc f [.long v] := by
  obtain ⟨p, l, e, R, s, m, args, below, meth, c, A, cells, slots, Qf⟩ := X
  obtain ⟨hx, hb, hml, hr, hlk, ho, hts, hK, hSW, hA, hR, hc, hs, hq⟩ := hX
  intro H locs ls hP hD hS hl
  subst hc; subst hs; subst hq
  exact W.lret (v := v) hx hb (hr.trans hr0) (fun t ht hW => ⟨⟨_, I, L, rfl, hQ, by rw [ht]; exact hP, hD⟩, hS.F ht⟩) hS.2.2 hd hlk
theorem g_vret {X : CT} {w : WG} {M : MD} {Q : QT} {I : SI} {L : SL} {pc : Nat} {f : LV}  (hX : Cx X w M Q) (hd : decode M.2.1 pc = .ok (.return_, 1)) (hr0 : M.2.2.2.1 = none) (hQ : Q (none) I L) : G X w M I L pc f [] := by
  obtain ⟨p, l, e, R, s, m, args, below, meth, c, A, cells, slots, Qf⟩ := X
  obtain ⟨hx, hb, hml, hr, hlk, ho, hts, hK, hSW, hA, hR, hc, hs, hq⟩ := hX
  intro H locs ls hP hD hS hl
  subst hc; subst hs; subst hq
  exact W.vret hx hb (hr.trans hr0) (fun t ht hW => ⟨⟨_, I, L, rfl, hQ, by rw [ht]; exact hP, hD⟩, hS.F ht⟩) hS.2.2 hd hlk
/-- a call's words, by a program -/
def LkS (own : String) (idx : Nat) (M : MD) (n : Nat) : Prop := (Cond.methodLink own idx M.1 ∈ BG ∧ Cond.static M.1 ∈ BG ∧ Cond.initialized M.1.cls ∈ BG ∧ Cond.code M.1 M.2.1 M.2.2.1 M.2.2.2.1 ∈ BG) ∧ M.1.cls ≠ "java/lang/invoke/MethodHandle" ∧ M.1.cls ≠ "java/lang/invoke/VarHandle" ∧ (parseMethodDescriptor M.1.desc).map (fun d => d.parameters.length) = some n
def LkV (own : String) (idx : Nat) (M : MD) (n : Nat) : Prop := (Cond.methodLink own idx M.1 ∈ BG ∧ Cond.instanceMethod M.1 ∈ BG ∧ Cond.selects M.1.cls M.1 M.1 ∈ BG ∧ Cond.initialized M.1.cls ∈ BG ∧ Cond.code M.1 M.2.1 M.2.2.1 M.2.2.2.1 ∈ BG) ∧ M.1.cls ≠ "java/lang/invoke/MethodHandle" ∧ M.1.cls ≠ "java/lang/invoke/VarHandle" ∧ (parseMethodDescriptor M.1.desc).map (fun d => d.parameters.length) = some n
theorem good_bg {ws : List Cond} (h : ∀ w ∈ ws, w ∈ BG) : GoodIn BG ws := fun w hw => ⟨h w hw, bg_good (h w hw)⟩
theorem LkS.good {own : String} {idx : Nat} {M : MD} {n : Nat} (h : LkS own idx M n) : GoodIn BG (va_wsS own idx M.1 (wsM M)) := by
  refine good_bg (fun w hw => ?_)
  obtain ⟨⟨h1, h2, h3, h4⟩, -⟩ := h
  simp only [va_wsS, wsM, List.cons_append, List.nil_append, List.mem_cons] at hw
  rcases hw with rfl | rfl | rfl | rfl | hw
  · exact h1
  · exact h2
  · exact h3
  · exact h4
  · exact hw
theorem LkV.good {own : String} {idx : Nat} {M : MD} {n : Nat} (h : LkV own idx M n) : GoodIn BG (wsV own idx M.1.cls M.1 (wsM M)) := by
  refine good_bg (fun w hw => ?_)
  obtain ⟨⟨h1, h2, h3, h4, h5⟩, -⟩ := h
  simp only [wsV, wsM, List.cons_append, List.nil_append, List.mem_cons] at hw
  rcases hw with rfl | rfl | rfl | rfl | rfl | hw
  · exact h1
  · exact h2
  · exact h3
  · exact h4
  · exact h5
  · exact hw
theorem pre_blind {w : WG} {av : List Value} {I : SI} {L : SL} {sz : Nat} : FrameBlind (va_Pc av (PreO w I L sz)) := by
  intro a U g mk q
  obtain ⟨q0, q1, qP, qK, qD, qS⟩ := q
  exact ⟨q0, q1, qP, va_K.moved (u := U) (U := U.calling g mk a) (Vm.Alike.refl U.vm) qK, qD, SW.same (u := U) rfl qS⟩
theorem pre_at {w : WG} {I : SI} {L : SL} {s : State} {A : Nat → Prop} {H : Heap} {locs : List Loc} (hP : va_P w.1 vwCl (wsO w I L) H) (hD : va_D A (wsO w I L)) (hS : va_S A s.heap H locs) (hK : va_K w.1 vwCl (gT w) s) (hSW : SW w A s s.heap) (hA : ∀ q : Nat, s.heap.size ≤ q → A q) : ∀ U : State, U.heap = H → s.WarmedH U.vm → PreO w I L H.size U := by
  intro U hU hW
  have hF : ∀ q, va_A (wsO w I L) H.size q → A q := fun q h => by
    rcases h with ⟨k, e, h⟩ | h
    · exact hD.2 k (q, e) h
    · exact hA q (Nat.le_trans hS.1 h)
  refine ⟨by rw [hU], by rw [hU]; exact hP, va_K.moved hW.alike hK, hD.weaken (fun _ _ _ _ => trivial), ?_⟩
  rw [hU]
  exact ((hSW.kept (fun a h1 h2 => hS.2.1 a h1 h2)).narrow hF).warm hW
/-- behind a call -/
theorem run_on {p : Program} {l : Launch} {e : Env} {R : Room} {s : State} {m : MethodId} {args : Array Value} {below : List Frame} {meth : Method} {c : Code} {A : Nat → Prop} {cells slots : Nat} {Qf : State → Prop} {w : WG} {M : MD} {I : SI} {L : SL} {pc : Nat} {f : LV} {st rest : List Value} {Qy : QT} {aa : Array Value} {H : Heap} {locs : List Loc} {ls : Array Slot}
    (hr : va_Run p l e R s m args below meth c H locs cells slots 0 0 (F0 m pc ls st) rest (QcO w Qy (va_A (wsO w I L) H.size) aa) (va_A (wsO w I L) H.size)) (hD : va_D A (wsO w I L)) (hS : va_S A s.heap H locs) (hA : ∀ q : Nat, s.heap.size ≤ q → A q) (hl : hasL ls M.2.2.1 f)
    (kk : ∀ (r : Option Value) (I' : SI) (L' : SL), Qy r I' L' → G (p, l, e, R, s, m, args, below, meth, c, A, cells, slots, Qf) w M I' L' (pc + 3) f (r.toList ++ rest)) : W p l e R s m args below meth c H locs cells slots Qf (F0 m pc ls st) := by
  have hF : ∀ q, va_A (wsO w I L) H.size q → A q := fun q h => by
    rcases h with ⟨k, e, h⟩ | h
    · exact hD.2 k (q, e) h
    · exact hA q (Nat.le_trans hS.1 h)
  intro T hT X0
  obtain ⟨v, st₀, t, T', Ls, h0, X', hL, e1, e2, ⟨⟨r, I', L', hv, hQ, hP1, hD1⟩, hz, hk1⟩, stp⟩ := hr T hT X0
  cases hv
  rw [h0] at hz hk1
  obtain ⟨t2, a1, b1⟩ := kk v I' L' hQ T'.heap (locs ++ Ls) ls (by rw [e1]; exact hP1) (hD1.weaken (fun _ q _ h => hF q.1 h))
    ⟨Nat.le_trans hS.1 (by rw [e1]; exact hz), fun q h1 h2 => by rw [e1, hk1 q (Nat.lt_of_lt_of_le h1 hS.1) (fun z => h2 (hF q z))]; exact hS.2.1 q h1 h2, fun q hq => by
      rcases List.mem_append.mp hq with h | h
      · exact hS.2.2 q h
      · exact hF _ (hL q h)⟩ hl T' rfl X'
  exact ⟨t2, stp t2 a1, b1⟩
theorem room_ok {R : Room} {d : Nat} {My : MD} (hR : d ≤ R.frames ∧ 40 * d ≤ R.locals) (hlt : My.2.2.2.2 + 1 ≤ d ∧ My.2.2.1 ≤ 21) : (rmO My.2.2.2.2).frames + 1 ≤ R.frames ∧ 8 + (My.2.2.1 + 11) + (rmO My.2.2.2.2).locals ≤ R.locals := by
  obtain ⟨h1, h2⟩ := hR
  obtain ⟨h3, h4⟩ := hlt
  constructor
  · show My.2.2.2.2 + 1 ≤ R.frames
    omega
  · show 8 + (My.2.2.1 + 11) + 40 * My.2.2.2.2 ≤ R.locals
    omega
theorem g_callS {X : CT} {w : WG} {M : MD} {Q : QT} {I : SI} {L : SL} {pc : Nat} {f : LV} {My : MD} {idx n : Nat} {av st : List Value} {Qy : QT} (rest : List Value) (hX : Cx X w M Q) (hd : decode M.2.1 pc = .ok (.invokestatic idx, 3)) (hk : LkS M.1.cls idx My n) (hlt : My.2.2.2.2 + 1 ≤ M.2.2.2.2 ∧ My.2.2.1 ≤ 21) (hn : av.length = n) (hO : Ok w My av I L Qy) (hst : st = av.reverse ++ rest) (hW : (rest.map fun v => v.category).sum ≤ 8) (kk : ∀ (r : Option Value) (I' : SI) (L' : SL), Qy r I' L' → G X w M I' L' (pc + 3) f (r.toList ++ rest)) : G X w M I L pc f st := by
  obtain ⟨p, l, e, R, s, m, args, below, meth, c, A, cells, slots, Qf⟩ := X
  obtain ⟨hx, hb, hml, hr, hlk, ho, hts, hK, hSW, hA, hR, hc, hs, hq⟩ := hX
  intro H locs ls hP hD hS hl
  exact run_on (va_runS (p := p) (l := l) (e := e) (R := R) (below := below) (meth := meth) (locs := locs) (cells := cells) (slots := slots) (H := H) (As := av) (rest := rest) (Ts := BG) (own := M.1.cls) (nL := M.2.2.1) (cc := M.2.1) ⟨hx, hb, hml, ho, hts⟩ (hO l H.size) (va_cwS n hts hk.good rfl rfl rfl hk.2 (room_ok hR hlt)) ⟨pre_blind, fun U hU hW2 => ⟨rfl, pre_at hP hD hS hK hSW hA U hU hW2⟩⟩ rfl hn hl.1 hst (lv_room hW) hd ⟨by subst hc; exact Nat.zero_le _, by subst hs; exact Nat.zero_le _⟩) hD hS hA hl kk
theorem g_callV {X : CT} {w : WG} {M : MD} {Q : QT} {I : SI} {L : SL} {pc : Nat} {f : LV} {My : MD} {idx n o c0 n0 : Nat} {av st : List Value} {Qy : QT} (rest : List Value) (hX : Cx X w M Q) (hd : decode M.2.1 pc = .ok (.invokevirtual idx, 3)) (hk : LkV M.1.cls idx My n) (hlt : My.2.2.2.2 + 1 ≤ M.2.2.2.2 ∧ My.2.2.1 ≤ 21) (hc0 : c0 < 5) (hko : (gK w)[o]? = some (c0, n0)) (hcl : (vwCl[c0]?).map (fun q => q.1) = some My.1.cls) (hn : av.length = n) (hO : Ok w My (.ref (gA w o) :: av) I L Qy) (hst : st = av.reverse ++ .ref (gA w o) :: rest) (hW : (rest.map fun v => v.category).sum ≤ 8) (kk : ∀ (r : Option Value) (I' : SI) (L' : SL), Qy r I' L' → G X w M I' L' (pc + 3) f (r.toList ++ rest)) : G X w M I L pc f st := by
  obtain ⟨p, l, e, R, s, m, args, below, meth, c, A, cells, slots, Qf⟩ := X
  obtain ⟨hx, hb, hml, hr, hlk, ho, hts, hK, hSW, hA, hR, hc, hs, hq⟩ := hX
  intro H locs ls hP hD hS hl
  have hrec : ∃ cell : Cell, H[gA w o]? = some cell ∧ cell.vm.isStatics = false ∧ s.vm.findClass My.1.cls = some cell.cls := by
    obtain ⟨q, hq1, hq2⟩ := Option.map_eq_some_iff.mp hcl
    rw [← hq2]
    exact va_recv hK hP hq1 (ob_get hc0 hko)
  exact run_on (va_runV (p := p) (l := l) (e := e) (R := R) (below := below) (meth := meth) (locs := locs) (cells := cells) (slots := slots) (H := H) (As := av) (rest := rest) (Ts := BG) (own := M.1.cls) (C := My.1.cls) (b := gA w o) (nL := M.2.2.1) (cc := M.2.1) ⟨hx, hb, hml, ho, hts⟩ (hO l H.size) (cwV n hts hk.good rfl rfl rfl ⟨rfl, hk.2⟩ (room_ok hR hlt)) ⟨pre_blind, hrec, fun U hU hW2 => ⟨rfl, pre_at hP hD hS hK hSW hA U hU hW2⟩⟩ rfl hn hl.1 hst (lv_room hW) hd ⟨by subst hc; exact Nat.zero_le _, by subst hs; exact Nat.zero_le _⟩) hD hS hA hl kk
/-- a method that only answers -/
def Pr (v : Value) (I : SI) (L : SL) : QT := fun r I' L' => r = some v ∧ I' = I ∧ L' = L
theorem g_callSp {X : CT} {w : WG} {M : MD} {Q : QT} {I : SI} {L : SL} {pc : Nat} {f : LV} {My : MD} {idx n : Nat} {av st : List Value} {v : Value} (rest : List Value) (hX : Cx X w M Q) (hd : decode M.2.1 pc = .ok (.invokestatic idx, 3)) (hk : LkS M.1.cls idx My n) (hlt : My.2.2.2.2 + 1 ≤ M.2.2.2.2 ∧ My.2.2.1 ≤ 21) (hn : av.length = n) (hO : Ok w My av I L (Pr v I L)) (hst : st = av.reverse ++ rest) (hW : (rest.map fun v => v.category).sum ≤ 8) (kk : G X w M I L (pc + 3) f (v :: rest)) : G X w M I L pc f st :=
  g_callS rest hX hd hk hlt hn hO hst hW (fun r I' L' h => by obtain ⟨rfl, rfl, rfl⟩ := h; exact kk)
theorem g_callVp {X : CT} {w : WG} {M : MD} {Q : QT} {I : SI} {L : SL} {pc : Nat} {f : LV} {My : MD} {idx n o c0 n0 : Nat} {av st : List Value} {v : Value} (rest : List Value) (hX : Cx X w M Q) (hd : decode M.2.1 pc = .ok (.invokevirtual idx, 3)) (hk : LkV M.1.cls idx My n) (hlt : My.2.2.2.2 + 1 ≤ M.2.2.2.2 ∧ My.2.2.1 ≤ 21) (hc0 : c0 < 5) (hko : (gK w)[o]? = some (c0, n0)) (hcl : (vwCl[c0]?).map (fun q => q.1) = some My.1.cls) (hn : av.length = n) (hO : Ok w My (.ref (gA w o) :: av) I L (Pr v I L)) (hst : st = av.reverse ++ .ref (gA w o) :: rest) (hW : (rest.map fun v => v.category).sum ≤ 8) (kk : G X w M I L (pc + 3) f (v :: rest)) : G X w M I L pc f st :=
  g_callV rest hX hd hk hlt hc0 hko hcl hn hO hst hW (fun r I' L' h => by obtain ⟨rfl, rfl, rfl⟩ := h; exact kk)
theorem Ok.mono {w : WG} {M : MD} {av : List Value} {I : SI} {L : SL} {Q Q' : QT} (h : Ok w M av I L Q) (hQ : ∀ r I' L', Q r I' L' → Q' r I' L') : Ok w M av I L Q' := by
  intro l sz p e ha hc hk s m args below hf happ hP hK
  obtain ⟨k, o, h1, h2, h3, ⟨⟨r, I', L', q1, q2, q3⟩, q4⟩, q5⟩ := h l sz p e ha hc hk s m args below hf happ hP hK
  exact ⟨k, o, h1, h2, h3, ⟨⟨r, I', L', q1, hQ _ _ _ q2, q3⟩, q4⟩, q5⟩
/-- what is said of one row only -/
theorem g_copy {X : CT} {w : WG} {M : MD} {Q : QT} {I : SI} {L : SL} {pc : Nat} {f : LV} {o1 o2 n1 n2 idx : Nat} {sp dp n : Int32} {st : List Value} (hX : Cx X w M Q) (hd : decode M.2.1 pc = .ok (.invokestatic idx, 3)) (hw : Cond.methodLink M.1.cls idx arraycopyName ∈ BG) (hd2 : 2 ≤ M.2.2.2.2) (hk1 : (gK w)[o1]? = some (6, n1)) (hk2 : (gK w)[o2]? = some (6, n2)) (h1 : ¬ sp < 0) (h2 : ¬ dp < 0) (h3 : ¬ n < 0) (h4 : sp.toNatClampNeg + n.toNatClampNeg ≤ n1) (h5 : dp.toNatClampNeg + n.toNatClampNeg ≤ n2) (hst : (st.map fun v => v.category).sum ≤ 8)
    (kk : G X w M (rS I o2 (va_cpy (I o1) (I o2) sp.toNatClampNeg dp.toNatClampNeg n.toNatClampNeg)) L (pc + 3) f st) : G X w M I L pc f (.int n :: .int dp :: .ref (gA w o2) :: .int sp :: .ref (gA w o1) :: st) := by
  obtain ⟨p, l, e, R, s, m, args, below, meth, c, A, cells, slots, Qf⟩ := X
  obtain ⟨hx, hb, hml, hr, hlk, ho, hts, hK, hSW, hA, hR, hc, hs, hq⟩ := hX
  intro H locs ls hP hD hS hl
  have hw2 : (st.map fun v => v.category).sum + (nativeFrameWords "java/lang/System" "arraycopy" 5 + 11) ≤ R.locals := by
    have : nativeFrameWords "java/lang/System" "arraycopy" 5 ≤ 40 := by decide +kernel
    have h7 := hR.2
    omega
  refine va_copyi hx hb (hml.trans hl.1.symm) ho (hts _ hw) (hts _ b_nam_arraycopyName) (hts _ b_stm_arraycopyName) (hts _ b_in_J10) hK hP hD hS o1 o2 1 1 (wsO_get hk1) (wsO_get hk2) rfl rfl rfl h1 h2 h3 h4 h5 (fun _ _ => rfl) (by have := hR.1; omega) hw2 hd (fun H1 locs1 hP1 hD1 hS1 => kk H1 locs1 ls ?_ ?_ hS1 hl)
  · rw [← wsO_setI hk2]
    exact hP1
  · rw [← wsO_setI hk2]
    exact hD1
end
