set_option maxHeartbeats 4000000 in
set_option maxRecDepth 100000 in
theorem n_village {w : WG} {I : SI} {L : SL} {XI : SI} {n d r q p m : Nat} (hm : ML w) (h : RR XI I L n d r q p m)  : Ok w mX5_village [.ref (gA w 0)] I L (QM (spVillage XI)) := by
  obtain ⟨hRX, hRJ, hRF⟩ := id h
  obtain ⟨⟨xn, xn4, xd, xd7, xr, xr9⟩, ⟨xq, xq6⟩, ⟨xp, xp8⟩, ⟨xm, xm150⟩, xA, xH, xD, xP, xT⟩ := id hRX
  obtain ⟨⟨jn, -, jd, -, jB, jK⟩, jr, ja, jq, jp, jm, jH, jN, jP, jT⟩ := RJ_v hRJ
  have hRV : RV (vx XI 1) I n d := hRJ.1
  have hMS := h.ms
  refine Ok.of (by decide) (Nat.le_of_ble_eq_true rfl) (fun X hX => ?_)
  refine g_aload_n hX dX5_village_0 rfl rfl ?_
  refine g_get5I hX 2 dX5_village_1 b_fl_X5_78 hm.k0 (by decide) ?_
  refine g_istore_n hX dX5_village_4 rfl (by decide) ?_
  refine g_aload_n hX dX5_village_5 rfl rfl ?_
  refine g_callV _ hX dX5_village_6 k_X5_71 ⟨by decide, by decide⟩ (by decide) hm.k0 rfl rfl (m_begin hm) rfl (Nat.le_of_ble_eq_true rfl) (fun r1 I1 L1 hq => ?_)
  obtain ⟨rfl, rfl, rfl⟩ := hq
  refine g_iload_n hX dX5_village_9 rfl rfl ?_
  exact g_iret hX dX5_village_10 rfl (⟨vI (jd.trans xd.symm), 0, 0, 0, 0, 0, m, h.village⟩)
set_option maxHeartbeats 4000000 in
set_option maxRecDepth 100000 in
theorem n_man {w : WG} {I : SI} {L : SL} {XI : SI} {n d r q p m : Nat} (hm : ML w) (h : RR XI I L n d r q p m) (b a : Int32) : Ok w mX5_man [.ref (gA w 0), .int b, .int a] I L (QM (spMan XI n b a)) := by
  obtain ⟨hRX, hRJ, hRF⟩ := id h
  obtain ⟨⟨xn, xn4, xd, xd7, xr, xr9⟩, ⟨xq, xq6⟩, ⟨xp, xp8⟩, ⟨xm, xm150⟩, xA, xH, xD, xP, xT⟩ := id hRX
  obtain ⟨⟨jn, -, jd, -, jB, jK⟩, jr, ja, jq, jp, jm, jH, jN, jP, jT⟩ := RJ_v hRJ
  have hRV : RV (vx XI 1) I n d := hRJ.1
  have hMS := h.ms
  refine Ok.of (by decide) (Nat.le_of_ble_eq_true rfl) (fun X hX => ?_)
  refine g_iload_n hX dX5_man_0 rfl rfl ?_
  refine g_iconst (v := 0) hX dX5_man_1 (by decide) ?_
  refine g_bipush (v := 9) hX dX5_man_2 (by decide) ?_
  refine g_callSp _ hX dX5_man_4 k_X5_93 ⟨by decide, by decide⟩ rfl (ok_in _ _ _) rfl (Nat.le_of_ble_eq_true rfl) ?_
  refine g_if_eq (tgt := 20) hX dX5_man_7 (by decide) (fun c_7 => ?_) (fun c_7 => ?_)
  · refine g_aload_n hX dX5_man_20 rfl rfl ?_
    refine g_callV _ hX dX5_man_21 k_X5_97 ⟨by decide, by decide⟩ (by decide) hm.k0 rfl rfl (m_bad hm) rfl (Nat.le_of_ble_eq_true rfl) (fun r1 I1 L1 hq => ?_)
    obtain ⟨rfl, rfl, rfl⟩ := hq
    exact g_iret hX dX5_man_24 rfl (by rw [spMan, if_pos (by intro z; first | exact b01_0 c_7 z.1 | exact b01_0 c_17 z.2)]; exact ⟨rfl, n, d, r, q, p, m, h.bad⟩)
  · refine g_iload_n hX dX5_man_10 rfl rfl ?_
    refine g_iconst (v := 0) hX dX5_man_11 (by decide) ?_
    refine g_bipush (v := 30) hX dX5_man_12 (by decide) ?_
    refine g_callSp _ hX dX5_man_14 k_X5_93 ⟨by decide, by decide⟩ rfl (ok_in _ _ _) rfl (Nat.le_of_ble_eq_true rfl) ?_
    refine g_if_ne (tgt := 25) hX dX5_man_17 (by decide) (fun c_17 => ?_) (fun c_17 => ?_)
    · refine g_aload_n hX dX5_man_25 rfl rfl ?_
      refine g_get5I hX 1 dX5_man_26 b_fl_X5_74 hm.k0 (by decide) ?_
      refine g_iconst (v := 4) hX dX5_man_29 (by decide) ?_
      rw [jn, show (4 : Int32) = nI 4 from rfl]
      refine g_icmp_ne (tgt := 40) hX dX5_man_30 (by decide) (fun c_30 => ?_) (fun c_30 => ?_)
      · have hlt : n < 4 := Nat.lt_of_le_of_ne xn4 (fun e => c_30 (by rw [e]))
        obtain ⟨a, ha, rfl⟩ := ix2 (n := 30) rfl (by decide) (b01_n c_17)
        refine g_aload_n hX dX5_man_40 rfl rfl ?_
        refine g_iload_n hX dX5_man_41 rfl rfl ?_
        refine g_iload_n hX dX5_man_42 rfl rfl ?_
        refine g_callV _ hX dX5_man_43 k_X5_104 ⟨by decide, by decide⟩ (by decide) hm.k0 rfl rfl (m_addMan hm jn (by omega) _ _) rfl (Nat.le_of_ble_eq_true rfl) (fun r1 I1 L1 hq => ?_)
        obtain ⟨rfl, rfl, rfl⟩ := hq
        exact g_iret hX dX5_man_46 rfl (by rw [spMan, if_neg (fun z => z ⟨b01_n c_7, b01_n c_17⟩), if_pos hlt]; exact ⟨rfl, n + 1, d, r, q, 0, m, h.man hlt ha⟩)
      · refine g_aload_n hX dX5_man_33 rfl rfl ?_
        refine g_callV _ hX dX5_man_34 k_X5_101 ⟨by decide, by decide⟩ (by decide) hm.k0 rfl rfl (m_full hm) rfl (Nat.le_of_ble_eq_true rfl) (fun r1 I1 L1 hq => ?_)
        obtain ⟨rfl, rfl, rfl⟩ := hq
        refine g_goto (tgt := 46) hX dX5_man_37 (by decide) ?_
        exact g_iret hX dX5_man_46 rfl (by rw [spMan, if_neg (fun z => z ⟨b01_n c_7, b01_n c_17⟩), if_neg (by have := (nI_eq (by omega) (by decide)).mp c_30; omega)]; exact ⟨rfl, n, d, r, q, p, m, h.full⟩)
    · refine g_aload_n hX dX5_man_20 rfl rfl ?_
      refine g_callV _ hX dX5_man_21 k_X5_97 ⟨by decide, by decide⟩ (by decide) hm.k0 rfl rfl (m_bad hm) rfl (Nat.le_of_ble_eq_true rfl) (fun r1 I1 L1 hq => ?_)
      obtain ⟨rfl, rfl, rfl⟩ := hq
      exact g_iret hX dX5_man_24 rfl (by rw [spMan, if_pos (by intro z; first | exact b01_0 c_7 z.1 | exact b01_0 c_17 z.2)]; exact ⟨rfl, n, d, r, q, p, m, h.bad⟩)
set_option maxHeartbeats 4000000 in
set_option maxRecDepth 100000 in
theorem n_dog {w : WG} {I : SI} {L : SL} {XI : SI} {n d r q p m : Nat} (hm : ML w) (h : RR XI I L n d r q p m) (k x u f : Int32) : Ok w mX5_dog [.ref (gA w 0), .int k, .int x, .int u, .int f] I L (QM (spDog XI d k x u f)) := by
  obtain ⟨hRX, hRJ, hRF⟩ := id h
  obtain ⟨⟨xn, xn4, xd, xd7, xr, xr9⟩, ⟨xq, xq6⟩, ⟨xp, xp8⟩, ⟨xm, xm150⟩, xA, xH, xD, xP, xT⟩ := id hRX
  obtain ⟨⟨jn, -, jd, -, jB, jK⟩, jr, ja, jq, jp, jm, jH, jN, jP, jT⟩ := RJ_v hRJ
  have hRV : RV (vx XI 1) I n d := hRJ.1
  have hMS := h.ms
  refine Ok.of (by decide) (Nat.le_of_ble_eq_true rfl) (fun X hX => ?_)
  refine g_iload_n hX dX5_dog_0 rfl rfl ?_
  refine g_iconst (v := 0) hX dX5_dog_1 (by decide) ?_
  refine g_iconst (v := 5) hX dX5_dog_2 (by decide) ?_
  refine g_callSp _ hX dX5_dog_3 k_X5_93 ⟨by decide, by decide⟩ rfl (ok_in _ _ _) rfl (Nat.le_of_ble_eq_true rfl) ?_
  refine g_if_eq (tgt := 38) hX dX5_dog_6 (by decide) (fun c_6 => ?_) (fun c_6 => ?_)
  · refine g_aload_n hX dX5_dog_38 rfl rfl ?_
    refine g_callV _ hX dX5_dog_39 k_X5_97 ⟨by decide, by decide⟩ (by decide) hm.k0 rfl rfl (m_bad hm) rfl (Nat.le_of_ble_eq_true rfl) (fun r1 I1 L1 hq => ?_)
    obtain ⟨rfl, rfl, rfl⟩ := hq
    exact g_iret hX dX5_dog_42 rfl (by rw [spDog, if_pos (by intro z; first | exact b01_0 c_6 z.1 | exact b01_0 c_15 z.2.1 | exact b01_0 c_25 z.2.2.1 | exact b01_0 c_35 z.2.2.2)]; exact ⟨rfl, n, d, r, q, p, m, h.bad⟩)
  · refine g_iload_n hX dX5_dog_9 rfl rfl ?_
    refine g_iconst (v := 1) hX dX5_dog_10 (by decide) ?_
    refine g_iconst (v := 5) hX dX5_dog_11 (by decide) ?_
    refine g_callSp _ hX dX5_dog_12 k_X5_93 ⟨by decide, by decide⟩ rfl (ok_in _ _ _) rfl (Nat.le_of_ble_eq_true rfl) ?_
    refine g_if_eq (tgt := 38) hX dX5_dog_15 (by decide) (fun c_15 => ?_) (fun c_15 => ?_)
    · refine g_aload_n hX dX5_dog_38 rfl rfl ?_
      refine g_callV _ hX dX5_dog_39 k_X5_97 ⟨by decide, by decide⟩ (by decide) hm.k0 rfl rfl (m_bad hm) rfl (Nat.le_of_ble_eq_true rfl) (fun r1 I1 L1 hq => ?_)
      obtain ⟨rfl, rfl, rfl⟩ := hq
      exact g_iret hX dX5_dog_42 rfl (by rw [spDog, if_pos (by intro z; first | exact b01_0 c_6 z.1 | exact b01_0 c_15 z.2.1 | exact b01_0 c_25 z.2.2.1 | exact b01_0 c_35 z.2.2.2)]; exact ⟨rfl, n, d, r, q, p, m, h.bad⟩)
    · refine g_iload_n hX dX5_dog_18 rfl rfl ?_
      refine g_iconst (v := 1) hX dX5_dog_19 (by decide) ?_
      refine g_bipush (v := 9) hX dX5_dog_20 (by decide) ?_
      refine g_callSp _ hX dX5_dog_22 k_X5_93 ⟨by decide, by decide⟩ rfl (ok_in _ _ _) rfl (Nat.le_of_ble_eq_true rfl) ?_
      refine g_if_eq (tgt := 38) hX dX5_dog_25 (by decide) (fun c_25 => ?_) (fun c_25 => ?_)
      · refine g_aload_n hX dX5_dog_38 rfl rfl ?_
        refine g_callV _ hX dX5_dog_39 k_X5_97 ⟨by decide, by decide⟩ (by decide) hm.k0 rfl rfl (m_bad hm) rfl (Nat.le_of_ble_eq_true rfl) (fun r1 I1 L1 hq => ?_)
        obtain ⟨rfl, rfl, rfl⟩ := hq
        exact g_iret hX dX5_dog_42 rfl (by rw [spDog, if_pos (by intro z; first | exact b01_0 c_6 z.1 | exact b01_0 c_15 z.2.1 | exact b01_0 c_25 z.2.2.1 | exact b01_0 c_35 z.2.2.2)]; exact ⟨rfl, n, d, r, q, p, m, h.bad⟩)
      · refine g_iload hX dX5_dog_28 rfl ?_
        refine g_iconst (v := 0) hX dX5_dog_30 (by decide) ?_
        refine g_iconst (v := 3) hX dX5_dog_31 (by decide) ?_
        refine g_callSp _ hX dX5_dog_32 k_X5_93 ⟨by decide, by decide⟩ rfl (ok_in _ _ _) rfl (Nat.le_of_ble_eq_true rfl) ?_
        refine g_if_ne (tgt := 43) hX dX5_dog_35 (by decide) (fun c_35 => ?_) (fun c_35 => ?_)
        · refine g_aload_n hX dX5_dog_43 rfl rfl ?_
          refine g_get5I hX 2 dX5_dog_44 b_fl_X5_78 hm.k0 (by decide) ?_
          refine g_bipush (v := 7) hX dX5_dog_47 (by decide) ?_
          rw [jd, show (7 : Int32) = nI 7 from rfl]
          refine g_icmp_ne (tgt := 59) hX dX5_dog_49 (by decide) (fun c_49 => ?_) (fun c_49 => ?_)
          · have hlt : d < 7 := Nat.lt_of_le_of_ne xd7 (fun e => c_49 (by rw [e]))
            obtain ⟨a1, h1, rfl⟩ := ix2 (n := 5) rfl (by decide) (b01_n c_6)
            obtain ⟨a2, h2, rfl⟩ := ix2 (n := 5) rfl (by decide) ⟨Int32.le_trans (by decide) (b01_n c_15).1, (b01_n c_15).2⟩
            obtain ⟨a3, h3, rfl⟩ := ix2 (n := 9) rfl (by decide) ⟨Int32.le_trans (by decide) (b01_n c_25).1, (b01_n c_25).2⟩
            obtain ⟨a4, h4, rfl⟩ := ix2 (n := 3) rfl (by decide) (b01_n c_35)
            refine g_aload_n hX dX5_dog_59 rfl rfl ?_
            refine g_iload_n hX dX5_dog_60 rfl rfl ?_
            refine g_iload_n hX dX5_dog_61 rfl rfl ?_
            refine g_iload_n hX dX5_dog_62 rfl rfl ?_
            refine g_iload hX dX5_dog_63 rfl ?_
            refine g_callV _ hX dX5_dog_65 k_X5_108 ⟨by decide, by decide⟩ (by decide) hm.k0 rfl rfl (m_addDog hm jd (by omega) _ _ _ _) rfl (Nat.le_of_ble_eq_true rfl) (fun r1 I1 L1 hq => ?_)
            obtain ⟨rfl, rfl, rfl⟩ := hq
            exact g_iret hX dX5_dog_68 rfl (by rw [spDog, if_neg (fun z => z ⟨b01_n c_6, b01_n c_15, b01_n c_25, b01_n c_35⟩), if_pos hlt]; exact ⟨rfl, n, d + 1, r, q, 0, m, h.dog hlt h1 h2 h3 h4⟩)
          · refine g_aload_n hX dX5_dog_52 rfl rfl ?_
            refine g_callV _ hX dX5_dog_53 k_X5_101 ⟨by decide, by decide⟩ (by decide) hm.k0 rfl rfl (m_full hm) rfl (Nat.le_of_ble_eq_true rfl) (fun r1 I1 L1 hq => ?_)
            obtain ⟨rfl, rfl, rfl⟩ := hq
            refine g_goto (tgt := 68) hX dX5_dog_56 (by decide) ?_
            exact g_iret hX dX5_dog_68 rfl (by rw [spDog, if_neg (fun z => z ⟨b01_n c_6, b01_n c_15, b01_n c_25, b01_n c_35⟩), if_neg (by have := (nI_eq (by omega) (by decide)).mp c_49; omega)]; exact ⟨rfl, n, d, r, q, p, m, h.full⟩)
        · refine g_aload_n hX dX5_dog_38 rfl rfl ?_
          refine g_callV _ hX dX5_dog_39 k_X5_97 ⟨by decide, by decide⟩ (by decide) hm.k0 rfl rfl (m_bad hm) rfl (Nat.le_of_ble_eq_true rfl) (fun r1 I1 L1 hq => ?_)
          obtain ⟨rfl, rfl, rfl⟩ := hq
          exact g_iret hX dX5_dog_42 rfl (by rw [spDog, if_pos (by intro z; first | exact b01_0 c_6 z.1 | exact b01_0 c_15 z.2.1 | exact b01_0 c_25 z.2.2.1 | exact b01_0 c_35 z.2.2.2)]; exact ⟨rfl, n, d, r, q, p, m, h.bad⟩)
set_option maxHeartbeats 4000000 in
set_option maxRecDepth 100000 in
theorem n_type {w : WG} {I : SI} {L : SL} {XI : SI} {n d r q p m : Nat} (hm : ML w) (h : RR XI I L n d r q p m) (c : Int32) : Ok w mX5_type [.ref (gA w 0), .int c] I L (QM (spType XI m c)) := by
  obtain ⟨hRX, hRJ, hRF⟩ := id h
  obtain ⟨⟨xn, xn4, xd, xd7, xr, xr9⟩, ⟨xq, xq6⟩, ⟨xp, xp8⟩, ⟨xm, xm150⟩, xA, xH, xD, xP, xT⟩ := id hRX
  obtain ⟨⟨jn, -, jd, -, jB, jK⟩, jr, ja, jq, jp, jm, jH, jN, jP, jT⟩ := RJ_v hRJ
  have hRV : RV (vx XI 1) I n d := hRJ.1
  have hMS := h.ms
  refine Ok.of (by decide) (Nat.le_of_ble_eq_true rfl) (fun X hX => ?_)
  refine g_iload_n hX dX5_type_0 rfl rfl ?_
  refine g_iconst (v := 0) hX dX5_type_1 (by decide) ?_
  refine g_bipush (v := 127) hX dX5_type_2 (by decide) ?_
  refine g_callSp _ hX dX5_type_4 k_X5_93 ⟨by decide, by decide⟩ rfl (ok_in _ _ _) rfl (Nat.le_of_ble_eq_true rfl) ?_
  refine g_if_ne (tgt := 15) hX dX5_type_7 (by decide) (fun c_7 => ?_) (fun c_7 => ?_)
  · refine g_aload_n hX dX5_type_15 rfl rfl ?_
    refine g_get5I hX 18 dX5_type_16 b_fl_X5_112 hm.k0 (by decide) ?_
    try simp (disch := decide) only [rS_eq, rS_ne, rS_rS, pk_un, pk_us]
    refine g_sipush (v := 150) hX dX5_type_19 (by decide) ?_
    rw [jm, show (150 : Int32) = nI 150 from rfl]
    refine g_icmp_ne (tgt := 30) hX dX5_type_22 (by decide) (fun c_22 => ?_) (fun c_22 => ?_)
    · have hlt : m < 150 := Nat.lt_of_le_of_ne xm150 (fun e => c_22 (by rw [e]))
      obtain ⟨a, ha, rfl⟩ := ix2 (n := 127) rfl (by decide) (b01_n c_7)
      refine g_aload_n hX dX5_type_30 rfl rfl ?_
      refine g_get5R hX 17 dX5_type_31 b_fl_X5_46 hm.k0 (by decide) hm.q13 ?_
      refine g_aload_n hX dX5_type_34 rfl rfl ?_
      refine g_get5I hX 18 dX5_type_35 b_fl_X5_112 hm.k0 (by decide) ?_
      try simp (disch := decide) only [rS_eq, rS_ne, rS_rS, pk_un, pk_us]
      refine g_iload_n hX dX5_type_38 rfl rfl ?_
      refine g_iastN hX dX5_type_39 hm.k13 (⟨jm, by omega⟩) (by decide) ?_
      try simp (disch := decide) only [rS_eq, rS_ne, rS_rS, pk_un, pk_us]
      refine g_aload_n hX dX5_type_40 rfl rfl ?_
      refine g_dup hX dX5_type_41 rfl ?_
      refine g_get5I hX 18 dX5_type_42 b_fl_X5_112 hm.k0 (by decide) ?_
      try simp (disch := decide) only [rS_eq, rS_ne, rS_rS, pk_un, pk_us]
      refine g_iconst (v := 1) hX dX5_type_45 (by decide) ?_
      refine g_iadd hX dX5_type_46 ?_
      refine g_put5I hX 18 dX5_type_47 b_fl_X5_112 hm.k0 pf5_18 ?_
      try simp (disch := decide) only [rS_eq, rS_ne, rS_rS, pk_un, pk_us]
      refine g_aload_n hX dX5_type_50 rfl rfl ?_
      refine g_get5I hX 18 dX5_type_51 b_fl_X5_112 hm.k0 (by decide) ?_
      try simp (disch := decide) only [rS_eq, rS_ne, rS_rS, pk_un, pk_us]
      exact g_iret hX dX5_type_54 rfl (by rw [spType, if_neg (fun z => z (b01_n c_7)), if_pos hlt, nar_127 a ha]; refine ⟨vI (by rw [jm, nI_1]), n, d, r, q, p, m + 1, ?_⟩; rw [jm]; exact h.type hlt ha)
    · refine g_aload_n hX dX5_type_25 rfl rfl ?_
      refine g_callV _ hX dX5_type_26 k_X5_101 ⟨by decide, by decide⟩ (by decide) hm.k0 rfl rfl (m_full hm) rfl (Nat.le_of_ble_eq_true rfl) (fun r1 I1 L1 hq => ?_)
      obtain ⟨rfl, rfl, rfl⟩ := hq
      exact g_iret hX dX5_type_29 rfl (by rw [spType, if_neg (fun z => z (b01_n c_7)), if_neg (by have := (nI_eq (by omega) (by decide)).mp c_22; omega)]; exact ⟨rfl, n, d, r, q, p, m, h.full⟩)
  · refine g_aload_n hX dX5_type_10 rfl rfl ?_
    refine g_callV _ hX dX5_type_11 k_X5_97 ⟨by decide, by decide⟩ (by decide) hm.k0 rfl rfl (m_bad hm) rfl (Nat.le_of_ble_eq_true rfl) (fun r1 I1 L1 hq => ?_)
    obtain ⟨rfl, rfl, rfl⟩ := hq
    exact g_iret hX dX5_type_14 rfl (by rw [spType, if_pos (b01_0 c_7)]; exact ⟨rfl, n, d, r, q, p, m, h.bad⟩)
set_option maxHeartbeats 4000000 in
set_option maxRecDepth 100000 in
theorem n_clear {w : WG} {I : SI} {L : SL} {XI : SI} {n d r q p m : Nat} (hm : ML w) (h : RR XI I L n d r q p m)  : Ok w mX5_clear [.ref (gA w 0)] I L (QM (spClear XI)) := by
  obtain ⟨hRX, hRJ, hRF⟩ := id h
  obtain ⟨⟨xn, xn4, xd, xd7, xr, xr9⟩, ⟨xq, xq6⟩, ⟨xp, xp8⟩, ⟨xm, xm150⟩, xA, xH, xD, xP, xT⟩ := id hRX
  obtain ⟨⟨jn, -, jd, -, jB, jK⟩, jr, ja, jq, jp, jm, jH, jN, jP, jT⟩ := RJ_v hRJ
  have hRV : RV (vx XI 1) I n d := hRJ.1
  have hMS := h.ms
  refine Ok.of (by decide) (Nat.le_of_ble_eq_true rfl) (fun X hX => ?_)
  refine g_aload_n hX dX5_clear_0 rfl rfl ?_
  refine g_get5I hX 18 dX5_clear_1 b_fl_X5_112 hm.k0 (by decide) ?_
  refine g_istore_n hX dX5_clear_4 rfl (by decide) ?_
  refine g_aload_n hX dX5_clear_5 rfl rfl ?_
  refine g_iconst (v := 0) hX dX5_clear_6 (by decide) ?_
  refine g_put5I hX 18 dX5_clear_7 b_fl_X5_112 hm.k0 pf5_18 ?_
  refine g_iload_n hX dX5_clear_10 rfl rfl ?_
  exact g_iret hX dX5_clear_11 rfl (⟨vI (jm.trans xm.symm), n, d, r, q, p, 0, h.clear⟩)
set_option maxHeartbeats 4000000 in
set_option maxRecDepth 100000 in
theorem n_note {w : WG} {I : SI} {L : SL} {XI : SI} {n d r q p m : Nat} (hm : ML w) (h : RR XI I L n d r q p m) (k f b t : Int32) : Ok w mX5_note [.ref (gA w 0), .int k, .int f, .int b, .int t] I L (QM (spNote XI q k f b t)) := by
  obtain ⟨hRX, hRJ, hRF⟩ := id h
  obtain ⟨⟨xn, xn4, xd, xd7, xr, xr9⟩, ⟨xq, xq6⟩, ⟨xp, xp8⟩, ⟨xm, xm150⟩, xA, xH, xD, xP, xT⟩ := id hRX
  obtain ⟨⟨jn, -, jd, -, jB, jK⟩, jr, ja, jq, jp, jm, jH, jN, jP, jT⟩ := RJ_v hRJ
  have hRV : RV (vx XI 1) I n d := hRJ.1
  have hMS := h.ms
  refine Ok.of (by decide) (Nat.le_of_ble_eq_true rfl) (fun X hX => ?_)
  refine g_aload_n hX dX5_note_0 rfl rfl ?_
  refine g_iload_n hX dX5_note_1 rfl rfl ?_
  refine g_callVp _ hX dX5_note_2 k_X5_209 ⟨by decide, by decide⟩ (by decide) hm.k0 rfl rfl (m_isDog hm jd (by omega) _) rfl (Nat.le_of_ble_eq_true rfl) ?_
  refine g_if_eq (tgt := 37) hX dX5_note_5 (by decide) (fun c_5 => ?_) (fun c_5 => ?_)
  · refine g_aload_n hX dX5_note_37 rfl rfl ?_
    refine g_callV _ hX dX5_note_38 k_X5_97 ⟨by decide, by decide⟩ (by decide) hm.k0 rfl rfl (m_bad hm) rfl (Nat.le_of_ble_eq_true rfl) (fun r1 I1 L1 hq => ?_)
    obtain ⟨rfl, rfl, rfl⟩ := hq
    exact g_iret hX dX5_note_41 rfl (by rw [spNote, if_pos (by intro z; first | exact b01_0 c_5 (xd ▸ z.1) | exact b01_0 c_14 z.2.1 | exact b01_0 c_24 z.2.2.1 | exact b01_0 c_34 z.2.2.2)]; exact ⟨rfl, n, d, r, q, p, m, h.bad⟩)
  · refine g_iload_n hX dX5_note_8 rfl rfl ?_
    refine g_iconst (v := 0) hX dX5_note_9 (by decide) ?_
    refine g_iconst (v := 1) hX dX5_note_10 (by decide) ?_
    refine g_callSp _ hX dX5_note_11 k_X5_93 ⟨by decide, by decide⟩ rfl (ok_in _ _ _) rfl (Nat.le_of_ble_eq_true rfl) ?_
    refine g_if_eq (tgt := 37) hX dX5_note_14 (by decide) (fun c_14 => ?_) (fun c_14 => ?_)
    · refine g_aload_n hX dX5_note_37 rfl rfl ?_
      refine g_callV _ hX dX5_note_38 k_X5_97 ⟨by decide, by decide⟩ (by decide) hm.k0 rfl rfl (m_bad hm) rfl (Nat.le_of_ble_eq_true rfl) (fun r1 I1 L1 hq => ?_)
      obtain ⟨rfl, rfl, rfl⟩ := hq
      exact g_iret hX dX5_note_41 rfl (by rw [spNote, if_pos (by intro z; first | exact b01_0 c_5 (xd ▸ z.1) | exact b01_0 c_14 z.2.1 | exact b01_0 c_24 z.2.2.1 | exact b01_0 c_34 z.2.2.2)]; exact ⟨rfl, n, d, r, q, p, m, h.bad⟩)
    · refine g_iload_n hX dX5_note_17 rfl rfl ?_
      refine g_iconst (v := 0) hX dX5_note_18 (by decide) ?_
      refine g_bipush (v := 9) hX dX5_note_19 (by decide) ?_
      refine g_callSp _ hX dX5_note_21 k_X5_93 ⟨by decide, by decide⟩ rfl (ok_in _ _ _) rfl (Nat.le_of_ble_eq_true rfl) ?_
      refine g_if_eq (tgt := 37) hX dX5_note_24 (by decide) (fun c_24 => ?_) (fun c_24 => ?_)
      · refine g_aload_n hX dX5_note_37 rfl rfl ?_
        refine g_callV _ hX dX5_note_38 k_X5_97 ⟨by decide, by decide⟩ (by decide) hm.k0 rfl rfl (m_bad hm) rfl (Nat.le_of_ble_eq_true rfl) (fun r1 I1 L1 hq => ?_)
        obtain ⟨rfl, rfl, rfl⟩ := hq
        exact g_iret hX dX5_note_41 rfl (by rw [spNote, if_pos (by intro z; first | exact b01_0 c_5 (xd ▸ z.1) | exact b01_0 c_14 z.2.1 | exact b01_0 c_24 z.2.2.1 | exact b01_0 c_34 z.2.2.2)]; exact ⟨rfl, n, d, r, q, p, m, h.bad⟩)
      · refine g_iload hX dX5_note_27 rfl ?_
        refine g_iconst (v := 0) hX dX5_note_29 (by decide) ?_
        refine g_iconst (v := 1) hX dX5_note_30 (by decide) ?_
        refine g_callSp _ hX dX5_note_31 k_X5_93 ⟨by decide, by decide⟩ rfl (ok_in _ _ _) rfl (Nat.le_of_ble_eq_true rfl) ?_
        refine g_if_ne (tgt := 42) hX dX5_note_34 (by decide) (fun c_34 => ?_) (fun c_34 => ?_)
        · refine g_aload_n hX dX5_note_42 rfl rfl ?_
          refine g_get5I hX 5 dX5_note_43 b_fl_X5_87 hm.k0 (by decide) ?_
          try simp (disch := decide) only [rS_eq, rS_ne, rS_rS, pk_un, pk_us]
          refine g_bipush (v := 6) hX dX5_note_46 (by decide) ?_
          rw [jq, show (6 : Int32) = nI 6 from rfl]
          refine g_icmp_ne (tgt := 56) hX dX5_note_48 (by decide) (fun c_48 => ?_) (fun c_48 => ?_)
          · have hlt : q < 6 := Nat.lt_of_le_of_ne xq6 (fun e => c_48 (by rw [e]))
            refine g_aload_n hX dX5_note_56 rfl rfl ?_
            refine g_get5R hX 13 dX5_note_57 b_fl_X5_34 hm.k0 (by decide) hm.q9 ?_
            refine g_aload_n hX dX5_note_60 rfl rfl ?_
            refine g_get5I hX 5 dX5_note_61 b_fl_X5_87 hm.k0 (by decide) ?_
            try simp (disch := decide) only [rS_eq, rS_ne, rS_rS, pk_un, pk_us]
            refine g_iload_n hX dX5_note_64 rfl rfl ?_
            refine g_iastN hX dX5_note_65 hm.k9 (⟨jq, by omega⟩) (by decide) ?_
            try simp (disch := decide) only [rS_eq, rS_ne, rS_rS, pk_un, pk_us]
            refine g_aload_n hX dX5_note_66 rfl rfl ?_
            refine g_get5R hX 14 dX5_note_67 b_fl_X5_37 hm.k0 (by decide) hm.q10 ?_
            refine g_aload_n hX dX5_note_70 rfl rfl ?_
            refine g_get5I hX 5 dX5_note_71 b_fl_X5_87 hm.k0 (by decide) ?_
            try simp (disch := decide) only [rS_eq, rS_ne, rS_rS, pk_un, pk_us]
            refine g_iload_n hX dX5_note_74 rfl rfl ?_
            refine g_iastN hX dX5_note_75 hm.k10 (⟨jq, by omega⟩) (by decide) ?_
            try simp (disch := decide) only [rS_eq, rS_ne, rS_rS, pk_un, pk_us]
            refine g_aload_n hX dX5_note_76 rfl rfl ?_
            refine g_get5R hX 15 dX5_note_77 b_fl_X5_40 hm.k0 (by decide) hm.q11 ?_
            refine g_aload_n hX dX5_note_80 rfl rfl ?_
            refine g_get5I hX 5 dX5_note_81 b_fl_X5_87 hm.k0 (by decide) ?_
            try simp (disch := decide) only [rS_eq, rS_ne, rS_rS, pk_un, pk_us]
            refine g_iload_n hX dX5_note_84 rfl rfl ?_
            refine g_iastN hX dX5_note_85 hm.k11 (⟨jq, by omega⟩) (by decide) ?_
            try simp (disch := decide) only [rS_eq, rS_ne, rS_rS, pk_un, pk_us]
            refine g_aload_n hX dX5_note_86 rfl rfl ?_
            refine g_get5R hX 16 dX5_note_87 b_fl_X5_43 hm.k0 (by decide) hm.q12 ?_
            refine g_aload_n hX dX5_note_90 rfl rfl ?_
            refine g_get5I hX 5 dX5_note_91 b_fl_X5_87 hm.k0 (by decide) ?_
            try simp (disch := decide) only [rS_eq, rS_ne, rS_rS, pk_un, pk_us]
            refine g_iload hX dX5_note_94 rfl ?_
            refine g_iastN hX dX5_note_96 hm.k12 (⟨jq, by omega⟩) (by decide) ?_
            try simp (disch := decide) only [rS_eq, rS_ne, rS_rS, pk_un, pk_us]
            refine g_aload_n hX dX5_note_97 rfl rfl ?_
            refine g_dup hX dX5_note_98 rfl ?_
            refine g_get5I hX 5 dX5_note_99 b_fl_X5_87 hm.k0 (by decide) ?_
            try simp (disch := decide) only [rS_eq, rS_ne, rS_rS, pk_un, pk_us]
            refine g_iconst (v := 1) hX dX5_note_102 (by decide) ?_
            refine g_iadd hX dX5_note_103 ?_
            refine g_put5I hX 5 dX5_note_104 b_fl_X5_87 hm.k0 pf5_5 ?_
            try simp (disch := decide) only [rS_eq, rS_ne, rS_rS, pk_un, pk_us]
            refine g_aload_n hX dX5_note_107 rfl rfl ?_
            refine g_get5I hX 5 dX5_note_108 b_fl_X5_87 hm.k0 (by decide) ?_
            try simp (disch := decide) only [rS_eq, rS_ne, rS_rS, pk_un, pk_us]
            exact g_iret hX dX5_note_111 rfl (by rw [spNote, if_neg (fun z => z ⟨by rw [xd]; exact b01_n c_5, b01_n c_14, b01_n c_24, b01_n c_34⟩), if_pos hlt]; refine ⟨vI (by rw [jq]), n, d, r, q + 1, p, m, ?_⟩; rw [jq]; exact h.note hlt)
          · refine g_aload_n hX dX5_note_51 rfl rfl ?_
            refine g_callV _ hX dX5_note_52 k_X5_101 ⟨by decide, by decide⟩ (by decide) hm.k0 rfl rfl (m_full hm) rfl (Nat.le_of_ble_eq_true rfl) (fun r1 I1 L1 hq => ?_)
            obtain ⟨rfl, rfl, rfl⟩ := hq
            exact g_iret hX dX5_note_55 rfl (by rw [spNote, if_neg (fun z => z ⟨by rw [xd]; exact b01_n c_5, b01_n c_14, b01_n c_24, b01_n c_34⟩), if_neg (by have := (nI_eq (by omega) (by decide)).mp c_48; omega)]; exact ⟨rfl, n, d, r, q, p, m, h.full⟩)
        · refine g_aload_n hX dX5_note_37 rfl rfl ?_
          refine g_callV _ hX dX5_note_38 k_X5_97 ⟨by decide, by decide⟩ (by decide) hm.k0 rfl rfl (m_bad hm) rfl (Nat.le_of_ble_eq_true rfl) (fun r1 I1 L1 hq => ?_)
          obtain ⟨rfl, rfl, rfl⟩ := hq
          exact g_iret hX dX5_note_41 rfl (by rw [spNote, if_pos (by intro z; first | exact b01_0 c_5 (xd ▸ z.1) | exact b01_0 c_14 z.2.1 | exact b01_0 c_24 z.2.2.1 | exact b01_0 c_34 z.2.2.2)]; exact ⟨rfl, n, d, r, q, p, m, h.bad⟩)
set_option maxHeartbeats 4000000 in
set_option maxRecDepth 100000 in
theorem n_forget {w : WG} {I : SI} {L : SL} {XI : SI} {n d r q p m : Nat} (hm : ML w) (h : RR XI I L n d r q p m)  : Ok w mX5_forget [.ref (gA w 0)] I L (QM (spForget XI)) := by
  obtain ⟨hRX, hRJ, hRF⟩ := id h
  obtain ⟨⟨xn, xn4, xd, xd7, xr, xr9⟩, ⟨xq, xq6⟩, ⟨xp, xp8⟩, ⟨xm, xm150⟩, xA, xH, xD, xP, xT⟩ := id hRX
  obtain ⟨⟨jn, -, jd, -, jB, jK⟩, jr, ja, jq, jp, jm, jH, jN, jP, jT⟩ := RJ_v hRJ
  have hRV : RV (vx XI 1) I n d := hRJ.1
  have hMS := h.ms
  refine Ok.of (by decide) (Nat.le_of_ble_eq_true rfl) (fun X hX => ?_)
  refine g_aload_n hX dX5_forget_0 rfl rfl ?_
  refine g_get5I hX 5 dX5_forget_1 b_fl_X5_87 hm.k0 (by decide) ?_
  refine g_istore_n hX dX5_forget_4 rfl (by decide) ?_
  refine g_aload_n hX dX5_forget_5 rfl rfl ?_
  refine g_iconst (v := 0) hX dX5_forget_6 (by decide) ?_
  refine g_put5I hX 5 dX5_forget_7 b_fl_X5_87 hm.k0 pf5_5 ?_
  refine g_iload_n hX dX5_forget_10 rfl rfl ?_
  exact g_iret hX dX5_forget_11 rfl (⟨vI (jq.trans xq.symm), n, d, r, 0, p, m, h.forget⟩)
theorem nts_0 {J : SI} {p k : Nat} (h : k ≠ 27) : ntsJ J p 0 k = J 0 k := by
  unfold ntsJ; split <;> rw [rS_eq, pk_un h]
theorem nts_ne {J : SI} {p o : Nat} (h0 : o ≠ 0) (h16 : o ≠ 16) : ntsJ J p o = J o := by
  unfold ntsJ; split <;> rw [rS_ne _ _ _ h0, rS_ne _ _ _ h16]
theorem RR.bribe {I J : SI} {L : SL} {n d r q p m c k : Nat} (h : RR I J L n d r q p m) (hc : c < n) (hk : k < d) (hle : I 7 k ≤ I 3 c) : RR (wV I 1 (putV (keepV (vx I 1) p) c k)) (ptJ (ntsJ J p) c k) L n d r q (p1 p) m := by
  have := (h.keep).put hc hk (by rw [wV7, wV3, keepV_ne (by decide) (by decide), keepV_ne (by decide) (by decide)]; exact hle)
  rwa [vx_keep, wV_wV] at this
set_option maxHeartbeats 4000000 in
set_option maxRecDepth 100000 in
theorem n_bribe {w : WG} {I : SI} {L : SL} {XI : SI} {n d r q p m : Nat} (hm : ML w) (h : RR XI I L n d r q p m) (c k : Int32) : Ok w mX5_bribe [.ref (gA w 0), .int c, .int k] I L (QM (spBribe XI p c k)) := by
  obtain ⟨hRX, hRJ, hRF⟩ := id h
  obtain ⟨⟨xn, xn4, xd, xd7, xr, xr9⟩, ⟨xq, xq6⟩, ⟨xp, xp8⟩, ⟨xm, xm150⟩, xA, xH, xD, xP, xT⟩ := id hRX
  obtain ⟨⟨jn, -, jd, -, jB, jK⟩, jr, ja, jq, jp, jm, jH, jN, jP, jT⟩ := RJ_v hRJ
  have hRV : RV (vx XI 1) I n d := hRJ.1
  have hMS := h.ms
  refine Ok.of (by decide) (Nat.le_of_ble_eq_true rfl) (fun X hX => ?_)
  refine g_aload_n hX dX5_bribe_0 rfl rfl ?_
  refine g_iload_n hX dX5_bribe_1 rfl rfl ?_
  refine g_callVp _ hX dX5_bribe_2 k_X5_206 ⟨by decide, by decide⟩ (by decide) hm.k0 rfl rfl (m_isMan hm jn (by omega) _) rfl (Nat.le_of_ble_eq_true rfl) ?_
  refine g_if_eq (tgt := 16) hX dX5_bribe_5 (by decide) (fun c_5 => ?_) (fun c_5 => ?_)
  · refine g_aload_n hX dX5_bribe_16 rfl rfl ?_
    refine g_callV _ hX dX5_bribe_17 k_X5_97 ⟨by decide, by decide⟩ (by decide) hm.k0 rfl rfl (m_bad hm) rfl (Nat.le_of_ble_eq_true rfl) (fun r1 I1 L1 hq => ?_)
    obtain ⟨rfl, rfl, rfl⟩ := hq
    exact g_iret hX dX5_bribe_20 rfl (by rw [spBribe, if_pos (by intro z; first | exact b01_0 c_5 (xn ▸ z.1) | exact b01_0 c_13 (xd ▸ z.2))]; exact ⟨rfl, n, d, r, q, p, m, h.bad⟩)
  · refine g_aload_n hX dX5_bribe_8 rfl rfl ?_
    refine g_iload_n hX dX5_bribe_9 rfl rfl ?_
    refine g_callVp _ hX dX5_bribe_10 k_X5_209 ⟨by decide, by decide⟩ (by decide) hm.k0 rfl rfl (m_isDog hm jd (by omega) _) rfl (Nat.le_of_ble_eq_true rfl) ?_
    refine g_if_ne (tgt := 21) hX dX5_bribe_13 (by decide) (fun c_13 => ?_) (fun c_13 => ?_)
    · obtain ⟨c, hc, rfl⟩ := ix (b01_n c_5) (by omega)
      obtain ⟨k, hk, rfl⟩ := ix (b01_n c_13) (by omega)
      refine g_aload_n hX dX5_bribe_21 rfl rfl ?_
      refine g_get5I hX 4 dX5_bribe_22 b_fl_X5_84 hm.k0 (by decide) ?_
      try simp (disch := decide) only [rS_eq, rS_ne, rS_rS, pk_un, pk_us]
      refine g_iload_n hX dX5_bribe_25 rfl rfl ?_
      refine g_callSp _ hX dX5_bribe_26 k_X5_158 ⟨by decide, by decide⟩ rfl (ok_has _ _) rfl (Nat.le_of_ble_eq_true rfl) ?_
      refine g_if_ne (tgt := 47) hX dX5_bribe_29 (by decide) (fun c_29 => ?_) (fun c_29 => ?_)
      · refine g_aload_n hX dX5_bribe_47 rfl rfl ?_
        refine g_callV _ hX dX5_bribe_48 k_X5_212 ⟨by decide, by decide⟩ (by decide) hm.k0 rfl rfl (m_no hm) rfl (Nat.le_of_ble_eq_true rfl) (fun r1 I1 L1 hq => ?_)
        obtain ⟨rfl, rfl, rfl⟩ := hq
        exact g_iret hX dX5_bribe_51 rfl (by have e1 := (jH c hc).1; have e2 := (jK k hk).2.2.1; rw [spBribe, if_neg (fun z => z ⟨by rw [xn]; exact b01_n c_5, by rw [xd]; exact b01_n c_13⟩), nI_clamp (by omega), nI_clamp (by omega), if_neg (fun z => c_29 (ja ▸ z.1))]; exact ⟨rfl, n, d, r, q, p, m, h.no⟩)
      · refine g_aload_n hX dX5_bribe_32 rfl rfl ?_
        refine g_get5R hX 7 dX5_bribe_33 b_fl_X5_16 hm.k0 (by decide) hm.q3 ?_
        refine g_iload_n hX dX5_bribe_36 rfl rfl ?_
        refine g_ialdN hX dX5_bribe_37 hm.k3 (⟨rfl, by omega⟩) (by decide) ?_
        try simp (disch := decide) only [rS_eq, rS_ne, rS_rS, pk_un, pk_us]
        refine g_aload_n hX dX5_bribe_38 rfl rfl ?_
        refine g_get5R hX 11 dX5_bribe_39 b_fl_X5_28 hm.k0 (by decide) hm.q7 ?_
        refine g_iload_n hX dX5_bribe_42 rfl rfl ?_
        refine g_ialdN hX dX5_bribe_43 hm.k7 (⟨rfl, by omega⟩) (by decide) ?_
        try simp (disch := decide) only [rS_eq, rS_ne, rS_rS, pk_un, pk_us]
        refine g_icmp_ge (tgt := 52) hX dX5_bribe_44 (by decide) (fun c_44 => ?_) (fun c_44 => ?_)
        · refine g_aload_n hX dX5_bribe_52 rfl rfl ?_
          refine g_callV _ hX dX5_bribe_53 k_X5_215 ⟨by decide, by decide⟩ (by decide) hm.k0 rfl rfl (m_notes hm jp xp8) rfl (Nat.le_of_ble_eq_true rfl) (fun r1 I1 L1 hq => ?_)
          obtain ⟨rfl, rfl, rfl⟩ := hq
          refine g_aload_n hX dX5_bribe_56 rfl rfl ?_
          refine g_dup hX dX5_bribe_57 rfl ?_
          refine g_get5I hX 4 dX5_bribe_58 b_fl_X5_84 hm.k0 (by decide) ?_
          try simp (disch := decide) only [rS_eq, rS_ne, rS_rS, pk_un, pk_us]
          refine g_iconst (v := 1) hX dX5_bribe_61 (by decide) ?_
          refine g_iload_n hX dX5_bribe_62 rfl rfl ?_
          refine g_ishl hX dX5_bribe_63 ?_
          refine g_ior hX dX5_bribe_64 ?_
          refine g_put5I hX 4 dX5_bribe_65 b_fl_X5_84 hm.k0 pf5_4 ?_
          try simp (disch := decide) only [rS_eq, rS_ne, rS_rS, pk_un, pk_us]
          refine g_aload_n hX dX5_bribe_68 rfl rfl ?_
          refine g_get5R hX 7 dX5_bribe_69 b_fl_X5_16 hm.k0 (by decide) hm.q3 ?_
          refine g_iload_n hX dX5_bribe_72 rfl rfl ?_
          refine g_dup2 hX dX5_bribe_73 rfl rfl ?_
          refine g_ialdN hX dX5_bribe_74 hm.k3 (⟨rfl, by omega⟩) (by decide) ?_
          try simp (disch := decide) only [rS_eq, rS_ne, rS_rS, pk_un, pk_us]
          refine g_aload_n hX dX5_bribe_75 rfl rfl ?_
          refine g_get5R hX 11 dX5_bribe_76 b_fl_X5_28 hm.k0 (by decide) hm.q7 ?_
          refine g_iload_n hX dX5_bribe_79 rfl rfl ?_
          refine g_ialdN hX dX5_bribe_80 hm.k7 (⟨rfl, by omega⟩) (by decide) ?_
          try simp (disch := decide) only [rS_eq, rS_ne, rS_rS, pk_un, pk_us]
          refine g_isub hX dX5_bribe_81 ?_
          refine g_iastN hX dX5_bribe_82 hm.k3 (⟨rfl, by omega⟩) (by decide) ?_
          try simp (disch := decide) only [rS_eq, rS_ne, rS_rS, pk_un, pk_us]
          refine g_aload_n hX dX5_bribe_83 rfl rfl ?_
          refine g_get5R hX 7 dX5_bribe_84 b_fl_X5_16 hm.k0 (by decide) hm.q3 ?_
          refine g_iload_n hX dX5_bribe_87 rfl rfl ?_
          refine g_ialdN hX dX5_bribe_88 hm.k3 (⟨rfl, by omega⟩) (by decide) ?_
          try simp (disch := decide) only [rS_eq, rS_ne, rS_rS, pk_un, pk_us]
          exact g_iret hX dX5_bribe_89 rfl (by have e1 := (jH c hc).1; have e2 := (jK k hk).2.2.1; rw [spBribe, if_neg (fun z => z ⟨by rw [xn]; exact b01_n c_5, by rw [xd]; exact b01_n c_13⟩), nI_clamp (by omega), nI_clamp (by omega), if_pos ⟨ja ▸ c_29, by rw [← e1, ← e2]; exact c_44⟩]; refine ⟨vI ?_, n, d, r, q, p1 p, m, h.bribe hc hk (by rw [← e1, ← e2]; exact c_44)⟩; rw [nts_ne (by decide) (by decide), nts_ne (by decide) (by decide), e1, e2])
        · refine g_aload_n hX dX5_bribe_47 rfl rfl ?_
          refine g_callV _ hX dX5_bribe_48 k_X5_212 ⟨by decide, by decide⟩ (by decide) hm.k0 rfl rfl (m_no hm) rfl (Nat.le_of_ble_eq_true rfl) (fun r1 I1 L1 hq => ?_)
          obtain ⟨rfl, rfl, rfl⟩ := hq
          exact g_iret hX dX5_bribe_51 rfl (by have e1 := (jH c hc).1; have e2 := (jK k hk).2.2.1; rw [spBribe, if_neg (fun z => z ⟨by rw [xn]; exact b01_n c_5, by rw [xd]; exact b01_n c_13⟩), nI_clamp (by omega), nI_clamp (by omega), if_neg (fun z => c_44 (by rw [e1, e2]; exact z.2))]; exact ⟨rfl, n, d, r, q, p, m, h.no⟩)
    · refine g_aload_n hX dX5_bribe_16 rfl rfl ?_
      refine g_callV _ hX dX5_bribe_17 k_X5_97 ⟨by decide, by decide⟩ (by decide) hm.k0 rfl rfl (m_bad hm) rfl (Nat.le_of_ble_eq_true rfl) (fun r1 I1 L1 hq => ?_)
      obtain ⟨rfl, rfl, rfl⟩ := hq
      exact g_iret hX dX5_bribe_20 rfl (by rw [spBribe, if_pos (by intro z; first | exact b01_0 c_5 (xn ▸ z.1) | exact b01_0 c_13 (xd ▸ z.2))]; exact ⟨rfl, n, d, r, q, p, m, h.bad⟩)
theorem RR.round {I J J2 : SI} {L : SL} {n d r q p m g : Nat} (h : RR I J L n d r q p m) (hg : r + g ≤ 999) (hs : MS (keepV (vx I 1) p) J2 n d (ahF (keepV (vx I 1) p) n d r g) (if g = 0 then I 1 2 else 0) (r + g)) (hf : Fr (ntsJ J p) J2) : RR (wV I 1 (rdV (keepV (vx I 1) p) n d r g)) J2 L n d (r + g) q (p1 p) m := by
  have := (h.keep).rounds hg (J2 := J2) (by rw [vx_keep, wV1, keepV_0 (by decide)]; exact hs) hf
  rwa [vx_keep, wV_wV] at this
set_option maxHeartbeats 4000000 in
set_option maxRecDepth 100000 in
theorem n_round {w : WG} {I : SI} {L : SL} {XI : SI} {n d r q p m : Nat} (hm : ML w) (h : RR XI I L n d r q p m) (u : Int32) : Ok w mX5_round [.ref (gA w 0), .int u] I L (QM (spRound XI n d r p u)) := by
  obtain ⟨hRX, hRJ, hRF⟩ := id h
  obtain ⟨⟨xn, xn4, xd, xd7, xr, xr9⟩, ⟨xq, xq6⟩, ⟨xp, xp8⟩, ⟨xm, xm150⟩, xA, xH, xD, xP, xT⟩ := id hRX
  obtain ⟨⟨jn, -, jd, -, jB, jK⟩, jr, ja, jq, jp, jm, jH, jN, jP, jT⟩ := RJ_v hRJ
  have hRV : RV (vx XI 1) I n d := hRJ.1
  have hMS := h.ms
  refine Ok.of (by decide) (Nat.le_of_ble_eq_true rfl) (fun X hX => ?_)
  refine g_iload_n hX dX5_round_0 rfl rfl ?_
  refine g_iconst (v := 1) hX dX5_round_1 (by decide) ?_
  refine g_bipush (v := 30) hX dX5_round_2 (by decide) ?_
  refine g_callSp _ hX dX5_round_4 k_X5_93 ⟨by decide, by decide⟩ rfl (ok_in _ _ _) rfl (Nat.le_of_ble_eq_true rfl) ?_
  refine g_if_ne (tgt := 15) hX dX5_round_7 (by decide) (fun c_7 => ?_) (fun c_7 => ?_)
  · have hv := b01_n c_7
    obtain ⟨u, hu, rfl⟩ := ix2 (n := 30) rfl (by decide) ⟨Int32.le_trans (by decide) hv.1, hv.2⟩
    have loop := loop_up (n := min u (999 - r)) (P := fun i => ∀ J : SI, MS (keepV (vx XI 1) p) J n d (ahF (keepV (vx XI 1) p) n d r i) (if i = 0 then XI 1 2 else 0) (r + i) → Fr (ntsJ I p) J → G X w mX5_round J L 21 (lvO [(0, .ref (gA w 0)), (1, .int (nI u)), (2, .int (nI i))]) []) (fun i hk ih J hs hf => by
      refine g_iload_n hX dX5_round_21 rfl rfl ?_
      refine g_iload_n hX dX5_round_22 rfl rfl ?_
      refine g_icmp_ge (tgt := 46) hX dX5_round_23 (by decide) (fun c_23 => ?_) (fun c_23 => ?_)
      · refine g_aload_n hX dX5_round_46 rfl rfl ?_
        refine g_callVp _ hX dX5_round_47 k_X5_221 ⟨by decide, by decide⟩ (by decide) hm.k0 rfl rfl (m_postman hm hs.1.1 xn4) rfl (Nat.le_of_ble_eq_true rfl) ?_
        exact g_iret hX dX5_round_50 rfl (by have eg : i = min u (999 - r) := (by have := nle c_23 (by omega) (by omega); omega); rw [spRound, if_neg (fun z => z hv), nI_clamp (by omega), ← eg]; exact ⟨vI (pmF_congr n (by omega) (fun c hc => hs.2.2.2 c hc)), n, d, r + i, q, p1 p, m, h.round (by omega) hs hf⟩)
      · have hlm := nnle c_23 (by omega) (by omega)
        refine g_aload_n hX dX5_round_26 rfl rfl ?_
        refine g_get5I hX 3 dX5_round_27 b_fl_X5_81 hm.k0 (by decide) ?_
        refine g_sipush (v := 999) hX dX5_round_30 (by decide) ?_
        rw [hs.2.1, show (999 : Int32) = nI 999 from rfl]
        refine g_icmp_ge (tgt := 46) hX dX5_round_33 (by decide) (fun c_33 => ?_) (fun c_33 => ?_)
        · refine g_aload_n hX dX5_round_46 rfl rfl ?_
          refine g_callVp _ hX dX5_round_47 k_X5_221 ⟨by decide, by decide⟩ (by decide) hm.k0 rfl rfl (m_postman hm hs.1.1 xn4) rfl (Nat.le_of_ble_eq_true rfl) ?_
          exact g_iret hX dX5_round_50 rfl (by have eg : i = min u (999 - r) := (by have := nle c_33 (by omega) (by omega); omega); rw [spRound, if_neg (fun z => z hv), nI_clamp (by omega), ← eg]; exact ⟨vI (pmF_congr n (by omega) (fun c hc => hs.2.2.2 c hc)), n, d, r + i, q, p1 p, m, h.round (by omega) hs hf⟩)
        · have hlr := nnle c_33 (by omega) (by omega)
          refine g_aload_n hX dX5_round_36 rfl rfl ?_
          refine g_callV _ hX dX5_round_37 k_X5_218 ⟨by decide, by decide⟩ (by decide) hm.k0 rfl rfl (m_pass hm hs (by omega)) rfl (Nat.le_of_ble_eq_true rfl) (fun r1 J1 L1 hq => ?_)
          obtain ⟨rfl, rfl, hs1, hf1⟩ := hq
          refine g_iinc hX dX5_round_40 rfl (d := 1) (by decide) ?_
          refine g_goto (tgt := 21) hX dX5_round_43 (by decide) ?_
          exact G.at (ih (by omega) J1 (by have := hs1; rw [show ahF (keepV (vx XI 1) p) n d r (i + 1) = rndF (keepV (vx XI 1) p) n d (r + i) (if i = 0 then XI 1 2 else 0) (ahF (keepV (vx XI 1) p) n d r i) from by rw [ahF, keepV_0 (by decide)]; rfl]; exact this) (hf.tr hf1)) ⟨rfl, rfl, vI (nI_1 i), trivial⟩
      )
    refine g_aload_n hX dX5_round_15 rfl rfl ?_
    refine g_callV _ hX dX5_round_16 k_X5_215 ⟨by decide, by decide⟩ (by decide) hm.k0 rfl rfl (m_notes hm jp xp8) rfl (Nat.le_of_ble_eq_true rfl) (fun r1 I1 L1 hq => ?_)
    obtain ⟨rfl, rfl, rfl⟩ := hq
    refine g_iconst (v := 0) hX dX5_round_19 (by decide) ?_
    refine g_istore_n hX dX5_round_20 rfl (by decide) ?_
    have hk0 := (h.keep).ms
    rw [vx_keep, wV1, keepV_0 (by decide)] at hk0
    exact G.at (loop 0 (Nat.zero_le _) _ hk0 Fr.rf) ⟨rfl, rfl, rfl, trivial⟩
  · refine g_aload_n hX dX5_round_10 rfl rfl ?_
    refine g_callV _ hX dX5_round_11 k_X5_97 ⟨by decide, by decide⟩ (by decide) hm.k0 rfl rfl (m_bad hm) rfl (Nat.le_of_ble_eq_true rfl) (fun r1 I1 L1 hq => ?_)
    obtain ⟨rfl, rfl, rfl⟩ := hq
    exact g_iret hX dX5_round_14 rfl (by rw [spRound, if_pos (b01_0 c_7)]; exact ⟨rfl, n, d, r, q, p, m, h.bad⟩)
set_option maxHeartbeats 4000000 in
set_option maxRecDepth 100000 in
theorem n_undo {w : WG} {I : SI} {L : SL} {XI : SI} {n d r q p m : Nat} (hm : ML w) (h : RR XI I L n d r q p m)  : Ok w mX5_undo [.ref (gA w 0)] I L (QM (spUndo XI p)) := by
  obtain ⟨hRX, hRJ, hRF⟩ := id h
  obtain ⟨⟨xn, xn4, xd, xd7, xr, xr9⟩, ⟨xq, xq6⟩, ⟨xp, xp8⟩, ⟨xm, xm150⟩, xA, xH, xD, xP, xT⟩ := id hRX
  obtain ⟨⟨jn, -, jd, -, jB, jK⟩, jr, ja, jq, jp, jm, jH, jN, jP, jT⟩ := RJ_v hRJ
  have hRV : RV (vx XI 1) I n d := hRJ.1
  have hMS := h.ms
  refine Ok.of (by decide) (Nat.le_of_ble_eq_true rfl) (fun X hX => ?_)
  refine g_aload_n hX dX5_undo_0 rfl rfl ?_
  refine g_get5I hX 27 dX5_undo_1 b_fl_X5_90 hm.k0 (by decide) ?_
  try simp (disch := decide) only [rS_eq, rS_ne, rS_rS, pk_un, pk_us]
  rw [jp]
  refine g_if_ne (tgt := 12) hX dX5_undo_4 (by decide) (fun c_4 => ?_) (fun c_4 => ?_)
  · obtain ⟨u, rfl⟩ : ∃ u, p = u + 1 := ⟨p - 1, (Nat.succ_pred_eq_of_ne_zero (fun e => c_4 (by rw [e]; rfl))).symm⟩
    refine g_aload_n hX dX5_undo_12 rfl rfl ?_
    refine g_dup hX dX5_undo_13 rfl ?_
    refine g_get5I hX 27 dX5_undo_14 b_fl_X5_90 hm.k0 (by decide) ?_
    try simp (disch := decide) only [rS_eq, rS_ne, rS_rS, pk_un, pk_us]
    rw [jp]
    refine g_iconst (v := 1) hX dX5_undo_17 (by decide) ?_
    refine g_isub hX dX5_undo_18 ?_
    rw [nI_pred]
    refine g_put5I hX 27 dX5_undo_19 b_fl_X5_90 hm.k0 pf5_27 ?_
    try simp (disch := decide) only [rS_eq, rS_ne, rS_rS, pk_un, pk_us]
    refine g_aload_n hX dX5_undo_22 rfl rfl ?_
    refine g_aload_n hX dX5_undo_23 rfl rfl ?_
    refine g_get5R hX 26 dX5_undo_24 b_fl_X5_55 hm.k0 (by decide) hm.q16 ?_
    refine g_bipush (v := 10) hX dX5_undo_27 (by decide) ?_
    refine g_aload_n hX dX5_undo_29 rfl rfl ?_
    refine g_get5I hX 27 dX5_undo_30 b_fl_X5_90 hm.k0 (by decide) ?_
    try simp (disch := decide) only [rS_eq, rS_ne, rS_rS, pk_un, pk_us]
    refine g_imul hX dX5_undo_33 ?_
    rw [show (10 : Int32) = nI 10 from rfl, pk_mul, Nat.mul_comm]
    refine g_callV _ hX dX5_undo_34 k_X5_203 ⟨by decide, by decide⟩ (by decide) hm.k0 rfl rfl (m_takes (a := u * 10) hm hm.k16 (by decide) (by omega) ⟨by decide, by decide, by decide⟩) rfl (Nat.le_of_ble_eq_true rfl) (fun r1 I1 L1 hq => ?_)
    obtain ⟨rfl, rfl, rfl⟩ := hq
    refine g_aload_n hX dX5_undo_37 rfl rfl ?_
    refine g_get5I hX 3 dX5_undo_38 b_fl_X5_81 hm.k0 (by decide) ?_
    try simp (disch := decide) only [rS_eq, rS_ne, rS_rS, pk_un, pk_us]
    exact g_iret hX dX5_undo_41 rfl (by obtain ⟨r9, h9⟩ := h.undo; rw [spUndo, if_neg (by omega)]; refine ⟨vI ?_, n, d, r9, q, u, m, ?_⟩; exact ((jP u (by omega)).1).trans (by rw [Nat.add_sub_cancel]); exact h9)
  · refine g_aload_n hX dX5_undo_7 rfl rfl ?_
    refine g_callV _ hX dX5_undo_8 k_X5_212 ⟨by decide, by decide⟩ (by decide) hm.k0 rfl rfl (m_no hm) rfl (Nat.le_of_ble_eq_true rfl) (fun r1 I1 L1 hq => ?_)
    obtain ⟨rfl, rfl, rfl⟩ := hq
    exact g_iret hX dX5_undo_11 rfl (by rw [spUndo, if_pos ((nI_eq (by omega) (by decide)).mp c_4)]; exact ⟨rfl, n, d, r, q, p, m, h.no⟩)
