theorem i_or0 (x : Int32) : x ||| 0 = x := b_ext (fun i _ => by rw [b_or, b_0, Bool.or_false])
theorem i_0or (x : Int32) : 0 ||| x = x := b_ext (fun i _ => by rw [b_or, b_0, Bool.false_or])
theorem i_and0 (x : Int32) : x &&& 0 = 0 := b_ext (fun i _ => by rw [b_and, b_0, Bool.and_false])
theorem i_0and (x : Int32) : 0 &&& x = 0 := b_ext (fun i _ => by rw [b_and, b_0, Bool.false_and])
theorem and1 (x : Int32) : x &&& 1 = 0 ∨ x &&& 1 = 1 := by
  have b1 : ∀ i, i < 32 → i ≠ 0 → bt 1 i = false := by decide +kernel
  by_cases q : bt x 0 = true
  · right
    apply b_ext; intro i hi
    by_cases h0 : i = 0
    · subst h0; rw [b_and, q]; rfl
    · rw [b_and, b1 i hi h0, Bool.and_false]
  · left
    apply b_ext; intro i hi
    by_cases h0 : i = 0
    · subst h0; rw [b_and, (Bool.not_eq_true _).mp q, b_0]; rfl
    · rw [b_and, b1 i hi h0, Bool.and_false, b_0]
theorem and1_inF (s k : Int32) : (s >>> (k &&& 31)) &&& 1 = inF s k := by
  unfold inF
  rcases and1 (s >>> (k &&& 31)) with e | e <;> rw [e] <;> rfl
set_option maxHeartbeats 4000000 in
set_option maxRecDepth 100000 in
theorem n_of {w : WG} {I : SI} {L : SL} {XI : SI} {n d r q p m : Nat} (hm : ML w) (h : RR XI I L n d r q p m) (c a : Int32) : Ok w mX5_of [.ref (gA w 0), .int c, .int a] I L (QM (spOf XI c a)) := by
  obtain ⟨hRX, hRJ, hRF⟩ := id h
  obtain ⟨⟨xn, xn4, xd, xd7, xr, xr9⟩, ⟨xq, xq6⟩, ⟨xp, xp8⟩, ⟨xm, xm150⟩, xA, xH, xD, xP, xT⟩ := id hRX
  obtain ⟨⟨jn, -, jd, -, jB, jK⟩, jr, ja, jq, jp, jm, jH, jN, jP, jT⟩ := RJ_v hRJ
  have hRV : RV (vx XI 1) I n d := hRJ.1
  have hMS := h.ms
  refine Ok.of (by decide) (Nat.le_of_ble_eq_true rfl) (fun X hX => ?_)
  refine g_aload_n hX dX5_of_0 rfl rfl ?_
  refine g_iload_n hX dX5_of_1 rfl rfl ?_
  refine g_callVp _ hX dX5_of_2 k_X5_206 ⟨by decide, by decide⟩ (by decide) hm.k0 rfl rfl (m_isMan hm jn (by omega) _) rfl (Nat.le_of_ble_eq_true rfl) ?_
  refine g_if_eq (tgt := 17) hX dX5_of_5 (by decide) (fun c_5 => ?_) (fun c_5 => ?_)
  · refine g_aload_n hX dX5_of_17 rfl rfl ?_
    refine g_callV _ hX dX5_of_18 k_X5_97 ⟨by decide, by decide⟩ (by decide) hm.k0 rfl rfl (m_bad hm) rfl (Nat.le_of_ble_eq_true rfl) (fun r1 I1 L1 hq => ?_)
    obtain ⟨rfl, rfl, rfl⟩ := hq
    exact g_iret hX dX5_of_21 rfl (by rw [spOf, if_pos (fun z => b01_0 c_5 (xn ▸ z))]; exact ⟨rfl, n, d, r, q, p, m, h.bad⟩)
  · refine g_iload_n hX dX5_of_8 rfl rfl ?_
    refine g_iconst (v := 0) hX dX5_of_9 (by decide) ?_
    refine g_iconst (v := 2) hX dX5_of_10 (by decide) ?_
    refine g_callSp _ hX dX5_of_11 k_X5_93 ⟨by decide, by decide⟩ rfl (ok_in _ _ _) rfl (Nat.le_of_ble_eq_true rfl) ?_
    refine g_if_ne (tgt := 22) hX dX5_of_14 (by decide) (fun c_14 => ?_) (fun c_14 => ?_)
    · obtain ⟨c, hc, rfl⟩ := ix (b01_n c_5) (by omega)
      obtain ⟨a, ha, rfl⟩ := ix2 (n := 2) rfl (by decide) (b01_n c_14)
      refine g_iload_n hX dX5_of_22 rfl rfl ?_
      refine g_if_ne (tgt := 35) hX dX5_of_23 (by decide) (fun c_23 => ?_) (fun c_23 => ?_)
      · refine g_iload_n hX dX5_of_35 rfl rfl ?_
        refine g_iconst (v := 1) hX dX5_of_36 (by decide) ?_
        refine g_icmp_ne (tgt := 49) hX dX5_of_37 (by decide) (fun c_37 => ?_) (fun c_37 => ?_)
        · refine g_aload_n hX dX5_of_49 rfl rfl ?_
          refine g_get5R hX 8 dX5_of_50 b_fl_X5_19 hm.k0 (by decide) hm.q4 ?_
          refine g_iload_n hX dX5_of_53 rfl rfl ?_
          refine g_ialdN hX dX5_of_54 hm.k4 (⟨rfl, by omega⟩) (by decide) ?_
          exact g_iret hX dX5_of_55 rfl (by have e2 : nI a = 2 := (by rcases (show a = 0 ∨ a = 1 ∨ a = 2 by omega) with rfl | rfl | rfl; exact absurd rfl c_23; exact absurd rfl c_37; rfl); rw [spOf, if_neg (fun z => z ⟨nI_pos' (by omega), by rw [xn]; exact nI_lt hc (by omega)⟩), nI_clamp (by omega), if_neg c_23, if_neg c_37, if_pos e2]; exact ⟨vI (jH c hc).2, n, d, r, q, p, m, h⟩)
        · refine g_aload_n hX dX5_of_40 rfl rfl ?_
          refine g_get5R hX 7 dX5_of_41 b_fl_X5_16 hm.k0 (by decide) hm.q3 ?_
          refine g_iload_n hX dX5_of_44 rfl rfl ?_
          refine g_ialdN hX dX5_of_45 hm.k3 (⟨rfl, by omega⟩) (by decide) ?_
          refine g_goto (tgt := 55) hX dX5_of_46 (by decide) ?_
          exact g_iret hX dX5_of_55 rfl (by rw [spOf, if_neg (fun z => z ⟨nI_pos' (by omega), by rw [xn]; exact nI_lt hc (by omega)⟩), nI_clamp (by omega), if_neg c_23, if_pos c_37]; exact ⟨vI (jH c hc).1, n, d, r, q, p, m, h⟩)
      · refine g_aload_n hX dX5_of_26 rfl rfl ?_
        refine g_get5R hX 6 dX5_of_27 b_fl_X5_13 hm.k0 (by decide) hm.q2 ?_
        refine g_iload_n hX dX5_of_30 rfl rfl ?_
        refine g_ialdN hX dX5_of_31 hm.k2 (⟨rfl, by omega⟩) (by decide) ?_
        refine g_goto (tgt := 55) hX dX5_of_32 (by decide) ?_
        exact g_iret hX dX5_of_55 rfl (by rw [spOf, if_neg (fun z => z ⟨nI_pos' (by omega), by rw [xn]; exact nI_lt hc (by omega)⟩), nI_clamp (by omega), if_pos c_23]; exact ⟨vI (jB c hc), n, d, r, q, p, m, h⟩)
    · refine g_aload_n hX dX5_of_17 rfl rfl ?_
      refine g_callV _ hX dX5_of_18 k_X5_97 ⟨by decide, by decide⟩ (by decide) hm.k0 rfl rfl (m_bad hm) rfl (Nat.le_of_ble_eq_true rfl) (fun r1 I1 L1 hq => ?_)
      obtain ⟨rfl, rfl, rfl⟩ := hq
      exact g_iret hX dX5_of_21 rfl (by rw [spOf]; split; exact ⟨rfl, n, d, r, q, p, m, h.bad⟩; rw [if_neg (fun e => b01_0 c_14 (by rw [e]; decide)), if_neg (fun e => b01_0 c_14 (by rw [e]; decide)), if_neg (fun e => b01_0 c_14 (by rw [e]; decide))]; exact ⟨rfl, n, d, r, q, p, m, h.bad⟩)
set_option maxHeartbeats 4000000 in
set_option maxRecDepth 100000 in
theorem n_about {w : WG} {I : SI} {L : SL} {XI : SI} {n d r q p m : Nat} (hm : ML w) (h : RR XI I L n d r q p m) (k a : Int32) : Ok w mX5_about [.ref (gA w 0), .int k, .int a] I L (QM (spAbout XI k a)) := by
  obtain ⟨hRX, hRJ, hRF⟩ := id h
  obtain ⟨⟨xn, xn4, xd, xd7, xr, xr9⟩, ⟨xq, xq6⟩, ⟨xp, xp8⟩, ⟨xm, xm150⟩, xA, xH, xD, xP, xT⟩ := id hRX
  obtain ⟨⟨jn, -, jd, -, jB, jK⟩, jr, ja, jq, jp, jm, jH, jN, jP, jT⟩ := RJ_v hRJ
  have hRV : RV (vx XI 1) I n d := hRJ.1
  have hMS := h.ms
  refine Ok.of (by decide) (Nat.le_of_ble_eq_true rfl) (fun X hX => ?_)
  refine g_aload_n hX dX5_about_0 rfl rfl ?_
  refine g_iload_n hX dX5_about_1 rfl rfl ?_
  refine g_callVp _ hX dX5_about_2 k_X5_209 ⟨by decide, by decide⟩ (by decide) hm.k0 rfl rfl (m_isDog hm jd (by omega) _) rfl (Nat.le_of_ble_eq_true rfl) ?_
  refine g_if_eq (tgt := 18) hX dX5_about_5 (by decide) (fun c_5 => ?_) (fun c_5 => ?_)
  · refine g_aload_n hX dX5_about_18 rfl rfl ?_
    refine g_callV _ hX dX5_about_19 k_X5_97 ⟨by decide, by decide⟩ (by decide) hm.k0 rfl rfl (m_bad hm) rfl (Nat.le_of_ble_eq_true rfl) (fun r1 I1 L1 hq => ?_)
    obtain ⟨rfl, rfl, rfl⟩ := hq
    exact g_iret hX dX5_about_22 rfl (by rw [spAbout, if_pos (fun z => b01_0 c_5 (xd ▸ z.1))]; exact ⟨rfl, n, d, r, q, p, m, h.bad⟩)
  · refine g_iload_n hX dX5_about_8 rfl rfl ?_
    refine g_iconst (v := 0) hX dX5_about_9 (by decide) ?_
    refine g_bipush (v := 6) hX dX5_about_10 (by decide) ?_
    refine g_callSp _ hX dX5_about_12 k_X5_93 ⟨by decide, by decide⟩ rfl (ok_in _ _ _) rfl (Nat.le_of_ble_eq_true rfl) ?_
    refine g_if_ne (tgt := 23) hX dX5_about_15 (by decide) (fun c_15 => ?_) (fun c_15 => ?_)
    · obtain ⟨k, hk, rfl⟩ := ix (b01_n c_5) (by omega)
      refine g_iload_n hX dX5_about_23 rfl rfl ?_
      by_cases s_24_0 : a = 0
      · refine g_tabIn (tgt := 64) hX dX5_about_24 (by rw [s_24_0]; decide) (by rw [s_24_0]; decide) (by rw [s_24_0]; rfl) (by decide) ?_
        refine g_aload_n hX dX5_about_64 rfl rfl ?_
        refine g_get5R hX 9 dX5_about_65 b_fl_X5_22 hm.k0 (by decide) hm.q5 ?_
        refine g_iload_n hX dX5_about_68 rfl rfl ?_
        refine g_ialdN hX dX5_about_69 hm.k5 (⟨rfl, by omega⟩) (by decide) ?_
        exact g_iret hX dX5_about_70 rfl (by rw [spAbout, if_neg (fun z => z ⟨⟨nI_pos' (by omega), by rw [xd]; exact nI_lt hk (by omega)⟩, b01_n c_15⟩), nI_clamp (by omega)]; exact ⟨vI (show _ = abF XI k a by rw [abF, if_pos s_24_0]; exact (jK k hk).1), n, d, r, q, p, m, h⟩)
      by_cases s_24_1 : a = 1
      · refine g_tabIn (tgt := 71) hX dX5_about_24 (by rw [s_24_1]; decide) (by rw [s_24_1]; decide) (by rw [s_24_1]; rfl) (by decide) ?_
        refine g_aload_n hX dX5_about_71 rfl rfl ?_
        refine g_get5R hX 10 dX5_about_72 b_fl_X5_25 hm.k0 (by decide) hm.q6 ?_
        refine g_iload_n hX dX5_about_75 rfl rfl ?_
        refine g_ialdN hX dX5_about_76 hm.k6 (⟨rfl, by omega⟩) (by decide) ?_
        exact g_iret hX dX5_about_77 rfl (by rw [spAbout, if_neg (fun z => z ⟨⟨nI_pos' (by omega), by rw [xd]; exact nI_lt hk (by omega)⟩, b01_n c_15⟩), nI_clamp (by omega)]; exact ⟨vI (show _ = abF XI k a by rw [abF, if_neg s_24_0, if_pos s_24_1]; exact (jK k hk).2.1), n, d, r, q, p, m, h⟩)
      by_cases s_24_2 : a = 2
      · refine g_tabIn (tgt := 78) hX dX5_about_24 (by rw [s_24_2]; decide) (by rw [s_24_2]; decide) (by rw [s_24_2]; rfl) (by decide) ?_
        refine g_aload_n hX dX5_about_78 rfl rfl ?_
        refine g_get5R hX 11 dX5_about_79 b_fl_X5_28 hm.k0 (by decide) hm.q7 ?_
        refine g_iload_n hX dX5_about_82 rfl rfl ?_
        refine g_ialdN hX dX5_about_83 hm.k7 (⟨rfl, by omega⟩) (by decide) ?_
        exact g_iret hX dX5_about_84 rfl (by rw [spAbout, if_neg (fun z => z ⟨⟨nI_pos' (by omega), by rw [xd]; exact nI_lt hk (by omega)⟩, b01_n c_15⟩), nI_clamp (by omega)]; exact ⟨vI (show _ = abF XI k a by rw [abF, if_neg s_24_0, if_neg s_24_1, if_pos s_24_2]; exact (jK k hk).2.2.1), n, d, r, q, p, m, h⟩)
      by_cases s_24_3 : a = 3
      · refine g_tabIn (tgt := 85) hX dX5_about_24 (by rw [s_24_3]; decide) (by rw [s_24_3]; decide) (by rw [s_24_3]; rfl) (by decide) ?_
        refine g_aload_n hX dX5_about_85 rfl rfl ?_
        refine g_get5R hX 12 dX5_about_86 b_fl_X5_31 hm.k0 (by decide) hm.q8 ?_
        refine g_iload_n hX dX5_about_89 rfl rfl ?_
        refine g_ialdN hX dX5_about_90 hm.k8 (⟨rfl, by omega⟩) (by decide) ?_
        exact g_iret hX dX5_about_91 rfl (by rw [spAbout, if_neg (fun z => z ⟨⟨nI_pos' (by omega), by rw [xd]; exact nI_lt hk (by omega)⟩, b01_n c_15⟩), nI_clamp (by omega)]; exact ⟨vI (show _ = abF XI k a by rw [abF, if_neg s_24_0, if_neg s_24_1, if_neg s_24_2, if_pos s_24_3]; exact (jK k hk).2.2.2), n, d, r, q, p, m, h⟩)
      by_cases s_24_4 : a = 4
      · refine g_tabIn (tgt := 92) hX dX5_about_24 (by rw [s_24_4]; decide) (by rw [s_24_4]; decide) (by rw [s_24_4]; rfl) (by decide) ?_
        refine g_aload_n hX dX5_about_92 rfl rfl ?_
        refine g_get5I hX 4 dX5_about_93 b_fl_X5_84 hm.k0 (by decide) ?_
        refine g_iload_n hX dX5_about_96 rfl rfl ?_
        refine g_ishr hX dX5_about_97 ?_
        refine g_iconst (v := 1) hX dX5_about_98 (by decide) ?_
        refine g_iand hX dX5_about_99 ?_
        exact g_iret hX dX5_about_100 rfl (by rw [spAbout, if_neg (fun z => z ⟨⟨nI_pos' (by omega), by rw [xd]; exact nI_lt hk (by omega)⟩, b01_n c_15⟩), nI_clamp (by omega)]; exact ⟨vI (show _ = abF XI k a by rw [abF, if_neg s_24_0, if_neg s_24_1, if_neg s_24_2, if_neg s_24_3, if_pos s_24_4]; exact (by rw [ja]; exact and1_inF _ _)), n, d, r, q, p, m, h⟩)
      by_cases s_24_5 : a = 5
      · refine g_tabIn (tgt := 101) hX dX5_about_24 (by rw [s_24_5]; decide) (by rw [s_24_5]; decide) (by rw [s_24_5]; rfl) (by decide) ?_
        refine g_aload_n hX dX5_about_101 rfl rfl ?_
        refine g_get5R hX 9 dX5_about_102 b_fl_X5_22 hm.k0 (by decide) hm.q5 ?_
        refine g_iload_n hX dX5_about_105 rfl rfl ?_
        refine g_ialdN hX dX5_about_106 hm.k5 (⟨rfl, by omega⟩) (by decide) ?_
        refine g_aload_n hX dX5_about_107 rfl rfl ?_
        refine g_get5R hX 10 dX5_about_108 b_fl_X5_25 hm.k0 (by decide) hm.q6 ?_
        refine g_iload_n hX dX5_about_111 rfl rfl ?_
        refine g_ialdN hX dX5_about_112 hm.k6 (⟨rfl, by omega⟩) (by decide) ?_
        refine g_callSp _ hX dX5_about_113 k_X5_189 ⟨by decide, by decide⟩ rfl (ok_holeBy _ _) rfl (Nat.le_of_ble_eq_true rfl) ?_
        exact g_iret hX dX5_about_116 rfl (by rw [spAbout, if_neg (fun z => z ⟨⟨nI_pos' (by omega), by rw [xd]; exact nI_lt hk (by omega)⟩, b01_n c_15⟩), nI_clamp (by omega)]; exact ⟨vI (show _ = abF XI k a by rw [abF, if_neg s_24_0, if_neg s_24_1, if_neg s_24_2, if_neg s_24_3, if_neg s_24_4, if_pos s_24_5]; exact (by rw [(jK k hk).1, (jK k hk).2.1])), n, d, r, q, p, m, h⟩)
      refine g_tabOut (tgt := 117) hX dX5_about_24 (tab_out (fun j h1 h2 => by rcases (show j = 0 ∨ j = 1 ∨ j = 2 ∨ j = 3 ∨ j = 4 ∨ j = 5 by omega) with rfl | rfl | rfl | rfl | rfl | rfl <;> assumption)) (by decide) ?_
      refine g_aload_n hX dX5_about_117 rfl rfl ?_
      refine g_get5R hX 9 dX5_about_118 b_fl_X5_22 hm.k0 (by decide) hm.q5 ?_
      refine g_iload_n hX dX5_about_121 rfl rfl ?_
      refine g_ialdN hX dX5_about_122 hm.k5 (⟨rfl, by omega⟩) (by decide) ?_
      refine g_callSp _ hX dX5_about_123 k_X5_179 ⟨by decide, by decide⟩ rfl (ok_bitesMany _) rfl (Nat.le_of_ble_eq_true rfl) ?_
      exact g_iret hX dX5_about_126 rfl (by rw [spAbout, if_neg (fun z => z ⟨⟨nI_pos' (by omega), by rw [xd]; exact nI_lt hk (by omega)⟩, b01_n c_15⟩), nI_clamp (by omega)]; exact ⟨vI (show _ = abF XI k a by rw [abF, if_neg s_24_0, if_neg s_24_1, if_neg s_24_2, if_neg s_24_3, if_neg s_24_4, if_neg s_24_5]; exact (by rw [(jK k hk).1])), n, d, r, q, p, m, h⟩)
    · refine g_aload_n hX dX5_about_18 rfl rfl ?_
      refine g_callV _ hX dX5_about_19 k_X5_97 ⟨by decide, by decide⟩ (by decide) hm.k0 rfl rfl (m_bad hm) rfl (Nat.le_of_ble_eq_true rfl) (fun r1 I1 L1 hq => ?_)
      obtain ⟨rfl, rfl, rfl⟩ := hq
      exact g_iret hX dX5_about_22 rfl (by rw [spAbout, if_pos (fun z => b01_0 c_15 z.2)]; exact ⟨rfl, n, d, r, q, p, m, h.bad⟩)
set_option maxHeartbeats 4000000 in
set_option maxRecDepth 100000 in
theorem n_bitten {w : WG} {I : SI} {L : SL} {XI : SI} {n d r q p m : Nat} (hm : ML w) (h : RR XI I L n d r q p m) (c a : Int32) : Ok w mX5_bitten [.ref (gA w 0), .int c, .int a] I L (QM (spBitten XI n d r c a)) := by
  obtain ⟨hRX, hRJ, hRF⟩ := id h
  obtain ⟨⟨xn, xn4, xd, xd7, xr, xr9⟩, ⟨xq, xq6⟩, ⟨xp, xp8⟩, ⟨xm, xm150⟩, xA, xH, xD, xP, xT⟩ := id hRX
  obtain ⟨⟨jn, -, jd, -, jB, jK⟩, jr, ja, jq, jp, jm, jH, jN, jP, jT⟩ := RJ_v hRJ
  have hRV : RV (vx XI 1) I n d := hRJ.1
  have hMS := h.ms
  have hst : stF n r < 2000 := by unfold stF; split; omega; exact Nat.lt_of_le_of_lt (Nat.mod_le _ _) (by omega)
  refine Ok.of (by decide) (Nat.le_of_ble_eq_true rfl) (fun X hX => ?_)
  refine g_aload_n hX dX5_bitten_0 rfl rfl ?_
  refine g_iload_n hX dX5_bitten_1 rfl rfl ?_
  refine g_callVp _ hX dX5_bitten_2 k_X5_206 ⟨by decide, by decide⟩ (by decide) hm.k0 rfl rfl (m_isMan hm jn (by omega) _) rfl (Nat.le_of_ble_eq_true rfl) ?_
  refine g_if_eq (tgt := 17) hX dX5_bitten_5 (by decide) (fun c_5 => ?_) (fun c_5 => ?_)
  · refine g_aload_n hX dX5_bitten_17 rfl rfl ?_
    refine g_callV _ hX dX5_bitten_18 k_X5_97 ⟨by decide, by decide⟩ (by decide) hm.k0 rfl rfl (m_bad hm) rfl (Nat.le_of_ble_eq_true rfl) (fun r1 I1 L1 hq => ?_)
    obtain ⟨rfl, rfl, rfl⟩ := hq
    exact g_iret hX dX5_bitten_21 rfl (by rw [spBitten, if_pos (by intro z; first | exact b01_0 c_5 (xn ▸ z.1) | exact b01_0 c_14 z.2)]; exact ⟨rfl, n, d, r, q, p, m, h.bad⟩)
  · refine g_iload_n hX dX5_bitten_8 rfl rfl ?_
    refine g_iconst (v := 0) hX dX5_bitten_9 (by decide) ?_
    refine g_iconst (v := 1) hX dX5_bitten_10 (by decide) ?_
    refine g_callSp _ hX dX5_bitten_11 k_X5_93 ⟨by decide, by decide⟩ rfl (ok_in _ _ _) rfl (Nat.le_of_ble_eq_true rfl) ?_
    refine g_if_ne (tgt := 22) hX dX5_bitten_14 (by decide) (fun c_14 => ?_) (fun c_14 => ?_)
    · obtain ⟨c, hc, rfl⟩ := ix (b01_n c_5) (by omega)
      refine g_iload_n hX dX5_bitten_22 rfl rfl ?_
      refine g_iconst (v := 1) hX dX5_bitten_23 (by decide) ?_
      refine g_icmp_ne (tgt := 45) hX dX5_bitten_24 (by decide) (fun c_24 => ?_) (fun c_24 => ?_)
      · refine g_iconst (v := 0) hX dX5_bitten_45 (by decide) ?_
        refine g_istore_n hX dX5_bitten_46 rfl (by decide) ?_
        refine g_iconst (v := 0) hX dX5_bitten_47 (by decide) ?_
        refine g_istore hX dX5_bitten_48 (by decide) ?_
        have ea : a = 0 := (by obtain ⟨j, h1, rfl⟩ := ix2 (n := 1) rfl (by decide) (b01_n c_14); rcases (show j = 0 ∨ j = 1 by omega) with rfl | rfl; rfl; exact absurd rfl c_24)
        have loop := loop_up (n := d) (P := fun k => G X w mX5_bitten I L 50 (lvO [(0, .ref (gA w 0)), (1, .int (nI c)), (3, .int (bsR (vx XI 1 4) (vx XI 1 7) (vx XI 1 1) n (stF n r) (nI c) (XI 1 2) k)), (4, .int (nI k))]) []) (fun k hkd ih => by
          refine g_iload hX dX5_bitten_50 rfl ?_
          refine g_aload_n hX dX5_bitten_52 rfl rfl ?_
          refine g_get5I hX 2 dX5_bitten_53 b_fl_X5_78 hm.k0 (by decide) ?_
          rw [jd]
          refine g_icmp_ge (tgt := 106) hX dX5_bitten_56 (by decide) (fun c_56 => ?_) (fun c_56 => ?_)
          · refine g_iload_n hX dX5_bitten_106 rfl rfl ?_
            exact g_iret hX dX5_bitten_107 rfl (by rw [show k = d from Nat.le_antisymm hkd (nle c_56 (by omega) (by omega))]; rw [spBitten, if_neg (fun z => z ⟨⟨nI_pos' (by omega), by rw [xn]; exact nI_lt hc (by omega)⟩, b01_n c_14⟩), if_pos ea]; exact ⟨rfl, n, d, r, q, p, m, h⟩)
          · have hlt := nnle c_56 (by omega) (by omega)
            refine g_iload_n hX dX5_bitten_59 rfl rfl ?_
            refine g_aload_n hX dX5_bitten_60 rfl rfl ?_
            refine g_get5I hX 4 dX5_bitten_61 b_fl_X5_84 hm.k0 (by decide) ?_
            rw [ja]
            refine g_iload hX dX5_bitten_64 rfl ?_
            refine g_callSp _ hX dX5_bitten_66 k_X5_158 ⟨by decide, by decide⟩ rfl (ok_has _ _) rfl (Nat.le_of_ble_eq_true rfl) ?_
            refine g_if_ne (tgt := 97) hX dX5_bitten_69 (by decide) (fun c_69 => ?_) (fun c_69 => ?_)
            · refine g_iconst (v := 0) hX dX5_bitten_97 (by decide) ?_
              refine g_ior hX dX5_bitten_98 ?_
              refine g_istore_n hX dX5_bitten_99 rfl (by decide) ?_
              refine g_iinc hX dX5_bitten_100 rfl (d := 1) (by decide) ?_
              refine g_goto (tgt := 50) hX dX5_bitten_103 (by decide) ?_
              exact G.at (ih hlt) ⟨rfl, rfl, vI (by rw [bsR, if_neg (fun z => c_69 z.1), i_or0]), vI (nI_1 k), trivial⟩
            · refine g_aload_n hX dX5_bitten_72 rfl rfl ?_
              refine g_iload hX dX5_bitten_73 rfl ?_
              refine g_iload_n hX dX5_bitten_75 rfl rfl ?_
              refine g_aload_n hX dX5_bitten_76 rfl rfl ?_
              refine g_aload_n hX dX5_bitten_77 rfl rfl ?_
              refine g_get5I hX 3 dX5_bitten_78 b_fl_X5_81 hm.k0 (by decide) ?_
              rw [jr]
              refine g_callVp _ hX dX5_bitten_81 k_X5_192 ⟨by decide, by decide⟩ (by decide) hm.k0 rfl rfl (m_firstOf hm jn xn4 (by omega)) rfl (Nat.le_of_ble_eq_true rfl) ?_
              refine g_callVp _ hX dX5_bitten_84 k_X5_186 ⟨by decide, by decide⟩ (by decide) hm.k0 rfl rfl (m_isBitten hm hRV hlt hc hst) rfl (Nat.le_of_ble_eq_true rfl) ?_
              refine g_if_eq (tgt := 97) hX dX5_bitten_87 (by decide) (fun c_87 => ?_) (fun c_87 => ?_)
              · refine g_iconst (v := 0) hX dX5_bitten_97 (by decide) ?_
                refine g_ior hX dX5_bitten_98 ?_
                refine g_istore_n hX dX5_bitten_99 rfl (by decide) ?_
                refine g_iinc hX dX5_bitten_100 rfl (d := 1) (by decide) ?_
                refine g_goto (tgt := 50) hX dX5_bitten_103 (by decide) ?_
                exact G.at (ih hlt) ⟨rfl, rfl, vI (by rw [bsR, if_neg (fun z => z.2 c_87), i_or0]), vI (nI_1 k), trivial⟩
              · refine g_iconst (v := 1) hX dX5_bitten_90 (by decide) ?_
                refine g_iload hX dX5_bitten_91 rfl ?_
                refine g_ishl hX dX5_bitten_93 ?_
                refine g_goto (tgt := 98) hX dX5_bitten_94 (by decide) ?_
                refine g_ior hX dX5_bitten_98 ?_
                refine g_istore_n hX dX5_bitten_99 rfl (by decide) ?_
                refine g_iinc hX dX5_bitten_100 rfl (d := 1) (by decide) ?_
                refine g_goto (tgt := 50) hX dX5_bitten_103 (by decide) ?_
                exact G.at (ih hlt) ⟨rfl, rfl, vI (by rw [bsR, if_pos ⟨c_69, c_87⟩]), vI (nI_1 k), trivial⟩
          )
        exact G.at (loop 0 (Nat.zero_le _)) ⟨rfl, rfl, rfl, rfl, trivial⟩
      · refine g_aload_n hX dX5_bitten_27 rfl rfl ?_
        refine g_iload_n hX dX5_bitten_28 rfl rfl ?_
        refine g_aload_n hX dX5_bitten_29 rfl rfl ?_
        refine g_aload_n hX dX5_bitten_30 rfl rfl ?_
        refine g_get5I hX 3 dX5_bitten_31 b_fl_X5_81 hm.k0 (by decide) ?_
        rw [jr]
        refine g_callVp _ hX dX5_bitten_34 k_X5_192 ⟨by decide, by decide⟩ (by decide) hm.k0 rfl rfl (m_firstOf hm jn xn4 (by omega)) rfl (Nat.le_of_ble_eq_true rfl) ?_
        refine g_aload_n hX dX5_bitten_37 rfl rfl ?_
        refine g_get5I hX 4 dX5_bitten_38 b_fl_X5_84 hm.k0 (by decide) ?_
        rw [ja]
        refine g_callVp _ hX dX5_bitten_41 k_X5_195 ⟨by decide, by decide⟩ (by decide) hm.k0 rfl rfl (m_comesTo hm hRV hc hst _) rfl (Nat.le_of_ble_eq_true rfl) ?_
        exact g_iret hX dX5_bitten_44 rfl (by rw [spBitten, if_neg (fun z => z ⟨⟨nI_pos' (by omega), by rw [xn]; exact nI_lt hc (by omega)⟩, b01_n c_14⟩), if_neg (by rw [c_24]; decide)]; exact ⟨rfl, n, d, r, q, p, m, h⟩)
    · refine g_aload_n hX dX5_bitten_17 rfl rfl ?_
      refine g_callV _ hX dX5_bitten_18 k_X5_97 ⟨by decide, by decide⟩ (by decide) hm.k0 rfl rfl (m_bad hm) rfl (Nat.le_of_ble_eq_true rfl) (fun r1 I1 L1 hq => ?_)
      obtain ⟨rfl, rfl, rfl⟩ := hq
      exact g_iret hX dX5_bitten_21 rfl (by rw [spBitten, if_pos (by intro z; first | exact b01_0 c_5 (xn ▸ z.1) | exact b01_0 c_14 z.2)]; exact ⟨rfl, n, d, r, q, p, m, h.bad⟩)
set_option maxHeartbeats 4000000 in
set_option maxRecDepth 100000 in
theorem n_then {w : WG} {I : SI} {L : SL} {XI : SI} {n d r q p m : Nat} (hm : ML w) (h : RR XI I L n d r q p m) (c u : Int32) : Ok w mX5_then [.ref (gA w 0), .int c, .int u] I L (QM (spThen XI n d r c u)) := by
  obtain ⟨hRX, hRJ, hRF⟩ := id h
  obtain ⟨⟨xn, xn4, xd, xd7, xr, xr9⟩, ⟨xq, xq6⟩, ⟨xp, xp8⟩, ⟨xm, xm150⟩, xA, xH, xD, xP, xT⟩ := id hRX
  obtain ⟨⟨jn, -, jd, -, jB, jK⟩, jr, ja, jq, jp, jm, jH, jN, jP, jT⟩ := RJ_v hRJ
  have hRV : RV (vx XI 1) I n d := hRJ.1
  have hMS := h.ms
  refine Ok.of (by decide) (Nat.le_of_ble_eq_true rfl) (fun X hX => ?_)
  refine g_aload_n hX dX5_then_0 rfl rfl ?_
  refine g_iload_n hX dX5_then_1 rfl rfl ?_
  refine g_callVp _ hX dX5_then_2 k_X5_206 ⟨by decide, by decide⟩ (by decide) hm.k0 rfl rfl (m_isMan hm jn (by omega) _) rfl (Nat.le_of_ble_eq_true rfl) ?_
  refine g_if_eq (tgt := 18) hX dX5_then_5 (by decide) (fun c_5 => ?_) (fun c_5 => ?_)
  · refine g_aload_n hX dX5_then_18 rfl rfl ?_
    refine g_callV _ hX dX5_then_19 k_X5_97 ⟨by decide, by decide⟩ (by decide) hm.k0 rfl rfl (m_bad hm) rfl (Nat.le_of_ble_eq_true rfl) (fun r1 I1 L1 hq => ?_)
    obtain ⟨rfl, rfl, rfl⟩ := hq
    exact g_iret hX dX5_then_22 rfl (by rw [spThen, if_pos (by intro z; first | exact b01_0 c_5 (xn ▸ z.1) | exact b01_0 c_15 z.2)]; exact ⟨rfl, n, d, r, q, p, m, h.bad⟩)
  · refine g_iload_n hX dX5_then_8 rfl rfl ?_
    refine g_iconst (v := 0) hX dX5_then_9 (by decide) ?_
    refine g_bipush (v := 30) hX dX5_then_10 (by decide) ?_
    refine g_callSp _ hX dX5_then_12 k_X5_93 ⟨by decide, by decide⟩ rfl (ok_in _ _ _) rfl (Nat.le_of_ble_eq_true rfl) ?_
    refine g_if_ne (tgt := 23) hX dX5_then_15 (by decide) (fun c_15 => ?_) (fun c_15 => ?_)
    · obtain ⟨c, hc, rfl⟩ := ix (b01_n c_5) (by omega)
      obtain ⟨u, hu, rfl⟩ := ix2 (n := 30) rfl (by decide) (b01_n c_15)
      have loop := loop_up (n := u) (P := fun i => ∀ J : SI, MS (vx XI 1) J n d (ahF (vx XI 1) n d r i) (if i = 0 then XI 1 2 else 0) (r + i) → Fr (rS I 17 (layC I 0 4 (I 17))) J → G X w mX5_then J L 29 (lvO [(0, .ref (gA w 0)), (1, .int (nI c)), (2, .int (nI u)), (3, .int (nI i))]) []) (fun i hiu ih J hs hf => by
        refine g_iload_n hX dX5_then_29 rfl rfl ?_
        refine g_iload_n hX dX5_then_30 rfl rfl ?_
        refine g_icmp_ge (tgt := 44) hX dX5_then_31 (by decide) (fun c_31 => ?_) (fun c_31 => ?_)
        · refine g_aload_n hX dX5_then_44 rfl rfl ?_
          refine g_get5R hX 8 dX5_then_45 b_fl_X5_19 hm.k0 (by decide) hm.q4 ?_
          refine g_iload_n hX dX5_then_48 rfl rfl ?_
          refine g_ialdN hX dX5_then_49 hm.k4 (⟨rfl, by omega⟩) (by decide) ?_
          refine g_istore_n hX dX5_then_50 rfl (by decide) ?_
          refine g_aload_n hX dX5_then_51 rfl rfl ?_
          refine g_callV _ hX dX5_then_52 k_X5_227 ⟨by decide, by decide⟩ (by decide) hm.k0 rfl rfl (m_back hm) rfl (Nat.le_of_ble_eq_true rfl) (fun r1 I1 L1 hq => ?_)
          obtain ⟨rfl, rfl, rfl⟩ := hq
          refine g_iload_n hX dX5_then_55 rfl rfl ?_
          exact g_iret hX dX5_then_56 rfl (by rw [show i = u from Nat.le_antisymm hiu (nle c_31 (by omega) (by omega))] at hs; rw [spThen, if_neg (fun z => z ⟨⟨nI_pos' (by omega), by rw [xn]; exact nI_lt hc (by omega)⟩, b01_n c_15⟩), nI_clamp (by omega), nI_clamp (by omega)]; exact ⟨vI (hs.2.2.2 c hc), n, d, r, q, p, m, h.s17 (back_lem hf)⟩)
        · have hlt := nnle c_31 (by omega) (by omega)
          refine g_aload_n hX dX5_then_34 rfl rfl ?_
          refine g_callV _ hX dX5_then_35 k_X5_218 ⟨by decide, by decide⟩ (by decide) hm.k0 rfl rfl (m_pass hm hs (by omega)) rfl (Nat.le_of_ble_eq_true rfl) (fun r1 J1 L1 hq => ?_)
          obtain ⟨rfl, rfl, hs1, hf1⟩ := hq
          refine g_iinc hX dX5_then_38 rfl (d := 1) (by decide) ?_
          refine g_goto (tgt := 29) hX dX5_then_41 (by decide) ?_
          exact G.at (ih hlt J1 hs1 (hf.tr hf1)) ⟨rfl, rfl, rfl, vI (nI_1 i), trivial⟩
        )
      refine g_aload_n hX dX5_then_23 rfl rfl ?_
      refine g_callV _ hX dX5_then_24 k_X5_224 ⟨by decide, by decide⟩ (by decide) hm.k0 rfl rfl (m_puts hm) rfl (Nat.le_of_ble_eq_true rfl) (fun r1 I1 L1 hq => ?_)
      obtain ⟨rfl, rfl, rfl⟩ := hq
      refine g_iconst (v := 0) hX dX5_then_27 (by decide) ?_
      refine g_istore_n hX dX5_then_28 rfl (by decide) ?_
      exact G.at (loop 0 (Nat.zero_le _) _ hMS.p17 Fr.rf) ⟨rfl, rfl, rfl, rfl, trivial⟩
    · refine g_aload_n hX dX5_then_18 rfl rfl ?_
      refine g_callV _ hX dX5_then_19 k_X5_97 ⟨by decide, by decide⟩ (by decide) hm.k0 rfl rfl (m_bad hm) rfl (Nat.le_of_ble_eq_true rfl) (fun r1 I1 L1 hq => ?_)
      obtain ⟨rfl, rfl, rfl⟩ := hq
      exact g_iret hX dX5_then_22 rfl (by rw [spThen, if_pos (by intro z; first | exact b01_0 c_5 (xn ▸ z.1) | exact b01_0 c_15 z.2)]; exact ⟨rfl, n, d, r, q, p, m, h.bad⟩)
set_option maxHeartbeats 4000000 in
set_option maxRecDepth 100000 in
theorem n_won {w : WG} {I : SI} {L : SL} {XI : SI} {n d r q p m : Nat} (hm : ML w) (h : RR XI I L n d r q p m) (u a : Int32) : Ok w mX5_won [.ref (gA w 0), .int u, .int a] I L (QM (spWon XI n d r u a)) := by
  obtain ⟨hRX, hRJ, hRF⟩ := id h
  obtain ⟨⟨xn, xn4, xd, xd7, xr, xr9⟩, ⟨xq, xq6⟩, ⟨xp, xp8⟩, ⟨xm, xm150⟩, xA, xH, xD, xP, xT⟩ := id hRX
  obtain ⟨⟨jn, -, jd, -, jB, jK⟩, jr, ja, jq, jp, jm, jH, jN, jP, jT⟩ := RJ_v hRJ
  have hRV : RV (vx XI 1) I n d := hRJ.1
  have hMS := h.ms
  refine Ok.of (by decide) (Nat.le_of_ble_eq_true rfl) (fun X hX => ?_)
  refine g_iload_n hX dX5_won_0 rfl rfl ?_
  refine g_iconst (v := 0) hX dX5_won_1 (by decide) ?_
  refine g_bipush (v := 30) hX dX5_won_2 (by decide) ?_
  refine g_callSp _ hX dX5_won_4 k_X5_93 ⟨by decide, by decide⟩ rfl (ok_in _ _ _) rfl (Nat.le_of_ble_eq_true rfl) ?_
  refine g_if_eq (tgt := 28) hX dX5_won_7 (by decide) (fun c_7 => ?_) (fun c_7 => ?_)
  · refine g_aload_n hX dX5_won_28 rfl rfl ?_
    refine g_callV _ hX dX5_won_29 k_X5_97 ⟨by decide, by decide⟩ (by decide) hm.k0 rfl rfl (m_bad hm) rfl (Nat.le_of_ble_eq_true rfl) (fun r1 I1 L1 hq => ?_)
    obtain ⟨rfl, rfl, rfl⟩ := hq
    exact g_iret hX dX5_won_32 rfl (by rw [spWon, if_pos (by intro z; first | exact b01_0 c_7 z.1 | exact b01_0 c_16 z.2)]; exact ⟨rfl, n, d, r, q, p, m, h.bad⟩)
  · refine g_iload_n hX dX5_won_10 rfl rfl ?_
    refine g_iconst (v := 0) hX dX5_won_11 (by decide) ?_
    refine g_iconst (v := 1) hX dX5_won_12 (by decide) ?_
    refine g_callSp _ hX dX5_won_13 k_X5_93 ⟨by decide, by decide⟩ rfl (ok_in _ _ _) rfl (Nat.le_of_ble_eq_true rfl) ?_
    refine g_if_eq (tgt := 28) hX dX5_won_16 (by decide) (fun c_16 => ?_) (fun c_16 => ?_)
    · refine g_aload_n hX dX5_won_28 rfl rfl ?_
      refine g_callV _ hX dX5_won_29 k_X5_97 ⟨by decide, by decide⟩ (by decide) hm.k0 rfl rfl (m_bad hm) rfl (Nat.le_of_ble_eq_true rfl) (fun r1 I1 L1 hq => ?_)
      obtain ⟨rfl, rfl, rfl⟩ := hq
      exact g_iret hX dX5_won_32 rfl (by rw [spWon, if_pos (by intro z; first | exact b01_0 c_7 z.1 | exact b01_0 c_16 z.2)]; exact ⟨rfl, n, d, r, q, p, m, h.bad⟩)
    · obtain ⟨u, hu, rfl⟩ := ix2 (n := 30) rfl (by decide) (b01_n c_7)
      refine g_aload_n hX dX5_won_19 rfl rfl ?_
      refine g_iload_n hX dX5_won_20 rfl rfl ?_
      refine g_iload_n hX dX5_won_21 rfl rfl ?_
      refine g_callV _ hX dX5_won_22 k_X5_233 ⟨by decide, by decide⟩ (by decide) hm.k0 rfl rfl (m_wonIn  hm hMS xr9 (by omega) _) rfl (Nat.le_of_ble_eq_true rfl) (fun r1 J1 L1 hq => ?_)
      obtain ⟨rfl, rfl, hs⟩ := hq
      refine g_goto (tgt := 32) hX dX5_won_25 (by decide) ?_
      exact g_iret hX dX5_won_32 rfl (by rw [spWon, if_neg (fun z => z ⟨b01_n c_7, b01_n c_16⟩), nI_clamp (by omega)]; by_cases ea : a = 0; rw [if_pos ea, if_pos ea]; exact ⟨vI (congrArg (fun f => pmF f n) (ahG_F u)), n, d, r, q, p, m, h.s17 hs⟩; rw [if_neg ea, if_neg ea]; exact ⟨vI (congrArg (fun f => lvF f n) (ahG_F u)), n, d, r, q, p, m, h.s17 hs⟩)
set_option maxHeartbeats 4000000 in
set_option maxRecDepth 100000 in
theorem n_letters {w : WG} {I : SI} {L : SL} {XI : SI} {n d r q p m : Nat} (hm : ML w) (h : RR XI I L n d r q p m)  : Ok w mX5_letters [.ref (gA w 0)] I L (QM (spLetters XI n d r)) := by
  obtain ⟨hRX, hRJ, hRF⟩ := id h
  obtain ⟨⟨xn, xn4, xd, xd7, xr, xr9⟩, ⟨xq, xq6⟩, ⟨xp, xp8⟩, ⟨xm, xm150⟩, xA, xH, xD, xP, xT⟩ := id hRX
  obtain ⟨⟨jn, -, jd, -, jB, jK⟩, jr, ja, jq, jp, jm, jH, jN, jP, jT⟩ := RJ_v hRJ
  have hRV : RV (vx XI 1) I n d := hRJ.1
  have hMS := h.ms
  refine Ok.of (by decide) (Nat.le_of_ble_eq_true rfl) (fun X hX => ?_)
  refine g_aload_n hX dX5_letters_0 rfl rfl ?_
  refine g_iconst (v := 1) hX dX5_letters_1 (by decide) ?_
  refine g_iconst (v := 0) hX dX5_letters_2 (by decide) ?_
  refine g_callV _ hX dX5_letters_3 k_X5_233 ⟨by decide, by decide⟩ (by decide) hm.k0 rfl rfl (m_wonIn (m := 1) hm hMS xr9 (by omega) _) rfl (Nat.le_of_ble_eq_true rfl) (fun r1 J1 L1 hq => ?_)
  obtain ⟨rfl, rfl, hs⟩ := hq
  have hW : (if (0 : Int32) = 0 then pmF (ahG (vx XI 1) n d r (XI 1 2) (vx XI 1 3) 1) n else lvF (ahG (vx XI 1) n d r (XI 1 2) (vx XI 1 3) 1) n) = (pmF (ahF (vx XI 1) n d r 1) n) := by rw [if_pos rfl]; exact congrArg (fun f => pmF f n) (ahG_F 1)
  rw [hW]
  have h1 := h.s17 hs
  obtain ⟨⟨-, -, kd, -, -, kK⟩, -⟩ := RJ_v h1.2.1
  have loop := loop_up (n := d) (P := fun k => G X w mX5_letters J1 L1 11 (lvO [(0, .ref (gA w 0)), (1, .int (pmF (ahF (vx XI 1) n d r 1) n)), (2, .int (ltF (XI 8) (pmF (ahF (vx XI 1) n d r 1) n) k)), (3, .int (nI k))]) []) (fun k hkd ih => by
    refine g_iload_n hX dX5_letters_11 rfl rfl ?_
    refine g_aload_n hX dX5_letters_12 rfl rfl ?_
    refine g_get5I hX 2 dX5_letters_13 b_fl_X5_78 hm.k0 (by decide) ?_
    rw [kd]
    refine g_icmp_ge (tgt := 50) hX dX5_letters_16 (by decide) (fun c_16 => ?_) (fun c_16 => ?_)
    · refine g_iload_n hX dX5_letters_50 rfl rfl ?_
      exact g_iret hX dX5_letters_51 rfl (by rw [show k = d from Nat.le_antisymm hkd (nle c_16 (by omega) (by omega))]; exact ⟨rfl, n, d, r, q, p, m, h1⟩)
    · have hlt := nnle c_16 (by omega) (by omega)
      obtain ⟨a, ha1, ha2⟩ := (xD k hlt).2.2.2
      refine g_iload_n hX dX5_letters_19 rfl rfl ?_
      refine g_iload_n hX dX5_letters_20 rfl rfl ?_
      refine g_iconst (v := -1) hX dX5_letters_21 (by decide) ?_
      refine g_icmp_eq (tgt := 35) hX dX5_letters_22 (by decide) (fun c_22 => ?_) (fun c_22 => ?_)
      · refine g_iconst (v := 1) hX dX5_letters_35 (by decide) ?_
        refine g_iload_n hX dX5_letters_36 rfl rfl ?_
        refine g_ishl hX dX5_letters_37 ?_
        refine g_goto (tgt := 42) hX dX5_letters_38 (by decide) ?_
        refine g_ior hX dX5_letters_42 ?_
        refine g_istore_n hX dX5_letters_43 rfl (by decide) ?_
        refine g_iinc hX dX5_letters_44 rfl (d := 1) (by decide) ?_
        refine g_goto (tgt := 11) hX dX5_letters_47 (by decide) ?_
        exact G.at (ih hlt) ⟨rfl, rfl, vI (by rw [ltF, if_neg (fun e => by rw [c_22, ha1] at e; exact absurd e (by rcases (show a = 0 ∨ a = 1 ∨ a = 2 ∨ a = 3 by omega) with rfl | rfl | rfl | rfl <;> decide))]), vI (nI_1 k), trivial⟩
      · refine g_aload_n hX dX5_letters_25 rfl rfl ?_
        refine g_get5R hX 12 dX5_letters_26 b_fl_X5_31 hm.k0 (by decide) hm.q8 ?_
        refine g_iload_n hX dX5_letters_29 rfl rfl ?_
        refine g_ialdN hX dX5_letters_30 hm.k8 (⟨rfl, by omega⟩) (by decide) ?_
        rw [(kK k hlt).2.2.2]
        refine g_iload_n hX dX5_letters_31 rfl rfl ?_
        refine g_icmp_eq (tgt := 41) hX dX5_letters_32 (by decide) (fun c_32 => ?_) (fun c_32 => ?_)
        · refine g_iconst (v := 0) hX dX5_letters_41 (by decide) ?_
          refine g_ior hX dX5_letters_42 ?_
          refine g_istore_n hX dX5_letters_43 rfl (by decide) ?_
          refine g_iinc hX dX5_letters_44 rfl (d := 1) (by decide) ?_
          refine g_goto (tgt := 11) hX dX5_letters_47 (by decide) ?_
          exact G.at (ih hlt) ⟨rfl, rfl, vI (by rw [ltF, if_pos c_32, i_or0]), vI (nI_1 k), trivial⟩
        · refine g_iconst (v := 1) hX dX5_letters_35 (by decide) ?_
          refine g_iload_n hX dX5_letters_36 rfl rfl ?_
          refine g_ishl hX dX5_letters_37 ?_
          refine g_goto (tgt := 42) hX dX5_letters_38 (by decide) ?_
          refine g_ior hX dX5_letters_42 ?_
          refine g_istore_n hX dX5_letters_43 rfl (by decide) ?_
          refine g_iinc hX dX5_letters_44 rfl (d := 1) (by decide) ?_
          refine g_goto (tgt := 11) hX dX5_letters_47 (by decide) ?_
          exact G.at (ih hlt) ⟨rfl, rfl, vI (by rw [ltF, if_neg c_32]), vI (nI_1 k), trivial⟩
    )
  refine g_istore_n hX dX5_letters_6 rfl (by decide) ?_
  refine g_iconst (v := 0) hX dX5_letters_7 (by decide) ?_
  refine g_istore_n hX dX5_letters_8 rfl (by decide) ?_
  refine g_iconst (v := 0) hX dX5_letters_9 (by decide) ?_
  refine g_istore_n hX dX5_letters_10 rfl (by decide) ?_
  exact G.at (loop 0 (Nat.zero_le _)) ⟨rfl, rfl, rfl, rfl, trivial⟩
