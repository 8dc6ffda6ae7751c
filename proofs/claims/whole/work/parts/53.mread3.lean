set_option maxHeartbeats 4000000 in
set_option maxRecDepth 100000 in
theorem m_readsMan {w : WG} {L : SL} (hm : ML w) {J : SI} {A B C : Nat → Int32} {T : Nat → Int32} {a m n d : Nat} {V : VS} (h18 : A 18 = nI m) (h150 : m ≤ 150) (hT : ∀ i, i < m → J 13 i = T i) (hI : VI V n d) (hV : MVr (A 20) (A 21) (A 22) B C V n d) (h19 : A 19 = nI (a + 3)) (ham : a + 3 ≤ m) (hn : n < 4) : Ok w mX5_readsMan [.ref (gA w 0)] (T3 J A B C) L (RM J A L (manF T m a V n d)) := by
  have hn4 := hI.1.2
  have hd7 := hI.2.1.2
  refine Ok.of (by decide) (Nat.le_of_ble_eq_true rfl) (fun X hX => ?_)
  refine g_aload_n hX dX5_readsMan_0 rfl rfl ?_
  refine g_iconst (v := 0) hX dX5_readsMan_1 (by decide) ?_
  refine g_bipush (v := 9) hX dX5_readsMan_2 (by decide) ?_
  refine g_callV _ hX dX5_readsMan_4 k_X5_141 ⟨by decide, by decide⟩ (by decide) hm.k0 rfl rfl (m_num3 hm h19 h18 h150 ham hT) rfl (Nat.le_of_ble_eq_true rfl) (fun r1 I1 L1 hq1 => ?_)
  obtain ⟨e1, e2, A1, e3, hA1, hn1, hy1⟩ := hq1
  subst e1; rw [e2, e3]
  refine g_if_ne (tgt := 12) hX dX5_readsMan_7 (by decide) (fun c_7 => ?_) (fun c_7 => ?_)
  · have n1 := b01_n c_7
    obtain ⟨p1, v1⟩ := hy1 n1
    have g1 : (fg T m (sk T m (a + 3))) ≤ m := (fg_gt n1.1 n1.2.1).2
    refine g_aload_n hX dX5_readsMan_12 rfl rfl ?_
    refine g_get5R hX 23 dX5_readsMan_13 b_fl_X5_49 hm.k0 (by decide) hm.q14 ?_
    refine g_iconst (v := 2) hX dX5_readsMan_16 (by decide) ?_
    refine g_aload_n hX dX5_readsMan_17 rfl rfl ?_
    refine g_get5I hX 20 dX5_readsMan_18 b_fl_X5_145 hm.k0 (by decide) ?_
    try simp (disch := decide) only [T3_0, T3_14, T3_15, T3_s0, T3_s14, T3_s15, pk_us, pk_un]
    rw [hA1 20 (by decide) (by decide), hV.1]
    refine g_imul hX dX5_readsMan_21 ?_
    refine g_aload_n hX dX5_readsMan_22 rfl rfl ?_
    refine g_get5I hX 25 dX5_readsMan_23 b_fl_X5_138 hm.k0 (by decide) ?_
    try simp (disch := decide) only [T3_0, T3_14, T3_15, T3_s0, T3_s14, T3_s15, pk_us, pk_un]
    rw [v1]
    refine g_iastN hX dX5_readsMan_26 hm.k14 (⟨by rw [show (2 : Int32) = nI 2 from rfl, pk_mul], by omega⟩) (by decide) ?_
    try simp (disch := decide) only [T3_0, T3_14, T3_15, T3_s0, T3_s14, T3_s15, pk_us, pk_un]
    refine g_aload_n hX dX5_readsMan_27 rfl rfl ?_
    refine g_iconst (v := 0) hX dX5_readsMan_28 (by decide) ?_
    refine g_bipush (v := 30) hX dX5_readsMan_29 (by decide) ?_
    refine g_callV _ hX dX5_readsMan_31 k_X5_141 ⟨by decide, by decide⟩ (by decide) hm.k0 rfl rfl (m_num3 hm p1 ((hA1 18 (by decide) (by decide)).trans h18) h150 g1 hT) rfl (Nat.le_of_ble_eq_true rfl) (fun r1 I1 L1 hq2 => ?_)
    obtain ⟨e1, e2, A2, e3, hA2, hn2, hy2⟩ := hq2
    subst e1; rw [e2, e3]
    refine g_if_ne (tgt := 39) hX dX5_readsMan_34 (by decide) (fun c_34 => ?_) (fun c_34 => ?_)
    · have n2 := b01_n c_34
      obtain ⟨p2, v2⟩ := hy2 n2
      have g2 : (fg T m (sk T m (fg T m (sk T m (a + 3))))) ≤ m := (fg_gt n2.1 n2.2.1).2
      refine g_aload_n hX dX5_readsMan_39 rfl rfl ?_
      refine g_get5R hX 23 dX5_readsMan_40 b_fl_X5_49 hm.k0 (by decide) hm.q14 ?_
      refine g_iconst (v := 2) hX dX5_readsMan_43 (by decide) ?_
      refine g_aload_n hX dX5_readsMan_44 rfl rfl ?_
      refine g_get5I hX 20 dX5_readsMan_45 b_fl_X5_145 hm.k0 (by decide) ?_
      try simp (disch := decide) only [T3_0, T3_14, T3_15, T3_s0, T3_s14, T3_s15, pk_us, pk_un]
      rw [hA2 20 (by decide) (by decide), hA1 20 (by decide) (by decide), hV.1]
      refine g_imul hX dX5_readsMan_48 ?_
      refine g_iconst (v := 1) hX dX5_readsMan_49 (by decide) ?_
      refine g_iadd hX dX5_readsMan_50 ?_
      refine g_aload_n hX dX5_readsMan_51 rfl rfl ?_
      refine g_get5I hX 25 dX5_readsMan_52 b_fl_X5_138 hm.k0 (by decide) ?_
      try simp (disch := decide) only [T3_0, T3_14, T3_15, T3_s0, T3_s14, T3_s15, pk_us, pk_un]
      rw [v2]
      refine g_iastN hX dX5_readsMan_55 hm.k14 (⟨by rw [show (2 : Int32) = nI 2 from rfl, pk_mul, nI_1], by omega⟩) (by decide) ?_
      try simp (disch := decide) only [T3_0, T3_14, T3_15, T3_s0, T3_s14, T3_s15, pk_us, pk_un]
      refine g_aload_n hX dX5_readsMan_56 rfl rfl ?_
      refine g_dup hX dX5_readsMan_57 rfl ?_
      refine g_get5I hX 20 dX5_readsMan_58 b_fl_X5_145 hm.k0 (by decide) ?_
      try simp (disch := decide) only [T3_0, T3_14, T3_15, T3_s0, T3_s14, T3_s15, pk_us, pk_un]
      rw [hA2 20 (by decide) (by decide), hA1 20 (by decide) (by decide), hV.1]
      refine g_iconst (v := 1) hX dX5_readsMan_61 (by decide) ?_
      refine g_iadd hX dX5_readsMan_62 ?_
      refine g_put5I hX 20 dX5_readsMan_63 b_fl_X5_145 hm.k0 pf5_20 ?_
      try simp (disch := decide) only [T3_0, T3_14, T3_15, T3_s0, T3_s14, T3_s15, pk_us, pk_un]
      refine g_aload_n hX dX5_readsMan_66 rfl rfl ?_
      refine g_callV _ hX dX5_readsMan_67 k_X5_148 ⟨by decide, by decide⟩ (by decide) hm.k0 rfl rfl (m_end3 hm ((pk_un (by decide)).trans p2) ((pk_un (by decide)).trans ((hA2 18 (by decide) (by decide)).trans ((hA1 18 (by decide) (by decide)).trans h18))) h150 g2 hT) rfl (Nat.le_of_ble_eq_true rfl) (fun r9 I9 L9 hq9 => ?_)
      have hf : FA A (upd A2 20 (nI n + 1)) := fun k a b c d e => (pk_un b).trans ((hA2 k a e).trans (hA1 k a e))
      have hv := hV.man (nv T (sk T m (a + 3)) (fg T m (sk T m (a + 3)))) (nv T (sk T m (fg T m (sk T m (a + 3)))) (fg T m (sk T m (fg T m (sk T m (a + 3))))))
      have q20 : (upd A2 20 (nI n + 1)) 20 = nI (n + 1) := by rw [pk_us, nI_1]
      have q21 : (upd A2 20 (nI n + 1)) 21 = A 21 := by rw [pk_un (by decide), hA2 21 (by decide) (by decide), hA1 21 (by decide) (by decide)]
      have q22 : (upd A2 20 (nI n + 1)) 22 = A 22 := by rw [pk_un (by decide), hA2 22 (by decide) (by decide), hA1 22 (by decide) (by decide)]
      rw [← q20, ← q21, ← q22] at hv
      refine g_zretM hX dX5_readsMan_70 rfl (RM.nar (RM.sm (A := A) (V := manV V n (nv T (sk T m (a + 3)) (fg T m (sk T m (a + 3)))) (nv T (sk T m (fg T m (sk T m (a + 3)))) (fg T m (sk T m (fg T m (sk T m (a + 3))))))) (n := n + 1) (d := d) hq9 hf hv)) ?_
      rw [manF, if_pos hn, numF, if_pos n1, numF, if_pos n2]
      exact RM.sm hq9 hf hv
    · refine g_iconst (v := 0) hX dX5_readsMan_37 (by decide) ?_
      exact g_zret hX dX5_readsMan_38 rfl rfl (by rw [manF, if_pos hn, numF, if_pos n1, numF, if_neg (b01_0 c_34)]; exact RM.bad (fun k a _ _ _ e => (hA2 k a e).trans (hA1 k a e)) (hn2 (b01_0 c_34)))
  · refine g_iconst (v := 0) hX dX5_readsMan_10 (by decide) ?_
    exact g_zret hX dX5_readsMan_11 rfl rfl (by rw [manF, if_pos hn, numF, if_neg (b01_0 c_7)]; exact RM.bad (fun k a _ _ _ e => hA1 k a e) (hn1 (b01_0 c_7)))
set_option maxHeartbeats 4000000 in
set_option maxRecDepth 100000 in
theorem m_readsDog {w : WG} {L : SL} (hm : ML w) {J : SI} {A B C : Nat → Int32} {T : Nat → Int32} {a m n d : Nat} {V : VS} (h18 : A 18 = nI m) (h150 : m ≤ 150) (hT : ∀ i, i < m → J 13 i = T i) (hI : VI V n d) (hV : MVr (A 20) (A 21) (A 22) B C V n d) (h19 : A 19 = nI (a + 3)) (ham : a + 3 ≤ m) (hn : d < 7) : Ok w mX5_readsDog [.ref (gA w 0)] (T3 J A B C) L (RM J A L (dogF T m a V n d)) := by
  have hn4 := hI.1.2
  have hd7 := hI.2.1.2
  refine Ok.of (by decide) (Nat.le_of_ble_eq_true rfl) (fun X hX => ?_)
  refine g_iconst (v := 4) hX dX5_readsDog_0 (by decide) ?_
  refine g_aload_n hX dX5_readsDog_1 rfl rfl ?_
  refine g_get5I hX 21 dX5_readsDog_2 b_fl_X5_152 hm.k0 (by decide) ?_
  try simp (disch := decide) only [T3_0, T3_14, T3_15, T3_s0, T3_s14, T3_s15, pk_us, pk_un]
  rw [hV.2.1]
  refine g_imul hX dX5_readsDog_5 ?_
  rw [show (4 : Int32) = nI 4 from rfl, pk_mul]
  refine g_istore_n hX dX5_readsDog_6 rfl (by decide) ?_
  refine g_iconst (v := 0) hX dX5_readsDog_7 (by decide) ?_
  refine g_istore_n hX dX5_readsDog_8 rfl (by decide) ?_
  refine G.at (l := [(0, .ref (gA w 0)), (1, .int (nI (4 * d))), (2, .int 0)]) ?_ ⟨rfl, rfl, rfl, trivial⟩
  refine g_iload_n hX dX5_readsDog_9 rfl rfl ?_
  refine g_iconst (v := 4) hX dX5_readsDog_10 (by decide) ?_
  refine g_icmp_ge (tgt := 82) hX dX5_readsDog_11 (by decide) (fun z => absurd z (by decide)) (fun _ => ?_)
  refine g_iload_n hX dX5_readsDog_14 rfl rfl ?_
  refine g_iconst (v := 1) hX dX5_readsDog_15 (by decide) ?_
  refine g_icmp_eq (tgt := 24) hX dX5_readsDog_16 (by decide) (fun z => absurd z (by decide)) (fun _ => ?_)
  refine g_iload_n hX dX5_readsDog_19 rfl rfl ?_
  refine g_iconst (v := 2) hX dX5_readsDog_20 (by decide) ?_
  refine g_icmp_ne (tgt := 28) hX dX5_readsDog_21 (by decide) (fun _ => ?_) (fun z => absurd z (by decide))
  refine g_iconst (v := 0) hX dX5_readsDog_28 (by decide) ?_
  refine g_istore_n hX dX5_readsDog_29 rfl (by decide) ?_
  refine g_aload_n hX dX5_readsDog_30 rfl rfl ?_
  refine g_iload_n hX dX5_readsDog_31 rfl rfl ?_
  refine g_iload_n hX dX5_readsDog_32 rfl rfl ?_
  refine g_if_eq (tgt := 41) hX dX5_readsDog_33 (by decide) (fun _ => ?_) (fun z => absurd (by decide) z)
  refine g_iconst (v := 5) hX dX5_readsDog_41 (by decide) ?_
  refine g_goto (tgt := 56) hX dX5_readsDog_42 (by decide) ?_
  refine g_callV _ hX dX5_readsDog_56 k_X5_141 ⟨by decide, by decide⟩ (by decide) hm.k0 rfl rfl (m_num3 hm h19 h18 h150 ham hT) rfl (Nat.le_of_ble_eq_true rfl) (fun r1 I1 L1 hq1 => ?_)
  obtain ⟨e1, e2, A1, e3, hA1, hn1, hy1⟩ := hq1
  subst e1; rw [e2, e3]
  refine g_if_ne (tgt := 64) hX dX5_readsDog_59 (by decide) (fun c_59 => ?_) (fun c_59 => ?_)
  · have n1 := b01_n c_59
    obtain ⟨p1, v1⟩ := hy1 n1
    have g1 : (fg T m (sk T m (a + 3))) ≤ m := (fg_gt n1.1 n1.2.1).2
    refine g_aload_n hX dX5_readsDog_64 rfl rfl ?_
    refine g_get5R hX 24 dX5_readsDog_65 b_fl_X5_52 hm.k0 (by decide) hm.q15 ?_
    refine g_iload_n hX dX5_readsDog_68 rfl rfl ?_
    refine g_iload_n hX dX5_readsDog_69 rfl rfl ?_
    refine g_iadd hX dX5_readsDog_70 ?_
    refine g_aload_n hX dX5_readsDog_71 rfl rfl ?_
    refine g_get5I hX 25 dX5_readsDog_72 b_fl_X5_138 hm.k0 (by decide) ?_
    try simp (disch := decide) only [T3_0, T3_14, T3_15, T3_s0, T3_s14, T3_s15, pk_us, pk_un]
    rw [v1]
    refine g_iastN hX dX5_readsDog_75 hm.k15 (⟨(by rw [show (0 : Int32) = nI 0 from rfl, nI_add]), by omega⟩) (by decide) ?_
    try simp (disch := decide) only [T3_0, T3_14, T3_15, T3_s0, T3_s14, T3_s15, pk_us, pk_un]
    refine g_iinc hX dX5_readsDog_76 rfl (d := 1) (by decide) ?_
    refine g_goto (tgt := 9) hX dX5_readsDog_79 (by decide) ?_
    refine G.at (l := [(0, .ref (gA w 0)), (1, .int (nI (4 * d))), (2, .int 1)]) ?_ ⟨rfl, rfl, vI (by decide), trivial⟩
    refine g_iload_n hX dX5_readsDog_9 rfl rfl ?_
    refine g_iconst (v := 4) hX dX5_readsDog_10 (by decide) ?_
    refine g_icmp_ge (tgt := 82) hX dX5_readsDog_11 (by decide) (fun z => absurd z (by decide)) (fun _ => ?_)
    refine g_iload_n hX dX5_readsDog_14 rfl rfl ?_
    refine g_iconst (v := 1) hX dX5_readsDog_15 (by decide) ?_
    refine g_icmp_eq (tgt := 24) hX dX5_readsDog_16 (by decide) (fun _ => ?_) (fun z => absurd (by decide) z)
    refine g_iconst (v := 1) hX dX5_readsDog_24 (by decide) ?_
    refine g_goto (tgt := 29) hX dX5_readsDog_25 (by decide) ?_
    refine g_istore_n hX dX5_readsDog_29 rfl (by decide) ?_
    refine g_aload_n hX dX5_readsDog_30 rfl rfl ?_
    refine g_iload_n hX dX5_readsDog_31 rfl rfl ?_
    refine g_iload_n hX dX5_readsDog_32 rfl rfl ?_
    refine g_if_eq (tgt := 41) hX dX5_readsDog_33 (by decide) (fun z => absurd z (by decide)) (fun _ => ?_)
    refine g_iload_n hX dX5_readsDog_36 rfl rfl ?_
    refine g_iconst (v := 1) hX dX5_readsDog_37 (by decide) ?_
    refine g_icmp_ne (tgt := 45) hX dX5_readsDog_38 (by decide) (fun z => absurd (by decide) z) (fun _ => ?_)
    refine g_iconst (v := 5) hX dX5_readsDog_41 (by decide) ?_
    refine g_goto (tgt := 56) hX dX5_readsDog_42 (by decide) ?_
    refine g_callV _ hX dX5_readsDog_56 k_X5_141 ⟨by decide, by decide⟩ (by decide) hm.k0 rfl rfl (m_num3 hm p1 ((hA1 18 (by decide) (by decide)).trans h18) h150 g1 hT) rfl (Nat.le_of_ble_eq_true rfl) (fun r1 I1 L1 hq2 => ?_)
    obtain ⟨e1, e2, A2, e3, hA2, hn2, hy2⟩ := hq2
    subst e1; rw [e2, e3]
    refine g_if_ne (tgt := 64) hX dX5_readsDog_59 (by decide) (fun c_59 => ?_) (fun c_59 => ?_)
    · have n2 := b01_n c_59
      obtain ⟨p2, v2⟩ := hy2 n2
      have g2 : (fg T m (sk T m (fg T m (sk T m (a + 3))))) ≤ m := (fg_gt n2.1 n2.2.1).2
      refine g_aload_n hX dX5_readsDog_64 rfl rfl ?_
      refine g_get5R hX 24 dX5_readsDog_65 b_fl_X5_52 hm.k0 (by decide) hm.q15 ?_
      refine g_iload_n hX dX5_readsDog_68 rfl rfl ?_
      refine g_iload_n hX dX5_readsDog_69 rfl rfl ?_
      refine g_iadd hX dX5_readsDog_70 ?_
      refine g_aload_n hX dX5_readsDog_71 rfl rfl ?_
      refine g_get5I hX 25 dX5_readsDog_72 b_fl_X5_138 hm.k0 (by decide) ?_
      try simp (disch := decide) only [T3_0, T3_14, T3_15, T3_s0, T3_s14, T3_s15, pk_us, pk_un]
      rw [v2]
      refine g_iastN hX dX5_readsDog_75 hm.k15 (⟨(by rw [show (1 : Int32) = nI 1 from rfl, nI_add]), by omega⟩) (by decide) ?_
      try simp (disch := decide) only [T3_0, T3_14, T3_15, T3_s0, T3_s14, T3_s15, pk_us, pk_un]
      refine g_iinc hX dX5_readsDog_76 rfl (d := 1) (by decide) ?_
      refine g_goto (tgt := 9) hX dX5_readsDog_79 (by decide) ?_
      refine G.at (l := [(0, .ref (gA w 0)), (1, .int (nI (4 * d))), (2, .int 2)]) ?_ ⟨rfl, rfl, vI (by decide), trivial⟩
      refine g_iload_n hX dX5_readsDog_9 rfl rfl ?_
      refine g_iconst (v := 4) hX dX5_readsDog_10 (by decide) ?_
      refine g_icmp_ge (tgt := 82) hX dX5_readsDog_11 (by decide) (fun z => absurd z (by decide)) (fun _ => ?_)
      refine g_iload_n hX dX5_readsDog_14 rfl rfl ?_
      refine g_iconst (v := 1) hX dX5_readsDog_15 (by decide) ?_
      refine g_icmp_eq (tgt := 24) hX dX5_readsDog_16 (by decide) (fun z => absurd z (by decide)) (fun _ => ?_)
      refine g_iload_n hX dX5_readsDog_19 rfl rfl ?_
      refine g_iconst (v := 2) hX dX5_readsDog_20 (by decide) ?_
      refine g_icmp_ne (tgt := 28) hX dX5_readsDog_21 (by decide) (fun z => absurd (by decide) z) (fun _ => ?_)
      refine g_iconst (v := 1) hX dX5_readsDog_24 (by decide) ?_
      refine g_goto (tgt := 29) hX dX5_readsDog_25 (by decide) ?_
      refine g_istore_n hX dX5_readsDog_29 rfl (by decide) ?_
      refine g_aload_n hX dX5_readsDog_30 rfl rfl ?_
      refine g_iload_n hX dX5_readsDog_31 rfl rfl ?_
      refine g_iload_n hX dX5_readsDog_32 rfl rfl ?_
      refine g_if_eq (tgt := 41) hX dX5_readsDog_33 (by decide) (fun z => absurd z (by decide)) (fun _ => ?_)
      refine g_iload_n hX dX5_readsDog_36 rfl rfl ?_
      refine g_iconst (v := 1) hX dX5_readsDog_37 (by decide) ?_
      refine g_icmp_ne (tgt := 45) hX dX5_readsDog_38 (by decide) (fun _ => ?_) (fun z => absurd z (by decide))
      refine g_iload_n hX dX5_readsDog_45 rfl rfl ?_
      refine g_iconst (v := 2) hX dX5_readsDog_46 (by decide) ?_
      refine g_icmp_ne (tgt := 55) hX dX5_readsDog_47 (by decide) (fun z => absurd (by decide) z) (fun _ => ?_)
      refine g_bipush (v := 9) hX dX5_readsDog_50 (by decide) ?_
      refine g_goto (tgt := 56) hX dX5_readsDog_52 (by decide) ?_
      refine g_callV _ hX dX5_readsDog_56 k_X5_141 ⟨by decide, by decide⟩ (by decide) hm.k0 rfl rfl (m_num3 hm p2 (((hA2 18 (by decide) (by decide)).trans (hA1 18 (by decide) (by decide))).trans h18) h150 g2 hT) rfl (Nat.le_of_ble_eq_true rfl) (fun r1 I1 L1 hq3 => ?_)
      obtain ⟨e1, e2, A3, e3, hA3, hn3, hy3⟩ := hq3
      subst e1; rw [e2, e3]
      refine g_if_ne (tgt := 64) hX dX5_readsDog_59 (by decide) (fun c_59 => ?_) (fun c_59 => ?_)
      · have n3 := b01_n c_59
        obtain ⟨p3, v3⟩ := hy3 n3
        have g3 : (fg T m (sk T m (fg T m (sk T m (fg T m (sk T m (a + 3))))))) ≤ m := (fg_gt n3.1 n3.2.1).2
        refine g_aload_n hX dX5_readsDog_64 rfl rfl ?_
        refine g_get5R hX 24 dX5_readsDog_65 b_fl_X5_52 hm.k0 (by decide) hm.q15 ?_
        refine g_iload_n hX dX5_readsDog_68 rfl rfl ?_
        refine g_iload_n hX dX5_readsDog_69 rfl rfl ?_
        refine g_iadd hX dX5_readsDog_70 ?_
        refine g_aload_n hX dX5_readsDog_71 rfl rfl ?_
        refine g_get5I hX 25 dX5_readsDog_72 b_fl_X5_138 hm.k0 (by decide) ?_
        try simp (disch := decide) only [T3_0, T3_14, T3_15, T3_s0, T3_s14, T3_s15, pk_us, pk_un]
        rw [v3]
        refine g_iastN hX dX5_readsDog_75 hm.k15 (⟨(by rw [show (2 : Int32) = nI 2 from rfl, nI_add]), by omega⟩) (by decide) ?_
        try simp (disch := decide) only [T3_0, T3_14, T3_15, T3_s0, T3_s14, T3_s15, pk_us, pk_un]
        refine g_iinc hX dX5_readsDog_76 rfl (d := 1) (by decide) ?_
        refine g_goto (tgt := 9) hX dX5_readsDog_79 (by decide) ?_
        refine G.at (l := [(0, .ref (gA w 0)), (1, .int (nI (4 * d))), (2, .int 3)]) ?_ ⟨rfl, rfl, vI (by decide), trivial⟩
        refine g_iload_n hX dX5_readsDog_9 rfl rfl ?_
        refine g_iconst (v := 4) hX dX5_readsDog_10 (by decide) ?_
        refine g_icmp_ge (tgt := 82) hX dX5_readsDog_11 (by decide) (fun z => absurd z (by decide)) (fun _ => ?_)
        refine g_iload_n hX dX5_readsDog_14 rfl rfl ?_
        refine g_iconst (v := 1) hX dX5_readsDog_15 (by decide) ?_
        refine g_icmp_eq (tgt := 24) hX dX5_readsDog_16 (by decide) (fun z => absurd z (by decide)) (fun _ => ?_)
        refine g_iload_n hX dX5_readsDog_19 rfl rfl ?_
        refine g_iconst (v := 2) hX dX5_readsDog_20 (by decide) ?_
        refine g_icmp_ne (tgt := 28) hX dX5_readsDog_21 (by decide) (fun _ => ?_) (fun z => absurd z (by decide))
        refine g_iconst (v := 0) hX dX5_readsDog_28 (by decide) ?_
        refine g_istore_n hX dX5_readsDog_29 rfl (by decide) ?_
        refine g_aload_n hX dX5_readsDog_30 rfl rfl ?_
        refine g_iload_n hX dX5_readsDog_31 rfl rfl ?_
        refine g_iload_n hX dX5_readsDog_32 rfl rfl ?_
        refine g_if_eq (tgt := 41) hX dX5_readsDog_33 (by decide) (fun z => absurd z (by decide)) (fun _ => ?_)
        refine g_iload_n hX dX5_readsDog_36 rfl rfl ?_
        refine g_iconst (v := 1) hX dX5_readsDog_37 (by decide) ?_
        refine g_icmp_ne (tgt := 45) hX dX5_readsDog_38 (by decide) (fun _ => ?_) (fun z => absurd z (by decide))
        refine g_iload_n hX dX5_readsDog_45 rfl rfl ?_
        refine g_iconst (v := 2) hX dX5_readsDog_46 (by decide) ?_
        refine g_icmp_ne (tgt := 55) hX dX5_readsDog_47 (by decide) (fun _ => ?_) (fun z => absurd z (by decide))
        refine g_iconst (v := 3) hX dX5_readsDog_55 (by decide) ?_
        refine g_callV _ hX dX5_readsDog_56 k_X5_141 ⟨by decide, by decide⟩ (by decide) hm.k0 rfl rfl (m_num3 hm p3 (((hA3 18 (by decide) (by decide)).trans ((hA2 18 (by decide) (by decide)).trans (hA1 18 (by decide) (by decide)))).trans h18) h150 g3 hT) rfl (Nat.le_of_ble_eq_true rfl) (fun r1 I1 L1 hq4 => ?_)
        obtain ⟨e1, e2, A4, e3, hA4, hn4, hy4⟩ := hq4
        subst e1; rw [e2, e3]
        refine g_if_ne (tgt := 64) hX dX5_readsDog_59 (by decide) (fun c_59 => ?_) (fun c_59 => ?_)
        · have n4 := b01_n c_59
          obtain ⟨p4, v4⟩ := hy4 n4
          have g4 : (fg T m (sk T m (fg T m (sk T m (fg T m (sk T m (fg T m (sk T m (a + 3))))))))) ≤ m := (fg_gt n4.1 n4.2.1).2
          refine g_aload_n hX dX5_readsDog_64 rfl rfl ?_
          refine g_get5R hX 24 dX5_readsDog_65 b_fl_X5_52 hm.k0 (by decide) hm.q15 ?_
          refine g_iload_n hX dX5_readsDog_68 rfl rfl ?_
          refine g_iload_n hX dX5_readsDog_69 rfl rfl ?_
          refine g_iadd hX dX5_readsDog_70 ?_
          refine g_aload_n hX dX5_readsDog_71 rfl rfl ?_
          refine g_get5I hX 25 dX5_readsDog_72 b_fl_X5_138 hm.k0 (by decide) ?_
          try simp (disch := decide) only [T3_0, T3_14, T3_15, T3_s0, T3_s14, T3_s15, pk_us, pk_un]
          rw [v4]
          refine g_iastN hX dX5_readsDog_75 hm.k15 (⟨(by rw [show (3 : Int32) = nI 3 from rfl, nI_add]), by omega⟩) (by decide) ?_
          try simp (disch := decide) only [T3_0, T3_14, T3_15, T3_s0, T3_s14, T3_s15, pk_us, pk_un]
          refine g_iinc hX dX5_readsDog_76 rfl (d := 1) (by decide) ?_
          refine g_goto (tgt := 9) hX dX5_readsDog_79 (by decide) ?_
          refine G.at (l := [(0, .ref (gA w 0)), (1, .int (nI (4 * d))), (2, .int 4)]) ?_ ⟨rfl, rfl, vI (by decide), trivial⟩
          refine g_iload_n hX dX5_readsDog_9 rfl rfl ?_
          refine g_iconst (v := 4) hX dX5_readsDog_10 (by decide) ?_
          refine g_icmp_ge (tgt := 82) hX dX5_readsDog_11 (by decide) (fun _ => ?_) (fun z => absurd (by decide) z)
          refine g_aload_n hX dX5_readsDog_82 rfl rfl ?_
          refine g_dup hX dX5_readsDog_83 rfl ?_
          refine g_get5I hX 21 dX5_readsDog_84 b_fl_X5_152 hm.k0 (by decide) ?_
          try simp (disch := decide) only [T3_0, T3_14, T3_15, T3_s0, T3_s14, T3_s15, pk_us, pk_un]
          rw [hA4 21 (by decide) (by decide), hA3 21 (by decide) (by decide), hA2 21 (by decide) (by decide), hA1 21 (by decide) (by decide), hV.2.1]
          refine g_iconst (v := 1) hX dX5_readsDog_87 (by decide) ?_
          refine g_iadd hX dX5_readsDog_88 ?_
          refine g_put5I hX 21 dX5_readsDog_89 b_fl_X5_152 hm.k0 pf5_21 ?_
          try simp (disch := decide) only [T3_0, T3_14, T3_15, T3_s0, T3_s14, T3_s15, pk_us, pk_un]
          refine g_aload_n hX dX5_readsDog_92 rfl rfl ?_
          refine g_callV _ hX dX5_readsDog_93 k_X5_148 ⟨by decide, by decide⟩ (by decide) hm.k0 rfl rfl (m_end3 hm ((pk_un (by decide)).trans p4) ((pk_un (by decide)).trans (((hA4 18 (by decide) (by decide)).trans ((hA3 18 (by decide) (by decide)).trans ((hA2 18 (by decide) (by decide)).trans (hA1 18 (by decide) (by decide))))).trans h18)) h150 g4 hT) rfl (Nat.le_of_ble_eq_true rfl) (fun r9 I9 L9 hq9 => ?_)
          have hf : FA A (upd A4 21 (nI d + 1)) := fun k a b c d e => (pk_un c).trans ((hA4 k a e).trans ((hA3 k a e).trans ((hA2 k a e).trans (hA1 k a e))))
          have hv := hV.dog (nv T (sk T m (a + 3)) (fg T m (sk T m (a + 3)))) (nv T (sk T m (fg T m (sk T m (a + 3)))) (fg T m (sk T m (fg T m (sk T m (a + 3)))))) (nv T (sk T m (fg T m (sk T m (fg T m (sk T m (a + 3)))))) (fg T m (sk T m (fg T m (sk T m (fg T m (sk T m (a + 3)))))))) (nv T (sk T m (fg T m (sk T m (fg T m (sk T m (fg T m (sk T m (a + 3)))))))) (fg T m (sk T m (fg T m (sk T m (fg T m (sk T m (fg T m (sk T m (a + 3))))))))))
          have q20 : (upd A4 21 (nI d + 1)) 20 = A 20 := (pk_un (by decide)).trans ((hA4 20 (by decide) (by decide)).trans ((hA3 20 (by decide) (by decide)).trans ((hA2 20 (by decide) (by decide)).trans (hA1 20 (by decide) (by decide)))))
          have q21 : (upd A4 21 (nI d + 1)) 21 = nI (d + 1) := by rw [pk_us, nI_1]
          have q22 : (upd A4 21 (nI d + 1)) 22 = A 22 := (pk_un (by decide)).trans ((hA4 22 (by decide) (by decide)).trans ((hA3 22 (by decide) (by decide)).trans ((hA2 22 (by decide) (by decide)).trans (hA1 22 (by decide) (by decide)))))
          rw [← q20, ← q21, ← q22] at hv
          refine g_zretM hX dX5_readsDog_96 rfl (RM.nar (RM.sm (A := A) (V := dogV V d (nv T (sk T m (a + 3)) (fg T m (sk T m (a + 3)))) (nv T (sk T m (fg T m (sk T m (a + 3)))) (fg T m (sk T m (fg T m (sk T m (a + 3)))))) (nv T (sk T m (fg T m (sk T m (fg T m (sk T m (a + 3)))))) (fg T m (sk T m (fg T m (sk T m (fg T m (sk T m (a + 3)))))))) (nv T (sk T m (fg T m (sk T m (fg T m (sk T m (fg T m (sk T m (a + 3)))))))) (fg T m (sk T m (fg T m (sk T m (fg T m (sk T m (fg T m (sk T m (a + 3))))))))))) (n := n) (d := d + 1) hq9 hf hv)) ?_
          rw [dogF, if_pos hn, numF, if_pos n1, numF, if_pos n2, numF, if_pos n3, numF, if_pos n4]
          exact RM.sm hq9 hf hv
        · refine g_iconst (v := 0) hX dX5_readsDog_62 (by decide) ?_
          exact g_zret hX dX5_readsDog_63 rfl rfl (by rw [dogF, if_pos hn, numF, if_pos n1, numF, if_pos n2, numF, if_pos n3, numF, if_neg (b01_0 c_59)]; exact RM.bad (fun k a _ _ _ e => ((hA4 k a e).trans ((hA3 k a e).trans ((hA2 k a e).trans (hA1 k a e))))) (hn4 (b01_0 c_59)))
      · refine g_iconst (v := 0) hX dX5_readsDog_62 (by decide) ?_
        exact g_zret hX dX5_readsDog_63 rfl rfl (by rw [dogF, if_pos hn, numF, if_pos n1, numF, if_pos n2, numF, if_neg (b01_0 c_59)]; exact RM.bad (fun k a _ _ _ e => ((hA3 k a e).trans ((hA2 k a e).trans (hA1 k a e)))) (hn3 (b01_0 c_59)))
    · refine g_iconst (v := 0) hX dX5_readsDog_62 (by decide) ?_
      exact g_zret hX dX5_readsDog_63 rfl rfl (by rw [dogF, if_pos hn, numF, if_pos n1, numF, if_neg (b01_0 c_59)]; exact RM.bad (fun k a _ _ _ e => ((hA2 k a e).trans (hA1 k a e))) (hn2 (b01_0 c_59)))
  · refine g_iconst (v := 0) hX dX5_readsDog_62 (by decide) ?_
    exact g_zret hX dX5_readsDog_63 rfl rfl (by rw [dogF, if_pos hn, numF, if_neg (b01_0 c_59)]; exact RM.bad (fun k a _ _ _ e => (hA1 k a e)) (hn1 (b01_0 c_59)))
set_option maxHeartbeats 4000000 in
set_option maxRecDepth 100000 in
theorem m_readsBribe {w : WG} {L : SL} (hm : ML w) {J : SI} {A B C : Nat → Int32} {T : Nat → Int32} {a m n d : Nat} {V : VS} (h18 : A 18 = nI m) (h150 : m ≤ 150) (hT : ∀ i, i < m → J 13 i = T i) (hI : VI V n d) (hV : MVr (A 20) (A 21) (A 22) B C V n d) (h19 : A 19 = nI (a + 5)) (ham : a + 5 ≤ m) : Ok w mX5_readsBribe [.ref (gA w 0)] (T3 J A B C) L (RM J A L (bribeF T m a V n d)) := by
  have hn4 := hI.1.2
  have hd7 := hI.2.1.2
  refine Ok.of (by decide) (Nat.le_of_ble_eq_true rfl) (fun X hX => ?_)
  refine g_aload_n hX dX5_readsBribe_0 rfl rfl ?_
  refine g_iconst (v := 0) hX dX5_readsBribe_1 (by decide) ?_
  refine g_aload_n hX dX5_readsBribe_2 rfl rfl ?_
  refine g_get5I hX 20 dX5_readsBribe_3 b_fl_X5_145 hm.k0 (by decide) ?_
  try simp (disch := decide) only [T3_0, T3_14, T3_15, T3_s0, T3_s14, T3_s15, pk_us, pk_un]
  rw [hV.1]
  refine g_iconst (v := 1) hX dX5_readsBribe_6 (by decide) ?_
  refine g_isub hX dX5_readsBribe_7 ?_
  refine g_callV _ hX dX5_readsBribe_8 k_X5_141 ⟨by decide, by decide⟩ (by decide) hm.k0 rfl rfl (m_num3 hm h19 h18 h150 ham hT) rfl (Nat.le_of_ble_eq_true rfl) (fun r1 I1 L1 hq1 => ?_)
  obtain ⟨e1, e2, A1, e3, hA1, hn1, hy1⟩ := hq1
  subst e1; rw [e2, e3]
  refine g_if_ne (tgt := 16) hX dX5_readsBribe_11 (by decide) (fun c_11 => ?_) (fun c_11 => ?_)
  · have n1 := b01_n c_11
    obtain ⟨p1, v1⟩ := hy1 n1
    have g1 : (fg T m (sk T m (a + 5))) ≤ m := (fg_gt n1.1 n1.2.1).2
    obtain ⟨c, ec, hc⟩ := num_lt n1.2.2.2.1 n1.2.2.2.2 (by omega)
    refine g_aload_n hX dX5_readsBribe_16 rfl rfl ?_
    refine g_get5I hX 25 dX5_readsBribe_17 b_fl_X5_138 hm.k0 (by decide) ?_
    try simp (disch := decide) only [T3_0, T3_14, T3_15, T3_s0, T3_s14, T3_s15, pk_us, pk_un]
    rw [v1, ec]
    refine g_istore_n hX dX5_readsBribe_20 rfl (by decide) ?_
    refine g_aload_n hX dX5_readsBribe_21 rfl rfl ?_
    refine g_callV _ hX dX5_readsBribe_22 k_X5_132 ⟨by decide, by decide⟩ (by decide) hm.k0 rfl rfl (m_sk3 hm p1 ((hA1 18 (by decide) (by decide)).trans h18) h150 g1 hT) rfl (Nat.le_of_ble_eq_true rfl) (fun r1 I1 L1 hq => ?_)
    obtain ⟨e1, e2, e3⟩ := hq
    subst e1; rw [e2, e3]
    refine g_aload_n hX dX5_readsBribe_25 rfl rfl ?_
    refine g_get5I hX 19 dX5_readsBribe_26 b_fl_X5_115 hm.k0 (by decide) ?_
    try simp (disch := decide) only [T3_0, T3_14, T3_15, T3_s0, T3_s14, T3_s15, pk_us, pk_un]
    refine g_istore_n hX dX5_readsBribe_29 rfl (by decide) ?_
    refine g_aload_n hX dX5_readsBribe_30 rfl rfl ?_
    refine g_iconst (v := 0) hX dX5_readsBribe_31 (by decide) ?_
    refine g_aload_n hX dX5_readsBribe_32 rfl rfl ?_
    refine g_get5I hX 21 dX5_readsBribe_33 b_fl_X5_152 hm.k0 (by decide) ?_
    try simp (disch := decide) only [T3_0, T3_14, T3_15, T3_s0, T3_s14, T3_s15, pk_us, pk_un]
    rw [hA1 21 (by decide) (by decide), hV.2.1]
    refine g_iconst (v := 1) hX dX5_readsBribe_36 (by decide) ?_
    refine g_isub hX dX5_readsBribe_37 ?_
    refine g_callV _ hX dX5_readsBribe_38 k_X5_141 ⟨by decide, by decide⟩ (by decide) hm.k0 rfl rfl (m_num3 hm (A := (upd A1 19 (nI (sk T m (fg T m (sk T m (a + 5))))))) pk_us ((pk_un (by decide)).trans ((hA1 18 (by decide) (by decide)).trans h18)) h150 (rU_le g1) hT) rfl (Nat.le_of_ble_eq_true rfl) (fun r1 I1 L1 hq2 => ?_)
    unfold N3 at hq2; rw [sk_sk] at hq2
    obtain ⟨e1, e2, A2, e3, hA2, hn2, hy2⟩ := hq2
    have hA2 : ∀ k, k ≠ 19 → k ≠ 25 → A2 k = A1 k := fun k a b => (hA2 k a b).trans (pk_un a)
    subst e1; rw [e2, e3]
    refine g_if_ne (tgt := 46) hX dX5_readsBribe_41 (by decide) (fun c_41 => ?_) (fun c_41 => ?_)
    · have n2 := b01_n c_41
      obtain ⟨p2, v2⟩ := hy2 n2
      have g2 : (fg T m (sk T m (fg T m (sk T m (a + 5))))) ≤ m := (fg_gt n2.1 n2.2.1).2
      obtain ⟨k, ek, hk⟩ := num_lt n2.2.2.2.1 n2.2.2.2.2 (by omega)
      refine g_aload_n hX dX5_readsBribe_46 rfl rfl ?_
      refine g_get5I hX 25 dX5_readsBribe_47 b_fl_X5_138 hm.k0 (by decide) ?_
      try simp (disch := decide) only [T3_0, T3_14, T3_15, T3_s0, T3_s14, T3_s15, pk_us, pk_un]
      rw [v2, ek]
      refine g_istore_n hX dX5_readsBribe_50 rfl (by decide) ?_
      refine g_aload_n hX dX5_readsBribe_51 rfl rfl ?_
      refine g_get5I hX 22 dX5_readsBribe_52 b_fl_X5_155 hm.k0 (by decide) ?_
      try simp (disch := decide) only [T3_0, T3_14, T3_15, T3_s0, T3_s14, T3_s15, pk_us, pk_un]
      rw [hA2 22 (by decide) (by decide), hA1 22 (by decide) (by decide), hV.2.2.1]
      refine g_iload_n hX dX5_readsBribe_55 rfl rfl ?_
      refine g_callSp _ hX dX5_readsBribe_56 k_X5_158 ⟨by decide, by decide⟩ rfl (ok_has _ _) rfl (Nat.le_of_ble_eq_true rfl) ?_
      refine g_if_ne (tgt := 85) hX dX5_readsBribe_59 (by decide) (fun c_59 => ?_) (fun c_59 => ?_)
      · refine g_aload_n hX dX5_readsBribe_85 rfl rfl ?_
        refine g_iload_n hX dX5_readsBribe_86 rfl rfl ?_
        refine g_put5I hX 19 dX5_readsBribe_87 b_fl_X5_115 hm.k0 pf5_19 ?_
        try simp (disch := decide) only [T3_0, T3_14, T3_15, T3_s0, T3_s14, T3_s15, pk_us, pk_un]
        refine g_iconst (v := 0) hX dX5_readsBribe_90 (by decide) ?_
        exact g_zret hX dX5_readsBribe_91 rfl rfl (by rw [bribeF, numF, if_pos n1, numF, if_pos n2, ec, ek, nI_clamp (by omega), nI_clamp (by omega), if_neg (fun z => c_59 z.1)]; exact RM.bad (fun k a _ _ _ e => (pk_un a).trans ((hA2 k a e).trans (hA1 k a e))) pk_us)
      · refine g_aload_n hX dX5_readsBribe_62 rfl rfl ?_
        refine g_get5R hX 24 dX5_readsBribe_63 b_fl_X5_52 hm.k0 (by decide) hm.q15 ?_
        refine g_iconst (v := 4) hX dX5_readsBribe_66 (by decide) ?_
        refine g_iload_n hX dX5_readsBribe_67 rfl rfl ?_
        refine g_imul hX dX5_readsBribe_68 ?_
        refine g_iconst (v := 2) hX dX5_readsBribe_69 (by decide) ?_
        refine g_iadd hX dX5_readsBribe_70 ?_
        refine g_ialdN hX dX5_readsBribe_71 hm.k15 (⟨by rw [show (4 : Int32) = nI 4 from rfl, pk_mul, show (2 : Int32) = nI 2 from rfl, nI_add], by omega⟩) (by decide) ?_
        try simp (disch := decide) only [T3_0, T3_14, T3_15, T3_s0, T3_s14, T3_s15, pk_us, pk_un]
        rw [(hV.2.2.2.2 k hk).2.2.1]
        refine g_aload_n hX dX5_readsBribe_72 rfl rfl ?_
        refine g_get5R hX 23 dX5_readsBribe_73 b_fl_X5_49 hm.k0 (by decide) hm.q14 ?_
        refine g_iconst (v := 2) hX dX5_readsBribe_76 (by decide) ?_
        refine g_iload_n hX dX5_readsBribe_77 rfl rfl ?_
        refine g_imul hX dX5_readsBribe_78 ?_
        refine g_iconst (v := 1) hX dX5_readsBribe_79 (by decide) ?_
        refine g_iadd hX dX5_readsBribe_80 ?_
        refine g_ialdN hX dX5_readsBribe_81 hm.k14 (⟨by rw [show (2 : Int32) = nI 2 from rfl, pk_mul, nI_1], by omega⟩) (by decide) ?_
        try simp (disch := decide) only [T3_0, T3_14, T3_15, T3_s0, T3_s14, T3_s15, pk_us, pk_un]
        rw [(hV.2.2.2.1 c hc).2]
        refine g_icmp_le (tgt := 92) hX dX5_readsBribe_82 (by decide) (fun c_82 => ?_) (fun c_82 => ?_)
        · refine g_aload_n hX dX5_readsBribe_92 rfl rfl ?_
          refine g_dup hX dX5_readsBribe_93 rfl ?_
          refine g_get5I hX 22 dX5_readsBribe_94 b_fl_X5_155 hm.k0 (by decide) ?_
          try simp (disch := decide) only [T3_0, T3_14, T3_15, T3_s0, T3_s14, T3_s15, pk_us, pk_un]
          rw [hA2 22 (by decide) (by decide), hA1 22 (by decide) (by decide), hV.2.2.1]
          refine g_iconst (v := 1) hX dX5_readsBribe_97 (by decide) ?_
          refine g_iload_n hX dX5_readsBribe_98 rfl rfl ?_
          refine g_ishl hX dX5_readsBribe_99 ?_
          refine g_ior hX dX5_readsBribe_100 ?_
          refine g_put5I hX 22 dX5_readsBribe_101 b_fl_X5_155 hm.k0 pf5_22 ?_
          try simp (disch := decide) only [T3_0, T3_14, T3_15, T3_s0, T3_s14, T3_s15, pk_us, pk_un]
          refine g_aload_n hX dX5_readsBribe_104 rfl rfl ?_
          refine g_get5R hX 23 dX5_readsBribe_105 b_fl_X5_49 hm.k0 (by decide) hm.q14 ?_
          refine g_iconst (v := 2) hX dX5_readsBribe_108 (by decide) ?_
          refine g_iload_n hX dX5_readsBribe_109 rfl rfl ?_
          refine g_imul hX dX5_readsBribe_110 ?_
          refine g_iconst (v := 1) hX dX5_readsBribe_111 (by decide) ?_
          refine g_iadd hX dX5_readsBribe_112 ?_
          refine g_dup2 hX dX5_readsBribe_113 rfl rfl ?_
          refine g_ialdN hX dX5_readsBribe_114 hm.k14 (⟨by rw [show (2 : Int32) = nI 2 from rfl, pk_mul, nI_1], by omega⟩) (by decide) ?_
          try simp (disch := decide) only [T3_0, T3_14, T3_15, T3_s0, T3_s14, T3_s15, pk_us, pk_un]
          rw [(hV.2.2.2.1 c hc).2]
          refine g_aload_n hX dX5_readsBribe_115 rfl rfl ?_
          refine g_get5R hX 24 dX5_readsBribe_116 b_fl_X5_52 hm.k0 (by decide) hm.q15 ?_
          refine g_iconst (v := 4) hX dX5_readsBribe_119 (by decide) ?_
          refine g_iload_n hX dX5_readsBribe_120 rfl rfl ?_
          refine g_imul hX dX5_readsBribe_121 ?_
          refine g_iconst (v := 2) hX dX5_readsBribe_122 (by decide) ?_
          refine g_iadd hX dX5_readsBribe_123 ?_
          refine g_ialdN hX dX5_readsBribe_124 hm.k15 (⟨by rw [show (4 : Int32) = nI 4 from rfl, pk_mul, show (2 : Int32) = nI 2 from rfl, nI_add], by omega⟩) (by decide) ?_
          try simp (disch := decide) only [T3_0, T3_14, T3_15, T3_s0, T3_s14, T3_s15, pk_us, pk_un]
          rw [(hV.2.2.2.2 k hk).2.2.1]
          refine g_isub hX dX5_readsBribe_125 ?_
          refine g_iastN hX dX5_readsBribe_126 hm.k14 (⟨by rw [show (2 : Int32) = nI 2 from rfl, pk_mul, nI_1], by omega⟩) (by decide) ?_
          try simp (disch := decide) only [T3_0, T3_14, T3_15, T3_s0, T3_s14, T3_s15, pk_us, pk_un]
          refine g_aload_n hX dX5_readsBribe_127 rfl rfl ?_
          refine g_callV _ hX dX5_readsBribe_128 k_X5_148 ⟨by decide, by decide⟩ (by decide) hm.k0 rfl rfl (m_end3 hm (A := (upd A2 22 (V 0 2 ||| ((1 : Int32) <<< (nI k &&& 31))))) ((pk_un (by decide)).trans p2) ((pk_un (by decide)).trans ((hA2 18 (by decide) (by decide)).trans ((hA1 18 (by decide) (by decide)).trans h18))) h150 g2 hT) rfl (Nat.le_of_ble_eq_true rfl) (fun r9 I9 L9 hq9 => ?_)
          have hf : FA A (upd A2 22 (V 0 2 ||| ((1 : Int32) <<< (nI k &&& 31)))) := fun k a b c d e => (pk_un d).trans ((hA2 k a e).trans (hA1 k a e))
          have hv := hV.put hc hk
          have q20 : (upd A2 22 (V 0 2 ||| ((1 : Int32) <<< (nI k &&& 31)))) 20 = A 20 := by rw [pk_un (by decide), hA2 20 (by decide) (by decide), hA1 20 (by decide) (by decide)]
          have q21 : (upd A2 22 (V 0 2 ||| ((1 : Int32) <<< (nI k &&& 31)))) 21 = A 21 := by rw [pk_un (by decide), hA2 21 (by decide) (by decide), hA1 21 (by decide) (by decide)]
          have q22 : (upd A2 22 (V 0 2 ||| ((1 : Int32) <<< (nI k &&& 31)))) 22 = (V 0 2 ||| ((1 : Int32) <<< (nI k &&& 31))) := pk_us
          rw [← q20, ← q21, ← q22] at hv
          refine g_zretM hX dX5_readsBribe_131 rfl (RM.nar (RM.sm (A := A) (V := putV V c k) (n := n) (d := d) hq9 hf hv)) ?_
          rw [bribeF, numF, if_pos n1, numF, if_pos n2, ec, ek, nI_clamp (by omega), nI_clamp (by omega), if_pos ⟨c_59, c_82⟩]
          exact RM.sm hq9 hf hv
        · refine g_aload_n hX dX5_readsBribe_85 rfl rfl ?_
          refine g_iload_n hX dX5_readsBribe_86 rfl rfl ?_
          refine g_put5I hX 19 dX5_readsBribe_87 b_fl_X5_115 hm.k0 pf5_19 ?_
          try simp (disch := decide) only [T3_0, T3_14, T3_15, T3_s0, T3_s14, T3_s15, pk_us, pk_un]
          refine g_iconst (v := 0) hX dX5_readsBribe_90 (by decide) ?_
          exact g_zret hX dX5_readsBribe_91 rfl rfl (by rw [bribeF, numF, if_pos n1, numF, if_pos n2, ec, ek, nI_clamp (by omega), nI_clamp (by omega), if_neg (fun z => c_82 z.2)]; exact RM.bad (fun k a _ _ _ e => (pk_un a).trans ((hA2 k a e).trans (hA1 k a e))) pk_us)
    · refine g_iconst (v := 0) hX dX5_readsBribe_44 (by decide) ?_
      exact g_zret hX dX5_readsBribe_45 rfl rfl (by rw [bribeF, numF, if_pos n1, numF, if_neg (b01_0 c_41)]; exact RM.bad (fun k a _ _ _ e => (hA2 k a e).trans (hA1 k a e)) (hn2 (b01_0 c_41)))
  · refine g_iconst (v := 0) hX dX5_readsBribe_14 (by decide) ?_
    exact g_zret hX dX5_readsBribe_15 rfl rfl (by rw [bribeF, numF, if_neg (b01_0 c_11)]; exact RM.bad (fun k a _ _ _ e => hA1 k a e) (hn1 (b01_0 c_11)))
