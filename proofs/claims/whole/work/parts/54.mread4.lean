theorem wOK_m {T : Nat → Int32} {m s k : Nat} (hk : k < 4) (hs : s ≤ m) (h : wOK T m s k) : s + sL k ≤ m := (wOK_E hk hs h).2
theorem wOK_ex {T : Nat → Int32} {m a i j : Nat} (h : wOK T m a i) (hj : wOK T m a j) (hne : sL i ≠ sL j ∨ ∃ k, k < sL i ∧ k < sL j ∧ sB i k ≠ sB j k) : False := by
  rcases hne with h1 | ⟨k, h1, h2, h3⟩
  · exact h1 (by have := h.1.symm.trans hj.1; omega)
  · exact h3 ((h.2 k h1).symm.trans (hj.2 k h2))
set_option maxHeartbeats 4000000 in
set_option maxRecDepth 100000 in
theorem m_readsItem {w : WG} {L : SL} (hm : ML w) {J : SI} {A B C : Nat → Int32} {T : Nat → Int32} {a m n d : Nat} {V : VS} (h18 : A 18 = nI m) (h150 : m ≤ 150) (hT : ∀ i, i < m → J 13 i = T i) (hI : VI V n d) (hV : MVr (A 20) (A 21) (A 22) B C V n d) (h19 : A 19 = nI a) (ham : a ≤ m) : Ok w mX5_readsItem [.ref (gA w 0)] (T3 J A B C) L (RM J A L (itemF T m a V n d)) := by
  have hn4 := hI.1.2
  have hd7 := hI.2.1.2
  refine Ok.of (by decide) (Nat.le_of_ble_eq_true rfl) (fun X hX => ?_)
  by_cases h0 : wOK T m a 0
  · have hw : whF T m a = 0 := if_pos h0
    have h1 : ¬ wOK T m a 1 := fun z => wOK_ex h0 z (Or.inl (by decide))
    have h2 : ¬ wOK T m a 2 := fun z => wOK_ex h0 z (Or.inl (by decide))
    have h3 : ¬ wOK T m a 3 := fun z => wOK_ex h0 z (Or.inl (by decide))
    refine g_aload_n hX dX5_readsItem_0 rfl rfl ?_
    refine g_callVp _ hX dX5_readsItem_1 k_X5_161 ⟨by decide, by decide⟩ (by decide) hm.k0 rfl rfl (m_wh3 hm h19 h18 h150 ham hT) rfl (Nat.le_of_ble_eq_true rfl) ?_
    rw [hw]
    refine g_istore_n hX dX5_readsItem_4 rfl (by decide) ?_
    refine g_iload_n hX dX5_readsItem_5 rfl rfl ?_
    refine g_iconst (v := 1) hX dX5_readsItem_6 (by decide) ?_
    refine g_icmp_lt (tgt := 37) hX dX5_readsItem_7 (by decide) (fun _ => ?_) (fun z => absurd (by decide) z)
    refine g_iconst (v := 0) hX dX5_readsItem_37 (by decide) ?_
    exact g_zret hX dX5_readsItem_38 rfl rfl (by rw [itemF, if_neg h1, if_neg h2, if_neg h3]; exact RM.bad (fun _ _ _ _ _ _ => rfl) h19)
  by_cases h1 : wOK T m a 1
  · have hw : whF T m a = 1 := by rw [whF, if_neg h0, if_pos h1]
    have hb : a + 3 ≤ m := by have := wOK_m (by decide) ham h1; exact this
    refine g_aload_n hX dX5_readsItem_0 rfl rfl ?_
    refine g_callVp _ hX dX5_readsItem_1 k_X5_161 ⟨by decide, by decide⟩ (by decide) hm.k0 rfl rfl (m_wh3 hm h19 h18 h150 ham hT) rfl (Nat.le_of_ble_eq_true rfl) ?_
    rw [hw]
    refine g_istore_n hX dX5_readsItem_4 rfl (by decide) ?_
    refine g_iload_n hX dX5_readsItem_5 rfl rfl ?_
    refine g_iconst (v := 1) hX dX5_readsItem_6 (by decide) ?_
    refine g_icmp_lt (tgt := 37) hX dX5_readsItem_7 (by decide) (fun z => absurd z (by decide)) (fun _ => ?_)
    refine g_iload_n hX dX5_readsItem_10 rfl rfl ?_
    refine g_iconst (v := 1) hX dX5_readsItem_11 (by decide) ?_
    refine g_icmp_ne (tgt := 23) hX dX5_readsItem_12 (by decide) (fun z => absurd (by decide) z) (fun _ => ?_)
    refine g_aload_n hX dX5_readsItem_15 rfl rfl ?_
    refine g_get5I hX 20 dX5_readsItem_16 b_fl_X5_145 hm.k0 (by decide) ?_
    try simp (disch := decide) only [T3_0, T3_14, T3_15, T3_s0, T3_s14, T3_s15, pk_us, pk_un]
    rw [hV.1]
    refine g_iconst (v := 4) hX dX5_readsItem_19 (by decide) ?_
    rw [show (4 : Int32) = nI 4 from rfl]
    refine g_icmp_eq (tgt := 37) hX dX5_readsItem_20 (by decide) (fun c_20 => ?_) (fun c_20 => ?_)
    · refine g_iconst (v := 0) hX dX5_readsItem_37 (by decide) ?_
      exact g_zret hX dX5_readsItem_38 rfl rfl (by have en : n = 4 := (nI_eq (by omega) (by omega)).mp c_20; rw [itemF, if_pos h1, manF, if_neg (by omega)]; exact RM.bad (fun _ _ _ _ _ _ => rfl) h19)
    · refine g_iload_n hX dX5_readsItem_23 rfl rfl ?_
      refine g_iconst (v := 2) hX dX5_readsItem_24 (by decide) ?_
      refine g_icmp_ne (tgt := 39) hX dX5_readsItem_25 (by decide) (fun _ => ?_) (fun z => absurd z (by decide))
      have hn : n < 4 := Nat.lt_of_le_of_ne hn4 (fun e => c_20 (by rw [e]))
      refine g_aload_n hX dX5_readsItem_39 rfl rfl ?_
      refine g_dup hX dX5_readsItem_40 rfl ?_
      refine g_get5I hX 19 dX5_readsItem_41 b_fl_X5_115 hm.k0 (by decide) ?_
      try simp (disch := decide) only [T3_0, T3_14, T3_15, T3_s0, T3_s14, T3_s15, pk_us, pk_un]
      rw [h19]
      refine g_iload_n hX dX5_readsItem_44 rfl rfl ?_
      refine g_iconst (v := 3) hX dX5_readsItem_45 (by decide) ?_
      refine g_icmp_ne (tgt := 53) hX dX5_readsItem_46 (by decide) (fun _ => ?_) (fun z => absurd z (by decide))
      refine g_iconst (v := 3) hX dX5_readsItem_53 (by decide) ?_
      refine g_iadd hX dX5_readsItem_54 ?_
      refine g_put5I hX 19 dX5_readsItem_55 b_fl_X5_115 hm.k0 pf5_19 ?_
      try simp (disch := decide) only [T3_0, T3_14, T3_15, T3_s0, T3_s14, T3_s15, pk_us, pk_un]
      refine g_iload_n hX dX5_readsItem_58 rfl rfl ?_
      refine g_iconst (v := 1) hX dX5_readsItem_59 (by decide) ?_
      refine g_icmp_ne (tgt := 70) hX dX5_readsItem_60 (by decide) (fun z => absurd (by decide) z) (fun _ => ?_)
      refine g_aload_n hX dX5_readsItem_63 rfl rfl ?_
      refine g_callV _ hX dX5_readsItem_64 k_X5_164 ⟨by decide, by decide⟩ (by decide) hm.k0 rfl rfl (m_readsMan (A := (upd A 19 (nI a + 3))) (V := V) (n := n) (d := d) hm ((pk_un (by decide)).trans h18) h150 hT hI (by rw [pk_un (by decide), pk_un (by decide), pk_un (by decide)]; exact hV) (by rw [pk_us, show (3 : Int32) = nI 3 from rfl, nI_add]) hb hn) rfl (Nat.le_of_ble_eq_true rfl) (fun r9 I9 L9 hq9 => ?_)
      refine g_goto (tgt := 86) hX dX5_readsItem_67 (by decide) ?_
      exact g_zretM hX dX5_readsItem_86 rfl (RM.nar hq9) (by rw [itemF, if_pos h1]; exact hq9.fa (fun k a _ _ _ _ => pk_un a))
  by_cases h2 : wOK T m a 2
  · have hw : whF T m a = 2 := by rw [whF, if_neg h0, if_neg h1, if_pos h2]
    have hb : a + 3 ≤ m := by have := wOK_m (by decide) ham h2; exact this
    refine g_aload_n hX dX5_readsItem_0 rfl rfl ?_
    refine g_callVp _ hX dX5_readsItem_1 k_X5_161 ⟨by decide, by decide⟩ (by decide) hm.k0 rfl rfl (m_wh3 hm h19 h18 h150 ham hT) rfl (Nat.le_of_ble_eq_true rfl) ?_
    rw [hw]
    refine g_istore_n hX dX5_readsItem_4 rfl (by decide) ?_
    refine g_iload_n hX dX5_readsItem_5 rfl rfl ?_
    refine g_iconst (v := 1) hX dX5_readsItem_6 (by decide) ?_
    refine g_icmp_lt (tgt := 37) hX dX5_readsItem_7 (by decide) (fun z => absurd z (by decide)) (fun _ => ?_)
    refine g_iload_n hX dX5_readsItem_10 rfl rfl ?_
    refine g_iconst (v := 1) hX dX5_readsItem_11 (by decide) ?_
    refine g_icmp_ne (tgt := 23) hX dX5_readsItem_12 (by decide) (fun _ => ?_) (fun z => absurd z (by decide))
    refine g_iload_n hX dX5_readsItem_23 rfl rfl ?_
    refine g_iconst (v := 2) hX dX5_readsItem_24 (by decide) ?_
    refine g_icmp_ne (tgt := 39) hX dX5_readsItem_25 (by decide) (fun z => absurd (by decide) z) (fun _ => ?_)
    refine g_aload_n hX dX5_readsItem_28 rfl rfl ?_
    refine g_get5I hX 21 dX5_readsItem_29 b_fl_X5_152 hm.k0 (by decide) ?_
    try simp (disch := decide) only [T3_0, T3_14, T3_15, T3_s0, T3_s14, T3_s15, pk_us, pk_un]
    rw [hV.2.1]
    refine g_bipush (v := 7) hX dX5_readsItem_32 (by decide) ?_
    rw [show (7 : Int32) = nI 7 from rfl]
    refine g_icmp_ne (tgt := 39) hX dX5_readsItem_34 (by decide) (fun c_34 => ?_) (fun c_34 => ?_)
    · have hn : d < 7 := Nat.lt_of_le_of_ne hd7 (fun e => c_34 (by rw [e]))
      refine g_aload_n hX dX5_readsItem_39 rfl rfl ?_
      refine g_dup hX dX5_readsItem_40 rfl ?_
      refine g_get5I hX 19 dX5_readsItem_41 b_fl_X5_115 hm.k0 (by decide) ?_
      try simp (disch := decide) only [T3_0, T3_14, T3_15, T3_s0, T3_s14, T3_s15, pk_us, pk_un]
      rw [h19]
      refine g_iload_n hX dX5_readsItem_44 rfl rfl ?_
      refine g_iconst (v := 3) hX dX5_readsItem_45 (by decide) ?_
      refine g_icmp_ne (tgt := 53) hX dX5_readsItem_46 (by decide) (fun _ => ?_) (fun z => absurd z (by decide))
      refine g_iconst (v := 3) hX dX5_readsItem_53 (by decide) ?_
      refine g_iadd hX dX5_readsItem_54 ?_
      refine g_put5I hX 19 dX5_readsItem_55 b_fl_X5_115 hm.k0 pf5_19 ?_
      try simp (disch := decide) only [T3_0, T3_14, T3_15, T3_s0, T3_s14, T3_s15, pk_us, pk_un]
      refine g_iload_n hX dX5_readsItem_58 rfl rfl ?_
      refine g_iconst (v := 1) hX dX5_readsItem_59 (by decide) ?_
      refine g_icmp_ne (tgt := 70) hX dX5_readsItem_60 (by decide) (fun _ => ?_) (fun z => absurd z (by decide))
      refine g_iload_n hX dX5_readsItem_70 rfl rfl ?_
      refine g_iconst (v := 2) hX dX5_readsItem_71 (by decide) ?_
      refine g_icmp_ne (tgt := 82) hX dX5_readsItem_72 (by decide) (fun z => absurd (by decide) z) (fun _ => ?_)
      refine g_aload_n hX dX5_readsItem_75 rfl rfl ?_
      refine g_callV _ hX dX5_readsItem_76 k_X5_167 ⟨by decide, by decide⟩ (by decide) hm.k0 rfl rfl (m_readsDog (A := (upd A 19 (nI a + 3))) (V := V) (n := n) (d := d) hm ((pk_un (by decide)).trans h18) h150 hT hI (by rw [pk_un (by decide), pk_un (by decide), pk_un (by decide)]; exact hV) (by rw [pk_us, show (3 : Int32) = nI 3 from rfl, nI_add]) hb hn) rfl (Nat.le_of_ble_eq_true rfl) (fun r9 I9 L9 hq9 => ?_)
      refine g_goto (tgt := 86) hX dX5_readsItem_79 (by decide) ?_
      exact g_zretM hX dX5_readsItem_86 rfl (RM.nar hq9) (by rw [itemF, if_neg h1, if_pos h2]; exact hq9.fa (fun k a _ _ _ _ => pk_un a))
    · refine g_iconst (v := 0) hX dX5_readsItem_37 (by decide) ?_
      exact g_zret hX dX5_readsItem_38 rfl rfl (by have en : d = 7 := (nI_eq (by omega) (by omega)).mp c_34; rw [itemF, if_neg h1, if_pos h2, dogF, if_neg (by omega)]; exact RM.bad (fun _ _ _ _ _ _ => rfl) h19)
  by_cases h3 : wOK T m a 3
  · have hw : whF T m a = 3 := by rw [whF, if_neg h0, if_neg h1, if_neg h2, if_pos h3]
    have hb : a + 5 ≤ m := by have := wOK_m (by decide) ham h3; exact this
    refine g_aload_n hX dX5_readsItem_0 rfl rfl ?_
    refine g_callVp _ hX dX5_readsItem_1 k_X5_161 ⟨by decide, by decide⟩ (by decide) hm.k0 rfl rfl (m_wh3 hm h19 h18 h150 ham hT) rfl (Nat.le_of_ble_eq_true rfl) ?_
    rw [hw]
    refine g_istore_n hX dX5_readsItem_4 rfl (by decide) ?_
    refine g_iload_n hX dX5_readsItem_5 rfl rfl ?_
    refine g_iconst (v := 1) hX dX5_readsItem_6 (by decide) ?_
    refine g_icmp_lt (tgt := 37) hX dX5_readsItem_7 (by decide) (fun z => absurd z (by decide)) (fun _ => ?_)
    refine g_iload_n hX dX5_readsItem_10 rfl rfl ?_
    refine g_iconst (v := 1) hX dX5_readsItem_11 (by decide) ?_
    refine g_icmp_ne (tgt := 23) hX dX5_readsItem_12 (by decide) (fun _ => ?_) (fun z => absurd z (by decide))
    refine g_iload_n hX dX5_readsItem_23 rfl rfl ?_
    refine g_iconst (v := 2) hX dX5_readsItem_24 (by decide) ?_
    refine g_icmp_ne (tgt := 39) hX dX5_readsItem_25 (by decide) (fun _ => ?_) (fun z => absurd z (by decide))
    refine g_aload_n hX dX5_readsItem_39 rfl rfl ?_
    refine g_dup hX dX5_readsItem_40 rfl ?_
    refine g_get5I hX 19 dX5_readsItem_41 b_fl_X5_115 hm.k0 (by decide) ?_
    try simp (disch := decide) only [T3_0, T3_14, T3_15, T3_s0, T3_s14, T3_s15, pk_us, pk_un]
    rw [h19]
    refine g_iload_n hX dX5_readsItem_44 rfl rfl ?_
    refine g_iconst (v := 3) hX dX5_readsItem_45 (by decide) ?_
    refine g_icmp_ne (tgt := 53) hX dX5_readsItem_46 (by decide) (fun z => absurd (by decide) z) (fun _ => ?_)
    refine g_iconst (v := 5) hX dX5_readsItem_49 (by decide) ?_
    refine g_goto (tgt := 54) hX dX5_readsItem_50 (by decide) ?_
    refine g_iadd hX dX5_readsItem_54 ?_
    refine g_put5I hX 19 dX5_readsItem_55 b_fl_X5_115 hm.k0 pf5_19 ?_
    try simp (disch := decide) only [T3_0, T3_14, T3_15, T3_s0, T3_s14, T3_s15, pk_us, pk_un]
    refine g_iload_n hX dX5_readsItem_58 rfl rfl ?_
    refine g_iconst (v := 1) hX dX5_readsItem_59 (by decide) ?_
    refine g_icmp_ne (tgt := 70) hX dX5_readsItem_60 (by decide) (fun _ => ?_) (fun z => absurd z (by decide))
    refine g_iload_n hX dX5_readsItem_70 rfl rfl ?_
    refine g_iconst (v := 2) hX dX5_readsItem_71 (by decide) ?_
    refine g_icmp_ne (tgt := 82) hX dX5_readsItem_72 (by decide) (fun _ => ?_) (fun z => absurd z (by decide))
    refine g_aload_n hX dX5_readsItem_82 rfl rfl ?_
    refine g_callV _ hX dX5_readsItem_83 k_X5_170 ⟨by decide, by decide⟩ (by decide) hm.k0 rfl rfl (m_readsBribe (A := (upd A 19 (nI a + 5))) (V := V) (n := n) (d := d) hm ((pk_un (by decide)).trans h18) h150 hT hI (by rw [pk_un (by decide), pk_un (by decide), pk_un (by decide)]; exact hV) (by rw [pk_us, show (5 : Int32) = nI 5 from rfl, nI_add]) hb) rfl (Nat.le_of_ble_eq_true rfl) (fun r9 I9 L9 hq9 => ?_)
    exact g_zretM hX dX5_readsItem_86 rfl (RM.nar hq9) (by rw [itemF, if_neg h1, if_neg h2, if_pos h3]; exact hq9.fa (fun k a _ _ _ _ => pk_un a))
  have hw : whF T m a = -1 := by rw [whF, if_neg h0, if_neg h1, if_neg h2, if_neg h3]
  refine g_aload_n hX dX5_readsItem_0 rfl rfl ?_
  refine g_callVp _ hX dX5_readsItem_1 k_X5_161 ⟨by decide, by decide⟩ (by decide) hm.k0 rfl rfl (m_wh3 hm h19 h18 h150 ham hT) rfl (Nat.le_of_ble_eq_true rfl) ?_
  rw [hw]
  refine g_istore_n hX dX5_readsItem_4 rfl (by decide) ?_
  refine g_iload_n hX dX5_readsItem_5 rfl rfl ?_
  refine g_iconst (v := 1) hX dX5_readsItem_6 (by decide) ?_
  refine g_icmp_lt (tgt := 37) hX dX5_readsItem_7 (by decide) (fun _ => ?_) (fun z => absurd (by decide) z)
  refine g_iconst (v := 0) hX dX5_readsItem_37 (by decide) ?_
  exact g_zret hX dX5_readsItem_38 rfl rfl (by rw [itemF, if_neg h1, if_neg h2, if_neg h3]; exact RM.bad (fun _ _ _ _ _ _ => rfl) h19)
/-- what readsVillage leaves -/
def VM3 (J : SI) (A : Nat → Int32) (L : SL) (ρ : RT) : QT := fun r I1 L1 => L1 = L ∧ ∃ A1 B1 C1, I1 = T3 J A1 B1 C1 ∧ FA A A1 ∧ match ρ with
  | .inl p => r = some (.int (-1)) ∧ A1 19 = nI p
  | .inr (it, V1, n1, d1) => r = some (.int (nI it)) ∧ MVr (A1 20) (A1 21) (A1 22) B1 C1 V1 n1 d1
theorem VM3.bad {J : SI} {A A1 B1 C1 : Nat → Int32} {L : SL} {p : Nat} (h : FA A A1) (hp : A1 19 = nI p) : VM3 J A L (.inl p) (some (.int (-1))) (T3 J A1 B1 C1) L := ⟨rfl, A1, B1, C1, rfl, h, rfl, hp⟩
theorem whF_n {T : Nat → Int32} {m a : Nat} (h : ¬ wOK T m a 0) : ¬ whF T m a = 0 := by
  rw [whF, if_neg h]
  split
  · decide
  · split
    · decide
    · split <;> decide
set_option maxHeartbeats 4000000 in
set_option maxRecDepth 100000 in
theorem m_readsVillage {w : WG} {L : SL} (hm : ML w) {J : SI} {A B C : Nat → Int32} {T : Nat → Int32} {m : Nat} (V0 : VS) (h18 : A 18 = nI m) (h150 : m ≤ 150) (hT : ∀ i, i < m → J 13 i = T i) : Ok w mX5_readsVillage [.ref (gA w 0)] (T3 J A B C) L (VM3 J A L (vilF T m V0)) := by
  have hs0 : sk T m 0 ≤ m := rU_le (Nat.zero_le _)
  refine Ok.of (by decide) (Nat.le_of_ble_eq_true rfl) (fun X hX => ?_)
  have loop : ∀ f : Nat, ∀ (a it : Nat) (V : VS) (n d : Nat) (A1 B C : Nat → Int32), VI V n d → a ≤ m → m ≤ a + f → MVr (A1 20) (A1 21) (A1 22) B C V n d → A1 19 = nI (sk T m a) → A1 18 = nI m → FA A A1 → lpF T m f a V n d it = vilF T m V0 → G X w mX5_readsVillage (T3 J A1 B C) L 59 (lvO [(0, .ref (gA w 0)), (1, .int (nI it))]) [] := by
    intro f
    induction f with
    | zero =>
      intro a it V n d A1 B C hI ham hmf hV h19 h18 hfa hρ
      refine g_aload_n hX dX5_readsVillage_59 rfl rfl ?_
      refine g_get5I hX 19 dX5_readsVillage_60 b_fl_X5_115 hm.k0 (by decide) ?_
      try simp (disch := decide) only [T3_0, T3_14, T3_15, T3_s0, T3_s14, T3_s15, pk_us, pk_un]
      rw [h19]
      refine g_aload_n hX dX5_readsVillage_63 rfl rfl ?_
      refine g_get5I hX 18 dX5_readsVillage_64 b_fl_X5_112 hm.k0 (by decide) ?_
      try simp (disch := decide) only [T3_0, T3_14, T3_15, T3_s0, T3_s14, T3_s15, pk_us, pk_un]
      rw [h18]
      refine g_icmp_ge (tgt := 89) hX dX5_readsVillage_67 (by decide) (fun c_67 => ?_) (fun c_67 => ?_)
      · refine g_iload_n hX dX5_readsVillage_89 rfl rfl ?_
        exact g_iret hX dX5_readsVillage_90 rfl (by have hsm : sk T m a ≤ m := rU_le ham; rw [← hρ, lpF_end (nle c_67 (by omega) (by omega))]; exact ⟨rfl, A1, B, C, rfl, hfa, rfl, hV⟩)
      · have hs : sk T m a < m := nnle c_67 (by omega) (by have : sk T m a ≤ m := rU_le ham; omega)
        have hsa : a ≤ sk T m a := rU_ge
        omega
    | succ f ih =>
      intro a it V n d A1 B C hI ham hmf hV h19 h18 hfa hρ
      refine g_aload_n hX dX5_readsVillage_59 rfl rfl ?_
      refine g_get5I hX 19 dX5_readsVillage_60 b_fl_X5_115 hm.k0 (by decide) ?_
      try simp (disch := decide) only [T3_0, T3_14, T3_15, T3_s0, T3_s14, T3_s15, pk_us, pk_un]
      rw [h19]
      refine g_aload_n hX dX5_readsVillage_63 rfl rfl ?_
      refine g_get5I hX 18 dX5_readsVillage_64 b_fl_X5_112 hm.k0 (by decide) ?_
      try simp (disch := decide) only [T3_0, T3_14, T3_15, T3_s0, T3_s14, T3_s15, pk_us, pk_un]
      rw [h18]
      refine g_icmp_ge (tgt := 89) hX dX5_readsVillage_67 (by decide) (fun c_67 => ?_) (fun c_67 => ?_)
      · refine g_iload_n hX dX5_readsVillage_89 rfl rfl ?_
        exact g_iret hX dX5_readsVillage_90 rfl (by have hsm : sk T m a ≤ m := rU_le ham; rw [← hρ, lpF_end (nle c_67 (by omega) (by omega))]; exact ⟨rfl, A1, B, C, rfl, hfa, rfl, hV⟩)
      · have hs : sk T m a < m := nnle c_67 (by omega) (by have : sk T m a ≤ m := rU_le ham; omega)
        have hsa : a ≤ sk T m a := rU_ge
        refine g_aload_n hX dX5_readsVillage_70 rfl rfl ?_
        refine g_callV _ hX dX5_readsVillage_71 k_X5_173 ⟨by decide, by decide⟩ (by decide) hm.k0 rfl rfl (m_readsItem hm h18 h150 hT hI hV h19 (rU_le ham)) rfl (Nat.le_of_ble_eq_true rfl) (fun r9 I9 L9 hq9 => ?_)
        cases hρ2 : itemF T m (sk T m a) V n d with
        | inl p =>
          rw [hρ2] at hq9
          obtain ⟨e2, A9, B9, C9, e3, f9, e1, p9⟩ := hq9
          rw [e1, e2, e3]
          refine g_if_ne (tgt := 79) hX dX5_readsVillage_74 (by decide) (fun z => absurd rfl z) (fun _ => ?_)
          refine g_iconst (v := -1) hX dX5_readsVillage_77 (by decide) ?_
          exact g_iret hX dX5_readsVillage_78 rfl (by rw [← hρ, lpF, if_neg (by omega), hρ2]; exact VM3.bad (fun k a b c d e => (f9 k a b c d e).trans (hfa k a b c d e)) p9)
        | inr z =>
          obtain ⟨q, V1, n1, d1⟩ := z
          rw [hρ2] at hq9
          obtain ⟨e2, A9, B9, C9, e3, f9, e1, p9, hV9⟩ := hq9
          rw [e1, e2, e3]
          obtain ⟨hI9, hq1, hq2⟩ := itemF_inr hI hρ2
          have h189 : A9 18 = nI m := (f9 18 (by decide) (by decide) (by decide) (by decide) (by decide)).trans h18
          refine g_if_ne (tgt := 79) hX dX5_readsVillage_74 (by decide) (fun _ => ?_) (fun z => absurd z (by decide))
          refine g_iinc hX dX5_readsVillage_79 rfl (d := 1) (by decide) ?_
          refine g_aload_n hX dX5_readsVillage_82 rfl rfl ?_
          refine g_callV _ hX dX5_readsVillage_83 k_X5_132 ⟨by decide, by decide⟩ (by decide) hm.k0 rfl rfl (m_sk3 (A := A9) hm p9 h189 h150 hq2 hT) rfl (Nat.le_of_ble_eq_true rfl) (fun r1 I1 L1 hq => ?_)
          obtain ⟨e1, e2, e3⟩ := hq
          subst e1; rw [e2, e3]
          refine g_goto (tgt := 59) hX dX5_readsVillage_86 (by decide) ?_
          exact G.at (ih q (it + 1) V1 n1 d1 (upd A9 19 (nI (sk T m q))) B9 C9 hI9 hq2 (by omega) (by rw [pk_un (by decide), pk_un (by decide), pk_un (by decide)]; exact hV9) pk_us ((pk_un (by decide)).trans h189) (fun k a b c d e => (pk_un a).trans ((f9 k a b c d e).trans (hfa k a b c d e))) (by rw [← hρ, lpF, if_neg (by omega), hρ2])) ⟨rfl, vI (nI_1 _), trivial⟩
  refine g_aload_n hX dX5_readsVillage_0 rfl rfl ?_
  refine g_iconst (v := 0) hX dX5_readsVillage_1 (by decide) ?_
  refine g_put5I hX 19 dX5_readsVillage_2 b_fl_X5_115 hm.k0 pf5_19 ?_
  try simp (disch := decide) only [T3_0, T3_14, T3_15, T3_s0, T3_s14, T3_s15, pk_us, pk_un]
  refine g_aload_n hX dX5_readsVillage_5 rfl rfl ?_
  refine g_iconst (v := 0) hX dX5_readsVillage_6 (by decide) ?_
  refine g_put5I hX 20 dX5_readsVillage_7 b_fl_X5_145 hm.k0 pf5_20 ?_
  try simp (disch := decide) only [T3_0, T3_14, T3_15, T3_s0, T3_s14, T3_s15, pk_us, pk_un]
  refine g_aload_n hX dX5_readsVillage_10 rfl rfl ?_
  refine g_iconst (v := 0) hX dX5_readsVillage_11 (by decide) ?_
  refine g_put5I hX 21 dX5_readsVillage_12 b_fl_X5_152 hm.k0 pf5_21 ?_
  try simp (disch := decide) only [T3_0, T3_14, T3_15, T3_s0, T3_s14, T3_s15, pk_us, pk_un]
  refine g_aload_n hX dX5_readsVillage_15 rfl rfl ?_
  refine g_iconst (v := 0) hX dX5_readsVillage_16 (by decide) ?_
  refine g_put5I hX 22 dX5_readsVillage_17 b_fl_X5_155 hm.k0 pf5_22 ?_
  try simp (disch := decide) only [T3_0, T3_14, T3_15, T3_s0, T3_s14, T3_s15, pk_us, pk_un]
  refine g_aload_n hX dX5_readsVillage_20 rfl rfl ?_
  refine g_callV _ hX dX5_readsVillage_21 k_X5_132 ⟨by decide, by decide⟩ (by decide) hm.k0 rfl rfl (m_sk3 (A := (upd (upd (upd (upd A 19 0) 20 0) 21 0) 22 0)) hm (by rw [pk_un (by decide), pk_un (by decide), pk_un (by decide), pk_us]; exact nI_0.symm) ((pk_un (by decide)).trans ((pk_un (by decide)).trans ((pk_un (by decide)).trans ((pk_un (by decide)).trans h18)))) h150 (Nat.zero_le _) hT) rfl (Nat.le_of_ble_eq_true rfl) (fun r1 I1 L1 hq => ?_)
  obtain ⟨e1, e2, e3⟩ := hq
  subst e1; rw [e2, e3]
  refine g_aload_n hX dX5_readsVillage_24 rfl rfl ?_
  refine g_callVp _ hX dX5_readsVillage_25 k_X5_161 ⟨by decide, by decide⟩ (by decide) hm.k0 rfl rfl (m_wh3 (A := (upd (upd (upd (upd (upd A 19 0) 20 0) 21 0) 22 0) 19 (nI (sk T m 0)))) hm pk_us ((pk_un (by decide)).trans ((pk_un (by decide)).trans ((pk_un (by decide)).trans ((pk_un (by decide)).trans ((pk_un (by decide)).trans h18))))) h150 hs0 hT) rfl (Nat.le_of_ble_eq_true rfl) ?_
  refine g_if_eq (tgt := 33) hX dX5_readsVillage_28 (by decide) (fun c_28 => ?_) (fun c_28 => ?_)
  · have hw0 : wOK T m (sk T m 0) 0 := Classical.byContradiction (fun z => whF_n z c_28)
    have hs7 : sk T m 0 + 7 ≤ m := wOK_m (by decide) hs0 hw0
    refine g_aload_n hX dX5_readsVillage_33 rfl rfl ?_
    refine g_dup hX dX5_readsVillage_34 rfl ?_
    refine g_get5I hX 19 dX5_readsVillage_35 b_fl_X5_115 hm.k0 (by decide) ?_
    try simp (disch := decide) only [T3_0, T3_14, T3_15, T3_s0, T3_s14, T3_s15, pk_us, pk_un]
    refine g_bipush (v := 7) hX dX5_readsVillage_38 (by decide) ?_
    refine g_iadd hX dX5_readsVillage_40 ?_
    refine g_put5I hX 19 dX5_readsVillage_41 b_fl_X5_115 hm.k0 pf5_19 ?_
    try simp (disch := decide) only [T3_0, T3_14, T3_15, T3_s0, T3_s14, T3_s15, pk_us, pk_un]
    refine g_aload_n hX dX5_readsVillage_44 rfl rfl ?_
    refine g_callV _ hX dX5_readsVillage_45 k_X5_148 ⟨by decide, by decide⟩ (by decide) hm.k0 rfl rfl (m_end3 (A := (upd (upd (upd (upd (upd (upd A 19 0) 20 0) 21 0) 22 0) 19 (nI (sk T m 0))) 19 (nI (sk T m 0) + 7))) hm (by rw [pk_us, show (7 : Int32) = nI 7 from rfl, nI_add]) ((pk_un (by decide)).trans ((pk_un (by decide)).trans ((pk_un (by decide)).trans ((pk_un (by decide)).trans ((pk_un (by decide)).trans ((pk_un (by decide)).trans h18)))))) h150 hs7 hT) rfl (Nat.le_of_ble_eq_true rfl) (fun r1 I1 L1 hq => ?_)
    obtain ⟨e1, e2, A3, e3, hA3, hn3, hy3⟩ := hq
    subst e1; rw [e2, e3]
    refine g_if_ne (tgt := 53) hX dX5_readsVillage_48 (by decide) (fun c_48 => ?_) (fun c_48 => ?_)
    · have hsc := b01_n c_48
      have hsm1 : sk T m (sk T m 0 + 7) + 1 ≤ m := hsc.1
      have h183 : A3 18 = nI m := (hA3 18 (by decide)).trans ((pk_un (by decide)).trans ((pk_un (by decide)).trans ((pk_un (by decide)).trans ((pk_un (by decide)).trans ((pk_un (by decide)).trans ((pk_un (by decide)).trans h18))))))
      refine g_iconst (v := 1) hX dX5_readsVillage_53 (by decide) ?_
      refine g_istore_n hX dX5_readsVillage_54 rfl (by decide) ?_
      refine g_aload_n hX dX5_readsVillage_55 rfl rfl ?_
      refine g_callV _ hX dX5_readsVillage_56 k_X5_132 ⟨by decide, by decide⟩ (by decide) hm.k0 rfl rfl (m_sk3 (A := A3) hm (hy3 hsc) h183 h150 hsm1 hT) rfl (Nat.le_of_ble_eq_true rfl) (fun r1 I1 L1 hq => ?_)
      obtain ⟨e1, e2, e3⟩ := hq
      subst e1; rw [e2, e3]
      exact G.at (loop m (sk T m (sk T m 0 + 7) + 1) 1 (emV V0) 0 0 (upd A3 19 (nI (sk T m (sk T m (sk T m 0 + 7) + 1)))) B C (VI.em V0) hsm1 (by omega) ⟨by rw [pk_un (by decide), hA3 20 (by decide), pk_un (by decide), pk_un (by decide), pk_un (by decide), pk_un (by decide), pk_us]; exact nI_0.symm, by rw [pk_un (by decide), hA3 21 (by decide), pk_un (by decide), pk_un (by decide), pk_un (by decide), pk_us]; exact nI_0.symm, by rw [pk_un (by decide), hA3 22 (by decide), pk_un (by decide), pk_un (by decide), pk_us]; rfl, fun c h => absurd h (Nat.not_lt_zero c), fun c h => absurd h (Nat.not_lt_zero c)⟩ pk_us ((pk_un (by decide)).trans h183) (fun k a b c d e => by rw [pk_un a, hA3 k a, pk_un a, pk_un a, pk_un d, pk_un c, pk_un b, pk_un a]) (vilF_sm hw0 hsc).symm) ⟨rfl, rfl, trivial⟩
    · refine g_iconst (v := -1) hX dX5_readsVillage_51 (by decide) ?_
      exact g_iret hX dX5_readsVillage_52 rfl (by rw [vilF_ns hw0 (b01_0 c_48)]; exact VM3.bad (fun k a b c d e => by rw [hA3 k a, pk_un a, pk_un a, pk_un d, pk_un c, pk_un b, pk_un a]) (hn3 (b01_0 c_48)))
  · refine g_iconst (v := -1) hX dX5_readsVillage_31 (by decide) ?_
    exact g_iret hX dX5_readsVillage_32 rfl (by have hw0 : ¬ wOK T m (sk T m 0) 0 := (fun z => c_28 (by rw [whF, if_pos z])); rw [vilF, if_neg hw0]; exact VM3.bad (fun k a b c d e => by rw [pk_un a, pk_un d, pk_un c, pk_un b, pk_un a]) pk_us)
