theorem tS_3 {T : Nat → Int32} {m s : Nat} : tS T m s = 3 ↔ s < m ∧ T s = 59 := by
  unfold tS
  by_cases h : m ≤ s
  · rw [if_pos h]; exact ⟨fun z => absurd z (by decide), fun z => absurd z.1 (by omega)⟩
  · rw [if_neg h]
    by_cases h1 : isL (T s)
    · rw [if_pos h1]; exact ⟨fun z => absurd z (by decide), fun z => absurd (z.2 ▸ h1) (by decide)⟩
    · rw [if_neg h1]
      by_cases h2 : isF (T s)
      · rw [if_pos h2]; refine ⟨fun z => ?_, fun z => absurd (z.2 ▸ h2) (by decide)⟩
        split at z <;> exact absurd z (by decide)
      · rw [if_neg h2]
        by_cases h3 : T s = 59
        · rw [if_pos h3]; exact ⟨fun _ => ⟨by omega, h3⟩, fun _ => rfl⟩
        · rw [if_neg h3]; exact ⟨fun z => absurd z (by decide), fun z => absurd z.2 h3⟩
theorem tS_2 {T : Nat → Int32} {m s : Nat} : tS T m s = 2 ↔ s < m ∧ isF (T s) ∧ fg T m s - s ≤ 2 := by
  unfold tS
  by_cases h : m ≤ s
  · rw [if_pos h]; exact ⟨fun z => absurd z (by decide), fun z => absurd z.1 (by omega)⟩
  · rw [if_neg h]
    by_cases h1 : isL (T s)
    · rw [if_pos h1]; exact ⟨fun z => absurd z (by decide), fun z => absurd z.2.1 (isF_nL h1)⟩
    · rw [if_neg h1]
      by_cases h2 : isF (T s)
      · rw [if_pos h2]
        by_cases h3 : fg T m s - s ≤ 2
        · rw [if_pos h3]; exact ⟨fun _ => ⟨by omega, h2, h3⟩, fun _ => rfl⟩
        · rw [if_neg h3]; exact ⟨fun z => absurd z (by decide), fun z => absurd z.2.2 h3⟩
      · rw [if_neg h2]; refine ⟨fun z => ?_, fun z => absurd z.2.1 h2⟩
        split at z <;> exact absurd z (by decide)
theorem tS_1 {T : Nat → Int32} {m s : Nat} : tS T m s = 1 ↔ s < m ∧ isL (T s) := by
  unfold tS
  by_cases h : m ≤ s
  · rw [if_pos h]; exact ⟨fun z => absurd z (by decide), fun z => absurd z.1 (by omega)⟩
  · rw [if_neg h]
    by_cases h1 : isL (T s)
    · rw [if_pos h1]; exact ⟨fun _ => ⟨by omega, h1⟩, fun _ => rfl⟩
    · rw [if_neg h1]; refine ⟨fun z => ?_, fun z => absurd z.2 h1⟩
      split at z
      · split at z <;> exact absurd z (by decide)
      · split at z <;> exact absurd z (by decide)
theorem tE_ge {T : Nat → Int32} {m s : Nat} : s ≤ tE T m s := by
  unfold tE
  split
  · exact Nat.le_refl _
  · split
    · exact rU_ge
    · split
      · exact rU_ge
      · exact Nat.le_succ _
theorem tE_le {T : Nat → Int32} {m s : Nat} (h : s ≤ m) : tE T m s ≤ m := by
  unfold tE
  split
  · exact h
  · split
    · exact rU_le h
    · split
      · exact rU_le h
      · omega
theorem e23 {I : SI} {V : VS} : wV I 11 V 23 = I 23 := wV_out _ _ _ (Or.inr (by decide))
theorem e22 {I : SI} {V : VS} : wV I 11 V 22 = I 22 := wV_out _ _ _ (Or.inr (by decide))
theorem StC {I : SI} {V : VS} {N : Nat} {R : Nat → Int32} (hN : 27 ≤ N) : rS (wV I 11 V) N R = wV (rS I N R) 11 V := by
  funext q
  by_cases h : q = N
  · subst h; rw [rS_eq, wV_out _ _ _ (by omega), rS_eq]
  · rw [rS_ne _ _ _ h]; unfold wV; rw [rS_ne _ _ _ h]
theorem ok_St {w : WG} {M : MD} {av : List Value} {I : SI} {L : SL} {V V' : VS} {N : Nat} {R : Nat → Int32} {r : Option Value} (hN : 27 ≤ N) (h : Ok w M av (wV (rS I N R) 11 V) L (Vd (rS I N R) 11 V' L r)) : Ok w M av (rS (wV I 11 V) N R) L (fun r1 I1 L1 => r1 = r ∧ I1 = rS (wV I 11 V') N R ∧ L1 = L) := by
  rw [StC hN]
  refine h.mono (fun r1 I1 L1 hq => ?_)
  obtain ⟨h1, h2, h3⟩ := hq
  exact ⟨h1, by rw [h2, StC hN], h3⟩
abbrev SMC (T : Nat → Int32) (m b : Nat) : Prop := sk T m b < m ∧ T (sk T m b) = 59
def SQ (I : SI) (L : SL) (N m b : Nat) : QT := fun r I1 L1 => r = some (.int (b01 (SMC (I 23) m b))) ∧ L1 = L ∧ ∃ R1, I1 = rS I N R1 ∧ R1 3 = nI (sk (I 23) m b) ∧ (SMC (I 23) m b → R1 4 = nI (sk (I 23) m b + 1))
def NQ (I : SI) (L : SL) (N m b : Nat) (lo hi : Int32) : QT := fun r I1 L1 => r = some (.int (b01 (nOK (I 23) m (sk (I 23) m b) lo hi))) ∧ L1 = L ∧ ∃ R1, I1 = rS I N R1 ∧ R1 3 = nI (sk (I 23) m b) ∧ (nOK (I 23) m (sk (I 23) m b) lo hi → R1 4 = nI (fg (I 23) m (sk (I 23) m b)) ∧ R1 5 = nv (I 23) (sk (I 23) m b) (fg (I 23) m (sk (I 23) m b)))
set_option maxHeartbeats 4000000 in
set_option maxRecDepth 100000 in
theorem ok_semi {w : WG} {I : SI} {L : SL} {N m b : Nat} {R : Nat → Int32} (hR : RDL w N) (ht : I 22 1 = nI m) (hm : m ≤ 150) (hb : b ≤ m) (h4 : R 4 = nI b) : Ok w mX1_semicolonNext [.ref (gA w N)] (rS I N R) L (SQ I L N m b) := by
  have hN := hR.hN
  refine Ok.of (by decide) (Nat.le_of_ble_eq_true rfl) (fun X hX => ?_)
  refine g_aload_n hX dX1_semicolonNext_0 rfl rfl ?_
  refine g_callV _ hX dX1_semicolonNext_1 k_X1_24 ⟨by decide, by decide⟩ (by decide) hR.k0 rfl rfl (ok_next hR ht hm hb h4) rfl (Nat.le_of_ble_eq_true rfl) (fun r1 I1 L1 hq => ?_)
  obtain ⟨e1, e2, R1, e3, q3, q4, q2, q5⟩ := hq
  subst e1; rw [e2, e3]
  refine g_aload_n hX dX1_semicolonNext_4 rfl rfl ?_
  refine g_get1I hX 2 dX1_semicolonNext_5 b_fl_X1_37 hR.k0 (by decide) ?_
  try simp (disch := omega) only [rS_eq, rS_ne, rS_rS, pk_us, pk_un, wV_0]
  rw [q2]
  refine g_iconst (v := 3) hX dX1_semicolonNext_8 (by decide) ?_
  refine g_icmp_ne (tgt := 16) hX dX1_semicolonNext_9 (by decide) (fun c_9 => ?_) (fun c_9 => ?_)
  · refine g_iconst (v := 0) hX dX1_semicolonNext_16 (by decide) ?_
    exact g_zret hX dX1_semicolonNext_17 rfl rfl (by refine ⟨by rw [show b01 (SMC (I 23) m b) = (0 : Int32) from if_neg (fun z => c_9 (tS_3.mpr z))], rfl, _, rfl, q3, fun z => absurd (tS_3.mpr z) c_9⟩)
  · refine g_iconst (v := 1) hX dX1_semicolonNext_12 (by decide) ?_
    refine g_goto (tgt := 17) hX dX1_semicolonNext_13 (by decide) ?_
    exact g_zret hX dX1_semicolonNext_17 rfl rfl (by have z := tS_3.mp c_9; refine ⟨by rw [show b01 (SMC (I 23) m b) = (1 : Int32) from if_pos z], rfl, _, rfl, q3, fun _ => ?_⟩; rw [q4, tE, if_neg (by omega), if_neg (by rw [z.2]; decide), if_neg (by rw [z.2]; decide)])
set_option maxHeartbeats 4000000 in
set_option maxRecDepth 100000 in
theorem ok_numN {w : WG} {I : SI} {L : SL} {N m b : Nat} {R : Nat → Int32} (hR : RDL w N) (ht : I 22 1 = nI m) (hm : m ≤ 150) (hb : b ≤ m) (h4 : R 4 = nI b) {lo hi : Int32} : Ok w mX1_numberNext [.ref (gA w N), .int lo, .int hi] (rS I N R) L (NQ I L N m b lo hi) := by
  have hN := hR.hN
  refine Ok.of (by decide) (Nat.le_of_ble_eq_true rfl) (fun X hX => ?_)
  refine g_aload_n hX dX1_numberNext_0 rfl rfl ?_
  refine g_callV _ hX dX1_numberNext_1 k_X1_24 ⟨by decide, by decide⟩ (by decide) hR.k0 rfl rfl (ok_next hR ht hm hb h4) rfl (Nat.le_of_ble_eq_true rfl) (fun r1 I1 L1 hq => ?_)
  obtain ⟨e1, e2, R1, e3, q3, q4, q2, q5⟩ := hq
  subst e1; rw [e2, e3]
  refine g_aload_n hX dX1_numberNext_4 rfl rfl ?_
  refine g_get1I hX 2 dX1_numberNext_5 b_fl_X1_37 hR.k0 (by decide) ?_
  try simp (disch := omega) only [rS_eq, rS_ne, rS_rS, pk_us, pk_un, wV_0]
  rw [q2]
  refine g_iconst (v := 2) hX dX1_numberNext_8 (by decide) ?_
  refine g_icmp_ne (tgt := 32) hX dX1_numberNext_9 (by decide) (fun c_9 => ?_) (fun c_9 => ?_)
  · refine g_iconst (v := 0) hX dX1_numberNext_32 (by decide) ?_
    exact g_zret hX dX1_numberNext_33 rfl rfl (by have hno : ¬ nOK (I 23) m (sk (I 23) m b) lo hi := (fun z => c_9 (tS_2.mpr ⟨z.1, z.2.1, z.2.2.1⟩)); exact ⟨by rw [show b01 (nOK (I 23) m (sk (I 23) m b) lo hi) = (0 : Int32) from if_neg hno], rfl, _, rfl, q3, fun z => absurd z hno⟩)
  · have z2 := tS_2.mp c_9
    have z5 := q5 z2.1 z2.2.1
    refine g_aload_n hX dX1_numberNext_12 rfl rfl ?_
    refine g_get1I hX 5 dX1_numberNext_13 b_fl_X1_66 hR.k0 (by decide) ?_
    try simp (disch := omega) only [rS_eq, rS_ne, rS_rS, pk_us, pk_un, wV_0]
    rw [z5]
    refine g_iload_n hX dX1_numberNext_16 rfl rfl ?_
    refine g_icmp_lt (tgt := 32) hX dX1_numberNext_17 (by decide) (fun c_17 => ?_) (fun c_17 => ?_)
    · refine g_iconst (v := 0) hX dX1_numberNext_32 (by decide) ?_
      exact g_zret hX dX1_numberNext_33 rfl rfl (by have hno : ¬ nOK (I 23) m (sk (I 23) m b) lo hi := (fun z => absurd z.2.2.2.1 (Int32.not_le.mpr c_17)); exact ⟨by rw [show b01 (nOK (I 23) m (sk (I 23) m b) lo hi) = (0 : Int32) from if_neg hno], rfl, _, rfl, q3, fun z => absurd z hno⟩)
    · refine g_aload_n hX dX1_numberNext_20 rfl rfl ?_
      refine g_get1I hX 5 dX1_numberNext_21 b_fl_X1_66 hR.k0 (by decide) ?_
      try simp (disch := omega) only [rS_eq, rS_ne, rS_rS, pk_us, pk_un, wV_0]
      rw [z5]
      refine g_iload_n hX dX1_numberNext_24 rfl rfl ?_
      refine g_icmp_gt (tgt := 32) hX dX1_numberNext_25 (by decide) (fun c_25 => ?_) (fun c_25 => ?_)
      · refine g_iconst (v := 0) hX dX1_numberNext_32 (by decide) ?_
        exact g_zret hX dX1_numberNext_33 rfl rfl (by have hno : ¬ nOK (I 23) m (sk (I 23) m b) lo hi := (fun z => absurd z.2.2.2.2 (Int32.not_le.mpr c_25)); exact ⟨by rw [show b01 (nOK (I 23) m (sk (I 23) m b) lo hi) = (0 : Int32) from if_neg hno], rfl, _, rfl, q3, fun z => absurd z hno⟩)
      · refine g_iconst (v := 1) hX dX1_numberNext_28 (by decide) ?_
        refine g_goto (tgt := 33) hX dX1_numberNext_29 (by decide) ?_
        exact g_zret hX dX1_numberNext_33 rfl rfl (by have hyes : nOK (I 23) m (sk (I 23) m b) lo hi := ⟨z2.1, z2.2.1, z2.2.2, Int32.not_lt.mp c_17, Int32.not_lt.mp c_25⟩; exact ⟨by rw [show b01 (nOK (I 23) m (sk (I 23) m b) lo hi) = (1 : Int32) from if_pos hyes], rfl, _, rfl, q3, fun _ => ⟨by rw [q4, tE, if_neg (by omega), if_neg (fun l => isF_nL l z2.2.1), if_pos z2.2.1], z5⟩⟩)
theorem sL_ge {k : Nat} (hk : k < 4) : 3 ≤ sL k := by
  rcases (show k = 0 ∨ k = 1 ∨ k = 2 ∨ k = 3 by omega) with rfl | rfl | rfl | rfl <;> decide
theorem wOK_1 {T : Nat → Int32} {m s k : Nat} (hk : k < 4) (h : wOK T m s k) : s < m ∧ isL (T s) := by
  have h3 := sL_ge hk
  have h1 := h.1
  refine ⟨?_, rU_all (m := m) (a := s) (Nat.le_refl _) (by show s < wl T m s; omega)⟩
  rcases Nat.lt_or_ge s m with g | g
  · exact g
  · have : wl T m s = s := rU_stop g
    omega
set_option maxHeartbeats 4000000 in
set_option maxRecDepth 100000 in
theorem ok_word {w : WG} {I : SI} {L : SL} {N m s k : Nat} {R : Nat → Int32} (hR : RDL w N) (ht : I 22 1 = nI m) (hm : m ≤ 150) (hk : k < 4) (hsm : s ≤ m) (h3 : R 3 = nI s) (h4 : R 4 = nI (tE (I 23) m s)) (h2 : R 2 = tS (I 23) m s) : Ok w mX1_wordHere [.ref (gA w N), .ref (sA w k)] (rS I N R) L (Pr (.int (b01 (wOK (I 23) m s k))) (rS I N R) L) := by
  have hN := hR.hN
  have h7 := sL_le hk
  have hE := tE_le (T := I 23) hsm
  refine Ok.of (by decide) (Nat.le_of_ble_eq_true rfl) (fun X hX => ?_)
  refine g_aload_n hX dX1_wordHere_0 rfl rfl ?_
  refine g_get1I hX 2 dX1_wordHere_1 b_fl_X1_37 hR.k0 (by decide) ?_
  try simp (disch := omega) only [rS_eq, rS_ne, rS_rS, pk_us, pk_un, wV_0]
  refine g_iconst (v := 1) hX dX1_wordHere_4 (by decide) ?_
  refine g_icmp_ne (tgt := 24) hX dX1_wordHere_5 (by decide) (fun c_5 => ?_) (fun c_5 => ?_)
  · refine g_iconst (v := 0) hX dX1_wordHere_24 (by decide) ?_
    exact g_zret hX dX1_wordHere_25 rfl rfl (by have hno : ¬ wOK (I 23) m s k := (fun z => c_5 (h2.trans (tS_1.mpr (wOK_1 hk z)))); exact ⟨by rw [show b01 (wOK (I 23) m s k) = (0 : Int32) from if_neg hno], rfl, rfl⟩)
  · have z1 := tS_1.mp (h2.symm.trans c_5)
    refine g_aload_n hX dX1_wordHere_8 rfl rfl ?_
    refine g_get1I hX 4 dX1_wordHere_9 b_fl_X1_87 hR.k0 (by decide) ?_
    try simp (disch := omega) only [rS_eq, rS_ne, rS_rS, pk_us, pk_un, wV_0]
    rw [h4]
    refine g_aload_n hX dX1_wordHere_12 rfl rfl ?_
    refine g_get1I hX 3 dX1_wordHere_13 b_fl_X1_90 hR.k0 (by decide) ?_
    try simp (disch := omega) only [rS_eq, rS_ne, rS_rS, pk_us, pk_un, wV_0]
    rw [h3]
    refine g_isub hX dX1_wordHere_16 ?_
    rw [pk_sub tE_ge]
    refine g_aload_n hX dX1_wordHere_17 rfl rfl ?_
    refine g_callTp _ hX dX1_wordHere_18 k_X1_93 ⟨by decide, by decide⟩ hk rfl rfl (ok_strlen hk) rfl (Nat.le_of_ble_eq_true rfl) ?_
    refine g_icmp_eq (tgt := 26) hX dX1_wordHere_21 (by decide) (fun c_21 => ?_) (fun c_21 => ?_)
    · refine g_iconst (v := 0) hX dX1_wordHere_26 (by decide) ?_
      refine g_istore_n hX dX1_wordHere_27 rfl (by decide) ?_
      have hw : wl (I 23) m s = s + sL k := by
        have q := (nI_eq (by omega) (by omega)).mp c_21
        rw [tE, if_neg (by omega), if_pos z1.2] at q
        have : s ≤ wl (I 23) m s := rU_ge
        omega
      have hwm : wl (I 23) m s ≤ m := rU_le hsm
      have loop := loop_up (n := sL k) (P := fun j => (∀ i, i < j → I 23 (s + i) = sB k i) → G X w mX1_wordHere (rS I N R) L 28 (lvO [(0, .ref (gA w N)), (1, .ref (sA w k)), (2, .int (nI j))]) []) (fun j hj ih hall => by
        refine g_iload_n hX dX1_wordHere_28 rfl rfl ?_
        refine g_aload_n hX dX1_wordHere_29 rfl rfl ?_
        refine g_callTp _ hX dX1_wordHere_30 k_X1_93 ⟨by decide, by decide⟩ hk rfl rfl (ok_strlen hk) rfl (Nat.le_of_ble_eq_true rfl) ?_
        refine g_icmp_ge (tgt := 65) hX dX1_wordHere_33 (by decide) (fun c_33 => ?_) (fun c_33 => ?_)
        · refine g_iconst (v := 1) hX dX1_wordHere_65 (by decide) ?_
          exact g_zret hX dX1_wordHere_66 rfl rfl (by have hyes : wOK (I 23) m s k := ⟨hw, fun i hi => hall i (Nat.lt_of_lt_of_le hi (nle c_33 (by omega) (by omega)))⟩; exact ⟨by rw [show b01 (wOK (I 23) m s k) = (1 : Int32) from if_pos hyes], rfl, rfl⟩)
        · have hlt := nnle c_33 (by omega) (by omega)
          refine g_aload_n hX dX1_wordHere_36 rfl rfl ?_
          refine g_get1R hX 0 dX1_wordHere_37 b_fl_X1_9 hR.k0 (by decide) hR.p0 ?_
          refine g_aload_n hX dX1_wordHere_40 rfl rfl ?_
          refine g_get1I hX 3 dX1_wordHere_41 b_fl_X1_90 hR.k0 (by decide) ?_
          try simp (disch := omega) only [rS_eq, rS_ne, rS_rS, pk_us, pk_un, wV_0]
          rw [h3]
          refine g_iload_n hX dX1_wordHere_44 rfl rfl ?_
          refine g_iadd hX dX1_wordHere_45 ?_
          rw [nI_add]
          refine g_callVp _ hX dX1_wordHere_46 k_X1_99 ⟨by decide, by decide⟩ (by decide) hR.text.k0 rfl rfl (ok_tat hR.text (m := m) (by simp (disch := omega) only [rS_ne]; exact ht) hm _) rfl (Nat.le_of_ble_eq_true rfl) ?_
          simp (disch := omega) only [rS_ne]
          rw [tat_lt (by omega) hm]
          refine g_aload_n hX dX1_wordHere_49 rfl rfl ?_
          refine g_iload_n hX dX1_wordHere_50 rfl rfl ?_
          refine g_callTp _ hX dX1_wordHere_51 k_X1_104 ⟨by decide, by decide⟩ hk rfl rfl (ok_strchar hk hlt) rfl (Nat.le_of_ble_eq_true rfl) ?_
          refine g_icmp_eq (tgt := 59) hX dX1_wordHere_54 (by decide) (fun c_54 => ?_) (fun c_54 => ?_)
          · refine g_iinc hX dX1_wordHere_59 rfl (d := 1) (by decide) ?_
            refine g_goto (tgt := 28) hX dX1_wordHere_62 (by decide) ?_
            exact G.at (ih hlt (fun i hi => by rcases Nat.lt_or_ge i j with g | g; exact hall i g; exact (show i = j by omega) ▸ c_54)) ⟨rfl, rfl, vI (nI_1 j), trivial⟩
          · refine g_iconst (v := 0) hX dX1_wordHere_57 (by decide) ?_
            exact g_zret hX dX1_wordHere_58 rfl rfl (by have hno : ¬ wOK (I 23) m s k := (fun z => c_54 (z.2 j hlt)); exact ⟨by rw [show b01 (wOK (I 23) m s k) = (0 : Int32) from if_neg hno], rfl, rfl⟩)
        )
      exact G.at (loop 0 (Nat.zero_le _) (fun i hi => absurd hi (Nat.not_lt_zero i))) ⟨rfl, rfl, rfl, trivial⟩
    · refine g_iconst (v := 0) hX dX1_wordHere_24 (by decide) ?_
      exact g_zret hX dX1_wordHere_25 rfl rfl (by have hno : ¬ wOK (I 23) m s k := (fun z => c_21 (by rw [tE, if_neg (by omega), if_pos z1.2, z.1, Nat.add_sub_cancel_left])); exact ⟨by rw [show b01 (wOK (I 23) m s k) = (0 : Int32) from if_neg hno], rfl, rfl⟩)
