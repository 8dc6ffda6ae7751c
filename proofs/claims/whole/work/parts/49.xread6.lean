theorem tS_0 {T : Nat → Int32} {m s : Nat} : tS T m s = 0 ↔ m ≤ s := by
  unfold tS
  by_cases h : m ≤ s
  · rw [if_pos h]; exact ⟨fun _ => h, fun _ => rfl⟩
  · rw [if_neg h]
    refine ⟨fun z => ?_, fun z => absurd z h⟩
    split at z
    · exact absurd z (by decide)
    · split at z
      · split at z <;> exact absurd z (by decide)
      · split at z <;> exact absurd z (by decide)
theorem vilF_sm {T : Nat → Int32} {m : Nat} {V : VS} (h0 : wOK T m (sk T m 0) 0) (h : SMC T m (sk T m 0 + 7)) : vilF T m V = lpF T m m (sk T m (sk T m 0 + 7) + 1) (emV V) 0 0 1 := by
  rw [vilF, if_pos h0]; exact if_pos h
theorem vilF_ns {T : Nat → Int32} {m : Nat} {V : VS} (h0 : wOK T m (sk T m 0) 0) (h : ¬ SMC T m (sk T m 0 + 7)) : vilF T m V = .inl (sk T m (sk T m 0 + 7)) := by
  rw [vilF, if_pos h0]; exact if_neg h
theorem lpF_end {T : Nat → Int32} {m f a n d it : Nat} {V : VS} (h : m ≤ sk T m a) : lpF T m f a V n d it = .inr (it, V, n, d) := by
  cases f with
  | zero => rfl
  | succ f => rw [lpF, if_pos h]
/-- what readVillage leaves -/
def VQ (I : SI) (L : SL) (N : Nat) (ρ : RT) : QT := fun r I1 L1 => L1 = L ∧ match ρ with
  | .inl p => r = some (.int (-1)) ∧ ∃ V1 R1, I1 = rS (wV I 11 V1) N R1 ∧ R1 3 = nI p
  | .inr (it, V1, _, _) => r = some (.int (nI it)) ∧ ∃ R1, I1 = rS (wV I 11 V1) N R1
theorem VQ.bad {I : SI} {L : SL} {N p : Nat} {V : VS} {R : Nat → Int32} (h : R 3 = nI p) : VQ I L N (.inl p) (some (.int (-1))) (rS (wV I 11 V) N R) L := ⟨rfl, rfl, V, R, rfl, h⟩
theorem ok_nx {w : WG} {I : SI} {L : SL} {V : VS} {N m b : Nat} {R : Nat → Int32} (hR : RDL w N) (ht : I 22 1 = nI m) (hm : m ≤ 150) (hb : b ≤ m) (h4 : R 4 = nI b) : Ok w mX1_next [.ref (gA w N)] (rS (wV I 11 V) N R) L (fun r I1 L1 => r = none ∧ L1 = L ∧ ∃ R1, I1 = rS (wV I 11 V) N R1 ∧ TkP (I 23) m (sk (I 23) m b) R1) := by
  have h := ok_next (L := L) (I := wV I 11 V) hR (by rw [e22]; exact ht) hm hb h4
  rw [e23] at h; exact h
theorem ok_se {w : WG} {I : SI} {L : SL} {V : VS} {N m b : Nat} {R : Nat → Int32} (hR : RDL w N) (ht : I 22 1 = nI m) (hm : m ≤ 150) (hb : b ≤ m) (h4 : R 4 = nI b) : Ok w mX1_semicolonNext [.ref (gA w N)] (rS (wV I 11 V) N R) L (fun r I1 L1 => r = some (.int (b01 (SMC (I 23) m b))) ∧ L1 = L ∧ ∃ R1, I1 = rS (wV I 11 V) N R1 ∧ R1 3 = nI (sk (I 23) m b) ∧ (SMC (I 23) m b → R1 4 = nI (sk (I 23) m b + 1))) := by
  have h := ok_semi (L := L) (I := wV I 11 V) hR (by rw [e22]; exact ht) hm hb h4
  unfold SQ at h; rw [e23] at h; exact h
set_option maxHeartbeats 4000000 in
set_option maxRecDepth 100000 in
theorem ok_readVillage {w : WG} {I : SI} {L : SL} {V0 : VS} {N m : Nat} {R : Nat → Int32} (hR : RDL w N) (ht : I 22 1 = nI m) (hm : m ≤ 150) (h4 : R 4 = nI 0) : Ok w mX1_readVillage [.ref (gA w N)] (rS (wV I 11 V0) N R) L (VQ I L N (vilF (I 23) m V0)) := by
  have hN := hR.hN
  refine Ok.of (by decide) (Nat.le_of_ble_eq_true rfl) (fun X hX => ?_)
  have loop : ∀ f : Nat, ∀ (a i : Nat) (V : VS) (n d : Nat) (R : Nat → Int32), VI V n d → a ≤ m → m ≤ a + f → i ≤ a → R 3 = nI (sk (I 23) m a) → R 4 = nI (tE (I 23) m (sk (I 23) m a)) → R 2 = tS (I 23) m (sk (I 23) m a) → lpF (I 23) m f a V n d (i + 1) = vilF (I 23) m V0 → G X w mX1_readVillage (rS (wV I 11 V) N R) L 37 (lvO [(0, .ref (gA w N)), (1, .int (nI (i + 1))), (2, .int (nI i))]) [] := by
    intro f
    induction f with
    | zero =>
      intro a i V n d R hV ham hmf hia q3 q4 q2 hρ
      refine g_iload_n hX dX1_readVillage_37 rfl rfl ?_
      refine g_sipush (v := 150) hX dX1_readVillage_38 (by decide) ?_
      rw [show (150 : Int32) = nI 150 from rfl]
      refine g_icmp_ge (tgt := 73) hX dX1_readVillage_41 (by decide) (fun c_41 => ?_) (fun c_41 => ?_)
      · refine g_iload_n hX dX1_readVillage_73 rfl rfl ?_
        exact g_iret hX dX1_readVillage_74 rfl (by have hi := nle c_41 (by omega) (by omega); have hsa : a ≤ sk (I 23) m a := rU_ge; rw [← hρ, lpF_end (by omega)]; exact ⟨rfl, rfl, R, rfl⟩)
      · refine g_aload_n hX dX1_readVillage_44 rfl rfl ?_
        refine g_get1I hX 2 dX1_readVillage_45 b_fl_X1_37 hR.k0 (by decide) ?_
        try simp (disch := omega) only [rS_eq, rS_ne, rS_rS, pk_us, pk_un, wV_0]
        refine g_if_eq (tgt := 73) hX dX1_readVillage_48 (by decide) (fun c_48 => ?_) (fun c_48 => ?_)
        · refine g_iload_n hX dX1_readVillage_73 rfl rfl ?_
          exact g_iret hX dX1_readVillage_74 rfl (by rw [← hρ, lpF_end (tS_0.mp (q2.symm.trans c_48))]; exact ⟨rfl, rfl, R, rfl⟩)
        · have hs : sk (I 23) m a < m := Nat.not_le.mp (fun z => c_48 (q2.trans (tS_0.mpr z)))
          have hsa : a ≤ sk (I 23) m a := rU_ge
          omega
    | succ f ih =>
      intro a i V n d R hV ham hmf hia q3 q4 q2 hρ
      refine g_iload_n hX dX1_readVillage_37 rfl rfl ?_
      refine g_sipush (v := 150) hX dX1_readVillage_38 (by decide) ?_
      rw [show (150 : Int32) = nI 150 from rfl]
      refine g_icmp_ge (tgt := 73) hX dX1_readVillage_41 (by decide) (fun c_41 => ?_) (fun c_41 => ?_)
      · refine g_iload_n hX dX1_readVillage_73 rfl rfl ?_
        exact g_iret hX dX1_readVillage_74 rfl (by have hi := nle c_41 (by omega) (by omega); have hsa : a ≤ sk (I 23) m a := rU_ge; rw [← hρ, lpF_end (by omega)]; exact ⟨rfl, rfl, R, rfl⟩)
      · refine g_aload_n hX dX1_readVillage_44 rfl rfl ?_
        refine g_get1I hX 2 dX1_readVillage_45 b_fl_X1_37 hR.k0 (by decide) ?_
        try simp (disch := omega) only [rS_eq, rS_ne, rS_rS, pk_us, pk_un, wV_0]
        refine g_if_eq (tgt := 73) hX dX1_readVillage_48 (by decide) (fun c_48 => ?_) (fun c_48 => ?_)
        · refine g_iload_n hX dX1_readVillage_73 rfl rfl ?_
          exact g_iret hX dX1_readVillage_74 rfl (by rw [← hρ, lpF_end (tS_0.mp (q2.symm.trans c_48))]; exact ⟨rfl, rfl, R, rfl⟩)
        · have hs : sk (I 23) m a < m := Nat.not_le.mp (fun z => c_48 (q2.trans (tS_0.mpr z)))
          have hsa : a ≤ sk (I 23) m a := rU_ge
          refine g_aload_n hX dX1_readVillage_51 rfl rfl ?_
          refine g_callV _ hX dX1_readVillage_52 k_X1_41 ⟨by decide, by decide⟩ (by decide) hR.k0 rfl rfl (ok_readItem hR ht hm hV (rU_le ham) q3 q4 q2) rfl (Nat.le_of_ble_eq_true rfl) (fun r9 I9 L9 hq9 => ?_)
          cases hρ2 : itemF (I 23) m (sk (I 23) m a) V n d with
          | inl p =>
            rw [hρ2] at hq9
            obtain ⟨e1, e2, V1, R1, e3, e4⟩ := hq9
            rw [e1, e2, e3]
            refine g_if_ne (tgt := 60) hX dX1_readVillage_55 (by decide) (fun z => absurd rfl z) (fun _ => ?_)
            refine g_iconst (v := -1) hX dX1_readVillage_58 (by decide) ?_
            exact g_iret hX dX1_readVillage_59 rfl (by rw [← hρ, lpF, if_neg (by omega), hρ2]; exact VQ.bad e4)
          | inr z =>
            obtain ⟨q, V1, n1, d1⟩ := z
            rw [hρ2] at hq9
            obtain ⟨e1, e2, R1, e3, e4⟩ := hq9
            rw [e1, e2, e3]
            obtain ⟨hV1, hq1, hq2⟩ := itemF_inr hV hρ2
            refine g_if_ne (tgt := 60) hX dX1_readVillage_55 (by decide) (fun _ => ?_) (fun z => absurd z (by decide))
            refine g_iinc hX dX1_readVillage_60 rfl (d := 1) (by decide) ?_
            refine g_aload_n hX dX1_readVillage_63 rfl rfl ?_
            refine g_callV _ hX dX1_readVillage_64 k_X1_24 ⟨by decide, by decide⟩ (by decide) hR.k0 rfl rfl (ok_nx hR ht hm hq2 e4) rfl (Nat.le_of_ble_eq_true rfl) (fun r1 I1 L1 hq => ?_)
            obtain ⟨e1, e2, R7, e3, q37, q47, q27, q57⟩ := hq
            subst e1; rw [e2, e3]
            refine g_iinc hX dX1_readVillage_67 rfl (d := 1) (by decide) ?_
            refine g_goto (tgt := 37) hX dX1_readVillage_70 (by decide) ?_
            exact G.at (ih q (i + 1) V1 n1 d1 R7 hV1 hq2 (by omega) (by omega) q37 q47 q27 (by rw [← hρ, lpF, if_neg (by omega), hρ2])) ⟨rfl, vI (nI_1 _), vI (nI_1 _), trivial⟩
  refine g_aload_n hX dX1_readVillage_0 rfl rfl ?_
  refine g_get1R hX 1 dX1_readVillage_1 b_fl_X1_15 hR.k0 (by decide) hR.p1 ?_
  refine g_callV _ hX dX1_readVillage_4 k_X1_19 ⟨by decide, by decide⟩ (by decide) hR.into.k0 rfl rfl (ok_St hN (ok_empty_V hR.into)) rfl (Nat.le_of_ble_eq_true rfl) (fun r1 I1 L1 hq => ?_)
  obtain ⟨e1, e2, e3⟩ := hq
  subst e1; rw [e2, e3]
  refine g_aload_n hX dX1_readVillage_7 rfl rfl ?_
  refine g_callV _ hX dX1_readVillage_8 k_X1_24 ⟨by decide, by decide⟩ (by decide) hR.k0 rfl rfl (ok_nx hR ht hm (Nat.zero_le _) h4) rfl (Nat.le_of_ble_eq_true rfl) (fun r1 I1 L1 hq => ?_)
  obtain ⟨e1, e2, R2, e3, q32, q42, q22, q52⟩ := hq
  subst e1; rw [e2, e3]
  refine g_aload_n hX dX1_readVillage_11 rfl rfl ?_
  refine g_ldcS0 hX rfl dX1_readVillage_12 ?_
  refine g_callVp _ hX dX1_readVillage_14 k_X1_29 ⟨by decide, by decide⟩ (by decide) hR.k0 rfl rfl (ok_wd (k := 0) hR ht hm (by decide) (rU_le (Nat.zero_le _)) q32 q42 q22) rfl (Nat.le_of_ble_eq_true rfl) ?_
  refine g_if_eq (tgt := 27) hX dX1_readVillage_17 (by decide) (fun c_17 => ?_) (fun c_17 => ?_)
  · refine g_iconst (v := -1) hX dX1_readVillage_27 (by decide) ?_
    exact g_iret hX dX1_readVillage_28 rfl (by rw [vilF, if_neg (b01_0 c_17)]; exact VQ.bad q32)
  · have hw0 := b01_n c_17
    have hwb : sk (I 23) m 0 + 7 ≤ m := (wOK_E (by decide) (rU_le (Nat.zero_le _)) hw0).2
    have hw4 : R2 4 = nI (sk (I 23) m 0 + 7) := by rw [q42, (wOK_E (by decide) (rU_le (Nat.zero_le _)) hw0).1]; rfl
    refine g_aload_n hX dX1_readVillage_20 rfl rfl ?_
    refine g_callV _ hX dX1_readVillage_21 k_X1_33 ⟨by decide, by decide⟩ (by decide) hR.k0 rfl rfl (ok_se hR ht hm hwb hw4) rfl (Nat.le_of_ble_eq_true rfl) (fun r1 I1 L1 hq => ?_)
    obtain ⟨e1, e2, R3, e3, q33, q43⟩ := hq
    subst e1; rw [e2, e3]
    refine g_if_ne (tgt := 29) hX dX1_readVillage_24 (by decide) (fun c_24 => ?_) (fun c_24 => ?_)
    · have hsc := b01_n c_24
      have hsm1 : sk (I 23) m (sk (I 23) m 0 + 7) + 1 ≤ m := hsc.1
      refine g_iconst (v := 1) hX dX1_readVillage_29 (by decide) ?_
      refine g_istore_n hX dX1_readVillage_30 rfl (by decide) ?_
      refine g_aload_n hX dX1_readVillage_31 rfl rfl ?_
      refine g_callV _ hX dX1_readVillage_32 k_X1_24 ⟨by decide, by decide⟩ (by decide) hR.k0 rfl rfl (ok_nx hR ht hm hsm1 (q43 hsc)) rfl (Nat.le_of_ble_eq_true rfl) (fun r1 I1 L1 hq => ?_)
      obtain ⟨e1, e2, R4, e3, q34, q44, q24, q54⟩ := hq
      subst e1; rw [e2, e3]
      refine g_iconst (v := 0) hX dX1_readVillage_35 (by decide) ?_
      refine g_istore_n hX dX1_readVillage_36 rfl (by decide) ?_
      exact G.at (loop m (sk (I 23) m (sk (I 23) m 0 + 7) + 1) 0 (emV V0) 0 0 R4 (VI.em V0) hsm1 (by omega) (Nat.zero_le _) q34 q44 q24 (vilF_sm hw0 hsc).symm) ⟨rfl, rfl, rfl, trivial⟩
    · refine g_iconst (v := -1) hX dX1_readVillage_27 (by decide) ?_
      exact g_iret hX dX1_readVillage_28 rfl (by rw [vilF_ns hw0 (b01_0 c_24)]; exact VQ.bad q33)
