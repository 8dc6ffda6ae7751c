/-- what reading an item leaves -/
def RQ (I : SI) (L : SL) (N : Nat) (ρ : RT) : QT := fun r I1 L1 => L1 = L ∧ match ρ with
  | .inl p => r = some (.int 0) ∧ ∃ V1 R1, I1 = rS (wV I 11 V1) N R1 ∧ R1 3 = nI p
  | .inr (q, V1, _, _) => r = some (.int 1) ∧ ∃ R1, I1 = rS (wV I 11 V1) N R1 ∧ R1 4 = nI q
theorem RQ.bad {I : SI} {L : SL} {N p : Nat} {V : VS} {R : Nat → Int32} (h : R 3 = nI p) : RQ I L N (.inl p) (some (.int 0)) (rS (wV I 11 V) N R) L := ⟨rfl, rfl, V, R, rfl, h⟩
/-- the state in the middle of it -/
def NS (I : SI) (L : SL) (N m b : Nat) (V : VS) (lo hi : Int32) : QT := fun r I1 L1 => r = some (.int (b01 (nOK (I 23) m (sk (I 23) m b) lo hi))) ∧ L1 = L ∧ ∃ R1, I1 = rS (wV I 11 V) N R1 ∧ R1 3 = nI (sk (I 23) m b) ∧ (nOK (I 23) m (sk (I 23) m b) lo hi → R1 4 = nI (fg (I 23) m (sk (I 23) m b)) ∧ R1 5 = nv (I 23) (sk (I 23) m b) (fg (I 23) m (sk (I 23) m b)))
theorem ok_num {w : WG} {I : SI} {L : SL} {V : VS} {N m b : Nat} {R : Nat → Int32} {lo hi : Int32} (hR : RDL w N) (ht : I 22 1 = nI m) (hm : m ≤ 150) (hb : b ≤ m) (h4 : R 4 = nI b) : Ok w mX1_numberNext [.ref (gA w N), .int lo, .int hi] (rS (wV I 11 V) N R) L (NS I L N m b V lo hi) := by
  have h := ok_numN (L := L) (I := wV I 11 V) (lo := lo) (hi := hi) hR (by rw [e22]; exact ht) hm hb h4
  unfold NQ at h; rw [e23] at h; exact h
theorem RQ.sm {I : SI} {L : SL} {V : VS} {N m b n d : Nat} {r : Option Value} {I1 : SI} {L1 : SL} (h : SQ (wV I 11 V) L N m b r I1 L1) : RQ I L N (smF (I 23) m b V n d) r I1 L1 := by
  unfold SQ at h; rw [e23] at h
  obtain ⟨h1, h2, R1, h3, h4, h5⟩ := h
  refine ⟨h2, ?_⟩
  by_cases c : SMC (I 23) m b
  · rw [show smF (I 23) m b V n d = .inr (sk (I 23) m b + 1, V, n, d) from if_pos c]; exact ⟨by rw [h1, show b01 (SMC (I 23) m b) = (1 : Int32) from if_pos c], R1, h3, h5 c⟩
  · rw [show smF (I 23) m b V n d = .inl (sk (I 23) m b) from if_neg c]; exact ⟨by rw [h1, show b01 (SMC (I 23) m b) = (0 : Int32) from if_neg c], V, R1, h3, h4⟩
theorem ok_sm {w : WG} {I : SI} {L : SL} {V : VS} {N m b : Nat} {R : Nat → Int32} (n d : Nat) (hR : RDL w N) (ht : I 22 1 = nI m) (hm : m ≤ 150) (hb : b ≤ m) (h4 : R 4 = nI b) : Ok w mX1_semicolonNext [.ref (gA w N)] (rS (wV I 11 V) N R) L (RQ I L N (smF (I 23) m b V n d)) :=
  (ok_semi (L := L) (I := wV I 11 V) hR (by rw [e22]; exact ht) hm hb h4).mono (fun r I1 L1 h => RQ.sm h)
theorem RQ.nar {I : SI} {L : SL} {N : Nat} {ρ : RT} {r : Option Value} {I1 : SI} {L1 : SL} (h : RQ I L N ρ r I1 L1) : ∃ x, r = some (.int x) ∧ narrow .boolean (.int x) = .int x := by
  obtain ⟨-, h⟩ := h
  rcases ρ with p | ⟨q, V1, n1, d1⟩
  · exact ⟨0, h.1, rfl⟩
  · exact ⟨1, h.1, rfl⟩
theorem wOK_E {T : Nat → Int32} {m s k : Nat} (hk : k < 4) (hs : s ≤ m) (h : wOK T m s k) : tE T m s = s + sL k ∧ s + sL k ≤ m := by
  obtain ⟨h1, h2⟩ := wOK_1 hk h
  have := rU_le (P := isL) (T := T) hs
  refine ⟨by rw [tE, if_neg (by omega), if_pos h2, h.1], by rw [← h.1]; exact this⟩
theorem ok_wd {w : WG} {I : SI} {L : SL} {V : VS} {N m s k : Nat} {R : Nat → Int32} (hR : RDL w N) (ht : I 22 1 = nI m) (hm : m ≤ 150) (hk : k < 4) (hsm : s ≤ m) (h3 : R 3 = nI s) (h4 : R 4 = nI (tE (I 23) m s)) (h2 : R 2 = tS (I 23) m s) : Ok w mX1_wordHere [.ref (gA w N), .ref (sA w k)] (rS (wV I 11 V) N R) L (Pr (.int (b01 (wOK (I 23) m s k))) (rS (wV I 11 V) N R) L) := by
  have h := ok_word (L := L) (I := wV I 11 V) (k := k) (R := R) hR (by rw [e22]; exact ht) hm hk hsm h3 (by rw [e23]; exact h4) (by rw [e23]; exact h2)
  rw [e23] at h; exact h
theorem g_zretQ {X : CT} {w : WG} {M : MD} {Q : QT} {I : SI} {L : SL} {pc : Nat} {f : LV} {r : Option Value} (hX : Cx X w M Q) (hd : decode M.2.1 pc = .ok (.ireturn, 1)) (hr0 : M.2.2.2.1 = some .boolean) (hz : ∃ x, r = some (.int x) ∧ narrow .boolean (.int x) = .int x) (hQ : Q r I L) : G X w M I L pc f (r.toList ++ []) := by
  obtain ⟨x, rfl, hn⟩ := hz
  exact g_zret hX hd hr0 hn hQ
set_option maxHeartbeats 4000000 in
set_option maxRecDepth 100000 in
theorem ok_readMan {w : WG} {I : SI} {L : SL} {N m a n d : Nat} {V : VS} {R : Nat → Int32} (hR : RDL w N) (ht : I 22 1 = nI m) (hm : m ≤ 150) (hV : VI V n d) (ha : a + 3 ≤ m) (h3 : R 3 = nI a) (h4 : R 4 = nI (a + 3)) : Ok w mX1_readMan [.ref (gA w N)] (rS (wV I 11 V) N R) L (RQ I L N (manF (I 23) m a V n d)) := by
  have hN := hR.hN
  have hn4 := hV.1.2
  refine Ok.of (by decide) (Nat.le_of_ble_eq_true rfl) (fun X hX => ?_)
  refine g_aload_n hX dX1_readMan_0 rfl rfl ?_
  refine g_get1R hX 1 dX1_readMan_1 b_fl_X1_15 hR.k0 (by decide) hR.p1 ?_
  refine g_get3I hX 0 dX1_readMan_4 b_fl_X1_59 hR.into.k0 (by decide) ?_
  try simp (disch := omega) only [rS_eq, rS_ne, rS_rS, pk_us, pk_un, wV_0]
  rw [hV.1.1]
  refine g_iconst (v := 4) hX dX1_readMan_7 (by decide) ?_
  rw [show (4 : Int32) = nI 4 from rfl]
  refine g_icmp_ge (tgt := 21) hX dX1_readMan_8 (by decide) (fun c_8 => ?_) (fun c_8 => ?_)
  · refine g_iconst (v := 0) hX dX1_readMan_21 (by decide) ?_
    exact g_zret hX dX1_readMan_22 rfl rfl (by rw [manF, if_neg (by have := nle c_8 (by omega) (by omega); omega)]; exact RQ.bad h3)
  · have hn := nnle c_8 (by omega) (by omega)
    refine g_aload_n hX dX1_readMan_11 rfl rfl ?_
    refine g_iconst (v := 0) hX dX1_readMan_12 (by decide) ?_
    refine g_bipush (v := 9) hX dX1_readMan_13 (by decide) ?_
    refine g_callV _ hX dX1_readMan_15 k_X1_62 ⟨by decide, by decide⟩ (by decide) hR.k0 rfl rfl (ok_num hR ht hm ha h4) rfl (Nat.le_of_ble_eq_true rfl) (fun r1 I1 L1 hq1 => ?_)
    obtain ⟨e1, e2, R1, e3, h31, hk1⟩ := hq1
    subst e1; rw [e2, e3]
    refine g_if_ne (tgt := 23) hX dX1_readMan_18 (by decide) (fun c_18 => ?_) (fun c_18 => ?_)
    · have n1 := b01_n c_18
      obtain ⟨h41, h51⟩ := hk1 n1
      have g1 : (fg (I 23) m (sk (I 23) m (a + 3))) ≤ m := (fg_gt n1.1 n1.2.1).2
      refine g_aload_n hX dX1_readMan_23 rfl rfl ?_
      refine g_get1I hX 5 dX1_readMan_24 b_fl_X1_66 hR.k0 (by decide) ?_
      try simp (disch := omega) only [rS_eq, rS_ne, rS_rS, pk_us, pk_un, wV_0]
      rw [h51]
      refine g_istore_n hX dX1_readMan_27 rfl (by decide) ?_
      refine g_aload_n hX dX1_readMan_28 rfl rfl ?_
      refine g_iconst (v := 0) hX dX1_readMan_29 (by decide) ?_
      refine g_bipush (v := 30) hX dX1_readMan_30 (by decide) ?_
      refine g_callV _ hX dX1_readMan_32 k_X1_62 ⟨by decide, by decide⟩ (by decide) hR.k0 rfl rfl (ok_num hR ht hm g1 h41) rfl (Nat.le_of_ble_eq_true rfl) (fun r1 I1 L1 hq2 => ?_)
      obtain ⟨e1, e2, R2, e3, h32, hk2⟩ := hq2
      subst e1; rw [e2, e3]
      refine g_if_ne (tgt := 40) hX dX1_readMan_35 (by decide) (fun c_35 => ?_) (fun c_35 => ?_)
      · have n2 := b01_n c_35
        obtain ⟨h42, h52⟩ := hk2 n2
        have g2 : (fg (I 23) m (sk (I 23) m (fg (I 23) m (sk (I 23) m (a + 3))))) ≤ m := (fg_gt n2.1 n2.2.1).2
        refine g_aload_n hX dX1_readMan_40 rfl rfl ?_
        refine g_get1R hX 1 dX1_readMan_41 b_fl_X1_15 hR.k0 (by decide) hR.p1 ?_
        refine g_iload_n hX dX1_readMan_44 rfl rfl ?_
        refine g_aload_n hX dX1_readMan_45 rfl rfl ?_
        refine g_get1I hX 5 dX1_readMan_46 b_fl_X1_66 hR.k0 (by decide) ?_
        try simp (disch := omega) only [rS_eq, rS_ne, rS_rS, pk_us, pk_un, wV_0]
        rw [h52]
        refine g_callV _ hX dX1_readMan_49 k_X1_69 ⟨by decide, by decide⟩ (by decide) hR.into.k0 rfl rfl (ok_St hN (ok_addMan_V hR.into hV.1.1 hn _ _)) rfl (Nat.le_of_ble_eq_true rfl) (fun r1 I1 L1 hq => ?_)
        obtain ⟨e1, e2, e3⟩ := hq
        subst e1; rw [e2, e3]
        refine g_pop hX dX1_readMan_52 rfl ?_
        refine g_aload_n hX dX1_readMan_53 rfl rfl ?_
        refine g_callV _ hX dX1_readMan_54 k_X1_33 ⟨by decide, by decide⟩ (by decide) hR.k0 rfl rfl (ok_sm (n + 1) d hR ht hm g2 h42) rfl (Nat.le_of_ble_eq_true rfl) (fun r9 I9 L9 hq9 => ?_)
        exact g_zretQ hX dX1_readMan_57 rfl hq9.nar (by rw [manF, if_pos hn, numF, if_pos n1, numF, if_pos n2]; exact hq9)
      · refine g_iconst (v := 0) hX dX1_readMan_38 (by decide) ?_
        exact g_zret hX dX1_readMan_39 rfl rfl (by rw [manF, if_pos hn, numF, if_pos n1, numF, if_neg (b01_0 c_35)]; exact RQ.bad h32)
    · refine g_iconst (v := 0) hX dX1_readMan_21 (by decide) ?_
      exact g_zret hX dX1_readMan_22 rfl rfl (by rw [manF, if_pos hn, numF, if_neg (b01_0 c_18)]; exact RQ.bad h31)
set_option maxHeartbeats 4000000 in
set_option maxRecDepth 100000 in
theorem ok_readDog {w : WG} {I : SI} {L : SL} {N m a n d : Nat} {V : VS} {R : Nat → Int32} (hR : RDL w N) (ht : I 22 1 = nI m) (hm : m ≤ 150) (hV : VI V n d) (ha : a + 3 ≤ m) (h3 : R 3 = nI a) (h4 : R 4 = nI (a + 3)) : Ok w mX1_readDog [.ref (gA w N)] (rS (wV I 11 V) N R) L (RQ I L N (dogF (I 23) m a V n d)) := by
  have hN := hR.hN
  have hd7 := hV.2.1.2
  refine Ok.of (by decide) (Nat.le_of_ble_eq_true rfl) (fun X hX => ?_)
  refine g_aload_n hX dX1_readDog_0 rfl rfl ?_
  refine g_get1R hX 1 dX1_readDog_1 b_fl_X1_15 hR.k0 (by decide) hR.p1 ?_
  refine g_get3I hX 1 dX1_readDog_4 b_fl_X1_73 hR.into.k0 (by decide) ?_
  try simp (disch := omega) only [rS_eq, rS_ne, rS_rS, pk_us, pk_un, wV_0]
  rw [hV.2.1.1]
  refine g_bipush (v := 7) hX dX1_readDog_7 (by decide) ?_
  rw [show (7 : Int32) = nI 7 from rfl]
  refine g_icmp_ge (tgt := 21) hX dX1_readDog_9 (by decide) (fun c_9 => ?_) (fun c_9 => ?_)
  · refine g_iconst (v := 0) hX dX1_readDog_21 (by decide) ?_
    exact g_zret hX dX1_readDog_22 rfl rfl (by rw [dogF, if_neg (by have := nle c_9 (by omega) (by omega); omega)]; exact RQ.bad h3)
  · have hn := nnle c_9 (by omega) (by omega)
    refine g_aload_n hX dX1_readDog_12 rfl rfl ?_
    refine g_iconst (v := 0) hX dX1_readDog_13 (by decide) ?_
    refine g_iconst (v := 5) hX dX1_readDog_14 (by decide) ?_
    refine g_callV _ hX dX1_readDog_15 k_X1_62 ⟨by decide, by decide⟩ (by decide) hR.k0 rfl rfl (ok_num hR ht hm ha h4) rfl (Nat.le_of_ble_eq_true rfl) (fun r1 I1 L1 hq1 => ?_)
    obtain ⟨e1, e2, R1, e3, h31, hk1⟩ := hq1
    subst e1; rw [e2, e3]
    refine g_if_ne (tgt := 23) hX dX1_readDog_18 (by decide) (fun c_18 => ?_) (fun c_18 => ?_)
    · have n1 := b01_n c_18
      obtain ⟨h41, h51⟩ := hk1 n1
      have g1 : (fg (I 23) m (sk (I 23) m (a + 3))) ≤ m := (fg_gt n1.1 n1.2.1).2
      refine g_aload_n hX dX1_readDog_23 rfl rfl ?_
      refine g_get1I hX 5 dX1_readDog_24 b_fl_X1_66 hR.k0 (by decide) ?_
      try simp (disch := omega) only [rS_eq, rS_ne, rS_rS, pk_us, pk_un, wV_0]
      rw [h51]
      refine g_istore_n hX dX1_readDog_27 rfl (by decide) ?_
      refine g_aload_n hX dX1_readDog_28 rfl rfl ?_
      refine g_iconst (v := 1) hX dX1_readDog_29 (by decide) ?_
      refine g_iconst (v := 5) hX dX1_readDog_30 (by decide) ?_
      refine g_callV _ hX dX1_readDog_31 k_X1_62 ⟨by decide, by decide⟩ (by decide) hR.k0 rfl rfl (ok_num hR ht hm g1 h41) rfl (Nat.le_of_ble_eq_true rfl) (fun r1 I1 L1 hq2 => ?_)
      obtain ⟨e1, e2, R2, e3, h32, hk2⟩ := hq2
      subst e1; rw [e2, e3]
      refine g_if_ne (tgt := 39) hX dX1_readDog_34 (by decide) (fun c_34 => ?_) (fun c_34 => ?_)
      · have n2 := b01_n c_34
        obtain ⟨h42, h52⟩ := hk2 n2
        have g2 : (fg (I 23) m (sk (I 23) m (fg (I 23) m (sk (I 23) m (a + 3))))) ≤ m := (fg_gt n2.1 n2.2.1).2
        refine g_aload_n hX dX1_readDog_39 rfl rfl ?_
        refine g_get1I hX 5 dX1_readDog_40 b_fl_X1_66 hR.k0 (by decide) ?_
        try simp (disch := omega) only [rS_eq, rS_ne, rS_rS, pk_us, pk_un, wV_0]
        rw [h52]
        refine g_istore_n hX dX1_readDog_43 rfl (by decide) ?_
        refine g_aload_n hX dX1_readDog_44 rfl rfl ?_
        refine g_iconst (v := 1) hX dX1_readDog_45 (by decide) ?_
        refine g_bipush (v := 9) hX dX1_readDog_46 (by decide) ?_
        refine g_callV _ hX dX1_readDog_48 k_X1_62 ⟨by decide, by decide⟩ (by decide) hR.k0 rfl rfl (ok_num hR ht hm g2 h42) rfl (Nat.le_of_ble_eq_true rfl) (fun r1 I1 L1 hq3 => ?_)
        obtain ⟨e1, e2, R3, e3, h33, hk3⟩ := hq3
        subst e1; rw [e2, e3]
        refine g_if_ne (tgt := 56) hX dX1_readDog_51 (by decide) (fun c_51 => ?_) (fun c_51 => ?_)
        · have n3 := b01_n c_51
          obtain ⟨h43, h53⟩ := hk3 n3
          have g3 : (fg (I 23) m (sk (I 23) m (fg (I 23) m (sk (I 23) m (fg (I 23) m (sk (I 23) m (a + 3))))))) ≤ m := (fg_gt n3.1 n3.2.1).2
          refine g_aload_n hX dX1_readDog_56 rfl rfl ?_
          refine g_get1I hX 5 dX1_readDog_57 b_fl_X1_66 hR.k0 (by decide) ?_
          try simp (disch := omega) only [rS_eq, rS_ne, rS_rS, pk_us, pk_un, wV_0]
          rw [h53]
          refine g_istore_n hX dX1_readDog_60 rfl (by decide) ?_
          refine g_aload_n hX dX1_readDog_61 rfl rfl ?_
          refine g_iconst (v := 0) hX dX1_readDog_62 (by decide) ?_
          refine g_iconst (v := 3) hX dX1_readDog_63 (by decide) ?_
          refine g_callV _ hX dX1_readDog_64 k_X1_62 ⟨by decide, by decide⟩ (by decide) hR.k0 rfl rfl (ok_num hR ht hm g3 h43) rfl (Nat.le_of_ble_eq_true rfl) (fun r1 I1 L1 hq4 => ?_)
          obtain ⟨e1, e2, R4, e3, h34, hk4⟩ := hq4
          subst e1; rw [e2, e3]
          refine g_if_ne (tgt := 72) hX dX1_readDog_67 (by decide) (fun c_67 => ?_) (fun c_67 => ?_)
          · have n4 := b01_n c_67
            obtain ⟨h44, h54⟩ := hk4 n4
            have g4 : (fg (I 23) m (sk (I 23) m (fg (I 23) m (sk (I 23) m (fg (I 23) m (sk (I 23) m (fg (I 23) m (sk (I 23) m (a + 3))))))))) ≤ m := (fg_gt n4.1 n4.2.1).2
            refine g_aload_n hX dX1_readDog_72 rfl rfl ?_
            refine g_get1R hX 1 dX1_readDog_73 b_fl_X1_15 hR.k0 (by decide) hR.p1 ?_
            refine g_iload_n hX dX1_readDog_76 rfl rfl ?_
            refine g_iload_n hX dX1_readDog_77 rfl rfl ?_
            refine g_iload_n hX dX1_readDog_78 rfl rfl ?_
            refine g_aload_n hX dX1_readDog_79 rfl rfl ?_
            refine g_get1I hX 5 dX1_readDog_80 b_fl_X1_66 hR.k0 (by decide) ?_
            try simp (disch := omega) only [rS_eq, rS_ne, rS_rS, pk_us, pk_un, wV_0]
            rw [h54]
            refine g_callV _ hX dX1_readDog_83 k_X1_76 ⟨by decide, by decide⟩ (by decide) hR.into.k0 rfl rfl (ok_St hN (ok_addDog_V hR.into hV.2.1.1 hn _ _ _ _)) rfl (Nat.le_of_ble_eq_true rfl) (fun r1 I1 L1 hq => ?_)
            obtain ⟨e1, e2, e3⟩ := hq
            subst e1; rw [e2, e3]
            refine g_pop hX dX1_readDog_86 rfl ?_
            refine g_aload_n hX dX1_readDog_87 rfl rfl ?_
            refine g_callV _ hX dX1_readDog_88 k_X1_33 ⟨by decide, by decide⟩ (by decide) hR.k0 rfl rfl (ok_sm n (d + 1) hR ht hm g4 h44) rfl (Nat.le_of_ble_eq_true rfl) (fun r9 I9 L9 hq9 => ?_)
            exact g_zretQ hX dX1_readDog_91 rfl hq9.nar (by rw [dogF, if_pos hn, numF, if_pos n1, numF, if_pos n2, numF, if_pos n3, numF, if_pos n4]; exact hq9)
          · refine g_iconst (v := 0) hX dX1_readDog_70 (by decide) ?_
            exact g_zret hX dX1_readDog_71 rfl rfl (by rw [dogF, if_pos hn, numF, if_pos n1, numF, if_pos n2, numF, if_pos n3, numF, if_neg (b01_0 c_67)]; exact RQ.bad h34)
        · refine g_iconst (v := 0) hX dX1_readDog_54 (by decide) ?_
          exact g_zret hX dX1_readDog_55 rfl rfl (by rw [dogF, if_pos hn, numF, if_pos n1, numF, if_pos n2, numF, if_neg (b01_0 c_51)]; exact RQ.bad h33)
      · refine g_iconst (v := 0) hX dX1_readDog_37 (by decide) ?_
        exact g_zret hX dX1_readDog_38 rfl rfl (by rw [dogF, if_pos hn, numF, if_pos n1, numF, if_neg (b01_0 c_34)]; exact RQ.bad h32)
    · refine g_iconst (v := 0) hX dX1_readDog_21 (by decide) ?_
      exact g_zret hX dX1_readDog_22 rfl rfl (by rw [dogF, if_pos hn, numF, if_neg (b01_0 c_18)]; exact RQ.bad h31)
set_option maxHeartbeats 4000000 in
set_option maxRecDepth 100000 in
theorem ok_readBribe {w : WG} {I : SI} {L : SL} {N m a n d : Nat} {V : VS} {R : Nat → Int32} (hR : RDL w N) (ht : I 22 1 = nI m) (hm : m ≤ 150) (hV : VI V n d) (ha : a + 5 ≤ m) (h3 : R 3 = nI a) (h4 : R 4 = nI (a + 5)) : Ok w mX1_readBribe [.ref (gA w N)] (rS (wV I 11 V) N R) L (RQ I L N (bribeF (I 23) m a V n d)) := by
  have hN := hR.hN
  have hn4 := hV.1.2
  have hd7 := hV.2.1.2
  refine Ok.of (by decide) (Nat.le_of_ble_eq_true rfl) (fun X hX => ?_)
  refine g_aload_n hX dX1_readBribe_0 rfl rfl ?_
  refine g_iconst (v := 0) hX dX1_readBribe_1 (by decide) ?_
  refine g_aload_n hX dX1_readBribe_2 rfl rfl ?_
  refine g_get1R hX 1 dX1_readBribe_3 b_fl_X1_15 hR.k0 (by decide) hR.p1 ?_
  refine g_get3I hX 0 dX1_readBribe_6 b_fl_X1_59 hR.into.k0 (by decide) ?_
  try simp (disch := omega) only [rS_eq, rS_ne, rS_rS, pk_us, pk_un, wV_0]
  rw [hV.1.1]
  refine g_iconst (v := 1) hX dX1_readBribe_9 (by decide) ?_
  refine g_isub hX dX1_readBribe_10 ?_
  refine g_callV _ hX dX1_readBribe_11 k_X1_62 ⟨by decide, by decide⟩ (by decide) hR.k0 rfl rfl (ok_num hR ht hm ha h4) rfl (Nat.le_of_ble_eq_true rfl) (fun r1 I1 L1 hq1 => ?_)
  obtain ⟨e1, e2, R1, e3, h31, hk1⟩ := hq1
  subst e1; rw [e2, e3]
  refine g_if_ne (tgt := 19) hX dX1_readBribe_14 (by decide) (fun c_14 => ?_) (fun c_14 => ?_)
  · have n1 := b01_n c_14
    obtain ⟨h41, h51⟩ := hk1 n1
    have g1 : (fg (I 23) m (sk (I 23) m (a + 5))) ≤ m := (fg_gt n1.1 n1.2.1).2
    refine g_aload_n hX dX1_readBribe_19 rfl rfl ?_
    refine g_get1I hX 5 dX1_readBribe_20 b_fl_X1_66 hR.k0 (by decide) ?_
    try simp (disch := omega) only [rS_eq, rS_ne, rS_rS, pk_us, pk_un, wV_0]
    rw [h51]
    refine g_istore_n hX dX1_readBribe_23 rfl (by decide) ?_
    refine g_aload_n hX dX1_readBribe_24 rfl rfl ?_
    refine g_iconst (v := 0) hX dX1_readBribe_25 (by decide) ?_
    refine g_aload_n hX dX1_readBribe_26 rfl rfl ?_
    refine g_get1R hX 1 dX1_readBribe_27 b_fl_X1_15 hR.k0 (by decide) hR.p1 ?_
    refine g_get3I hX 1 dX1_readBribe_30 b_fl_X1_73 hR.into.k0 (by decide) ?_
    try simp (disch := omega) only [rS_eq, rS_ne, rS_rS, pk_us, pk_un, wV_0]
    rw [hV.2.1.1]
    refine g_iconst (v := 1) hX dX1_readBribe_33 (by decide) ?_
    refine g_isub hX dX1_readBribe_34 ?_
    refine g_callV _ hX dX1_readBribe_35 k_X1_62 ⟨by decide, by decide⟩ (by decide) hR.k0 rfl rfl (ok_num hR ht hm g1 h41) rfl (Nat.le_of_ble_eq_true rfl) (fun r1 I1 L1 hq2 => ?_)
    obtain ⟨e1, e2, R2, e3, h32, hk2⟩ := hq2
    subst e1; rw [e2, e3]
    refine g_if_eq (tgt := 56) hX dX1_readBribe_38 (by decide) (fun c_38 => ?_) (fun c_38 => ?_)
    · refine g_iconst (v := 0) hX dX1_readBribe_56 (by decide) ?_
      exact g_zret hX dX1_readBribe_57 rfl rfl (by rw [bribeF, numF, if_pos n1, numF, if_neg (b01_0 c_38)]; exact RQ.bad h32)
    · have n2 := b01_n c_38
      obtain ⟨h42, h52⟩ := hk2 n2
      have g2 : (fg (I 23) m (sk (I 23) m (fg (I 23) m (sk (I 23) m (a + 5))))) ≤ m := (fg_gt n2.1 n2.2.1).2
      refine g_aload_n hX dX1_readBribe_41 rfl rfl ?_
      refine g_get1R hX 1 dX1_readBribe_42 b_fl_X1_15 hR.k0 (by decide) hR.p1 ?_
      refine g_iload_n hX dX1_readBribe_45 rfl rfl ?_
      refine g_aload_n hX dX1_readBribe_46 rfl rfl ?_
      refine g_get1I hX 5 dX1_readBribe_47 b_fl_X1_66 hR.k0 (by decide) ?_
      try simp (disch := omega) only [rS_eq, rS_ne, rS_rS, pk_us, pk_un, wV_0]
      rw [h52]
      obtain ⟨c, ec, hc⟩ := num_lt n1.2.2.2.1 n1.2.2.2.2 (by omega)
      obtain ⟨k, ek, hk⟩ := num_lt n2.2.2.2.1 n2.2.2.2.2 (by omega)
      rw [ec, ek]
      refine g_callVp _ hX dX1_readBribe_50 k_X1_80 ⟨by decide, by decide⟩ (by decide) hR.into.k0 rfl rfl (ok_mayBribe hR.into (by omega) (by omega)) rfl (Nat.le_of_ble_eq_true rfl) ?_
      have hv0 : (rS (wV I 11 V) N R2) 11 2 = V 0 2 := by rw [rS_ne _ _ _ (by omega), wV_0]
      have hv6 : (rS (wV I 11 V) N R2) (11 + 6) k = V 6 k := by rw [rS_ne _ _ _ (by omega), wV_at _ _ _ (by decide)]
      have hv2 : (rS (wV I 11 V) N R2) (11 + 2) c = V 2 c := by rw [rS_ne _ _ _ (by omega), wV_at _ _ _ (by decide)]
      rw [hv0, hv6, hv2]
      refine g_if_ne (tgt := 58) hX dX1_readBribe_53 (by decide) (fun c_53 => ?_) (fun c_53 => ?_)
      · refine g_aload_n hX dX1_readBribe_58 rfl rfl ?_
        refine g_get1R hX 1 dX1_readBribe_59 b_fl_X1_15 hR.k0 (by decide) hR.p1 ?_
        refine g_iload_n hX dX1_readBribe_62 rfl rfl ?_
        refine g_aload_n hX dX1_readBribe_63 rfl rfl ?_
        refine g_get1I hX 5 dX1_readBribe_64 b_fl_X1_66 hR.k0 (by decide) ?_
        try simp (disch := omega) only [rS_eq, rS_ne, rS_rS, pk_us, pk_un, wV_0]
        rw [h52, ek]
        refine g_callV _ hX dX1_readBribe_67 k_X1_83 ⟨by decide, by decide⟩ (by decide) hR.into.k0 rfl rfl (ok_St hN (ok_putToSleep_V hR.into (by omega) (by omega))) rfl (Nat.le_of_ble_eq_true rfl) (fun r1 I1 L1 hq => ?_)
        obtain ⟨e1, e2, e3⟩ := hq
        subst e1; rw [e2, e3]
        refine g_aload_n hX dX1_readBribe_70 rfl rfl ?_
        refine g_callV _ hX dX1_readBribe_71 k_X1_33 ⟨by decide, by decide⟩ (by decide) hR.k0 rfl rfl (ok_sm n d hR ht hm g2 h42) rfl (Nat.le_of_ble_eq_true rfl) (fun r9 I9 L9 hq9 => ?_)
        exact g_zretQ hX dX1_readBribe_74 rfl hq9.nar (by rw [bribeF, numF, if_pos n1, numF, if_pos n2, ec, ek, nI_clamp (by omega), nI_clamp (by omega), if_pos (b01_n c_53)]; exact hq9)
      · refine g_iconst (v := 0) hX dX1_readBribe_56 (by decide) ?_
        exact g_zret hX dX1_readBribe_57 rfl rfl (by rw [bribeF, numF, if_pos n1, numF, if_pos n2, ec, ek, nI_clamp (by omega), nI_clamp (by omega), if_neg (b01_0 c_53)]; exact RQ.bad h32)
  · refine g_iconst (v := 0) hX dX1_readBribe_17 (by decide) ?_
    exact g_zret hX dX1_readBribe_18 rfl rfl (by rw [bribeF, numF, if_neg (b01_0 c_14)]; exact RQ.bad h31)
set_option maxHeartbeats 4000000 in
set_option maxRecDepth 100000 in
theorem ok_readItem {w : WG} {I : SI} {L : SL} {N m s n d : Nat} {V : VS} {R : Nat → Int32} (hR : RDL w N) (ht : I 22 1 = nI m) (hm : m ≤ 150) (hV : VI V n d) (hsm : s ≤ m) (h3 : R 3 = nI s) (h4 : R 4 = nI (tE (I 23) m s)) (h2 : R 2 = tS (I 23) m s) : Ok w mX1_readItem [.ref (gA w N)] (rS (wV I 11 V) N R) L (RQ I L N (itemF (I 23) m s V n d)) := by
  have hN := hR.hN
  refine Ok.of (by decide) (Nat.le_of_ble_eq_true rfl) (fun X hX => ?_)
  refine g_aload_n hX dX1_readItem_0 rfl rfl ?_
  refine g_ldcS1 hX rfl dX1_readItem_1 ?_
  refine g_callVp _ hX dX1_readItem_3 k_X1_29 ⟨by decide, by decide⟩ (by decide) hR.k0 rfl rfl (ok_wd (k := 1) hR ht hm (by decide) hsm h3 h4 h2) rfl (Nat.le_of_ble_eq_true rfl) ?_
  refine g_if_eq (tgt := 14) hX dX1_readItem_6 (by decide) (fun c_6 => ?_) (fun c_6 => ?_)
  · refine g_aload_n hX dX1_readItem_14 rfl rfl ?_
    refine g_ldcS2 hX rfl dX1_readItem_15 ?_
    refine g_callVp _ hX dX1_readItem_17 k_X1_29 ⟨by decide, by decide⟩ (by decide) hR.k0 rfl rfl (ok_wd (k := 2) hR ht hm (by decide) hsm h3 h4 h2) rfl (Nat.le_of_ble_eq_true rfl) ?_
    refine g_if_eq (tgt := 28) hX dX1_readItem_20 (by decide) (fun c_20 => ?_) (fun c_20 => ?_)
    · refine g_aload_n hX dX1_readItem_28 rfl rfl ?_
      refine g_ldcS3 hX rfl dX1_readItem_29 ?_
      refine g_callVp _ hX dX1_readItem_31 k_X1_29 ⟨by decide, by decide⟩ (by decide) hR.k0 rfl rfl (ok_wd (k := 3) hR ht hm (by decide) hsm h3 h4 h2) rfl (Nat.le_of_ble_eq_true rfl) ?_
      refine g_if_eq (tgt := 48) hX dX1_readItem_34 (by decide) (fun c_34 => ?_) (fun c_34 => ?_)
      · refine g_iconst (v := 0) hX dX1_readItem_48 (by decide) ?_
        exact g_zret hX dX1_readItem_49 rfl rfl (by rw [itemF, if_neg (b01_0 c_6), if_neg (b01_0 c_20), if_neg (b01_0 c_34)]; exact RQ.bad h3)
      · refine g_aload_n hX dX1_readItem_37 rfl rfl ?_
        refine g_callV _ hX dX1_readItem_38 k_X1_56 ⟨by decide, by decide⟩ (by decide) hR.k0 rfl rfl (ok_readBribe hR ht hm hV (by have := (wOK_E (by decide) hsm (b01_n c_34)).2; exact this) h3 (by rw [h4, (wOK_E (by decide) hsm (b01_n c_34)).1]; rfl)) rfl (Nat.le_of_ble_eq_true rfl) (fun r9 I9 L9 hq9 => ?_)
        have hit : itemF (I 23) m s V n d = bribeF (I 23) m s V n d := by rw [itemF, if_neg (b01_0 c_6), if_neg (b01_0 c_20), if_pos (b01_n c_34)]
        rw [← hit] at hq9
        cases hρ : itemF (I 23) m s V n d with
        | inl p =>
          rw [hρ] at hq9
          obtain ⟨e1, e2, V1, R1, e3, e4⟩ := hq9
          rw [e1, e2, e3]
          refine g_if_eq (tgt := 48) hX dX1_readItem_41 (by decide) (fun _ => ?_) (fun z => absurd rfl z)
          refine g_iconst (v := 0) hX dX1_readItem_48 (by decide) ?_
          exact g_zret hX dX1_readItem_49 rfl rfl (by rw [hρ]; exact RQ.bad e4)
        | inr z =>
          obtain ⟨q, V1, n1, d1⟩ := z
          rw [hρ] at hq9
          obtain ⟨e1, e2, R1, e3, e4⟩ := hq9
          rw [e1, e2, e3]
          refine g_if_eq (tgt := 48) hX dX1_readItem_41 (by decide) (fun z => absurd z (by decide)) (fun _ => ?_)
          refine g_iconst (v := 1) hX dX1_readItem_44 (by decide) ?_
          refine g_goto (tgt := 49) hX dX1_readItem_45 (by decide) ?_
          exact g_zret hX dX1_readItem_49 rfl rfl (by rw [hρ]; exact ⟨rfl, rfl, R1, rfl, e4⟩)
    · refine g_aload_n hX dX1_readItem_23 rfl rfl ?_
      refine g_callV _ hX dX1_readItem_24 k_X1_51 ⟨by decide, by decide⟩ (by decide) hR.k0 rfl rfl (ok_readDog hR ht hm hV (by have := (wOK_E (by decide) hsm (b01_n c_20)).2; exact this) h3 (by rw [h4, (wOK_E (by decide) hsm (b01_n c_20)).1]; rfl)) rfl (Nat.le_of_ble_eq_true rfl) (fun r9 I9 L9 hq9 => ?_)
      exact g_zretQ hX dX1_readItem_27 rfl hq9.nar (by rw [itemF, if_neg (b01_0 c_6), if_pos (b01_n c_20)]; exact hq9)
  · refine g_aload_n hX dX1_readItem_9 rfl rfl ?_
    refine g_callV _ hX dX1_readItem_10 k_X1_46 ⟨by decide, by decide⟩ (by decide) hR.k0 rfl rfl (ok_readMan hR ht hm hV (by have := (wOK_E (by decide) hsm (b01_n c_6)).2; exact this) h3 (by rw [h4, (wOK_E (by decide) hsm (b01_n c_6)).1]; rfl)) rfl (Nat.le_of_ble_eq_true rfl) (fun r9 I9 L9 hq9 => ?_)
    exact g_zretQ hX dX1_readItem_13 rfl hq9.nar (by rw [itemF, if_pos (b01_n c_6)]; exact hq9)
