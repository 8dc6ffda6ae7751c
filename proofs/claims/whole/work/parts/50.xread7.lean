theorem pn1_0 : pn1 0 := ⟨rfl, by decide, by decide +kernel, by decide +kernel, .object RX2, by decide +kernel, fun v => ⟨rfl, rfl⟩⟩
theorem pn1_1 : pn1 1 := ⟨rfl, by decide, by decide +kernel, by decide +kernel, .object RX3, by decide +kernel, fun v => ⟨rfl, rfl⟩⟩
theorem ok_initR {w : WG} {I : SI} {L : SL} {o n0 x y : Nat} (hk : (gK w)[o]? = some (0, n0)) : OkM w mX1_init [.ref (gA w o), .ref x, .ref y] I L (fun r w' I' L' => r = none ∧ w' = wP (wP w o 0 (some x)) o 1 (some y) ∧ I' = I ∧ L' = L) 0 0 := by
  refine OkM.of (by decide) (Nat.le_of_ble_eq_true rfl) (fun X hX => ?_)
  refine h_aload_n hX dX1_init_0 rfl rfl ?_
  refine h_objInit hX dX1_init_1 b_ml_X1_3 (by decide) (Nat.le_of_ble_eq_true rfl) ?_
  refine h_aload_n hX dX1_init_4 rfl rfl ?_
  refine h_aload_n hX dX1_init_5 rfl rfl ?_
  refine h_putN1 hX 0 dX1_init_6 b_fl_X1_9 hk pn1_0 ⟨rfl, rfl⟩ (fun hX1 => ?_)
  refine h_aload_n hX1 dX1_init_9 rfl rfl ?_
  refine h_aload_n hX1 dX1_init_10 rfl rfl ?_
  refine h_putN1 (w := wP w o 0 (some x)) hX1 1 dX1_init_11 b_fl_X1_15 hk pn1_1 ⟨rfl, rfl⟩ (fun hX2 => ?_)
  exact h_vret hX2 dX1_init_14 rfl ⟨rfl, rfl, rfl, rfl⟩
theorem kI_X4_80 : LkI RX4 80 mX1_init 2 := ⟨⟨b_ml_X4_80, b_inm_yX1_init, b_in_X1, b_co_yX1_init⟩, by decide +kernel, rfl, by decide +kernel, by decide +kernel, by decide +kernel⟩
/-- what read leaves -/
def QRD (w : WG) (I : SI) (L : SL) (N m : Nat) : QW := fun r w' I' L' => (XL w' ∧ (gK w').length = N + 1 ∧ (∀ (k : Nat) (κ : Nat × Nat), (gK w)[k]? = some κ → (gK w')[k]? = some κ) ∧ (∀ k, k < N → gA w' k = gA w k) ∧ (∀ k j, k < N → gP w' k j = gP w k j)) ∧ match vilF (I 23) m (vx I 11) with
  | .inl p => r = some (.int (-10 - nI p)) ∧ ∀ o, o < N → (o < 11 ∨ 20 < o) → I' o = I o
  | .inr (it, V1, _, _) => r = some (.int (nI it)) ∧ (∀ o, o < N → (o < 1 ∨ 20 < o) → I' o = I o) ∧ ∀ j, j < 10 → vx I' 1 j = takeR V1 (vx I 1) j
theorem lpF_it {T : Nat → Int32} {m : Nat} : ∀ f a V n d it z, lpF T m f a V n d it = .inr z → it ≤ z.1 ∧ z.1 ≤ it + f := by
  intro f
  induction f with
  | zero => intro a V n d it z h; cases h; exact ⟨Nat.le_refl _, Nat.le_refl _⟩
  | succ f ih =>
    intro a V n d it z h
    rw [lpF] at h
    split at h
    · cases h; exact ⟨Nat.le_refl _, Nat.le_add_right _ _⟩
    · split at h
      · cases h
      · have := ih _ _ _ _ _ _ h
        omega
theorem lpF_VI {T : Nat → Int32} {m : Nat} : ∀ f a V n d it it' V' n' d', VI V n d → lpF T m f a V n d it = .inr (it', V', n', d') → VI V' n' d' := by
  intro f
  induction f with
  | zero => intro a V n d it it' V' n' d' hV h; cases h; exact hV
  | succ f ih =>
    intro a V n d it it' V' n' d' hV h
    rw [lpF] at h
    split at h
    · cases h; exact hV
    · split at h
      · cases h
      · rename_i q V1 n1 d1 hq
        exact ih _ _ _ _ _ _ _ _ _ (itemF_inr hV hq).1 h
theorem vilF_it {T : Nat → Int32} {m it n d : Nat} {V V' : VS} (h : vilF T m V = .inr (it, V', n, d)) : it ≤ m + 1 ∧ VI V' n d := by
  unfold vilF at h
  split at h
  · split at h
    · have := (lpF_it _ _ _ _ _ _ _ h).2
      exact ⟨by omega, lpF_VI _ _ _ _ _ _ _ _ _ _ (VI.em V) h⟩
    · cases h
  · cases h
set_option maxHeartbeats 4000000 in
set_option maxRecDepth 100000 in
theorem x_read {w : WG} {I : SI} {L : SL} {N m : Nat} (hw : XL w) (hN : (gK w).length = N) (hN27 : 27 ≤ N) (ht : I 22 1 = nI m) (hm : m ≤ 150) : OkM w mX4_read [.ref (gA w 0)] I L (QRD w I L N m) 1 6 := by
  refine OkM.of (by decide) (Nat.le_of_ble_eq_true rfl) (fun X hX => ?_)
  refine h_new1 0 0 hX dX4_read_0 b_cl_X4_78 (fun q hX1 => ?_)
  refine h_dup hX1 dX4_read_3 rfl ?_
  have nn : ∀ k, (gK w)[k]? ≠ none → k < N := fun k hk => by rw [← hN]; exact Nat.lt_of_not_le (fun z => hk (List.getElem?_eq_none z))
  have hK1 : ∀ (k : Nat) (κ : Nat × Nat), (gK w)[k]? = some κ → (gK (wN w (0, 0) q))[k]? = some κ := fun k κ hk => gK_wN_at hk
  have hA1 : ∀ k, k < N → gA (wN w (0, 0) q) k = gA w k := fun k hk => by rw [gA_wN, if_neg (by omega)]
  have hP1 : ∀ k j, k < N → gP (wN w (0, 0) q) k j = gP w k j := fun k j hk => by rw [gP_wN, if_neg (by omega)]
  have hw1 : XL (wN w (0, 0) q) := hw.of hK1 (fun j _ hn => hA1 j (nn j hn)) (fun k j _ hk => hP1 k j (by omega))
  have hq : gA (wN w (0, 0) q) N = q := by rw [gA_wN, if_pos hN.symm]
  have hk1 : (gK (wN w (0, 0) q))[N]? = some (0, 0) := by rw [gK_wN, List.getElem?_append_right (by omega), hN, Nat.sub_self]; rfl
  have hl1 : (gK (wN w (0, 0) q)).length = N + 1 := by rw [gK_wN, List.length_append, hN]; rfl
  have hI1 : ∀ o, o < N → nI0 w I o = I o := fun o ho => by unfold nI0; rw [rS_ne _ _ _ (by omega)]
  have hI1N : nI0 w I N = fun _ => 0 := by unfold nI0; rw [hN, rS_eq]
  rw [← hA1 0 (by omega)]
  refine h_aload_n hX1 dX4_read_4 rfl rfl ?_
  refine h_get4R hX1 3 dX4_read_5 b_fl_X4_26 hw1.k0 (by decide) hw1.p3 ?_
  refine h_aload_n hX1 dX4_read_8 rfl rfl ?_
  refine h_get4R hX1 1 dX4_read_9 b_fl_X4_16 hw1.k0 (by decide) hw1.p1 ?_
  refine h_callI (My := mX1_init) (a := q) (av := [.ref (gA (wN w (0, 0) q) 22), .ref (gA (wN w (0, 0) q) 11)]) (C1 := 0) (S1 := 0) [.ref q] 0 0 hX1 dX4_read_12 kI_X4_80 ⟨by decide, by decide⟩ rfl (by have z := ok_initR (I := nI0 w I) (L := nL0 w L) (x := gA (wN w (0, 0) q) 22) (y := gA (wN w (0, 0) q) 11) hk1; rw [hq] at z; exact z) rfl (Nat.le_of_ble_eq_true rfl) (fun r2 w2 I2 L2 hq2 hX2 => ?_)
  obtain ⟨e2, e3, e4, e5⟩ := hq2
  subst e2; subst e4; subst e5
  have hK2 : gK w2 = gK (wN w (0, 0) q) := by rw [e3]; rfl
  have hA2 : gA w2 = gA (wN w (0, 0) q) := by rw [e3]; rfl
  have hP2 : ∀ k j, k < N → gP w2 k j = gP (wN w (0, 0) q) k j := fun k j hk => by rw [e3, gP_wP, if_neg (by omega), gP_wP, if_neg (by omega)]
  have hw2 : XL w2 := hw1.of (fun k κ h => by rw [hK2]; exact h) (fun j _ _ => by rw [hA2]) (fun k j _ hk => hP2 k j (by omega))
  have hR2 : RDL w2 N := ⟨⟨by rw [hK2]; exact hk1, hN27⟩, by rw [e3, gP_wP, if_neg (by omega), gP_wP, if_pos ⟨rfl, rfl⟩]; rfl, by rw [e3, gP_wP, if_pos ⟨rfl, rfl⟩]; rfl, hw2.text, hw2.spare⟩
  have hq2 : gA w2 N = q := by rw [hA2, hq]
  have hend : XL w2 ∧ (gK w2).length = N + 1 ∧ (∀ (k : Nat) (κ : Nat × Nat), (gK w)[k]? = some κ → (gK w2)[k]? = some κ) ∧ (∀ k, k < N → gA w2 k = gA w k) ∧ (∀ k j, k < N → gP w2 k j = gP w k j) := ⟨hw2, by rw [hK2]; exact hl1, fun k κ h => by rw [hK2]; exact hK1 k κ h, fun k hk => by rw [hA2]; exact hA1 k hk, fun k j hk => (hP2 k j hk).trans (hP1 k j hk)⟩
  rw [← hA2, ← hq2]
  refine h_astore_n (x := gA w2 N) hX2 dX4_read_15 rfl (by decide) ?_
  refine h_aload_n hX2 dX4_read_16 rfl rfl ?_
  have hst : nI0 w I = rS (wV (nI0 w I) 11 (vx I 11)) N (fun _ => 0) := by
    rw [← hI1N]
    have e : wV (nI0 w I) 11 (vx I 11) = nI0 w I := by
      have e2 := wV_id (nI0 w I) 11
      funext o
      by_cases h : 11 ≤ o ∧ o < 21
      · obtain ⟨j, rfl⟩ : ∃ j, o = 11 + j := ⟨o - 11, by omega⟩
        rw [wV_at _ _ _ (by omega), hI1 _ (by omega)]; rfl
      · exact wV_out _ _ _ (by omega)
    rw [e, rS_self]
  have e23 : nI0 w I 23 = I 23 := hI1 23 (by omega)
  have e22 : nI0 w I 22 = I 22 := hI1 22 (by omega)
  have hRV := ok_readVillage (w := w2) (I := nI0 w I) (L := nL0 w L) (V0 := vx I 11) (R := fun _ => 0) hR2 (by rw [e22]; exact ht) hm nI_0.symm
  rw [← hst, e23] at hRV
  refine h_callV _ hX2 dX4_read_17 k_X4_83 ⟨by decide, by decide⟩ (by decide) hR2.k0 rfl rfl hRV rfl (Nat.le_of_ble_eq_true rfl) (fun r4 I4 L4 hq4 => ?_)
  cases hρ : vilF (I 23) m (vx I 11) with
  | inl p =>
    rw [hρ] at hq4
    obtain ⟨f1, f2, V1, R1, f3, f4⟩ := hq4
    rw [f2, f3, f1]
    refine h_istore_n hX2 dX4_read_20 rfl (by decide) ?_
    refine h_iload_n hX2 dX4_read_21 rfl rfl ?_
    refine h_iconst (v := -1) hX2 dX4_read_22 (by decide) ?_
    refine h_icmp_ne (tgt := 34) hX2 dX4_read_23 (by decide) (fun z => absurd rfl z) (fun _ => ?_)
    refine h_bipush (v := -10) hX2 dX4_read_26 (by decide) ?_
    refine h_aload_n hX2 dX4_read_28 rfl rfl ?_
    refine h_get1I hX2 3 dX4_read_29 b_fl_X4_87 hR2.k0 (by decide) ?_
    rw [rS_eq, f4]
    refine h_isub hX2 dX4_read_32 ?_
    refine h_iret hX2 dX4_read_33 rfl ⟨hend, ?_⟩
    rw [hρ]
    exact ⟨rfl, fun o ho h11 => by rw [rS_ne _ _ _ (by omega), wV_out _ _ _ (by omega)]; exact hI1 o ho⟩
  | inr z =>
    obtain ⟨it, V1, n, d⟩ := z
    rw [hρ] at hq4
    obtain ⟨f2, f1, R1, f3⟩ := hq4
    have hit := (vilF_it hρ).1
    rw [f2, f3, f1]
    refine h_istore_n hX2 dX4_read_20 rfl (by decide) ?_
    refine h_iload_n hX2 dX4_read_21 rfl rfl ?_
    refine h_iconst (v := -1) hX2 dX4_read_22 (by decide) ?_
    refine h_icmp_ne (tgt := 34) hX2 dX4_read_23 (by decide) (fun _ => ?_) (fun z => absurd z (nI_m1 (by omega)))
    refine h_aload_n hX2 dX4_read_34 rfl rfl ?_
    refine h_get4R hX2 0 dX4_read_35 b_fl_X4_10 hw2.k0 (by decide) hw2.p0 ?_
    refine h_aload_n hX2 dX4_read_38 rfl rfl ?_
    refine h_get4R hX2 1 dX4_read_39 b_fl_X4_16 hw2.k0 (by decide) hw2.p1 ?_
    refine h_callV _ hX2 dX4_read_42 k_X4_90 ⟨by decide, by decide⟩ (by decide) hw2.now.k0 rfl rfl (ok_V (ok_takeFrom_V (V := vx (rS (wV (nI0 w I) 11 V1) N R1) 1) (S := V1) hw2.now hw2.spare (fun V => by rw [wV_out _ _ _ (by omega), rS_ne _ _ _ (by omega), wV_0]) (fun V j hj => by rw [wV_out _ _ _ (by omega), rS_ne _ _ _ (by omega), wV_at _ _ _ hj]))) rfl (Nat.le_of_ble_eq_true rfl) (fun r5 I5 L5 hq5 => ?_)
    obtain ⟨g1, g2, g3⟩ := hq5
    rw [g2, g3, g1]
    refine h_iload_n hX2 dX4_read_45 rfl rfl ?_
    refine h_iret hX2 dX4_read_46 rfl ⟨hend, ?_⟩
    rw [hρ]
    refine ⟨rfl, fun o ho h1 => by rw [wV_out _ _ _ (by omega), rS_ne _ _ _ (by omega), wV_out _ _ _ (by omega)]; exact hI1 o ho, fun j hj => ?_⟩
    rw [vx_wV _ _ _ hj]
    refine takeR_at (fun _ _ => rfl) ?_ hj
    show rS (wV (nI0 w I) 11 V1) N R1 (1 + j) = I (1 + j)
    rw [rS_ne _ _ _ (by omega), wV_out _ _ _ (by omega)]; exact hI1 _ (by omega)
