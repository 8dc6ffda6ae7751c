theorem h_callSp {X : CT} {w : WG} {M : MD} {Q : QW} {kc ks : Nat} {I : SI} {L : SL} {pc : Nat} {f : LV} {My : MD} {idx n : Nat} {av st : List Value} {v : Value} (rest : List Value) (hX : Cy X w M Q kc ks) (hd : decode M.2.1 pc = .ok (.invokestatic idx, 3)) (hk : LkS M.1.cls idx My n) (hlt : My.2.2.2.2 + 1 ≤ M.2.2.2.2 ∧ My.2.2.1 ≤ 21) (hn : av.length = n) (hO : Ok w My av I L (Pr v I L)) (hst : st = av.reverse ++ rest) (hW : (rest.map fun v => v.category).sum ≤ 8) (kk : G X w M I L (pc + 3) f (v :: rest)) : G X w M I L pc f st :=
  h_callS rest hX hd hk hlt hn hO hst hW (fun r I' L' h => by obtain ⟨rfl, rfl, rfl⟩ := h; exact kk)
/-- what image leaves, the village made -/
def QIM (w : WG) (I : SI) (L : SL) (i N : Nat) : QW := fun r w' I' L' => r = some (.int 1) ∧ XL w' ∧ VL w' N ∧ (gK w').length = N + 10 ∧ (∀ (k : Nat) (κ : Nat × Nat), (gK w)[k]? = some κ → (gK w')[k]? = some κ) ∧ (∀ k, k < N → gA w' k = gA w k) ∧ (∀ k j, k < N → ¬ (k = 21 ∧ j = i) → gP w' k j = gP w k j) ∧ gP w' 21 i = some (gA w' N) ∧ (∀ o, o < N → I' o = I o ∧ L' o = L o) ∧ ∀ j, j < 10 → vx I' N j = takeR (vx I 1) (fun _ _ => 0) j
theorem takeR_at {S S' V V' : VS} {j : Nat} (hS : ∀ j, j < 10 → S j = S' j) (h : V j = V' j) : j < 10 → takeR S V j = takeR S' V' j := by
  intro hj
  rcases (show j = 0 ∨ j = 1 ∨ j = 2 ∨ j = 3 ∨ j = 4 ∨ j = 5 ∨ j = 6 ∨ j = 7 ∨ j = 8 ∨ j = 9 by omega) with rfl | rfl | rfl | rfl | rfl | rfl | rfl | rfl | rfl | rfl <;> simp only [takeR, h, hS 0 (by decide), hS 1 (by decide), hS 2 (by decide), hS 3 (by decide), hS 4 (by decide), hS 5 (by decide), hS 6 (by decide), hS 7 (by decide), hS 8 (by decide), hS 9 (by decide)]
theorem kI_X4_9 : LkI RX4 9 mX3_init 0 := ⟨⟨b_ml_X4_9, b_inm_yX3_init, b_in_X3, b_co_yX3_init⟩, by decide +kernel, rfl, by decide +kernel, by decide +kernel, by decide +kernel⟩
theorem MK.vl {w0 w : WG} {I0 I : SI} {L0 L : SL} {o : Nat} (h : MK w0 I0 L0 o [(6, 4), (6, 4), (6, 4), (6, 7), (6, 7), (6, 7), (6, 7), (6, 24), (6, 80)] [6, 7, 8, 9, 10, 11, 12, 13, 14] w I L) (hk : (gK w0)[o]? = some (2, 0)) (ho : (gK w0).length = o + 1) : VL w o := by
  obtain ⟨h1, h2, h3, h4, h5, h6⟩ := h
  have hK : ∀ i, (gK w)[o + 1 + i]? = ([(6, 4), (6, 4), (6, 4), (6, 7), (6, 7), (6, 7), (6, 7), (6, 24), (6, 80)] : List (Nat × Nat))[i]? := fun i => by
    rw [h1, List.getElem?_append_right (by omega), show o + 1 + i - (gK w0).length = i by omega]
  rw [ho] at h4
  exact ⟨by rw [h1, List.getElem?_append_left (by omega)]; exact hk, hK 0, hK 1, hK 2, hK 3, hK 4, hK 5, hK 6, hK 7, hK 8, h4 0 6 rfl, h4 1 7 rfl, h4 2 8 rfl, h4 3 9 rfl, h4 4 10 rfl, h4 5 11 rfl, h4 6 12 rfl, h4 7 13 rfl, h4 8 14 rfl⟩
set_option maxHeartbeats 4000000 in
set_option maxRecDepth 100000 in
theorem x_imageNew {w : WG} {I : SI} {L : SL} {i N : Nat} (hw : XL w) (hi : i < 2) (hp : gP w 21 i = none) (hN : (gK w).length = N) (hN27 : 27 ≤ N) : OkM w mX4_image [.ref (gA w 0), .int (nI i)] I L (QIM w I L i N) 10 159 := by
  refine OkM.of (by decide) (Nat.le_of_ble_eq_true rfl) (fun X hX => ?_)
  refine h_iload_n hX dX4_image_0 rfl rfl ?_
  refine h_iconst (v := 0) hX dX4_image_1 (by decide) ?_
  refine h_iconst (v := 1) hX dX4_image_2 (by decide) ?_
  refine h_callSp _ hX dX4_image_3 k_X4_53 ⟨by decide, by decide⟩ rfl (ok_within _ _ _) rfl (Nat.le_of_ble_eq_true rfl) ?_
  refine h_if_ne (tgt := 16) hX dX4_image_6 (by decide) (fun c_6 => ?_) (fun c_6 => ?_)
  · refine h_aload_n hX dX4_image_16 rfl rfl ?_
    refine h_get4R hX 2 dX4_image_17 b_fl_X4_19 hw.k0 (by decide) hw.p2 ?_
    refine h_iload_n hX dX4_image_20 rfl rfl ?_
    refine h_aald (r := none) hX dX4_image_21 hw.k21 (vp_in_nI hi (by decide)) (by rw [nI_clamp (by omega)]; exact hp) ?_
    refine h_astore_nN hX dX4_image_22 rfl (by decide) ?_
    refine h_aload_nN hX dX4_image_23 rfl rfl ?_
    refine h_ifnnN hX dX4_image_24 ?_
    refine h_new3 9 144 hX dX4_image_27 b_cl_X4_7 (fun q hX1 => ?_)
    refine h_dup hX1 dX4_image_30 rfl ?_
    have hq : gA (wN w (2, 0) q) N = q := by rw [gA_wN, if_pos hN.symm]
    have hk1 : (gK (wN w (2, 0) q))[N]? = some (2, 0) := by rw [gK_wN, List.getElem?_append_right (by omega), hN, Nat.sub_self]; rfl
    have hl1 : (gK (wN w (2, 0) q)).length = N + 1 := by rw [gK_wN, List.length_append, hN]; rfl
    refine h_callI (My := mX3_init) (a := q) (av := []) (C1 := 9) (S1 := 144) [.ref q] 0 0 hX1 dX4_image_31 kI_X4_9 ⟨by decide, by decide⟩ rfl (by have z := ok_initV (I0 := nI0 w I) (L0 := nL0 w L) hk1; rw [hq] at z; exact z) rfl (Nat.le_of_ble_eq_true rfl) (fun r2 w2 I2 L2 hq2 hX2 => ?_)
    obtain ⟨e2, hM⟩ := hq2
    subst e2
    have hV2 := hM.vl hk1 hl1
    have hl2 : (gK w2).length = N + 10 := by rw [hM.1, List.length_append, hl1]; rfl
    have hK2 : ∀ (k : Nat) (κ : Nat × Nat), (gK w)[k]? = some κ → (gK w2)[k]? = some κ := fun k κ hk => by
      have z := gK_wN_at (κ2 := (2, 0)) (q := q) hk
      rw [hM.1, List.getElem?_append_left (List.getElem?_eq_some_iff.mp z).1]; exact z
    have hA2 : ∀ k, k < N → gA w2 k = gA w k := fun k hk => by rw [hM.2.1 k (by omega), gA_wN, if_neg (by omega)]
    have hP2 : ∀ k j, k < N → gP w2 k j = gP w k j := fun k j hk => by rw [hM.2.2.1 k j (by omega) (fun z => absurd z (by omega)), gP_wN, if_neg (by omega)]
    have hI2 : ∀ o, o < N → I2 o = I o ∧ L2 o = L o := fun o ho => by
      obtain ⟨z1, z2⟩ := hM.2.2.2.2.1 o (by omega)
      rw [z1, z2]; unfold nI0 nL0; rw [rS_ne _ _ _ (by omega), rS_ne _ _ _ (by omega)]; exact ⟨rfl, rfl⟩
    have hZ2 : ∀ j, j < 10 → I2 (N + j) = fun _ => 0 := fun j hj => by
      rcases Nat.eq_zero_or_pos j with rfl | hj0
      · rw [(hM.2.2.2.2.1 (N + 0) (by omega)).1]; unfold nI0; rw [hN, Nat.add_zero, rS_eq]
      · have z := hM.2.2.2.2.2 (j - 1) (show j - 1 < 9 by omega)
        rw [hl1, show N + 1 + (j - 1) = N + j by omega] at z; exact z
    have hq2 : gA w2 N = q := by rw [hM.2.1 N (by omega), hq]
    have nn : ∀ k, (gK w)[k]? ≠ none → k < N := fun k hk => by rw [← hN]; exact Nat.lt_of_not_le (fun z => hk (List.getElem?_eq_none z))
    have hw2 : XL w2 := hw.of hK2 (fun j _ hn => hA2 j (nn j hn)) (fun k j _ hk => hP2 k j (by omega))
    refine h_astore_n (x := q) hX2 dX4_image_34 rfl (by decide) ?_
    rw [← hA2 0 (by omega), ← hq2]
    refine h_aload_n hX2 dX4_image_35 rfl rfl ?_
    refine h_get4R hX2 2 dX4_image_36 b_fl_X4_19 hw2.k0 (by decide) hw2.p2 ?_
    refine h_iload_n hX2 dX4_image_39 rfl rfl ?_
    refine h_aload_n hX2 dX4_image_40 rfl rfl ?_
    refine h_aast hX2 dX4_image_41 hw2.k21 hV2.k0 (vp_in_nI hi (by decide)) (fun hX3 => ?_)
    rw [nI_clamp (by omega)] at hX3
    rw [nI_clamp (by omega)]
    have hV3 : VL (wP w2 21 i (some (gA w2 N))) N := hV2.of (fun _ _ h => h) (fun _ _ => rfl) (fun j => by rw [gP_wP, if_neg (by omega)])
    have hw3 : XL (wP w2 21 i (some (gA w2 N))) := hw2.of (fun _ _ h => h) (fun _ _ _ => rfl) (fun k j hk _ => by rw [gP_wP, if_neg (fun z => hk z.1)])
    have hv3 : gP (wP w2 21 i (some (gA w2 N))) 21 i = some (gA (wP w2 21 i (some (gA w2 N))) N) := by rw [gP_wP, if_pos ⟨rfl, rfl⟩]; rfl
    have hP3 : ∀ k j, k < N → ¬ (k = 21 ∧ j = i) → gP (wP w2 21 i (some (gA w2 N))) k j = gP w k j := fun k j hk hj => by rw [gP_wP, if_neg hj]; exact hP2 k j hk
    generalize hw9 : wP w2 21 i (some (gA w2 N)) = w3 at hX3 hV3 hw3 hv3 hP3
    have hA3 : gA w2 = gA w3 := by rw [← hw9]; rfl
    have hK3 : gK w2 = gK w3 := by rw [← hw9]; rfl
    rw [hA3]
    rw [hA3] at hA2
    rw [hK3] at hK2 hl2
    refine h_aload_n hX3 dX4_image_42 rfl rfl ?_
    refine h_aload_n hX3 dX4_image_43 rfl rfl ?_
    refine h_get4R hX3 0 dX4_image_44 b_fl_X4_10 hw3.k0 (by decide) hw3.p0 ?_
    refine h_callV _ hX3 dX4_image_47 k_X4_90 ⟨by decide, by decide⟩ (by decide) hV3.k0 rfl rfl (ok_V (ok_takeFrom_V (V := vx I2 N) (S := vx I2 1) hV3 hw3.now (fun V => wV_out _ _ _ (by omega)) (fun V j hj => wV_out _ _ _ (by omega)))) rfl (Nat.le_of_ble_eq_true rfl) (fun r4 I4 L4 hq4 => ?_)
    obtain ⟨e4, e5, e6⟩ := hq4
    subst e4; rw [e5, e6]
    refine h_iconst (v := 1) hX3 dX4_image_50 (by decide) ?_
    refine h_iret hX3 dX4_image_51 rfl ⟨rfl, hw3, hV3, hl2, hK2, hA2, hP3, hv3, fun o ho => ⟨by rw [wV_out _ _ _ (by omega)]; exact (hI2 o ho).1, (hI2 o ho).2⟩, fun j hj => ?_⟩
    rw [vx_wV _ _ _ hj]
    exact takeR_at (fun j hj => (hI2 (1 + j) (by omega)).1) (hZ2 j hj) hj
  · exact absurd ⟨nI_pos' (by omega), (nI_leI (b := 1) (by omega) (by decide)).mpr (by omega)⟩ (b01_0 c_6)
