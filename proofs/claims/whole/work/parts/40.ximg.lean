set_option maxHeartbeats 4000000 in
set_option maxRecDepth 100000 in
theorem x_imageOld {w : WG} {I : SI} {L : SL} {i u : Nat} (hw : XL w) (hi : i < 2) (hp : gP w 21 i = some (gA w u)) (hu : VL w u) (hu27 : 27 ≤ u) : Ok w mX4_image [.ref (gA w 0), .int (nI i)] I L (QX (.int 1, wV I u (takeR (vx I 1) (vx I u))) L) := by
  refine Ok.of (by decide) (Nat.le_of_ble_eq_true rfl) (fun X hX => ?_)
  refine g_iload_n hX dX4_image_0 rfl rfl ?_
  refine g_iconst (v := 0) hX dX4_image_1 (by decide) ?_
  refine g_iconst (v := 1) hX dX4_image_2 (by decide) ?_
  refine g_callSp _ hX dX4_image_3 k_X4_53 ⟨by decide, by decide⟩ rfl (ok_within _ _ _) rfl (Nat.le_of_ble_eq_true rfl) ?_
  refine g_if_ne (tgt := 16) hX dX4_image_6 (by decide) (fun c_6 => ?_) (fun c_6 => ?_)
  · refine g_aload_n hX dX4_image_16 rfl rfl ?_
    refine g_get4R hX 2 dX4_image_17 b_fl_X4_19 hw.k0 (by decide) hw.p2 ?_
    refine g_iload_n hX dX4_image_20 rfl rfl ?_
    refine g_aald (r := some (gA w u)) hX dX4_image_21 hw.k21 (vp_in_nI hi (by decide)) (by rw [nI_clamp (by omega)]; exact hp) ?_
    refine g_astore_n (x := gA w u) hX dX4_image_22 rfl (by decide) ?_
    refine g_aload_n hX dX4_image_23 rfl rfl ?_
    refine g_ifnn (tgt := 42) hX dX4_image_24 (by decide) ?_
    refine g_aload_n hX dX4_image_42 rfl rfl ?_
    refine g_aload_n hX dX4_image_43 rfl rfl ?_
    refine g_get4R hX 0 dX4_image_44 b_fl_X4_10 hw.k0 (by decide) hw.p0 ?_
    refine g_callV _ hX dX4_image_47 k_X4_90 ⟨by decide, by decide⟩ (by decide) hu.k0 rfl rfl (ok_V (ok_takeFrom_V (V := vx I u) (S := vx I 1) hu hw.now (fun V => wV_out _ _ _ (by omega)) (fun V j hj => wV_out _ _ _ (by omega)))) rfl (Nat.le_of_ble_eq_true rfl) (fun r1 I1 L1 hq => ?_)
    obtain ⟨rfl, rfl, rfl⟩ := hq
    refine g_iconst (v := 1) hX dX4_image_50 (by decide) ?_
    exact g_iret hX dX4_image_51 rfl (⟨rfl, rfl, SmX.rf⟩)
  · exact absurd ⟨nI_pos' (by omega), (nI_leI (b := 1) (by omega) (by decide)).mpr (by omega)⟩ (b01_0 c_6)
theorem n_image {w : WG} {I : SI} {L : SL} {XI XI' : SI} {n d r q p m i v : Nat} (hm : ML w) (h : RR XI I L n d r q p m) (hi : i < 2) (h27 : ∀ o, o < 27 → XI' o = XI o) (hv : X27 XI' 1000 i = nI v) (hv5 : v < 900) (hV : VA (vx XI 1) (vx (X27 XI') v))
    (ho : ∀ j, j < 2 → j ≠ i → X27 XI' 1000 j = X27 XI 1000 j ∧ ∀ u, X27 XI 1000 j = nI u → u < 900 → VA (vx (X27 XI) u) (vx (X27 XI') u)) : Ok w mX5_image [.ref (gA w 0), .int (nI i)] I L (QM (.int 1, XI')) := by
  refine (m_image hm hi).mono (fun r1 I1 L1 hq => ?_)
  obtain ⟨e1, e2, R, e3, hR⟩ := hq
  subst e2; subst e3
  exact ⟨e1, n, d, r, q, p, m, h.image hi hR h27 hv hv5 hV ho⟩
theorem vx27 {I : SI} {v j : Nat} : vx (X27 I) v j = I (27 + v + j) := by
  unfold vx X27; rw [Nat.add_assoc]
theorem VA.of {V V' : VS} (h : ∀ j, j < 10 → V' j = V j) : VA V V' := by
  refine ⟨fun k _ => ?_, fun c _ => ⟨?_, ?_, ?_⟩, fun k _ => ⟨?_, ?_, ?_, ?_⟩, fun k _ => ?_, fun k _ => ?_⟩ <;> rw [h _ (by decide)]
theorem VA.tr {V V1 V2 : VS} (h : VA V V1) (h2 : ∀ j, j < 10 → V2 j = V1 j) : VA V V2 := by
  obtain ⟨a0, a1, a4, a8, a9⟩ := h
  refine ⟨?_, ?_, ?_, ?_, ?_⟩ <;> simp only [h2 0 (by decide), h2 1 (by decide), h2 2 (by decide), h2 3 (by decide), h2 4 (by decide), h2 5 (by decide), h2 6 (by decide), h2 7 (by decide), h2 8 (by decide), h2 9 (by decide)] <;> assumption
theorem n_imageOld {w : WG} {I : SI} {L : SL} {XI : SI} {n d r q p m i v : Nat} (hm : ML w) (h : RR XI I L n d r q p m) (hi : i < 2) (hv : X27 XI 1000 i = nI v) (hv5 : v < 900) (hd : ∀ j, j < 2 → j ≠ i → ∀ u, X27 XI 1000 j = nI u → u < 900 → u + 10 ≤ v ∨ v + 10 ≤ u) : Ok w mX5_image [.ref (gA w 0), .int (nI i)] I L (QM (.int 1, wV XI (27 + v) (takeR (vx XI 1) (vx XI (27 + v))))) := by
  have e9 : X27 (wV XI (27 + v) (takeR (vx XI 1) (vx XI (27 + v)))) 1000 = X27 XI 1000 := by
    unfold X27; exact wV_out _ _ _ (by omega)
  refine n_image hm h hi (fun o ho => wV_out _ _ _ (by omega)) (by rw [e9]; exact hv) hv5 ?_ (fun j hj hji => ⟨by rw [e9], fun u hu hu5 => ?_⟩)
  · refine VA.tr (take_VA (V := vx XI (27 + v))) (fun j hj => ?_)
    rw [vx27]; exact wV_at _ _ _ hj
  · refine VA.of (fun k hk => ?_)
    rw [vx27, vx27]
    have := hd j hj hji u hu hu5
    exact wV_out _ _ _ (by omega)
