set_option maxHeartbeats 4000000 in
set_option maxRecDepth 100000 in
theorem x_imageOld {w : WG} {I : SI} {L : SL} {i u : Nat} (hw : XL w) (hi : i < 2) (hp : gP w 21 i = some (gA w u)) (hu : VL w u) (hu27 : 27 ≤ u) : Ok w mX4_image [.ref (gA w 0), .int (nI i)] I L (QX (.int 1, wV I u (takeR (vx I 1) (vx I u))) L) := by
  refine Ok.of (by decide) (Nat.le_of_ble_eq_true rfl) (fun X hX => ?_)
  refine g_iload_n hX dX4_image_0 rfl rfl ?_
  refine g_iconst (v := 0) hX dX4_image_1 (by decide) ?_
  refine g_iconst (v := 1) hX dX4_image_2 (by decide) ?_
  refine g_callSp _ hX dX4_image_3 k_X4_53 ⟨by decide, by decide⟩ rfl (ok_within _ _ _) rfl (Nat.le_of_ble_eq_true rfl) ?_
  refine g_if_ne (tgt := 16) hX dX4_image_6 (by decide) (fun c_6 => ?_) (fun c_6 => ?_)
  · refine g_aload_n hX dX4_image_16 rfl rfl ?_
    refine g_get4R hX 2 dX4_image_17 b_fl_X4_19 hw.k0 (by decide) hw.p2 ?_
    refine g_iload_n hX dX4_image_20 rfl rfl ?_
    refine g_aald (r := some (gA w u)) hX dX4_image_21 hw.k21 (vp_in_nI hi (by decide)) (by rw [nI_clamp (by omega)]; exact hp) ?_
    refine g_astore_n (x := gA w u) hX dX4_image_22 rfl (by decide) ?_
    refine g_aload_n hX dX4_image_23 rfl rfl ?_
    refine g_ifnn (tgt := 42) hX dX4_image_24 (by decide) ?_
    refine g_aload_n hX dX4_image_42 rfl rfl ?_
    refine g_aload_n hX dX4_image_43 rfl rfl ?_
    refine g_get4R hX 0 dX4_image_44 b_fl_X4_10 hw.k0 (by decide) hw.p0 ?_
    refine g_callV _ hX dX4_image_47 k_X4_90 ⟨by decide, by decide⟩ (by decide) hu.k0 rfl rfl (ok_V (ok_takeFrom_V (V := vx I u) (S := vx I 1) hu hw.now (fun V => wV_out _ _ _ (by omega)) (fun V j hj => wV_out _ _ _ (by omega)))) rfl (Nat.le_of_ble_eq_true rfl) (fun r1 I1 L1 hq => ?_)
    obtain ⟨rfl, rfl, rfl⟩ := hq
    refine g_iconst (v := 1) hX dX4_image_50 (by decide) ?_
    exact g_iret hX dX4_image_51 rfl (⟨rfl, rfl, SmX.rf⟩)
  · exact absurd ⟨nI_pos' (by omega), (nI_leI (b := 1) (by omega) (by decide)).mpr (by omega)⟩ (b01_0 c_6)
