theorem g_aload_nN {X : CT} {w : WG} {M : MD} {Q : QT} {I : SI} {L : SL} {pc : Nat} {f : LV} {k : Fin 4} {i : Nat} {st : List Value} (hX : Cx X w M Q) (hd : decode M.2.1 pc = .ok (.aload_n k, 1)) (hi : (k : Nat) = i) (hf : f i = some .null) (kk : G X w M I L (pc + 1) f (.null :: st)) : G X w M I L pc f st := by
  obtain ⟨p, l, e, R, s, m, args, below, meth, c, A, cells, slots, Qf⟩ := X
  obtain ⟨hx, hb, hml, hr, hlk, ho, hts, hK, hSW, hA, hR, hc, hs, hq⟩ := hX
  intro H locs ls hP hD hS hl
  exact lv_aload_nN hx hb hd hi (hl.2.2 _ _ hf) (kk H locs ls hP hD hS hl)
theorem g_astore_nN {X : CT} {w : WG} {M : MD} {Q : QT} {I : SI} {L : SL} {pc : Nat} {f : LV} {k : Fin 4} {i : Nat} {st : List Value} (hX : Cx X w M Q) (hd : decode M.2.1 pc = .ok (.astore_n k, 1)) (hi : (k : Nat) = i) (hn : i < M.2.2.1) (kk : G X w M I L (pc + 1) (st1 f i .null) st) : G X w M I L pc f (.null :: st) := by
  obtain ⟨p, l, e, R, s, m, args, below, meth, c, A, cells, slots, Qf⟩ := X
  obtain ⟨hx, hb, hml, hr, hlk, ho, hts, hK, hSW, hA, hR, hc, hs, hq⟩ := hX
  intro H locs ls hP hD hS hl
  exact lv_astore_nN hx hb hd hi hl.to hn rfl (fun ls' h' => kk H locs ls' hP hD hS (hl.s1 h'))
theorem h_aload_nN {X : CT} {w : WG} {M : MD} {Q : QW} {kc ks : Nat} {I : SI} {L : SL} {pc : Nat} {f : LV} {k : Fin 4} {i : Nat} {st : List Value} (hX : Cy X w M Q kc ks) (hd : decode M.2.1 pc = .ok (.aload_n k, 1)) (hi : (k : Nat) = i) (hf : f i = some .null) (kk : G X w M I L (pc + 1) f (.null :: st)) : G X w M I L pc f st := by
  obtain ⟨p, l, e, R, s, m, args, below, meth, c, A, cells, slots, Qf⟩ := X
  obtain ⟨hx, hb, hml, hr, hlk, ho, hts, hK, hSW, hA, hR, hc, hs, hq⟩ := hX
  intro H locs ls hP hD hS hl
  exact lv_aload_nN hx hb hd hi (hl.2.2 _ _ hf) (kk H locs ls hP hD hS hl)
theorem h_astore_nN {X : CT} {w : WG} {M : MD} {Q : QW} {kc ks : Nat} {I : SI} {L : SL} {pc : Nat} {f : LV} {k : Fin 4} {i : Nat} {st : List Value} (hX : Cy X w M Q kc ks) (hd : decode M.2.1 pc = .ok (.astore_n k, 1)) (hi : (k : Nat) = i) (hn : i < M.2.2.1) (kk : G X w M I L (pc + 1) (st1 f i .null) st) : G X w M I L pc f (.null :: st) := by
  obtain ⟨p, l, e, R, s, m, args, below, meth, c, A, cells, slots, Qf⟩ := X
  obtain ⟨hx, hb, hml, hr, hlk, ho, hts, hK, hSW, hA, hR, hc, hs, hq⟩ := hX
  intro H locs ls hP hD hS hl
  exact lv_astore_nN hx hb hd hi hl.to hn rfl (fun ls' h' => kk H locs ls' hP hD hS (hl.s1 h'))
set_option maxHeartbeats 4000000 in
set_option maxRecDepth 100000 in
theorem x_from {w : WG} {I : SI} {L : SL} {i : Nat} (hw : XL w) (hi : i < 2) {u : Nat} (hp : gP w 21 i = some (gA w u)) (hu : VL w u) (hu27 : 27 ≤ u) : Ok w mX4_from [.ref (gA w 0), .int (nI i)] I L (QX ((.int 1, wV I 1 (takeR (vx I u) (vx I 1)))) L) := by
  refine Ok.of (by decide) (Nat.le_of_ble_eq_true rfl) (fun X hX => ?_)
  refine g_iload_n hX dX4_from_0 rfl rfl ?_
  refine g_iconst (v := 0) hX dX4_from_1 (by decide) ?_
  refine g_iconst (v := 1) hX dX4_from_2 (by decide) ?_
  refine g_callSp _ hX dX4_from_3 k_X4_53 ⟨by decide, by decide⟩ rfl (ok_within _ _ _) rfl (Nat.le_of_ble_eq_true rfl) ?_
  refine g_if_ne (tgt := 16) hX dX4_from_6 (by decide) (fun c_6 => ?_) (fun c_6 => ?_)
  · refine g_aload_n hX dX4_from_16 rfl rfl ?_
    refine g_get4R hX 2 dX4_from_17 b_fl_X4_19 hw.k0 (by decide) hw.p2 ?_
    refine g_iload_n hX dX4_from_20 rfl rfl ?_
    refine g_aald (r := some (gA w u)) hX dX4_from_21 hw.k21 (vp_in_nI hi (by decide)) (by rw [nI_clamp (by omega)]; exact hp) ?_
    refine g_astore_n (x := gA w u) hX dX4_from_22 rfl (by decide) ?_
    refine g_aload_n hX dX4_from_23 rfl rfl ?_
    refine g_ifnn (tgt := 34) hX dX4_from_24 (by decide) ?_
    refine g_aload_n hX dX4_from_34 rfl rfl ?_
    refine g_get4R hX 0 dX4_from_35 b_fl_X4_10 hw.k0 (by decide) hw.p0 ?_
    refine g_aload_n hX dX4_from_38 rfl rfl ?_
    refine g_callV _ hX dX4_from_39 k_X4_90 ⟨by decide, by decide⟩ (by decide) hw.now.k0 rfl rfl (ok_V (ok_takeFrom_V (S := vx I u) hw.now hu (fun V => wV_out _ _ _ (by omega)) (fun V j hj => wV_out _ _ _ (by omega)))) rfl (Nat.le_of_ble_eq_true rfl) (fun r1 I1 L1 hq => ?_)
    obtain ⟨rfl, rfl, rfl⟩ := hq
    refine g_iconst (v := 1) hX dX4_from_42 (by decide) ?_
    exact g_iret hX dX4_from_43 rfl (⟨rfl, rfl, SmX.rf⟩)
  · exact absurd ⟨nI_pos' (by omega), (nI_leI (b := 1) (by omega) (by decide)).mpr (by omega)⟩ (b01_0 c_6)
set_option maxHeartbeats 4000000 in
set_option maxRecDepth 100000 in
theorem x_fromNo {w : WG} {I : SI} {L : SL} {i : Nat} (hw : XL w) (hi : i < 2) (hp : gP w 21 i = none) : Ok w mX4_from [.ref (gA w 0), .int (nI i)] I L (QX ((.int (-3), rfX I 7)) L) := by
  refine Ok.of (by decide) (Nat.le_of_ble_eq_true rfl) (fun X hX => ?_)
  refine g_iload_n hX dX4_from_0 rfl rfl ?_
  refine g_iconst (v := 0) hX dX4_from_1 (by decide) ?_
  refine g_iconst (v := 1) hX dX4_from_2 (by decide) ?_
  refine g_callSp _ hX dX4_from_3 k_X4_53 ⟨by decide, by decide⟩ rfl (ok_within _ _ _) rfl (Nat.le_of_ble_eq_true rfl) ?_
  refine g_if_ne (tgt := 16) hX dX4_from_6 (by decide) (fun c_6 => ?_) (fun c_6 => ?_)
  · refine g_aload_n hX dX4_from_16 rfl rfl ?_
    refine g_get4R hX 2 dX4_from_17 b_fl_X4_19 hw.k0 (by decide) hw.p2 ?_
    refine g_iload_n hX dX4_from_20 rfl rfl ?_
    refine g_aald (r := none) hX dX4_from_21 hw.k21 (vp_in_nI hi (by decide)) (by rw [nI_clamp (by omega)]; exact hp) ?_
    refine g_astore_nN hX dX4_from_22 rfl (by decide) ?_
    refine g_aload_nN hX dX4_from_23 rfl rfl ?_
    refine g_ifnnN hX dX4_from_24 ?_
    refine g_aload_n hX dX4_from_27 rfl rfl ?_
    refine g_bipush (v := -3) hX dX4_from_28 (by decide) ?_
    refine g_callV _ hX dX4_from_30 k_X4_57 ⟨by decide, by decide⟩ (by decide) hw.k0 rfl rfl (ok_refuse_no hw) rfl (Nat.le_of_ble_eq_true rfl) (fun r1 I1 L1 hq => ?_)
    obtain ⟨rfl, rfl, rfl⟩ := hq
    exact g_iret hX dX4_from_33 rfl (⟨rfl, rfl, SmX.rf⟩)
  · exact absurd ⟨nI_pos' (by omega), (nI_leI (b := 1) (by omega) (by decide)).mpr (by omega)⟩ (b01_0 c_6)
set_option maxHeartbeats 4000000 in
set_option maxRecDepth 100000 in
theorem x_fromBad {w : WG} {I : SI} {L : SL} {a : Int32} (hw : XL w) (hb : ¬ (0 ≤ a ∧ a ≤ 1)) : Ok w mX4_from [.ref (gA w 0), .int a] I L (QX (.int (-2), rfX I 6) L) := by
  refine Ok.of (by decide) (Nat.le_of_ble_eq_true rfl) (fun X hX => ?_)
  refine g_iload_n hX dX4_from_0 rfl rfl ?_
  refine g_iconst (v := 0) hX dX4_from_1 (by decide) ?_
  refine g_iconst (v := 1) hX dX4_from_2 (by decide) ?_
  refine g_callSp _ hX dX4_from_3 k_X4_53 ⟨by decide, by decide⟩ rfl (ok_within _ _ _) rfl (Nat.le_of_ble_eq_true rfl) ?_
  refine g_if_ne (tgt := 16) hX dX4_from_6 (by decide) (fun c_6 => ?_) (fun c_6 => ?_)
  · exact absurd (b01_n c_6) hb
  · refine g_aload_n hX dX4_from_9 rfl rfl ?_
    refine g_bipush (v := -2) hX dX4_from_10 (by decide) ?_
    refine g_callV _ hX dX4_from_12 k_X4_57 ⟨by decide, by decide⟩ (by decide) hw.k0 rfl rfl (ok_refuse_bad hw) rfl (Nat.le_of_ble_eq_true rfl) (fun r1 I1 L1 hq => ?_)
    obtain ⟨rfl, rfl, rfl⟩ := hq
    exact g_iret hX dX4_from_15 rfl (⟨rfl, rfl, SmX.rf⟩)
set_option maxHeartbeats 4000000 in
set_option maxRecDepth 100000 in
theorem x_imageBad {w : WG} {I : SI} {L : SL} {a : Int32} (hw : XL w) (hb : ¬ (0 ≤ a ∧ a ≤ 1)) : Ok w mX4_image [.ref (gA w 0), .int a] I L (QX (.int (-2), rfX I 6) L) := by
  refine Ok.of (by decide) (Nat.le_of_ble_eq_true rfl) (fun X hX => ?_)
  refine g_iload_n hX dX4_image_0 rfl rfl ?_
  refine g_iconst (v := 0) hX dX4_image_1 (by decide) ?_
  refine g_iconst (v := 1) hX dX4_image_2 (by decide) ?_
  refine g_callSp _ hX dX4_image_3 k_X4_53 ⟨by decide, by decide⟩ rfl (ok_within _ _ _) rfl (Nat.le_of_ble_eq_true rfl) ?_
  refine g_if_ne (tgt := 16) hX dX4_image_6 (by decide) (fun c_6 => ?_) (fun c_6 => ?_)
  · exact absurd (b01_n c_6) hb
  · refine g_aload_n hX dX4_image_9 rfl rfl ?_
    refine g_bipush (v := -2) hX dX4_image_10 (by decide) ?_
    refine g_callV _ hX dX4_image_12 k_X4_57 ⟨by decide, by decide⟩ (by decide) hw.k0 rfl rfl (ok_refuse_bad hw) rfl (Nat.le_of_ble_eq_true rfl) (fun r1 I1 L1 hq => ?_)
    obtain ⟨rfl, rfl, rfl⟩ := hq
    exact g_iret hX dX4_image_15 rfl (⟨rfl, rfl, SmX.rf⟩)
set_option maxHeartbeats 4000000 in
set_option maxRecDepth 100000 in
theorem n_fromBad {w : WG} {I : SI} {L : SL} {XI : SI} {n d r q p m : Nat} (hm : ML w) (h : RR XI I L n d r q p m) {a : Int32} (hb : ¬ (0 ≤ a ∧ a ≤ 1)) : Ok w mX5_from [.ref (gA w 0), .int a] I L (QM ((.int (-2), rfX XI 6))) := by
  obtain ⟨hRX, hRJ, hRF⟩ := id h
  obtain ⟨⟨xn, xn4, xd, xd7, xr, xr9⟩, ⟨xq, xq6⟩, ⟨xp, xp8⟩, ⟨xm, xm150⟩, xA, xH, xD, xP, xT⟩ := id hRX
  obtain ⟨⟨jn, -, jd, -, jB, jK⟩, jr, ja, jq, jp, jm, jH, jN, jP, jT⟩ := RJ_v hRJ
  have hRV : RV (vx XI 1) I n d := hRJ.1
  have hMS := h.ms
  refine Ok.of (by decide) (Nat.le_of_ble_eq_true rfl) (fun X hX => ?_)
  refine g_iload_n hX dX5_from_0 rfl rfl ?_
  refine g_iconst (v := 0) hX dX5_from_1 (by decide) ?_
  refine g_iconst (v := 1) hX dX5_from_2 (by decide) ?_
  refine g_callSp _ hX dX5_from_3 k_X5_93 ⟨by decide, by decide⟩ rfl (ok_in _ _ _) rfl (Nat.le_of_ble_eq_true rfl) ?_
  refine g_if_ne (tgt := 14) hX dX5_from_6 (by decide) (fun c_6 => ?_) (fun c_6 => ?_)
  · exact absurd (b01_n c_6) hb
  · refine g_aload_n hX dX5_from_9 rfl rfl ?_
    refine g_callV _ hX dX5_from_10 k_X5_97 ⟨by decide, by decide⟩ (by decide) hm.k0 rfl rfl (m_bad hm) rfl (Nat.le_of_ble_eq_true rfl) (fun r1 I1 L1 hq => ?_)
    obtain ⟨rfl, rfl, rfl⟩ := hq
    exact g_iret hX dX5_from_13 rfl (⟨rfl, n, d, r, q, p, m, h.bad⟩)
set_option maxHeartbeats 4000000 in
set_option maxRecDepth 100000 in
theorem n_imageBad {w : WG} {I : SI} {L : SL} {XI : SI} {n d r q p m : Nat} (hm : ML w) (h : RR XI I L n d r q p m) {a : Int32} (hb : ¬ (0 ≤ a ∧ a ≤ 1)) : Ok w mX5_image [.ref (gA w 0), .int a] I L (QM ((.int (-2), rfX XI 6))) := by
  obtain ⟨hRX, hRJ, hRF⟩ := id h
  obtain ⟨⟨xn, xn4, xd, xd7, xr, xr9⟩, ⟨xq, xq6⟩, ⟨xp, xp8⟩, ⟨xm, xm150⟩, xA, xH, xD, xP, xT⟩ := id hRX
  obtain ⟨⟨jn, -, jd, -, jB, jK⟩, jr, ja, jq, jp, jm, jH, jN, jP, jT⟩ := RJ_v hRJ
  have hRV : RV (vx XI 1) I n d := hRJ.1
  have hMS := h.ms
  refine Ok.of (by decide) (Nat.le_of_ble_eq_true rfl) (fun X hX => ?_)
  refine g_iload_n hX dX5_image_0 rfl rfl ?_
  refine g_iconst (v := 0) hX dX5_image_1 (by decide) ?_
  refine g_iconst (v := 1) hX dX5_image_2 (by decide) ?_
  refine g_callSp _ hX dX5_image_3 k_X5_93 ⟨by decide, by decide⟩ rfl (ok_in _ _ _) rfl (Nat.le_of_ble_eq_true rfl) ?_
  refine g_if_ne (tgt := 14) hX dX5_image_6 (by decide) (fun c_6 => ?_) (fun c_6 => ?_)
  · exact absurd (b01_n c_6) hb
  · refine g_aload_n hX dX5_image_9 rfl rfl ?_
    refine g_callV _ hX dX5_image_10 k_X5_97 ⟨by decide, by decide⟩ (by decide) hm.k0 rfl rfl (m_bad hm) rfl (Nat.le_of_ble_eq_true rfl) (fun r1 I1 L1 hq => ?_)
    obtain ⟨rfl, rfl, rfl⟩ := hq
    exact g_iret hX dX5_image_13 rfl (⟨rfl, n, d, r, q, p, m, h.bad⟩)
set_option maxHeartbeats 4000000 in
set_option maxRecDepth 100000 in
theorem n_fromNo {w : WG} {I : SI} {L : SL} {XI : SI} {n d r q p m : Nat} (hm : ML w) (h : RR XI I L n d r q p m) {i : Nat} (hi : i < 2) (hk0 : I 19 i = 0) : Ok w mX5_from [.ref (gA w 0), .int (nI i)] I L (QM ((.int (-3), rfX XI 7))) := by
  obtain ⟨hRX, hRJ, hRF⟩ := id h
  obtain ⟨⟨xn, xn4, xd, xd7, xr, xr9⟩, ⟨xq, xq6⟩, ⟨xp, xp8⟩, ⟨xm, xm150⟩, xA, xH, xD, xP, xT⟩ := id hRX
  obtain ⟨⟨jn, -, jd, -, jB, jK⟩, jr, ja, jq, jp, jm, jH, jN, jP, jT⟩ := RJ_v hRJ
  have hRV : RV (vx XI 1) I n d := hRJ.1
  have hMS := h.ms
  refine Ok.of (by decide) (Nat.le_of_ble_eq_true rfl) (fun X hX => ?_)
  refine g_iload_n hX dX5_from_0 rfl rfl ?_
  refine g_iconst (v := 0) hX dX5_from_1 (by decide) ?_
  refine g_iconst (v := 1) hX dX5_from_2 (by decide) ?_
  refine g_callSp _ hX dX5_from_3 k_X5_93 ⟨by decide, by decide⟩ rfl (ok_in _ _ _) rfl (Nat.le_of_ble_eq_true rfl) ?_
  refine g_if_ne (tgt := 14) hX dX5_from_6 (by decide) (fun c_6 => ?_) (fun c_6 => ?_)
  · refine g_aload_n hX dX5_from_14 rfl rfl ?_
    refine g_get5R hX 32 dX5_from_15 b_fl_X5_68 hm.k0 (by decide) hm.q19 ?_
    refine g_iload_n hX dX5_from_18 rfl rfl ?_
    refine g_ialdN hX dX5_from_19 hm.k19 (⟨rfl, by omega⟩) (by decide) ?_
    rw [hk0]
    refine g_if_ne (tgt := 28) hX dX5_from_20 (by decide) (fun c_20 => ?_) (fun c_20 => ?_)
    · exact absurd rfl c_20
    · refine g_aload_n hX dX5_from_23 rfl rfl ?_
      refine g_callV _ hX dX5_from_24 k_X5_212 ⟨by decide, by decide⟩ (by decide) hm.k0 rfl rfl (m_no hm) rfl (Nat.le_of_ble_eq_true rfl) (fun r1 I1 L1 hq => ?_)
      obtain ⟨rfl, rfl, rfl⟩ := hq
      exact g_iret hX dX5_from_27 rfl (⟨rfl, n, d, r, q, p, m, h.no⟩)
  · exact absurd ⟨nI_pos' (by omega), (nI_leI (b := 1) (by omega) (by decide)).mpr (by omega)⟩ (b01_0 c_6)
theorem n_from {w : WG} {I : SI} {L : SL} {XI : SI} {n d r q p m i v : Nat} (hm : ML w) (h : RR XI I L n d r q p m) (hi : i < 2) (hv : X27 XI 1000 i = nI v) (hv5 : v < 900) : Ok w mX5_from [.ref (gA w 0), .int (nI i)] I L (QM (.int 1, wV XI 1 (takeR (vx (X27 XI) v) (vx XI 1)))) := by
  have hk1 : I 19 i = 1 := by
    obtain ⟨-, -, -, -, -, -, -, -, hI⟩ := RR_iff.mp h
    rcases hI i hi with ⟨z, -⟩ | ⟨z, -⟩
    · exact absurd (hv.symm.trans z) (nI_m1 (by omega))
    · exact z
  refine (m_from hm hi hk1).mono (fun r1 I1 L1 hq => ?_)
  obtain ⟨e1, e2, hR⟩ := hq
  subst e2
  obtain ⟨n', d', r', q', p', h'⟩ := h.from hi hv hv5 hR
  exact ⟨e1, n', d', r', q', p', m, h'⟩
