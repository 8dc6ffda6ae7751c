def spBribe (I : SI) (p : Nat) (c k : Int32) : Value × SI := if ¬ ((0 ≤ c ∧ c < I 1 0) ∧ (0 ≤ k ∧ k < I 1 1)) then (.int (-2), rfX I 6) else if inF (I 1 2) k = 0 ∧ I 7 k.toNatClampNeg ≤ I 3 c.toNatClampNeg then (.int (I 3 c.toNatClampNeg - I 7 k.toNatClampNeg), wV I 1 (putV (keepV (vx I 1) p) c.toNatClampNeg k.toNatClampNeg)) else (.int (-3), rfX I 7)
set_option maxHeartbeats 4000000 in
set_option maxRecDepth 100000 in
theorem x_bribe {w : WG} {I : SI} {L : SL} {n d r p : Nat} (hw : XL w) (hI : XV I n d r) (hp : I 1 5 = nI p) (hp8 : p ≤ 8) (c k : Int32) : Ok w mX4_bribe [.ref (gA w 0), .int c, .int k] I L (QX (spBribe I p c k) L) := by
  obtain ⟨hn, hn4, hd, hd7, hr, hr9⟩ := id hI
  refine Ok.of (by decide) (Nat.le_of_ble_eq_true rfl) (fun X hX => ?_)
  refine g_aload_n hX dX4_bribe_0 rfl rfl ?_
  refine g_get4R hX 0 dX4_bribe_1 b_fl_X4_10 hw.k0 (by decide) hw.p0 ?_
  refine g_iload_n hX dX4_bribe_4 rfl rfl ?_
  refine g_callVp _ hX dX4_bribe_5 k_X4_94 ⟨by decide, by decide⟩ (by decide) hw.now.k0 rfl rfl (ok_hasMan hw.now _) rfl (Nat.le_of_ble_eq_true rfl) ?_
  refine g_if_eq (tgt := 22) hX dX4_bribe_8 (by decide) (fun c_8 => ?_) (fun c_8 => ?_)
  · refine g_aload_n hX dX4_bribe_22 rfl rfl ?_
    refine g_bipush (v := -2) hX dX4_bribe_23 (by decide) ?_
    refine g_callV _ hX dX4_bribe_25 k_X4_57 ⟨by decide, by decide⟩ (by decide) hw.k0 rfl rfl (ok_refuse_bad hw) rfl (Nat.le_of_ble_eq_true rfl) (fun r1 I1 L1 hq => ?_)
    obtain ⟨rfl, rfl, rfl⟩ := hq
    exact g_iret hX dX4_bribe_28 rfl (by rw [spBribe, if_pos (by intro z; first | exact b01_0 c_8 z.1 | exact b01_0 c_19 z.2)]; exact ⟨rfl, rfl, SmX.rf⟩)
  · refine g_aload_n hX dX4_bribe_11 rfl rfl ?_
    refine g_get4R hX 0 dX4_bribe_12 b_fl_X4_10 hw.k0 (by decide) hw.p0 ?_
    refine g_iload_n hX dX4_bribe_15 rfl rfl ?_
    refine g_callVp _ hX dX4_bribe_16 k_X4_98 ⟨by decide, by decide⟩ (by decide) hw.now.k0 rfl rfl (ok_hasDog hw.now _) rfl (Nat.le_of_ble_eq_true rfl) ?_
    refine g_if_ne (tgt := 29) hX dX4_bribe_19 (by decide) (fun c_19 => ?_) (fun c_19 => ?_)
    · obtain ⟨c, hc, rfl⟩ := ix (hn ▸ b01_n c_8) (by omega)
      obtain ⟨k, hk, rfl⟩ := ix (hd ▸ b01_n c_19) (by omega)
      refine g_aload_n hX dX4_bribe_29 rfl rfl ?_
      refine g_get4R hX 0 dX4_bribe_30 b_fl_X4_10 hw.k0 (by decide) hw.p0 ?_
      refine g_iload_n hX dX4_bribe_33 rfl rfl ?_
      refine g_iload_n hX dX4_bribe_34 rfl rfl ?_
      refine g_callVp _ hX dX4_bribe_35 k_X4_101 ⟨by decide, by decide⟩ (by decide) hw.now.k0 rfl rfl (ok_mayBribe hw.now (by omega) (by omega)) rfl (Nat.le_of_ble_eq_true rfl) ?_
      refine g_if_ne (tgt := 48) hX dX4_bribe_38 (by decide) (fun c_38 => ?_) (fun c_38 => ?_)
      · refine g_aload_n hX dX4_bribe_48 rfl rfl ?_
        refine g_get4R hX 0 dX4_bribe_49 b_fl_X4_10 hw.k0 (by decide) hw.p0 ?_
        refine g_callV _ hX dX4_bribe_52 k_X4_105 ⟨by decide, by decide⟩ (by decide) hw.now.k0 rfl rfl (ok_V (ok_keepPast_V hw.now hp hp8)) rfl (Nat.le_of_ble_eq_true rfl) (fun r1 I1 L1 hq => ?_)
        obtain ⟨rfl, rfl, rfl⟩ := hq
        refine g_aload_n hX dX4_bribe_55 rfl rfl ?_
        refine g_get4R hX 0 dX4_bribe_56 b_fl_X4_10 hw.k0 (by decide) hw.p0 ?_
        refine g_iload_n hX dX4_bribe_59 rfl rfl ?_
        refine g_iload_n hX dX4_bribe_60 rfl rfl ?_
        refine g_callV _ hX dX4_bribe_61 k_X4_108 ⟨by decide, by decide⟩ (by decide) hw.now.k0 rfl rfl (ok_putToSleep_V hw.now (by omega) (by omega)) rfl (Nat.le_of_ble_eq_true rfl) (fun r1 I1 L1 hq => ?_)
        obtain ⟨rfl, rfl, rfl⟩ := hq
        refine g_aload_n hX dX4_bribe_64 rfl rfl ?_
        refine g_get4R hX 0 dX4_bribe_65 b_fl_X4_10 hw.k0 (by decide) hw.p0 ?_
        refine g_get3R hX 7 dX4_bribe_68 b_fl_X4_112 hw.now.k0 (by decide) hw.now.p7 ?_
        refine g_iload_n hX dX4_bribe_71 rfl rfl ?_
        refine g_ialdN hX dX4_bribe_72 hw.now.k2 (⟨rfl, by omega⟩) (by decide) ?_
        try simp (disch := decide) only [wV_0, wV_at, wV_rS, wV_rS0, rS_eq, rS_ne, rS_rS, pk_us, pk_un, keepV_ne, keepV_0]
        exact g_iret hX dX4_bribe_73 rfl (by rw [spBribe, if_neg (fun z => z ⟨b01_n c_8, b01_n c_19⟩), nI_clamp (by omega), nI_clamp (by omega), if_pos (b01_n c_38)]; refine ⟨vI ?_, rfl, SmX.rf⟩; simp (disch := decide) only [putV, rS_eq, pk_us, keepV_ne, vx])
      · refine g_aload_n hX dX4_bribe_41 rfl rfl ?_
        refine g_bipush (v := -3) hX dX4_bribe_42 (by decide) ?_
        refine g_callV _ hX dX4_bribe_44 k_X4_57 ⟨by decide, by decide⟩ (by decide) hw.k0 rfl rfl (ok_refuse_no hw) rfl (Nat.le_of_ble_eq_true rfl) (fun r1 I1 L1 hq => ?_)
        obtain ⟨rfl, rfl, rfl⟩ := hq
        exact g_iret hX dX4_bribe_47 rfl (by rw [spBribe, if_neg (fun z => z ⟨b01_n c_8, b01_n c_19⟩), nI_clamp (by omega), nI_clamp (by omega), if_neg (b01_0 c_38)]; exact ⟨rfl, rfl, SmX.rf⟩)
    · refine g_aload_n hX dX4_bribe_22 rfl rfl ?_
      refine g_bipush (v := -2) hX dX4_bribe_23 (by decide) ?_
      refine g_callV _ hX dX4_bribe_25 k_X4_57 ⟨by decide, by decide⟩ (by decide) hw.k0 rfl rfl (ok_refuse_bad hw) rfl (Nat.le_of_ble_eq_true rfl) (fun r1 I1 L1 hq => ?_)
      obtain ⟨rfl, rfl, rfl⟩ := hq
      exact g_iret hX dX4_bribe_28 rfl (by rw [spBribe, if_pos (by intro z; first | exact b01_0 c_8 z.1 | exact b01_0 c_19 z.2)]; exact ⟨rfl, rfl, SmX.rf⟩)
def spUndo (I : SI) (p : Nat) : Value × SI := if p = 0 then (.int (-3), rfX I 7) else (.int (I 10 ((p - 1) * 10 + 9)), wV I 1 (backV (vx I 1) (p - 1)))
set_option maxHeartbeats 4000000 in
set_option maxRecDepth 100000 in
theorem x_undo {w : WG} {I : SI} {L : SL} {p : Nat} (hw : XL w) (hp : I 1 5 = nI p) (hp8 : p ≤ 8)  : Ok w mX4_undo [.ref (gA w 0)] I L (QX (spUndo I p) L) := by

  refine Ok.of (by decide) (Nat.le_of_ble_eq_true rfl) (fun X hX => ?_)
  refine g_aload_n hX dX4_undo_0 rfl rfl ?_
  refine g_get4R hX 0 dX4_undo_1 b_fl_X4_10 hw.k0 (by decide) hw.p0 ?_
  refine g_get3I hX 5 dX4_undo_4 b_fl_X4_132 hw.now.k0 (by decide) ?_
  try simp (disch := decide) only [wV_0, wV_at, wV_rS, wV_rS0, rS_eq, rS_ne, rS_rS, pk_us, pk_un, keepV_ne, keepV_0]
  rw [hp]
  refine g_if_ne (tgt := 17) hX dX4_undo_7 (by decide) (fun c_7 => ?_) (fun c_7 => ?_)
  · obtain ⟨q, rfl⟩ : ∃ q, p = q + 1 := ⟨p - 1, (Nat.succ_pred_eq_of_ne_zero (fun e => c_7 (by rw [e]; rfl))).symm⟩
    refine g_aload_n hX dX4_undo_17 rfl rfl ?_
    refine g_get4R hX 0 dX4_undo_18 b_fl_X4_10 hw.k0 (by decide) hw.p0 ?_
    refine g_callV _ hX dX4_undo_21 k_X4_135 ⟨by decide, by decide⟩ (by decide) hw.now.k0 rfl rfl (ok_V (ok_goBack_V (p := q) hw.now hp (by omega))) rfl (Nat.le_of_ble_eq_true rfl) (fun r1 I1 L1 hq => ?_)
    obtain ⟨rfl, rfl, rfl⟩ := hq
    refine g_aload_n hX dX4_undo_24 rfl rfl ?_
    refine g_get4R hX 0 dX4_undo_25 b_fl_X4_10 hw.k0 (by decide) hw.p0 ?_
    refine g_get3I hX 3 dX4_undo_28 b_fl_X4_115 hw.now.k0 (by decide) ?_
    try simp (disch := decide) only [wV_0, wV_at, wV_rS, wV_rS0, rS_eq, rS_ne, rS_rS, pk_us, pk_un, keepV_ne, keepV_0]
    exact g_iret hX dX4_undo_31 rfl (by rw [spUndo, if_neg (by omega)]; refine ⟨vI ?_, rfl, SmX.rf⟩; simp (disch := decide) only [backV, rS_eq, pk_us, vx]; rfl)
  · refine g_aload_n hX dX4_undo_10 rfl rfl ?_
    refine g_bipush (v := -3) hX dX4_undo_11 (by decide) ?_
    refine g_callV _ hX dX4_undo_13 k_X4_57 ⟨by decide, by decide⟩ (by decide) hw.k0 rfl rfl (ok_refuse_no hw) rfl (Nat.le_of_ble_eq_true rfl) (fun r1 I1 L1 hq => ?_)
    obtain ⟨rfl, rfl, rfl⟩ := hq
    exact g_iret hX dX4_undo_16 rfl (by rw [spUndo, if_pos ((nI_eq (by omega) (by decide)).mp c_7)]; exact ⟨rfl, rfl, SmX.rf⟩)
def spOf (I : SI) (c a : Int32) : Value × SI := if ¬ (0 ≤ c ∧ c < I 1 0) then (.int (-2), rfX I 6) else if a = 0 then (.int (I 2 c.toNatClampNeg), I) else if a = 1 then (.int (I 3 c.toNatClampNeg), I) else if a = 2 then (.int (I 4 c.toNatClampNeg), I) else (.int (-2), rfX I 6)
set_option maxHeartbeats 4000000 in
set_option maxRecDepth 100000 in
theorem x_of {w : WG} {I : SI} {L : SL} {n d r : Nat} (hw : XL w) (hI : XV I n d r) (c a : Int32) : Ok w mX4_of [.ref (gA w 0), .int c, .int a] I L (QX (spOf I c a) L) := by
  obtain ⟨hn, hn4, hd, hd7, hr, hr9⟩ := id hI
  refine Ok.of (by decide) (Nat.le_of_ble_eq_true rfl) (fun X hX => ?_)
  refine g_aload_n hX dX4_of_0 rfl rfl ?_
  refine g_get4R hX 0 dX4_of_1 b_fl_X4_10 hw.k0 (by decide) hw.p0 ?_
  refine g_iload_n hX dX4_of_4 rfl rfl ?_
  refine g_callVp _ hX dX4_of_5 k_X4_94 ⟨by decide, by decide⟩ (by decide) hw.now.k0 rfl rfl (ok_hasMan hw.now _) rfl (Nat.le_of_ble_eq_true rfl) ?_
  refine g_if_ne (tgt := 18) hX dX4_of_8 (by decide) (fun c_8 => ?_) (fun c_8 => ?_)
  · obtain ⟨c, hc, rfl⟩ := ix (hn ▸ b01_n c_8) (by omega)
    refine g_iload_n hX dX4_of_18 rfl rfl ?_
    by_cases s_19_0 : a = 0
    · refine g_tabIn (tgt := 44) hX dX4_of_19 (by rw [s_19_0]; decide) (by rw [s_19_0]; decide) (by rw [s_19_0]; rfl) (by decide) ?_
      refine g_aload_n hX dX4_of_44 rfl rfl ?_
      refine g_get4R hX 0 dX4_of_45 b_fl_X4_10 hw.k0 (by decide) hw.p0 ?_
      refine g_get3R hX 6 dX4_of_48 b_fl_X4_138 hw.now.k0 (by decide) hw.now.p6 ?_
      refine g_iload_n hX dX4_of_51 rfl rfl ?_
      refine g_ialdN hX dX4_of_52 hw.now.k1 (⟨rfl, by omega⟩) (by decide) ?_
      try simp (disch := decide) only [rS_ne, rS_eq]
      exact g_iret hX dX4_of_53 rfl (by rw [spOf, if_neg (fun z => z (b01_n c_8)), nI_clamp (by omega), if_pos s_19_0]; exact ⟨rfl, rfl, SmX.rf⟩)
    by_cases s_19_1 : a = 1
    · refine g_tabIn (tgt := 54) hX dX4_of_19 (by rw [s_19_1]; decide) (by rw [s_19_1]; decide) (by rw [s_19_1]; rfl) (by decide) ?_
      refine g_aload_n hX dX4_of_54 rfl rfl ?_
      refine g_get4R hX 0 dX4_of_55 b_fl_X4_10 hw.k0 (by decide) hw.p0 ?_
      refine g_get3R hX 7 dX4_of_58 b_fl_X4_112 hw.now.k0 (by decide) hw.now.p7 ?_
      refine g_iload_n hX dX4_of_61 rfl rfl ?_
      refine g_ialdN hX dX4_of_62 hw.now.k2 (⟨rfl, by omega⟩) (by decide) ?_
      try simp (disch := decide) only [rS_ne, rS_eq]
      exact g_iret hX dX4_of_63 rfl (by rw [spOf, if_neg (fun z => z (b01_n c_8)), nI_clamp (by omega), if_neg s_19_0, if_pos s_19_1]; exact ⟨rfl, rfl, SmX.rf⟩)
    by_cases s_19_2 : a = 2
    · refine g_tabIn (tgt := 64) hX dX4_of_19 (by rw [s_19_2]; decide) (by rw [s_19_2]; decide) (by rw [s_19_2]; rfl) (by decide) ?_
      refine g_aload_n hX dX4_of_64 rfl rfl ?_
      refine g_get4R hX 0 dX4_of_65 b_fl_X4_10 hw.k0 (by decide) hw.p0 ?_
      refine g_get3R hX 8 dX4_of_68 b_fl_X4_118 hw.now.k0 (by decide) hw.now.p8 ?_
      refine g_iload_n hX dX4_of_71 rfl rfl ?_
      refine g_ialdN hX dX4_of_72 hw.now.k3 (⟨rfl, by omega⟩) (by decide) ?_
      try simp (disch := decide) only [rS_ne, rS_eq]
      exact g_iret hX dX4_of_73 rfl (by rw [spOf, if_neg (fun z => z (b01_n c_8)), nI_clamp (by omega), if_neg s_19_0, if_neg s_19_1, if_pos s_19_2]; exact ⟨rfl, rfl, SmX.rf⟩)
    refine g_tabOut (tgt := 74) hX dX4_of_19 (tab_out (fun j h1 h2 => by rcases (show j = 0 ∨ j = 1 ∨ j = 2 by omega) with rfl | rfl | rfl <;> assumption)) (by decide) ?_
    refine g_aload_n hX dX4_of_74 rfl rfl ?_
    refine g_bipush (v := -2) hX dX4_of_75 (by decide) ?_
    refine g_callV _ hX dX4_of_77 k_X4_57 ⟨by decide, by decide⟩ (by decide) hw.k0 rfl rfl (ok_refuse_bad hw) rfl (Nat.le_of_ble_eq_true rfl) (fun r1 I1 L1 hq => ?_)
    obtain ⟨rfl, rfl, rfl⟩ := hq
    exact g_iret hX dX4_of_80 rfl (by rw [spOf, if_neg (fun z => z (b01_n c_8)), nI_clamp (by omega), if_neg s_19_0, if_neg s_19_1, if_neg s_19_2]; exact ⟨rfl, rfl, SmX.rf⟩)
  · refine g_aload_n hX dX4_of_11 rfl rfl ?_
    refine g_bipush (v := -2) hX dX4_of_12 (by decide) ?_
    refine g_callV _ hX dX4_of_14 k_X4_57 ⟨by decide, by decide⟩ (by decide) hw.k0 rfl rfl (ok_refuse_bad hw) rfl (Nat.le_of_ble_eq_true rfl) (fun r1 I1 L1 hq => ?_)
    obtain ⟨rfl, rfl, rfl⟩ := hq
    exact g_iret hX dX4_of_17 rfl (by rw [spOf, if_pos (b01_0 c_8)]; exact ⟨rfl, rfl, SmX.rf⟩)
def abF (I : SI) (k : Nat) (a : Int32) : Int32 := if a = 0 then I 5 k else if a = 1 then I 6 k else if a = 2 then I 7 k else if a = 3 then I 8 k else if a = 4 then inF (I 1 2) (nI k) else if a = 5 then wdF (I 5 k) (I 6 k) else nbF (I 5 k)
def spAbout (I : SI) (k a : Int32) : Value × SI := if ¬ ((0 ≤ k ∧ k < I 1 1) ∧ (0 ≤ a ∧ a ≤ 6)) then (.int (-2), rfX I 6) else (.int (abF I k.toNatClampNeg a), I)
set_option maxHeartbeats 4000000 in
set_option maxRecDepth 100000 in
theorem x_about {w : WG} {I : SI} {L : SL} {n d r : Nat} (hw : XL w) (hI : XV I n d r) (k a : Int32) : Ok w mX4_about [.ref (gA w 0), .int k, .int a] I L (QX (spAbout I k a) L) := by
  obtain ⟨hn, hn4, hd, hd7, hr, hr9⟩ := id hI
  refine Ok.of (by decide) (Nat.le_of_ble_eq_true rfl) (fun X hX => ?_)
  refine g_aload_n hX dX4_about_0 rfl rfl ?_
  refine g_get4R hX 0 dX4_about_1 b_fl_X4_10 hw.k0 (by decide) hw.p0 ?_
  refine g_iload_n hX dX4_about_4 rfl rfl ?_
  refine g_callVp _ hX dX4_about_5 k_X4_98 ⟨by decide, by decide⟩ (by decide) hw.now.k0 rfl rfl (ok_hasDog hw.now _) rfl (Nat.le_of_ble_eq_true rfl) ?_
  refine g_if_ne (tgt := 18) hX dX4_about_8 (by decide) (fun c_8 => ?_) (fun c_8 => ?_)
  · obtain ⟨k, hk, rfl⟩ := ix (hd ▸ b01_n c_8) (by omega)
    refine g_iload_n hX dX4_about_18 rfl rfl ?_
    by_cases s_19_0 : a = 0
    · refine g_tabIn (tgt := 60) hX dX4_about_19 (by rw [s_19_0]; decide) (by rw [s_19_0]; decide) (by rw [s_19_0]; rfl) (by decide) ?_
      refine g_aload_n hX dX4_about_60 rfl rfl ?_
      refine g_get4R hX 0 dX4_about_61 b_fl_X4_10 hw.k0 (by decide) hw.p0 ?_
      refine g_get3R hX 9 dX4_about_64 b_fl_X4_141 hw.now.k0 (by decide) hw.now.p9 ?_
      refine g_iload_n hX dX4_about_67 rfl rfl ?_
      refine g_ialdN hX dX4_about_68 hw.now.k4 (⟨rfl, by omega⟩) (by decide) ?_
      try simp (disch := decide) only [rS_ne, rS_eq]
      exact g_iret hX dX4_about_69 rfl (by rw [spAbout, if_neg (fun z => z ⟨b01_n c_8, by rw [s_19_0]; exact ⟨by decide, by decide⟩⟩), nI_clamp (by omega)]; refine ⟨vI ?_, rfl, SmX.rf⟩; rw [abF, if_pos s_19_0])
    by_cases s_19_1 : a = 1
    · refine g_tabIn (tgt := 70) hX dX4_about_19 (by rw [s_19_1]; decide) (by rw [s_19_1]; decide) (by rw [s_19_1]; rfl) (by decide) ?_
      refine g_aload_n hX dX4_about_70 rfl rfl ?_
      refine g_get4R hX 0 dX4_about_71 b_fl_X4_10 hw.k0 (by decide) hw.p0 ?_
      refine g_get3R hX 10 dX4_about_74 b_fl_X4_144 hw.now.k0 (by decide) hw.now.p10 ?_
      refine g_iload_n hX dX4_about_77 rfl rfl ?_
      refine g_ialdN hX dX4_about_78 hw.now.k5 (⟨rfl, by omega⟩) (by decide) ?_
      try simp (disch := decide) only [rS_ne, rS_eq]
      exact g_iret hX dX4_about_79 rfl (by rw [spAbout, if_neg (fun z => z ⟨b01_n c_8, by rw [s_19_1]; exact ⟨by decide, by decide⟩⟩), nI_clamp (by omega)]; refine ⟨vI ?_, rfl, SmX.rf⟩; rw [abF, if_neg s_19_0, if_pos s_19_1])
    by_cases s_19_2 : a = 2
    · refine g_tabIn (tgt := 80) hX dX4_about_19 (by rw [s_19_2]; decide) (by rw [s_19_2]; decide) (by rw [s_19_2]; rfl) (by decide) ?_
      refine g_aload_n hX dX4_about_80 rfl rfl ?_
      refine g_get4R hX 0 dX4_about_81 b_fl_X4_10 hw.k0 (by decide) hw.p0 ?_
      refine g_get3R hX 11 dX4_about_84 b_fl_X4_147 hw.now.k0 (by decide) hw.now.p11 ?_
      refine g_iload_n hX dX4_about_87 rfl rfl ?_
      refine g_ialdN hX dX4_about_88 hw.now.k6 (⟨rfl, by omega⟩) (by decide) ?_
      try simp (disch := decide) only [rS_ne, rS_eq]
      exact g_iret hX dX4_about_89 rfl (by rw [spAbout, if_neg (fun z => z ⟨b01_n c_8, by rw [s_19_2]; exact ⟨by decide, by decide⟩⟩), nI_clamp (by omega)]; refine ⟨vI ?_, rfl, SmX.rf⟩; rw [abF, if_neg s_19_0, if_neg s_19_1, if_pos s_19_2])
    by_cases s_19_3 : a = 3
    · refine g_tabIn (tgt := 90) hX dX4_about_19 (by rw [s_19_3]; decide) (by rw [s_19_3]; decide) (by rw [s_19_3]; rfl) (by decide) ?_
      refine g_aload_n hX dX4_about_90 rfl rfl ?_
      refine g_get4R hX 0 dX4_about_91 b_fl_X4_10 hw.k0 (by decide) hw.p0 ?_
      refine g_get3R hX 12 dX4_about_94 b_fl_X4_150 hw.now.k0 (by decide) hw.now.p12 ?_
      refine g_iload_n hX dX4_about_97 rfl rfl ?_
      refine g_ialdN hX dX4_about_98 hw.now.k7 (⟨rfl, by omega⟩) (by decide) ?_
      try simp (disch := decide) only [rS_ne, rS_eq]
      exact g_iret hX dX4_about_99 rfl (by rw [spAbout, if_neg (fun z => z ⟨b01_n c_8, by rw [s_19_3]; exact ⟨by decide, by decide⟩⟩), nI_clamp (by omega)]; refine ⟨vI ?_, rfl, SmX.rf⟩; rw [abF, if_neg s_19_0, if_neg s_19_1, if_neg s_19_2, if_pos s_19_3])
    by_cases s_19_4 : a = 4
    · refine g_tabIn (tgt := 100) hX dX4_about_19 (by rw [s_19_4]; decide) (by rw [s_19_4]; decide) (by rw [s_19_4]; rfl) (by decide) ?_
      refine g_aload_n hX dX4_about_100 rfl rfl ?_
      refine g_get4R hX 0 dX4_about_101 b_fl_X4_10 hw.k0 (by decide) hw.p0 ?_
      refine g_iload_n hX dX4_about_104 rfl rfl ?_
      refine g_callVp _ hX dX4_about_105 k_X4_153 ⟨by decide, by decide⟩ (by decide) hw.now.k0 rfl rfl (ok_isAsleep hw.now _) rfl (Nat.le_of_ble_eq_true rfl) ?_
      refine g_if_eq (tgt := 115) hX dX4_about_108 (by decide) (fun c_108 => ?_) (fun c_108 => ?_)
      · refine g_iconst (v := 0) hX dX4_about_115 (by decide) ?_
        exact g_iret hX dX4_about_116 rfl (by rw [spAbout, if_neg (fun z => z ⟨b01_n c_8, by rw [s_19_4]; exact ⟨by decide, by decide⟩⟩), nI_clamp (by omega)]; refine ⟨vI ?_, rfl, SmX.rf⟩; rw [abF, if_neg s_19_0, if_neg s_19_1, if_neg s_19_2, if_neg s_19_3, if_pos s_19_4]; exact c_108.symm)
      · refine g_iconst (v := 1) hX dX4_about_111 (by decide) ?_
        refine g_goto (tgt := 116) hX dX4_about_112 (by decide) ?_
        exact g_iret hX dX4_about_116 rfl (by rw [spAbout, if_neg (fun z => z ⟨b01_n c_8, by rw [s_19_4]; exact ⟨by decide, by decide⟩⟩), nI_clamp (by omega)]; refine ⟨vI ?_, rfl, SmX.rf⟩; rw [abF, if_neg s_19_0, if_neg s_19_1, if_neg s_19_2, if_neg s_19_3, if_pos s_19_4]; exact ((inF_01 _ _).resolve_left c_108).symm)
    by_cases s_19_5 : a = 5
    · refine g_tabIn (tgt := 117) hX dX4_about_19 (by rw [s_19_5]; decide) (by rw [s_19_5]; decide) (by rw [s_19_5]; rfl) (by decide) ?_
      refine g_aload_n hX dX4_about_117 rfl rfl ?_
      refine g_get4R hX 0 dX4_about_118 b_fl_X4_10 hw.k0 (by decide) hw.p0 ?_
      refine g_get3R hX 9 dX4_about_121 b_fl_X4_141 hw.now.k0 (by decide) hw.now.p9 ?_
      refine g_iload_n hX dX4_about_124 rfl rfl ?_
      refine g_ialdN hX dX4_about_125 hw.now.k4 (⟨rfl, by omega⟩) (by decide) ?_
      try simp (disch := decide) only [rS_ne, rS_eq]
      refine g_aload_n hX dX4_about_126 rfl rfl ?_
      refine g_get4R hX 0 dX4_about_127 b_fl_X4_10 hw.k0 (by decide) hw.p0 ?_
      refine g_get3R hX 10 dX4_about_130 b_fl_X4_144 hw.now.k0 (by decide) hw.now.p10 ?_
      refine g_iload_n hX dX4_about_133 rfl rfl ?_
      refine g_ialdN hX dX4_about_134 hw.now.k5 (⟨rfl, by omega⟩) (by decide) ?_
      try simp (disch := decide) only [rS_ne, rS_eq]
      refine g_callSp _ hX dX4_about_135 k_X4_156 ⟨by decide, by decide⟩ rfl (ok_width _ _) rfl (Nat.le_of_ble_eq_true rfl) ?_
      exact g_iret hX dX4_about_138 rfl (by rw [spAbout, if_neg (fun z => z ⟨b01_n c_8, by rw [s_19_5]; exact ⟨by decide, by decide⟩⟩), nI_clamp (by omega)]; refine ⟨vI ?_, rfl, SmX.rf⟩; rw [abF, if_neg s_19_0, if_neg s_19_1, if_neg s_19_2, if_neg s_19_3, if_neg s_19_4, if_pos s_19_5])
    by_cases s_19_6 : a = 6
    · refine g_tabIn (tgt := 139) hX dX4_about_19 (by rw [s_19_6]; decide) (by rw [s_19_6]; decide) (by rw [s_19_6]; rfl) (by decide) ?_
      refine g_aload_n hX dX4_about_139 rfl rfl ?_
      refine g_get4R hX 0 dX4_about_140 b_fl_X4_10 hw.k0 (by decide) hw.p0 ?_
      refine g_get3R hX 9 dX4_about_143 b_fl_X4_141 hw.now.k0 (by decide) hw.now.p9 ?_
      refine g_iload_n hX dX4_about_146 rfl rfl ?_
      refine g_ialdN hX dX4_about_147 hw.now.k4 (⟨rfl, by omega⟩) (by decide) ?_
      try simp (disch := decide) only [rS_ne, rS_eq]
      refine g_callSp _ hX dX4_about_148 k_X4_161 ⟨by decide, by decide⟩ rfl (ok_bites _) rfl (Nat.le_of_ble_eq_true rfl) ?_
      exact g_iret hX dX4_about_151 rfl (by rw [spAbout, if_neg (fun z => z ⟨b01_n c_8, by rw [s_19_6]; exact ⟨by decide, by decide⟩⟩), nI_clamp (by omega)]; refine ⟨vI ?_, rfl, SmX.rf⟩; rw [abF, if_neg s_19_0, if_neg s_19_1, if_neg s_19_2, if_neg s_19_3, if_neg s_19_4, if_neg s_19_5])
    refine g_tabOut (tgt := 152) hX dX4_about_19 (tab_out (fun j h1 h2 => by rcases (show j = 0 ∨ j = 1 ∨ j = 2 ∨ j = 3 ∨ j = 4 ∨ j = 5 ∨ j = 6 by omega) with rfl | rfl | rfl | rfl | rfl | rfl | rfl <;> assumption)) (by decide) ?_
    refine g_aload_n hX dX4_about_152 rfl rfl ?_
    refine g_bipush (v := -2) hX dX4_about_153 (by decide) ?_
    refine g_callV _ hX dX4_about_155 k_X4_57 ⟨by decide, by decide⟩ (by decide) hw.k0 rfl rfl (ok_refuse_bad hw) rfl (Nat.le_of_ble_eq_true rfl) (fun r1 I1 L1 hq => ?_)
    obtain ⟨rfl, rfl, rfl⟩ := hq
    exact g_iret hX dX4_about_158 rfl (by rw [spAbout, if_pos (fun z => by obtain ⟨j, h1, h2⟩ := ix2 (n := 6) rfl (by decide) z.2; subst h2; rcases (show j = 0 ∨ j = 1 ∨ j = 2 ∨ j = 3 ∨ j = 4 ∨ j = 5 ∨ j = 6 by omega) with rfl | rfl | rfl | rfl | rfl | rfl | rfl <;> contradiction)]; exact ⟨rfl, rfl, SmX.rf⟩)
  · refine g_aload_n hX dX4_about_11 rfl rfl ?_
    refine g_bipush (v := -2) hX dX4_about_12 (by decide) ?_
    refine g_callV _ hX dX4_about_14 k_X4_57 ⟨by decide, by decide⟩ (by decide) hw.k0 rfl rfl (ok_refuse_bad hw) rfl (Nat.le_of_ble_eq_true rfl) (fun r1 I1 L1 hq => ?_)
    obtain ⟨rfl, rfl, rfl⟩ := hq
    exact g_iret hX dX4_about_17 rfl (by rw [spAbout, if_pos (fun z => b01_0 c_8 z.1)]; exact ⟨rfl, rfl, SmX.rf⟩)
def spBitten (I : SI) (n d r : Nat) (c a : Int32) : Value × SI := if ¬ ((0 ≤ c ∧ c < I 1 0) ∧ (0 ≤ a ∧ a ≤ 1)) then (.int (-2), rfX I 6) else if a = 0 then (.int (bsR (I 5) (I 8) (I 2) n (stF n r) c (I 1 2) d), I) else (.int (wtR (I 5) (I 6) (I 8) (I 2) n (stF n r) c (I 1 2) d), I)
set_option maxHeartbeats 4000000 in
set_option maxRecDepth 100000 in
theorem x_bitten {w : WG} {I : SI} {L : SL} {n d r : Nat} (hw : XL w) (hI : XV I n d r) (c a : Int32) : Ok w mX4_bitten [.ref (gA w 0), .int c, .int a] I L (QX (spBitten I n d r c a) L) := by
  obtain ⟨hn, hn4, hd, hd7, hr, hr9⟩ := id hI
  have hst : stF n r < 2000 := by unfold stF; split; omega; exact Nat.lt_of_le_of_lt (Nat.mod_le _ _) (by omega)
  refine Ok.of (by decide) (Nat.le_of_ble_eq_true rfl) (fun X hX => ?_)
  refine g_aload_n hX dX4_bitten_0 rfl rfl ?_
  refine g_get4R hX 0 dX4_bitten_1 b_fl_X4_10 hw.k0 (by decide) hw.p0 ?_
  refine g_iload_n hX dX4_bitten_4 rfl rfl ?_
  refine g_callVp _ hX dX4_bitten_5 k_X4_94 ⟨by decide, by decide⟩ (by decide) hw.now.k0 rfl rfl (ok_hasMan hw.now _) rfl (Nat.le_of_ble_eq_true rfl) ?_
  refine g_if_eq (tgt := 20) hX dX4_bitten_8 (by decide) (fun c_8 => ?_) (fun c_8 => ?_)
  · refine g_aload_n hX dX4_bitten_20 rfl rfl ?_
    refine g_bipush (v := -2) hX dX4_bitten_21 (by decide) ?_
    refine g_callV _ hX dX4_bitten_23 k_X4_57 ⟨by decide, by decide⟩ (by decide) hw.k0 rfl rfl (ok_refuse_bad hw) rfl (Nat.le_of_ble_eq_true rfl) (fun r1 I1 L1 hq => ?_)
    obtain ⟨rfl, rfl, rfl⟩ := hq
    exact g_iret hX dX4_bitten_26 rfl (by rw [spBitten, if_pos (by intro z; first | exact b01_0 c_8 z.1 | exact b01_0 c_17 z.2)]; exact ⟨rfl, rfl, SmX.rf⟩)
  · refine g_iload_n hX dX4_bitten_11 rfl rfl ?_
    refine g_iconst (v := 0) hX dX4_bitten_12 (by decide) ?_
    refine g_iconst (v := 1) hX dX4_bitten_13 (by decide) ?_
    refine g_callSp _ hX dX4_bitten_14 k_X4_53 ⟨by decide, by decide⟩ rfl (ok_within _ _ _) rfl (Nat.le_of_ble_eq_true rfl) ?_
    refine g_if_ne (tgt := 27) hX dX4_bitten_17 (by decide) (fun c_17 => ?_) (fun c_17 => ?_)
    · refine g_aload_n hX dX4_bitten_27 rfl rfl ?_
      refine g_get4R hX 0 dX4_bitten_28 b_fl_X4_10 hw.k0 (by decide) hw.p0 ?_
      refine g_aload_n hX dX4_bitten_31 rfl rfl ?_
      refine g_get4R hX 0 dX4_bitten_32 b_fl_X4_10 hw.k0 (by decide) hw.p0 ?_
      refine g_get3I hX 3 dX4_bitten_35 b_fl_X4_115 hw.now.k0 (by decide) ?_
      try simp (disch := decide) only [rS_ne, rS_eq]
      rw [hr]
      refine g_callVp _ hX dX4_bitten_38 k_X4_164 ⟨by decide, by decide⟩ (by decide) hw.now.k0 rfl rfl (ok_startOf (v := 1) (r := r) hw.now hn hn4 (by omega)) rfl (Nat.le_of_ble_eq_true rfl) ?_
      refine g_istore_n hX dX4_bitten_41 rfl (by decide) ?_
      refine g_iload_n hX dX4_bitten_42 rfl rfl ?_
      refine g_if_ne (tgt := 65) hX dX4_bitten_43 (by decide) (fun c_43 => ?_) (fun c_43 => ?_)
      · refine g_aload_n hX dX4_bitten_65 rfl rfl ?_
        refine g_get4R hX 0 dX4_bitten_66 b_fl_X4_10 hw.k0 (by decide) hw.p0 ?_
        refine g_iload_n hX dX4_bitten_69 rfl rfl ?_
        refine g_iload_n hX dX4_bitten_70 rfl rfl ?_
        refine g_aload_n hX dX4_bitten_71 rfl rfl ?_
        refine g_get4R hX 0 dX4_bitten_72 b_fl_X4_10 hw.k0 (by decide) hw.p0 ?_
        refine g_get3I hX 2 dX4_bitten_75 b_fl_X4_121 hw.now.k0 (by decide) ?_
        try simp (disch := decide) only [rS_ne, rS_eq]
        refine g_callVp _ hX dX4_bitten_78 k_X4_171 ⟨by decide, by decide⟩ (by decide) hw.now.k0 rfl rfl (ok_widthTo hw.now hn hn4 hd hd7 hst _ _) rfl (Nat.le_of_ble_eq_true rfl) ?_
        exact g_iret hX dX4_bitten_81 rfl (by rw [spBitten, if_neg (fun z => z ⟨b01_n c_8, b01_n c_17⟩), if_neg c_43]; exact ⟨rfl, rfl, SmX.rf⟩)
      · refine g_aload_n hX dX4_bitten_46 rfl rfl ?_
        refine g_get4R hX 0 dX4_bitten_47 b_fl_X4_10 hw.k0 (by decide) hw.p0 ?_
        refine g_iload_n hX dX4_bitten_50 rfl rfl ?_
        refine g_iload_n hX dX4_bitten_51 rfl rfl ?_
        refine g_aload_n hX dX4_bitten_52 rfl rfl ?_
        refine g_get4R hX 0 dX4_bitten_53 b_fl_X4_10 hw.k0 (by decide) hw.p0 ?_
        refine g_get3I hX 2 dX4_bitten_56 b_fl_X4_121 hw.now.k0 (by decide) ?_
        try simp (disch := decide) only [rS_ne, rS_eq]
        refine g_callVp _ hX dX4_bitten_59 k_X4_167 ⟨by decide, by decide⟩ (by decide) hw.now.k0 rfl rfl (ok_bitersOf hw.now hn hn4 hd hd7 hst _ _) rfl (Nat.le_of_ble_eq_true rfl) ?_
        refine g_goto (tgt := 81) hX dX4_bitten_62 (by decide) ?_
        exact g_iret hX dX4_bitten_81 rfl (by rw [spBitten, if_neg (fun z => z ⟨b01_n c_8, b01_n c_17⟩), if_pos c_43]; exact ⟨rfl, rfl, SmX.rf⟩)
    · refine g_aload_n hX dX4_bitten_20 rfl rfl ?_
      refine g_bipush (v := -2) hX dX4_bitten_21 (by decide) ?_
      refine g_callV _ hX dX4_bitten_23 k_X4_57 ⟨by decide, by decide⟩ (by decide) hw.k0 rfl rfl (ok_refuse_bad hw) rfl (Nat.le_of_ble_eq_true rfl) (fun r1 I1 L1 hq => ?_)
      obtain ⟨rfl, rfl, rfl⟩ := hq
      exact g_iret hX dX4_bitten_26 rfl (by rw [spBitten, if_pos (by intro z; first | exact b01_0 c_8 z.1 | exact b01_0 c_17 z.2)]; exact ⟨rfl, rfl, SmX.rf⟩)
def spThen (I : SI) (n d r : Nat) (c m : Int32) : Value × SI := if ¬ ((0 ≤ c ∧ c < I 1 0) ∧ (0 ≤ m ∧ m ≤ 30)) then (.int (-2), rfX I 6) else (.int (ahF (vx I 1) n d r m.toNatClampNeg c.toNatClampNeg), I)
set_option maxHeartbeats 4000000 in
set_option maxRecDepth 100000 in
theorem x_then {w : WG} {I : SI} {L : SL} {n d r : Nat} (hw : XL w) (hI : XV I n d r) (c m : Int32) : Ok w mX4_then [.ref (gA w 0), .int c, .int m] I L (QX (spThen I n d r c m) L) := by
  obtain ⟨hn, hn4, hd, hd7, hr, hr9⟩ := id hI
  refine Ok.of (by decide) (Nat.le_of_ble_eq_true rfl) (fun X hX => ?_)
  refine g_aload_n hX dX4_then_0 rfl rfl ?_
  refine g_get4R hX 0 dX4_then_1 b_fl_X4_10 hw.k0 (by decide) hw.p0 ?_
  refine g_iload_n hX dX4_then_4 rfl rfl ?_
  refine g_callVp _ hX dX4_then_5 k_X4_94 ⟨by decide, by decide⟩ (by decide) hw.now.k0 rfl rfl (ok_hasMan hw.now _) rfl (Nat.le_of_ble_eq_true rfl) ?_
  refine g_if_eq (tgt := 21) hX dX4_then_8 (by decide) (fun c_8 => ?_) (fun c_8 => ?_)
  · refine g_aload_n hX dX4_then_21 rfl rfl ?_
    refine g_bipush (v := -2) hX dX4_then_22 (by decide) ?_
    refine g_callV _ hX dX4_then_24 k_X4_57 ⟨by decide, by decide⟩ (by decide) hw.k0 rfl rfl (ok_refuse_bad hw) rfl (Nat.le_of_ble_eq_true rfl) (fun r1 I1 L1 hq => ?_)
    obtain ⟨rfl, rfl, rfl⟩ := hq
    exact g_iret hX dX4_then_27 rfl (by rw [spThen, if_pos (by intro z; first | exact b01_0 c_8 z.1 | exact b01_0 c_18 z.2)]; exact ⟨rfl, rfl, SmX.rf⟩)
  · refine g_iload_n hX dX4_then_11 rfl rfl ?_
    refine g_iconst (v := 0) hX dX4_then_12 (by decide) ?_
    refine g_bipush (v := 30) hX dX4_then_13 (by decide) ?_
    refine g_callSp _ hX dX4_then_15 k_X4_53 ⟨by decide, by decide⟩ rfl (ok_within _ _ _) rfl (Nat.le_of_ble_eq_true rfl) ?_
    refine g_if_ne (tgt := 28) hX dX4_then_18 (by decide) (fun c_18 => ?_) (fun c_18 => ?_)
    · obtain ⟨c, hc, rfl⟩ := ix (hn ▸ b01_n c_8) (by omega)
      obtain ⟨m, hm, rfl⟩ := ix2 (n := 30) rfl (by decide) (b01_n c_18)
      refine g_aload_n hX dX4_then_28 rfl rfl ?_
      refine g_iload_n hX dX4_then_29 rfl rfl ?_
      refine g_callV _ hX dX4_then_30 k_X4_174 ⟨by decide, by decide⟩ (by decide) hw.k0 rfl rfl (ok_lookAhead  hw hI (by omega)) rfl (Nat.le_of_ble_eq_true rfl) (fun r1 I1 L1 hq => ?_)
      obtain ⟨rfl, rfl, f, rfl, hf⟩ := hq
      refine g_aload_n hX dX4_then_33 rfl rfl ?_
      refine g_get4R hX 9 dX4_then_34 b_fl_X4_37 hw.k0 (by decide) hw.p9 ?_
      refine g_iload_n hX dX4_then_37 rfl rfl ?_
      refine g_ialdN hX dX4_then_38 hw.k24 (⟨rfl, by omega⟩) (by decide) ?_
      try simp (disch := decide) only [rS_ne, rS_eq]
      exact g_iret hX dX4_then_39 rfl (by rw [spThen, if_neg (fun z => z ⟨b01_n c_8, b01_n c_18⟩), nI_clamp (by omega), nI_clamp (by omega)]; exact ⟨vI (hf c (by omega)), rfl, SmX.rf.set _ ⟨by decide, by decide⟩⟩)
    · refine g_aload_n hX dX4_then_21 rfl rfl ?_
      refine g_bipush (v := -2) hX dX4_then_22 (by decide) ?_
      refine g_callV _ hX dX4_then_24 k_X4_57 ⟨by decide, by decide⟩ (by decide) hw.k0 rfl rfl (ok_refuse_bad hw) rfl (Nat.le_of_ble_eq_true rfl) (fun r1 I1 L1 hq => ?_)
      obtain ⟨rfl, rfl, rfl⟩ := hq
      exact g_iret hX dX4_then_27 rfl (by rw [spThen, if_pos (by intro z; first | exact b01_0 c_8 z.1 | exact b01_0 c_18 z.2)]; exact ⟨rfl, rfl, SmX.rf⟩)
def spWon (I : SI) (n d r : Nat) (m a : Int32) : Value × SI := if ¬ ((0 ≤ m ∧ m ≤ 30) ∧ (0 ≤ a ∧ a ≤ 1)) then (.int (-2), rfX I 6) else if a = 0 then (.int (pmF (ahF (vx I 1) n d r m.toNatClampNeg) n), I) else (.int (lvF (ahF (vx I 1) n d r m.toNatClampNeg) n), I)
set_option maxHeartbeats 4000000 in
set_option maxRecDepth 100000 in
theorem x_won {w : WG} {I : SI} {L : SL} {n d r : Nat} (hw : XL w) (hI : XV I n d r) (m a : Int32) : Ok w mX4_won [.ref (gA w 0), .int m, .int a] I L (QX (spWon I n d r m a) L) := by
  obtain ⟨hn, hn4, hd, hd7, hr, hr9⟩ := id hI
  refine Ok.of (by decide) (Nat.le_of_ble_eq_true rfl) (fun X hX => ?_)
  refine g_iload_n hX dX4_won_0 rfl rfl ?_
  refine g_iconst (v := 0) hX dX4_won_1 (by decide) ?_
  refine g_bipush (v := 30) hX dX4_won_2 (by decide) ?_
  refine g_callSp _ hX dX4_won_4 k_X4_53 ⟨by decide, by decide⟩ rfl (ok_within _ _ _) rfl (Nat.le_of_ble_eq_true rfl) ?_
  refine g_if_eq (tgt := 19) hX dX4_won_7 (by decide) (fun c_7 => ?_) (fun c_7 => ?_)
  · refine g_aload_n hX dX4_won_19 rfl rfl ?_
    refine g_bipush (v := -2) hX dX4_won_20 (by decide) ?_
    refine g_callV _ hX dX4_won_22 k_X4_57 ⟨by decide, by decide⟩ (by decide) hw.k0 rfl rfl (ok_refuse_bad hw) rfl (Nat.le_of_ble_eq_true rfl) (fun r1 I1 L1 hq => ?_)
    obtain ⟨rfl, rfl, rfl⟩ := hq
    exact g_iret hX dX4_won_25 rfl (by rw [spWon, if_pos (by intro z; first | exact b01_0 c_7 z.1 | exact b01_0 c_16 z.2)]; exact ⟨rfl, rfl, SmX.rf⟩)
  · refine g_iload_n hX dX4_won_10 rfl rfl ?_
    refine g_iconst (v := 0) hX dX4_won_11 (by decide) ?_
    refine g_iconst (v := 1) hX dX4_won_12 (by decide) ?_
    refine g_callSp _ hX dX4_won_13 k_X4_53 ⟨by decide, by decide⟩ rfl (ok_within _ _ _) rfl (Nat.le_of_ble_eq_true rfl) ?_
    refine g_if_ne (tgt := 26) hX dX4_won_16 (by decide) (fun c_16 => ?_) (fun c_16 => ?_)
    · obtain ⟨m, hm, rfl⟩ := ix2 (n := 30) rfl (by decide) (b01_n c_7)
      refine g_aload_n hX dX4_won_26 rfl rfl ?_
      refine g_iload_n hX dX4_won_27 rfl rfl ?_
      refine g_callV _ hX dX4_won_28 k_X4_174 ⟨by decide, by decide⟩ (by decide) hw.k0 rfl rfl (ok_lookAhead  hw hI (by omega)) rfl (Nat.le_of_ble_eq_true rfl) (fun r1 I1 L1 hq => ?_)
      obtain ⟨rfl, rfl, f, rfl, hf⟩ := hq
      refine g_iload_n hX dX4_won_31 rfl rfl ?_
      refine g_if_ne (tgt := 52) hX dX4_won_32 (by decide) (fun c_32 => ?_) (fun c_32 => ?_)
      · refine g_aload_n hX dX4_won_52 rfl rfl ?_
        refine g_get4R hX 9 dX4_won_53 b_fl_X4_37 hw.k0 (by decide) hw.p9 ?_
        refine g_aload_n hX dX4_won_56 rfl rfl ?_
        refine g_get4R hX 0 dX4_won_57 b_fl_X4_10 hw.k0 (by decide) hw.p0 ?_
        refine g_get3I hX 0 dX4_won_60 b_fl_X4_61 hw.now.k0 (by decide) ?_
        try simp (disch := decide) only [rS_ne, rS_eq]
        rw [hn]
        refine g_callSp _ hX dX4_won_63 k_X4_178 ⟨by decide, by decide⟩ rfl (ok_leaverOf (n := n) hw.k24 hn4) rfl (Nat.le_of_ble_eq_true rfl) ?_
        simp (disch := decide) only [rS_eq]
        exact g_iret hX dX4_won_66 rfl (by rw [spWon, if_neg (fun z => z ⟨b01_n c_7, b01_n c_16⟩), nI_clamp (by omega), if_neg c_32]; exact ⟨vI (lvF_congr n (by omega) (fun c hc => hf c (by omega))), rfl, SmX.rf.set _ ⟨by decide, by decide⟩⟩)
      · refine g_aload_n hX dX4_won_35 rfl rfl ?_
        refine g_get4R hX 9 dX4_won_36 b_fl_X4_37 hw.k0 (by decide) hw.p9 ?_
        refine g_aload_n hX dX4_won_39 rfl rfl ?_
        refine g_get4R hX 0 dX4_won_40 b_fl_X4_10 hw.k0 (by decide) hw.p0 ?_
        refine g_get3I hX 0 dX4_won_43 b_fl_X4_61 hw.now.k0 (by decide) ?_
        try simp (disch := decide) only [rS_ne, rS_eq]
        rw [hn]
        refine g_callSp _ hX dX4_won_46 k_X4_128 ⟨by decide, by decide⟩ rfl (ok_postmanOf (n := n) hw.k24 hn4) rfl (Nat.le_of_ble_eq_true rfl) ?_
        simp (disch := decide) only [rS_eq]
        refine g_goto (tgt := 66) hX dX4_won_49 (by decide) ?_
        exact g_iret hX dX4_won_66 rfl (by rw [spWon, if_neg (fun z => z ⟨b01_n c_7, b01_n c_16⟩), nI_clamp (by omega), if_pos c_32]; exact ⟨vI (pmF_congr n (by omega) (fun c hc => hf c (by omega))), rfl, SmX.rf.set _ ⟨by decide, by decide⟩⟩)
    · refine g_aload_n hX dX4_won_19 rfl rfl ?_
      refine g_bipush (v := -2) hX dX4_won_20 (by decide) ?_
      refine g_callV _ hX dX4_won_22 k_X4_57 ⟨by decide, by decide⟩ (by decide) hw.k0 rfl rfl (ok_refuse_bad hw) rfl (Nat.le_of_ble_eq_true rfl) (fun r1 I1 L1 hq => ?_)
      obtain ⟨rfl, rfl, rfl⟩ := hq
      exact g_iret hX dX4_won_25 rfl (by rw [spWon, if_pos (by intro z; first | exact b01_0 c_7 z.1 | exact b01_0 c_16 z.2)]; exact ⟨rfl, rfl, SmX.rf⟩)
