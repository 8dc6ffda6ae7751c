set_option maxHeartbeats 4000000 in
set_option maxRecDepth 100000 in
theorem ok_widthTo {w : WG} {I : SI} {L : SL} {v n d a : Nat} (hV : VL w v) (hn : I v 0 = nI n) (hn4 : n ≤ 4) (hd : I v 1 = nI d) (hd7 : d ≤ 7) (ha : a < 2000) (c s : Int32) : Ok w mX3_widthTo [.ref (gA w v), .int c, .int (nI a), .int s] I L (Pr (.int (wtR (I (v + 4)) (I (v + 5)) (I (v + 7)) (I (v + 1)) n a c s d)) I L) := by
  refine Ok.of (by decide) (Nat.le_of_ble_eq_true rfl) (fun X hX => ?_)
  have loop := loop_up (n := d) (P := fun k => G X w mX3_widthTo I L 6 (lvO [(0, .ref (gA w v)), (1, .int c), (2, .int (nI a)), (3, .int s), (4, .int (wtR (I (v + 4)) (I (v + 5)) (I (v + 7)) (I (v + 1)) n a c s k)), (5, .int (nI k))]) []) (fun k hk ih => by
    refine g_iload hX dX3_widthTo_6 rfl ?_
    refine g_aload_n hX dX3_widthTo_8 rfl rfl ?_
    refine g_get3I hX 1 dX3_widthTo_9 b_fl_X3_43 hV.k0 (by decide) ?_
    rw [hd]
    refine g_icmp_ge (tgt := 66) hX dX3_widthTo_12 (by decide) (fun c_12 => ?_) (fun c_12 => ?_)
    · refine g_iload hX dX3_widthTo_66 rfl ?_
      exact g_iret hX dX3_widthTo_68 rfl (⟨by rw [show k = d from Nat.le_antisymm hk (nle c_12 (by omega) (by omega))], rfl, rfl⟩)
    · have hlt := nnle c_12 (by omega) (by omega)
      refine g_iload_n hX dX3_widthTo_15 rfl rfl ?_
      refine g_iload hX dX3_widthTo_16 rfl ?_
      refine g_callSp _ hX dX3_widthTo_18 k_X3_64 ⟨by decide, by decide⟩ rfl (ok_isIn _ _) rfl (Nat.le_of_ble_eq_true rfl) ?_
      refine g_if_ne (tgt := 60) hX dX3_widthTo_21 (by decide) (fun c_21 => ?_) (fun c_21 => ?_)
      · refine g_iinc hX dX3_widthTo_60 rfl (d := 1) (by decide) ?_
        refine g_goto (tgt := 6) hX dX3_widthTo_63 (by decide) ?_
        exact G.at (ih hlt) ⟨rfl, rfl, rfl, rfl, vI (by rw [wtR, if_neg (fun q => c_21 q.1)]; rw [Int32.add_zero]), vI (nI_1 k), trivial⟩
      · refine g_aload_n hX dX3_widthTo_24 rfl rfl ?_
        refine g_iload hX dX3_widthTo_25 rfl ?_
        refine g_iload_n hX dX3_widthTo_27 rfl rfl ?_
        refine g_callVp _ hX dX3_widthTo_28 k_X3_82 ⟨by decide, by decide⟩ (by decide) hV.k0 rfl rfl (ok_bittenBy hV hn hn4 (by omega) (by omega)) rfl (Nat.le_of_ble_eq_true rfl) ?_
        refine g_iload_n hX dX3_widthTo_31 rfl rfl ?_
        refine g_callSp _ hX dX3_widthTo_32 k_X3_64 ⟨by decide, by decide⟩ rfl (ok_isIn _ _) rfl (Nat.le_of_ble_eq_true rfl) ?_
        refine g_if_eq (tgt := 60) hX dX3_widthTo_35 (by decide) (fun c_35 => ?_) (fun c_35 => ?_)
        · refine g_iinc hX dX3_widthTo_60 rfl (d := 1) (by decide) ?_
          refine g_goto (tgt := 6) hX dX3_widthTo_63 (by decide) ?_
          exact G.at (ih hlt) ⟨rfl, rfl, rfl, rfl, vI (by rw [wtR, if_neg (fun q => q.2 c_35)]; rw [Int32.add_zero]), vI (nI_1 k), trivial⟩
        · refine g_iload hX dX3_widthTo_38 rfl ?_
          refine g_aload_n hX dX3_widthTo_40 rfl rfl ?_
          refine g_get3R hX 9 dX3_widthTo_41 b_fl_X3_21 hV.k0 (by decide) hV.p9 ?_
          refine g_iload hX dX3_widthTo_44 rfl ?_
          refine g_ialdN hX dX3_widthTo_46 hV.k4 (⟨rfl, by omega⟩) (by decide) ?_
          refine g_aload_n hX dX3_widthTo_47 rfl rfl ?_
          refine g_get3R hX 10 dX3_widthTo_48 b_fl_X3_24 hV.k0 (by decide) hV.p10 ?_
          refine g_iload hX dX3_widthTo_51 rfl ?_
          refine g_ialdN hX dX3_widthTo_53 hV.k5 (⟨rfl, by omega⟩) (by decide) ?_
          refine g_callSp _ hX dX3_widthTo_54 k_X3_86 ⟨by decide, by decide⟩ rfl (ok_width _ _) rfl (Nat.le_of_ble_eq_true rfl) ?_
          refine g_iadd hX dX3_widthTo_57 ?_
          refine g_istore hX dX3_widthTo_58 (by decide) ?_
          refine g_iinc hX dX3_widthTo_60 rfl (d := 1) (by decide) ?_
          refine g_goto (tgt := 6) hX dX3_widthTo_63 (by decide) ?_
          exact G.at (ih hlt) ⟨rfl, rfl, rfl, rfl, vI (by rw [wtR, if_pos ⟨c_21, c_35⟩]), vI (nI_1 k), trivial⟩
    )
  refine g_iconst (v := 0) hX dX3_widthTo_0 (by decide) ?_
  refine g_istore hX dX3_widthTo_1 (by decide) ?_
  refine g_iconst (v := 0) hX dX3_widthTo_3 (by decide) ?_
  refine g_istore hX dX3_widthTo_4 (by decide) ?_
  exact G.at (loop 0 (Nat.zero_le _)) ⟨rfl, rfl, rfl, rfl, rfl, rfl, trivial⟩
set_option maxHeartbeats 4000000 in
set_option maxRecDepth 100000 in
theorem ok_bitersOf {w : WG} {I : SI} {L : SL} {v n d a : Nat} (hV : VL w v) (hn : I v 0 = nI n) (hn4 : n ≤ 4) (hd : I v 1 = nI d) (hd7 : d ≤ 7) (ha : a < 2000) (c s : Int32) : Ok w mX3_bitersOf [.ref (gA w v), .int c, .int (nI a), .int s] I L (Pr (.int (bsR (I (v + 4)) (I (v + 7)) (I (v + 1)) n a c s d)) I L) := by
  refine Ok.of (by decide) (Nat.le_of_ble_eq_true rfl) (fun X hX => ?_)
  have loop := loop_up (n := d) (P := fun k => G X w mX3_bitersOf I L 6 (lvO [(0, .ref (gA w v)), (1, .int c), (2, .int (nI a)), (3, .int s), (4, .int (bsR (I (v + 4)) (I (v + 7)) (I (v + 1)) n a c s k)), (5, .int (nI k))]) []) (fun k hk ih => by
    refine g_iload hX dX3_bitersOf_6 rfl ?_
    refine g_aload_n hX dX3_bitersOf_8 rfl rfl ?_
    refine g_get3I hX 1 dX3_bitersOf_9 b_fl_X3_43 hV.k0 (by decide) ?_
    rw [hd]
    refine g_icmp_ge (tgt := 53) hX dX3_bitersOf_12 (by decide) (fun c_12 => ?_) (fun c_12 => ?_)
    · refine g_iload hX dX3_bitersOf_53 rfl ?_
      exact g_iret hX dX3_bitersOf_55 rfl (⟨by rw [show k = d from Nat.le_antisymm hk (nle c_12 (by omega) (by omega))], rfl, rfl⟩)
    · have hlt := nnle c_12 (by omega) (by omega)
      refine g_iload_n hX dX3_bitersOf_15 rfl rfl ?_
      refine g_iload hX dX3_bitersOf_16 rfl ?_
      refine g_callSp _ hX dX3_bitersOf_18 k_X3_64 ⟨by decide, by decide⟩ rfl (ok_isIn _ _) rfl (Nat.le_of_ble_eq_true rfl) ?_
      refine g_if_ne (tgt := 47) hX dX3_bitersOf_21 (by decide) (fun c_21 => ?_) (fun c_21 => ?_)
      · refine g_iinc hX dX3_bitersOf_47 rfl (d := 1) (by decide) ?_
        refine g_goto (tgt := 6) hX dX3_bitersOf_50 (by decide) ?_
        exact G.at (ih hlt) ⟨rfl, rfl, rfl, rfl, vI (by rw [bsR, if_neg (fun q => c_21 q.1)]), vI (nI_1 k), trivial⟩
      · refine g_aload_n hX dX3_bitersOf_24 rfl rfl ?_
        refine g_iload hX dX3_bitersOf_25 rfl ?_
        refine g_iload_n hX dX3_bitersOf_27 rfl rfl ?_
        refine g_callVp _ hX dX3_bitersOf_28 k_X3_82 ⟨by decide, by decide⟩ (by decide) hV.k0 rfl rfl (ok_bittenBy hV hn hn4 (by omega) (by omega)) rfl (Nat.le_of_ble_eq_true rfl) ?_
        refine g_iload_n hX dX3_bitersOf_31 rfl rfl ?_
        refine g_callSp _ hX dX3_bitersOf_32 k_X3_64 ⟨by decide, by decide⟩ rfl (ok_isIn _ _) rfl (Nat.le_of_ble_eq_true rfl) ?_
        refine g_if_eq (tgt := 47) hX dX3_bitersOf_35 (by decide) (fun c_35 => ?_) (fun c_35 => ?_)
        · refine g_iinc hX dX3_bitersOf_47 rfl (d := 1) (by decide) ?_
          refine g_goto (tgt := 6) hX dX3_bitersOf_50 (by decide) ?_
          exact G.at (ih hlt) ⟨rfl, rfl, rfl, rfl, vI (by rw [bsR, if_neg (fun q => q.2 c_35)]), vI (nI_1 k), trivial⟩
        · refine g_iload hX dX3_bitersOf_38 rfl ?_
          refine g_iconst (v := 1) hX dX3_bitersOf_40 (by decide) ?_
          refine g_iload hX dX3_bitersOf_41 rfl ?_
          refine g_ishl hX dX3_bitersOf_43 ?_
          refine g_ior hX dX3_bitersOf_44 ?_
          refine g_istore hX dX3_bitersOf_45 (by decide) ?_
          refine g_iinc hX dX3_bitersOf_47 rfl (d := 1) (by decide) ?_
          refine g_goto (tgt := 6) hX dX3_bitersOf_50 (by decide) ?_
          exact G.at (ih hlt) ⟨rfl, rfl, rfl, rfl, vI (by rw [bsR, if_pos ⟨c_21, c_35⟩]), vI (nI_1 k), trivial⟩
    )
  refine g_iconst (v := 0) hX dX3_bitersOf_0 (by decide) ?_
  refine g_istore hX dX3_bitersOf_1 (by decide) ?_
  refine g_iconst (v := 0) hX dX3_bitersOf_3 (by decide) ?_
  refine g_istore hX dX3_bitersOf_4 (by decide) ?_
  exact G.at (loop 0 (Nat.zero_le _)) ⟨rfl, rfl, rfl, rfl, rfl, rfl, trivial⟩
set_option maxHeartbeats 4000000 in
set_option maxRecDepth 100000 in
theorem ok_mayBribe {w : WG} {I : SI} {L : SL} {v c k : Nat} (hV : VL w v) (hc : c < 4) (hk : k < 7) : Ok w mX3_mayBribe [.ref (gA w v), .int (nI c), .int (nI k)] I L (Pr (.int (b01 (inF (I v 2) (nI k) = 0 ∧ I (v + 6) k ≤ I (v + 2) c))) I L) := by
  refine Ok.of (by decide) (Nat.le_of_ble_eq_true rfl) (fun X hX => ?_)
  refine g_aload_n hX dX3_mayBribe_0 rfl rfl ?_
  refine g_iload_n hX dX3_mayBribe_1 rfl rfl ?_
  refine g_callVp _ hX dX3_mayBribe_2 k_X3_68 ⟨by decide, by decide⟩ (by decide) hV.k0 rfl rfl (ok_isAsleep hV _) rfl (Nat.le_of_ble_eq_true rfl) ?_
  refine g_if_ne (tgt := 27) hX dX3_mayBribe_5 (by decide) (fun c_5 => ?_) (fun c_5 => ?_)
  · refine g_iconst (v := 0) hX dX3_mayBribe_27 (by decide) ?_
    exact g_zret hX dX3_mayBribe_28 rfl rfl (⟨by simp [b01, c_5], rfl, rfl⟩)
  · refine g_aload_n hX dX3_mayBribe_8 rfl rfl ?_
    refine g_get3R hX 11 dX3_mayBribe_9 b_fl_X3_27 hV.k0 (by decide) hV.p11 ?_
    refine g_iload_n hX dX3_mayBribe_12 rfl rfl ?_
    refine g_ialdN hX dX3_mayBribe_13 hV.k6 (⟨rfl, by omega⟩) (by decide) ?_
    refine g_aload_n hX dX3_mayBribe_14 rfl rfl ?_
    refine g_get3R hX 7 dX3_mayBribe_15 b_fl_X3_15 hV.k0 (by decide) hV.p7 ?_
    refine g_iload_n hX dX3_mayBribe_18 rfl rfl ?_
    refine g_ialdN hX dX3_mayBribe_19 hV.k2 (⟨rfl, by omega⟩) (by decide) ?_
    refine g_icmp_gt (tgt := 27) hX dX3_mayBribe_20 (by decide) (fun c_20 => ?_) (fun c_20 => ?_)
    · refine g_iconst (v := 0) hX dX3_mayBribe_27 (by decide) ?_
      exact g_zret hX dX3_mayBribe_28 rfl rfl (⟨by simp [b01, Int32.not_le.mpr c_20], rfl, rfl⟩)
    · refine g_iconst (v := 1) hX dX3_mayBribe_23 (by decide) ?_
      refine g_goto (tgt := 28) hX dX3_mayBribe_24 (by decide) ?_
      exact g_zret hX dX3_mayBribe_28 rfl rfl (⟨by simp [b01, c_5, Int32.not_lt.mp c_20], rfl, rfl⟩)
set_option maxHeartbeats 4000000 in
set_option maxRecDepth 100000 in
theorem ok_empty_V {w : WG} {I : SI} {L : SL} {V : VS} {v : Nat} (hV : VL w v) : Ok w mX3_empty [.ref (gA w v)] (wV I v V) L (Vd I v (emV V) L (none)) := by
  refine Ok.of (by decide) (Nat.le_of_ble_eq_true rfl) (fun X hX => ?_)
  refine g_aload_n hX dX3_empty_0 rfl rfl ?_
  refine g_iconst (v := 0) hX dX3_empty_1 (by decide) ?_
  refine g_put3I hX 0 dX3_empty_2 b_fl_X3_39 hV.k0 pf3_0 ?_
  try simp (disch := decide) only [wV_0, wV_at, wV_rS, wV_rS0, rS_eq, rS_ne, rS_rS, pk_us, pk_un]
  refine g_aload_n hX dX3_empty_5 rfl rfl ?_
  refine g_iconst (v := 0) hX dX3_empty_6 (by decide) ?_
  refine g_put3I hX 1 dX3_empty_7 b_fl_X3_43 hV.k0 pf3_1 ?_
  try simp (disch := decide) only [wV_0, wV_at, wV_rS, wV_rS0, rS_eq, rS_ne, rS_rS, pk_us, pk_un]
  refine g_aload_n hX dX3_empty_10 rfl rfl ?_
  refine g_iconst (v := 0) hX dX3_empty_11 (by decide) ?_
  refine g_put3I hX 2 dX3_empty_12 b_fl_X3_46 hV.k0 pf3_2 ?_
  try simp (disch := decide) only [wV_0, wV_at, wV_rS, wV_rS0, rS_eq, rS_ne, rS_rS, pk_us, pk_un]
  refine g_aload_n hX dX3_empty_15 rfl rfl ?_
  refine g_iconst (v := 0) hX dX3_empty_16 (by decide) ?_
  refine g_put3I hX 3 dX3_empty_17 b_fl_X3_49 hV.k0 pf3_3 ?_
  try simp (disch := decide) only [wV_0, wV_at, wV_rS, wV_rS0, rS_eq, rS_ne, rS_rS, pk_us, pk_un]
  refine g_aload_n hX dX3_empty_20 rfl rfl ?_
  refine g_iconst (v := 0) hX dX3_empty_21 (by decide) ?_
  refine g_put3I hX 4 dX3_empty_22 b_fl_X3_52 hV.k0 pf3_4 ?_
  try simp (disch := decide) only [wV_0, wV_at, wV_rS, wV_rS0, rS_eq, rS_ne, rS_rS, pk_us, pk_un]
  refine g_aload_n hX dX3_empty_25 rfl rfl ?_
  refine g_iconst (v := 0) hX dX3_empty_26 (by decide) ?_
  refine g_put3I hX 5 dX3_empty_27 b_fl_X3_55 hV.k0 pf3_5 ?_
  try simp (disch := decide) only [wV_0, wV_at, wV_rS, wV_rS0, rS_eq, rS_ne, rS_rS, pk_us, pk_un]
  exact g_vret hX dX3_empty_30 rfl (⟨rfl, rfl, rfl⟩)
set_option maxHeartbeats 4000000 in
set_option maxRecDepth 100000 in
theorem ok_addMan_V {w : WG} {I : SI} {L : SL} {V : VS} {v n : Nat} (hV : VL w v) (hn : V 0 0 = nI n) (hn4 : n < 4) (b h : Int32) : Ok w mX3_addMan [.ref (gA w v), .int b, .int h] (wV I v V) L (Vd I v (manV V n b h) L (some (.int (nI n)))) := by
  refine Ok.of (by decide) (Nat.le_of_ble_eq_true rfl) (fun X hX => ?_)
  refine g_aload_n hX dX3_addMan_0 rfl rfl ?_
  refine g_get3R hX 6 dX3_addMan_1 b_fl_X3_9 hV.k0 (by decide) hV.p6 ?_
  refine g_aload_n hX dX3_addMan_4 rfl rfl ?_
  refine g_get3I hX 0 dX3_addMan_5 b_fl_X3_39 hV.k0 (by decide) ?_
  try simp (disch := decide) only [wV_0, wV_at, wV_rS, wV_rS0, rS_eq, rS_ne, rS_rS, pk_us, pk_un]
  refine g_iload_n hX dX3_addMan_8 rfl rfl ?_
  refine g_iastN hX dX3_addMan_9 hV.k1 (⟨hn, by omega⟩) (by decide) ?_
  try simp (disch := decide) only [wV_0, wV_at, wV_rS, wV_rS0, rS_eq, rS_ne, rS_rS, pk_us, pk_un]
  refine g_aload_n hX dX3_addMan_10 rfl rfl ?_
  refine g_get3R hX 7 dX3_addMan_11 b_fl_X3_15 hV.k0 (by decide) hV.p7 ?_
  refine g_aload_n hX dX3_addMan_14 rfl rfl ?_
  refine g_get3I hX 0 dX3_addMan_15 b_fl_X3_39 hV.k0 (by decide) ?_
  try simp (disch := decide) only [wV_0, wV_at, wV_rS, wV_rS0, rS_eq, rS_ne, rS_rS, pk_us, pk_un]
  refine g_iload_n hX dX3_addMan_18 rfl rfl ?_
  refine g_iastN hX dX3_addMan_19 hV.k2 (⟨hn, by omega⟩) (by decide) ?_
  try simp (disch := decide) only [wV_0, wV_at, wV_rS, wV_rS0, rS_eq, rS_ne, rS_rS, pk_us, pk_un]
  refine g_aload_n hX dX3_addMan_20 rfl rfl ?_
  refine g_get3R hX 8 dX3_addMan_21 b_fl_X3_18 hV.k0 (by decide) hV.p8 ?_
  refine g_aload_n hX dX3_addMan_24 rfl rfl ?_
  refine g_get3I hX 0 dX3_addMan_25 b_fl_X3_39 hV.k0 (by decide) ?_
  try simp (disch := decide) only [wV_0, wV_at, wV_rS, wV_rS0, rS_eq, rS_ne, rS_rS, pk_us, pk_un]
  refine g_iconst (v := 0) hX dX3_addMan_28 (by decide) ?_
  refine g_iastN hX dX3_addMan_29 hV.k3 (⟨hn, by omega⟩) (by decide) ?_
  try simp (disch := decide) only [wV_0, wV_at, wV_rS, wV_rS0, rS_eq, rS_ne, rS_rS, pk_us, pk_un]
  refine g_aload_n hX dX3_addMan_30 rfl rfl ?_
  refine g_iconst (v := 0) hX dX3_addMan_31 (by decide) ?_
  refine g_put3I hX 5 dX3_addMan_32 b_fl_X3_55 hV.k0 pf3_5 ?_
  try simp (disch := decide) only [wV_0, wV_at, wV_rS, wV_rS0, rS_eq, rS_ne, rS_rS, pk_us, pk_un]
  refine g_aload_n hX dX3_addMan_35 rfl rfl ?_
  refine g_dup hX dX3_addMan_36 rfl ?_
  refine g_get3I hX 0 dX3_addMan_37 b_fl_X3_39 hV.k0 (by decide) ?_
  try simp (disch := decide) only [wV_0, wV_at, wV_rS, wV_rS0, rS_eq, rS_ne, rS_rS, pk_us, pk_un]
  refine g_dup_x1 hX dX3_addMan_40 rfl rfl ?_
  refine g_iconst (v := 1) hX dX3_addMan_41 (by decide) ?_
  refine g_iadd hX dX3_addMan_42 ?_
  refine g_put3I hX 0 dX3_addMan_43 b_fl_X3_39 hV.k0 pf3_0 ?_
  try simp (disch := decide) only [wV_0, wV_at, wV_rS, wV_rS0, rS_eq, rS_ne, rS_rS, pk_us, pk_un]
  exact g_iret hX dX3_addMan_46 rfl (⟨by rw [hn], by rw [manV, hn], rfl⟩)
set_option maxHeartbeats 4000000 in
set_option maxRecDepth 100000 in
theorem ok_addDog_V {w : WG} {I : SI} {L : SL} {V : VS} {v d : Nat} (hV : VL w v) (hd : V 0 1 = nI d) (hd7 : d < 7) (k x h f : Int32) : Ok w mX3_addDog [.ref (gA w v), .int k, .int x, .int h, .int f] (wV I v V) L (Vd I v (dogV V d k x h f) L (some (.int (nI d)))) := by
  refine Ok.of (by decide) (Nat.le_of_ble_eq_true rfl) (fun X hX => ?_)
  refine g_aload_n hX dX3_addDog_0 rfl rfl ?_
  refine g_get3R hX 9 dX3_addDog_1 b_fl_X3_21 hV.k0 (by decide) hV.p9 ?_
  refine g_aload_n hX dX3_addDog_4 rfl rfl ?_
  refine g_get3I hX 1 dX3_addDog_5 b_fl_X3_43 hV.k0 (by decide) ?_
  try simp (disch := decide) only [wV_0, wV_at, wV_rS, wV_rS0, rS_eq, rS_ne, rS_rS, pk_us, pk_un]
  refine g_iload_n hX dX3_addDog_8 rfl rfl ?_
  refine g_iastN hX dX3_addDog_9 hV.k4 (⟨hd, by omega⟩) (by decide) ?_
  try simp (disch := decide) only [wV_0, wV_at, wV_rS, wV_rS0, rS_eq, rS_ne, rS_rS, pk_us, pk_un]
  refine g_aload_n hX dX3_addDog_10 rfl rfl ?_
  refine g_get3R hX 10 dX3_addDog_11 b_fl_X3_24 hV.k0 (by decide) hV.p10 ?_
  refine g_aload_n hX dX3_addDog_14 rfl rfl ?_
  refine g_get3I hX 1 dX3_addDog_15 b_fl_X3_43 hV.k0 (by decide) ?_
  try simp (disch := decide) only [wV_0, wV_at, wV_rS, wV_rS0, rS_eq, rS_ne, rS_rS, pk_us, pk_un]
  refine g_iload_n hX dX3_addDog_18 rfl rfl ?_
  refine g_iastN hX dX3_addDog_19 hV.k5 (⟨hd, by omega⟩) (by decide) ?_
  try simp (disch := decide) only [wV_0, wV_at, wV_rS, wV_rS0, rS_eq, rS_ne, rS_rS, pk_us, pk_un]
  refine g_aload_n hX dX3_addDog_20 rfl rfl ?_
  refine g_get3R hX 11 dX3_addDog_21 b_fl_X3_27 hV.k0 (by decide) hV.p11 ?_
  refine g_aload_n hX dX3_addDog_24 rfl rfl ?_
  refine g_get3I hX 1 dX3_addDog_25 b_fl_X3_43 hV.k0 (by decide) ?_
  try simp (disch := decide) only [wV_0, wV_at, wV_rS, wV_rS0, rS_eq, rS_ne, rS_rS, pk_us, pk_un]
  refine g_iload_n hX dX3_addDog_28 rfl rfl ?_
  refine g_iastN hX dX3_addDog_29 hV.k6 (⟨hd, by omega⟩) (by decide) ?_
  try simp (disch := decide) only [wV_0, wV_at, wV_rS, wV_rS0, rS_eq, rS_ne, rS_rS, pk_us, pk_un]
  refine g_aload_n hX dX3_addDog_30 rfl rfl ?_
  refine g_get3R hX 12 dX3_addDog_31 b_fl_X3_30 hV.k0 (by decide) hV.p12 ?_
  refine g_aload_n hX dX3_addDog_34 rfl rfl ?_
  refine g_get3I hX 1 dX3_addDog_35 b_fl_X3_43 hV.k0 (by decide) ?_
  try simp (disch := decide) only [wV_0, wV_at, wV_rS, wV_rS0, rS_eq, rS_ne, rS_rS, pk_us, pk_un]
  refine g_iload hX dX3_addDog_38 rfl ?_
  refine g_iastN hX dX3_addDog_40 hV.k7 (⟨hd, by omega⟩) (by decide) ?_
  try simp (disch := decide) only [wV_0, wV_at, wV_rS, wV_rS0, rS_eq, rS_ne, rS_rS, pk_us, pk_un]
  refine g_aload_n hX dX3_addDog_41 rfl rfl ?_
  refine g_iconst (v := 0) hX dX3_addDog_42 (by decide) ?_
  refine g_put3I hX 5 dX3_addDog_43 b_fl_X3_55 hV.k0 pf3_5 ?_
  try simp (disch := decide) only [wV_0, wV_at, wV_rS, wV_rS0, rS_eq, rS_ne, rS_rS, pk_us, pk_un]
  refine g_aload_n hX dX3_addDog_46 rfl rfl ?_
  refine g_dup hX dX3_addDog_47 rfl ?_
  refine g_get3I hX 1 dX3_addDog_48 b_fl_X3_43 hV.k0 (by decide) ?_
  try simp (disch := decide) only [wV_0, wV_at, wV_rS, wV_rS0, rS_eq, rS_ne, rS_rS, pk_us, pk_un]
  refine g_dup_x1 hX dX3_addDog_51 rfl rfl ?_
  refine g_iconst (v := 1) hX dX3_addDog_52 (by decide) ?_
  refine g_iadd hX dX3_addDog_53 ?_
  refine g_put3I hX 1 dX3_addDog_54 b_fl_X3_43 hV.k0 pf3_1 ?_
  try simp (disch := decide) only [wV_0, wV_at, wV_rS, wV_rS0, rS_eq, rS_ne, rS_rS, pk_us, pk_un]
  exact g_iret hX dX3_addDog_57 rfl (⟨by rw [hd], by rw [dogV, hd], rfl⟩)
set_option maxHeartbeats 4000000 in
set_option maxRecDepth 100000 in
theorem ok_putToSleep_V {w : WG} {I : SI} {L : SL} {V : VS} {v c k : Nat} (hV : VL w v) (hc : c < 4) (hk : k < 7) : Ok w mX3_putToSleep [.ref (gA w v), .int (nI c), .int (nI k)] (wV I v V) L (Vd I v (putV V c k) L (none)) := by
  refine Ok.of (by decide) (Nat.le_of_ble_eq_true rfl) (fun X hX => ?_)
  refine g_aload_n hX dX3_putToSleep_0 rfl rfl ?_
  refine g_dup hX dX3_putToSleep_1 rfl ?_
  refine g_get3I hX 2 dX3_putToSleep_2 b_fl_X3_46 hV.k0 (by decide) ?_
  try simp (disch := decide) only [wV_0, wV_at, wV_rS, wV_rS0, rS_eq, rS_ne, rS_rS, pk_us, pk_un]
  refine g_iconst (v := 1) hX dX3_putToSleep_5 (by decide) ?_
  refine g_iload_n hX dX3_putToSleep_6 rfl rfl ?_
  refine g_ishl hX dX3_putToSleep_7 ?_
  refine g_ior hX dX3_putToSleep_8 ?_
  refine g_put3I hX 2 dX3_putToSleep_9 b_fl_X3_46 hV.k0 pf3_2 ?_
  try simp (disch := decide) only [wV_0, wV_at, wV_rS, wV_rS0, rS_eq, rS_ne, rS_rS, pk_us, pk_un]
  refine g_aload_n hX dX3_putToSleep_12 rfl rfl ?_
  refine g_get3R hX 7 dX3_putToSleep_13 b_fl_X3_15 hV.k0 (by decide) hV.p7 ?_
  refine g_iload_n hX dX3_putToSleep_16 rfl rfl ?_
  refine g_dup2 hX dX3_putToSleep_17 rfl rfl ?_
  refine g_ialdN hX dX3_putToSleep_18 hV.k2 (⟨rfl, by omega⟩) (by decide) ?_
  try simp (disch := decide) only [wV_0, wV_at, wV_rS, wV_rS0, rS_eq, rS_ne, rS_rS, pk_us, pk_un]
  refine g_aload_n hX dX3_putToSleep_19 rfl rfl ?_
  refine g_get3R hX 11 dX3_putToSleep_20 b_fl_X3_27 hV.k0 (by decide) hV.p11 ?_
  refine g_iload_n hX dX3_putToSleep_23 rfl rfl ?_
  refine g_ialdN hX dX3_putToSleep_24 hV.k6 (⟨rfl, by omega⟩) (by decide) ?_
  try simp (disch := decide) only [wV_0, wV_at, wV_rS, wV_rS0, rS_eq, rS_ne, rS_rS, pk_us, pk_un]
  refine g_isub hX dX3_putToSleep_25 ?_
  refine g_iastN hX dX3_putToSleep_26 hV.k2 (⟨rfl, by omega⟩) (by decide) ?_
  try simp (disch := decide) only [wV_0, wV_at, wV_rS, wV_rS0, rS_eq, rS_ne, rS_rS, pk_us, pk_un]
  exact g_vret hX dX3_putToSleep_27 rfl (⟨rfl, rfl, rfl⟩)
set_option maxHeartbeats 4000000 in
set_option maxRecDepth 100000 in
theorem ok_addNote_V {w : WG} {I : SI} {L : SL} {V : VS} {v q : Nat} (hV : VL w v) (hq : V 0 4 = nI q) (hq6 : q < 6) (k f b t : Int32) : Ok w mX3_addNote [.ref (gA w v), .int k, .int f, .int b, .int t] (wV I v V) L (Vd I v (noteV V q k f b t) L (some (.int (nI q + 1)))) := by
  refine Ok.of (by decide) (Nat.le_of_ble_eq_true rfl) (fun X hX => ?_)
  refine g_aload_n hX dX3_addNote_0 rfl rfl ?_
  refine g_get3I hX 4 dX3_addNote_1 b_fl_X3_52 hV.k0 (by decide) ?_
  try simp (disch := decide) only [wV_0, wV_at, wV_rS, wV_rS0, rS_eq, rS_ne, rS_rS, pk_us, pk_un]
  rw [hq]
  refine g_iconst (v := 4) hX dX3_addNote_4 (by decide) ?_
  refine g_imul hX dX3_addNote_5 ?_
  rw [show (4 : Int32) = nI 4 from rfl, pk_mul]
  refine g_istore hX dX3_addNote_6 (by decide) ?_
  refine g_aload_n hX dX3_addNote_8 rfl rfl ?_
  refine g_get3R hX 13 dX3_addNote_9 b_fl_X3_33 hV.k0 (by decide) hV.p13 ?_
  refine g_iload hX dX3_addNote_12 rfl ?_
  refine g_iload_n hX dX3_addNote_14 rfl rfl ?_
  refine g_iastN hX dX3_addNote_15 hV.k8 (⟨rfl, by omega⟩) (by decide) ?_
  try simp (disch := decide) only [wV_0, wV_at, wV_rS, wV_rS0, rS_eq, rS_ne, rS_rS, pk_us, pk_un]
  refine g_aload_n hX dX3_addNote_16 rfl rfl ?_
  refine g_get3R hX 13 dX3_addNote_17 b_fl_X3_33 hV.k0 (by decide) hV.p13 ?_
  refine g_iload hX dX3_addNote_20 rfl ?_
  refine g_iconst (v := 1) hX dX3_addNote_22 (by decide) ?_
  refine g_iadd hX dX3_addNote_23 ?_
  refine g_iload_n hX dX3_addNote_24 rfl rfl ?_
  refine g_iastN hX dX3_addNote_25 hV.k8 (⟨nI_1 _, by omega⟩) (by decide) ?_
  try simp (disch := decide) only [wV_0, wV_at, wV_rS, wV_rS0, rS_eq, rS_ne, rS_rS, pk_us, pk_un]
  refine g_aload_n hX dX3_addNote_26 rfl rfl ?_
  refine g_get3R hX 13 dX3_addNote_27 b_fl_X3_33 hV.k0 (by decide) hV.p13 ?_
  refine g_iload hX dX3_addNote_30 rfl ?_
  refine g_iconst (v := 2) hX dX3_addNote_32 (by decide) ?_
  refine g_iadd hX dX3_addNote_33 ?_
  refine g_iload_n hX dX3_addNote_34 rfl rfl ?_
  refine g_iastN hX dX3_addNote_35 hV.k8 (⟨nI_add _ 2, by omega⟩) (by decide) ?_
  try simp (disch := decide) only [wV_0, wV_at, wV_rS, wV_rS0, rS_eq, rS_ne, rS_rS, pk_us, pk_un]
  refine g_aload_n hX dX3_addNote_36 rfl rfl ?_
  refine g_get3R hX 13 dX3_addNote_37 b_fl_X3_33 hV.k0 (by decide) hV.p13 ?_
  refine g_iload hX dX3_addNote_40 rfl ?_
  refine g_iconst (v := 3) hX dX3_addNote_42 (by decide) ?_
  refine g_iadd hX dX3_addNote_43 ?_
  refine g_iload hX dX3_addNote_44 rfl ?_
  refine g_iastN hX dX3_addNote_46 hV.k8 (⟨nI_add _ 3, by omega⟩) (by decide) ?_
  try simp (disch := decide) only [wV_0, wV_at, wV_rS, wV_rS0, rS_eq, rS_ne, rS_rS, pk_us, pk_un]
  refine g_aload_n hX dX3_addNote_47 rfl rfl ?_
  refine g_dup hX dX3_addNote_48 rfl ?_
  refine g_get3I hX 4 dX3_addNote_49 b_fl_X3_52 hV.k0 (by decide) ?_
  try simp (disch := decide) only [wV_0, wV_at, wV_rS, wV_rS0, rS_eq, rS_ne, rS_rS, pk_us, pk_un]
  refine g_iconst (v := 1) hX dX3_addNote_52 (by decide) ?_
  refine g_iadd hX dX3_addNote_53 ?_
  refine g_put3I hX 4 dX3_addNote_54 b_fl_X3_52 hV.k0 pf3_4 ?_
  try simp (disch := decide) only [wV_0, wV_at, wV_rS, wV_rS0, rS_eq, rS_ne, rS_rS, pk_us, pk_un]
  refine g_aload_n hX dX3_addNote_57 rfl rfl ?_
  refine g_get3I hX 4 dX3_addNote_58 b_fl_X3_52 hV.k0 (by decide) ?_
  try simp (disch := decide) only [wV_0, wV_at, wV_rS, wV_rS0, rS_eq, rS_ne, rS_rS, pk_us, pk_un]
  exact g_iret hX dX3_addNote_61 rfl (⟨by rw [hq], by rw [noteV, hq], rfl⟩)
