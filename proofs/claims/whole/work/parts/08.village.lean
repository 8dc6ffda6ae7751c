theorem inF_nar (s k : Int32) : narrow .boolean (.int (inF s k)) = .int (inF s k) := by
  rcases inF_01 s k with h | h <;> rw [h] <;> rfl
set_option maxHeartbeats 4000000 in
set_option maxRecDepth 100000 in
theorem ok_isAsleep {w : WG} {I : SI} {L : SL} {v : Nat} (hV : VL w v) (k : Int32) : Ok w mX3_isAsleep [.ref (gA w v), .int k] I L (Pr (.int (inF (I v 2) k)) I L) := by
  refine Ok.of (by decide) (Nat.le_of_ble_eq_true rfl) (fun X hX => ?_)
  refine g_aload_n hX dX3_isAsleep_0 rfl rfl ?_
  refine g_get3I hX 2 dX3_isAsleep_1 b_fl_X3_46 hV.k0 (by decide) ?_
  refine g_iload_n hX dX3_isAsleep_4 rfl rfl ?_
  refine g_callSp _ hX dX3_isAsleep_5 k_X3_64 ⟨by decide, by decide⟩ rfl (ok_isIn _ _) rfl (Nat.le_of_ble_eq_true rfl) ?_
  exact g_zret hX dX3_isAsleep_8 rfl (inF_nar _ _) (⟨rfl, rfl, rfl⟩)
set_option maxHeartbeats 4000000 in
set_option maxRecDepth 100000 in
theorem ok_everyDog {w : WG} {I : SI} {L : SL} {v : Nat} (hV : VL w v) : Ok w mX3_everyDog [.ref (gA w v)] I L (Pr (.int (((1 : Int32) <<< (I v 1 &&& 31)) - 1)) I L) := by
  refine Ok.of (by decide) (Nat.le_of_ble_eq_true rfl) (fun X hX => ?_)
  refine g_iconst (v := 1) hX dX3_everyDog_0 (by decide) ?_
  refine g_aload_n hX dX3_everyDog_1 rfl rfl ?_
  refine g_get3I hX 1 dX3_everyDog_2 b_fl_X3_43 hV.k0 (by decide) ?_
  refine g_ishl hX dX3_everyDog_5 ?_
  refine g_iconst (v := 1) hX dX3_everyDog_6 (by decide) ?_
  refine g_isub hX dX3_everyDog_7 ?_
  exact g_iret hX dX3_everyDog_8 rfl (⟨rfl, rfl, rfl⟩)
set_option maxHeartbeats 4000000 in
set_option maxRecDepth 100000 in
theorem ok_hasMan {w : WG} {I : SI} {L : SL} {v : Nat} (hV : VL w v) (c : Int32) : Ok w mX3_hasMan [.ref (gA w v), .int c] I L (Pr (.int (b01 (0 ≤ c ∧ c < I v 0))) I L) := by
  refine Ok.of (by decide) (Nat.le_of_ble_eq_true rfl) (fun X hX => ?_)
  refine g_iload_n hX dX3_hasMan_0 rfl rfl ?_
  refine g_if_lt (tgt := 16) hX dX3_hasMan_1 (by decide) (fun c_1 => ?_) (fun c_1 => ?_)
  · refine g_iconst (v := 0) hX dX3_hasMan_16 (by decide) ?_
    exact g_zret hX dX3_hasMan_17 rfl rfl (⟨by simp [b01, Int32.not_le.mpr c_1], rfl, rfl⟩)
  · refine g_iload_n hX dX3_hasMan_4 rfl rfl ?_
    refine g_aload_n hX dX3_hasMan_5 rfl rfl ?_
    refine g_get3I hX 0 dX3_hasMan_6 b_fl_X3_39 hV.k0 (by decide) ?_
    refine g_icmp_ge (tgt := 16) hX dX3_hasMan_9 (by decide) (fun c_9 => ?_) (fun c_9 => ?_)
    · refine g_iconst (v := 0) hX dX3_hasMan_16 (by decide) ?_
      exact g_zret hX dX3_hasMan_17 rfl rfl (⟨by simp [b01, Int32.not_lt.mpr c_9], rfl, rfl⟩)
    · refine g_iconst (v := 1) hX dX3_hasMan_12 (by decide) ?_
      refine g_goto (tgt := 17) hX dX3_hasMan_13 (by decide) ?_
      exact g_zret hX dX3_hasMan_17 rfl rfl (⟨by simp [b01, Int32.not_lt.mp c_1, Int32.not_le.mp c_9], rfl, rfl⟩)
set_option maxHeartbeats 4000000 in
set_option maxRecDepth 100000 in
theorem ok_hasDog {w : WG} {I : SI} {L : SL} {v : Nat} (hV : VL w v) (c : Int32) : Ok w mX3_hasDog [.ref (gA w v), .int c] I L (Pr (.int (b01 (0 ≤ c ∧ c < I v 1))) I L) := by
  refine Ok.of (by decide) (Nat.le_of_ble_eq_true rfl) (fun X hX => ?_)
  refine g_iload_n hX dX3_hasDog_0 rfl rfl ?_
  refine g_if_lt (tgt := 16) hX dX3_hasDog_1 (by decide) (fun c_1 => ?_) (fun c_1 => ?_)
  · refine g_iconst (v := 0) hX dX3_hasDog_16 (by decide) ?_
    exact g_zret hX dX3_hasDog_17 rfl rfl (⟨by simp [b01, Int32.not_le.mpr c_1], rfl, rfl⟩)
  · refine g_iload_n hX dX3_hasDog_4 rfl rfl ?_
    refine g_aload_n hX dX3_hasDog_5 rfl rfl ?_
    refine g_get3I hX 1 dX3_hasDog_6 b_fl_X3_43 hV.k0 (by decide) ?_
    refine g_icmp_ge (tgt := 16) hX dX3_hasDog_9 (by decide) (fun c_9 => ?_) (fun c_9 => ?_)
    · refine g_iconst (v := 0) hX dX3_hasDog_16 (by decide) ?_
      exact g_zret hX dX3_hasDog_17 rfl rfl (⟨by simp [b01, Int32.not_lt.mpr c_9], rfl, rfl⟩)
    · refine g_iconst (v := 1) hX dX3_hasDog_12 (by decide) ?_
      refine g_goto (tgt := 17) hX dX3_hasDog_13 (by decide) ?_
      exact g_zret hX dX3_hasDog_17 rfl rfl (⟨by simp [b01, Int32.not_lt.mp c_1, Int32.not_le.mp c_9], rfl, rfl⟩)
set_option maxHeartbeats 4000000 in
set_option maxRecDepth 100000 in
theorem ok_startOf {w : WG} {I : SI} {L : SL} {v n r : Nat} (hV : VL w v) (hn : I v 0 = nI n) (hn4 : n ≤ 4) (hr : r < 2 ^ 31) : Ok w mX3_startOf [.ref (gA w v), .int (nI r)] I L (Pr (.int (nI (stF n r))) I L) := by
  refine Ok.of (by decide) (Nat.le_of_ble_eq_true rfl) (fun X hX => ?_)
  refine g_aload_n hX dX3_startOf_0 rfl rfl ?_
  refine g_get3I hX 0 dX3_startOf_1 b_fl_X3_39 hV.k0 (by decide) ?_
  rw [hn]
  refine g_if_ne (tgt := 11) hX dX3_startOf_4 (by decide) (fun c_4 => ?_) (fun c_4 => ?_)
  · refine g_iload_n hX dX3_startOf_11 rfl rfl ?_
    refine g_aload_n hX dX3_startOf_12 rfl rfl ?_
    refine g_get3I hX 0 dX3_startOf_13 b_fl_X3_39 hV.k0 (by decide) ?_
    rw [hn]
    refine g_irem hX dX3_startOf_16 (c_4) ?_
    exact g_iret hX dX3_startOf_17 rfl (⟨by rw [stF, if_neg (fun e => c_4 (by rw [e]; rfl)), pk_rem hr (Nat.pos_of_ne_zero (fun e => c_4 (by rw [e]; rfl))) (by omega)], rfl, rfl⟩)
  · refine g_iconst (v := 0) hX dX3_startOf_7 (by decide) ?_
    refine g_goto (tgt := 17) hX dX3_startOf_8 (by decide) ?_
    exact g_iret hX dX3_startOf_17 rfl (⟨by rw [stF, if_pos ((nI_eq (by omega) (by decide)).mp c_4)]; rfl, rfl, rfl⟩)
set_option maxHeartbeats 4000000 in
set_option maxRecDepth 100000 in
theorem ok_hungerOf {w : WG} {I : SI} {L : SL} {v d : Nat} (hV : VL w v) (hd : I v 1 = nI d) (hd7 : d ≤ 7) (s : Int32) : Ok w mX3_hungerOf [.ref (gA w v), .int s] I L (Pr (.int (hgF (I (v + 6)) s d)) I L) := by
  refine Ok.of (by decide) (Nat.le_of_ble_eq_true rfl) (fun X hX => ?_)
  have loop := loop_up (n := d) (P := fun k => G X w mX3_hungerOf I L 4 (lvO [(0, .ref (gA w v)), (1, .int s), (2, .int (hgF (I (v + 6)) s k)), (3, .int (nI k))]) []) (fun k hk ih => by
    refine g_iload_n hX dX3_hungerOf_4 rfl rfl ?_
    refine g_aload_n hX dX3_hungerOf_5 rfl rfl ?_
    refine g_get3I hX 1 dX3_hungerOf_6 b_fl_X3_43 hV.k0 (by decide) ?_
    rw [hd]
    refine g_icmp_ge (tgt := 35) hX dX3_hungerOf_9 (by decide) (fun c_9 => ?_) (fun c_9 => ?_)
    · refine g_iload_n hX dX3_hungerOf_35 rfl rfl ?_
      exact g_iret hX dX3_hungerOf_36 rfl (⟨by rw [show k = d from Nat.le_antisymm hk (nle c_9 (by omega) (by omega))], rfl, rfl⟩)
    · have hlt := nnle c_9 (by omega) (by omega)
      refine g_iload_n hX dX3_hungerOf_12 rfl rfl ?_
      refine g_iload_n hX dX3_hungerOf_13 rfl rfl ?_
      refine g_callSp _ hX dX3_hungerOf_14 k_X3_64 ⟨by decide, by decide⟩ rfl (ok_isIn _ _) rfl (Nat.le_of_ble_eq_true rfl) ?_
      refine g_if_eq (tgt := 29) hX dX3_hungerOf_17 (by decide) (fun c_17 => ?_) (fun c_17 => ?_)
      · refine g_iinc hX dX3_hungerOf_29 rfl (d := 1) (by decide) ?_
        refine g_goto (tgt := 4) hX dX3_hungerOf_32 (by decide) ?_
        exact G.at (ih hlt) ⟨rfl, rfl, vI (by simp [hgF, c_17]), vI (nI_1 k), trivial⟩
      · refine g_iload_n hX dX3_hungerOf_20 rfl rfl ?_
        refine g_aload_n hX dX3_hungerOf_21 rfl rfl ?_
        refine g_get3R hX 11 dX3_hungerOf_22 b_fl_X3_27 hV.k0 (by decide) hV.p11 ?_
        refine g_iload_n hX dX3_hungerOf_25 rfl rfl ?_
        refine g_ialdN hX dX3_hungerOf_26 hV.k6 (⟨rfl, by omega⟩) (by decide) ?_
        refine g_iadd hX dX3_hungerOf_27 ?_
        refine g_istore_n hX dX3_hungerOf_28 rfl (by decide) ?_
        refine g_iinc hX dX3_hungerOf_29 rfl (d := 1) (by decide) ?_
        refine g_goto (tgt := 4) hX dX3_hungerOf_32 (by decide) ?_
        exact G.at (ih hlt) ⟨rfl, rfl, vI (by simp [hgF, c_17]), vI (nI_1 k), trivial⟩
    )
  refine g_iconst (v := 0) hX dX3_hungerOf_0 (by decide) ?_
  refine g_istore_n hX dX3_hungerOf_1 rfl (by decide) ?_
  refine g_iconst (v := 0) hX dX3_hungerOf_2 (by decide) ?_
  refine g_istore_n hX dX3_hungerOf_3 rfl (by decide) ?_
  exact G.at (loop 0 (Nat.zero_le _)) ⟨rfl, rfl, rfl, rfl, trivial⟩
set_option maxHeartbeats 4000000 in
set_option maxRecDepth 100000 in
theorem ok_bittenBy {w : WG} {I : SI} {L : SL} {v n k a : Nat} (hV : VL w v) (hn : I v 0 = nI n) (hn4 : n ≤ 4) (hk7 : k < 7) (ha : a < 2000) : Ok w mX3_bittenBy [.ref (gA w v), .int (nI k), .int (nI a)] I L (Pr (.int (bbR (I (v + 4)) (I (v + 7)) (I (v + 1)) n k a)) I L) := by
  refine Ok.of (by decide) (Nat.le_of_ble_eq_true rfl) (fun X hX => ?_)
  have loop := loop_up (n := n) (P := fun i => G X w mX3_bittenBy I L 16 (lvO [(0, .ref (gA w v)), (1, .int (nI k)), (2, .int (nI a)), (3, .int (bbS (I (v + 4) k) (I (v + 7) k) (I (v + 1)) n a i).1), (4, .int (bbS (I (v + 4) k) (I (v + 7) k) (I (v + 1)) n a i).2), (5, .int (nI i))]) []) (fun i hk ih => by
    refine g_iload hX dX3_bittenBy_16 rfl ?_
    refine g_aload_n hX dX3_bittenBy_18 rfl rfl ?_
    refine g_get3I hX 0 dX3_bittenBy_19 b_fl_X3_39 hV.k0 (by decide) ?_
    rw [hn]
    refine g_icmp_ge (tgt := 92) hX dX3_bittenBy_22 (by decide) (fun c_22 => ?_) (fun c_22 => ?_)
    · refine g_iload_n hX dX3_bittenBy_92 rfl rfl ?_
      exact g_iret hX dX3_bittenBy_93 rfl (⟨by rw [bbR, show i = n from Nat.le_antisymm hk (nle c_22 (by omega) (by omega))], rfl, rfl⟩)
    · have hlt := nnle c_22 (by omega) (by omega)
      refine g_iload hX dX3_bittenBy_25 rfl ?_
      refine g_if_le (tgt := 92) hX dX3_bittenBy_27 (by decide) (fun c_27 => ?_) (fun c_27 => ?_)
      · refine g_iload_n hX dX3_bittenBy_92 rfl rfl ?_
        exact g_iret hX dX3_bittenBy_93 rfl (⟨by rw [bbR, show bbS (I (v + 4) k) (I (v + 7) k) (I (v + 1)) n a n = bbS (I (v + 4) k) (I (v + 7) k) (I (v + 1)) n a i by have := bbS_done (Int32.not_lt.mpr c_27) (n - i); rwa [show i + (n - i) = n by omega] at this], rfl, rfl⟩)
      · refine g_iload_n hX dX3_bittenBy_30 rfl rfl ?_
        refine g_iload hX dX3_bittenBy_31 rfl ?_
        refine g_iadd hX dX3_bittenBy_33 ?_
        refine g_aload_n hX dX3_bittenBy_34 rfl rfl ?_
        refine g_get3I hX 0 dX3_bittenBy_35 b_fl_X3_39 hV.k0 (by decide) ?_
        rw [nI_add, hn]
        refine g_irem hX dX3_bittenBy_38 (nI_ne0 (by omega) (by omega)) ?_
        rw [pk_rem (by omega) (by omega) (by omega)]
        refine g_istore hX dX3_bittenBy_39 (by decide) ?_
        have hc4 : (a + i) % n < n := Nat.mod_lt _ (by omega)
        refine g_aload_n hX dX3_bittenBy_41 rfl rfl ?_
        refine g_get3R hX 9 dX3_bittenBy_42 b_fl_X3_21 hV.k0 (by decide) hV.p9 ?_
        refine g_iload_n hX dX3_bittenBy_45 rfl rfl ?_
        refine g_ialdN hX dX3_bittenBy_46 hV.k4 (⟨rfl, by omega⟩) (by decide) ?_
        refine g_aload_n hX dX3_bittenBy_47 rfl rfl ?_
        refine g_get3R hX 12 dX3_bittenBy_48 b_fl_X3_30 hV.k0 (by decide) hV.p12 ?_
        refine g_iload_n hX dX3_bittenBy_51 rfl rfl ?_
        refine g_ialdN hX dX3_bittenBy_52 hV.k7 (⟨rfl, by omega⟩) (by decide) ?_
        refine g_iload hX dX3_bittenBy_53 rfl ?_
        refine g_icmp_ne (tgt := 62) hX dX3_bittenBy_55 (by decide) (fun c_55 => ?_) (fun c_55 => ?_)
        · refine g_iconst (v := 0) hX dX3_bittenBy_62 (by decide) ?_
          refine g_aload_n hX dX3_bittenBy_63 rfl rfl ?_
          refine g_get3R hX 6 dX3_bittenBy_64 b_fl_X3_9 hV.k0 (by decide) hV.p6 ?_
          refine g_iload hX dX3_bittenBy_67 rfl ?_
          refine g_ialdN hX dX3_bittenBy_69 hV.k1 (⟨rfl, by omega⟩) (by decide) ?_
          refine g_callSp _ hX dX3_bittenBy_70 k_X3_78 ⟨by decide, by decide⟩ rfl (ok_wouldBite _ _ _) rfl (Nat.le_of_ble_eq_true rfl) ?_
          refine g_if_eq (tgt := 86) hX dX3_bittenBy_73 (by decide) (fun c_73 => ?_) (fun c_73 => ?_)
          · refine g_iinc hX dX3_bittenBy_86 rfl (d := 1) (by decide) ?_
            refine g_goto (tgt := 16) hX dX3_bittenBy_89 (by decide) ?_
            exact G.at (ih hlt) ⟨rfl, rfl, rfl, vI (by rw [bbS_no (by first | (rw [show b01 _ = (1 : Int32) from if_pos c_55]; exact c_73) | (rw [show b01 _ = (0 : Int32) from if_neg c_55]; exact c_73))]), vI (by rw [bbS_no (by first | (rw [show b01 _ = (1 : Int32) from if_pos c_55]; exact c_73) | (rw [show b01 _ = (0 : Int32) from if_neg c_55]; exact c_73))]), vI (nI_1 i), trivial⟩
          · refine g_iload_n hX dX3_bittenBy_76 rfl rfl ?_
            refine g_iconst (v := 1) hX dX3_bittenBy_77 (by decide) ?_
            refine g_iload hX dX3_bittenBy_78 rfl ?_
            refine g_ishl hX dX3_bittenBy_80 ?_
            refine g_ior hX dX3_bittenBy_81 ?_
            refine g_istore_n hX dX3_bittenBy_82 rfl (by decide) ?_
            refine g_iinc hX dX3_bittenBy_83 rfl (d := -1) (by decide) ?_
            refine g_iinc hX dX3_bittenBy_86 rfl (d := 1) (by decide) ?_
            refine g_goto (tgt := 16) hX dX3_bittenBy_89 (by decide) ?_
            exact G.at (ih hlt) ⟨rfl, rfl, rfl, vI (by rw [bbS_yes c_27 (by first | (rw [show b01 _ = (1 : Int32) from if_pos c_55]; exact c_73) | (rw [show b01 _ = (0 : Int32) from if_neg c_55]; exact c_73))]), vI (by rw [bbS_yes c_27 (by first | (rw [show b01 _ = (1 : Int32) from if_pos c_55]; exact c_73) | (rw [show b01 _ = (0 : Int32) from if_neg c_55]; exact c_73))]), vI (nI_1 i), trivial⟩
        · refine g_iconst (v := 1) hX dX3_bittenBy_58 (by decide) ?_
          refine g_goto (tgt := 63) hX dX3_bittenBy_59 (by decide) ?_
          refine g_aload_n hX dX3_bittenBy_63 rfl rfl ?_
          refine g_get3R hX 6 dX3_bittenBy_64 b_fl_X3_9 hV.k0 (by decide) hV.p6 ?_
          refine g_iload hX dX3_bittenBy_67 rfl ?_
          refine g_ialdN hX dX3_bittenBy_69 hV.k1 (⟨rfl, by omega⟩) (by decide) ?_
          refine g_callSp _ hX dX3_bittenBy_70 k_X3_78 ⟨by decide, by decide⟩ rfl (ok_wouldBite _ _ _) rfl (Nat.le_of_ble_eq_true rfl) ?_
          refine g_if_eq (tgt := 86) hX dX3_bittenBy_73 (by decide) (fun c_73 => ?_) (fun c_73 => ?_)
          · refine g_iinc hX dX3_bittenBy_86 rfl (d := 1) (by decide) ?_
            refine g_goto (tgt := 16) hX dX3_bittenBy_89 (by decide) ?_
            exact G.at (ih hlt) ⟨rfl, rfl, rfl, vI (by rw [bbS_no (by first | (rw [show b01 _ = (1 : Int32) from if_pos c_55]; exact c_73) | (rw [show b01 _ = (0 : Int32) from if_neg c_55]; exact c_73))]), vI (by rw [bbS_no (by first | (rw [show b01 _ = (1 : Int32) from if_pos c_55]; exact c_73) | (rw [show b01 _ = (0 : Int32) from if_neg c_55]; exact c_73))]), vI (nI_1 i), trivial⟩
          · refine g_iload_n hX dX3_bittenBy_76 rfl rfl ?_
            refine g_iconst (v := 1) hX dX3_bittenBy_77 (by decide) ?_
            refine g_iload hX dX3_bittenBy_78 rfl ?_
            refine g_ishl hX dX3_bittenBy_80 ?_
            refine g_ior hX dX3_bittenBy_81 ?_
            refine g_istore_n hX dX3_bittenBy_82 rfl (by decide) ?_
            refine g_iinc hX dX3_bittenBy_83 rfl (d := -1) (by decide) ?_
            refine g_iinc hX dX3_bittenBy_86 rfl (d := 1) (by decide) ?_
            refine g_goto (tgt := 16) hX dX3_bittenBy_89 (by decide) ?_
            exact G.at (ih hlt) ⟨rfl, rfl, rfl, vI (by rw [bbS_yes c_27 (by first | (rw [show b01 _ = (1 : Int32) from if_pos c_55]; exact c_73) | (rw [show b01 _ = (0 : Int32) from if_neg c_55]; exact c_73))]), vI (by rw [bbS_yes c_27 (by first | (rw [show b01 _ = (1 : Int32) from if_pos c_55]; exact c_73) | (rw [show b01 _ = (0 : Int32) from if_neg c_55]; exact c_73))]), vI (nI_1 i), trivial⟩
    )
  refine g_iconst (v := 0) hX dX3_bittenBy_0 (by decide) ?_
  refine g_istore_n hX dX3_bittenBy_1 rfl (by decide) ?_
  refine g_aload_n hX dX3_bittenBy_2 rfl rfl ?_
  refine g_get3R hX 9 dX3_bittenBy_3 b_fl_X3_21 hV.k0 (by decide) hV.p9 ?_
  refine g_iload_n hX dX3_bittenBy_6 rfl rfl ?_
  refine g_ialdN hX dX3_bittenBy_7 hV.k4 (⟨rfl, by omega⟩) (by decide) ?_
  refine g_callSp _ hX dX3_bittenBy_8 k_X3_72 ⟨by decide, by decide⟩ rfl (ok_bites _) rfl (Nat.le_of_ble_eq_true rfl) ?_
  refine g_istore hX dX3_bittenBy_11 (by decide) ?_
  refine g_iconst (v := 0) hX dX3_bittenBy_13 (by decide) ?_
  refine g_istore hX dX3_bittenBy_14 (by decide) ?_
  exact G.at (loop 0 (Nat.zero_le _)) ⟨rfl, rfl, rfl, rfl, rfl, rfl, trivial⟩
