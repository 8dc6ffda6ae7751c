set_option maxHeartbeats 4000000 in
set_option maxRecDepth 100000 in
theorem ok_addRound {w : WG} {I : SI} {L : SL} {v q n d r : Nat} (hV : VL w v) (hqk : (gK w)[q]? = some (6, 4)) (hqv : ∀ j, j < 10 → j ≠ 3 → q ≠ v + j) (hn : I v 0 = nI n) (hn4 : n ≤ 4) (hd : I v 1 = nI d) (hd7 : d ≤ 7) (hr : r < 2000) (s : Int32) : Ok w mX3_addRound [.ref (gA w v), .ref (gA w q), .int (nI r), .int s] I L (fun r1 I1 L1 => r1 = none ∧ I1 = rS I q (rdR (I (v + 4)) (I (v + 5)) (I (v + 7)) (I (v + 1)) n (stF n r) s (I q) d) ∧ L1 = L) := by
  refine Ok.of (by decide) (Nat.le_of_ble_eq_true rfl) (fun X hX => ?_)
  have e : ∀ (j : Nat) (f : Nat → Int32), j < 10 → j ≠ 3 → rS I q f (v + j) = I (v + j) := fun j f h1 h2 => rS_ne _ _ _ (fun z => hqv j h1 h2 z.symm)
  have e0 : ∀ f : Nat → Int32, rS I q f v = I v := fun f => e 0 f (by decide) (by decide)
  have e1 : ∀ f : Nat → Int32, rS I q f (v + 1) = I (v + 1) := fun f => e 1 f (by decide) (by decide)
  have e4 : ∀ f : Nat → Int32, rS I q f (v + 4) = I (v + 4) := fun f => e 4 f (by decide) (by decide)
  have e5 : ∀ f : Nat → Int32, rS I q f (v + 5) = I (v + 5) := fun f => e 5 f (by decide) (by decide)
  have e7 : ∀ f : Nat → Int32, rS I q f (v + 7) = I (v + 7) := fun f => e 7 f (by decide) (by decide)
  have hst : stF n r < 2000 := by unfold stF; split; omega; exact Nat.lt_of_le_of_lt (Nat.mod_le _ _) hr
  have loop := loop_up (n := d) (P := fun k => G X w mX3_addRound (rS I q (rdR (I (v + 4)) (I (v + 5)) (I (v + 7)) (I (v + 1)) n (stF n r) s (I q) k)) L 10 (lvO [(0, .ref (gA w v)), (1, .ref (gA w q)), (3, .int s), (4, .int (nI (stF n r))), (5, .int (nI k))]) []) (fun k hk ih => by
    refine g_iload hX dX3_addRound_10 rfl ?_
    refine g_aload_n hX dX3_addRound_12 rfl rfl ?_
    refine g_get3I hX 1 dX3_addRound_13 b_fl_X3_43 hV.k0 (by decide) ?_
    try simp (disch := decide) only [e0, e1, e4, e5, e7, rS_eq]
    rw [hd]
    refine g_icmp_ge (tgt := 99) hX dX3_addRound_16 (by decide) (fun c_16 => ?_) (fun c_16 => ?_)
    · exact g_vret hX dX3_addRound_99 rfl (⟨rfl, by rw [show k = d from Nat.le_antisymm hk (nle c_16 (by omega) (by omega))], rfl⟩)
    · have hlt := nnle c_16 (by omega) (by omega)
      refine g_iload_n hX dX3_addRound_19 rfl rfl ?_
      refine g_iload hX dX3_addRound_20 rfl ?_
      refine g_callSp _ hX dX3_addRound_22 k_X3_64 ⟨by decide, by decide⟩ rfl (ok_isIn _ _) rfl (Nat.le_of_ble_eq_true rfl) ?_
      refine g_if_eq (tgt := 31) hX dX3_addRound_25 (by decide) (fun c_25 => ?_) (fun c_25 => ?_)
      · refine g_aload_n hX dX3_addRound_31 rfl rfl ?_
        refine g_iload hX dX3_addRound_32 rfl ?_
        refine g_iload hX dX3_addRound_34 rfl ?_
        refine g_callVp _ hX dX3_addRound_36 k_X3_82 ⟨by decide, by decide⟩ (by decide) hV.k0 rfl rfl (ok_bittenBy hV (by rw [e0]; exact hn) hn4 (by omega) hst) rfl (Nat.le_of_ble_eq_true rfl) ?_
        try simp (disch := decide) only [e0, e1, e4, e5, e7, rS_eq]
        refine g_istore hX dX3_addRound_39 (by decide) ?_
        refine g_iconst (v := 0) hX dX3_addRound_41 (by decide) ?_
        refine g_istore hX dX3_addRound_42 (by decide) ?_
        have c_25 : inF s (nI k) = 0 := c_25
        have loopc := loop_up (n := n) (P := fun c => G X w mX3_addRound (rS I q (rdC (I (v + 4)) (I (v + 5)) (I (v + 7)) (I (v + 1)) n (stF n r) s (I q) k c)) L 44 (lvO [(0, .ref (gA w v)), (1, .ref (gA w q)), (3, .int s), (4, .int (nI (stF n r))), (5, .int (nI k)), (6, .int (bbR (I (v + 4)) (I (v + 7)) (I (v + 1)) n k (stF n r))), (7, .int (nI c))]) []) (fun c hcn ihc => by
          refine g_iload hX dX3_addRound_44 rfl ?_
          refine g_aload_n hX dX3_addRound_46 rfl rfl ?_
          refine g_get3I hX 0 dX3_addRound_47 b_fl_X3_39 hV.k0 (by decide) ?_
          try simp (disch := decide) only [e0, e1, e4, e5, e7, rS_eq]
          rw [hn]
          refine g_icmp_ge (tgt := 93) hX dX3_addRound_50 (by decide) (fun c_50 => ?_) (fun c_50 => ?_)
          · rw [show c = n from Nat.le_antisymm hcn (nle c_50 (by omega) (by omega)), rdC_n]
            refine g_iinc hX dX3_addRound_93 rfl (d := 1) (by decide) ?_
            refine g_goto (tgt := 10) hX dX3_addRound_96 (by decide) ?_
            exact G.at (ih hlt) ⟨rfl, rfl, rfl, rfl, vI (nI_1 k), trivial⟩
          · have hlc := nnle c_50 (by omega) (by omega)
            refine g_iload hX dX3_addRound_53 rfl ?_
            refine g_iload hX dX3_addRound_55 rfl ?_
            refine g_callSp _ hX dX3_addRound_57 k_X3_64 ⟨by decide, by decide⟩ rfl (ok_isIn _ _) rfl (Nat.le_of_ble_eq_true rfl) ?_
            refine g_if_eq (tgt := 87) hX dX3_addRound_60 (by decide) (fun c_60 => ?_) (fun c_60 => ?_)
            · refine g_iinc hX dX3_addRound_87 rfl (d := 1) (by decide) ?_
              refine g_goto (tgt := 44) hX dX3_addRound_90 (by decide) ?_
              refine G.eqI (congrArg (rS I q) (rdC_no c_60).symm) (G.at (ihc hlc) ⟨rfl, rfl, rfl, rfl, rfl, rfl, vI (nI_1 c), trivial⟩)
            · refine g_aload_n hX dX3_addRound_63 rfl rfl ?_
              refine g_iload hX dX3_addRound_64 rfl ?_
              refine g_dup2 hX dX3_addRound_66 rfl rfl ?_
              refine g_ialdN hX dX3_addRound_67 hqk (⟨rfl, by omega⟩) (by decide) ?_
              try simp (disch := decide) only [e0, e1, e4, e5, e7, rS_eq]
              refine g_aload_n hX dX3_addRound_68 rfl rfl ?_
              refine g_get3R hX 9 dX3_addRound_69 b_fl_X3_21 hV.k0 (by decide) hV.p9 ?_
              refine g_iload hX dX3_addRound_72 rfl ?_
              refine g_ialdN hX dX3_addRound_74 hV.k4 (⟨rfl, by omega⟩) (by decide) ?_
              try simp (disch := decide) only [e0, e1, e4, e5, e7, rS_eq]
              refine g_aload_n hX dX3_addRound_75 rfl rfl ?_
              refine g_get3R hX 10 dX3_addRound_76 b_fl_X3_24 hV.k0 (by decide) hV.p10 ?_
              refine g_iload hX dX3_addRound_79 rfl ?_
              refine g_ialdN hX dX3_addRound_81 hV.k5 (⟨rfl, by omega⟩) (by decide) ?_
              try simp (disch := decide) only [e0, e1, e4, e5, e7, rS_eq]
              refine g_callSp _ hX dX3_addRound_82 k_X3_86 ⟨by decide, by decide⟩ rfl (ok_width _ _) rfl (Nat.le_of_ble_eq_true rfl) ?_
              refine g_iadd hX dX3_addRound_85 ?_
              refine g_iastN hX dX3_addRound_86 hqk (⟨rfl, by omega⟩) (by decide) ?_
              try simp (disch := decide) only [e0, e1, e4, e5, e7, rS_eq]
              refine g_iinc hX dX3_addRound_87 rfl (d := 1) (by decide) ?_
              refine g_goto (tgt := 44) hX dX3_addRound_90 (by decide) ?_
              rw [rS_rS, rdC_yes hlc c_25 c_60]
              exact G.at (ihc hlc) ⟨rfl, rfl, rfl, rfl, rfl, rfl, vI (nI_1 c), trivial⟩
          )
        rw [← rdC_0]
        exact G.at (loopc 0 (Nat.zero_le _)) ⟨rfl, rfl, rfl, rfl, rfl, rfl, rfl, trivial⟩
      · refine g_goto (tgt := 93) hX dX3_addRound_28 (by decide) ?_
        rw [← rdR_zz c_25]
        refine g_iinc hX dX3_addRound_93 rfl (d := 1) (by decide) ?_
        refine g_goto (tgt := 10) hX dX3_addRound_96 (by decide) ?_
        exact G.at (ih hlt) ⟨rfl, rfl, rfl, rfl, vI (nI_1 k), trivial⟩
    )
  refine g_aload_n hX dX3_addRound_0 rfl rfl ?_
  refine g_iload_n hX dX3_addRound_1 rfl rfl ?_
  refine g_callVp _ hX dX3_addRound_2 k_X3_89 ⟨by decide, by decide⟩ (by decide) hV.k0 rfl rfl (ok_startOf hV hn hn4 (by omega)) rfl (Nat.le_of_ble_eq_true rfl) ?_
  refine g_istore hX dX3_addRound_5 (by decide) ?_
  refine g_iconst (v := 0) hX dX3_addRound_7 (by decide) ?_
  refine g_istore hX dX3_addRound_8 (by decide) ?_
  refine G.eqI (show I = rS I q (rdR (I (v + 4)) (I (v + 5)) (I (v + 7)) (I (v + 1)) n (stF n r) s (I q) 0) by rw [rdR_0, rS_self]) ?_
  exact G.at (loop 0 (Nat.zero_le _)) ⟨rfl, rfl, rfl, rfl, rfl, trivial⟩
