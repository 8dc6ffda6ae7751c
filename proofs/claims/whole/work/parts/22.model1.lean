/-- the model's village: its standing part is as V tells -/
def RV (V : VS) (J : SI) (n d : Nat) : Prop := J 0 1 = nI n ∧ n ≤ 4 ∧ J 0 2 = nI d ∧ d ≤ 7 ∧ (∀ c, c < n → J 2 c = V 1 c) ∧ ∀ k, k < d → J 5 k = V 4 k ∧ J 6 k = V 5 k ∧ J 7 k = V 6 k ∧ J 8 k = V 7 k
theorem RV.row {V : VS} {J : SI} {n d o : Nat} {f : Nat → Int32} (h : RV V J n d) (ho : o ≠ 0 ∧ o ≠ 2 ∧ (o < 5 ∨ 8 < o)) : RV V (rS J o f) n d := by
  unfold RV
  rw [rS_ne _ _ _ (by omega), rS_ne _ _ _ (by omega), rS_ne _ _ _ (by omega), rS_ne _ _ _ (by omega), rS_ne _ _ _ (by omega), rS_ne _ _ _ (by omega)]
  exact h
theorem RV.sc {V : VS} {J : SI} {n d k : Nat} {x : Int32} (h : RV V J n d) (hk : k ≠ 1 ∧ k ≠ 2) : RV V (rS J 0 (upd (J 0) k x)) n d := by
  unfold RV
  rw [rS_eq, pk_un (Ne.symm hk.1), pk_un (Ne.symm hk.2), rS_ne _ _ _ (by decide), rS_ne _ _ _ (by decide), rS_ne _ _ _ (by decide), rS_ne _ _ _ (by decide), rS_ne _ _ _ (by decide)]
  exact h
theorem lem1 {c : Int32} {n : Nat} (hn : n < 2 ^ 31) : (c ≤ nI n - 1) ↔ c < nI n := by
  rw [Int32.le_iff_toInt_le, Int32.lt_iff_toInt_lt]
  rcases Nat.eq_zero_or_pos n with e | e
  · subst e
    have h1 : (nI 0 - 1).toInt = -1 := by decide
    have h2 : (nI 0).toInt = 0 := by decide
    omega
  · obtain ⟨q, rfl⟩ : ∃ q, n = q + 1 := ⟨n - 1, by omega⟩
    rw [nI_pred, nI_toInt (by omega), nI_toInt (by omega)]
    omega
set_option maxHeartbeats 4000000 in
set_option maxRecDepth 100000 in
theorem m_bad {w : WG} {I : SI} {L : SL} (hm : ML w)  : Ok w mX5_bad [.ref (gA w 0)] I L (fun r1 I1 L1 => r1 = some (.int (-2)) ∧ I1 = rS I 1 (upd (I 1) 0 (I 1 0 + 1)) ∧ L1 = L) := by
  refine Ok.of (by decide) (Nat.le_of_ble_eq_true rfl) (fun X hX => ?_)
  refine g_aload_n hX dX5_bad_0 rfl rfl ?_
  refine g_get5R hX 0 dX5_bad_1 b_fl_X5_1 hm.k0 (by decide) hm.q1 ?_
  refine g_iconst (v := 0) hX dX5_bad_4 (by decide) ?_
  refine g_dup2 hX dX5_bad_5 rfl rfl ?_
  refine g_ialdN hX dX5_bad_6 hm.k1 (⟨(rfl : (0 : Int32) = nI 0), by decide⟩) (by decide) ?_
  refine g_iconst (v := 1) hX dX5_bad_7 (by decide) ?_
  refine g_iadd hX dX5_bad_8 ?_
  refine g_iastN hX dX5_bad_9 hm.k1 (⟨(rfl : (0 : Int32) = nI 0), by decide⟩) (by decide) ?_
  refine g_bipush (v := -2) hX dX5_bad_10 (by decide) ?_
  exact g_iret hX dX5_bad_12 rfl (⟨rfl, rfl, rfl⟩)
set_option maxHeartbeats 4000000 in
set_option maxRecDepth 100000 in
theorem m_ten {w : WG} {I : SI} {L : SL} (hm : ML w)  : Ok w mX5_ten [.ref (gA w 0)] I L (fun r1 I1 L1 => r1 = some (.int (-10)) ∧ I1 = rS I 1 (upd (I 1) 0 (I 1 0 + 1)) ∧ L1 = L) := by
  refine Ok.of (by decide) (Nat.le_of_ble_eq_true rfl) (fun X hX => ?_)
  refine g_aload_n hX dX5_ten_0 rfl rfl ?_
  refine g_get5R hX 0 dX5_ten_1 b_fl_X5_1 hm.k0 (by decide) hm.q1 ?_
  refine g_iconst (v := 0) hX dX5_ten_4 (by decide) ?_
  refine g_dup2 hX dX5_ten_5 rfl rfl ?_
  refine g_ialdN hX dX5_ten_6 hm.k1 (⟨(rfl : (0 : Int32) = nI 0), by decide⟩) (by decide) ?_
  refine g_iconst (v := 1) hX dX5_ten_7 (by decide) ?_
  refine g_iadd hX dX5_ten_8 ?_
  refine g_iastN hX dX5_ten_9 hm.k1 (⟨(rfl : (0 : Int32) = nI 0), by decide⟩) (by decide) ?_
  refine g_bipush (v := -10) hX dX5_ten_10 (by decide) ?_
  exact g_iret hX dX5_ten_12 rfl (⟨rfl, rfl, rfl⟩)
set_option maxHeartbeats 4000000 in
set_option maxRecDepth 100000 in
theorem m_no {w : WG} {I : SI} {L : SL} (hm : ML w)  : Ok w mX5_no [.ref (gA w 0)] I L (fun r1 I1 L1 => r1 = some (.int (-3)) ∧ I1 = rS I 1 (upd (I 1) 1 (I 1 1 + 1)) ∧ L1 = L) := by
  refine Ok.of (by decide) (Nat.le_of_ble_eq_true rfl) (fun X hX => ?_)
  refine g_aload_n hX dX5_no_0 rfl rfl ?_
  refine g_get5R hX 0 dX5_no_1 b_fl_X5_1 hm.k0 (by decide) hm.q1 ?_
  refine g_iconst (v := 1) hX dX5_no_4 (by decide) ?_
  refine g_dup2 hX dX5_no_5 rfl rfl ?_
  refine g_ialdN hX dX5_no_6 hm.k1 (⟨(rfl : (1 : Int32) = nI 1), by decide⟩) (by decide) ?_
  refine g_iconst (v := 1) hX dX5_no_7 (by decide) ?_
  refine g_iadd hX dX5_no_8 ?_
  refine g_iastN hX dX5_no_9 hm.k1 (⟨(rfl : (1 : Int32) = nI 1), by decide⟩) (by decide) ?_
  refine g_bipush (v := -3) hX dX5_no_10 (by decide) ?_
  exact g_iret hX dX5_no_12 rfl (⟨rfl, rfl, rfl⟩)
set_option maxHeartbeats 4000000 in
set_option maxRecDepth 100000 in
theorem m_full {w : WG} {I : SI} {L : SL} (hm : ML w)  : Ok w mX5_full [.ref (gA w 0)] I L (fun r1 I1 L1 => r1 = some (.int (-4)) ∧ I1 = rS I 1 (upd (I 1) 2 (I 1 2 + 1)) ∧ L1 = L) := by
  refine Ok.of (by decide) (Nat.le_of_ble_eq_true rfl) (fun X hX => ?_)
  refine g_aload_n hX dX5_full_0 rfl rfl ?_
  refine g_get5R hX 0 dX5_full_1 b_fl_X5_1 hm.k0 (by decide) hm.q1 ?_
  refine g_iconst (v := 2) hX dX5_full_4 (by decide) ?_
  refine g_dup2 hX dX5_full_5 rfl rfl ?_
  refine g_ialdN hX dX5_full_6 hm.k1 (⟨(rfl : (2 : Int32) = nI 2), by decide⟩) (by decide) ?_
  refine g_iconst (v := 1) hX dX5_full_7 (by decide) ?_
  refine g_iadd hX dX5_full_8 ?_
  refine g_iastN hX dX5_full_9 hm.k1 (⟨(rfl : (2 : Int32) = nI 2), by decide⟩) (by decide) ?_
  refine g_bipush (v := -4) hX dX5_full_10 (by decide) ?_
  exact g_iret hX dX5_full_12 rfl (⟨rfl, rfl, rfl⟩)
theorem b01_nar (p : Prop) [Decidable p] : narrow .boolean (.int (b01 p)) = .int (b01 p) := by
  unfold b01; split <;> rfl
set_option maxHeartbeats 4000000 in
set_option maxRecDepth 100000 in
theorem m_isMan {w : WG} {I : SI} {L : SL} (hm : ML w) {n : Nat} (hn : I 0 1 = nI n) (hn7 : n < 2 ^ 31) (c : Int32) : Ok w mX5_isMan [.ref (gA w 0), .int c] I L (Pr (.int (b01 (0 ≤ c ∧ c < nI n))) I L) := by
  refine Ok.of (by decide) (Nat.le_of_ble_eq_true rfl) (fun X hX => ?_)
  refine g_iload_n hX dX5_isMan_0 rfl rfl ?_
  refine g_iconst (v := 0) hX dX5_isMan_1 (by decide) ?_
  refine g_aload_n hX dX5_isMan_2 rfl rfl ?_
  refine g_get5I hX 1 dX5_isMan_3 b_fl_X5_74 hm.k0 (by decide) ?_
  rw [hn]
  refine g_iconst (v := 1) hX dX5_isMan_6 (by decide) ?_
  refine g_isub hX dX5_isMan_7 ?_
  refine g_callSp _ hX dX5_isMan_8 k_X5_93 ⟨by decide, by decide⟩ rfl (ok_in _ _ _) rfl (Nat.le_of_ble_eq_true rfl) ?_
  exact g_zret hX dX5_isMan_11 rfl (b01_nar _) (⟨vI (by simp only [b01, lem1 hn7]), rfl, rfl⟩)
set_option maxHeartbeats 4000000 in
set_option maxRecDepth 100000 in
theorem m_isDog {w : WG} {I : SI} {L : SL} (hm : ML w) {n : Nat} (hn : I 0 2 = nI n) (hn7 : n < 2 ^ 31) (c : Int32) : Ok w mX5_isDog [.ref (gA w 0), .int c] I L (Pr (.int (b01 (0 ≤ c ∧ c < nI n))) I L) := by
  refine Ok.of (by decide) (Nat.le_of_ble_eq_true rfl) (fun X hX => ?_)
  refine g_iload_n hX dX5_isDog_0 rfl rfl ?_
  refine g_iconst (v := 0) hX dX5_isDog_1 (by decide) ?_
  refine g_aload_n hX dX5_isDog_2 rfl rfl ?_
  refine g_get5I hX 2 dX5_isDog_3 b_fl_X5_78 hm.k0 (by decide) ?_
  rw [hn]
  refine g_iconst (v := 1) hX dX5_isDog_6 (by decide) ?_
  refine g_isub hX dX5_isDog_7 ?_
  refine g_callSp _ hX dX5_isDog_8 k_X5_93 ⟨by decide, by decide⟩ rfl (ok_in _ _ _) rfl (Nat.le_of_ble_eq_true rfl) ?_
  exact g_zret hX dX5_isDog_11 rfl (b01_nar _) (⟨vI (by simp only [b01, lem1 hn7]), rfl, rfl⟩)
set_option maxHeartbeats 4000000 in
set_option maxRecDepth 100000 in
theorem m_firstOf {w : WG} {I : SI} {L : SL} (hm : ML w) {n r : Nat} (hn : I 0 1 = nI n) (hn4 : n ≤ 4) (hr : r < 2 ^ 31) : Ok w mX5_firstOf [.ref (gA w 0), .int (nI r)] I L (Pr (.int (nI (stF n r))) I L) := by
  refine Ok.of (by decide) (Nat.le_of_ble_eq_true rfl) (fun X hX => ?_)
  refine g_aload_n hX dX5_firstOf_0 rfl rfl ?_
  refine g_get5I hX 1 dX5_firstOf_1 b_fl_X5_74 hm.k0 (by decide) ?_
  rw [hn]
  refine g_if_ne (tgt := 11) hX dX5_firstOf_4 (by decide) (fun c_4 => ?_) (fun c_4 => ?_)
  · refine g_iload_n hX dX5_firstOf_11 rfl rfl ?_
    refine g_aload_n hX dX5_firstOf_12 rfl rfl ?_
    refine g_get5I hX 1 dX5_firstOf_13 b_fl_X5_74 hm.k0 (by decide) ?_
    rw [hn]
    refine g_irem hX dX5_firstOf_16 (c_4) ?_
    exact g_iret hX dX5_firstOf_17 rfl (⟨by rw [stF, if_neg (fun e => c_4 (by rw [e]; rfl)), pk_rem hr (Nat.pos_of_ne_zero (fun e => c_4 (by rw [e]; rfl))) (by omega)], rfl, rfl⟩)
  · refine g_iconst (v := 0) hX dX5_firstOf_7 (by decide) ?_
    refine g_goto (tgt := 17) hX dX5_firstOf_8 (by decide) ?_
    exact g_iret hX dX5_firstOf_17 rfl (⟨by rw [stF, if_pos ((nI_eq (by omega) (by decide)).mp c_4)]; rfl, rfl, rfl⟩)
set_option maxHeartbeats 4000000 in
set_option maxRecDepth 100000 in
theorem m_isBitten {w : WG} {I : SI} {L : SL} (hm : ML w) {V : VS} {n d k c a : Nat} (hV : RV V I n d) (hk : k < d) (hc : c < n) (ha : a < 2000) : Ok w mX5_isBitten [.ref (gA w 0), .int (nI k), .int (nI c), .int (nI a)] I L (Pr (.int (inF (bbR (V 4) (V 7) (V 1) n k a) (nI c))) I L) := by
  obtain ⟨hn, hn4, hd, hd7, hB, hK⟩ := id hV
  obtain ⟨h5, h6, h7, h8⟩ := hK k hk
  refine Ok.of (by decide) (Nat.le_of_ble_eq_true rfl) (fun X hX => ?_)
  have loop := loop_up (n := n) (P := fun i => G X w mX5_isBitten I L 17 (lvO [(0, .ref (gA w 0)), (1, .int (nI k)), (2, .int (nI c)), (3, .int (nI a)), (4, .int (bbS (V 4 k) (V 7 k) (V 1) n a i).2), (5, .int (inF (bbS (V 4 k) (V 7 k) (V 1) n a i).1 (nI c))), (6, .int (nI i))]) []) (fun i hi ih => by
    refine g_iload hX dX5_isBitten_17 rfl ?_
    refine g_aload_n hX dX5_isBitten_19 rfl rfl ?_
    refine g_get5I hX 1 dX5_isBitten_20 b_fl_X5_74 hm.k0 (by decide) ?_
    rw [hn]
    refine g_icmp_ge (tgt := 128) hX dX5_isBitten_23 (by decide) (fun c_23 => ?_) (fun c_23 => ?_)
    · refine g_iload hX dX5_isBitten_128 rfl ?_
      exact g_zret hX dX5_isBitten_130 rfl (inF_nar _ _) (⟨by rw [bbR, show i = n from Nat.le_antisymm hi (nle c_23 (by omega) (by omega))], rfl, rfl⟩)
    · have hlt := nnle c_23 (by omega) (by omega)
      have hlo : (a + i) % n < n := Nat.mod_lt _ (by omega)
      have h2 := hB _ hlo
      have J82 : ∀ x : Int32, (x = if 0 < (bbS (V 4 k) (V 7 k) (V 1) n a i).2 ∧ wbF (V 4 k) (b01 (V 7 k = nI ((a + i) % n))) (V 1 ((a + i) % n)) ≠ 0 then 1 else 0) → G X w mX5_isBitten I L 82 (lvO [(0, .ref (gA w 0)), (1, .int (nI k)), (2, .int (nI c)), (3, .int (nI a)), (4, .int (bbS (V 4 k) (V 7 k) (V 1) n a i).2), (5, .int (inF (bbS (V 4 k) (V 7 k) (V 1) n a i).1 (nI c))), (6, .int (nI i)), (7, .int (nI ((a + i) % n)))]) [.int x] := by
        intro x hx
        refine g_istore hX dX5_isBitten_82 (by decide) ?_
        refine g_iload hX dX5_isBitten_84 rfl ?_
        refine g_if_ne (tgt := 100) hX dX5_isBitten_86 (by decide) (fun c_86 => ?_) (fun c_86 => ?_)
        · refine g_iconst (v := 1) hX dX5_isBitten_100 (by decide) ?_
          refine g_goto (tgt := 105) hX dX5_isBitten_101 (by decide) ?_
          refine g_istore hX dX5_isBitten_105 (by decide) ?_
          refine g_iload hX dX5_isBitten_107 rfl ?_
          refine g_iload hX dX5_isBitten_109 rfl ?_
          refine g_if_eq (tgt := 118) hX dX5_isBitten_111 (by decide) (fun c_111 => ?_) (fun c_111 => ?_)
          · refine g_iconst (v := 0) hX dX5_isBitten_118 (by decide) ?_
            refine g_isub hX dX5_isBitten_119 ?_
            refine g_istore hX dX5_isBitten_120 (by decide) ?_
            refine g_iinc hX dX5_isBitten_122 rfl (d := 1) (by decide) ?_
            refine g_goto (tgt := 17) hX dX5_isBitten_125 (by decide) ?_
            exact G.at (ih hlt) ⟨rfl, rfl, rfl, rfl, vI (left_0 hx c_111), vI (isb_step hn4 hc hx (Or.inl ⟨rfl, Or.inl c_86⟩)), vI (nI_1 i), trivial⟩
          · refine g_iconst (v := 1) hX dX5_isBitten_114 (by decide) ?_
            refine g_goto (tgt := 119) hX dX5_isBitten_115 (by decide) ?_
            refine g_isub hX dX5_isBitten_119 ?_
            refine g_istore hX dX5_isBitten_120 (by decide) ?_
            refine g_iinc hX dX5_isBitten_122 rfl (d := 1) (by decide) ?_
            refine g_goto (tgt := 17) hX dX5_isBitten_125 (by decide) ?_
            exact G.at (ih hlt) ⟨rfl, rfl, rfl, rfl, vI (left_1 hx c_111), vI (isb_step hn4 hc hx (Or.inl ⟨rfl, Or.inl c_86⟩)), vI (nI_1 i), trivial⟩
        · refine g_iload hX dX5_isBitten_89 rfl ?_
          refine g_if_eq (tgt := 104) hX dX5_isBitten_91 (by decide) (fun c_91 => ?_) (fun c_91 => ?_)
          · refine g_iconst (v := 0) hX dX5_isBitten_104 (by decide) ?_
            refine g_istore hX dX5_isBitten_105 (by decide) ?_
            refine g_iload hX dX5_isBitten_107 rfl ?_
            refine g_iload hX dX5_isBitten_109 rfl ?_
            refine g_if_eq (tgt := 118) hX dX5_isBitten_111 (by decide) (fun c_111 => ?_) (fun c_111 => ?_)
            · refine g_iconst (v := 0) hX dX5_isBitten_118 (by decide) ?_
              refine g_isub hX dX5_isBitten_119 ?_
              refine g_istore hX dX5_isBitten_120 (by decide) ?_
              refine g_iinc hX dX5_isBitten_122 rfl (d := 1) (by decide) ?_
              refine g_goto (tgt := 17) hX dX5_isBitten_125 (by decide) ?_
              exact G.at (ih hlt) ⟨rfl, rfl, rfl, rfl, vI (left_0 hx c_111), vI (isb_step hn4 hc hx (Or.inr ⟨rfl, c_86, Or.inl c_91⟩)), vI (nI_1 i), trivial⟩
            · refine g_iconst (v := 1) hX dX5_isBitten_114 (by decide) ?_
              refine g_goto (tgt := 119) hX dX5_isBitten_115 (by decide) ?_
              refine g_isub hX dX5_isBitten_119 ?_
              refine g_istore hX dX5_isBitten_120 (by decide) ?_
              refine g_iinc hX dX5_isBitten_122 rfl (d := 1) (by decide) ?_
              refine g_goto (tgt := 17) hX dX5_isBitten_125 (by decide) ?_
              exact G.at (ih hlt) ⟨rfl, rfl, rfl, rfl, vI (left_1 hx c_111), vI (isb_step hn4 hc hx (Or.inr ⟨rfl, c_86, Or.inl c_91⟩)), vI (nI_1 i), trivial⟩
          · refine g_iload hX dX5_isBitten_94 rfl ?_
            refine g_iload_n hX dX5_isBitten_96 rfl rfl ?_
            refine g_icmp_ne (tgt := 104) hX dX5_isBitten_97 (by decide) (fun c_97 => ?_) (fun c_97 => ?_)
            · refine g_iconst (v := 0) hX dX5_isBitten_104 (by decide) ?_
              refine g_istore hX dX5_isBitten_105 (by decide) ?_
              refine g_iload hX dX5_isBitten_107 rfl ?_
              refine g_iload hX dX5_isBitten_109 rfl ?_
              refine g_if_eq (tgt := 118) hX dX5_isBitten_111 (by decide) (fun c_111 => ?_) (fun c_111 => ?_)
              · refine g_iconst (v := 0) hX dX5_isBitten_118 (by decide) ?_
                refine g_isub hX dX5_isBitten_119 ?_
                refine g_istore hX dX5_isBitten_120 (by decide) ?_
                refine g_iinc hX dX5_isBitten_122 rfl (d := 1) (by decide) ?_
                refine g_goto (tgt := 17) hX dX5_isBitten_125 (by decide) ?_
                exact G.at (ih hlt) ⟨rfl, rfl, rfl, rfl, vI (left_0 hx c_111), vI (isb_step hn4 hc hx (Or.inr ⟨rfl, c_86, Or.inr c_97⟩)), vI (nI_1 i), trivial⟩
              · refine g_iconst (v := 1) hX dX5_isBitten_114 (by decide) ?_
                refine g_goto (tgt := 119) hX dX5_isBitten_115 (by decide) ?_
                refine g_isub hX dX5_isBitten_119 ?_
                refine g_istore hX dX5_isBitten_120 (by decide) ?_
                refine g_iinc hX dX5_isBitten_122 rfl (d := 1) (by decide) ?_
                refine g_goto (tgt := 17) hX dX5_isBitten_125 (by decide) ?_
                exact G.at (ih hlt) ⟨rfl, rfl, rfl, rfl, vI (left_1 hx c_111), vI (isb_step hn4 hc hx (Or.inr ⟨rfl, c_86, Or.inr c_97⟩)), vI (nI_1 i), trivial⟩
            · refine g_iconst (v := 1) hX dX5_isBitten_100 (by decide) ?_
              refine g_goto (tgt := 105) hX dX5_isBitten_101 (by decide) ?_
              refine g_istore hX dX5_isBitten_105 (by decide) ?_
              refine g_iload hX dX5_isBitten_107 rfl ?_
              refine g_iload hX dX5_isBitten_109 rfl ?_
              refine g_if_eq (tgt := 118) hX dX5_isBitten_111 (by decide) (fun c_111 => ?_) (fun c_111 => ?_)
              · refine g_iconst (v := 0) hX dX5_isBitten_118 (by decide) ?_
                refine g_isub hX dX5_isBitten_119 ?_
                refine g_istore hX dX5_isBitten_120 (by decide) ?_
                refine g_iinc hX dX5_isBitten_122 rfl (d := 1) (by decide) ?_
                refine g_goto (tgt := 17) hX dX5_isBitten_125 (by decide) ?_
                exact G.at (ih hlt) ⟨rfl, rfl, rfl, rfl, vI (left_0 hx c_111), vI (isb_step hn4 hc hx (Or.inl ⟨rfl, Or.inr ⟨c_91, c_97⟩⟩)), vI (nI_1 i), trivial⟩
              · refine g_iconst (v := 1) hX dX5_isBitten_114 (by decide) ?_
                refine g_goto (tgt := 119) hX dX5_isBitten_115 (by decide) ?_
                refine g_isub hX dX5_isBitten_119 ?_
                refine g_istore hX dX5_isBitten_120 (by decide) ?_
                refine g_iinc hX dX5_isBitten_122 rfl (d := 1) (by decide) ?_
                refine g_goto (tgt := 17) hX dX5_isBitten_125 (by decide) ?_
                exact G.at (ih hlt) ⟨rfl, rfl, rfl, rfl, vI (left_1 hx c_111), vI (isb_step hn4 hc hx (Or.inl ⟨rfl, Or.inr ⟨c_91, c_97⟩⟩)), vI (nI_1 i), trivial⟩
      refine g_iload_n hX dX5_isBitten_26 rfl rfl ?_
      refine g_iload hX dX5_isBitten_27 rfl ?_
      refine g_iadd hX dX5_isBitten_29 ?_
      refine g_aload_n hX dX5_isBitten_30 rfl rfl ?_
      refine g_get5I hX 1 dX5_isBitten_31 b_fl_X5_74 hm.k0 (by decide) ?_
      rw [nI_add, hn]
      refine g_irem hX dX5_isBitten_34 (nI_ne0 (by omega) (by omega)) ?_
      rw [pk_rem (by omega) (by omega) (by omega)]
      refine g_istore hX dX5_isBitten_35 (by decide) ?_
      refine g_iload hX dX5_isBitten_37 rfl ?_
      refine g_if_le (tgt := 81) hX dX5_isBitten_39 (by decide) (fun c_39 => ?_) (fun c_39 => ?_)
      · refine g_iconst (v := 0) hX dX5_isBitten_81 (by decide) ?_
        exact G.at (J82 _ (by rw [if_neg (fun z => absurd z.1 (Int32.not_lt.mpr c_39))])) ⟨rfl, rfl, rfl, rfl, rfl, rfl, rfl, rfl, trivial⟩
      · refine g_aload_n hX dX5_isBitten_42 rfl rfl ?_
        refine g_get5R hX 9 dX5_isBitten_43 b_fl_X5_22 hm.k0 (by decide) hm.q5 ?_
        refine g_iload_n hX dX5_isBitten_46 rfl rfl ?_
        refine g_ialdN hX dX5_isBitten_47 hm.k5 (⟨rfl, by omega⟩) (by decide) ?_
        refine g_aload_n hX dX5_isBitten_48 rfl rfl ?_
        refine g_get5R hX 12 dX5_isBitten_49 b_fl_X5_31 hm.k0 (by decide) hm.q8 ?_
        refine g_iload_n hX dX5_isBitten_52 rfl rfl ?_
        refine g_ialdN hX dX5_isBitten_53 hm.k8 (⟨rfl, by omega⟩) (by decide) ?_
        refine g_iload hX dX5_isBitten_54 rfl ?_
        refine g_icmp_ne (tgt := 63) hX dX5_isBitten_56 (by decide) (fun c_56 => ?_) (fun c_56 => ?_)
        · refine g_iconst (v := 0) hX dX5_isBitten_63 (by decide) ?_
          refine g_aload_n hX dX5_isBitten_64 rfl rfl ?_
          refine g_get5R hX 6 dX5_isBitten_65 b_fl_X5_13 hm.k0 (by decide) hm.q2 ?_
          refine g_iload hX dX5_isBitten_68 rfl ?_
          refine g_ialdN hX dX5_isBitten_70 hm.k2 (⟨rfl, by omega⟩) (by decide) ?_
          refine g_callSp _ hX dX5_isBitten_71 k_X5_182 ⟨by decide, by decide⟩ rfl (ok_bitesBy _ _ _) rfl (Nat.le_of_ble_eq_true rfl) ?_
          refine g_if_eq (tgt := 81) hX dX5_isBitten_74 (by decide) (fun c_74 => ?_) (fun c_74 => ?_)
          · refine g_iconst (v := 0) hX dX5_isBitten_81 (by decide) ?_
            exact G.at (J82 _ (by rw [if_neg (fun z => z.2 (by rw [b01, if_neg (h8 ▸ c_56), ← h5, ← h2]; exact c_74))])) ⟨rfl, rfl, rfl, rfl, rfl, rfl, rfl, rfl, trivial⟩
          · refine g_iconst (v := 1) hX dX5_isBitten_77 (by decide) ?_
            refine g_goto (tgt := 82) hX dX5_isBitten_78 (by decide) ?_
            exact G.at (J82 _ (by rw [if_pos ⟨Int32.not_le.mp c_39, (by rw [b01, if_neg (h8 ▸ c_56), ← h5, ← h2]; exact c_74)⟩])) ⟨rfl, rfl, rfl, rfl, rfl, rfl, rfl, rfl, trivial⟩
        · refine g_iconst (v := 1) hX dX5_isBitten_59 (by decide) ?_
          refine g_goto (tgt := 64) hX dX5_isBitten_60 (by decide) ?_
          refine g_aload_n hX dX5_isBitten_64 rfl rfl ?_
          refine g_get5R hX 6 dX5_isBitten_65 b_fl_X5_13 hm.k0 (by decide) hm.q2 ?_
          refine g_iload hX dX5_isBitten_68 rfl ?_
          refine g_ialdN hX dX5_isBitten_70 hm.k2 (⟨rfl, by omega⟩) (by decide) ?_
          refine g_callSp _ hX dX5_isBitten_71 k_X5_182 ⟨by decide, by decide⟩ rfl (ok_bitesBy _ _ _) rfl (Nat.le_of_ble_eq_true rfl) ?_
          refine g_if_eq (tgt := 81) hX dX5_isBitten_74 (by decide) (fun c_74 => ?_) (fun c_74 => ?_)
          · refine g_iconst (v := 0) hX dX5_isBitten_81 (by decide) ?_
            exact G.at (J82 _ (by rw [if_neg (fun z => z.2 (by rw [b01, if_pos (h8 ▸ c_56), ← h5, ← h2]; exact c_74))])) ⟨rfl, rfl, rfl, rfl, rfl, rfl, rfl, rfl, trivial⟩
          · refine g_iconst (v := 1) hX dX5_isBitten_77 (by decide) ?_
            refine g_goto (tgt := 82) hX dX5_isBitten_78 (by decide) ?_
            exact G.at (J82 _ (by rw [if_pos ⟨Int32.not_le.mp c_39, (by rw [b01, if_pos (h8 ▸ c_56), ← h5, ← h2]; exact c_74)⟩])) ⟨rfl, rfl, rfl, rfl, rfl, rfl, rfl, rfl, trivial⟩
    )
  refine g_aload_n hX dX5_isBitten_0 rfl rfl ?_
  refine g_get5R hX 9 dX5_isBitten_1 b_fl_X5_22 hm.k0 (by decide) hm.q5 ?_
  refine g_iload_n hX dX5_isBitten_4 rfl rfl ?_
  refine g_ialdN hX dX5_isBitten_5 hm.k5 (⟨rfl, by omega⟩) (by decide) ?_
  refine g_callSp _ hX dX5_isBitten_6 k_X5_179 ⟨by decide, by decide⟩ rfl (ok_bitesMany _) rfl (Nat.le_of_ble_eq_true rfl) ?_
  refine g_istore hX dX5_isBitten_9 (by decide) ?_
  refine g_iconst (v := 0) hX dX5_isBitten_11 (by decide) ?_
  refine g_istore hX dX5_isBitten_12 (by decide) ?_
  refine g_iconst (v := 0) hX dX5_isBitten_14 (by decide) ?_
  refine g_istore hX dX5_isBitten_15 (by decide) ?_
  exact G.at (loop 0 (Nat.zero_le _)) ⟨rfl, rfl, rfl, rfl, vI (by rw [h5]; rfl), vI (inF_0 (by omega)).symm, rfl, trivial⟩
set_option maxHeartbeats 4000000 in
set_option maxRecDepth 100000 in
theorem m_comesTo {w : WG} {I : SI} {L : SL} (hm : ML w) {V : VS} {n d c a : Nat} (hV : RV V I n d) (hc : c < n) (ha : a < 2000) (s : Int32) : Ok w mX5_comesTo [.ref (gA w 0), .int (nI c), .int (nI a), .int s] I L (Pr (.int (wtR (V 4) (V 5) (V 7) (V 1) n a (nI c) s d)) I L) := by
  obtain ⟨hn, hn4, hd, hd7, hB, hK⟩ := id hV
  refine Ok.of (by decide) (Nat.le_of_ble_eq_true rfl) (fun X hX => ?_)
  have loop := loop_up (n := d) (P := fun k => G X w mX5_comesTo I L 6 (lvO [(0, .ref (gA w 0)), (1, .int (nI c)), (2, .int (nI a)), (3, .int s), (4, .int (wtR (V 4) (V 5) (V 7) (V 1) n a (nI c) s k)), (5, .int (nI k))]) []) (fun k hkd ih => by
    refine g_iload hX dX5_comesTo_6 rfl ?_
    refine g_aload_n hX dX5_comesTo_8 rfl rfl ?_
    refine g_get5I hX 2 dX5_comesTo_9 b_fl_X5_78 hm.k0 (by decide) ?_
    rw [hd]
    refine g_icmp_ge (tgt := 67) hX dX5_comesTo_12 (by decide) (fun c_12 => ?_) (fun c_12 => ?_)
    · refine g_iload hX dX5_comesTo_67 rfl ?_
      exact g_iret hX dX5_comesTo_69 rfl (⟨by rw [show k = d from Nat.le_antisymm hkd (nle c_12 (by omega) (by omega))], rfl, rfl⟩)
    · have hlt := nnle c_12 (by omega) (by omega)
      obtain ⟨h5, h6, h7, h8⟩ := hK k hlt
      refine g_iload hX dX5_comesTo_15 rfl ?_
      refine g_iload_n hX dX5_comesTo_17 rfl rfl ?_
      refine g_iload hX dX5_comesTo_18 rfl ?_
      refine g_callSp _ hX dX5_comesTo_20 k_X5_158 ⟨by decide, by decide⟩ rfl (ok_has _ _) rfl (Nat.le_of_ble_eq_true rfl) ?_
      refine g_if_ne (tgt := 57) hX dX5_comesTo_23 (by decide) (fun c_23 => ?_) (fun c_23 => ?_)
      · refine g_iconst (v := 0) hX dX5_comesTo_57 (by decide) ?_
        refine g_iadd hX dX5_comesTo_58 ?_
        refine g_istore hX dX5_comesTo_59 (by decide) ?_
        refine g_iinc hX dX5_comesTo_61 rfl (d := 1) (by decide) ?_
        refine g_goto (tgt := 6) hX dX5_comesTo_64 (by decide) ?_
        exact G.at (ih hlt) ⟨rfl, rfl, rfl, rfl, vI (by rw [wtR, if_neg (fun z => c_23 z.1)]), vI (nI_1 k), trivial⟩
      · refine g_aload_n hX dX5_comesTo_26 rfl rfl ?_
        refine g_iload hX dX5_comesTo_27 rfl ?_
        refine g_iload_n hX dX5_comesTo_29 rfl rfl ?_
        refine g_iload_n hX dX5_comesTo_30 rfl rfl ?_
        refine g_callVp _ hX dX5_comesTo_31 k_X5_186 ⟨by decide, by decide⟩ (by decide) hm.k0 rfl rfl (m_isBitten hm hV (show k < d by omega) hc ha) rfl (Nat.le_of_ble_eq_true rfl) ?_
        refine g_if_eq (tgt := 57) hX dX5_comesTo_34 (by decide) (fun c_34 => ?_) (fun c_34 => ?_)
        · refine g_iconst (v := 0) hX dX5_comesTo_57 (by decide) ?_
          refine g_iadd hX dX5_comesTo_58 ?_
          refine g_istore hX dX5_comesTo_59 (by decide) ?_
          refine g_iinc hX dX5_comesTo_61 rfl (d := 1) (by decide) ?_
          refine g_goto (tgt := 6) hX dX5_comesTo_64 (by decide) ?_
          exact G.at (ih hlt) ⟨rfl, rfl, rfl, rfl, vI (by rw [wtR, if_neg (fun z => z.2 c_34)]), vI (nI_1 k), trivial⟩
        · refine g_aload_n hX dX5_comesTo_37 rfl rfl ?_
          refine g_get5R hX 9 dX5_comesTo_38 b_fl_X5_22 hm.k0 (by decide) hm.q5 ?_
          refine g_iload hX dX5_comesTo_41 rfl ?_
          refine g_ialdN hX dX5_comesTo_43 hm.k5 (⟨rfl, by omega⟩) (by decide) ?_
          refine g_aload_n hX dX5_comesTo_44 rfl rfl ?_
          refine g_get5R hX 10 dX5_comesTo_45 b_fl_X5_25 hm.k0 (by decide) hm.q6 ?_
          refine g_iload hX dX5_comesTo_48 rfl ?_
          refine g_ialdN hX dX5_comesTo_50 hm.k6 (⟨rfl, by omega⟩) (by decide) ?_
          refine g_callSp _ hX dX5_comesTo_51 k_X5_189 ⟨by decide, by decide⟩ rfl (ok_holeBy _ _) rfl (Nat.le_of_ble_eq_true rfl) ?_
          refine g_goto (tgt := 58) hX dX5_comesTo_54 (by decide) ?_
          refine g_iadd hX dX5_comesTo_58 ?_
          refine g_istore hX dX5_comesTo_59 (by decide) ?_
          refine g_iinc hX dX5_comesTo_61 rfl (d := 1) (by decide) ?_
          refine g_goto (tgt := 6) hX dX5_comesTo_64 (by decide) ?_
          exact G.at (ih hlt) ⟨rfl, rfl, rfl, rfl, vI (by rw [wtR, if_pos ⟨c_23, c_34⟩, h5, h6]), vI (nI_1 k), trivial⟩
    )
  refine g_iconst (v := 0) hX dX5_comesTo_0 (by decide) ?_
  refine g_istore hX dX5_comesTo_1 (by decide) ?_
  refine g_iconst (v := 0) hX dX5_comesTo_3 (by decide) ?_
  refine g_istore hX dX5_comesTo_4 (by decide) ?_
  exact G.at (loop 0 (Nat.zero_le _)) ⟨rfl, rfl, rfl, rfl, rfl, rfl, trivial⟩
set_option maxHeartbeats 4000000 in
set_option maxRecDepth 100000 in
theorem m_hungerOf {w : WG} {I : SI} {L : SL} (hm : ML w) {V : VS} {n d : Nat} (hV : RV V I n d) (s : Int32) : Ok w mX5_hungerOf [.ref (gA w 0), .int s] I L (Pr (.int (hgF (V 6) s d)) I L) := by
  obtain ⟨hn, hn4, hd, hd7, hB, hK⟩ := id hV
  refine Ok.of (by decide) (Nat.le_of_ble_eq_true rfl) (fun X hX => ?_)
  have loop := loop_up (n := d) (P := fun k => G X w mX5_hungerOf I L 4 (lvO [(0, .ref (gA w 0)), (1, .int s), (2, .int (hgF (V 6) s k)), (3, .int (nI k))]) []) (fun k hkd ih => by
    refine g_iload_n hX dX5_hungerOf_4 rfl rfl ?_
    refine g_aload_n hX dX5_hungerOf_5 rfl rfl ?_
    refine g_get5I hX 2 dX5_hungerOf_6 b_fl_X5_78 hm.k0 (by decide) ?_
    rw [hd]
    refine g_icmp_ge (tgt := 39) hX dX5_hungerOf_9 (by decide) (fun c_9 => ?_) (fun c_9 => ?_)
    · refine g_iload_n hX dX5_hungerOf_39 rfl rfl ?_
      exact g_iret hX dX5_hungerOf_40 rfl (⟨by rw [show k = d from Nat.le_antisymm hkd (nle c_9 (by omega) (by omega))], rfl, rfl⟩)
    · have hlt := nnle c_9 (by omega) (by omega)
      obtain ⟨h5, h6, h7, h8⟩ := hK k hlt
      refine g_iload_n hX dX5_hungerOf_12 rfl rfl ?_
      refine g_iload_n hX dX5_hungerOf_13 rfl rfl ?_
      refine g_iload_n hX dX5_hungerOf_14 rfl rfl ?_
      refine g_callSp _ hX dX5_hungerOf_15 k_X5_158 ⟨by decide, by decide⟩ rfl (ok_has _ _) rfl (Nat.le_of_ble_eq_true rfl) ?_
      refine g_if_eq (tgt := 30) hX dX5_hungerOf_18 (by decide) (fun c_18 => ?_) (fun c_18 => ?_)
      · refine g_iconst (v := 0) hX dX5_hungerOf_30 (by decide) ?_
        refine g_iadd hX dX5_hungerOf_31 ?_
        refine g_istore_n hX dX5_hungerOf_32 rfl (by decide) ?_
        refine g_iinc hX dX5_hungerOf_33 rfl (d := 1) (by decide) ?_
        refine g_goto (tgt := 4) hX dX5_hungerOf_36 (by decide) ?_
        exact G.at (ih hlt) ⟨rfl, rfl, vI (by rw [hgF, if_pos c_18, Int32.add_zero]), vI (nI_1 k), trivial⟩
      · refine g_aload_n hX dX5_hungerOf_21 rfl rfl ?_
        refine g_get5R hX 11 dX5_hungerOf_22 b_fl_X5_28 hm.k0 (by decide) hm.q7 ?_
        refine g_iload_n hX dX5_hungerOf_25 rfl rfl ?_
        refine g_ialdN hX dX5_hungerOf_26 hm.k7 (⟨rfl, by omega⟩) (by decide) ?_
        refine g_goto (tgt := 31) hX dX5_hungerOf_27 (by decide) ?_
        refine g_iadd hX dX5_hungerOf_31 ?_
        refine g_istore_n hX dX5_hungerOf_32 rfl (by decide) ?_
        refine g_iinc hX dX5_hungerOf_33 rfl (d := 1) (by decide) ?_
        refine g_goto (tgt := 4) hX dX5_hungerOf_36 (by decide) ?_
        exact G.at (ih hlt) ⟨rfl, rfl, vI (by rw [hgF, if_neg c_18, h7]), vI (nI_1 k), trivial⟩
    )
  refine g_iconst (v := 0) hX dX5_hungerOf_0 (by decide) ?_
  refine g_istore_n hX dX5_hungerOf_1 rfl (by decide) ?_
  refine g_iconst (v := 0) hX dX5_hungerOf_2 (by decide) ?_
  refine g_istore_n hX dX5_hungerOf_3 rfl (by decide) ?_
  exact G.at (loop 0 (Nat.zero_le _)) ⟨rfl, rfl, rfl, rfl, trivial⟩
set_option maxHeartbeats 4000000 in
set_option maxRecDepth 100000 in
theorem m_postman {w : WG} {I : SI} {L : SL} (hm : ML w) {n : Nat} (hn : I 0 1 = nI n) (hn4 : n ≤ 4) : Ok w mX5_postman [.ref (gA w 0)] I L (Pr (.int (pmF (I 4) n)) I L) := by
  refine Ok.of (by decide) (Nat.le_of_ble_eq_true rfl) (fun X hX => ?_)
  have loop := loop_up (n := n) (P := fun c => G X w mX5_postman I L 4 (lvO [(0, .ref (gA w 0)), (1, .int (pmF (I 4) c)), (2, .int (nI c))]) []) (fun c hc ih => by
    refine g_iload_n hX dX5_postman_4 rfl rfl ?_
    refine g_aload_n hX dX5_postman_5 rfl rfl ?_
    refine g_get5I hX 1 dX5_postman_6 b_fl_X5_74 hm.k0 (by decide) ?_
    rw [hn]
    refine g_icmp_ge (tgt := 53) hX dX5_postman_9 (by decide) (fun c_9 => ?_) (fun c_9 => ?_)
    · refine g_iload_n hX dX5_postman_53 rfl rfl ?_
      exact g_iret hX dX5_postman_54 rfl (⟨by rw [show c = n from Nat.le_antisymm hc (nle c_9 (by omega) (by omega))], rfl, rfl⟩)
    · have hlt := nnle c_9 (by omega) (by omega)
      refine g_aload_n hX dX5_postman_12 rfl rfl ?_
      refine g_get5R hX 8 dX5_postman_13 b_fl_X5_19 hm.k0 (by decide) hm.q4 ?_
      refine g_iload_n hX dX5_postman_16 rfl rfl ?_
      refine g_ialdN hX dX5_postman_17 hm.k4 (⟨rfl, by omega⟩) (by decide) ?_
      refine g_if_le (tgt := 45) hX dX5_postman_18 (by decide) (fun c_18 => ?_) (fun c_18 => ?_)
      · refine g_iload_n hX dX5_postman_45 rfl rfl ?_
        refine g_istore_n hX dX5_postman_46 rfl (by decide) ?_
        refine g_iinc hX dX5_postman_47 rfl (d := 1) (by decide) ?_
        refine g_goto (tgt := 4) hX dX5_postman_50 (by decide) ?_
        exact G.at (ih hlt) ⟨rfl, vI (by rw [pmF, if_neg (fun z => gt0_1.mpr z.1 c_18)]), vI (nI_1 c), trivial⟩
      · refine g_iload_n hX dX5_postman_21 rfl rfl ?_
        refine g_iconst (v := -1) hX dX5_postman_22 (by decide) ?_
        refine g_icmp_eq (tgt := 41) hX dX5_postman_23 (by decide) (fun c_23 => ?_) (fun c_23 => ?_)
        · refine g_iload_n hX dX5_postman_41 rfl rfl ?_
          refine g_goto (tgt := 46) hX dX5_postman_42 (by decide) ?_
          refine g_istore_n hX dX5_postman_46 rfl (by decide) ?_
          refine g_iinc hX dX5_postman_47 rfl (d := 1) (by decide) ?_
          refine g_goto (tgt := 4) hX dX5_postman_50 (by decide) ?_
          exact G.at (ih hlt) ⟨rfl, vI (by rw [pmF, if_pos ⟨gt0_1.mp c_18, Or.inl c_23⟩]), vI (nI_1 c), trivial⟩
        · obtain ⟨j, hj, ej⟩ := (pmF_cases (I 4) c).resolve_left c_23
          refine g_aload_n hX dX5_postman_26 rfl rfl ?_
          refine g_get5R hX 8 dX5_postman_27 b_fl_X5_19 hm.k0 (by decide) hm.q4 ?_
          refine g_iload_n hX dX5_postman_30 rfl rfl ?_
          refine g_ialdN hX dX5_postman_31 hm.k4 (⟨rfl, by omega⟩) (by decide) ?_
          refine g_aload_n hX dX5_postman_32 rfl rfl ?_
          refine g_get5R hX 8 dX5_postman_33 b_fl_X5_19 hm.k0 (by decide) hm.q4 ?_
          refine g_iload_n hX dX5_postman_36 rfl rfl ?_
          refine g_ialdN hX dX5_postman_37 hm.k4 (⟨ej, by omega⟩) (by decide) ?_
          refine g_icmp_ge (tgt := 45) hX dX5_postman_38 (by decide) (fun c_38 => ?_) (fun c_38 => ?_)
          · refine g_iload_n hX dX5_postman_45 rfl rfl ?_
            refine g_istore_n hX dX5_postman_46 rfl (by decide) ?_
            refine g_iinc hX dX5_postman_47 rfl (d := 1) (by decide) ?_
            refine g_goto (tgt := 4) hX dX5_postman_50 (by decide) ?_
            exact G.at (ih hlt) ⟨rfl, vI (by rw [pmF, if_neg (fun z => z.2.elim c_23 (by rw [ej, nI_clamp (by omega)]; exact fun t => absurd t (Int32.not_lt.mpr c_38)))]), vI (nI_1 c), trivial⟩
          · refine g_iload_n hX dX5_postman_41 rfl rfl ?_
            refine g_goto (tgt := 46) hX dX5_postman_42 (by decide) ?_
            refine g_istore_n hX dX5_postman_46 rfl (by decide) ?_
            refine g_iinc hX dX5_postman_47 rfl (d := 1) (by decide) ?_
            refine g_goto (tgt := 4) hX dX5_postman_50 (by decide) ?_
            exact G.at (ih hlt) ⟨rfl, vI (by rw [pmF, if_pos ⟨gt0_1.mp c_18, Or.inr (by rw [ej, nI_clamp (by omega)]; exact Int32.not_le.mp c_38)⟩]), vI (nI_1 c), trivial⟩
    )
  refine g_iconst (v := -1) hX dX5_postman_0 (by decide) ?_
  refine g_istore_n hX dX5_postman_1 rfl (by decide) ?_
  refine g_iconst (v := 0) hX dX5_postman_2 (by decide) ?_
  refine g_istore_n hX dX5_postman_3 rfl (by decide) ?_
  exact G.at (loop 0 (Nat.zero_le _)) ⟨rfl, rfl, rfl, trivial⟩
set_option maxHeartbeats 4000000 in
set_option maxRecDepth 100000 in
theorem m_nextVillage {w : WG} {I : SI} {L : SL} (hm : ML w) {n : Nat} (hn : I 0 1 = nI n) (hn4 : n ≤ 4) : Ok w mX5_nextVillage [.ref (gA w 0)] I L (Pr (.int (lvF (I 4) n)) I L) := by
  refine Ok.of (by decide) (Nat.le_of_ble_eq_true rfl) (fun X hX => ?_)
  have loop := loop_up (n := n) (P := fun c => G X w mX5_nextVillage I L 4 (lvO [(0, .ref (gA w 0)), (1, .int (lvF (I 4) c)), (2, .int (nI c))]) []) (fun c hc ih => by
    refine g_iload_n hX dX5_nextVillage_4 rfl rfl ?_
    refine g_aload_n hX dX5_nextVillage_5 rfl rfl ?_
    refine g_get5I hX 1 dX5_nextVillage_6 b_fl_X5_74 hm.k0 (by decide) ?_
    rw [hn]
    refine g_icmp_ge (tgt := 53) hX dX5_nextVillage_9 (by decide) (fun c_9 => ?_) (fun c_9 => ?_)
    · refine g_iload_n hX dX5_nextVillage_53 rfl rfl ?_
      exact g_iret hX dX5_nextVillage_54 rfl (⟨by rw [show c = n from Nat.le_antisymm hc (nle c_9 (by omega) (by omega))], rfl, rfl⟩)
    · have hlt := nnle c_9 (by omega) (by omega)
      refine g_aload_n hX dX5_nextVillage_12 rfl rfl ?_
      refine g_get5R hX 8 dX5_nextVillage_13 b_fl_X5_19 hm.k0 (by decide) hm.q4 ?_
      refine g_iload_n hX dX5_nextVillage_16 rfl rfl ?_
      refine g_ialdN hX dX5_nextVillage_17 hm.k4 (⟨rfl, by omega⟩) (by decide) ?_
      refine g_if_le (tgt := 45) hX dX5_nextVillage_18 (by decide) (fun c_18 => ?_) (fun c_18 => ?_)
      · refine g_iload_n hX dX5_nextVillage_45 rfl rfl ?_
        refine g_istore_n hX dX5_nextVillage_46 rfl (by decide) ?_
        refine g_iinc hX dX5_nextVillage_47 rfl (d := 1) (by decide) ?_
        refine g_goto (tgt := 4) hX dX5_nextVillage_50 (by decide) ?_
        exact G.at (ih hlt) ⟨rfl, vI (by rw [lvF, if_neg (fun z => gt0_1.mpr z.1 c_18)]), vI (nI_1 c), trivial⟩
      · refine g_iload_n hX dX5_nextVillage_21 rfl rfl ?_
        refine g_iconst (v := -1) hX dX5_nextVillage_22 (by decide) ?_
        refine g_icmp_eq (tgt := 41) hX dX5_nextVillage_23 (by decide) (fun c_23 => ?_) (fun c_23 => ?_)
        · refine g_iload_n hX dX5_nextVillage_41 rfl rfl ?_
          refine g_goto (tgt := 46) hX dX5_nextVillage_42 (by decide) ?_
          refine g_istore_n hX dX5_nextVillage_46 rfl (by decide) ?_
          refine g_iinc hX dX5_nextVillage_47 rfl (d := 1) (by decide) ?_
          refine g_goto (tgt := 4) hX dX5_nextVillage_50 (by decide) ?_
          exact G.at (ih hlt) ⟨rfl, vI (by rw [lvF, if_pos ⟨gt0_1.mp c_18, Or.inl c_23⟩]), vI (nI_1 c), trivial⟩
        · obtain ⟨j, hj, ej⟩ := (lvF_cases (I 4) c).resolve_left c_23
          refine g_aload_n hX dX5_nextVillage_26 rfl rfl ?_
          refine g_get5R hX 8 dX5_nextVillage_27 b_fl_X5_19 hm.k0 (by decide) hm.q4 ?_
          refine g_iload_n hX dX5_nextVillage_30 rfl rfl ?_
          refine g_ialdN hX dX5_nextVillage_31 hm.k4 (⟨rfl, by omega⟩) (by decide) ?_
          refine g_aload_n hX dX5_nextVillage_32 rfl rfl ?_
          refine g_get5R hX 8 dX5_nextVillage_33 b_fl_X5_19 hm.k0 (by decide) hm.q4 ?_
          refine g_iload_n hX dX5_nextVillage_36 rfl rfl ?_
          refine g_ialdN hX dX5_nextVillage_37 hm.k4 (⟨ej, by omega⟩) (by decide) ?_
          refine g_icmp_le (tgt := 45) hX dX5_nextVillage_38 (by decide) (fun c_38 => ?_) (fun c_38 => ?_)
          · refine g_iload_n hX dX5_nextVillage_45 rfl rfl ?_
            refine g_istore_n hX dX5_nextVillage_46 rfl (by decide) ?_
            refine g_iinc hX dX5_nextVillage_47 rfl (d := 1) (by decide) ?_
            refine g_goto (tgt := 4) hX dX5_nextVillage_50 (by decide) ?_
            exact G.at (ih hlt) ⟨rfl, vI (by rw [lvF, if_neg (fun z => z.2.elim c_23 (by rw [ej, nI_clamp (by omega)]; exact fun t => absurd t (Int32.not_lt.mpr c_38)))]), vI (nI_1 c), trivial⟩
          · refine g_iload_n hX dX5_nextVillage_41 rfl rfl ?_
            refine g_goto (tgt := 46) hX dX5_nextVillage_42 (by decide) ?_
            refine g_istore_n hX dX5_nextVillage_46 rfl (by decide) ?_
            refine g_iinc hX dX5_nextVillage_47 rfl (d := 1) (by decide) ?_
            refine g_goto (tgt := 4) hX dX5_nextVillage_50 (by decide) ?_
            exact G.at (ih hlt) ⟨rfl, vI (by rw [lvF, if_pos ⟨gt0_1.mp c_18, Or.inr (by rw [ej, nI_clamp (by omega)]; exact Int32.not_le.mp c_38)⟩]), vI (nI_1 c), trivial⟩
    )
  refine g_iconst (v := -1) hX dX5_nextVillage_0 (by decide) ?_
  refine g_istore_n hX dX5_nextVillage_1 rfl (by decide) ?_
  refine g_iconst (v := 0) hX dX5_nextVillage_2 (by decide) ?_
  refine g_istore_n hX dX5_nextVillage_3 rfl (by decide) ?_
  exact G.at (loop 0 (Nat.zero_le _)) ⟨rfl, rfl, rfl, trivial⟩
