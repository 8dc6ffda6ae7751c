/-- a village in its rounds -/
def MS (V : VS) (J : SI) (n d : Nat) (h : Nat → Int32) (s : Int32) (t : Nat) : Prop := RV V J n d ∧ J 0 3 = nI t ∧ J 0 4 = s ∧ ∀ c, c < n → J 4 c = h c
def Fr (J J' : SI) : Prop := (∀ o, o ≠ 0 → o ≠ 4 → J' o = J o) ∧ ∀ k, k ≠ 3 → k ≠ 4 → J' 0 k = J 0 k
theorem Fr.rf {J : SI} : Fr J J := ⟨fun _ _ _ => rfl, fun _ _ _ => rfl⟩
theorem Fr.tr {J J' J2 : SI} (h : Fr J J') (h2 : Fr J' J2) : Fr J J2 := ⟨fun o a b => (h2.1 o a b).trans (h.1 o a b), fun k a b => (h2.2 k a b).trans (h.2 k a b)⟩
theorem rndF_at {V : VS} {n d r : Nat} {s : Int32} {h : Nat → Int32} {c : Nat} (hc : c < n) : rndF V n d r s h c = h c + wtR (V 4) (V 5) (V 7) (V 1) n (stF n r) (nI c) s d := by
  simp [rndF, rdR, hc]
set_option maxHeartbeats 4000000 in
set_option maxRecDepth 100000 in
theorem m_pass {w : WG} {I : SI} {L : SL} (hm : ML w) {V : VS} {n d t : Nat} {h : Nat → Int32} {s : Int32} (hS : MS V I n d h s t) (ht9 : t < 2000) : Ok w mX5_pass [.ref (gA w 0)] I L (fun r1 I1 L1 => r1 = none ∧ L1 = L ∧ MS V I1 n d (rndF V n d t s h) 0 (t + 1) ∧ Fr I I1) := by
  obtain ⟨hV, ht, hs, hh⟩ := hS
  obtain ⟨hn, hn4, hd, hd7, hB, hK⟩ := id hV
  have hst : stF n t < 2000 := by unfold stF; split; omega; exact Nat.lt_of_le_of_lt (Nat.mod_le _ _) ht9
  refine Ok.of (by decide) (Nat.le_of_ble_eq_true rfl) (fun X hX => ?_)
  have loop := loop_up (n := n) (P := fun c => ∀ f : Nat → Int32, (∀ x, x < c → f x = rndF V n d t s h x) → (∀ x, c ≤ x → f x = I 4 x) → G X w mX5_pass (rS I 4 f) L 2 (lvO [(0, .ref (gA w 0)), (1, .int (nI c))]) []) (fun c hcn ih f hf1 hf2 => by
    refine g_iload_n hX dX5_pass_2 rfl rfl ?_
    refine g_aload_n hX dX5_pass_3 rfl rfl ?_
    refine g_get5I hX 1 dX5_pass_4 b_fl_X5_74 hm.k0 (by decide) ?_
    try simp (disch := decide) only [rS_eq, rS_ne, rS_rS, pk_un, pk_us]
    rw [hn]
    refine g_icmp_ge (tgt := 42) hX dX5_pass_7 (by decide) (fun c_7 => ?_) (fun c_7 => ?_)
    · refine g_aload_n hX dX5_pass_42 rfl rfl ?_
      refine g_iconst (v := 0) hX dX5_pass_43 (by decide) ?_
      refine g_put5I hX 4 dX5_pass_44 b_fl_X5_84 hm.k0 pf5_4 ?_
      try simp (disch := decide) only [rS_eq, rS_ne, rS_rS, pk_un, pk_us]
      refine g_aload_n hX dX5_pass_47 rfl rfl ?_
      refine g_dup hX dX5_pass_48 rfl ?_
      refine g_get5I hX 3 dX5_pass_49 b_fl_X5_81 hm.k0 (by decide) ?_
      try simp (disch := decide) only [rS_eq, rS_ne, rS_rS, pk_un, pk_us]
      refine g_iconst (v := 1) hX dX5_pass_52 (by decide) ?_
      refine g_iadd hX dX5_pass_53 ?_
      refine g_put5I hX 3 dX5_pass_54 b_fl_X5_81 hm.k0 pf5_3 ?_
      try simp (disch := decide) only [rS_eq, rS_ne, rS_rS, pk_un, pk_us]
      exact g_vret hX dX5_pass_57 rfl (⟨rfl, rfl, ⟨⟨by rw [rS_eq, pk_un (by decide), pk_un (by decide)]; exact hn, hn4, by rw [rS_eq, pk_un (by decide), pk_un (by decide)]; exact hd, hd7, by simp (disch := decide) only [rS_ne]; exact hB, by simp (disch := decide) only [rS_ne]; exact hK⟩, by rw [rS_eq, pk_us, ht]; exact nI_1 t, by rw [rS_eq, pk_un (by decide), pk_us], fun x hx => by rw [rS_ne _ _ _ (by decide), rS_eq]; exact hf1 x (by have := nle c_7 (by omega) (by omega); omega)⟩, ⟨fun o h0 h4 => by rw [rS_ne _ _ _ h0, rS_ne _ _ _ h4], fun k h3 h4 => by rw [rS_eq, pk_un h3, pk_un h4]⟩⟩)
    · have hlt := nnle c_7 (by omega) (by omega)
      refine g_aload_n hX dX5_pass_10 rfl rfl ?_
      refine g_get5R hX 8 dX5_pass_11 b_fl_X5_19 hm.k0 (by decide) hm.q4 ?_
      refine g_iload_n hX dX5_pass_14 rfl rfl ?_
      refine g_dup2 hX dX5_pass_15 rfl rfl ?_
      refine g_ialdN hX dX5_pass_16 hm.k4 (⟨rfl, by omega⟩) (by decide) ?_
      try simp (disch := decide) only [rS_eq, rS_ne, rS_rS, pk_un, pk_us]
      refine g_aload_n hX dX5_pass_17 rfl rfl ?_
      refine g_iload_n hX dX5_pass_18 rfl rfl ?_
      refine g_aload_n hX dX5_pass_19 rfl rfl ?_
      refine g_aload_n hX dX5_pass_20 rfl rfl ?_
      refine g_get5I hX 3 dX5_pass_21 b_fl_X5_81 hm.k0 (by decide) ?_
      try simp (disch := decide) only [rS_eq, rS_ne, rS_rS, pk_un, pk_us]
      rw [ht]
      refine g_callVp _ hX dX5_pass_24 k_X5_192 ⟨by decide, by decide⟩ (by decide) hm.k0 rfl rfl (m_firstOf hm (by rw [rS_ne _ _ _ (by decide)]; exact hn) hn4 (by omega)) rfl (Nat.le_of_ble_eq_true rfl) ?_
      refine g_aload_n hX dX5_pass_27 rfl rfl ?_
      refine g_get5I hX 4 dX5_pass_28 b_fl_X5_84 hm.k0 (by decide) ?_
      try simp (disch := decide) only [rS_eq, rS_ne, rS_rS, pk_un, pk_us]
      rw [hs]
      refine g_callVp _ hX dX5_pass_31 k_X5_195 ⟨by decide, by decide⟩ (by decide) hm.k0 rfl rfl (m_comesTo hm (RV.row hV ⟨by decide, by decide, by decide⟩) hlt hst _) rfl (Nat.le_of_ble_eq_true rfl) ?_
      refine g_iadd hX dX5_pass_34 ?_
      refine g_iastN hX dX5_pass_35 hm.k4 (⟨rfl, by omega⟩) (by decide) ?_
      try simp (disch := decide) only [rS_eq, rS_ne, rS_rS, pk_un, pk_us]
      refine g_iinc hX dX5_pass_36 rfl (d := 1) (by decide) ?_
      refine g_goto (tgt := 2) hX dX5_pass_39 (by decide) ?_
      exact G.at (ih hlt _ (fun x hx => if e : x = c then (by subst e; rw [pk_us, rndF_at hlt, hf2 x (Nat.le_refl x), hh x hlt]) else (by rw [pk_un e]; exact hf1 x (by omega))) (fun x hx => by rw [pk_un (by omega)]; exact hf2 x (by omega))) ⟨rfl, vI (nI_1 c), trivial⟩
    )
  refine g_iconst (v := 0) hX dX5_pass_0 (by decide) ?_
  refine g_istore_n hX dX5_pass_1 rfl (by decide) ?_
  refine G.eqI (rS_self I 4).symm (G.at (loop 0 (Nat.zero_le _) (I 4) (fun x hx => absurd hx (Nat.not_lt_zero x)) (fun x _ => rfl)) ⟨rfl, rfl, trivial⟩)
def layC (J : SI) (a c : Nat) (old : Nat → Int32) : Nat → Int32 := fun k => if k = a then J 0 3 else if k = a + 1 then J 0 4 else if a + 2 ≤ k ∧ k < a + 2 + c then J 3 (k - (a + 2)) else if a + 6 ≤ k ∧ k < a + 6 + c then J 4 (k - (a + 6)) else old k
theorem layC_0 {J : SI} {a : Nat} {old : Nat → Int32} : upd (upd old a (J 0 3)) (a + 1) (J 0 4) = layC J a 0 old := by
  funext k; unfold layC upd
  by_cases h1 : k = a
  · subst h1; simp
  · by_cases h2 : k = a + 1
    · subst h2; simp
    · simp only [h1, h2, if_false]; rw [if_neg (by omega), if_neg (by omega)]
theorem layC_s {J : SI} {a c : Nat} {old : Nat → Int32} (hc : c < 4) : upd (upd (layC J a c old) (a + 2 + c) (J 3 c)) (a + 6 + c) (J 4 c) = layC J a (c + 1) old := by
  funext k; unfold layC upd
  by_cases h1 : k = a + 6 + c
  · subst h1
    rw [if_pos rfl, if_neg (by omega), if_neg (by omega), if_neg (by omega), if_pos (by omega), show a + 6 + c - (a + 6) = c by omega]
  · rw [if_neg h1]
    by_cases h2 : k = a + 2 + c
    · subst h2
      rw [if_pos rfl, if_neg (by omega), if_neg (by omega), if_pos (by omega), show a + 2 + c - (a + 2) = c by omega]
    · rw [if_neg h2]
      dsimp only
      by_cases g1 : k = a
      · rw [if_pos g1, if_pos g1]
      · rw [if_neg g1, if_neg g1]
        by_cases g2 : k = a + 1
        · rw [if_pos g2, if_pos g2]
        · rw [if_neg g2, if_neg g2]
          by_cases g3 : a + 2 ≤ k ∧ k < a + 2 + c
          · rw [if_pos g3, if_pos (show a + 2 ≤ k ∧ k < a + 2 + (c + 1) by omega)]
          · rw [if_neg g3, if_neg (show ¬ (a + 2 ≤ k ∧ k < a + 2 + (c + 1)) by omega)]
            by_cases g4 : a + 6 ≤ k ∧ k < a + 6 + c
            · rw [if_pos g4, if_pos (show a + 6 ≤ k ∧ k < a + 6 + (c + 1) by omega)]
            · rw [if_neg g4, if_neg (show ¬ (a + 6 ≤ k ∧ k < a + 6 + (c + 1)) by omega)]
set_option maxHeartbeats 4000000 in
set_option maxRecDepth 100000 in
theorem m_lays {w : WG} {I : SI} {L : SL} (hm : ML w) {q a m : Nat} (hk : (gK w)[q]? = some (6, m)) (hm31 : m < 1000) (ha : a + 10 ≤ m) (hq : q ≠ 0 ∧ q ≠ 3 ∧ q ≠ 4) : Ok w mX5_lays [.ref (gA w 0), .ref (gA w q), .int (nI a)] I L (fun r1 I1 L1 => r1 = none ∧ I1 = rS I q (layC I a 4 (I q)) ∧ L1 = L) := by
  have e0 : ∀ f : Nat → Int32, rS I q f 0 = I 0 := fun f => rS_ne _ _ _ (Ne.symm hq.1)
  have e3 : ∀ f : Nat → Int32, rS I q f 3 = I 3 := fun f => rS_ne _ _ _ (Ne.symm hq.2.1)
  have e4 : ∀ f : Nat → Int32, rS I q f 4 = I 4 := fun f => rS_ne _ _ _ (Ne.symm hq.2.2)
  refine Ok.of (by decide) (Nat.le_of_ble_eq_true rfl) (fun X hX => ?_)
  have loop := loop_up (n := 4) (P := fun c => G X w mX5_lays (rS I q (layC I a c (I q))) L 18 (lvO [(0, .ref (gA w 0)), (1, .ref (gA w q)), (2, .int (nI a)), (3, .int (nI c))]) []) (fun c hc4 ih => by
    refine g_iload_n hX dX5_lays_18 rfl rfl ?_
    refine g_iconst (v := 4) hX dX5_lays_19 (by decide) ?_
    rw [show (4 : Int32) = nI 4 from rfl]
    refine g_icmp_ge (tgt := 56) hX dX5_lays_20 (by decide) (fun c_20 => ?_) (fun c_20 => ?_)
    · exact g_vret hX dX5_lays_56 rfl (⟨rfl, by rw [show c = 4 from Nat.le_antisymm hc4 (nle c_20 (by decide) (by omega))], rfl⟩)
    · have hlt := nnle c_20 (by decide) (by omega)
      refine g_aload_n hX dX5_lays_23 rfl rfl ?_
      refine g_iload_n hX dX5_lays_24 rfl rfl ?_
      refine g_iconst (v := 2) hX dX5_lays_25 (by decide) ?_
      refine g_iadd hX dX5_lays_26 ?_
      refine g_iload_n hX dX5_lays_27 rfl rfl ?_
      refine g_iadd hX dX5_lays_28 ?_
      refine g_aload_n hX dX5_lays_29 rfl rfl ?_
      refine g_get5R hX 7 dX5_lays_30 b_fl_X5_16 hm.k0 (by decide) hm.q3 ?_
      refine g_iload_n hX dX5_lays_33 rfl rfl ?_
      refine g_ialdN hX dX5_lays_34 hm.k3 (⟨rfl, by omega⟩) (by decide) ?_
      try simp only [rS_eq, rS_rS, e0, e3, e4]
      refine g_iastN hX dX5_lays_35 hk (⟨(by rw [show (2 : Int32) = nI 2 from rfl, nI_add, nI_add]), by omega⟩) (by omega) ?_
      try simp only [rS_eq, rS_rS, e0, e3, e4]
      refine g_aload_n hX dX5_lays_36 rfl rfl ?_
      refine g_iload_n hX dX5_lays_37 rfl rfl ?_
      refine g_bipush (v := 6) hX dX5_lays_38 (by decide) ?_
      refine g_iadd hX dX5_lays_40 ?_
      refine g_iload_n hX dX5_lays_41 rfl rfl ?_
      refine g_iadd hX dX5_lays_42 ?_
      refine g_aload_n hX dX5_lays_43 rfl rfl ?_
      refine g_get5R hX 8 dX5_lays_44 b_fl_X5_19 hm.k0 (by decide) hm.q4 ?_
      refine g_iload_n hX dX5_lays_47 rfl rfl ?_
      refine g_ialdN hX dX5_lays_48 hm.k4 (⟨rfl, by omega⟩) (by decide) ?_
      try simp only [rS_eq, rS_rS, e0, e3, e4]
      refine g_iastN hX dX5_lays_49 hk (⟨(by rw [show (6 : Int32) = nI 6 from rfl, nI_add, nI_add]), by omega⟩) (by omega) ?_
      try simp only [rS_eq, rS_rS, e0, e3, e4]
      refine g_iinc hX dX5_lays_50 rfl (d := 1) (by decide) ?_
      refine g_goto (tgt := 18) hX dX5_lays_53 (by decide) ?_
      rw [layC_s hlt]
      exact G.at (ih hlt) ⟨rfl, rfl, rfl, vI (nI_1 c), trivial⟩
    )
  refine g_aload_n hX dX5_lays_0 rfl rfl ?_
  refine g_iload_n hX dX5_lays_1 rfl rfl ?_
  refine g_aload_n hX dX5_lays_2 rfl rfl ?_
  refine g_get5I hX 3 dX5_lays_3 b_fl_X5_81 hm.k0 (by decide) ?_
  try simp only [rS_eq, rS_rS, e0, e3, e4]
  refine g_iastN hX dX5_lays_6 hk (⟨rfl, by omega⟩) (by omega) ?_
  try simp only [rS_eq, rS_rS, e0, e3, e4]
  refine g_aload_n hX dX5_lays_7 rfl rfl ?_
  refine g_iload_n hX dX5_lays_8 rfl rfl ?_
  refine g_iconst (v := 1) hX dX5_lays_9 (by decide) ?_
  refine g_iadd hX dX5_lays_10 ?_
  refine g_aload_n hX dX5_lays_11 rfl rfl ?_
  refine g_get5I hX 4 dX5_lays_12 b_fl_X5_84 hm.k0 (by decide) ?_
  try simp only [rS_eq, rS_rS, e0, e3, e4]
  refine g_iastN hX dX5_lays_15 hk (⟨nI_1 _, by omega⟩) (by omega) ?_
  try simp only [rS_eq, rS_rS, e0, e3, e4]
  refine g_iconst (v := 0) hX dX5_lays_16 (by decide) ?_
  refine g_istore_n hX dX5_lays_17 rfl (by decide) ?_
  rw [layC_0]
  exact G.at (loop 0 (Nat.zero_le _)) ⟨rfl, rfl, rfl, rfl, trivial⟩
theorem rs_34 {I : SI} {f g h : Nat → Int32} : rS (rS (rS I 3 f) 4 g) 3 h = rS (rS I 3 h) 4 g := by
  funext q; by_cases h1 : q = 3
  · subst h1; simp [rS]
  · by_cases h2 : q = 4
    · subst h2; simp [rS]
    · simp [rS, h1, h2]
def tkC (T : Nat → Int32) (a c : Nat) (old : Nat → Int32) : Nat → Int32 := fun k => if k < c then T (a + k) else old k
theorem tkC_0 {T : Nat → Int32} {a : Nat} {old : Nat → Int32} : tkC T a 0 old = old := by funext k; simp [tkC]
theorem tkC_s {T : Nat → Int32} {a c : Nat} {old : Nat → Int32} : upd (tkC T a c old) c (T (a + c)) = tkC T a (c + 1) old := by
  funext k; unfold tkC upd
  by_cases h : k = c
  · subst h; simp
  · rw [if_neg h]
    dsimp only
    by_cases h1 : k < c
    · rw [if_pos h1, if_pos (by omega)]
    · rw [if_neg h1, if_neg (by omega)]
def tkJ (J : SI) (T : Nat → Int32) (a c : Nat) : SI := rS (rS (rS J 0 (upd (upd (J 0) 3 (T a)) 4 (T (a + 1)))) 3 (tkC T (a + 2) c (J 3))) 4 (tkC T (a + 6) c (J 4))
set_option maxHeartbeats 4000000 in
set_option maxRecDepth 100000 in
theorem m_takes {w : WG} {I : SI} {L : SL} (hm : ML w) {q a m : Nat} (hk : (gK w)[q]? = some (6, m)) (hm31 : m < 1000) (ha : a + 10 ≤ m) (hq : q ≠ 0 ∧ q ≠ 3 ∧ q ≠ 4) : Ok w mX5_takes [.ref (gA w 0), .ref (gA w q), .int (nI a)] I L (fun r1 I1 L1 => r1 = none ∧ I1 = tkJ I (I q) a 4 ∧ L1 = L) := by
  have eq0 : ∀ (J : SI) (f : Nat → Int32), rS J 0 f q = J q := fun J f => rS_ne _ _ _ hq.1
  have eq1 : ∀ (J : SI) (f : Nat → Int32), rS J 3 f q = J q := fun J f => rS_ne _ _ _ hq.2.1
  have eq2 : ∀ (J : SI) (f : Nat → Int32), rS J 4 f q = J q := fun J f => rS_ne _ _ _ hq.2.2
  refine Ok.of (by decide) (Nat.le_of_ble_eq_true rfl) (fun X hX => ?_)
  have loop := loop_up (n := 4) (P := fun c => G X w mX5_takes (tkJ I (I q) a c) L 18 (lvO [(0, .ref (gA w 0)), (1, .ref (gA w q)), (2, .int (nI a)), (3, .int (nI c))]) []) (fun c hc4 ih => by
    unfold tkJ
    refine g_iload_n hX dX5_takes_18 rfl rfl ?_
    refine g_iconst (v := 4) hX dX5_takes_19 (by decide) ?_
    rw [show (4 : Int32) = nI 4 from rfl]
    refine g_icmp_ge (tgt := 56) hX dX5_takes_20 (by decide) (fun c_20 => ?_) (fun c_20 => ?_)
    · exact g_vret hX dX5_takes_56 rfl (⟨rfl, by rw [show c = 4 from Nat.le_antisymm hc4 (nle c_20 (by decide) (by omega))]; rfl, rfl⟩)
    · have hlt := nnle c_20 (by decide) (by omega)
      refine g_aload_n hX dX5_takes_23 rfl rfl ?_
      refine g_get5R hX 7 dX5_takes_24 b_fl_X5_16 hm.k0 (by decide) hm.q3 ?_
      refine g_iload_n hX dX5_takes_27 rfl rfl ?_
      refine g_aload_n hX dX5_takes_28 rfl rfl ?_
      refine g_iload_n hX dX5_takes_29 rfl rfl ?_
      refine g_iconst (v := 2) hX dX5_takes_30 (by decide) ?_
      refine g_iadd hX dX5_takes_31 ?_
      refine g_iload_n hX dX5_takes_32 rfl rfl ?_
      refine g_iadd hX dX5_takes_33 ?_
      refine g_ialdN hX dX5_takes_34 hk (⟨(by rw [show (2 : Int32) = nI 2 from rfl, nI_add, nI_add]), by omega⟩) (by omega) ?_
      try simp (disch := decide) only [rS_eq, rS_ne, rS_rS, rs_34, eq0, eq1, eq2]
      refine g_iastN hX dX5_takes_35 hm.k3 (⟨rfl, by omega⟩) (by decide) ?_
      try simp (disch := decide) only [rS_eq, rS_ne, rS_rS, rs_34, eq0, eq1, eq2]
      refine g_aload_n hX dX5_takes_36 rfl rfl ?_
      refine g_get5R hX 8 dX5_takes_37 b_fl_X5_19 hm.k0 (by decide) hm.q4 ?_
      refine g_iload_n hX dX5_takes_40 rfl rfl ?_
      refine g_aload_n hX dX5_takes_41 rfl rfl ?_
      refine g_iload_n hX dX5_takes_42 rfl rfl ?_
      refine g_bipush (v := 6) hX dX5_takes_43 (by decide) ?_
      refine g_iadd hX dX5_takes_45 ?_
      refine g_iload_n hX dX5_takes_46 rfl rfl ?_
      refine g_iadd hX dX5_takes_47 ?_
      refine g_ialdN hX dX5_takes_48 hk (⟨(by rw [show (6 : Int32) = nI 6 from rfl, nI_add, nI_add]), by omega⟩) (by omega) ?_
      try simp (disch := decide) only [rS_eq, rS_ne, rS_rS, rs_34, eq0, eq1, eq2]
      refine g_iastN hX dX5_takes_49 hm.k4 (⟨rfl, by omega⟩) (by decide) ?_
      try simp (disch := decide) only [rS_eq, rS_ne, rS_rS, rs_34, eq0, eq1, eq2]
      refine g_iinc hX dX5_takes_50 rfl (d := 1) (by decide) ?_
      refine g_goto (tgt := 18) hX dX5_takes_53 (by decide) ?_
      rw [tkC_s, tkC_s]
      have ih := ih hlt
      unfold tkJ at ih
      exact G.at ih ⟨rfl, rfl, rfl, vI (nI_1 c), trivial⟩
    )
  refine g_aload_n hX dX5_takes_0 rfl rfl ?_
  refine g_aload_n hX dX5_takes_1 rfl rfl ?_
  refine g_iload_n hX dX5_takes_2 rfl rfl ?_
  refine g_ialdN hX dX5_takes_3 hk (⟨rfl, by omega⟩) (by omega) ?_
  try simp (disch := decide) only [rS_eq, rS_ne, rS_rS, rs_34, eq0, eq1, eq2]
  refine g_put5I hX 3 dX5_takes_4 b_fl_X5_81 hm.k0 pf5_3 ?_
  try simp (disch := decide) only [rS_eq, rS_ne, rS_rS, rs_34, eq0, eq1, eq2]
  refine g_aload_n hX dX5_takes_7 rfl rfl ?_
  refine g_aload_n hX dX5_takes_8 rfl rfl ?_
  refine g_iload_n hX dX5_takes_9 rfl rfl ?_
  refine g_iconst (v := 1) hX dX5_takes_10 (by decide) ?_
  refine g_iadd hX dX5_takes_11 ?_
  refine g_ialdN hX dX5_takes_12 hk (⟨nI_1 _, by omega⟩) (by omega) ?_
  try simp (disch := decide) only [rS_eq, rS_ne, rS_rS, rs_34, eq0, eq1, eq2]
  refine g_put5I hX 4 dX5_takes_13 b_fl_X5_84 hm.k0 pf5_4 ?_
  try simp (disch := decide) only [rS_eq, rS_ne, rS_rS, rs_34, eq0, eq1, eq2]
  refine g_iconst (v := 0) hX dX5_takes_16 (by decide) ?_
  refine g_istore_n hX dX5_takes_17 rfl (by decide) ?_
  refine G.eqI (show _ = tkJ I (I q) a 0 by unfold tkJ; rw [tkC_0, tkC_0, show rS (rS I 0 (upd (upd (I 0) 3 (I q a)) 4 (I q (a + 1)))) 3 (I 3) = rS I 0 (upd (upd (I 0) 3 (I q a)) 4 (I q (a + 1))) from by have := rS_self (rS I 0 (upd (upd (I 0) 3 (I q a)) 4 (I q (a + 1)))) 3; rwa [rS_ne _ _ _ (by decide)] at this]; have := rS_self (rS I 0 (upd (upd (I 0) 3 (I q a)) 4 (I q (a + 1)))) 4; rw [rS_ne _ _ _ (by decide)] at this; exact this.symm) (G.at (loop 0 (Nat.zero_le _)) ⟨rfl, rfl, rfl, rfl, trivial⟩)
