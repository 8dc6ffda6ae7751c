theorem lg_0 {y : Int64} : lg_cmp y 0 = 0 ↔ y = 0 := by
  unfold lg_cmp
  by_cases h : y > 0
  · rw [if_pos h]
    exact ⟨fun z => absurd z (by decide), fun z => absurd (z ▸ h) (by decide)⟩
  · rw [if_neg h]
    by_cases g : y = 0
    · rw [if_pos g]; exact ⟨fun _ => g, fun _ => rfl⟩
    · rw [if_neg g]; exact ⟨fun z => absurd z (by decide), fun z => absurd z g⟩
def gG : Nat → Int64 → Int64 → Int64 × Int64
  | 0, a, b => (a, b)
  | k + 1, a, b => if b = 0 then (a, b) else gG k b (a - a / b * b)
def gOK (t : Nat) : Bool := match gG 8 (nI t).toInt64 10 with
  | (a, b) => decide (b = 0) && !decide (a = 0) && decide ((nI t).toInt64 / a = (nI t / cdX 10 (nI t)).toInt64) && decide (10 / a = (10 / cdX 10 (nI t)).toInt64)
set_option maxRecDepth 100000 in
theorem g_all : ∀ t, t < 701 → gOK t = true := by decide +kernel
theorem wd_10 : ∀ a, a < 6 → ∀ b, b < 6 → ∃ t, t < 11 ∧ wdF (nI a) (nI b) = nI t := by decide +kernel
theorem wt_b {K W F B : Nat → Int32} {n a d : Nat} {c s : Int32} (hK : ∀ k, k < d → (∃ x, K k = nI x ∧ x ≤ 5) ∧ ∃ x, W k = nI x ∧ x ≤ 5) : ∀ k, k ≤ d → ∃ t, t ≤ 10 * k ∧ wtR K W F B n a c s k = nI t := by
  intro k
  induction k with
  | zero => intro _; exact ⟨0, Nat.le_refl 0, rfl⟩
  | succ k ih =>
    intro hk
    obtain ⟨t, h1, h2⟩ := ih (by omega)
    obtain ⟨⟨x, e1, hx⟩, y, e2, hy⟩ := hK k (by omega)
    rw [wtR, h2, e1, e2]
    split
    · obtain ⟨z, h3, h4⟩ := wd_10 x (by omega) y (by omega)
      exact ⟨t + z, by omega, by rw [h4, nI_add]⟩
    · exact ⟨t, by omega, Int32.add_zero _⟩
theorem ten_sub : ∀ c, c < 11 → (10 : Int32) - nI c = nI (10 - c) := by decide +kernel
def LL (L : SL) (x y : Int64) : SL := rS L 0 (vp_updL (vp_updL (L 0) 29 x) 30 y)
theorem RR.frac {I J : SI} {L : SL} {n d r q p m : Nat} {a b : Int32} {x y : Int64} (h : RR I J L n d r q p m) (hx : x = a.toInt64) (hy : y = b.toInt64) : RR (rS I 0 (upd (upd (I 0) 4 a) 5 b)) J (LL L x y) n d r q p m := by
  obtain ⟨h1, h2, c1, c2, c3, c4, c5, c6⟩ := h
  refine ⟨h1.o0, h2.o0, ?_, ?_, ?_, ?_, ?_, by rw [X27_rS (by decide)]; exact c6⟩
  · rw [rS_eq, pk_un (by decide), pk_un (by decide)]; exact c1
  · rw [rS_eq, pk_un (by decide), pk_un (by decide)]; exact c2
  · rw [rS_eq, pk_un (by decide), pk_un (by decide)]; exact c3
  · rw [rS_eq, pk_un (by decide), pk_us]; unfold LL; rw [rS_eq]; unfold vp_updL; rw [if_neg (by decide), if_pos rfl]; exact hx
  · rw [rS_eq, pk_us]; unfold LL; rw [rS_eq]; unfold vp_updL; rw [if_pos rfl]; exact hy
theorem LL_eq {L : SL} {x y : Int64} : rS (rS L 0 (vp_updL (L 0) 29 x)) 0 (vp_updL (rS L 0 (vp_updL (L 0) 29 x) 0) 30 y) = LL L x y := by
  unfold LL; rw [rS_rS, rS_eq]
set_option maxHeartbeats 4000000 in
set_option maxRecDepth 100000 in
theorem m_lay {w : WG} {I : SI} {L : SL} (hm : ML w) {up g : Int64} (hg : ¬ g = 0) (hgG : gG 8 up 10 = (g, 0)) : Ok w mX5_lay [.ref (gA w 0), .long up, .long 10] I L (fun r1 I1 L1 => r1 = none ∧ I1 = I ∧ L1 = LL L (up / g) (10 / g)) := by
  refine Ok.of (by decide) (Nat.le_of_ble_eq_true rfl) (fun X hX => ?_)
  have loop : ∀ (fuel : Nat) (a b : Int64), gG fuel a b = (g, 0) → G X w mX5_lay I L 6 (lvO [(0, .ref (gA w 0)), (1, .long up), (3, .long 10), (5, .long a), (7, .long b)]) [] := by
    intro fuel
    induction fuel with
    | zero =>
      intro a b hG
      refine g_lload hX dX5_lay_6 rfl ?_
      refine g_lconst (v := 0) hX dX5_lay_8 (by decide) ?_
      refine g_lcmp hX dX5_lay_9 ?_
      refine g_if_eq (tgt := 31) hX dX5_lay_10 (by decide) (fun c_10 => ?_) (fun c_10 => ?_)
      · have e0 : b = 0 := lg_0.mp c_10
        subst e0
        have e1 : a = g := congrArg Prod.fst hG
        subst e1
        refine g_aload_n hX dX5_lay_31 rfl rfl ?_
        refine g_lload_n hX dX5_lay_32 rfl rfl ?_
        refine g_lload hX dX5_lay_33 rfl ?_
        refine g_ldiv hX dX5_lay_35 (hg) ?_
        refine g_put5L hX 29 dX5_lay_36 b_fl_X5_256 hm.k0 pf5_29 ?_
        refine g_aload_n hX dX5_lay_39 rfl rfl ?_
        refine g_lload_n hX dX5_lay_40 rfl rfl ?_
        refine g_lload hX dX5_lay_41 rfl ?_
        refine g_ldiv hX dX5_lay_43 (hg) ?_
        refine g_put5L hX 30 dX5_lay_44 b_fl_X5_61 hm.k0 pf5_30 ?_
        exact g_vret hX dX5_lay_47 rfl (⟨rfl, rfl, LL_eq⟩)
      · exact absurd (lg_0.mpr (congrArg Prod.snd hG)) c_10
    | succ fuel ih =>
      intro a b hG
      refine g_lload hX dX5_lay_6 rfl ?_
      refine g_lconst (v := 0) hX dX5_lay_8 (by decide) ?_
      refine g_lcmp hX dX5_lay_9 ?_
      refine g_if_eq (tgt := 31) hX dX5_lay_10 (by decide) (fun c_10 => ?_) (fun c_10 => ?_)
      · have e0 : b = 0 := lg_0.mp c_10
        subst e0
        have hG2 := hG
        rw [gG, if_pos rfl] at hG2
        have e1 : a = g := congrArg Prod.fst hG2
        subst e1
        refine g_aload_n hX dX5_lay_31 rfl rfl ?_
        refine g_lload_n hX dX5_lay_32 rfl rfl ?_
        refine g_lload hX dX5_lay_33 rfl ?_
        refine g_ldiv hX dX5_lay_35 (hg) ?_
        refine g_put5L hX 29 dX5_lay_36 b_fl_X5_256 hm.k0 pf5_29 ?_
        refine g_aload_n hX dX5_lay_39 rfl rfl ?_
        refine g_lload_n hX dX5_lay_40 rfl rfl ?_
        refine g_lload hX dX5_lay_41 rfl ?_
        refine g_ldiv hX dX5_lay_43 (hg) ?_
        refine g_put5L hX 30 dX5_lay_44 b_fl_X5_61 hm.k0 pf5_30 ?_
        exact g_vret hX dX5_lay_47 rfl (⟨rfl, rfl, LL_eq⟩)
      · rw [gG, if_neg (fun z => c_10 (lg_0.mpr z))] at hG
        refine g_lload hX dX5_lay_13 rfl ?_
        refine g_lload hX dX5_lay_15 rfl ?_
        refine g_lrem hX dX5_lay_17 (fun z => c_10 (lg_0.mpr z)) ?_
        refine g_lstore hX dX5_lay_18 (by decide) ?_
        refine g_lload hX dX5_lay_20 rfl ?_
        refine g_lstore hX dX5_lay_22 (by decide) ?_
        refine g_lload hX dX5_lay_24 rfl ?_
        refine g_lstore hX dX5_lay_26 (by decide) ?_
        refine g_goto (tgt := 6) hX dX5_lay_28 (by decide) ?_
        exact G.at (ih _ _ hG) ⟨rfl, rfl, rfl, rfl, rfl, trivial⟩
  refine g_lload_n hX dX5_lay_0 rfl rfl ?_
  refine g_lstore hX dX5_lay_1 (by decide) ?_
  refine g_lload_n hX dX5_lay_3 rfl rfl ?_
  refine g_lstore hX dX5_lay_4 (by decide) ?_
  exact G.at (loop 8 _ _ hgG) ⟨rfl, rfl, rfl, rfl, rfl, trivial⟩
set_option maxHeartbeats 4000000 in
set_option maxRecDepth 100000 in
theorem n_strays {w : WG} {I : SI} {L : SL} {XI : SI} {n d r q p m : Nat} (hm : ML w) (h : RR XI I L n d r q p m) (a c : Int32) : Ok w mX5_strays [.ref (gA w 0), .int a, .int c] I L (QM (spStrays XI n d r a c)) := by
  obtain ⟨hRX, hRJ, hRF⟩ := id h
  obtain ⟨⟨xn, xn4, xd, xd7, xr, xr9⟩, ⟨xq, xq6⟩, ⟨xp, xp8⟩, ⟨xm, xm150⟩, xA, xH, xD, xP, xT⟩ := id hRX
  obtain ⟨⟨jn, -, jd, -, jB, jK⟩, jr, ja, jq, jp, jm, jH, jN, jP, jT⟩ := RJ_v hRJ
  have hRV : RV (vx XI 1) I n d := hRJ.1
  have hMS := h.ms
  have hst : stF n r < 2000 := by unfold stF; split; omega; exact Nat.lt_of_le_of_lt (Nat.mod_le _ _) (by omega)
  refine Ok.of (by decide) (Nat.le_of_ble_eq_true rfl) (fun X hX => ?_)
  refine g_aload_n hX dX5_strays_0 rfl rfl ?_
  refine g_iload_n hX dX5_strays_1 rfl rfl ?_
  refine g_callVp _ hX dX5_strays_2 k_X5_206 ⟨by decide, by decide⟩ (by decide) hm.k0 rfl rfl (m_isMan hm jn (by omega) _) rfl (Nat.le_of_ble_eq_true rfl) ?_
  refine g_if_eq (tgt := 18) hX dX5_strays_5 (by decide) (fun c_5 => ?_) (fun c_5 => ?_)
  · refine g_aload_n hX dX5_strays_18 rfl rfl ?_
    refine g_callV _ hX dX5_strays_19 k_X5_97 ⟨by decide, by decide⟩ (by decide) hm.k0 rfl rfl (m_bad hm) rfl (Nat.le_of_ble_eq_true rfl) (fun r1 I1 L1 hq => ?_)
    obtain ⟨rfl, rfl, rfl⟩ := hq
    exact g_iret hX dX5_strays_22 rfl (by rw [spStrays, if_pos (by intro z; first | exact b01_0 c_5 (xn ▸ z.1) | exact b01_0 c_15 z.2)]; exact ⟨rfl, n, d, r, q, p, m, h.bad⟩)
  · refine g_iload_n hX dX5_strays_8 rfl rfl ?_
    refine g_iconst (v := 0) hX dX5_strays_9 (by decide) ?_
    refine g_bipush (v := 10) hX dX5_strays_10 (by decide) ?_
    refine g_callSp _ hX dX5_strays_12 k_X5_93 ⟨by decide, by decide⟩ rfl (ok_in _ _ _) rfl (Nat.le_of_ble_eq_true rfl) ?_
    refine g_if_ne (tgt := 23) hX dX5_strays_15 (by decide) (fun c_15 => ?_) (fun c_15 => ?_)
    · obtain ⟨a, ha, rfl⟩ := ix (b01_n c_5) (by omega)
      obtain ⟨c, hc, rfl⟩ := ix2 (n := 10) rfl (by decide) (b01_n c_15)
      obtain ⟨t, ht, ht2⟩ : ∃ t, t ≤ 10 * d ∧ wtR (vx XI 1 4) (vx XI 1 5) (vx XI 1 7) (vx XI 1 1) n (stF n r) (nI a) (XI 1 2) d = nI t := wt_b (fun k hk => ⟨(xD k hk).1, (xD k hk).2.1⟩) d (Nat.le_refl d)
      have hu : t * (10 - c) ≤ 70 * 10 := Nat.mul_le_mul (by omega) (by omega)
      have hok := g_all (t * (10 - c)) (by omega)
      unfold gOK at hok
      obtain ⟨g, b, hgb⟩ : ∃ g b, gG 8 (nI (t * (10 - c))).toInt64 10 = (g, b) := ⟨_, _, rfl⟩
      rw [hgb] at hok
      simp only [Bool.and_eq_true, decide_eq_true_eq, Bool.not_eq_true', decide_eq_false_iff_not] at hok
      obtain ⟨⟨⟨rfl, hg0⟩, hg1⟩, hg2⟩ := hok
      have hgG := hgb
      have etn : tnX XI n d r (nI a) (nI c) = nI (t * (10 - c)) := by rw [tnX, show wtR (XI 5) (XI 6) (XI 8) (XI 2) n (stF n r) (nI a) (XI 1 2) d = nI t from ht2, ten_sub c (by omega), pk_mul]
      refine g_aload_n hX dX5_strays_23 rfl rfl ?_
      refine g_aload_n hX dX5_strays_24 rfl rfl ?_
      refine g_iload_n hX dX5_strays_25 rfl rfl ?_
      refine g_aload_n hX dX5_strays_26 rfl rfl ?_
      refine g_aload_n hX dX5_strays_27 rfl rfl ?_
      refine g_get5I hX 3 dX5_strays_28 b_fl_X5_81 hm.k0 (by decide) ?_
      rw [jr]
      refine g_callVp _ hX dX5_strays_31 k_X5_192 ⟨by decide, by decide⟩ (by decide) hm.k0 rfl rfl (m_firstOf hm jn xn4 (by omega)) rfl (Nat.le_of_ble_eq_true rfl) ?_
      refine g_aload_n hX dX5_strays_34 rfl rfl ?_
      refine g_get5I hX 4 dX5_strays_35 b_fl_X5_84 hm.k0 (by decide) ?_
      rw [ja]
      refine g_callVp _ hX dX5_strays_38 k_X5_195 ⟨by decide, by decide⟩ (by decide) hm.k0 rfl rfl (m_comesTo hm hRV ha hst _) rfl (Nat.le_of_ble_eq_true rfl) ?_
      refine g_bipush (v := 10) hX dX5_strays_41 (by decide) ?_
      refine g_iload_n hX dX5_strays_43 rfl rfl ?_
      refine g_isub hX dX5_strays_44 ?_
      refine g_imul hX dX5_strays_45 ?_
      rw [ht2, ten_sub c (by omega), pk_mul]
      refine g_i2l hX dX5_strays_46 ?_
      refine g_ldc2 (v := 10) hX dX5_strays_47 b_ct_X5_259 ?_
      refine g_callV _ hX dX5_strays_50 k_X5_261 ⟨by decide, by decide⟩ (by decide) hm.k0 rfl rfl (m_lay hm hg0 hgG) rfl (Nat.le_of_ble_eq_true rfl) (fun r1 I1 L1 hq => ?_)
      obtain ⟨rfl, rfl, rfl⟩ := hq
      refine g_iconst (v := 1) hX dX5_strays_53 (by decide) ?_
      exact g_iret hX dX5_strays_54 rfl (by rw [spStrays, if_neg (fun z => z ⟨⟨nI_pos' (by omega), by rw [xn]; exact nI_lt ha (by omega)⟩, b01_n c_15⟩), etn]; exact ⟨rfl, n, d, r, q, p, m, h.frac hg1 hg2⟩)
    · refine g_aload_n hX dX5_strays_18 rfl rfl ?_
      refine g_callV _ hX dX5_strays_19 k_X5_97 ⟨by decide, by decide⟩ (by decide) hm.k0 rfl rfl (m_bad hm) rfl (Nat.le_of_ble_eq_true rfl) (fun r1 I1 L1 hq => ?_)
      obtain ⟨rfl, rfl, rfl⟩ := hq
      exact g_iret hX dX5_strays_22 rfl (by rw [spStrays, if_pos (by intro z; first | exact b01_0 c_5 (xn ▸ z.1) | exact b01_0 c_15 z.2)]; exact ⟨rfl, n, d, r, q, p, m, h.bad⟩)
set_option maxHeartbeats 4000000 in
set_option maxRecDepth 100000 in
theorem m_isChoice {w : WG} {I : SI} {L : SL} (hm : ML w) {V : VS} {d i : Nat} (jd : I 0 2 = nI d) (ja : I 0 4 = V 0 2) (hd7 : d ≤ 7) (hi : i < 8) : Ok w mX5_isChoice [.ref (gA w 0), .int (nI i)] I L (fun r1 I1 L1 => ∃ x, r1 = some (.int x) ∧ I1 = I ∧ L1 = L ∧ ((x = 1 ∧ chF V d i) ∨ (x = 0 ∧ ¬ chF V d i))) := by
  refine Ok.of (by decide) (Nat.le_of_ble_eq_true rfl) (fun X hX => ?_)
  refine g_iload_n hX dX5_isChoice_0 rfl rfl ?_
  refine g_bipush (v := 7) hX dX5_isChoice_1 (by decide) ?_
  rw [show (7 : Int32) = nI 7 from rfl]
  refine g_icmp_eq (tgt := 25) hX dX5_isChoice_3 (by decide) (fun c_3 => ?_) (fun c_3 => ?_)
  · refine g_iconst (v := 1) hX dX5_isChoice_25 (by decide) ?_
    refine g_goto (tgt := 30) hX dX5_isChoice_26 (by decide) ?_
    exact g_zret hX dX5_isChoice_30 rfl rfl (⟨_, rfl, rfl, rfl, Or.inl ⟨rfl, Or.inl ((nI_eq (by omega) (by decide)).mp c_3)⟩⟩)
  · refine g_iload_n hX dX5_isChoice_6 rfl rfl ?_
    refine g_aload_n hX dX5_isChoice_7 rfl rfl ?_
    refine g_get5I hX 2 dX5_isChoice_8 b_fl_X5_78 hm.k0 (by decide) ?_
    rw [jd]
    refine g_icmp_ge (tgt := 29) hX dX5_isChoice_11 (by decide) (fun c_11 => ?_) (fun c_11 => ?_)
    · refine g_iconst (v := 0) hX dX5_isChoice_29 (by decide) ?_
      exact g_zret hX dX5_isChoice_30 rfl rfl (⟨_, rfl, rfl, rfl, Or.inr ⟨rfl, fun z => z.elim (fun e => c_3 (by rw [e])) (fun y => absurd y.1 (by have := nle c_11 (by omega) (by omega); omega))⟩⟩)
    · refine g_aload_n hX dX5_isChoice_14 rfl rfl ?_
      refine g_get5I hX 4 dX5_isChoice_15 b_fl_X5_84 hm.k0 (by decide) ?_
      refine g_iload_n hX dX5_isChoice_18 rfl rfl ?_
      rw [ja]
      refine g_callSp _ hX dX5_isChoice_19 k_X5_158 ⟨by decide, by decide⟩ rfl (ok_has _ _) rfl (Nat.le_of_ble_eq_true rfl) ?_
      refine g_if_ne (tgt := 29) hX dX5_isChoice_22 (by decide) (fun c_22 => ?_) (fun c_22 => ?_)
      · refine g_iconst (v := 0) hX dX5_isChoice_29 (by decide) ?_
        exact g_zret hX dX5_isChoice_30 rfl rfl (⟨_, rfl, rfl, rfl, Or.inr ⟨rfl, fun z => z.elim (fun e => c_3 (by rw [e])) (fun y => c_22 y.2)⟩⟩)
      · refine g_iconst (v := 1) hX dX5_isChoice_25 (by decide) ?_
        refine g_goto (tgt := 30) hX dX5_isChoice_26 (by decide) ?_
        exact g_zret hX dX5_isChoice_30 rfl rfl (⟨_, rfl, rfl, rfl, Or.inl ⟨rfl, Or.inr ⟨nnle c_11 (by omega) (by omega), c_22⟩⟩⟩)
set_option maxHeartbeats 4000000 in
set_option maxRecDepth 100000 in
theorem m_gets {w : WG} {I : SI} {L : SL} (hm : ML w) {V : VS} {n d r c i j : Nat} (hV : RV V I n d) (jr : I 0 3 = nI r) (hr9 : r ≤ 999) (ja : I 0 4 = V 0 2) (hc : c < n) (hi : i < 8) (hj : j < 8) : Ok w mX5_gets [.ref (gA w 0), .int (nI c), .int (nI i), .int (nI j)] I L (Pr (.int (gtF V n d (stF n r) (nI c) i j)) I L) := by
  have hst : stF n r < 2000 := by unfold stF; split; omega; exact Nat.lt_of_le_of_lt (Nat.mod_le _ _) (by omega)
  refine Ok.of (by decide) (Nat.le_of_ble_eq_true rfl) (fun X hX => ?_)
  have J31 : ∀ x : Int32, x = drF (nI j) → G X w mX5_gets I L 31 (lvO [(0, .ref (gA w 0)), (1, .int (nI c)), (2, .int (nI i)), (3, .int (nI j))]) [.int x, .int (V 0 2 ||| drF (nI i))] := by
    intro x hx
    subst hx
    refine g_ior hX dX5_gets_31 ?_
    refine g_istore hX dX5_gets_32 (by decide) ?_
    refine g_aload_n hX dX5_gets_34 rfl rfl ?_
    refine g_iload_n hX dX5_gets_35 rfl rfl ?_
    refine g_aload_n hX dX5_gets_36 rfl rfl ?_
    refine g_aload_n hX dX5_gets_37 rfl rfl ?_
    refine g_get5I hX 3 dX5_gets_38 b_fl_X5_81 hm.k0 (by decide) ?_
    rw [jr]
    refine g_callVp _ hX dX5_gets_41 k_X5_192 ⟨by decide, by decide⟩ (by decide) hm.k0 rfl rfl (m_firstOf hm hV.1 hV.2.1 (by omega)) rfl (Nat.le_of_ble_eq_true rfl) ?_
    refine g_iload hX dX5_gets_44 rfl ?_
    refine g_callVp _ hX dX5_gets_46 k_X5_195 ⟨by decide, by decide⟩ (by decide) hm.k0 rfl rfl (m_comesTo hm hV hc hst _) rfl (Nat.le_of_ble_eq_true rfl) ?_
    refine g_ineg hX dX5_gets_49 ?_
    refine g_iload_n hX dX5_gets_50 rfl rfl ?_
    refine g_bipush (v := 7) hX dX5_gets_51 (by decide) ?_
    rw [show (7 : Int32) = nI 7 from rfl]
    refine g_icmp_ge (tgt := 60) hX dX5_gets_53 (by decide) (fun c_53 => ?_) (fun c_53 => ?_)
    · refine g_iconst (v := 0) hX dX5_gets_60 (by decide) ?_
      refine g_isub hX dX5_gets_61 ?_
      exact g_iret hX dX5_gets_62 rfl (⟨vI (by rw [gtF, prF, if_pos (by have := nle c_53 (by decide) (by omega); rw [show i = 7 by omega]; rfl)]; rfl), rfl, rfl⟩)
    · refine g_iconst (v := 1) hX dX5_gets_56 (by decide) ?_
      refine g_goto (tgt := 61) hX dX5_gets_57 (by decide) ?_
      refine g_isub hX dX5_gets_61 ?_
      exact g_iret hX dX5_gets_62 rfl (⟨vI (by rw [gtF, prF, if_neg (fun e => by have := (nI_eq (b := 7) (by omega) (by decide)).mp e; have := nnle c_53 (by decide) (by omega); omega)]; rfl), rfl, rfl⟩)
  have J17 : ∀ x : Int32, x = drF (nI i) → G X w mX5_gets I L 17 (lvO [(0, .ref (gA w 0)), (1, .int (nI c)), (2, .int (nI i)), (3, .int (nI j))]) [.int x, .int (V 0 2)] := by
    intro x hx
    subst hx
    refine g_ior hX dX5_gets_17 ?_
    refine g_iload_n hX dX5_gets_18 rfl rfl ?_
    refine g_bipush (v := 7) hX dX5_gets_19 (by decide) ?_
    rw [show (7 : Int32) = nI 7 from rfl]
    refine g_icmp_ge (tgt := 30) hX dX5_gets_21 (by decide) (fun c_21 => ?_) (fun c_21 => ?_)
    · refine g_iconst (v := 0) hX dX5_gets_30 (by decide) ?_
      exact G.at (J31 _ (by rw [drF, if_pos (by have := nle c_21 (by decide) (by omega); rw [show j = 7 by omega]; rfl)])) ⟨rfl, rfl, rfl, rfl, trivial⟩
    · refine g_iconst (v := 1) hX dX5_gets_24 (by decide) ?_
      refine g_iload_n hX dX5_gets_25 rfl rfl ?_
      refine g_ishl hX dX5_gets_26 ?_
      refine g_goto (tgt := 31) hX dX5_gets_27 (by decide) ?_
      exact G.at (J31 _ (by rw [drF, if_neg (fun e => by have := (nI_eq (b := 7) (by omega) (by decide)).mp e; have := nnle c_21 (by decide) (by omega); omega)])) ⟨rfl, rfl, rfl, rfl, trivial⟩
  refine g_aload_n hX dX5_gets_0 rfl rfl ?_
  refine g_get5I hX 4 dX5_gets_1 b_fl_X5_84 hm.k0 (by decide) ?_
  rw [ja]
  refine g_iload_n hX dX5_gets_4 rfl rfl ?_
  refine g_bipush (v := 7) hX dX5_gets_5 (by decide) ?_
  rw [show (7 : Int32) = nI 7 from rfl]
  refine g_icmp_ge (tgt := 16) hX dX5_gets_7 (by decide) (fun c_7 => ?_) (fun c_7 => ?_)
  · refine g_iconst (v := 0) hX dX5_gets_16 (by decide) ?_
    exact G.at (J17 _ (by rw [drF, if_pos (by have := nle c_7 (by decide) (by omega); rw [show i = 7 by omega]; rfl)])) ⟨rfl, rfl, rfl, rfl, trivial⟩
  · refine g_iconst (v := 1) hX dX5_gets_10 (by decide) ?_
    refine g_iload_n hX dX5_gets_11 rfl rfl ?_
    refine g_ishl hX dX5_gets_12 ?_
    refine g_goto (tgt := 17) hX dX5_gets_13 (by decide) ?_
    exact G.at (J17 _ (by rw [drF, if_neg (fun e => by have := (nI_eq (b := 7) (by omega) (by decide)).mp e; have := nnle c_7 (by decide) (by omega); omega)])) ⟨rfl, rfl, rfl, rfl, trivial⟩
set_option maxHeartbeats 4000000 in
set_option maxRecDepth 100000 in
theorem m_rests {w : WG} {I : SI} {L : SL} (hm : ML w) {V : VS} {n d r a b i j : Nat} (hV : RV V I n d) (jr : I 0 3 = nI r) (hr9 : r ≤ 999) (ja : I 0 4 = V 0 2) (ha : a < n) (hb : b < n) (hi : i < 8) (hj : j < 8) : Ok w mX5_rests [.ref (gA w 0), .int (nI a), .int (nI i), .int (nI b), .int (nI j)] I L (fun r1 I1 L1 => ∃ x, r1 = some (.int x) ∧ I1 = I ∧ L1 = L ∧ ((x = 1 ∧ (∀ x, x < 8 → chF V d x → gtF V n d (stF n r) (nI a) x j ≤ gtF V n d (stF n r) (nI a) i j ∧ gtF V n d (stF n r) (nI b) x i ≤ gtF V n d (stF n r) (nI b) j i)) ∨ (x = 0 ∧ ¬ (∀ x, x < 8 → chF V d x → gtF V n d (stF n r) (nI a) x j ≤ gtF V n d (stF n r) (nI a) i j ∧ gtF V n d (stF n r) (nI b) x i ≤ gtF V n d (stF n r) (nI b) j i)))) := by
  refine Ok.of (by decide) (Nat.le_of_ble_eq_true rfl) (fun X hX => ?_)
  have loop := loop_up (n := 8) (P := fun o => ∀ e : Int32, ((e = 1 ∧ (∀ x, x < o → chF V d x → gtF V n d (stF n r) (nI a) x j ≤ gtF V n d (stF n r) (nI a) i j ∧ gtF V n d (stF n r) (nI b) x i ≤ gtF V n d (stF n r) (nI b) j i)) ∨ (e = 0 ∧ ¬ (∀ x, x < o → chF V d x → gtF V n d (stF n r) (nI a) x j ≤ gtF V n d (stF n r) (nI a) i j ∧ gtF V n d (stF n r) (nI b) x i ≤ gtF V n d (stF n r) (nI b) j i))) → G X w mX5_rests I L 6 (lvO [(0, .ref (gA w 0)), (1, .int (nI a)), (2, .int (nI i)), (3, .int (nI b)), (4, .int (nI j)), (5, .int e), (6, .int (nI o))]) []) (fun o ho ih e he => by
    refine g_iload hX dX5_rests_6 rfl ?_
    refine g_bipush (v := 7) hX dX5_rests_8 (by decide) ?_
    rw [show (7 : Int32) = nI 7 from rfl]
    refine g_icmp_gt (tgt := 79) hX dX5_rests_10 (by decide) (fun c_10 => ?_) (fun c_10 => ?_)
    · have eo : o = 8 := (by have := nlt c_10 (by decide) (by omega); omega)
      subst eo
      rcases he with ⟨rfl, hR⟩ | ⟨rfl, hR⟩
      · refine g_iload hX dX5_rests_79 rfl ?_
        exact g_zret hX dX5_rests_81 rfl rfl (⟨_, rfl, rfl, rfl, Or.inl ⟨rfl, hR⟩⟩)
      · refine g_iload hX dX5_rests_79 rfl ?_
        exact g_zret hX dX5_rests_81 rfl rfl (⟨_, rfl, rfl, rfl, Or.inr ⟨rfl, hR⟩⟩)
    · have hlt : o < 8 := by have := Int32.not_lt.mp c_10; have := nle this (by omega) (by decide); omega
      have J71 : ∀ e' : Int32, ((e' = 1 ∧ (∀ x, x < o + 1 → chF V d x → gtF V n d (stF n r) (nI a) x j ≤ gtF V n d (stF n r) (nI a) i j ∧ gtF V n d (stF n r) (nI b) x i ≤ gtF V n d (stF n r) (nI b) j i)) ∨ (e' = 0 ∧ ¬ (∀ x, x < o + 1 → chF V d x → gtF V n d (stF n r) (nI a) x j ≤ gtF V n d (stF n r) (nI a) i j ∧ gtF V n d (stF n r) (nI b) x i ≤ gtF V n d (stF n r) (nI b) j i))) → G X w mX5_rests I L 71 (lvO [(0, .ref (gA w 0)), (1, .int (nI a)), (2, .int (nI i)), (3, .int (nI b)), (4, .int (nI j)), (5, .int e), (6, .int (nI o))]) [.int e'] := by
        intro e' he'
        refine g_istore hX dX5_rests_71 (by decide) ?_
        refine g_iinc hX dX5_rests_73 rfl (d := 1) (by decide) ?_
        refine g_goto (tgt := 6) hX dX5_rests_76 (by decide) ?_
        exact G.at (ih hlt e' he') ⟨rfl, rfl, rfl, rfl, rfl, rfl, vI (nI_1 o), trivial⟩
      refine g_iload hX dX5_rests_13 rfl ?_
      refine g_if_eq (tgt := 70) hX dX5_rests_15 (by decide) (fun c_15 => ?_) (fun c_15 => ?_)
      · refine g_iconst (v := 0) hX dX5_rests_70 (by decide) ?_
        exact G.at (J71 0 (Or.inr ⟨rfl, fun z => (he.elim (fun y => absurd (y.1.symm.trans c_15) (by decide)) (fun y => y.2)) (fun x hx => z x (by omega))⟩)) ⟨rfl, rfl, rfl, rfl, rfl, rfl, rfl, trivial⟩
      · refine g_aload_n hX dX5_rests_18 rfl rfl ?_
        refine g_iload hX dX5_rests_19 rfl ?_
        refine g_callV _ hX dX5_rests_21 k_X5_243 ⟨by decide, by decide⟩ (by decide) hm.k0 rfl rfl (m_isChoice hm hV.2.2.1 ja hV.2.2.2.1 (by omega)) rfl (Nat.le_of_ble_eq_true rfl) (fun r1 I1 L1 hq => ?_)
        obtain ⟨x, rfl, rfl, rfl, hx⟩ := hq
        refine g_if_eq (tgt := 66) hX dX5_rests_24 (by decide) (fun c_24 => ?_) (fun c_24 => ?_)
        · refine g_iconst (v := 1) hX dX5_rests_66 (by decide) ?_
          refine g_goto (tgt := 71) hX dX5_rests_67 (by decide) ?_
          exact G.at (J71 1 (Or.inl ⟨rfl, fun y hy cy => (show y < o ∨ y = o by omega).elim (fun g => (he.elim (fun y => y.2) (fun y => absurd y.1 c_15)) y g cy) (fun g => absurd (g ▸ cy) (hx.elim (fun y => absurd (y.1.symm.trans c_24) (by decide)) (fun y => y.2)))⟩)) ⟨rfl, rfl, rfl, rfl, rfl, rfl, rfl, trivial⟩
        · refine g_aload_n hX dX5_rests_27 rfl rfl ?_
          refine g_iload_n hX dX5_rests_28 rfl rfl ?_
          refine g_iload_n hX dX5_rests_29 rfl rfl ?_
          refine g_iload hX dX5_rests_30 rfl ?_
          refine g_callVp _ hX dX5_rests_32 k_X5_246 ⟨by decide, by decide⟩ (by decide) hm.k0 rfl rfl (m_gets hm hV jr hr9 ja (by omega) (by omega) (by omega)) rfl (Nat.le_of_ble_eq_true rfl) ?_
          refine g_aload_n hX dX5_rests_35 rfl rfl ?_
          refine g_iload_n hX dX5_rests_36 rfl rfl ?_
          refine g_iload hX dX5_rests_37 rfl ?_
          refine g_iload hX dX5_rests_39 rfl ?_
          refine g_callVp _ hX dX5_rests_41 k_X5_246 ⟨by decide, by decide⟩ (by decide) hm.k0 rfl rfl (m_gets hm hV jr hr9 ja (by omega) (by omega) (by omega)) rfl (Nat.le_of_ble_eq_true rfl) ?_
          refine g_icmp_lt (tgt := 70) hX dX5_rests_44 (by decide) (fun c_44 => ?_) (fun c_44 => ?_)
          · refine g_iconst (v := 0) hX dX5_rests_70 (by decide) ?_
            exact G.at (J71 0 (Or.inr ⟨rfl, fun z => Int32.not_lt.mpr (z o (by omega) (hx.elim (fun y => y.2) (fun y => absurd y.1 c_24))).1 c_44⟩)) ⟨rfl, rfl, rfl, rfl, rfl, rfl, rfl, trivial⟩
          · refine g_aload_n hX dX5_rests_47 rfl rfl ?_
            refine g_iload_n hX dX5_rests_48 rfl rfl ?_
            refine g_iload hX dX5_rests_49 rfl ?_
            refine g_iload_n hX dX5_rests_51 rfl rfl ?_
            refine g_callVp _ hX dX5_rests_52 k_X5_246 ⟨by decide, by decide⟩ (by decide) hm.k0 rfl rfl (m_gets hm hV jr hr9 ja (by omega) (by omega) (by omega)) rfl (Nat.le_of_ble_eq_true rfl) ?_
            refine g_aload_n hX dX5_rests_55 rfl rfl ?_
            refine g_iload_n hX dX5_rests_56 rfl rfl ?_
            refine g_iload hX dX5_rests_57 rfl ?_
            refine g_iload_n hX dX5_rests_59 rfl rfl ?_
            refine g_callVp _ hX dX5_rests_60 k_X5_246 ⟨by decide, by decide⟩ (by decide) hm.k0 rfl rfl (m_gets hm hV jr hr9 ja (by omega) (by omega) (by omega)) rfl (Nat.le_of_ble_eq_true rfl) ?_
            refine g_icmp_lt (tgt := 70) hX dX5_rests_63 (by decide) (fun c_63 => ?_) (fun c_63 => ?_)
            · refine g_iconst (v := 0) hX dX5_rests_70 (by decide) ?_
              exact G.at (J71 0 (Or.inr ⟨rfl, fun z => Int32.not_lt.mpr (z o (by omega) (hx.elim (fun y => y.2) (fun y => absurd y.1 c_24))).2 c_63⟩)) ⟨rfl, rfl, rfl, rfl, rfl, rfl, rfl, trivial⟩
            · refine g_iconst (v := 1) hX dX5_rests_66 (by decide) ?_
              refine g_goto (tgt := 71) hX dX5_rests_67 (by decide) ?_
              exact G.at (J71 1 (Or.inl ⟨rfl, fun y hy cy => (show y < o ∨ y = o by omega).elim (fun g => (he.elim (fun y => y.2) (fun y => absurd y.1 c_15)) y g cy) (fun g => g ▸ ⟨Int32.not_lt.mp c_44, Int32.not_lt.mp c_63⟩)⟩)) ⟨rfl, rfl, rfl, rfl, rfl, rfl, rfl, trivial⟩
    )
  refine g_iconst (v := 1) hX dX5_rests_0 (by decide) ?_
  refine g_istore hX dX5_rests_1 (by decide) ?_
  refine g_iconst (v := 0) hX dX5_rests_3 (by decide) ?_
  refine g_istore hX dX5_rests_4 (by decide) ?_
  exact G.at (loop 0 (Nat.zero_le _) 1 (Or.inl ⟨rfl, fun x h => absurd h (Nat.not_lt_zero x)⟩)) ⟨rfl, rfl, rfl, rfl, rfl, rfl, rfl, trivial⟩
set_option maxHeartbeats 4000000 in
set_option maxRecDepth 100000 in
theorem n_two {w : WG} {I : SI} {L : SL} {XI : SI} {n d r q p m : Nat} (hm : ML w) (h : RR XI I L n d r q p m) (a b k : Int32) : Ok w mX5_two [.ref (gA w 0), .int a, .int b, .int k] I L (QM (spTwo XI n d r a b k)) := by
  obtain ⟨hRX, hRJ, hRF⟩ := id h
  obtain ⟨⟨xn, xn4, xd, xd7, xr, xr9⟩, ⟨xq, xq6⟩, ⟨xp, xp8⟩, ⟨xm, xm150⟩, xA, xH, xD, xP, xT⟩ := id hRX
  obtain ⟨⟨jn, -, jd, -, jB, jK⟩, jr, ja, jq, jp, jm, jH, jN, jP, jT⟩ := RJ_v hRJ
  have hRV : RV (vx XI 1) I n d := hRJ.1
  have hMS := h.ms
  refine Ok.of (by decide) (Nat.le_of_ble_eq_true rfl) (fun X hX => ?_)
  refine g_aload_n hX dX5_two_0 rfl rfl ?_
  refine g_iload_n hX dX5_two_1 rfl rfl ?_
  refine g_callVp _ hX dX5_two_2 k_X5_206 ⟨by decide, by decide⟩ (by decide) hm.k0 rfl rfl (m_isMan hm jn (by omega) _) rfl (Nat.le_of_ble_eq_true rfl) ?_
  refine g_if_eq (tgt := 26) hX dX5_two_5 (by decide) (fun c_5 => ?_) (fun c_5 => ?_)
  · refine g_aload_n hX dX5_two_26 rfl rfl ?_
    refine g_callV _ hX dX5_two_27 k_X5_249 ⟨by decide, by decide⟩ (by decide) hm.k0 rfl rfl (m_ten hm) rfl (Nat.le_of_ble_eq_true rfl) (fun r1 I1 L1 hq => ?_)
    obtain ⟨rfl, rfl, rfl⟩ := hq
    exact g_iret hX dX5_two_30 rfl (by rw [spTwo, if_pos (fun z => b01_0 c_5 (xn ▸ z.1))]; exact ⟨rfl, n, d, r, q, p, m, h.bad⟩)
  · refine g_aload_n hX dX5_two_8 rfl rfl ?_
    refine g_iload_n hX dX5_two_9 rfl rfl ?_
    refine g_callVp _ hX dX5_two_10 k_X5_206 ⟨by decide, by decide⟩ (by decide) hm.k0 rfl rfl (m_isMan hm jn (by omega) _) rfl (Nat.le_of_ble_eq_true rfl) ?_
    refine g_if_eq (tgt := 26) hX dX5_two_13 (by decide) (fun c_13 => ?_) (fun c_13 => ?_)
    · refine g_aload_n hX dX5_two_26 rfl rfl ?_
      refine g_callV _ hX dX5_two_27 k_X5_249 ⟨by decide, by decide⟩ (by decide) hm.k0 rfl rfl (m_ten hm) rfl (Nat.le_of_ble_eq_true rfl) (fun r1 I1 L1 hq => ?_)
      obtain ⟨rfl, rfl, rfl⟩ := hq
      exact g_iret hX dX5_two_30 rfl (by rw [spTwo, if_pos (fun z => b01_0 c_13 (xn ▸ z.2.1))]; exact ⟨rfl, n, d, r, q, p, m, h.bad⟩)
    · refine g_iload_n hX dX5_two_16 rfl rfl ?_
      refine g_iload_n hX dX5_two_17 rfl rfl ?_
      refine g_icmp_eq (tgt := 26) hX dX5_two_18 (by decide) (fun c_18 => ?_) (fun c_18 => ?_)
      · refine g_aload_n hX dX5_two_26 rfl rfl ?_
        refine g_callV _ hX dX5_two_27 k_X5_249 ⟨by decide, by decide⟩ (by decide) hm.k0 rfl rfl (m_ten hm) rfl (Nat.le_of_ble_eq_true rfl) (fun r1 I1 L1 hq => ?_)
        obtain ⟨rfl, rfl, rfl⟩ := hq
        exact g_iret hX dX5_two_30 rfl (by rw [spTwo, if_pos (fun z => z.2.2.1 c_18)]; exact ⟨rfl, n, d, r, q, p, m, h.bad⟩)
      · refine g_iload_n hX dX5_two_21 rfl rfl ?_
        refine g_iconst (v := -1) hX dX5_two_22 (by decide) ?_
        refine g_icmp_ge (tgt := 31) hX dX5_two_23 (by decide) (fun c_23 => ?_) (fun c_23 => ?_)
        · obtain ⟨a, ha, rfl⟩ := ix (b01_n c_5) (by omega)
          obtain ⟨b, hb, rfl⟩ := ix (b01_n c_13) (by omega)
          have loop := loop_up (n := 8) (P := fun i => G X w mX5_two I L 41 (lvO [(0, .ref (gA w 0)), (1, .int (nI a)), (2, .int (nI b)), (3, .int k), (4, .int (nI (twF (rsB (vx XI 1) n d (stF n r) (nI a) (nI b)) k (8 * i)).1)), (5, .int (twF (rsB (vx XI 1) n d (stF n r) (nI a) (nI b)) k (8 * i)).2), (6, .int (nI i))]) []) (fun i hi ih => by
            refine g_iload hX dX5_two_41 rfl ?_
            refine g_bipush (v := 7) hX dX5_two_43 (by decide) ?_
            rw [show (7 : Int32) = nI 7 from rfl]
            refine g_icmp_gt (tgt := 125) hX dX5_two_45 (by decide) (fun c_45 => ?_) (fun c_45 => ?_)
            · refine g_iload_n hX dX5_two_125 rfl rfl ?_
              refine g_iconst (v := -1) hX dX5_two_126 (by decide) ?_
              refine g_icmp_ne (tgt := 135) hX dX5_two_127 (by decide) (fun c_127 => ?_) (fun c_127 => ?_)
              · refine g_iload hX dX5_two_135 rfl ?_
                exact g_iret hX dX5_two_137 rfl (by have ei : i = 8 := (by have := nlt c_45 (by decide) (by omega); omega); subst ei; rw [spTwo, if_neg (fun z => z ⟨by rw [xn]; exact b01_n c_5, by rw [xn]; exact b01_n c_13, c_18, c_23⟩), if_neg c_127]; exact ⟨rfl, n, d, r, q, p, m, h⟩)
              · refine g_iload hX dX5_two_130 rfl ?_
                refine g_goto (tgt := 137) hX dX5_two_132 (by decide) ?_
                exact g_iret hX dX5_two_137 rfl (by have ei : i = 8 := (by have := nlt c_45 (by decide) (by omega); omega); subst ei; rw [spTwo, if_neg (fun z => z ⟨by rw [xn]; exact b01_n c_5, by rw [xn]; exact b01_n c_13, c_18, c_23⟩), if_pos c_127]; exact ⟨rfl, n, d, r, q, p, m, h⟩)
            · have hlt : i < 8 := by have := Int32.not_lt.mp c_45; have := nle this (by omega) (by decide); omega
              have loopj := loop_up (n := 8) (P := fun j => G X w mX5_two I L 51 (lvO [(0, .ref (gA w 0)), (1, .int (nI a)), (2, .int (nI b)), (3, .int k), (4, .int (nI (twF (rsB (vx XI 1) n d (stF n r) (nI a) (nI b)) k (8 * i + j)).1)), (5, .int (twF (rsB (vx XI 1) n d (stF n r) (nI a) (nI b)) k (8 * i + j)).2), (6, .int (nI i)), (7, .int (nI j))]) []) (fun j hj ihj => by
                refine g_iload hX dX5_two_51 rfl ?_
                refine g_bipush (v := 7) hX dX5_two_53 (by decide) ?_
                rw [show (7 : Int32) = nI 7 from rfl]
                refine g_icmp_gt (tgt := 119) hX dX5_two_55 (by decide) (fun c_55 => ?_) (fun c_55 => ?_)
                · refine g_iinc hX dX5_two_119 rfl (d := 1) (by decide) ?_
                  refine g_goto (tgt := 41) hX dX5_two_122 (by decide) ?_
                  have ej : j = 8 := (by have := nlt c_55 (by decide) (by omega); omega)
                  subst ej
                  exact G.at (ih hlt) ⟨rfl, rfl, rfl, rfl, rfl, rfl, vI (nI_1 i), trivial⟩
                · have hltj : j < 8 := by have := Int32.not_lt.mp c_55; have := nle this (by omega) (by decide); omega
                  refine g_aload_n hX dX5_two_58 rfl rfl ?_
                  refine g_iload hX dX5_two_59 rfl ?_
                  refine g_callV _ hX dX5_two_61 k_X5_243 ⟨by decide, by decide⟩ (by decide) hm.k0 rfl rfl (m_isChoice (V := (vx XI 1)) hm jd ja xd7 (by omega)) rfl (Nat.le_of_ble_eq_true rfl) (fun r1 I1 L1 hq => ?_)
                  obtain ⟨x1, rfl, rfl, rfl, hx1⟩ := hq
                  refine g_if_eq (tgt := 113) hX dX5_two_64 (by decide) (fun c_64 => ?_) (fun c_64 => ?_)
                  · refine g_iinc hX dX5_two_113 rfl (d := 1) (by decide) ?_
                    refine g_goto (tgt := 51) hX dX5_two_116 (by decide) ?_
                    have hB := (rsB_f (V := (vx XI 1)) (n := n) (d := d) (st := stF n r) (a := nI a) (b := nI b) (t := 8 * i + j) (by rw [show (8 * i + j) / 8 = i by omega, show (8 * i + j) % 8 = j by omega]; exact (fun z => (hx1.elim (fun y => absurd (y.1.symm.trans c_64) (by decide)) (fun y => y.2)) z.1)))
                    exact G.at (ihj hltj) ⟨rfl, rfl, rfl, rfl, vI (by rw [show 8 * i + (j + 1) = (8 * i + j) + 1 from rfl, twF, if_neg (by rw [hB]; decide)]), vI (by rw [show 8 * i + (j + 1) = (8 * i + j) + 1 from rfl, twF, if_neg (by rw [hB]; decide)]), rfl, vI (nI_1 j), trivial⟩
                  · refine g_aload_n hX dX5_two_67 rfl rfl ?_
                    refine g_iload hX dX5_two_68 rfl ?_
                    refine g_callV _ hX dX5_two_70 k_X5_243 ⟨by decide, by decide⟩ (by decide) hm.k0 rfl rfl (m_isChoice (V := (vx XI 1)) hm jd ja xd7 (by omega)) rfl (Nat.le_of_ble_eq_true rfl) (fun r1 I1 L1 hq => ?_)
                    obtain ⟨x2, rfl, rfl, rfl, hx2⟩ := hq
                    refine g_if_eq (tgt := 113) hX dX5_two_73 (by decide) (fun c_73 => ?_) (fun c_73 => ?_)
                    · refine g_iinc hX dX5_two_113 rfl (d := 1) (by decide) ?_
                      refine g_goto (tgt := 51) hX dX5_two_116 (by decide) ?_
                      have hB := (rsB_f (V := (vx XI 1)) (n := n) (d := d) (st := stF n r) (a := nI a) (b := nI b) (t := 8 * i + j) (by rw [show (8 * i + j) / 8 = i by omega, show (8 * i + j) % 8 = j by omega]; exact (fun z => (hx2.elim (fun y => absurd (y.1.symm.trans c_73) (by decide)) (fun y => y.2)) z.2.1)))
                      exact G.at (ihj hltj) ⟨rfl, rfl, rfl, rfl, vI (by rw [show 8 * i + (j + 1) = (8 * i + j) + 1 from rfl, twF, if_neg (by rw [hB]; decide)]), vI (by rw [show 8 * i + (j + 1) = (8 * i + j) + 1 from rfl, twF, if_neg (by rw [hB]; decide)]), rfl, vI (nI_1 j), trivial⟩
                    · refine g_aload_n hX dX5_two_76 rfl rfl ?_
                      refine g_iload_n hX dX5_two_77 rfl rfl ?_
                      refine g_iload hX dX5_two_78 rfl ?_
                      refine g_iload_n hX dX5_two_80 rfl rfl ?_
                      refine g_iload hX dX5_two_81 rfl ?_
                      refine g_callV _ hX dX5_two_83 k_X5_252 ⟨by decide, by decide⟩ (by decide) hm.k0 rfl rfl (m_rests (V := (vx XI 1)) hm hRV jr xr9 ja ha hb (by omega) (by omega)) rfl (Nat.le_of_ble_eq_true rfl) (fun r1 I1 L1 hq => ?_)
                      obtain ⟨x3, rfl, rfl, rfl, hx3⟩ := hq
                      refine g_if_eq (tgt := 113) hX dX5_two_86 (by decide) (fun c_86 => ?_) (fun c_86 => ?_)
                      · refine g_iinc hX dX5_two_113 rfl (d := 1) (by decide) ?_
                        refine g_goto (tgt := 51) hX dX5_two_116 (by decide) ?_
                        have hB := (rsB_f (V := (vx XI 1)) (n := n) (d := d) (st := stF n r) (a := nI a) (b := nI b) (t := 8 * i + j) (by rw [show (8 * i + j) / 8 = i by omega, show (8 * i + j) % 8 = j by omega]; exact (fun z => (hx3.elim (fun y => absurd (y.1.symm.trans c_86) (by decide)) (fun y => y.2)) z.2.2)))
                        exact G.at (ihj hltj) ⟨rfl, rfl, rfl, rfl, vI (by rw [show 8 * i + (j + 1) = (8 * i + j) + 1 from rfl, twF, if_neg (by rw [hB]; decide)]), vI (by rw [show 8 * i + (j + 1) = (8 * i + j) + 1 from rfl, twF, if_neg (by rw [hB]; decide)]), rfl, vI (nI_1 j), trivial⟩
                      · refine g_iload hX dX5_two_89 rfl ?_
                        refine g_iload_n hX dX5_two_91 rfl rfl ?_
                        refine g_icmp_ne (tgt := 106) hX dX5_two_92 (by decide) (fun c_92 => ?_) (fun c_92 => ?_)
                        · refine g_iload hX dX5_two_106 rfl ?_
                          refine g_istore hX dX5_two_108 (by decide) ?_
                          refine g_iinc hX dX5_two_110 rfl (d := 1) (by decide) ?_
                          refine g_iinc hX dX5_two_113 rfl (d := 1) (by decide) ?_
                          refine g_goto (tgt := 51) hX dX5_two_116 (by decide) ?_
                          have hB := (rsB_t (V := (vx XI 1)) (n := n) (d := d) (st := stF n r) (a := nI a) (b := nI b) (t := 8 * i + j) (by rw [show (8 * i + j) / 8 = i by omega, show (8 * i + j) % 8 = j by omega]; exact ⟨(hx1.elim (fun y => y.2) (fun y => absurd y.1 c_64)), (hx2.elim (fun y => y.2) (fun y => absurd y.1 c_73)), (hx3.elim (fun y => y.2) (fun y => absurd y.1 c_86))⟩))
                          exact G.at (ihj hltj) ⟨rfl, rfl, rfl, rfl, vI (by rw [show 8 * i + (j + 1) = (8 * i + j) + 1 from rfl, twF, if_pos hB]; exact nI_1 _), vI (by rw [show 8 * i + (j + 1) = (8 * i + j) + 1 from rfl, twF, if_pos hB]; exact (if_neg c_92).symm), rfl, vI (nI_1 j), trivial⟩
                        · refine g_bipush (v := 8) hX dX5_two_95 (by decide) ?_
                          refine g_iload hX dX5_two_97 rfl ?_
                          refine g_imul hX dX5_two_99 ?_
                          refine g_iload hX dX5_two_100 rfl ?_
                          refine g_iadd hX dX5_two_102 ?_
                          rw [show (8 : Int32) = nI 8 from rfl, pk_mul, nI_add]
                          refine g_goto (tgt := 108) hX dX5_two_103 (by decide) ?_
                          refine g_istore hX dX5_two_108 (by decide) ?_
                          refine g_iinc hX dX5_two_110 rfl (d := 1) (by decide) ?_
                          refine g_iinc hX dX5_two_113 rfl (d := 1) (by decide) ?_
                          refine g_goto (tgt := 51) hX dX5_two_116 (by decide) ?_
                          have hB := (rsB_t (V := (vx XI 1)) (n := n) (d := d) (st := stF n r) (a := nI a) (b := nI b) (t := 8 * i + j) (by rw [show (8 * i + j) / 8 = i by omega, show (8 * i + j) % 8 = j by omega]; exact ⟨(hx1.elim (fun y => y.2) (fun y => absurd y.1 c_64)), (hx2.elim (fun y => y.2) (fun y => absurd y.1 c_73)), (hx3.elim (fun y => y.2) (fun y => absurd y.1 c_86))⟩))
                          exact G.at (ihj hltj) ⟨rfl, rfl, rfl, rfl, vI (by rw [show 8 * i + (j + 1) = (8 * i + j) + 1 from rfl, twF, if_pos hB]; exact nI_1 _), vI (by rw [show 8 * i + (j + 1) = (8 * i + j) + 1 from rfl, twF, if_pos hB]; exact (if_pos c_92).symm), rfl, vI (nI_1 j), trivial⟩
                )
              refine g_iconst (v := 0) hX dX5_two_48 (by decide) ?_
              refine g_istore hX dX5_two_49 (by decide) ?_
              exact G.at (loopj 0 (Nat.zero_le _)) ⟨rfl, rfl, rfl, rfl, rfl, rfl, rfl, rfl, trivial⟩
            )
          refine g_iconst (v := 0) hX dX5_two_31 (by decide) ?_
          refine g_istore hX dX5_two_32 (by decide) ?_
          refine g_bipush (v := -5) hX dX5_two_34 (by decide) ?_
          refine g_istore hX dX5_two_36 (by decide) ?_
          refine g_iconst (v := 0) hX dX5_two_38 (by decide) ?_
          refine g_istore hX dX5_two_39 (by decide) ?_
          exact G.at (loop 0 (Nat.zero_le _)) ⟨rfl, rfl, rfl, rfl, rfl, rfl, rfl, trivial⟩
        · refine g_aload_n hX dX5_two_26 rfl rfl ?_
          refine g_callV _ hX dX5_two_27 k_X5_249 ⟨by decide, by decide⟩ (by decide) hm.k0 rfl rfl (m_ten hm) rfl (Nat.le_of_ble_eq_true rfl) (fun r1 I1 L1 hq => ?_)
          obtain ⟨rfl, rfl, rfl⟩ := hq
          exact g_iret hX dX5_two_30 rfl (by rw [spTwo, if_pos (fun z => c_23 z.2.2.2)]; exact ⟨rfl, n, d, r, q, p, m, h.bad⟩)
