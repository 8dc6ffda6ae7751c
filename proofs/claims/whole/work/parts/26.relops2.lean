theorem vx_full {I : SI} {K : VS} (h : ∀ j, 10 ≤ j → K j = I (1 + j)) : vx (wV I 1 K) 1 = K := by
  funext j; unfold vx
  by_cases hj : j < 10
  · exact wV_at I 1 K hj
  · rw [wV_out _ _ _ (by omega), h j (by omega)]
theorem vx_keep {I : SI} {p : Nat} : vx (wV I 1 (keepV (vx I 1) p)) 1 = keepV (vx I 1) p := vx_full (fun j hj => by rw [keepV_ne (by omega) (by omega)]; rfl)
theorem or_128 : ∀ s, s < 128 → ∀ k, k < 7 → nI s ||| ((1 : Int32) <<< (nI k &&& 31)) = nI (s ||| 2 ^ k) ∧ s ||| 2 ^ k < 128 := by decide +kernel
def ptJ (J : SI) (c k : Nat) : SI := rS (rS J 0 (upd (J 0) 4 (J 0 4 ||| ((1 : Int32) <<< (nI k &&& 31))))) 3 (upd (J 3) c (J 3 c - J 7 k))
theorem RR.put {I J : SI} {L : SL} {n d r q p m c k : Nat} (h : RR I J L n d r q p m) (hc : c < n) (hk : k < d) (hle : I 7 k ≤ I 3 c) : RR (wV I 1 (putV (vx I 1) c k)) (ptJ J c k) L n d r q p m := by
  obtain ⟨g1, g2, g3⟩ := h
  obtain ⟨⟨xn, xn4, xd, xd7, xr, xr9⟩, hq, hp, hm0, ⟨s, hs, hs1⟩, hH, hD, hP, hT⟩ := g1
  obtain ⟨⟨jn, -, jd, -, jB, jK⟩, jr, ja, jq, jp, jm, jH, jN, jP, jT⟩ := RJ_v g2
  obtain ⟨o1, o2⟩ := or_128 s hs1 k (by omega)
  obtain ⟨a, ea, ha⟩ := hH c hc
  obtain ⟨u, eu, hu⟩ := (hD k hk).2.2.1
  rw [ea, eu] at hle
  have hua := nle hle (by omega) (by omega)
  refine ⟨RX_w.mpr ?_, RJ_w.mpr ?_, RF_w.mpr (by unfold ptJ; exact RJ_f (RJ_f g3 (by decide)) (by decide))⟩
  · unfold putV
    simp (disch := decide) only [rS_eq, rS_ne, pk_us, pk_un]
    refine ⟨⟨xn, xn4, xd, xd7, xr, xr9⟩, hq, hp, hm0, ⟨s ||| 2 ^ k, ?_, o2⟩, fun x hx => ?_, hD, hP, hT⟩
    · show I 1 2 ||| _ = _
      rw [hs, o1]
    · by_cases e : x = c
      · subst e; rw [pk_us]
        refine ⟨a - u, ?_, by omega⟩
        show I 3 x - I 7 k = _
        rw [ea, eu, pk_sub hua]
      · rw [pk_un e]; exact hH x hx
  · unfold putV ptJ
    simp (disch := decide) only [rS_eq, rS_ne, pk_us, pk_un]
    refine ⟨⟨jn, xn4, jd, xd7, jB, jK⟩, jr, ?_, jq, jp, jm, fun x hx => ?_, jN, jP, jT⟩
    · rw [ja]; rfl
    · by_cases e : x = c
      · subst e; rw [pk_us, pk_us]
        refine ⟨?_, (jH x hx).2⟩
        rw [(jH x hx).1, (jK k hk).2.2.1]; rfl
      · rw [pk_un e, pk_un e]; exact jH x hx
theorem RR.rounds {I J J2 : SI} {L : SL} {n d r q p m g : Nat} (h : RR I J L n d r q p m) (hg : r + g ≤ 999) (hs : MS (vx I 1) J2 n d (ahF (vx I 1) n d r g) (if g = 0 then I 1 2 else 0) (r + g)) (hf : Fr J J2) : RR (wV I 1 (rdV (vx I 1) n d r g)) J2 L n d (r + g) q p m := by
  obtain ⟨g1, g2, g3⟩ := h
  obtain ⟨⟨xn, xn4, xd, xd7, xr, xr9⟩, hq, hp, hm0, ⟨s, es, hs1⟩, hH, hD, hP, hT⟩ := g1
  obtain ⟨⟨jn, -, jd, -, jB, jK⟩, jr, ja, jq, jp, jm, jH, jN, jP, jT⟩ := RJ_v g2
  obtain ⟨⟨kn, -, kd, -, kB, kK⟩, kr, ka, kH⟩ := hs
  obtain ⟨f1, f2⟩ := hf
  refine ⟨RX_w.mpr ?_, RJ_w.mpr ?_, RF_w.mpr ?_⟩
  · rw [rdV_3 (show vx I 1 0 3 = nI r from xr), rdV_2]
    simp (disch := decide) only [rdV_k, rdV_ne]
    refine ⟨⟨xn, xn4, xd, xd7, by trivial, hg⟩, hq, hp, hm0, ?_, hH, hD, hP, hT⟩
    by_cases e : g = 0
    · rw [if_pos e]; exact ⟨s, es, hs1⟩
    · rw [if_neg e]; exact ⟨0, rfl, by decide⟩
  · rw [rdV_2, rdV_h]
    simp (disch := decide) only [rdV_ne]
    rw [f1 3 (by decide) (by decide), f1 9 (by decide) (by decide), f1 10 (by decide) (by decide), f1 11 (by decide) (by decide), f1 12 (by decide) (by decide), f1 13 (by decide) (by decide), f1 16 (by decide) (by decide), f2 5 (by decide) (by decide), f2 27 (by decide) (by decide), f2 18 (by decide) (by decide)]
    refine ⟨⟨kn, xn4, kd, xd7, kB, kK⟩, kr, ?_, jq, jp, jm, fun c hc => ⟨(jH c hc).1, kH c hc⟩, jN, jP, jT⟩
    rw [ka]; rfl
  · unfold RF at *; rw [f1 1 (by decide) (by decide), f1 18 (by decide) (by decide), f1 19 (by decide) (by decide)]; exact g3
def udJ (J : SI) (p : Nat) : SI := tkJ (rS J 0 (upd (J 0) 27 (nI p))) (J 16) (p * 10) 4
theorem RR.undo {I J : SI} {L : SL} {n d r q p m : Nat} (h : RR I J L n d r q (p + 1) m) : ∃ r', RR (wV I 1 (backV (vx I 1) p)) (udJ J p) L n d r' q p m := by
  obtain ⟨g1, g2, g3⟩ := h
  obtain ⟨⟨xn, xn4, xd, xd7, xr, xr9⟩, hq, hp, hm0, hA, hH, hD, hP, hT⟩ := g1
  obtain ⟨⟨jn, -, jd, -, jB, jK⟩, jr, ja, jq, jp, jm, jH, jN, jP, jT⟩ := RJ_v g2
  obtain ⟨⟨ro, er, hro⟩, ⟨s, es, hs⟩, ham⟩ := hP p (by omega)
  obtain ⟨t0, t1, t2⟩ := jP p (by omega)
  refine ⟨ro, RX_w.mpr ?_, RJ_w.mpr ?_, RF_w.mpr ?_⟩
  · unfold backV
    simp (disch := decide) only [rS_eq, rS_ne, pk_us, pk_un]
    refine ⟨⟨xn, xn4, xd, xd7, er, hro⟩, hq, ⟨by trivial, by omega⟩, hm0, ⟨s, es, hs⟩, fun c hc => ?_, hD, fun t ht => hP t (by omega), hT⟩
    rw [pk_cpy_in (Nat.zero_le _) (by omega)]; exact ham c hc
  · unfold backV udJ tkJ
    simp (disch := decide) only [rS_eq, rS_ne, pk_us, pk_un]
    refine ⟨⟨jn, xn4, jd, xd7, jB, jK⟩, t0.trans er, t1, jq, by trivial, jm, fun c hc => ?_, jN, fun t ht => jP t (by omega), jT⟩
    unfold tkC
    rw [if_pos (by omega), if_pos (by omega), pk_cpy_in (Nat.zero_le _) (by omega), pk_cpy_in (Nat.zero_le _) (by omega)]
    exact ⟨(t2 c hc).1, (t2 c hc).2⟩
  · unfold RF udJ tkJ at *; simp (disch := decide) only [rS_ne]; exact g3
set_option maxHeartbeats 4000000 in
set_option maxRecDepth 100000 in
theorem m_begin {w : WG} {I : SI} {L : SL} (hm : ML w)  : Ok w mX5_begin [.ref (gA w 0)] I L (fun r1 I1 L1 => r1 = none ∧ I1 = bgJ I ∧ L1 = L) := by
  refine Ok.of (by decide) (Nat.le_of_ble_eq_true rfl) (fun X hX => ?_)
  refine g_aload_n hX dX5_begin_0 rfl rfl ?_
  refine g_iconst (v := 0) hX dX5_begin_1 (by decide) ?_
  refine g_put5I hX 1 dX5_begin_2 b_fl_X5_74 hm.k0 pf5_1 ?_
  try simp (disch := decide) only [rS_eq, rS_ne, rS_rS, pk_un, pk_us]
  refine g_aload_n hX dX5_begin_5 rfl rfl ?_
  refine g_iconst (v := 0) hX dX5_begin_6 (by decide) ?_
  refine g_put5I hX 2 dX5_begin_7 b_fl_X5_78 hm.k0 pf5_2 ?_
  try simp (disch := decide) only [rS_eq, rS_ne, rS_rS, pk_un, pk_us]
  refine g_aload_n hX dX5_begin_10 rfl rfl ?_
  refine g_iconst (v := 0) hX dX5_begin_11 (by decide) ?_
  refine g_put5I hX 3 dX5_begin_12 b_fl_X5_81 hm.k0 pf5_3 ?_
  try simp (disch := decide) only [rS_eq, rS_ne, rS_rS, pk_un, pk_us]
  refine g_aload_n hX dX5_begin_15 rfl rfl ?_
  refine g_iconst (v := 0) hX dX5_begin_16 (by decide) ?_
  refine g_put5I hX 4 dX5_begin_17 b_fl_X5_84 hm.k0 pf5_4 ?_
  try simp (disch := decide) only [rS_eq, rS_ne, rS_rS, pk_un, pk_us]
  refine g_aload_n hX dX5_begin_20 rfl rfl ?_
  refine g_iconst (v := 0) hX dX5_begin_21 (by decide) ?_
  refine g_put5I hX 5 dX5_begin_22 b_fl_X5_87 hm.k0 pf5_5 ?_
  try simp (disch := decide) only [rS_eq, rS_ne, rS_rS, pk_un, pk_us]
  refine g_aload_n hX dX5_begin_25 rfl rfl ?_
  refine g_iconst (v := 0) hX dX5_begin_26 (by decide) ?_
  refine g_put5I hX 27 dX5_begin_27 b_fl_X5_90 hm.k0 pf5_27 ?_
  try simp (disch := decide) only [rS_eq, rS_ne, rS_rS, pk_un, pk_us]
  exact g_vret hX dX5_begin_30 rfl (⟨rfl, rfl, rfl⟩)
set_option maxHeartbeats 4000000 in
set_option maxRecDepth 100000 in
theorem m_addMan {w : WG} {I : SI} {L : SL} (hm : ML w) {n : Nat} (hn : I 0 1 = nI n) (hn4 : n < 4) (b h : Int32) : Ok w mX5_addMan [.ref (gA w 0), .int b, .int h] I L (fun r1 I1 L1 => r1 = some (.int (nI n)) ∧ I1 = mnJ I n b h ∧ L1 = L) := by
  refine Ok.of (by decide) (Nat.le_of_ble_eq_true rfl) (fun X hX => ?_)
  refine g_aload_n hX dX5_addMan_0 rfl rfl ?_
  refine g_get5R hX 6 dX5_addMan_1 b_fl_X5_13 hm.k0 (by decide) hm.q2 ?_
  refine g_aload_n hX dX5_addMan_4 rfl rfl ?_
  refine g_get5I hX 1 dX5_addMan_5 b_fl_X5_74 hm.k0 (by decide) ?_
  try simp (disch := decide) only [rS_eq, rS_ne, rS_rS, pk_un, pk_us]
  refine g_iload_n hX dX5_addMan_8 rfl rfl ?_
  refine g_iastN hX dX5_addMan_9 hm.k2 (⟨hn, by omega⟩) (by decide) ?_
  try simp (disch := decide) only [rS_eq, rS_ne, rS_rS, pk_un, pk_us]
  refine g_aload_n hX dX5_addMan_10 rfl rfl ?_
  refine g_get5R hX 7 dX5_addMan_11 b_fl_X5_16 hm.k0 (by decide) hm.q3 ?_
  refine g_aload_n hX dX5_addMan_14 rfl rfl ?_
  refine g_get5I hX 1 dX5_addMan_15 b_fl_X5_74 hm.k0 (by decide) ?_
  try simp (disch := decide) only [rS_eq, rS_ne, rS_rS, pk_un, pk_us]
  refine g_iload_n hX dX5_addMan_18 rfl rfl ?_
  refine g_iastN hX dX5_addMan_19 hm.k3 (⟨hn, by omega⟩) (by decide) ?_
  try simp (disch := decide) only [rS_eq, rS_ne, rS_rS, pk_un, pk_us]
  refine g_aload_n hX dX5_addMan_20 rfl rfl ?_
  refine g_get5R hX 8 dX5_addMan_21 b_fl_X5_19 hm.k0 (by decide) hm.q4 ?_
  refine g_aload_n hX dX5_addMan_24 rfl rfl ?_
  refine g_get5I hX 1 dX5_addMan_25 b_fl_X5_74 hm.k0 (by decide) ?_
  try simp (disch := decide) only [rS_eq, rS_ne, rS_rS, pk_un, pk_us]
  refine g_iconst (v := 0) hX dX5_addMan_28 (by decide) ?_
  refine g_iastN hX dX5_addMan_29 hm.k4 (⟨hn, by omega⟩) (by decide) ?_
  try simp (disch := decide) only [rS_eq, rS_ne, rS_rS, pk_un, pk_us]
  refine g_aload_n hX dX5_addMan_30 rfl rfl ?_
  refine g_dup hX dX5_addMan_31 rfl ?_
  refine g_get5I hX 1 dX5_addMan_32 b_fl_X5_74 hm.k0 (by decide) ?_
  try simp (disch := decide) only [rS_eq, rS_ne, rS_rS, pk_un, pk_us]
  refine g_iconst (v := 1) hX dX5_addMan_35 (by decide) ?_
  refine g_iadd hX dX5_addMan_36 ?_
  refine g_put5I hX 1 dX5_addMan_37 b_fl_X5_74 hm.k0 pf5_1 ?_
  try simp (disch := decide) only [rS_eq, rS_ne, rS_rS, pk_un, pk_us]
  refine g_aload_n hX dX5_addMan_40 rfl rfl ?_
  refine g_iconst (v := 0) hX dX5_addMan_41 (by decide) ?_
  refine g_put5I hX 27 dX5_addMan_42 b_fl_X5_90 hm.k0 pf5_27 ?_
  try simp (disch := decide) only [rS_eq, rS_ne, rS_rS, pk_un, pk_us]
  refine g_aload_n hX dX5_addMan_45 rfl rfl ?_
  refine g_get5I hX 1 dX5_addMan_46 b_fl_X5_74 hm.k0 (by decide) ?_
  try simp (disch := decide) only [rS_eq, rS_ne, rS_rS, pk_un, pk_us]
  refine g_iconst (v := 1) hX dX5_addMan_49 (by decide) ?_
  refine g_isub hX dX5_addMan_50 ?_
  exact g_iret hX dX5_addMan_51 rfl (⟨by rw [hn, nI_1, nI_pred], by rw [hn]; rfl, rfl⟩)
set_option maxHeartbeats 4000000 in
set_option maxRecDepth 100000 in
theorem m_addDog {w : WG} {I : SI} {L : SL} (hm : ML w) {d : Nat} (hd : I 0 2 = nI d) (hd7 : d < 7) (k x h f : Int32) : Ok w mX5_addDog [.ref (gA w 0), .int k, .int x, .int h, .int f] I L (fun r1 I1 L1 => r1 = some (.int (nI d)) ∧ I1 = dgJ I d k x h f ∧ L1 = L) := by
  refine Ok.of (by decide) (Nat.le_of_ble_eq_true rfl) (fun X hX => ?_)
  refine g_aload_n hX dX5_addDog_0 rfl rfl ?_
  refine g_get5R hX 9 dX5_addDog_1 b_fl_X5_22 hm.k0 (by decide) hm.q5 ?_
  refine g_aload_n hX dX5_addDog_4 rfl rfl ?_
  refine g_get5I hX 2 dX5_addDog_5 b_fl_X5_78 hm.k0 (by decide) ?_
  try simp (disch := decide) only [rS_eq, rS_ne, rS_rS, pk_un, pk_us]
  refine g_iload_n hX dX5_addDog_8 rfl rfl ?_
  refine g_iastN hX dX5_addDog_9 hm.k5 (⟨hd, by omega⟩) (by decide) ?_
  try simp (disch := decide) only [rS_eq, rS_ne, rS_rS, pk_un, pk_us]
  refine g_aload_n hX dX5_addDog_10 rfl rfl ?_
  refine g_get5R hX 10 dX5_addDog_11 b_fl_X5_25 hm.k0 (by decide) hm.q6 ?_
  refine g_aload_n hX dX5_addDog_14 rfl rfl ?_
  refine g_get5I hX 2 dX5_addDog_15 b_fl_X5_78 hm.k0 (by decide) ?_
  try simp (disch := decide) only [rS_eq, rS_ne, rS_rS, pk_un, pk_us]
  refine g_iload_n hX dX5_addDog_18 rfl rfl ?_
  refine g_iastN hX dX5_addDog_19 hm.k6 (⟨hd, by omega⟩) (by decide) ?_
  try simp (disch := decide) only [rS_eq, rS_ne, rS_rS, pk_un, pk_us]
  refine g_aload_n hX dX5_addDog_20 rfl rfl ?_
  refine g_get5R hX 11 dX5_addDog_21 b_fl_X5_28 hm.k0 (by decide) hm.q7 ?_
  refine g_aload_n hX dX5_addDog_24 rfl rfl ?_
  refine g_get5I hX 2 dX5_addDog_25 b_fl_X5_78 hm.k0 (by decide) ?_
  try simp (disch := decide) only [rS_eq, rS_ne, rS_rS, pk_un, pk_us]
  refine g_iload_n hX dX5_addDog_28 rfl rfl ?_
  refine g_iastN hX dX5_addDog_29 hm.k7 (⟨hd, by omega⟩) (by decide) ?_
  try simp (disch := decide) only [rS_eq, rS_ne, rS_rS, pk_un, pk_us]
  refine g_aload_n hX dX5_addDog_30 rfl rfl ?_
  refine g_get5R hX 12 dX5_addDog_31 b_fl_X5_31 hm.k0 (by decide) hm.q8 ?_
  refine g_aload_n hX dX5_addDog_34 rfl rfl ?_
  refine g_get5I hX 2 dX5_addDog_35 b_fl_X5_78 hm.k0 (by decide) ?_
  try simp (disch := decide) only [rS_eq, rS_ne, rS_rS, pk_un, pk_us]
  refine g_iload hX dX5_addDog_38 rfl ?_
  refine g_iastN hX dX5_addDog_40 hm.k8 (⟨hd, by omega⟩) (by decide) ?_
  try simp (disch := decide) only [rS_eq, rS_ne, rS_rS, pk_un, pk_us]
  refine g_aload_n hX dX5_addDog_41 rfl rfl ?_
  refine g_dup hX dX5_addDog_42 rfl ?_
  refine g_get5I hX 2 dX5_addDog_43 b_fl_X5_78 hm.k0 (by decide) ?_
  try simp (disch := decide) only [rS_eq, rS_ne, rS_rS, pk_un, pk_us]
  refine g_iconst (v := 1) hX dX5_addDog_46 (by decide) ?_
  refine g_iadd hX dX5_addDog_47 ?_
  refine g_put5I hX 2 dX5_addDog_48 b_fl_X5_78 hm.k0 pf5_2 ?_
  try simp (disch := decide) only [rS_eq, rS_ne, rS_rS, pk_un, pk_us]
  refine g_aload_n hX dX5_addDog_51 rfl rfl ?_
  refine g_iconst (v := 0) hX dX5_addDog_52 (by decide) ?_
  refine g_put5I hX 27 dX5_addDog_53 b_fl_X5_90 hm.k0 pf5_27 ?_
  try simp (disch := decide) only [rS_eq, rS_ne, rS_rS, pk_un, pk_us]
  refine g_aload_n hX dX5_addDog_56 rfl rfl ?_
  refine g_get5I hX 2 dX5_addDog_57 b_fl_X5_78 hm.k0 (by decide) ?_
  try simp (disch := decide) only [rS_eq, rS_ne, rS_rS, pk_un, pk_us]
  refine g_iconst (v := 1) hX dX5_addDog_60 (by decide) ?_
  refine g_isub hX dX5_addDog_61 ?_
  exact g_iret hX dX5_addDog_62 rfl (⟨by rw [hd, nI_1, nI_pred], by rw [hd]; rfl, rfl⟩)
def shR (T : Nat → Int32) (i : Nat) : Nat → Int32 := fun k => if k < i then T (k + 10) else T k
theorem shR_s {T : Nat → Int32} {i : Nat} : upd (shR T i) i (shR T i (i + 10)) = shR T (i + 1) := by
  funext k; unfold shR upd
  by_cases h : k = i
  · subst h; simp [show ¬ k + 10 < k by omega]
  · rw [if_neg h]; dsimp only
    by_cases h1 : k < i
    · rw [if_pos h1, if_pos (by omega)]
    · rw [if_neg h1, if_neg (by omega)]
theorem nts_8 {I : SI} : rS (rS (rS (rS I 16 (shR (I 16) 70)) 0 (upd (I 0) 27 7)) 16 (layC (rS (rS I 16 (shR (I 16) 70)) 0 (upd (I 0) 27 7)) 70 4 (shR (I 16) 70))) 0 (upd (upd (I 0) 27 7) 27 (7 + 1)) = rS (rS I 16 (layC I 70 4 (fun k => if k < 70 then I 16 (k + 10) else I 16 k))) 0 (upd (I 0) 27 (nI 7 + 1)) := by
  have e : layC (rS (rS I 16 (shR (I 16) 70)) 0 (upd (I 0) 27 7)) 70 4 (shR (I 16) 70) = layC I 70 4 (shR (I 16) 70) := by
    unfold layC; simp (disch := decide) only [rS_eq, rS_ne, pk_un]
  rw [e]
  funext q; by_cases h0 : q = 0
  · subst h0; rw [rS_eq, rS_eq]; funext k; by_cases hk : k = 27
    · subst hk; rw [pk_us, pk_us]; rfl
    · rw [pk_un hk, pk_un hk, pk_un hk]
  · rw [rS_ne _ _ _ h0, rS_ne _ _ _ h0]; by_cases h1 : q = 16
    · subst h1; rw [rS_eq, rS_eq]; rfl
    · rw [rS_ne _ _ _ h1, rS_ne _ _ _ h0, rS_ne _ _ _ h1, rS_ne _ _ _ h1]
theorem shR_0 {T : Nat → Int32} : shR T 0 = T := by funext k; simp [shR]
set_option maxHeartbeats 4000000 in
set_option maxRecDepth 100000 in
theorem m_notes {w : WG} {I : SI} {L : SL} (hm : ML w) {p : Nat} (hp : I 0 27 = nI p) (hp9 : p ≤ 8) : Ok w mX5_notes [.ref (gA w 0)] I L (fun r1 I1 L1 => r1 = none ∧ I1 = ntsJ I p ∧ L1 = L) := by
  refine Ok.of (by decide) (Nat.le_of_ble_eq_true rfl) (fun X hX => ?_)
  refine g_aload_n hX dX5_notes_0 rfl rfl ?_
  refine g_get5I hX 27 dX5_notes_1 b_fl_X5_90 hm.k0 (by decide) ?_
  try simp (disch := decide) only [rS_eq, rS_ne, rS_rS, pk_un, pk_us]
  refine g_bipush (v := 8) hX dX5_notes_4 (by decide) ?_
  rw [hp, show (8 : Int32) = nI 8 from rfl]
  refine g_icmp_ne (tgt := 48) hX dX5_notes_6 (by decide) (fun c_6 => ?_) (fun c_6 => ?_)
  · have hlt8 : p < 8 := Nat.lt_of_le_of_ne hp9 (fun e => c_6 (by rw [e]))
    refine g_aload_n hX dX5_notes_48 rfl rfl ?_
    refine g_aload_n hX dX5_notes_49 rfl rfl ?_
    refine g_get5R hX 26 dX5_notes_50 b_fl_X5_55 hm.k0 (by decide) hm.q16 ?_
    refine g_bipush (v := 10) hX dX5_notes_53 (by decide) ?_
    refine g_aload_n hX dX5_notes_55 rfl rfl ?_
    refine g_get5I hX 27 dX5_notes_56 b_fl_X5_90 hm.k0 (by decide) ?_
    try simp (disch := decide) only [rS_eq, rS_ne, rS_rS, pk_un, pk_us]
    refine g_imul hX dX5_notes_59 ?_
    rw [hp, show (10 : Int32) = nI 10 from rfl, pk_mul, Nat.mul_comm]
    refine g_callV _ hX dX5_notes_60 k_X5_199 ⟨by decide, by decide⟩ (by decide) hm.k0 rfl rfl (m_lays (a := p * 10) hm hm.k16 (by decide) (by omega) ⟨by decide, by decide, by decide⟩) rfl (Nat.le_of_ble_eq_true rfl) (fun r1 I1 L1 hq => ?_)
    obtain ⟨rfl, rfl, rfl⟩ := hq
    try simp (disch := decide) only [rS_eq, rS_ne, rS_rS, pk_un, pk_us]
    refine g_aload_n hX dX5_notes_63 rfl rfl ?_
    refine g_dup hX dX5_notes_64 rfl ?_
    refine g_get5I hX 27 dX5_notes_65 b_fl_X5_90 hm.k0 (by decide) ?_
    try simp (disch := decide) only [rS_eq, rS_ne, rS_rS, pk_un, pk_us]
    refine g_iconst (v := 1) hX dX5_notes_68 (by decide) ?_
    refine g_iadd hX dX5_notes_69 ?_
    refine g_put5I hX 27 dX5_notes_70 b_fl_X5_90 hm.k0 pf5_27 ?_
    try simp (disch := decide) only [rS_eq, rS_ne, rS_rS, pk_un, pk_us]
    exact g_vret hX dX5_notes_73 rfl (⟨rfl, by rw [ntsJ, if_pos (Nat.lt_of_le_of_ne hp9 (fun e => c_6 (by rw [e]))), hp], rfl⟩)
  · have hp8 : I 0 27 - 1 = 7 := by rw [hp, c_6]; rfl
    have e8 : p = 8 := (nI_eq (by omega) (by decide)).mp c_6
    subst e8
    have loop := loop_up (n := 70) (P := fun i => G X w mX5_notes (rS I 16 (shR (I 16) i)) L 11 (lvO [(0, .ref (gA w 0)), (1, .int (nI i))]) []) (fun i hi ih => by
      refine g_iload_n hX dX5_notes_11 rfl rfl ?_
      refine g_bipush (v := 70) hX dX5_notes_12 (by decide) ?_
      rw [show (70 : Int32) = nI 70 from rfl]
      refine g_icmp_ge (tgt := 38) hX dX5_notes_14 (by decide) (fun c_14 => ?_) (fun c_14 => ?_)
      · refine g_aload_n hX dX5_notes_38 rfl rfl ?_
        refine g_dup hX dX5_notes_39 rfl ?_
        refine g_get5I hX 27 dX5_notes_40 b_fl_X5_90 hm.k0 (by decide) ?_
        try simp (disch := decide) only [rS_eq, rS_ne, rS_rS, pk_un, pk_us]
        refine g_iconst (v := 1) hX dX5_notes_43 (by decide) ?_
        refine g_isub hX dX5_notes_44 ?_
        rw [hp8]
        refine g_put5I hX 27 dX5_notes_45 b_fl_X5_90 hm.k0 pf5_27 ?_
        try simp (disch := decide) only [rS_eq, rS_ne, rS_rS, pk_un, pk_us]
        refine g_aload_n hX dX5_notes_48 rfl rfl ?_
        refine g_aload_n hX dX5_notes_49 rfl rfl ?_
        refine g_get5R hX 26 dX5_notes_50 b_fl_X5_55 hm.k0 (by decide) hm.q16 ?_
        refine g_bipush (v := 10) hX dX5_notes_53 (by decide) ?_
        refine g_aload_n hX dX5_notes_55 rfl rfl ?_
        refine g_get5I hX 27 dX5_notes_56 b_fl_X5_90 hm.k0 (by decide) ?_
        try simp (disch := decide) only [rS_eq, rS_ne, rS_rS, pk_un, pk_us]
        refine g_imul hX dX5_notes_59 ?_
        rw [show (10 : Int32) * 7 = nI 70 from rfl]
        refine g_callV _ hX dX5_notes_60 k_X5_199 ⟨by decide, by decide⟩ (by decide) hm.k0 rfl rfl (m_lays (a := 70) hm hm.k16 (by decide) (by omega) ⟨by decide, by decide, by decide⟩) rfl (Nat.le_of_ble_eq_true rfl) (fun r1 I1 L1 hq => ?_)
        obtain ⟨rfl, rfl, rfl⟩ := hq
        try simp (disch := decide) only [rS_eq, rS_ne, rS_rS, pk_un, pk_us]
        refine g_aload_n hX dX5_notes_63 rfl rfl ?_
        refine g_dup hX dX5_notes_64 rfl ?_
        refine g_get5I hX 27 dX5_notes_65 b_fl_X5_90 hm.k0 (by decide) ?_
        try simp (disch := decide) only [rS_eq, rS_ne, rS_rS, pk_un, pk_us]
        refine g_iconst (v := 1) hX dX5_notes_68 (by decide) ?_
        refine g_iadd hX dX5_notes_69 ?_
        refine g_put5I hX 27 dX5_notes_70 b_fl_X5_90 hm.k0 pf5_27 ?_
        try simp (disch := decide) only [rS_eq, rS_ne, rS_rS, pk_un, pk_us]
        exact g_vret hX dX5_notes_73 rfl (⟨rfl, by rw [show i = 70 from Nat.le_antisymm hi (nle c_14 (by decide) (by omega)), ntsJ, if_neg (by decide)]; exact nts_8, rfl⟩)
      · have hlt := nnle c_14 (by decide) (by omega)
        refine g_aload_n hX dX5_notes_17 rfl rfl ?_
        refine g_get5R hX 26 dX5_notes_18 b_fl_X5_55 hm.k0 (by decide) hm.q16 ?_
        refine g_iload_n hX dX5_notes_21 rfl rfl ?_
        refine g_aload_n hX dX5_notes_22 rfl rfl ?_
        refine g_get5R hX 26 dX5_notes_23 b_fl_X5_55 hm.k0 (by decide) hm.q16 ?_
        refine g_iload_n hX dX5_notes_26 rfl rfl ?_
        refine g_bipush (v := 10) hX dX5_notes_27 (by decide) ?_
        refine g_iadd hX dX5_notes_29 ?_
        refine g_ialdN hX dX5_notes_30 hm.k16 (⟨(by rw [show (10 : Int32) = nI 10 from rfl, nI_add]), by omega⟩) (by decide) ?_
        try simp (disch := decide) only [rS_eq, rS_ne, rS_rS, pk_un, pk_us]
        refine g_iastN hX dX5_notes_31 hm.k16 (⟨rfl, by omega⟩) (by decide) ?_
        try simp (disch := decide) only [rS_eq, rS_ne, rS_rS, pk_un, pk_us]
        refine g_iinc hX dX5_notes_32 rfl (d := 1) (by decide) ?_
        refine g_goto (tgt := 11) hX dX5_notes_35 (by decide) ?_
        rw [shR_s]
        exact G.at (ih hlt) ⟨rfl, vI (nI_1 i), trivial⟩
      )
    refine g_iconst (v := 0) hX dX5_notes_9 (by decide) ?_
    refine g_istore_n hX dX5_notes_10 rfl (by decide) ?_
    refine G.eqI (show I = rS I 16 (shR (I 16) 0) by rw [shR_0, rS_self]) (G.at (loop 0 (Nat.zero_le _)) ⟨rfl, rfl, trivial⟩)
