theorem wV1 {I : SI} {V : VS} : wV I 1 V 1 = V 0 := wV_0 I 1 V
theorem wV2 {I : SI} {V : VS} : wV I 1 V 2 = V 1 := wV_at I 1 V (j := 1) (by decide)
theorem wV3 {I : SI} {V : VS} : wV I 1 V 3 = V 2 := wV_at I 1 V (j := 2) (by decide)
theorem wV4 {I : SI} {V : VS} : wV I 1 V 4 = V 3 := wV_at I 1 V (j := 3) (by decide)
theorem wV5 {I : SI} {V : VS} : wV I 1 V 5 = V 4 := wV_at I 1 V (j := 4) (by decide)
theorem wV6 {I : SI} {V : VS} : wV I 1 V 6 = V 5 := wV_at I 1 V (j := 5) (by decide)
theorem wV7 {I : SI} {V : VS} : wV I 1 V 7 = V 6 := wV_at I 1 V (j := 6) (by decide)
theorem wV8 {I : SI} {V : VS} : wV I 1 V 8 = V 7 := wV_at I 1 V (j := 7) (by decide)
theorem wV9 {I : SI} {V : VS} : wV I 1 V 9 = V 8 := wV_at I 1 V (j := 8) (by decide)
theorem wV10 {I : SI} {V : VS} : wV I 1 V 10 = V 9 := wV_at I 1 V (j := 9) (by decide)
theorem wVo0 {I : SI} {V : VS} : wV I 1 V 0 = I 0 := wV_out I 1 V (by decide)
theorem wVo22 {I : SI} {V : VS} : wV I 1 V 22 = I 22 := wV_out I 1 V (by decide)
theorem wVo23 {I : SI} {V : VS} : wV I 1 V 23 = I 23 := wV_out I 1 V (by decide)
theorem vxw0 {I : SI} {V : VS} : vx (wV I 1 V) 1 0 = V 0 := vx_wV I 1 V (by decide)
theorem vxw1 {I : SI} {V : VS} : vx (wV I 1 V) 1 1 = V 1 := vx_wV I 1 V (by decide)
theorem vxw2 {I : SI} {V : VS} : vx (wV I 1 V) 1 2 = V 2 := vx_wV I 1 V (by decide)
theorem vxw3 {I : SI} {V : VS} : vx (wV I 1 V) 1 3 = V 3 := vx_wV I 1 V (by decide)
theorem vxw4 {I : SI} {V : VS} : vx (wV I 1 V) 1 4 = V 4 := vx_wV I 1 V (by decide)
theorem vxw5 {I : SI} {V : VS} : vx (wV I 1 V) 1 5 = V 5 := vx_wV I 1 V (by decide)
theorem vxw6 {I : SI} {V : VS} : vx (wV I 1 V) 1 6 = V 6 := vx_wV I 1 V (by decide)
theorem vxw7 {I : SI} {V : VS} : vx (wV I 1 V) 1 7 = V 7 := vx_wV I 1 V (by decide)
theorem vxw8 {I : SI} {V : VS} : vx (wV I 1 V) 1 8 = V 8 := vx_wV I 1 V (by decide)
theorem vxw9 {I : SI} {V : VS} : vx (wV I 1 V) 1 9 = V 9 := vx_wV I 1 V (by decide)
theorem RX_w {I : SI} {V : VS} {n d r q p m : Nat} : RX (wV I 1 V) n d r q p m ↔ (V 0 0 = nI n ∧ n ≤ 4 ∧ V 0 1 = nI d ∧ d ≤ 7 ∧ V 0 3 = nI r ∧ r ≤ 999) ∧ (V 0 4 = nI q ∧ q ≤ 6) ∧ (V 0 5 = nI p ∧ p ≤ 8) ∧ (I 22 1 = nI m ∧ m ≤ 150) ∧ (∃ s, V 0 2 = nI s ∧ s < 128) ∧ (∀ c, c < n → ∃ a, V 2 c = nI a ∧ a ≤ 30) ∧
  (∀ k, k < d → (∃ a, V 4 k = nI a ∧ a ≤ 5) ∧ (∃ a, V 5 k = nI a ∧ a ≤ 5) ∧ (∃ a, V 6 k = nI a ∧ a ≤ 9) ∧ (∃ a, V 7 k = nI a ∧ a ≤ 3)) ∧
  (∀ t, t < p → (∃ a, V 9 (t * 10 + 9) = nI a ∧ a ≤ 999) ∧ (∃ a, V 9 (t * 10 + 8) = nI a ∧ a < 128) ∧ ∀ c, c < n → ∃ a, V 9 (t * 10 + c) = nI a ∧ a ≤ 30) ∧ ∀ t, t < m → ∃ a, I 23 t = nI a ∧ a ≤ 127 := by
  unfold RX XV; rw [wV1, wV3, wV5, wV6, wV7, wV8, wV10, wVo22, wVo23]
theorem RJ_w {I J : SI} {V : VS} {n d r q p m : Nat} : RJ (wV I 1 V) J n d r q p m ↔ (J 0 1 = nI n ∧ n ≤ 4 ∧ J 0 2 = nI d ∧ d ≤ 7 ∧ (∀ c, c < n → J 2 c = V 1 c) ∧ ∀ k, k < d → J 5 k = V 4 k ∧ J 6 k = V 5 k ∧ J 7 k = V 6 k ∧ J 8 k = V 7 k) ∧ J 0 3 = nI r ∧ J 0 4 = V 0 2 ∧ J 0 5 = nI q ∧ J 0 27 = nI p ∧ J 0 18 = nI m ∧ (∀ c, c < n → J 3 c = V 2 c ∧ J 4 c = V 3 c) ∧
  (∀ i, i < q → J 9 i = V 8 (i * 4) ∧ J 10 i = V 8 (i * 4 + 1) ∧ J 11 i = V 8 (i * 4 + 2) ∧ J 12 i = V 8 (i * 4 + 3)) ∧
  (∀ t, t < p → J 16 (t * 10) = V 9 (t * 10 + 9) ∧ J 16 (t * 10 + 1) = V 9 (t * 10 + 8) ∧ ∀ c, c < n → J 16 (t * 10 + 2 + c) = V 9 (t * 10 + c) ∧ J 16 (t * 10 + 6 + c) = V 9 (t * 10 + 4 + c)) ∧ ∀ t, t < m → J 13 t = I 23 t := by
  unfold RJ RV; rw [wV1, wV3, wV4, wV9, wV10, wVo23, vxw1, vxw4, vxw5, vxw6, vxw7]
theorem RF_w {I J : SI} {L : SL} {V : VS} : RF (wV I 1 V) J L ↔ RF I J L := by
  unfold RF; rw [wVo0, X27_wV]
theorem RJ_v {I J : SI} {n d r q p m : Nat} (h : RJ I J n d r q p m) : (J 0 1 = nI n ∧ n ≤ 4 ∧ J 0 2 = nI d ∧ d ≤ 7 ∧ (∀ c, c < n → J 2 c = I 2 c) ∧ ∀ k, k < d → J 5 k = I 5 k ∧ J 6 k = I 6 k ∧ J 7 k = I 7 k ∧ J 8 k = I 8 k) ∧ J 0 3 = nI r ∧ J 0 4 = I 1 2 ∧ J 0 5 = nI q ∧ J 0 27 = nI p ∧ J 0 18 = nI m ∧ (∀ c, c < n → J 3 c = I 3 c ∧ J 4 c = I 4 c) ∧
  (∀ i, i < q → J 9 i = I 9 (i * 4) ∧ J 10 i = I 9 (i * 4 + 1) ∧ J 11 i = I 9 (i * 4 + 2) ∧ J 12 i = I 9 (i * 4 + 3)) ∧
  (∀ t, t < p → J 16 (t * 10) = I 10 (t * 10 + 9) ∧ J 16 (t * 10 + 1) = I 10 (t * 10 + 8) ∧ ∀ c, c < n → J 16 (t * 10 + 2 + c) = I 10 (t * 10 + c) ∧ J 16 (t * 10 + 6 + c) = I 10 (t * 10 + 4 + c)) ∧ ∀ t, t < m → J 13 t = I 23 t := h
def bgJ (J : SI) : SI := rS J 0 (upd (upd (upd (upd (upd (upd (J 0) 1 0) 2 0) 3 0) 4 0) 5 0) 27 0)
theorem RR.village {I J : SI} {L : SL} {n d r q p m : Nat} (h : RR I J L n d r q p m) : RR (wV I 1 (emV (vx I 1))) (bgJ J) L 0 0 0 0 0 m := by
  obtain ⟨h1, h2, h3⟩ := h
  obtain ⟨-, -, -, hm, -, -, -, -, hT⟩ := h1
  obtain ⟨-, -, -, -, -, jm, -, -, -, jT⟩ := h2
  refine ⟨RX_w.mpr ?_, RJ_w.mpr ?_, RF_w.mpr ?_⟩
  · refine ⟨?_, ?_, ?_, hm, ⟨0, ?_, by decide⟩, fun c hc => absurd hc (Nat.not_lt_zero c), fun c hc => absurd hc (Nat.not_lt_zero c), fun c hc => absurd hc (Nat.not_lt_zero c), hT⟩ <;> simp (disch := decide) only [emV, rS_eq, pk_us, pk_un] <;> simp [nI_0]
  · refine ⟨⟨?_, by decide, ?_, by decide, fun c hc => absurd hc (Nat.not_lt_zero c), fun c hc => absurd hc (Nat.not_lt_zero c)⟩, ?_, ?_, ?_, ?_, ?_, fun c hc => absurd hc (Nat.not_lt_zero c), fun c hc => absurd hc (Nat.not_lt_zero c), fun c hc => absurd hc (Nat.not_lt_zero c), ?_⟩
    all_goals unfold bgJ
    all_goals simp (disch := decide) only [emV, rS_eq, rS_ne, pk_us, pk_un, nI_0]
    · exact jm
    · exact jT
  · unfold RF bgJ at *; simp (disch := decide) only [rS_ne]; exact h3
theorem lt1 {P : Nat → Prop} {n : Nat} (h : ∀ c, c < n → P c) (hn : P n) : ∀ c, c < n + 1 → P c := fun c hc => (show c < n ∨ c = n by omega).elim (h c) (fun e => e ▸ hn)
theorem RJ_f {I J : SI} {L : SL} {f : Nat → Int32} (h : RF I J L) {o : Nat} (ho : o ≠ 1 ∧ o ≠ 18 ∧ o ≠ 19) : RF I (rS J o f) L := by
  unfold RF at *; rw [rS_ne _ _ _ (Ne.symm ho.1), rS_ne _ _ _ (Ne.symm ho.2.1), rS_ne _ _ _ (Ne.symm ho.2.2)]; exact h
/-- a man more -/
def mnJ (J : SI) (n : Nat) (b h : Int32) : SI := rS (rS (rS (rS J 2 (upd (J 2) n b)) 3 (upd (J 3) n h)) 4 (upd (J 4) n 0)) 0 (upd (upd (J 0) 1 (nI n + 1)) 27 0)
theorem RR.man {I J : SI} {L : SL} {n d r q p m a : Nat} {b : Int32} (h : RR I J L n d r q p m) (hn : n < 4) (ha : a ≤ 30) : RR (wV I 1 (manV (vx I 1) n b (nI a))) (mnJ J n b (nI a)) L (n + 1) d r q 0 m := by
  obtain ⟨h1, h2, h3⟩ := h
  obtain ⟨⟨xn, xn4, xd, xd7, xr, xr9⟩, hq, hp, hm, hA, hH, hD, hP, hT⟩ := h1
  obtain ⟨⟨jn, -, jd, -, jB, jK⟩, jr, ja, jq, jp, jm, jH, jN, jP, jT⟩ := RJ_v h2
  refine ⟨RX_w.mpr ?_, RJ_w.mpr ?_, RF_w.mpr (RJ_f (RJ_f (RJ_f (RJ_f h3 (by decide)) (by decide)) (by decide)) (by decide))⟩
  · simp (disch := decide) only [manV, rS_eq, rS_ne, pk_us, pk_un, nI_1]
    refine ⟨⟨by trivial, by omega, xd, xd7, xr, xr9⟩, hq, ⟨by trivial, by decide⟩, hm, hA, lt1 (fun c hc => ?_) ?_, hD, fun c hc => absurd hc (Nat.not_lt_zero c), hT⟩
    · rw [pk_un (by omega)]; exact hH c hc
    · rw [pk_us]; exact ⟨a, rfl, ha⟩
  · unfold mnJ
    simp (disch := decide) only [manV, rS_eq, rS_ne, pk_us, pk_un, nI_1]
    refine ⟨⟨by trivial, by omega, jd, xd7, lt1 (fun c hc => ?_) ?_, jK⟩, jr, ja, jq, by trivial, jm, lt1 (fun c hc => ?_) ?_, jN, fun c hc => absurd hc (Nat.not_lt_zero c), jT⟩
    · rw [pk_un (by omega), pk_un (by omega)]; exact jB c hc
    · rw [pk_us, pk_us]
    · rw [pk_un (by omega), pk_un (by omega), pk_un (by omega), pk_un (by omega)]; exact jH c hc
    · rw [pk_us, pk_us, pk_us, pk_us]; exact ⟨rfl, rfl⟩
def dgJ (J : SI) (d : Nat) (k x h f : Int32) : SI := rS (rS (rS (rS (rS J 5 (upd (J 5) d k)) 6 (upd (J 6) d x)) 7 (upd (J 7) d h)) 8 (upd (J 8) d f)) 0 (upd (upd (J 0) 2 (nI d + 1)) 27 0)
theorem RR.dog {I J : SI} {L : SL} {n d r q p m a1 a2 a3 a4 : Nat} (h : RR I J L n d r q p m) (hd : d < 7) (h1 : a1 ≤ 5) (h2 : a2 ≤ 5) (h3 : a3 ≤ 9) (h4 : a4 ≤ 3) : RR (wV I 1 (dogV (vx I 1) d (nI a1) (nI a2) (nI a3) (nI a4))) (dgJ J d (nI a1) (nI a2) (nI a3) (nI a4)) L n (d + 1) r q 0 m := by
  obtain ⟨g1, g2, g3⟩ := h
  obtain ⟨⟨xn, xn4, xd, xd7, xr, xr9⟩, hq, hp, hm, hA, hH, hD, hP, hT⟩ := g1
  obtain ⟨⟨jn, -, jd, -, jB, jK⟩, jr, ja, jq, jp, jm, jH, jN, jP, jT⟩ := RJ_v g2
  refine ⟨RX_w.mpr ?_, RJ_w.mpr ?_, RF_w.mpr (RJ_f (RJ_f (RJ_f (RJ_f (RJ_f g3 (by decide)) (by decide)) (by decide)) (by decide)) (by decide))⟩
  · simp (disch := decide) only [dogV, rS_eq, rS_ne, pk_us, pk_un, nI_1]
    refine ⟨⟨xn, xn4, by trivial, by omega, xr, xr9⟩, hq, ⟨by trivial, by decide⟩, hm, hA, hH, lt1 (fun c hc => ?_) ?_, fun c hc => absurd hc (Nat.not_lt_zero c), hT⟩
    · rw [pk_un (by omega), pk_un (by omega), pk_un (by omega), pk_un (by omega)]; exact hD c hc
    · rw [pk_us, pk_us, pk_us, pk_us]; exact ⟨⟨a1, rfl, h1⟩, ⟨a2, rfl, h2⟩, ⟨a3, rfl, h3⟩, ⟨a4, rfl, h4⟩⟩
  · unfold dgJ
    simp (disch := decide) only [dogV, rS_eq, rS_ne, pk_us, pk_un, nI_1]
    refine ⟨⟨jn, xn4, by trivial, by omega, jB, lt1 (fun c hc => ?_) ?_⟩, jr, ja, jq, by trivial, jm, jH, jN, fun c hc => absurd hc (Nat.not_lt_zero c), jT⟩
    · rw [pk_un (by omega), pk_un (by omega), pk_un (by omega), pk_un (by omega), pk_un (by omega), pk_un (by omega), pk_un (by omega), pk_un (by omega)]; exact jK c hc
    · rw [pk_us, pk_us, pk_us, pk_us, pk_us, pk_us, pk_us, pk_us]; exact ⟨rfl, rfl, rfl, rfl⟩
theorem nar_127 : ∀ a, a ≤ 127 → vp_nar .byte (nI a).toInt8.toInt32 = nI a := by decide +kernel
def tyX (I : SI) (m : Nat) (c : Int32) : SI := rS (rS I 23 (upd (I 23) m c)) 22 (upd (I 22) 1 (nI (m + 1)))
theorem vx_hi {I : SI} {o : Nat} {f : Nat → Int32} (ho : 11 ≤ o) {j : Nat} (hj : j < 10) : vx (rS I o f) 1 j = vx I 1 j := by
  unfold vx; exact rS_ne _ _ _ (by omega)
theorem RR.type {I J : SI} {L : SL} {n d r q p m a : Nat} (h : RR I J L n d r q p m) (hm : m < 150) (ha : a ≤ 127) : RR (tyX I m (nI a)) (rS (rS J 13 (upd (J 13) m (nI a))) 0 (upd (J 0) 18 (nI m + 1))) L n d r q p (m + 1) := by
  obtain ⟨g1, g2, g3⟩ := h
  obtain ⟨⟨xn, xn4, xd, xd7, xr, xr9⟩, hq, hp, hm0, hA, hH, hD, hP, hT⟩ := g1
  obtain ⟨⟨jn, -, jd, -, jB, jK⟩, jr, ja, jq, jp, jm, jH, jN, jP, jT⟩ := RJ_v g2
  refine ⟨?_, ?_, ?_⟩
  · unfold RX XV tyX; simp (disch := decide) only [rS_eq, rS_ne, pk_us, pk_un]
    refine ⟨⟨xn, xn4, xd, xd7, xr, xr9⟩, hq, hp, ⟨by trivial, by omega⟩, hA, hH, hD, hP, lt1 (fun c hc => ?_) ?_⟩
    · rw [pk_un (by omega)]; exact hT c hc
    · rw [pk_us]; exact ⟨a, rfl, ha⟩
  · unfold RJ RV tyX
    rw [vx_hi (by decide) (by decide), vx_hi (by decide) (by decide), vx_hi (by decide) (by decide), vx_hi (by decide) (by decide), vx_hi (by decide) (by decide), vx_hi (by decide) (by decide), vx_hi (by decide) (by decide), vx_hi (by decide) (by decide), vx_hi (by decide) (by decide), vx_hi (by decide) (by decide)]
    simp (disch := decide) only [rS_eq, rS_ne, pk_us, pk_un, nI_1]
    refine ⟨⟨jn, xn4, jd, xd7, jB, jK⟩, jr, ja, jq, jp, by trivial, jH, jN, jP, lt1 (fun c hc => ?_) ?_⟩
    · rw [pk_un (by omega), pk_un (by omega)]; exact jT c hc
    · rw [pk_us, pk_us]
  · unfold RF tyX at *; simp (disch := decide) only [rS_ne, X27_rS]; exact g3
theorem RR.clear {I J : SI} {L : SL} {n d r q p m : Nat} (h : RR I J L n d r q p m) : RR (rS I 22 (upd (I 22) 1 0)) (rS J 0 (upd (J 0) 18 0)) L n d r q p 0 := by
  obtain ⟨g1, g2, g3⟩ := h
  obtain ⟨⟨xn, xn4, xd, xd7, xr, xr9⟩, hq, hp, hm0, hA, hH, hD, hP, hT⟩ := g1
  obtain ⟨⟨jn, -, jd, -, jB, jK⟩, jr, ja, jq, jp, jm, jH, jN, jP, jT⟩ := RJ_v g2
  refine ⟨?_, ?_, ?_⟩
  · unfold RX XV; simp (disch := decide) only [rS_eq, rS_ne, pk_us, pk_un]
    exact ⟨⟨xn, xn4, xd, xd7, xr, xr9⟩, hq, hp, ⟨by trivial, by omega⟩, hA, hH, hD, hP, fun c hc => absurd hc (Nat.not_lt_zero c)⟩
  · unfold RJ RV
    rw [vx_hi (by decide) (by decide), vx_hi (by decide) (by decide), vx_hi (by decide) (by decide), vx_hi (by decide) (by decide), vx_hi (by decide) (by decide)]
    simp (disch := decide) only [rS_eq, rS_ne, pk_us, pk_un]
    exact ⟨⟨jn, xn4, jd, xd7, jB, jK⟩, jr, ja, jq, jp, by trivial, jH, jN, jP, fun c hc => absurd hc (Nat.not_lt_zero c)⟩
  · unfold RF at *; simp (disch := decide) only [rS_ne, X27_rS]; exact g3
def ntJ (J : SI) (q : Nat) (k f b t : Int32) : SI := rS (rS (rS (rS (rS J 9 (upd (J 9) q k)) 10 (upd (J 10) q f)) 11 (upd (J 11) q b)) 12 (upd (J 12) q t)) 0 (upd (J 0) 5 (nI q + 1))
theorem nt_old {N : Nat → Int32} {q x : Nat} {k f b t : Int32} (hx : x < q * 4) : upd (upd (upd (upd N (q * 4) k) (q * 4 + 1) f) (q * 4 + 2) b) (q * 4 + 3) t x = N x := by
  rw [pk_un (by omega), pk_un (by omega), pk_un (by omega), pk_un (by omega)]
theorem RR.note {I J : SI} {L : SL} {n d r q p m : Nat} {k f b t : Int32} (h : RR I J L n d r q p m) (hq6 : q < 6) : RR (wV I 1 (noteV (vx I 1) q k f b t)) (ntJ J q k f b t) L n d r (q + 1) p m := by
  obtain ⟨g1, g2, g3⟩ := h
  obtain ⟨⟨xn, xn4, xd, xd7, xr, xr9⟩, hq, hp, hm0, hA, hH, hD, hP, hT⟩ := g1
  obtain ⟨⟨jn, -, jd, -, jB, jK⟩, jr, ja, jq, jp, jm, jH, jN, jP, jT⟩ := RJ_v g2
  refine ⟨RX_w.mpr ?_, RJ_w.mpr ?_, RF_w.mpr (RJ_f (RJ_f (RJ_f (RJ_f (RJ_f g3 (by decide)) (by decide)) (by decide)) (by decide)) (by decide))⟩
  · simp (disch := decide) only [noteV, rS_eq, rS_ne, pk_us, pk_un, nI_1]
    exact ⟨⟨xn, xn4, xd, xd7, xr, xr9⟩, ⟨by trivial, by omega⟩, hp, hm0, hA, hH, hD, hP, hT⟩
  · unfold ntJ
    simp (disch := decide) only [noteV, rS_eq, rS_ne, pk_us, pk_un, nI_1]
    refine ⟨⟨jn, xn4, jd, xd7, jB, jK⟩, jr, ja, by trivial, jp, jm, jH, lt1 (fun c hc => ?_) ?_, jP, jT⟩
    · rw [nt_old (by omega), nt_old (by omega), nt_old (by omega), nt_old (by omega), pk_un (by omega), pk_un (by omega), pk_un (by omega), pk_un (by omega)]; exact jN c hc
    · rw [pk_us, pk_us, pk_us, pk_us, pk_us, pk_un (by omega), pk_un (by omega), pk_un (by omega), pk_us, pk_un (by omega), pk_un (by omega), pk_us, pk_un (by omega), pk_us]; exact ⟨rfl, rfl, rfl, rfl⟩
theorem RR.forget {I J : SI} {L : SL} {n d r q p m : Nat} (h : RR I J L n d r q p m) : RR (rS I 1 (upd (I 1) 4 0)) (rS J 0 (upd (J 0) 5 0)) L n d r 0 p m := by
  obtain ⟨g1, g2, g3⟩ := h
  obtain ⟨⟨xn, xn4, xd, xd7, xr, xr9⟩, hq, hp, hm0, hA, hH, hD, hP, hT⟩ := g1
  obtain ⟨⟨jn, -, jd, -, jB, jK⟩, jr, ja, jq, jp, jm, jH, jN, jP, jT⟩ := RJ_v g2
  refine ⟨?_, ?_, ?_⟩
  · unfold RX XV; simp (disch := decide) only [rS_eq, rS_ne, pk_us, pk_un]
    exact ⟨⟨xn, xn4, xd, xd7, xr, xr9⟩, ⟨by trivial, by omega⟩, hp, hm0, hA, hH, hD, hP, hT⟩
  · unfold RJ RV vx; simp (disch := decide) only [rS_eq, rS_ne, pk_us, pk_un]
    exact ⟨⟨jn, xn4, jd, xd7, jB, jK⟩, jr, ja, by trivial, jp, jm, jH, fun c hc => absurd hc (Nat.not_lt_zero c), jP, jT⟩
  · unfold RF at *; simp (disch := decide) only [rS_ne, X27_rS]; exact g3
theorem kpR_old {V : VS} {r : Nat → Int32} {p x : Nat} (h : x < p * 10) : kpR V r p x = r x := by
  unfold kpR; rw [pk_un (by omega), pk_un (by omega), pk_cpy_out (by omega), pk_cpy_out (by omega)]
theorem kpR_9 {V : VS} {r : Nat → Int32} {p : Nat} : kpR V r p (p * 10 + 9) = V 0 3 := by unfold kpR; rw [pk_us]
theorem kpR_8 {V : VS} {r : Nat → Int32} {p : Nat} : kpR V r p (p * 10 + 8) = V 0 2 := by unfold kpR; rw [pk_un (by omega), pk_us]
theorem kpR_h {V : VS} {r : Nat → Int32} {p c : Nat} (h : c < 4) : kpR V r p (p * 10 + c) = V 2 c := by
  unfold kpR; rw [pk_un (by omega), pk_un (by omega), pk_cpy_out (by omega), pk_cpy_in (by omega) (by omega)]; congr 1; omega
theorem kpR_o {V : VS} {r : Nat → Int32} {p c : Nat} (h : c < 4) : kpR V r p (p * 10 + 4 + c) = V 3 c := by
  unfold kpR; rw [pk_un (by omega), pk_un (by omega), pk_cpy_in (by omega) (by omega)]; congr 1; omega
theorem lay_old {J : SI} {a x : Nat} {o : Nat → Int32} (h : x < a) : layC J a 4 o x = o x := by
  unfold layC; rw [if_neg (by omega), if_neg (by omega), if_neg (by omega), if_neg (by omega)]
theorem lay_0 {J : SI} {a : Nat} {o : Nat → Int32} : layC J a 4 o a = J 0 3 := by unfold layC; rw [if_pos rfl]
theorem lay_1 {J : SI} {a : Nat} {o : Nat → Int32} : layC J a 4 o (a + 1) = J 0 4 := by unfold layC; rw [if_neg (by omega), if_pos rfl]
theorem lay_h {J : SI} {a c : Nat} {o : Nat → Int32} (h : c < 4) : layC J a 4 o (a + 2 + c) = J 3 c := by
  unfold layC; rw [if_neg (by omega), if_neg (by omega), if_pos (by omega)]; congr 1; omega
theorem lay_o {J : SI} {a c : Nat} {o : Nat → Int32} (h : c < 4) : layC J a 4 o (a + 6 + c) = J 4 c := by
  unfold layC; rw [if_neg (by omega), if_neg (by omega), if_neg (by omega), if_pos (by omega)]; congr 1; omega
/-- what stands of the pasts, by their rows: R the class's, T the model's -/
def PP (R T : Nat → Int32) (n p : Nat) : Prop := ∀ t, t < p → T (t * 10) = R (t * 10 + 9) ∧ T (t * 10 + 1) = R (t * 10 + 8) ∧ ∀ c, c < n → T (t * 10 + 2 + c) = R (t * 10 + c) ∧ T (t * 10 + 6 + c) = R (t * 10 + 4 + c)
def PX (R : Nat → Int32) (n p : Nat) : Prop := ∀ t, t < p → (∃ a, R (t * 10 + 9) = nI a ∧ a ≤ 999) ∧ (∃ a, R (t * 10 + 8) = nI a ∧ a < 128) ∧ ∀ c, c < n → ∃ a, R (t * 10 + c) = nI a ∧ a ≤ 30
theorem PP.add {V : VS} {J : SI} {r o : Nat → Int32} {n p : Nat} (h : PP r o n p) (hn : n ≤ 4) (h3 : J 0 3 = V 0 3) (h4 : J 0 4 = V 0 2) (hh : ∀ c, c < n → J 3 c = V 2 c ∧ J 4 c = V 3 c) : PP (kpR V r p) (layC J (p * 10) 4 o) n (p + 1) := by
  refine lt1 (fun t ht => ?_) ?_
  · obtain ⟨a, b, c⟩ := h t ht
    refine ⟨?_, ?_, fun x hx => ⟨?_, ?_⟩⟩
    · rw [lay_old (by omega), kpR_old (by omega)]; exact a
    · rw [lay_old (by omega), kpR_old (by omega)]; exact b
    · rw [lay_old (by omega), kpR_old (by omega)]; exact (c x hx).1
    · rw [lay_old (by omega), kpR_old (by omega)]; exact (c x hx).2
  · refine ⟨?_, ?_, fun x hx => ⟨?_, ?_⟩⟩
    · rw [lay_0, kpR_9]; exact h3
    · rw [lay_1, kpR_8]; exact h4
    · rw [lay_h (by omega), kpR_h (by omega)]; exact (hh x hx).1
    · rw [lay_o (by omega), kpR_o (by omega)]; exact (hh x hx).2
theorem PX.add {V : VS} {r : Nat → Int32} {n p ro s : Nat} (h : PX r n p) (hn : n ≤ 4) (h3 : V 0 3 = nI ro) (hr : ro ≤ 999) (h2 : V 0 2 = nI s) (hs : s < 128) (hh : ∀ c, c < n → ∃ a, V 2 c = nI a ∧ a ≤ 30) : PX (kpR V r p) n (p + 1) := by
  refine lt1 (fun t ht => ?_) ?_
  · obtain ⟨a, b, c⟩ := h t ht
    rw [kpR_old (by omega), kpR_old (by omega)]
    exact ⟨a, b, fun x hx => by rw [kpR_old (by omega)]; exact c x hx⟩
  · rw [kpR_9, kpR_8]
    exact ⟨⟨ro, h3, hr⟩, ⟨s, h2, hs⟩, fun x hx => by rw [kpR_h (by omega)]; exact hh x hx⟩
theorem PP.shift {R T : Nat → Int32} {n : Nat} (hn : n ≤ 4) (h : PP R T n 8) : PP (va_cpy R R 10 0 70) (fun k => if k < 70 then T (k + 10) else T k) n 7 := by
  intro t ht
  obtain ⟨a, b, c⟩ := h (t + 1) (by omega)
  have e : ∀ x, x < 70 → va_cpy R R 10 0 70 x = R (x + 10) := fun x hx => by rw [pk_cpy_in (by omega) (by omega)]; congr 1; omega
  dsimp only
  refine ⟨?_, ?_, fun x hx => ⟨?_, ?_⟩⟩
  · rw [if_pos (by omega), e _ (by omega), show t * 10 + 10 = (t + 1) * 10 by omega, a]; congr 1; omega
  · rw [if_pos (by omega), e _ (by omega), show t * 10 + 1 + 10 = (t + 1) * 10 + 1 by omega, b]; congr 1; omega
  · rw [if_pos (by omega), e _ (by omega), show t * 10 + 2 + x + 10 = (t + 1) * 10 + 2 + x by omega, (c x hx).1]; congr 1; omega
  · rw [if_pos (by omega), e _ (by omega), show t * 10 + 6 + x + 10 = (t + 1) * 10 + 6 + x by omega, (c x hx).2]; congr 1; omega
theorem PX.shift {R : Nat → Int32} {n : Nat} (hn : n ≤ 4) (h : PX R n 8) : PX (va_cpy R R 10 0 70) n 7 := by
  intro t ht
  obtain ⟨a, b, c⟩ := h (t + 1) (by omega)
  have e : ∀ x, x < 70 → va_cpy R R 10 0 70 x = R (x + 10) := fun x hx => by rw [pk_cpy_in (by omega) (by omega)]; congr 1; omega
  rw [e _ (by omega), e _ (by omega), show t * 10 + 9 + 10 = (t + 1) * 10 + 9 by omega, show t * 10 + 8 + 10 = (t + 1) * 10 + 8 by omega]
  exact ⟨a, b, fun x hx => by rw [e _ (by omega), show t * 10 + x + 10 = (t + 1) * 10 + x by omega]; exact c x hx⟩
/-- the model's note of a past -/
def ntsJ (J : SI) (p : Nat) : SI := if p < 8 then rS (rS J 16 (layC J (p * 10) 4 (J 16))) 0 (upd (J 0) 27 (nI p + 1)) else rS (rS J 16 (layC J 70 4 (fun k => if k < 70 then J 16 (k + 10) else J 16 k))) 0 (upd (J 0) 27 (nI 7 + 1))
def p1 (p : Nat) : Nat := if p < 8 then p + 1 else 8
theorem RR.keep {I J : SI} {L : SL} {n d r q p m : Nat} (h : RR I J L n d r q p m) : RR (wV I 1 (keepV (vx I 1) p)) (ntsJ J p) L n d r q (p1 p) m := by
  obtain ⟨g1, g2, g3⟩ := h
  obtain ⟨⟨xn, xn4, xd, xd7, xr, xr9⟩, hq, ⟨hp, hp8⟩, hm0, ⟨s, hs, hs1⟩, hH, hD, hP, hT⟩ := g1
  obtain ⟨⟨jn, -, jd, -, jB, jK⟩, jr, ja, jq, jp, jm, jH, jN, jP, jT⟩ := RJ_v g2
  have hPX : PX (I 10) n p := hP
  have hPP : PP (I 10) (J 16) n p := jP
  by_cases h8 : p < 8
  · have e1 : p1 p = p + 1 := if_pos h8
    rw [e1]
    refine ⟨RX_w.mpr ?_, RJ_w.mpr ?_, RF_w.mpr (by unfold ntsJ; rw [if_pos h8]; exact RJ_f (RJ_f g3 (by decide)) (by decide))⟩
    · unfold keepV; rw [if_pos h8]
      simp (disch := decide) only [rS_eq, rS_ne, pk_us, pk_un, nI_1]
      exact ⟨⟨xn, xn4, xd, xd7, xr, xr9⟩, hq, ⟨by trivial, by omega⟩, hm0, ⟨s, hs, hs1⟩, hH, hD, hPX.add (V := vx I 1) xn4 xr xr9 hs hs1 hH, hT⟩
    · unfold keepV ntsJ; rw [if_pos h8, if_pos h8]
      simp (disch := decide) only [rS_eq, rS_ne, pk_us, pk_un, nI_1]
      exact ⟨⟨jn, xn4, jd, xd7, jB, jK⟩, jr, ja, jq, by trivial, jm, jH, jN, hPP.add (V := vx I 1) xn4 (jr.trans xr.symm) ja jH, jT⟩
  · have e1 : p1 p = 8 := if_neg h8
    have e8 : p = 8 := by omega
    rw [e1]; subst e8
    refine ⟨RX_w.mpr ?_, RJ_w.mpr ?_, RF_w.mpr (by unfold ntsJ; rw [if_neg h8]; exact RJ_f (RJ_f g3 (by decide)) (by decide))⟩
    · unfold keepV; rw [if_neg h8]
      simp (disch := decide) only [rS_eq, rS_ne, pk_us, pk_un, nI_1]
      exact ⟨⟨xn, xn4, xd, xd7, xr, xr9⟩, hq, ⟨by trivial, by omega⟩, hm0, ⟨s, hs, hs1⟩, hH, hD, (hPX.shift xn4).add (V := vx I 1) xn4 xr xr9 hs hs1 hH, hT⟩
    · unfold keepV ntsJ; rw [if_neg h8, if_neg h8]
      simp (disch := decide) only [rS_eq, rS_ne, pk_us, pk_un, nI_1]
      exact ⟨⟨jn, xn4, jd, xd7, jB, jK⟩, jr, ja, jq, by trivial, jm, jH, jN, (hPP.shift xn4).add (V := vx I 1) xn4 (jr.trans xr.symm) ja jH, jT⟩
