/-- rows of villages alike, as far as they go -/
def VA (V V' : VS) : Prop := (∀ k, k ≤ 5 → V' 0 k = V 0 k) ∧ (∀ c, c < 4 → V' 1 c = V 1 c ∧ V' 2 c = V 2 c ∧ V' 3 c = V 3 c) ∧ (∀ k, k < 7 → V' 4 k = V 4 k ∧ V' 5 k = V 5 k ∧ V' 6 k = V 6 k ∧ V' 7 k = V 7 k) ∧ (∀ k, k < 24 → V' 8 k = V 8 k) ∧ ∀ k, k < 80 → V' 9 k = V 9 k
def JA (J J' : SI) : Prop := (J' 0 1 = J 0 1 ∧ J' 0 2 = J 0 2 ∧ J' 0 5 = J 0 5 ∧ J' 0 27 = J 0 27 ∧ J' 0 3 = J 0 3 ∧ J' 0 4 = J 0 4) ∧ (∀ c, c < 4 → J' 2 c = J 2 c ∧ J' 3 c = J 3 c ∧ J' 4 c = J 4 c) ∧ (∀ k, k < 7 → J' 5 k = J 5 k ∧ J' 6 k = J 6 k ∧ J' 7 k = J 7 k ∧ J' 8 k = J 8 k) ∧ (∀ i, i < 6 → J' 9 i = J 9 i ∧ J' 10 i = J 10 i ∧ J' 11 i = J 11 i ∧ J' 12 i = J 12 i) ∧ ∀ k, k < 80 → J' 16 k = J 16 k
theorem VX.cg {V V' : VS} {n d r q p : Nat} (h : VX V n d r q p) (a : VA V V') : VX V' n d r q p := by
  obtain ⟨⟨xn, xn4, xd, xd7, xr, xr9⟩, ⟨xq, xq6⟩, ⟨xp, xp8⟩, ⟨s, xs, xs1⟩, xH, xD, xP⟩ := h
  obtain ⟨a0, a1, a4, a8, a9⟩ := a
  refine ⟨⟨(a0 0 (by decide)).trans xn, xn4, (a0 1 (by decide)).trans xd, xd7, (a0 3 (by decide)).trans xr, xr9⟩, ⟨(a0 4 (by decide)).trans xq, xq6⟩, ⟨(a0 5 (by decide)).trans xp, xp8⟩, ⟨s, (a0 2 (by decide)).trans xs, xs1⟩, fun c hc => ?_, fun k hk => ?_, fun t ht => ?_⟩
  · rw [(a1 c (by omega)).2.1]; exact xH c hc
  · obtain ⟨b1, b2, b3, b4⟩ := a4 k (by omega)
    rw [b1, b2, b3, b4]; exact xD k hk
  · rw [a9 _ (by omega), a9 _ (by omega)]
    refine ⟨(xP t ht).1, (xP t ht).2.1, fun c hc => ?_⟩
    rw [a9 _ (by omega)]; exact (xP t ht).2.2 c hc
theorem VM.cg {V V' : VS} {J J' : SI} {n d r q p : Nat} (h : VM V J n d r q p) (hb : n ≤ 4 ∧ d ≤ 7 ∧ q ≤ 6 ∧ p ≤ 8) (a : VA V V') (b : JA J J') : VM V' J' n d r q p := by
  obtain ⟨⟨jn, jd, jB, jK⟩, jr, ja, jq, jp, jH, jN, jP⟩ := h
  obtain ⟨a0, a1, a4, a8, a9⟩ := a
  obtain ⟨⟨b1, b2, b5, b27, b3, b4⟩, c1, c5, c9, c16⟩ := b
  refine ⟨⟨b1.trans jn, b2.trans jd, fun c hc => ?_, fun k hk => ?_⟩, b3.trans jr, by rw [b4, a0 2 (by decide)]; exact ja, b5.trans jq, b27.trans jp, fun c hc => ?_, fun i hi => ?_, fun t ht => ?_⟩
  · rw [(c1 c (by omega)).1, (a1 c (by omega)).1]; exact jB c hc
  · obtain ⟨e1, e2, e3, e4⟩ := a4 k (by omega)
    obtain ⟨f1, f2, f3, f4⟩ := c5 k (by omega)
    rw [e1, e2, e3, e4, f1, f2, f3, f4]; exact jK k hk
  · obtain ⟨e1, e2, e3⟩ := a1 c (by omega)
    obtain ⟨f1, f2, f3⟩ := c1 c (by omega)
    rw [e2, e3, f2, f3]; exact jH c hc
  · obtain ⟨f1, f2, f3, f4⟩ := c9 i (by omega)
    rw [f1, f2, f3, f4, a8 _ (by omega), a8 _ (by omega), a8 _ (by omega), a8 _ (by omega)]; exact jN i hi
  · rw [c16 _ (by omega), c16 _ (by omega), a9 _ (by omega), a9 _ (by omega)]
    refine ⟨(jP t ht).1, (jP t ht).2.1, fun c hc => ?_⟩
    rw [c16 _ (by omega), c16 _ (by omega), a9 _ (by omega), a9 _ (by omega)]; exact (jP t ht).2.2 c hc
theorem VA.rf {V : VS} : VA V V := ⟨fun _ _ => rfl, fun _ _ => ⟨rfl, rfl, rfl⟩, fun _ _ => ⟨rfl, rfl, rfl, rfl⟩, fun _ _ => rfl, fun _ _ => rfl⟩
theorem cpy0 {f g : Nat → Int32} {n k : Nat} (h : k < n) : va_cpy f g 0 0 n k = f k := by
  rw [pk_cpy_in (Nat.zero_le _) (by omega)]; congr 1; omega
theorem take_VA {S V : VS} : VA S (takeR S V) := by
  rw [takeR_eq]
  refine ⟨fun k hk => ?_, fun c hc => ⟨?_, ?_, ?_⟩, fun k hk => ⟨?_, ?_, ?_, ?_⟩, fun k hk => ?_, fun k hk => ?_⟩ <;> simp (disch := decide) only [rS_eq, rS_ne]
  · rcases (show k = 0 ∨ k = 1 ∨ k = 2 ∨ k = 3 ∨ k = 4 ∨ k = 5 by omega) with rfl | rfl | rfl | rfl | rfl | rfl <;> simp (disch := decide) only [pk_us, pk_un]
  all_goals exact cpy0 (by omega)
theorem FIm.JA {J : SI} {a : Nat} {old R : Nat → Int32} (h : FIm J a old R 4 7 6 80) : JA J (imJ R a) := by
  obtain ⟨h0, h1, h2, h3, h4, h5, h6, h7, h8, h9, h10, h11⟩ := h
  exact ⟨⟨h1, h2, h3, h4, h5, h6⟩, fun c hc => ⟨h8 c hc, h7 c hc⟩, h9, h10, h11⟩
theorem FRm.JA {I J : SI} {a : Nat} (h : FRm I a J 4 7 6 80) : JA (imJ (I 18) a) J := by
  obtain ⟨f0, f1, h1, h2, h3, h4, h5, h6, h7, h8, h9, h10, h11⟩ := h
  exact ⟨⟨h1, h2, h3, h4, h5, h6⟩, fun c hc => ⟨h8 c hc, h7 c hc⟩, h9, h10, h11⟩
theorem imJ_cg {R R' : Nat → Int32} {a : Nat} (h : ∀ x, a ≤ x → x < a + 150 → R' x = R x) : JA (imJ R a) (imJ R' a) := by
  refine ⟨⟨?_, ?_, ?_, ?_, ?_, ?_⟩, fun c hc => ⟨?_, ?_, ?_⟩, fun k hk => ⟨?_, ?_, ?_, ?_⟩, fun i hi => ⟨?_, ?_, ?_, ?_⟩, fun k hk => ?_⟩
  all_goals exact h _ (by omega) (by omega)
theorem RR_iff {I J : SI} {L : SL} {n d r q p m : Nat} : RR I J L n d r q p m ↔ VX (vx I 1) n d r q p ∧ VM (vx I 1) J n d r q p ∧ ((I 22 1 = nI m ∧ m ≤ 150) ∧ (∀ t, t < m → ∃ a, I 23 t = nI a ∧ a ≤ 127) ∧ J 0 18 = nI m ∧ ∀ t, t < m → J 13 t = I 23 t) ∧ RF I J L := by
  constructor
  · rintro ⟨⟨xv, xq, xp, xm, xA, xH, xD, xP, xT⟩, g2, hF⟩
    obtain ⟨⟨jn, -, jd, -, jB, jK⟩, jr, ja, jq, jp, jm, jH, jN, jP, jT⟩ := RJ_v g2
    exact ⟨⟨xv, xq, xp, xA, xH, xD, xP⟩, ⟨⟨jn, jd, jB, jK⟩, jr, ja, jq, jp, jH, jN, jP⟩, ⟨xm, xT, jm, jT⟩, hF⟩
  · rintro ⟨⟨xv, xq, xp, xA, xH, xD, xP⟩, ⟨⟨jn, jd, jB, jK⟩, jr, ja, jq, jp, jH, jN, jP⟩, ⟨xm, xT, jm, jT⟩, hF⟩
    have h4 := xv.2.1
    have h7 := xv.2.2.2.1
    exact ⟨⟨xv, xq, xp, xm, xA, xH, xD, xP, xT⟩, ⟨⟨jn, h4, jd, h7, jB, jK⟩, jr, ja, jq, jp, jm, jH, jN, jP, jT⟩, hF⟩
theorem VX.b {V : VS} {n d r q p : Nat} (h : VX V n d r q p) : n ≤ 4 ∧ d ≤ 7 ∧ q ≤ 6 ∧ p ≤ 8 := ⟨h.1.2.1, h.1.2.2.2.1, h.2.1.2, h.2.2.1.2⟩
/-- the model's image is taken: the class's image is as its village now -/
theorem RR.image {I I' J : SI} {L : SL} {R : Nat → Int32} {n d r q p m i v : Nat} (h : RR I J L n d r q p m) (hi : i < 2) (hR : FIm J (150 * i) (J 18) R 4 7 6 80) (h27 : ∀ o, o < 27 → I' o = I o) (hv : X27 I' 1000 i = nI v) (hv5 : v < 900) (hV : VA (vx I 1) (vx (X27 I') v))
    (ho : ∀ j, j < 2 → j ≠ i → X27 I' 1000 j = X27 I 1000 j ∧ ∀ u, X27 I 1000 j = nI u → u < 900 → VA (vx (X27 I) u) (vx (X27 I') u)) : RR I' (rS (rS J 19 (upd (J 19) i 1)) 18 R) L n d r q p m := by
  obtain ⟨hX, hM, hT, c1, c2, c3, c4, c5, hI⟩ := RR_iff.mp h
  have e1 : VA (vx I 1) (vx I' 1) := by
    have e : ∀ j, j < 10 → vx I' 1 j = vx I 1 j := fun j hj => h27 (1 + j) (by omega)
    refine ⟨fun k _ => ?_, fun c _ => ⟨?_, ?_, ?_⟩, fun k _ => ⟨?_, ?_, ?_, ?_⟩, fun k _ => ?_, fun k _ => ?_⟩ <;> rw [e _ (by decide)]
  have e2 : JA J (rS (rS J 19 (upd (J 19) i 1)) 18 R) := by
    refine ⟨⟨?_, ?_, ?_, ?_, ?_, ?_⟩, fun c hc => ⟨?_, ?_, ?_⟩, fun k hk => ⟨?_, ?_, ?_, ?_⟩, fun i hi => ⟨?_, ?_, ?_, ?_⟩, fun k hk => ?_⟩ <;> rw [rS_ne _ _ _ (by decide), rS_ne _ _ _ (by decide)]
  refine RR_iff.mpr ⟨hX.cg e1, hM.cg hX.b e1 e2, ?_, ?_, ?_, ?_, ?_, ?_, ?_⟩
  · rw [h27 22 (by decide), h27 23 (by decide), rS_ne _ _ _ (by decide), rS_ne _ _ _ (by decide), rS_ne _ _ _ (by decide), rS_ne _ _ _ (by decide)]; exact hT
  · rw [rS_ne _ _ _ (by decide), rS_ne _ _ _ (by decide), h27 0 (by decide)]; exact c1
  · rw [rS_ne _ _ _ (by decide), rS_ne _ _ _ (by decide), h27 0 (by decide)]; exact c2
  · rw [rS_ne _ _ _ (by decide), rS_ne _ _ _ (by decide), h27 0 (by decide)]; exact c3
  · rw [h27 0 (by decide)]; exact c4
  · rw [h27 0 (by decide)]; exact c5
  · rw [rS_eq, rS_ne _ _ _ (by decide), rS_eq]
    intro j hj
    by_cases e : j = i
    · subst e
      refine Or.inr ⟨pk_us, v, hv, hv5, n, d, r, q, p, hX.cg hV, hM.cg hX.b hV hR.JA⟩
    · obtain ⟨g1, g2⟩ := ho j hj e
      rw [g1, pk_un e]
      refine (hI j hj).imp id (fun ⟨z1, u, z2, z3, n', d', r', q', p', z4, z5⟩ => ⟨z1, u, z2, z3, n', d', r', q', p', z4.cg (g2 u z2 z3), z5.cg z4.b (g2 u z2 z3) (imJ_cg (fun x a b => hR.1 x (by omega)))⟩)
/-- back from an image -/
theorem RR.from {I J J2 : SI} {L : SL} {n d r q p m i v : Nat} (h : RR I J L n d r q p m) (hi : i < 2) (hv : X27 I 1000 i = nI v) (hv5 : v < 900) (hR : FRm J (150 * i) J2 4 7 6 80) : ∃ n d r q p, RR (wV I 1 (takeR (vx (X27 I) v) (vx I 1))) J2 L n d r q p m := by
  obtain ⟨hX, hM, hT, c1, c2, c3, c4, c5, hI⟩ := RR_iff.mp h
  rcases hI i hi with ⟨z, -⟩ | ⟨z1, u, z2, z3, n', d', r', q', p', z4, z5⟩
  · exact absurd (hv.symm.trans z) (nI_m1 (by omega))
  · have eu : u = v := (nI_eq (by omega) (by omega)).mp (z2.symm.trans hv)
    subst eu
    have e1 : VA (vx (X27 I) u) (vx (wV I 1 (takeR (vx (X27 I) u) (vx I 1))) 1) := by
      have e : ∀ j, j < 10 → vx (wV I 1 (takeR (vx (X27 I) u) (vx I 1))) 1 j = takeR (vx (X27 I) u) (vx I 1) j := fun j hj => vx_wV _ _ _ hj
      obtain ⟨a0, a1, a4, a8, a9⟩ := take_VA (S := vx (X27 I) u) (V := vx I 1)
      refine ⟨?_, ?_, ?_, ?_, ?_⟩ <;> simp only [e _ (show 0 < 10 by decide), e _ (show 1 < 10 by decide), e _ (show 2 < 10 by decide), e _ (show 3 < 10 by decide), e _ (show 4 < 10 by decide), e _ (show 5 < 10 by decide), e _ (show 6 < 10 by decide), e _ (show 7 < 10 by decide), e _ (show 8 < 10 by decide), e _ (show 9 < 10 by decide)] <;> assumption
    obtain ⟨f0, f1, -⟩ := id hR
    refine ⟨n', d', r', q', p', RR_iff.mpr ⟨z4.cg e1, z5.cg z4.b e1 hR.JA, ?_, RF_w.mpr ?_⟩⟩
    · rw [wVo22, wVo23, f0 13 (by decide) (by decide) (by decide), f1 18 (by decide) (by decide) (by decide) (by decide) (by decide) (by decide)]; exact hT
    · unfold RF
      rw [f0 1 (by decide) (by decide) (by decide), f0 18 (by decide) (by decide) (by decide), f0 19 (by decide) (by decide) (by decide)]
      exact ⟨c1, c2, c3, c4, c5, hI⟩
