/-! a village told by a text: the parse -/
abbrev isS (c : Int32) : Prop := c = 32
abbrev isL (c : Int32) : Prop := 97 ≤ c ∧ c ≤ 122
abbrev isF (c : Int32) : Prop := 48 ≤ c ∧ c ≤ 57
def rn (P : Int32 → Prop) [DecidablePred P] (T : Nat → Int32) : Nat → Nat → Nat
  | 0, a => a
  | f + 1, a => if P (T a) then rn P T f (a + 1) else a
def rU (P : Int32 → Prop) [DecidablePred P] (T : Nat → Int32) (m a : Nat) : Nat := rn P T (m - a) a
theorem rU_stop {P : Int32 → Prop} [DecidablePred P] {T : Nat → Int32} {m a : Nat} (h : m ≤ a) : rU P T m a = a := by
  unfold rU; rw [Nat.sub_eq_zero_of_le h]; rfl
theorem rU_no {P : Int32 → Prop} [DecidablePred P] {T : Nat → Int32} {m a : Nat} (h : ¬ P (T a)) : rU P T m a = a := by
  unfold rU
  cases m - a with
  | zero => rfl
  | succ f => rw [rn, if_neg h]
theorem rU_yes {P : Int32 → Prop} [DecidablePred P] {T : Nat → Int32} {m a : Nat} (hm : a < m) (h : P (T a)) : rU P T m a = rU P T m (a + 1) := by
  unfold rU
  rw [show m - a = (m - (a + 1)) + 1 by omega, rn, if_pos h]
theorem rn_ge {P : Int32 → Prop} [DecidablePred P] {T : Nat → Int32} : ∀ f a, a ≤ rn P T f a := by
  intro f
  induction f with
  | zero => intro a; exact Nat.le_refl _
  | succ f ih =>
    intro a
    rw [rn]; split
    · exact Nat.le_trans (Nat.le_succ a) (ih (a + 1))
    · exact Nat.le_refl _
theorem rn_le {P : Int32 → Prop} [DecidablePred P] {T : Nat → Int32} : ∀ f a, rn P T f a ≤ a + f := by
  intro f
  induction f with
  | zero => intro a; exact Nat.le_refl _
  | succ f ih =>
    intro a
    rw [rn]; split
    · have := ih (a + 1); omega
    · omega
theorem rU_ge {P : Int32 → Prop} [DecidablePred P] {T : Nat → Int32} {m a : Nat} : a ≤ rU P T m a := rn_ge _ _
theorem rU_le {P : Int32 → Prop} [DecidablePred P] {T : Nat → Int32} {m a : Nat} (h : a ≤ m) : rU P T m a ≤ m := by
  have := rn_le (P := P) (T := T) (m - a) a
  unfold rU; omega
theorem rn_end {P : Int32 → Prop} [DecidablePred P] {T : Nat → Int32} : ∀ f a, rn P T f a < a + f → ¬ P (T (rn P T f a)) := by
  intro f
  induction f with
  | zero => intro a h; exact absurd h (Nat.lt_irrefl _)
  | succ f ih =>
    intro a h
    rw [rn] at h ⊢
    split
    · rename_i z
      rw [if_pos z] at h
      exact ih (a + 1) (by omega)
    · rename_i z; exact z
theorem rU_end {P : Int32 → Prop} [DecidablePred P] {T : Nat → Int32} {m a : Nat} (h : rU P T m a < m) : ¬ P (T (rU P T m a)) := by
  have := rU_ge (P := P) (T := T) (m := m) (a := a)
  exact rn_end (m - a) a (by show rU P T m a < _; omega)
theorem rn_all {P : Int32 → Prop} [DecidablePred P] {T : Nat → Int32} : ∀ f a j, a ≤ j → j < rn P T f a → P (T j) := by
  intro f
  induction f with
  | zero => intro a j h1 h2; exact absurd h2 (Nat.not_lt.mpr h1)
  | succ f ih =>
    intro a j h1 h2
    rw [rn] at h2
    split at h2
    · rename_i z
      rcases Nat.lt_or_ge a j with g | g
      · exact ih (a + 1) j g h2
      · rw [show j = a by omega]; exact z
    · omega
theorem rU_all {P : Int32 → Prop} [DecidablePred P] {T : Nat → Int32} {m a j : Nat} (h1 : a ≤ j) (h2 : j < rU P T m a) : P (T j) := rn_all _ _ j h1 h2
/-- a run found by its steps -/
theorem rU_at {P : Int32 → Prop} [DecidablePred P] {T : Nat → Int32} {m a e : Nat} (h1 : a ≤ e) (h2 : ∀ j, a ≤ j → j < e → j < m ∧ P (T j)) (h3 : m ≤ e ∨ ¬ P (T e)) : rU P T m a = e := by
  induction hk : e - a generalizing a with
  | zero =>
    have : a = e := by omega
    subst this
    rcases h3 with h | h
    · exact rU_stop h
    · exact rU_no h
  | succ k ih =>
    have := h2 a (Nat.le_refl _) (by omega)
    rw [rU_yes this.1 this.2]
    exact ih (by omega) (fun j hj1 hj2 => h2 j (by omega) hj2) (by omega)
abbrev sk (T : Nat → Int32) (m a : Nat) : Nat := rU isS T m a
abbrev wl (T : Nat → Int32) (m a : Nat) : Nat := rU isL T m a
abbrev fg (T : Nat → Int32) (m a : Nat) : Nat := rU isF T m a
/-- the value of the figures from s to e: two count -/
def nv (T : Nat → Int32) (s e : Nat) : Int32 := if e ≤ s + 1 then T s - 48 else 10 * (T s - 48) + T (s + 1) - 48
abbrev nOK (T : Nat → Int32) (m s : Nat) (lo hi : Int32) : Prop := s < m ∧ isF (T s) ∧ fg T m s - s ≤ 2 ∧ lo ≤ nv T s (fg T m s) ∧ nv T s (fg T m s) ≤ hi
abbrev wOK (T : Nat → Int32) (m a k : Nat) : Prop := wl T m a = a + sL k ∧ ∀ j, j < sL k → T (a + j) = sB k j
abbrev RT : Type := Nat ⊕ (Nat × VS × Nat × Nat)
def smF (T : Nat → Int32) (m b : Nat) (V : VS) (n d : Nat) : RT := if sk T m b < m ∧ T (sk T m b) = 59 then .inr (sk T m b + 1, V, n, d) else .inl (sk T m b)
def numF (T : Nat → Int32) (m b : Nat) (lo hi : Int32) (k : Nat → Int32 → Nat → RT) : RT := if nOK T m (sk T m b) lo hi then k (sk T m b) (nv T (sk T m b) (fg T m (sk T m b))) (fg T m (sk T m b)) else .inl (sk T m b)
def manF (T : Nat → Int32) (m a : Nat) (V : VS) (n d : Nat) : RT := if n < 4 then numF T m (a + 3) 0 9 (fun _ v1 e1 => numF T m e1 0 30 (fun _ v2 e2 => smF T m e2 (manV V n v1 v2) (n + 1) d)) else .inl a
def dogF (T : Nat → Int32) (m a : Nat) (V : VS) (n d : Nat) : RT := if d < 7 then numF T m (a + 3) 0 5 (fun _ v1 e1 => numF T m e1 1 5 (fun _ v2 e2 => numF T m e2 1 9 (fun _ v3 e3 => numF T m e3 0 3 (fun _ v4 e4 => smF T m e4 (dogV V d v1 v2 v3 v4) n (d + 1))))) else .inl a
def bribeF (T : Nat → Int32) (m a : Nat) (V : VS) (n d : Nat) : RT := numF T m (a + 5) 0 (nI n - 1) (fun _ v1 e1 => numF T m e1 0 (nI d - 1) (fun s2 v2 e2 => if inF (V 0 2) v2 = 0 ∧ V 6 v2.toNatClampNeg ≤ V 2 v1.toNatClampNeg then smF T m e2 (putV V v1.toNatClampNeg v2.toNatClampNeg) n d else .inl s2))
def itemF (T : Nat → Int32) (m a : Nat) (V : VS) (n d : Nat) : RT := if wOK T m a 1 then manF T m a V n d else if wOK T m a 2 then dogF T m a V n d else if wOK T m a 3 then bribeF T m a V n d else .inl a
def lpF (T : Nat → Int32) (m : Nat) : Nat → Nat → VS → Nat → Nat → Nat → RT
  | 0, _, V, n, d, it => .inr (it, V, n, d)
  | f + 1, a, V, n, d, it => if m ≤ sk T m a then .inr (it, V, n, d) else match itemF T m (sk T m a) V n d with
    | .inl p => .inl p
    | .inr (q, V', n', d') => lpF T m f q V' n' d' (it + 1)
def vilF (T : Nat → Int32) (m : Nat) (V : VS) : RT := if wOK T m (sk T m 0) 0 then (if sk T m (sk T m 0 + 7) < m ∧ T (sk T m (sk T m 0 + 7)) = 59 then lpF T m m (sk T m (sk T m 0 + 7) + 1) (emV V) 0 0 1 else .inl (sk T m (sk T m 0 + 7))) else .inl (sk T m 0)
/-- what holds of a village that is told -/
def VI (V : VS) (n d : Nat) : Prop := (V 0 0 = nI n ∧ n ≤ 4) ∧ (V 0 1 = nI d ∧ d ≤ 7) ∧ (V 0 3 = 0 ∧ V 0 4 = 0 ∧ V 0 5 = 0) ∧ (∃ s, V 0 2 = nI s ∧ s < 128) ∧ (∀ c, c < n → (∃ a, V 2 c = nI a ∧ a ≤ 30) ∧ V 3 c = 0) ∧ ∀ k, k < d → (∃ a, V 4 k = nI a ∧ a ≤ 5) ∧ (∃ a, V 5 k = nI a ∧ a ≤ 5) ∧ (∃ a, V 6 k = nI a ∧ a ≤ 9) ∧ (∃ a, V 7 k = nI a ∧ a ≤ 3)
theorem ixle {x : Int32} {h : Nat} (h0 : 0 ≤ x) (h1 : x ≤ nI h) (hh : h < 1000) : ∃ a, x = nI a ∧ a ≤ h := by
  obtain ⟨j, hj, rfl⟩ := ix (c := x) (n := h + 1) ⟨h0, Int32.lt_of_le_of_lt h1 ((nI_ltI (by omega) (by omega)).mpr (by omega))⟩ (by omega)
  exact ⟨j, rfl, by omega⟩
theorem nI_m1s {n : Nat} (h : n < 1000) : nI (n + 1) - 1 = nI n := by rw [← nI_1, Int32.add_sub_cancel]
theorem num_lt {x : Int32} {n : Nat} (h0 : 0 ≤ x) (h1 : x ≤ nI n - 1) (hn : n < 1000) : ∃ a, x = nI a ∧ a < n := by
  cases n with
  | zero => exact absurd (Int32.le_trans h0 h1) (by decide)
  | succ n =>
    rw [nI_m1s (by omega)] at h1
    obtain ⟨a, e, h⟩ := ixle h0 h1 (by omega)
    exact ⟨a, e, by omega⟩
theorem VI.em (V : VS) : VI (emV V) 0 0 := ⟨⟨rfl, by decide⟩, ⟨rfl, by decide⟩, ⟨rfl, rfl, rfl⟩, ⟨0, rfl, by decide⟩, fun c h => absurd h (Nat.not_lt_zero c), fun c h => absurd h (Nat.not_lt_zero c)⟩
theorem VI.man {V : VS} {n d : Nat} (h : VI V n d) (hn : n < 4) {b x : Int32} (hx0 : 0 ≤ x) (hx : x ≤ 30) : VI (manV V n b x) (n + 1) d := by
  obtain ⟨⟨h1, h2⟩, ⟨h3, h4⟩, ⟨h5, h6, h7⟩, h8, h9, h10⟩ := h
  refine ⟨⟨?_, by omega⟩, ⟨h3, h4⟩, ⟨h5, h6, rfl⟩, h8, fun c hc => ?_, h10⟩
  · show nI n + 1 = nI (n + 1); rw [nI_1]
  · by_cases e : c = n
    · subst e
      refine ⟨?_, ?_⟩
      · show ∃ a, upd (V 2) c x c = nI a ∧ a ≤ 30
        rw [pk_us]; exact ixle hx0 hx (by decide)
      · show upd (V 3) c 0 c = 0
        rw [pk_us]
    · have := h9 c (by omega)
      refine ⟨?_, ?_⟩
      · show ∃ a, upd (V 2) n x c = nI a ∧ a ≤ 30
        rw [pk_un e]; exact this.1
      · show upd (V 3) n 0 c = 0
        rw [pk_un e]; exact this.2
theorem VI.dog {V : VS} {n d : Nat} (h : VI V n d) (hd : d < 7) {v1 v2 v3 v4 : Int32} (a1 : 0 ≤ v1) (b1 : v1 ≤ 5) (a2 : 1 ≤ v2) (b2 : v2 ≤ 5) (a3 : 1 ≤ v3) (b3 : v3 ≤ 9) (a4 : 0 ≤ v4) (b4 : v4 ≤ 3) : VI (dogV V d v1 v2 v3 v4) n (d + 1) := by
  obtain ⟨⟨h1, h2⟩, ⟨h3, h4⟩, ⟨h5, h6, h7⟩, h8, h9, h10⟩ := h
  refine ⟨⟨h1, h2⟩, ⟨?_, by omega⟩, ⟨h5, h6, rfl⟩, h8, h9, fun k hk => ?_⟩
  · show nI d + 1 = nI (d + 1); rw [nI_1]
  · show (∃ a, upd (V 4) d v1 k = nI a ∧ a ≤ 5) ∧ (∃ a, upd (V 5) d v2 k = nI a ∧ a ≤ 5) ∧ (∃ a, upd (V 6) d v3 k = nI a ∧ a ≤ 9) ∧ (∃ a, upd (V 7) d v4 k = nI a ∧ a ≤ 3)
    by_cases e : k = d
    · subst e
      simp only [pk_us]
      exact ⟨ixle a1 b1 (by decide), ixle (Int32.le_trans (by decide) a2) b2 (by decide), ixle (Int32.le_trans (by decide) a3) b3 (by decide), ixle a4 b4 (by decide)⟩
    · simp only [pk_un e]
      exact h10 k (by omega)

theorem VI.put {V : VS} {n d c k : Nat} (h : VI V n d) (hc : c < n) (hk : k < d) (hle : V 6 k ≤ V 2 c) : VI (putV V c k) n d := by
  obtain ⟨⟨h1, h2⟩, ⟨h3, h4⟩, ⟨h5, h6, h7⟩, ⟨s, hs, hs1⟩, h9, h10⟩ := h
  obtain ⟨o1, o2⟩ := or_128 s hs1 k (by omega)
  obtain ⟨⟨a, ea, ha⟩, hz⟩ := h9 c hc
  obtain ⟨u, eu, hu⟩ := (h10 k hk).2.2.1
  rw [ea, eu] at hle
  have hua := nle hle (by omega) (by omega)
  unfold putV VI
  simp (disch := decide) only [rS_eq, rS_ne, pk_us, pk_un]
  refine ⟨⟨h1, h2⟩, ⟨h3, h4⟩, ⟨h5, h6, h7⟩, ⟨s ||| 2 ^ k, by rw [hs, o1], o2⟩, fun x hx => ?_, h10⟩
  by_cases e : x = c
  · subst e; rw [pk_us]
    exact ⟨⟨a - u, by rw [ea, eu, pk_sub hua], by omega⟩, hz⟩
  · rw [pk_un e]; exact h9 x hx
theorem fg_gt {T : Nat → Int32} {m s : Nat} (h : s < m) (hf : isF (T s)) : s < fg T m s ∧ fg T m s ≤ m := by
  have e : fg T m s = fg T m (s + 1) := rU_yes h hf
  refine ⟨?_, rU_le (Nat.le_of_lt h)⟩
  rw [e]; exact rU_ge
theorem numF_inr {T : Nat → Int32} {m b : Nat} {lo hi : Int32} {k : Nat → Int32 → Nat → RT} {z : Nat × VS × Nat × Nat} (h : numF T m b lo hi k = .inr z) : ∃ s v e, b ≤ s ∧ s < e ∧ e ≤ m ∧ lo ≤ v ∧ v ≤ hi ∧ k s v e = .inr z := by
  unfold numF at h
  split at h
  · rename_i g
    obtain ⟨g1, g2, g3, g4, g5⟩ := g
    exact ⟨_, _, _, rU_ge, (fg_gt g1 g2).1, (fg_gt g1 g2).2, g4, g5, h⟩
  · cases h
theorem smF_inr {T : Nat → Int32} {m b n d q n' d' : Nat} {V V' : VS} (h : smF T m b V n d = .inr (q, V', n', d')) : b < q ∧ q ≤ m ∧ V' = V ∧ n' = n ∧ d' = d := by
  unfold smF at h
  split at h
  · rename_i g
    cases h
    exact ⟨Nat.lt_succ_of_le rU_ge, g.1, rfl, rfl, rfl⟩
  · cases h
theorem itemF_inr {T : Nat → Int32} {m a n d q n' d' : Nat} {V V' : VS} (hV : VI V n d) (h : itemF T m a V n d = .inr (q, V', n', d')) : VI V' n' d' ∧ a < q ∧ q ≤ m := by
  unfold itemF at h
  split at h
  · unfold manF at h
    split at h
    · rename_i hn
      obtain ⟨s1, v1, e1, p1, p2, p3, p4, p5, h⟩ := numF_inr h
      obtain ⟨s2, v2, e2, q1, q2, q3, q4, q5, h⟩ := numF_inr h
      obtain ⟨r1, r2, rfl, rfl, rfl⟩ := smF_inr h
      exact ⟨hV.man hn q4 q5, by omega, r2⟩
    · cases h
  · split at h
    · unfold dogF at h
      split at h
      · rename_i hn
        obtain ⟨s1, v1, e1, p1, p2, p3, p4, p5, h⟩ := numF_inr h
        obtain ⟨s2, v2, e2, q1, q2, q3, q4, q5, h⟩ := numF_inr h
        obtain ⟨s3, v3, e3, u1, u2, u3, u4, u5, h⟩ := numF_inr h
        obtain ⟨s4, v4, e4, w1, w2, w3, w4, w5, h⟩ := numF_inr h
        obtain ⟨r1, r2, rfl, rfl, rfl⟩ := smF_inr h
        exact ⟨hV.dog hn p4 p5 q4 q5 u4 u5 w4 w5, by omega, r2⟩
      · cases h
    · split at h
      · unfold bribeF at h
        obtain ⟨s1, v1, e1, p1, p2, p3, p4, p5, h⟩ := numF_inr h
        obtain ⟨s2, v2, e2, q1, q2, q3, q4, q5, h⟩ := numF_inr h
        split at h
        · rename_i g
          have hn4 := hV.1.2
          have hd7 := hV.2.1.2
          obtain ⟨r1, r2, rfl, rfl, rfl⟩ := smF_inr h
          obtain ⟨c, rfl, hc⟩ := num_lt p4 p5 (by omega)
          obtain ⟨k, rfl, hk⟩ := num_lt q4 q5 (by omega)
          rw [nI_clamp (by omega), nI_clamp (by omega)] at g ⊢
          exact ⟨hV.put hc hk g.2, by omega, r2⟩
        · cases h
      · cases h
