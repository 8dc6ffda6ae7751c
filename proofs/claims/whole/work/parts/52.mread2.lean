/-- the model's state while it reads: row 0, and the rows of what is read -/
def T3 (J : SI) (A B C : Nat → Int32) : SI := rS (rS (rS J 0 A) 14 B) 15 C
theorem T3_0 {J : SI} {A B C : Nat → Int32} : T3 J A B C 0 = A := by unfold T3; rw [rS_ne _ _ _ (by decide), rS_ne _ _ _ (by decide), rS_eq]
theorem T3_14 {J : SI} {A B C : Nat → Int32} : T3 J A B C 14 = B := by unfold T3; rw [rS_ne _ _ _ (by decide), rS_eq]
theorem T3_15 {J : SI} {A B C : Nat → Int32} : T3 J A B C 15 = C := by unfold T3; rw [rS_eq]
theorem T3_o {J : SI} {A B C : Nat → Int32} {o : Nat} (h0 : o ≠ 0) (h1 : o ≠ 14) (h2 : o ≠ 15) : T3 J A B C o = J o := by unfold T3; rw [rS_ne _ _ _ h2, rS_ne _ _ _ h1, rS_ne _ _ _ h0]
theorem T3_s0 {J : SI} {A B C A' : Nat → Int32} : rS (T3 J A B C) 0 A' = T3 J A' B C := by
  funext o
  by_cases h0 : o = 0
  · subst h0; rw [rS_eq, T3_0]
  · rw [rS_ne _ _ _ h0]; unfold T3; unfold rS; simp [h0]
theorem T3_s14 {J : SI} {A B C B' : Nat → Int32} : rS (T3 J A B C) 14 B' = T3 J A B' C := by
  funext o
  by_cases h0 : o = 14
  · subst h0; rw [rS_eq, T3_14]
  · rw [rS_ne _ _ _ h0]; unfold T3; unfold rS; simp [h0]
theorem T3_s15 {J : SI} {A B C C' : Nat → Int32} : rS (T3 J A B C) 15 C' = T3 J A B C' := by
  unfold T3; rw [rS_rS]
theorem T3_id (J : SI) : T3 J (J 0) (J 14) (J 15) = J := by
  unfold T3; rw [rS_self, rS_self, rS_self]
def MVr (x y z : Int32) (B C : Nat → Int32) (V : VS) (n d : Nat) : Prop := x = nI n ∧ y = nI d ∧ z = V 0 2 ∧ (∀ c, c < n → B (2 * c) = V 1 c ∧ B (2 * c + 1) = V 2 c) ∧ ∀ k, k < d → C (4 * k) = V 4 k ∧ C (4 * k + 1) = V 5 k ∧ C (4 * k + 2) = V 6 k ∧ C (4 * k + 3) = V 7 k
def FA (A A1 : Nat → Int32) : Prop := ∀ k, k ≠ 19 → k ≠ 20 → k ≠ 21 → k ≠ 22 → k ≠ 25 → A1 k = A k
/-- what reading an item leaves in the model -/
def RM (J : SI) (A : Nat → Int32) (L : SL) (ρ : RT) : QT := fun r I1 L1 => L1 = L ∧ ∃ A1 B1 C1, I1 = T3 J A1 B1 C1 ∧ FA A A1 ∧ match ρ with
  | .inl p => r = some (.int 0) ∧ A1 19 = nI p
  | .inr (q, V1, n1, d1) => r = some (.int 1) ∧ A1 19 = nI q ∧ MVr (A1 20) (A1 21) (A1 22) B1 C1 V1 n1 d1
theorem RM.bad {J : SI} {A A1 B1 C1 : Nat → Int32} {L : SL} {p : Nat} (h : FA A A1) (hp : A1 19 = nI p) : RM J A L (.inl p) (some (.int 0)) (T3 J A1 B1 C1) L := ⟨rfl, A1, B1, C1, rfl, h, rfl, hp⟩
theorem RM.nar {J : SI} {A : Nat → Int32} {L : SL} {ρ : RT} {r : Option Value} {I1 : SI} {L1 : SL} (h : RM J A L ρ r I1 L1) : ∃ x, r = some (.int x) ∧ narrow .boolean (.int x) = .int x := by
  obtain ⟨-, A1, B1, C1, -, -, h⟩ := h
  rcases ρ with p | ⟨q, V1, n1, d1⟩
  · exact ⟨0, h.1, rfl⟩
  · exact ⟨1, h.1, rfl⟩
theorem RM.fa {J : SI} {A A0 : Nat → Int32} {L : SL} {ρ : RT} {r : Option Value} {I1 : SI} {L1 : SL} (h : RM J A L ρ r I1 L1) (h0 : FA A0 A) : RM J A0 L ρ r I1 L1 := by
  obtain ⟨e, A1, B1, C1, e1, f, h⟩ := h
  exact ⟨e, A1, B1, C1, e1, fun k a b c d e => (f k a b c d e).trans (h0 k a b c d e), h⟩
theorem sk_sk {T : Nat → Int32} {m a : Nat} : sk T m (sk T m a) = sk T m a := by
  rcases Nat.lt_or_ge (sk T m a) m with h | h
  · exact rU_no (rU_end h)
  · exact rU_stop h
/-- the three that read, over this state -/
def N3 (J : SI) (A B C : Nat → Int32) (L : SL) (T : Nat → Int32) (m a : Nat) (lo hi : Int32) : QT := fun r I1 L1 => r = some (.int (b01 (nOK T m (sk T m a) lo hi))) ∧ L1 = L ∧ ∃ A1, I1 = T3 J A1 B C ∧ (∀ k, k ≠ 19 → k ≠ 25 → A1 k = A k) ∧ (¬ nOK T m (sk T m a) lo hi → A1 19 = nI (sk T m a)) ∧ (nOK T m (sk T m a) lo hi → A1 19 = nI (fg T m (sk T m a)) ∧ A1 25 = nv T (sk T m a) (fg T m (sk T m a)))
def E3 (J : SI) (A B C : Nat → Int32) (L : SL) (T : Nat → Int32) (m a : Nat) : QT := fun r I1 L1 => r = some (.int (b01 (SMC T m a))) ∧ L1 = L ∧ ∃ A1, I1 = T3 J A1 B C ∧ (∀ k, k ≠ 19 → A1 k = A k) ∧ (¬ SMC T m a → A1 19 = nI (sk T m a)) ∧ (SMC T m a → A1 19 = nI (sk T m a + 1))
theorem m_num3 {w : WG} {L : SL} (hm : ML w) {J : SI} {A B C : Nat → Int32} {T : Nat → Int32} {a m : Nat} (h19 : A 19 = nI a) (h18 : A 18 = nI m) (h150 : m ≤ 150) (ham : a ≤ m) (hT : ∀ i, i < m → J 13 i = T i) {lo hi : Int32} : Ok w mX5_number [.ref (gA w 0), .int lo, .int hi] (T3 J A B C) L (N3 J A B C L T m a lo hi) := by
  refine (m_number (I := T3 J A B C) (T := T) hm (by rw [T3_0]; exact h19) (by rw [T3_0]; exact h18) h150 ham (fun i hi => by rw [T3_o (by decide) (by decide) (by decide)]; exact hT i hi)).mono (fun r I1 L1 h => ?_)
  obtain ⟨h1, h2, A1, h3, h4, h5, h6⟩ := h
  rw [T3_0] at h4; rw [T3_s0] at h3
  exact ⟨h1, h2, A1, h3, h4, h5, h6⟩
theorem m_end3 {w : WG} {L : SL} (hm : ML w) {J : SI} {A B C : Nat → Int32} {T : Nat → Int32} {a m : Nat} (h19 : A 19 = nI a) (h18 : A 18 = nI m) (h150 : m ≤ 150) (ham : a ≤ m) (hT : ∀ i, i < m → J 13 i = T i) : Ok w mX5_ends [.ref (gA w 0)] (T3 J A B C) L (E3 J A B C L T m a) := by
  refine (m_ends (I := T3 J A B C) (T := T) hm (by rw [T3_0]; exact h19) (by rw [T3_0]; exact h18) h150 ham (fun i hi => by rw [T3_o (by decide) (by decide) (by decide)]; exact hT i hi)).mono (fun r I1 L1 h => ?_)
  obtain ⟨h1, h2, A1, h3, h4, h5, h6⟩ := h
  rw [T3_0] at h4; rw [T3_s0] at h3
  exact ⟨h1, h2, A1, h3, h4, h5, h6⟩
theorem m_sk3 {w : WG} {L : SL} (hm : ML w) {J : SI} {A B C : Nat → Int32} {T : Nat → Int32} {a m : Nat} (h19 : A 19 = nI a) (h18 : A 18 = nI m) (h150 : m ≤ 150) (ham : a ≤ m) (hT : ∀ i, i < m → J 13 i = T i) : Ok w mX5_skip [.ref (gA w 0)] (T3 J A B C) L (fun r I1 L1 => r = none ∧ I1 = T3 J (upd A 19 (nI (sk T m a))) B C ∧ L1 = L) := by
  refine (m_skip (I := T3 J A B C) (T := T) hm (by rw [T3_0]; exact h19) (by rw [T3_0]; exact h18) h150 ham (fun i hi => by rw [T3_o (by decide) (by decide) (by decide)]; exact hT i hi)).mono (fun r I1 L1 h => ?_)
  obtain ⟨h1, h2, h3⟩ := h
  rw [T3_s0, T3_0] at h2
  exact ⟨h1, h2, h3⟩
theorem m_wh3 {w : WG} {L : SL} (hm : ML w) {J : SI} {A B C : Nat → Int32} {T : Nat → Int32} {a m : Nat} (h19 : A 19 = nI a) (h18 : A 18 = nI m) (h150 : m ≤ 150) (ham : a ≤ m) (hT : ∀ i, i < m → J 13 i = T i) : Ok w mX5_wordHere [.ref (gA w 0)] (T3 J A B C) L (Pr (.int (whF T m a)) (T3 J A B C) L) :=
  m_wordHere (I := T3 J A B C) (T := T) hm (by rw [T3_0]; exact h19) (by rw [T3_0]; exact h18) h150 ham (fun i hi => by rw [T3_o (by decide) (by decide) (by decide)]; exact hT i hi)
theorem RM.sm {J : SI} {A A2 B2 C2 : Nat → Int32} {L : SL} {T : Nat → Int32} {m b n d : Nat} {V : VS} {r : Option Value} {I1 : SI} {L1 : SL} (h : E3 J A2 B2 C2 L T m b r I1 L1) (hf : FA A A2) (hV : MVr (A2 20) (A2 21) (A2 22) B2 C2 V n d) : RM J A L (smF T m b V n d) r I1 L1 := by
  obtain ⟨h1, h2, A1, h3, h4, h5, h6⟩ := h
  refine ⟨h2, A1, B2, C2, h3, fun k a b c d e => (h4 k a).trans (hf k a b c d e), ?_⟩
  by_cases c : SMC T m b
  · rw [show smF T m b V n d = .inr (sk T m b + 1, V, n, d) from if_pos c]
    exact ⟨by rw [h1, show b01 (SMC T m b) = (1 : Int32) from if_pos c], h6 c, by rw [h4 20 (by decide), h4 21 (by decide), h4 22 (by decide)]; exact hV⟩
  · rw [show smF T m b V n d = .inl (sk T m b) from if_neg c]
    exact ⟨by rw [h1, show b01 (SMC T m b) = (0 : Int32) from if_neg c], h5 c⟩
theorem g_zretM {X : CT} {w : WG} {M : MD} {Q : QT} {I : SI} {L : SL} {pc : Nat} {f : LV} {r : Option Value} (hX : Cx X w M Q) (hd : decode M.2.1 pc = .ok (.ireturn, 1)) (hr0 : M.2.2.2.1 = some .boolean) (hz : ∃ x, r = some (.int x) ∧ narrow .boolean (.int x) = .int x) (hQ : Q r I L) : G X w M I L pc f (r.toList ++ []) := g_zretQ hX hd hr0 hz hQ
theorem MVr.man {x y z : Int32} {B C : Nat → Int32} {V : VS} {n d : Nat} (h : MVr x y z B C V n d) (b v : Int32) : MVr (nI (n + 1)) y z (upd (upd B (2 * n) b) (2 * n + 1) v) C (manV V n b v) (n + 1) d := by
  obtain ⟨h1, h2, h3, h4, h5⟩ := h
  refine ⟨rfl, h2, h3, fun c hc => ?_, h5⟩
  show upd (upd B (2 * n) b) (2 * n + 1) v (2 * c) = upd (V 1) n b c ∧ upd (upd B (2 * n) b) (2 * n + 1) v (2 * c + 1) = upd (V 2) n v c
  by_cases e : c = n
  · subst e; rw [pk_un (by omega), pk_us, pk_us, pk_us, pk_us]; exact ⟨rfl, rfl⟩
  · simp (disch := omega) only [pk_un]; exact h4 c (by omega)
theorem MVr.dog {x y z : Int32} {B C : Nat → Int32} {V : VS} {n d : Nat} (h : MVr x y z B C V n d) (v1 v2 v3 v4 : Int32) : MVr x (nI (d + 1)) z B (upd (upd (upd (upd C (4 * d) v1) (4 * d + 1) v2) (4 * d + 2) v3) (4 * d + 3) v4) (dogV V d v1 v2 v3 v4) n (d + 1) := by
  obtain ⟨h1, h2, h3, h4, h5⟩ := h
  refine ⟨h1, rfl, h3, h4, fun k hk => ?_⟩
  show _ = upd (V 4) d v1 k ∧ _ = upd (V 5) d v2 k ∧ _ = upd (V 6) d v3 k ∧ _ = upd (V 7) d v4 k
  by_cases e : k = d
  · subst e; simp (disch := omega) only [pk_us, pk_un, and_self]
  · have := h5 k (by omega)
    simp (disch := omega) only [pk_un]
    exact this
theorem MVr.put {x y z : Int32} {B C : Nat → Int32} {V : VS} {n d c k : Nat} (h : MVr x y z B C V n d) (hc : c < n) (hk : k < d) : MVr x y (V 0 2 ||| ((1 : Int32) <<< (nI k &&& 31))) (upd B (2 * c + 1) (V 2 c - V 6 k)) C (putV V c k) n d := by
  obtain ⟨h1, h2, h3, h4, h5⟩ := h
  unfold putV MVr
  simp (disch := decide) only [rS_eq, rS_ne, pk_us]
  refine ⟨h1, h2, trivial, fun i hi => ?_, h5⟩
  rw [pk_un (show 2 * i ≠ 2 * c + 1 by omega)]
  refine ⟨(h4 i hi).1, ?_⟩
  by_cases e : i = c
  · subst e; rw [pk_us, pk_us]
  · rw [pk_un (by omega), pk_un e]; exact (h4 i hi).2
