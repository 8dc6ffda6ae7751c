/-! the class's world, grown -/
theorem VL.of {w w' : WG} {v : Nat} (h : VL w v) (hk : ∀ (k : Nat) (κ : Nat × Nat), (gK w)[k]? = some κ → (gK w')[k]? = some κ) (ha : ∀ j, j < 10 → gA w' (v + j) = gA w (v + j)) (hp : ∀ j, gP w' v j = gP w v j) : VL w' v := by
  obtain ⟨h0, h1, h2, h3, h4, h5, h6, h7, h8, h9, h10, h11, h12, h13, h14, h15, h16, h17, h18⟩ := h
  exact ⟨hk _ _ h0, hk _ _ h1, hk _ _ h2, hk _ _ h3, hk _ _ h4, hk _ _ h5, hk _ _ h6, hk _ _ h7, hk _ _ h8, hk _ _ h9, by rw [hp, ha 1 (by decide)]; exact h10, by rw [hp, ha 2 (by decide)]; exact h11, by rw [hp, ha 3 (by decide)]; exact h12, by rw [hp, ha 4 (by decide)]; exact h13, by rw [hp, ha 5 (by decide)]; exact h14, by rw [hp, ha 6 (by decide)]; exact h15, by rw [hp, ha 7 (by decide)]; exact h16, by rw [hp, ha 8 (by decide)]; exact h17, by rw [hp, ha 9 (by decide)]; exact h18⟩
theorem TL.of {w w' : WG} {v : Nat} (h : TL w v) (hk : ∀ (k : Nat) (κ : Nat × Nat), (gK w)[k]? = some κ → (gK w')[k]? = some κ) (ha : ∀ j, j < 10 → gA w' (v + j) = gA w (v + j)) (hp : ∀ j, gP w' v j = gP w v j) : TL w' v := by
  obtain ⟨h0, h1, h2⟩ := h
  exact ⟨hk _ _ h0, hk _ _ h1, by rw [hp, ha 1 (by decide)]; exact h2⟩
theorem XL.of {w w' : WG} (h : XL w) (hk : ∀ (k : Nat) (κ : Nat × Nat), (gK w)[k]? = some κ → (gK w')[k]? = some κ) (ha : ∀ j, j < 40 → (gK w)[j]? ≠ none → gA w' j = gA w j) (hp : ∀ k j, k ≠ 21 → k < 27 → gP w' k j = gP w k j) : XL w' := by
  obtain ⟨h0, hn, hs, h21, ht, h24, h25, h26, p0, p1, p2, p3, p9, p10, p11⟩ := h
  have nn : ∀ {j : Nat} {κ : Nat × Nat}, (gK w)[j]? = some κ → (gK w)[j]? ≠ none := fun h e => by rw [h] at e; cases e
  have aV : ∀ {v : Nat}, VL w v → v + 10 ≤ 40 → ∀ j, j < 10 → gA w' (v + j) = gA w (v + j) := fun {v} hv hv9 j hj => by
    obtain ⟨h0, h1, h2, h3, h4, h5, h6, h7, h8, h9, h10, h11, h12, h13, h14, h15, h16, h17, h18⟩ := hv
    rcases (show j = 0 ∨ j = 1 ∨ j = 2 ∨ j = 3 ∨ j = 4 ∨ j = 5 ∨ j = 6 ∨ j = 7 ∨ j = 8 ∨ j = 9 by omega) with rfl | rfl | rfl | rfl | rfl | rfl | rfl | rfl | rfl | rfl
    · exact ha _ (by omega) (nn h0)
    · exact ha _ (by omega) (nn h1)
    · exact ha _ (by omega) (nn h2)
    · exact ha _ (by omega) (nn h3)
    · exact ha _ (by omega) (nn h4)
    · exact ha _ (by omega) (nn h5)
    · exact ha _ (by omega) (nn h6)
    · exact ha _ (by omega) (nn h7)
    · exact ha _ (by omega) (nn h8)
    · exact ha _ (by omega) (nn h9)
  have a0 : ∀ {j : Nat} {κ : Nat × Nat}, j < 40 → (gK w)[j]? = some κ → gA w' j = gA w j := fun hj h => ha _ hj (nn h)
  refine ⟨hk _ _ h0, hn.of hk (aV hn (by decide)) (fun j => hp _ _ (by decide) (by decide)), hs.of hk (aV hs (by decide)) (fun j => hp _ _ (by decide) (by decide)), hk _ _ h21, ?_, hk _ _ h24, hk _ _ h25, hk _ _ h26, ?_, ?_, ?_, ?_, ?_, ?_, ?_⟩
  · obtain ⟨t0, t1, t2⟩ := ht
    exact ⟨hk _ _ t0, hk _ _ t1, by rw [hp _ _ (by decide) (by decide), a0 (by decide) t1]; exact t2⟩
  · rw [hp _ _ (by decide) (by decide), a0 (by decide) hn.1]; exact p0
  · rw [hp _ _ (by decide) (by decide), a0 (by decide) hs.1]; exact p1
  · rw [hp _ _ (by decide) (by decide), a0 (by decide) h21]; exact p2
  · rw [hp _ _ (by decide) (by decide), a0 (by decide) ht.1]; exact p3
  · rw [hp _ _ (by decide) (by decide), a0 (by decide) h24]; exact p9
  · rw [hp _ _ (by decide) (by decide), a0 (by decide) h25]; exact p10
  · rw [hp _ _ (by decide) (by decide), a0 (by decide) h26]; exact p11
