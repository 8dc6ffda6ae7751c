theorem rfX27 {I : SI} {k : Nat} : (rfX I k) 1027 = I 1027 := rS_ne I 0 _ (by decide)
theorem wV27 {I : SI} {V : VS} {u : Nat} (h : u < 1000) : (wV I u V) 1027 = I 1027 := wV_out I u V (by omega)
theorem vxX {I : SI} {u : Nat} : vx (X27 I) u = vx I (27 + u) := by
  funext j; exact vx27
theorem st_from {w : WG} {I : SI} {L : SL} {v : WG} {J : SI} {K : SL} {t : Nat} {n d r q p m : Nat} (hw : XL w) (hm : ML v) (ht : TIE w I t) (h9 : t ≤ 512) (h : RR I J K n d r q p m) (b : Int32) : ∃ x : Int32, STEP w I L v J K t mX4_from mX5_from [.int b] (.int x) := by
  by_cases hb : 0 ≤ b ∧ b ≤ 1
  · obtain ⟨i, rfl, hi⟩ := ixle (h := 1) hb.1 hb.2 (by decide)
    have hi2 : i < 2 := by omega
    have hN := ht.lt h9
    rcases ht.2.2.1 i hi2 with ⟨h1, h2⟩ | ⟨u, h1, h2, h3, h4⟩
    · refine ⟨-3, st_qx (x_fromNo hw hi2 h2) (n_fromNo hm h hi2 ?_) ?_ rfl hw ht⟩
      · rcases h.2.2.2.2.2.2.2 i hi2 with ⟨_, a2⟩ | ⟨_, u, a2, a3, -⟩
        · exact a2
        · exact absurd (a2.symm.trans h1) (nI_m1 (by omega))
      · exact rfX27 (I := I) (k := 7)
    · have hn := n_from hm h hi2 (v := u) h1 (by omega)
      rw [vxX] at hn
      exact ⟨1, st_qx (x_from hw hi2 h3 h4 (by omega)) hn (wV27 (I := I) (u := 1) (V := takeR (vx I (27 + u)) (vx I 1)) (by decide)) rfl hw ht⟩
  · exact ⟨-2, st_qx (x_fromBad hw hb) (n_fromBad hm h hb) (rfX27 (I := I) (k := 6)) rfl hw ht⟩
theorem cnt_new {I I2 : SI} {i u : Nat} (hi : i < 2) (h0 : I 1027 i = -1) (hu : u < 900) (h1 : I2 1027 = upd (I 1027) i (nI u)) : cnt I2 = cnt I + 1 := by
  unfold cnt
  rw [h1]
  have hne : ¬ nI u = -1 := nI_m1 (by omega)
  rcases (show i = 0 ∨ i = 1 by omega) with rfl | rfl
  · rw [pk_us, pk_un (show (1 : Nat) ≠ 0 by decide), if_neg hne, h0, if_pos rfl]; omega
  · rw [pk_us, pk_un (show (0 : Nat) ≠ 1 by decide), if_neg hne, h0, if_pos rfl]
theorem st_image {w : WG} {I : SI} {L : SL} {v : WG} {J : SI} {K : SL} {t : Nat} {n d r q p m : Nat} (hw : XL w) (hm : ML v) (ht : TIE w I t) (h9 : t ≤ 512) (h : RR I J K n d r q p m) (b : Int32) : ∃ x : Int32, STEP w I L v J K t mX4_image mX5_image [.int b] (.int x) := by
  by_cases hb : 0 ≤ b ∧ b ≤ 1
  · obtain ⟨i, rfl, hi⟩ := ixle (h := 1) hb.1 hb.2 (by decide)
    have hi2 : i < 2 := by omega
    have hN9 := ht.lt h9
    rcases id (ht.2.2.1 i hi2) with ⟨h1, h2⟩ | ⟨u, h1, h2, h3, h4⟩
    · obtain ⟨N, hN⟩ : ∃ N, (gK w).length = N := ⟨_, rfl⟩
      have hN27 : 27 ≤ N := by rw [← hN]; exact ht.1
      rw [hN] at hN9
      refine ⟨1, 10, 159, _, ⟨by decide, by decide⟩, x_imageNew hw hi2 h2 hN hN27, fun r1 w' I' L' hex hq => ?_⟩
      obtain ⟨g1, g2, g3, g4, g5, g6, g7, g8, g9, g10⟩ := hq
      obtain ⟨I2, hI2⟩ : ∃ I2 : SI, I2 = rS I' 1027 (upd (I 1027) i (nI (N - 27))) := ⟨_, rfl⟩
      have e1 : ∀ o, o < 1000 → I2 o = I' o := fun o ho => by rw [hI2, rS_ne _ _ _ (by omega)]
      have e2 : I2 1027 = upd (I 1027) i (nI (N - 27)) := by rw [hI2, rS_eq]
      have e3 : ∀ o, o < N → I2 o = I o := fun o ho => by rw [e1 o (by omega)]; exact (g9 o ho).1
      refine ⟨g1, g6 0 (by omega), I2, ?_, g2, (n_image (v := N - 27) hm h hi2 (fun o ho => e3 o (by omega)) ?_ (by omega) ?_ ?_).mono (fun r2 J' K' hh => ⟨hh.1, ?_, hh.2⟩)⟩
      · unfold wsO
        apply List.ext_getElem?
        intro k
        rw [List.getElem?_mapIdx, List.getElem?_mapIdx]
        cases hz : (gK w')[k]? with
        | none => rfl
        | some κ =>
          have hk := (List.getElem?_eq_some_iff.mp hz).1
          rw [g4] at hk
          show some _ = some _
          rw [e1 k (by omega)]
      · show I2 1027 i = _
        rw [e2, pk_us]
      · refine VA.tr (take_VA (V := fun _ _ => 0)) (fun j hj => ?_)
        rw [vx27, show 27 + (N - 27) + j = N + j by omega, e1 _ (by omega)]
        exact g10 j hj
      · intro j hj hji
        refine ⟨?_, fun u hu hu9 => ?_⟩
        · show I2 1027 j = I 1027 j
          rw [e2, pk_un hji]
        · refine VA.of (fun k hk => ?_)
          rw [vx27, vx27]
          refine e3 _ ?_
          rcases ht.2.2.1 j hj with ⟨z, -⟩ | ⟨u', z, z2, -⟩
          · exact absurd (hu.symm.trans z) (nI_m1 (by omega))
          · rw [hN] at z2
            have := (nI_eq (a := u) (b := u') (by omega) (by omega)).mp (hu.symm.trans z)
            omega
      · have ec := cnt_new (I2 := I2) hi2 h1 (show N - 27 < 900 by omega) e2
        refine ⟨by omega, by rw [ec]; have := ht.2.1; omega, fun j hj => ?_, fun j k u u' hj hk hjk hu hu' hu9 hu9' => ?_⟩
        · by_cases e : j = i
          · subst e
            refine Or.inr ⟨N - 27, by rw [e2, pk_us], by omega, ?_, ?_⟩
            · rw [show 27 + (N - 27) = N by omega]; exact g8
            · rw [show 27 + (N - 27) = N by omega]; exact g3
          · rw [e2, pk_un e]
            rcases ht.2.2.1 j hj with ⟨z1, z2⟩ | ⟨u, z1, z2, z3, z4⟩
            · exact Or.inl ⟨z1, by rw [g7 21 j (by omega) (fun z => e z.2)]; exact z2⟩
            · refine Or.inr ⟨u, z1, by omega, ?_, ?_⟩
              · rw [g7 21 j (by omega) (fun z => e z.2), g6 _ (by omega)]; exact z3
              · exact z4.of g5 (fun k hk => g6 _ (by omega)) (fun k => g7 _ _ (by omega) (by omega))
        · have low : ∀ a x, a < 2 → a ≠ i → I2 1027 a = nI x → x < 900 → x + 10 ≤ N - 27 := fun a x ha hai hx hx9 => by
            rw [e2, pk_un hai] at hx
            rcases ht.2.2.1 a ha with ⟨z, -⟩ | ⟨x', z, z2, -⟩
            · exact absurd (hx.symm.trans z) (nI_m1 (by omega))
            · have := (nI_eq (a := x) (b := x') (by omega) (by omega)).mp (hx.symm.trans z)
              omega
          have self : ∀ x, I2 1027 i = nI x → x < 900 → x = N - 27 := fun x hx hx9 => by
            rw [e2, pk_us] at hx
            exact ((nI_eq (by omega) (by omega)).mp hx).symm
          by_cases ej : j = i
          · subst ej
            have := self u hu hu9
            have := low k u' hk (fun z => hjk z.symm) hu' hu9'
            omega
          · by_cases ek : k = i
            · subst ek
              have := self u' hu' hu9'
              have := low j u hj ej hu hu9
              omega
            · omega
    · exact ⟨1, st_qx (x_imageOld hw hi2 h3 h4 (by omega)) (n_imageOld hm h hi2 (v := u) h1 (by omega) (fun j hj hji u' hu' hu9 => ht.2.2.2 j i u' u hj hi2 hji hu' h1 hu9 (by omega))) (wV27 (I := I) (u := 27 + u) (V := takeR (vx I 1) (vx I (27 + u))) (by omega)) rfl hw ht⟩
  · exact ⟨-2, st_qx (x_imageBad hw hb) (n_imageBad hm h hb) (rfX27 (I := I) (k := 6)) rfl hw ht⟩
theorem st_read {w : WG} {I : SI} {L : SL} {v : WG} {J : SI} {K : SL} {t : Nat} {n d r q p m : Nat} (hw : XL w) (hm : ML v) (ht : TIE w I t) (h9 : t ≤ 512) (h : RR I J K n d r q p m) : ∃ x : Int32, STEP w I L v J K t mX4_read mX5_read [] (.int x) := by
  obtain ⟨N, hN⟩ : ∃ N, (gK w).length = N := ⟨_, rfl⟩
  have hN27 : 27 ≤ N := by rw [← hN]; exact ht.1
  have hN9 := ht.lt h9
  rw [hN] at hN9
  have hx := x_read (L := L) hw hN hN27 h.1.2.2.2.1.1 h.1.2.2.2.1.2
  have hn := n_read hm h
  have key : ∀ (w' : WG) (I' : SI) (L' : SL), (XL w' ∧ (gK w').length = N + 1 ∧ (∀ (k : Nat) (κ : Nat × Nat), (gK w)[k]? = some κ → (gK w')[k]? = some κ) ∧ (∀ k, k < N → gA w' k = gA w k) ∧ (∀ k j, k < N → gP w' k j = gP w k j)) → (∀ o, o < N → (o < 1 ∨ 20 < o) → I' o = I o) → ∃ I2 : SI, wsO w' I2 L' = wsO w' I' L' ∧ gA w' 0 = gA w 0 ∧ TIE w' I2 (t + 1) ∧ (∀ o, o < N → I2 o = I' o) ∧ I2 1027 = I 1027 ∧ (∀ i u, i < 2 → I 1027 i = nI u → u < 900 → ∀ j, j < 10 → I2 (27 + u + j) = I (27 + u + j)) := by
    intro w' I' L' hq hI
    obtain ⟨g2, g4, g5, g6, g7⟩ := hq
    have e1 : ∀ o, o < N + 1 → (fun o => if o < N + 1 then I' o else I o : SI) o = I' o := fun o ho => if_pos ho
    have eg : (fun o => if o < N + 1 then I' o else I o : SI) 1027 = I 1027 := if_neg (by omega)
    refine ⟨fun o => if o < N + 1 then I' o else I o, ?_, g6 0 (by omega), ?_, fun o ho => e1 o (by omega), eg, fun i u hi hu hu9 j hj => ?_⟩
    · unfold wsO
      apply List.ext_getElem?
      intro k
      rw [List.getElem?_mapIdx, List.getElem?_mapIdx]
      cases hz : (gK w')[k]? with
      | none => rfl
      | some κ =>
        have hk := (List.getElem?_eq_some_iff.mp hz).1
        rw [g4] at hk
        show some _ = some _
        rw [e1 k hk]
    · have ec : cnt (fun o => if o < N + 1 then I' o else I o) = cnt I := by unfold cnt; rw [eg]
      refine ⟨by omega, by rw [ec]; have := ht.2.1; omega, fun j hj => ?_, ?_⟩
      · rw [eg]
        rcases ht.2.2.1 j hj with ⟨z1, z2⟩ | ⟨u, z1, z2, z3, z4⟩
        · exact Or.inl ⟨z1, by rw [g7 21 j (by omega)]; exact z2⟩
        · refine Or.inr ⟨u, z1, by omega, ?_, ?_⟩
          · rw [g7 21 j (by omega), g6 _ (by omega)]; exact z3
          · exact z4.of g5 (fun k hk => g6 _ (by omega)) (fun k => g7 _ _ (by omega))
      · rw [eg]; exact ht.2.2.2
    · have hlt : 27 + u + j < N := by
        rcases ht.2.2.1 i hi with ⟨z, -⟩ | ⟨u', z, z2, -⟩
        · exact absurd (hu.symm.trans z) (nI_m1 (by omega))
        · have := (nI_eq (a := u) (b := u') (by omega) (by omega)).mp (hu.symm.trans z)
          omega
      rw [e1 _ (by omega)]
      exact hI _ hlt (by omega)
  unfold QRM at hn
  cases hρ : vilF (I 23) m (vx I 11) with
  | inl p0 =>
    rw [hρ] at hn
    refine ⟨-10 - nI p0, 1, 6, _, ⟨by decide, by decide⟩, hx, fun r1 w' I' L' hex hq => ?_⟩
    unfold QRD at hq
    rw [hρ] at hq
    obtain ⟨hq1, hq2, hq3⟩ := hq
    obtain ⟨I2, k1, k2, k3, k4, k5, k6⟩ := key w' I' L' hq1 (fun o ho h1 => hq3 o ho (by omega))
    refine ⟨hq2, k2, I2, k1, hq1.1, hn.mono (fun r2 J' K' hh => ⟨hh.1, k3, n, d, r, q, p, m, hh.2.gh2 (fun o h24 h11 => ?_) k5 k6⟩)⟩
    rw [k4 o (by omega)]; exact hq3 o (by omega) h11
  | inr z =>
    obtain ⟨it, V1, n1, d1⟩ := z
    rw [hρ] at hn
    refine ⟨nI it, 1, 6, _, ⟨by decide, by decide⟩, hx, fun r1 w' I' L' hex hq => ?_⟩
    unfold QRD at hq
    rw [hρ] at hq
    obtain ⟨hq1, hq2, hq3, hq4⟩ := hq
    obtain ⟨I2, k1, k2, k3, k4, k5, k6⟩ := key w' I' L' hq1 hq3
    refine ⟨hq2, k2, I2, k1, hq1.1, hn.mono (fun r2 J' K' hh => ⟨hh.1, k3, n1, d1, 0, 0, 0, m, hh.2.gh2 (fun o h24 h11 => ?_) (k5.trans (wV_out _ _ _ (by omega)).symm) (fun i u hi hu hu9 j hj => ?_)⟩)⟩
    · rw [k4 o (by omega)]
      by_cases e : 1 ≤ o ∧ o < 11
      · obtain ⟨j, rfl⟩ : ∃ j, o = 1 + j := ⟨o - 1, by omega⟩
        rw [wV_at _ _ _ (by omega)]; exact hq4 j (by omega)
      · rw [wV_out _ _ _ (by omega)]; exact hq3 o (by omega) (by omega)
    · rw [wV_out _ _ _ (by omega)] at hu
      rw [wV_out _ _ _ (by omega)]
      exact k6 i u hi hu hu9 j hj
