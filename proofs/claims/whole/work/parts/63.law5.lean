theorem hs_of {args : Array Value} {s : State} (hgv : (Jvm.Cond.and given_1 narrow_1).before args s = true) (w : Cond) (h : w ∈ flatC (Jvm.Cond.and given_1 narrow_1)) : w.before args s = true := flat_of_before _ hgv w h
def lix (i : Nat) : Nat := ([27, 44, 49, 54] : List Nat).getD i 0
set_option maxHeartbeats 4000000 in
set_option maxRecDepth 100000 in
theorem lw_lit {s : State} {b : Nat} (hts : ∀ w ∈ lw_tbl, w.before #[Value.ref b] s = true) (hgv : (Jvm.Cond.and given_1 narrow_1).before #[Value.ref b] s = true) (D : va_G) (cs : ClassId × ClassId × ClassId) : ∃ adK adV : Nat → Nat, SW (D, cs, [], fun _ => 0, fun _ _ => none, adK, adV) (Aa s) s s.heap := by
  have hA : ∀ a : Nat, a < s.heap.size → ¬ Aa s a := fun a h => Nat.not_le.mpr h
  obtain ⟨adK, adV, h1, h2⟩ := vk_Sof (args := #[Value.ref b]) (s := s) (N := 4) (tm := fun i => Term.string RX1 (lix i)) (len := [7, 3, 3, 5]) (byt := [[118, 105, 108, 108, 97, 103, 101], [109, 97, 110], [100, 111, 103], [98, 114, 105, 98, 101]]) (A := Aa s)
    (fun i hi => by
    rcases (show i = 0 ∨ i = 1 ∨ i = 2 ∨ i = 3 by omega) with rfl | rfl | rfl | rfl
    · decide
    · decide
    · decide
    · decide)
    (fun i hi => by
    rcases (show i = 0 ∨ i = 1 ∨ i = 2 ∨ i = 3 by omega) with rfl | rfl | rfl | rfl
    · exact hs_of hgv (.exactly (Term.string RX1 27) "java/lang/String") (by decide +kernel)
    · exact hs_of hgv (.exactly (Term.string RX1 44) "java/lang/String") (by decide +kernel)
    · exact hs_of hgv (.exactly (Term.string RX1 49) "java/lang/String") (by decide +kernel)
    · exact hs_of hgv (.exactly (Term.string RX1 54) "java/lang/String") (by decide +kernel))
    (fun i hi => by
    rcases (show i = 0 ∨ i = 1 ∨ i = 2 ∨ i = 3 by omega) with rfl | rfl | rfl | rfl
    · exact hs_of hgv (.eq (.field (Term.string RX1 27) "java/lang/String" "coder" "B") (.int 0)) (by decide +kernel)
    · exact hs_of hgv (.eq (.field (Term.string RX1 44) "java/lang/String" "coder" "B") (.int 0)) (by decide +kernel)
    · exact hs_of hgv (.eq (.field (Term.string RX1 49) "java/lang/String" "coder" "B") (.int 0)) (by decide +kernel)
    · exact hs_of hgv (.eq (.field (Term.string RX1 54) "java/lang/String" "coder" "B") (.int 0)) (by decide +kernel))
    (fun i hi => by
    rcases (show i = 0 ∨ i = 1 ∨ i = 2 ∨ i = 3 by omega) with rfl | rfl | rfl | rfl
    · exact hs_of hgv (.arrayOf (.field (Term.string RX1 27) "java/lang/String" "value" "[B") .byte) (by decide +kernel)
    · exact hs_of hgv (.arrayOf (.field (Term.string RX1 44) "java/lang/String" "value" "[B") .byte) (by decide +kernel)
    · exact hs_of hgv (.arrayOf (.field (Term.string RX1 49) "java/lang/String" "value" "[B") .byte) (by decide +kernel)
    · exact hs_of hgv (.arrayOf (.field (Term.string RX1 54) "java/lang/String" "value" "[B") .byte) (by decide +kernel))
    (fun i hi => by
    rcases (show i = 0 ∨ i = 1 ∨ i = 2 ∨ i = 3 by omega) with rfl | rfl | rfl | rfl
    · exact hs_of hgv (.eq (.length (.field (Term.string RX1 27) "java/lang/String" "value" "[B")) (.int 7)) (by decide +kernel)
    · exact hs_of hgv (.eq (.length (.field (Term.string RX1 44) "java/lang/String" "value" "[B")) (.int 3)) (by decide +kernel)
    · exact hs_of hgv (.eq (.length (.field (Term.string RX1 49) "java/lang/String" "value" "[B")) (.int 3)) (by decide +kernel)
    · exact hs_of hgv (.eq (.length (.field (Term.string RX1 54) "java/lang/String" "value" "[B")) (.int 5)) (by decide +kernel))
    (fun i hi j hj => by
    rcases (show i = 0 ∨ i = 1 ∨ i = 2 ∨ i = 3 by omega) with rfl | rfl | rfl | rfl
    · skip
      rcases (show j = 0 ∨ j = 1 ∨ j = 2 ∨ j = 3 ∨ j = 4 ∨ j = 5 ∨ j = 6 by have : j < 7 := hj; omega) with rfl | rfl | rfl | rfl | rfl | rfl | rfl
      · exact hs_of hgv (.eq (.elem (.field (Term.string RX1 27) "java/lang/String" "value" "[B") (.int 0)) (.int 118)) (by decide +kernel)
      · exact hs_of hgv (.eq (.elem (.field (Term.string RX1 27) "java/lang/String" "value" "[B") (.int 1)) (.int 105)) (by decide +kernel)
      · exact hs_of hgv (.eq (.elem (.field (Term.string RX1 27) "java/lang/String" "value" "[B") (.int 2)) (.int 108)) (by decide +kernel)
      · exact hs_of hgv (.eq (.elem (.field (Term.string RX1 27) "java/lang/String" "value" "[B") (.int 3)) (.int 108)) (by decide +kernel)
      · exact hs_of hgv (.eq (.elem (.field (Term.string RX1 27) "java/lang/String" "value" "[B") (.int 4)) (.int 97)) (by decide +kernel)
      · exact hs_of hgv (.eq (.elem (.field (Term.string RX1 27) "java/lang/String" "value" "[B") (.int 5)) (.int 103)) (by decide +kernel)
      · exact hs_of hgv (.eq (.elem (.field (Term.string RX1 27) "java/lang/String" "value" "[B") (.int 6)) (.int 101)) (by decide +kernel)
    · skip
      rcases (show j = 0 ∨ j = 1 ∨ j = 2 by have : j < 3 := hj; omega) with rfl | rfl | rfl
      · exact hs_of hgv (.eq (.elem (.field (Term.string RX1 44) "java/lang/String" "value" "[B") (.int 0)) (.int 109)) (by decide +kernel)
      · exact hs_of hgv (.eq (.elem (.field (Term.string RX1 44) "java/lang/String" "value" "[B") (.int 1)) (.int 97)) (by decide +kernel)
      · exact hs_of hgv (.eq (.elem (.field (Term.string RX1 44) "java/lang/String" "value" "[B") (.int 2)) (.int 110)) (by decide +kernel)
    · skip
      rcases (show j = 0 ∨ j = 1 ∨ j = 2 by have : j < 3 := hj; omega) with rfl | rfl | rfl
      · exact hs_of hgv (.eq (.elem (.field (Term.string RX1 49) "java/lang/String" "value" "[B") (.int 0)) (.int 100)) (by decide +kernel)
      · exact hs_of hgv (.eq (.elem (.field (Term.string RX1 49) "java/lang/String" "value" "[B") (.int 1)) (.int 111)) (by decide +kernel)
      · exact hs_of hgv (.eq (.elem (.field (Term.string RX1 49) "java/lang/String" "value" "[B") (.int 2)) (.int 103)) (by decide +kernel)
    · skip
      rcases (show j = 0 ∨ j = 1 ∨ j = 2 ∨ j = 3 ∨ j = 4 by have : j < 5 := hj; omega) with rfl | rfl | rfl | rfl | rfl
      · exact hs_of hgv (.eq (.elem (.field (Term.string RX1 54) "java/lang/String" "value" "[B") (.int 0)) (.int 98)) (by decide +kernel)
      · exact hs_of hgv (.eq (.elem (.field (Term.string RX1 54) "java/lang/String" "value" "[B") (.int 1)) (.int 114)) (by decide +kernel)
      · exact hs_of hgv (.eq (.elem (.field (Term.string RX1 54) "java/lang/String" "value" "[B") (.int 2)) (.int 105)) (by decide +kernel)
      · exact hs_of hgv (.eq (.elem (.field (Term.string RX1 54) "java/lang/String" "value" "[B") (.int 3)) (.int 98)) (by decide +kernel)
      · exact hs_of hgv (.eq (.elem (.field (Term.string RX1 54) "java/lang/String" "value" "[B") (.int 4)) (.int 101)) (by decide +kernel))
    (fun i j hi hj hne => by
      rcases (show i = 0 ∨ i = 1 ∨ i = 2 ∨ i = 3 by omega) with rfl | rfl | rfl | rfl <;> rcases (show j = 0 ∨ j = 1 ∨ j = 2 ∨ j = 3 by omega) with rfl | rfl | rfl | rfl
      · exact absurd rfl hne
      · exact Or.inl (hs_of hgv (.not (.eq (Term.string RX1 27) (Term.string RX1 44))) (by decide +kernel))
      · exact Or.inl (hs_of hgv (.not (.eq (Term.string RX1 27) (Term.string RX1 49))) (by decide +kernel))
      · exact Or.inl (hs_of hgv (.not (.eq (Term.string RX1 27) (Term.string RX1 54))) (by decide +kernel))
      · exact Or.inr (hs_of hgv (.not (.eq (Term.string RX1 27) (Term.string RX1 44))) (by decide +kernel))
      · exact absurd rfl hne
      · exact Or.inl (hs_of hgv (.not (.eq (Term.string RX1 44) (Term.string RX1 49))) (by decide +kernel))
      · exact Or.inl (hs_of hgv (.not (.eq (Term.string RX1 44) (Term.string RX1 54))) (by decide +kernel))
      · exact Or.inr (hs_of hgv (.not (.eq (Term.string RX1 27) (Term.string RX1 49))) (by decide +kernel))
      · exact Or.inr (hs_of hgv (.not (.eq (Term.string RX1 44) (Term.string RX1 49))) (by decide +kernel))
      · exact absurd rfl hne
      · exact Or.inl (hs_of hgv (.not (.eq (Term.string RX1 49) (Term.string RX1 54))) (by decide +kernel))
      · exact Or.inr (hs_of hgv (.not (.eq (Term.string RX1 27) (Term.string RX1 54))) (by decide +kernel))
      · exact Or.inr (hs_of hgv (.not (.eq (Term.string RX1 44) (Term.string RX1 54))) (by decide +kernel))
      · exact Or.inr (hs_of hgv (.not (.eq (Term.string RX1 49) (Term.string RX1 54))) (by decide +kernel))
      · exact absurd rfl hne)
    hA
  have hb : ∀ {w : Cond}, w ∈ BG → w.before #[Value.ref b] s = true := fun h => hts _ (bg_in h)
  have t2 : ∀ (i : Nat) (w : Cond), tables_1_2[i]? = some w → w.before #[Value.ref b] s = true := fun i w h => hts w (List.mem_append_right _ (List.mem_append_right _ (List.mem_append_left _ (List.mem_of_getElem? h))))
  refine ⟨adK, adV, h1, vk_R.of (A := #[Value.ref b]) (t2 0 (.stringRef RX1 27 "village") (by decide +kernel)) (h2 0 (by decide)), vk_R.of (A := #[Value.ref b]) (t2 61 (.stringRef RX1 44 "man") (by decide +kernel)) (h2 1 (by decide)), vk_R.of (A := #[Value.ref b]) (t2 71 (.stringRef RX1 49 "dog") (by decide +kernel)) (h2 2 (by decide)), vk_R.of (A := #[Value.ref b]) (t2 77 (.stringRef RX1 54 "bribe") (by decide +kernel)) (h2 3 (by decide)), ?_, ?_⟩
  · exact va_Zof (t2 14 (.laysStatic "java/lang/String" "COMPACT_STRINGS" "Z") (by decide +kernel)) (hb b_in_J0) (va_eqi (hs_of hgv (.eq (.static "java/lang/String" "COMPACT_STRINGS" "Z") (.int 1)) (by decide +kernel))) hA
  · exact va_Zqof (t2 30 (.laysStatic "jdk/internal/util/Preconditions" "SIOOBE_FORMATTER" "Ljava/util/function/BiFunction;") (by decide +kernel)) (hb b_in_J3) (hs_of hgv (.isRef (.static "jdk/internal/util/Preconditions" "SIOOBE_FORMATTER" "Ljava/util/function/BiFunction;")) (by decide +kernel)) hA
/-- the classes and the arrays' classes, found -/
theorem lw_K {s : State} {b : Nat} (hts : ∀ w ∈ lw_tbl, w.before #[Value.ref b] s = true) : ∃ (D : va_G) (bA iA rA : ClassId), va_K D vwCl [(bA, .byte), (iA, .int), (rA, .object RX3)] s ∧ va_AO RX3 s := by
  have hb : ∀ w ∈ BG, w.before #[Value.ref b] s = true := fun w h => hts _ (bg_in h)
  have hO : (Cond.arrayOver (.object RX3)).before #[Value.ref b] s = true := hts _ (List.mem_append_right _ (List.mem_append_left _ (List.mem_of_getElem? (i := 90) (by decide +kernel))))
  obtain ⟨c1, i1, k1⟩ := u_known (C := RX1) (T := TX1) (N := 6) (n := 6) hb inB1 (hb _ b_is_X1)
  obtain ⟨c2, i2, k2⟩ := u_known (C := RX2) (T := TX2) (N := 2) (n := 2) hb inB2 (hb _ b_is_X2)
  obtain ⟨c3, i3, k3⟩ := u_known (C := RX3) (T := TX3) (N := 15) (n := 15) hb inB3 (hb _ b_is_X3)
  obtain ⟨c4, i4, k4⟩ := u_known (C := RX4) (T := TX4) (N := 12) (n := 12) hb inB4 (hb _ b_is_X4)
  obtain ⟨c5, i5, k5⟩ := u_known (C := RX5) (T := TX5) (N := 34) (n := 34) hb inB5 (hb _ b_is_X5)
  obtain ⟨bA, kb, cb, b1, b2, b3⟩ := Cond.arrayClass_spec (hb _ b_ac_byte)
  obtain ⟨iA, ki, ci, a1, a2, a3⟩ := Cond.arrayClass_spec (hb _ b_ac_int)
  obtain ⟨cr, rA, kr, r1, r2, r3, r4, r5⟩ := Cond.arrayOver_spec hO
  refine ⟨(fun k => if k = 0 then c1 else if k = 1 then c2 else if k = 2 then c3 else if k = 3 then c4 else c5, fun k => if k = 0 then i1 else if k = 1 then i2 else if k = 2 then i3 else if k = 3 then i4 else i5), bA, iA, rA, ⟨?_, ?_⟩, va_AO.of hO⟩
  · intro k q hq
    match k, hq with
    | 0, hq => cases hq; exact k1
    | 1, hq => cases hq; exact k2
    | 2, hq => cases hq; exact k3
    | 3, hq => cases hq; exact k4
    | 4, hq => cases hq; exact k5
    | k + 5, hq => simp [vwCl] at hq
  · intro k q hq
    match k, hq with
    | 0, hq => cases hq; exact ⟨fun n z => ⟨(fun k h => by cases h), kb, b2, cb, b3⟩, b1⟩
    | 1, hq => cases hq; exact ⟨fun n z => ⟨(fun k h => by cases h), ki, a2, ci, a3⟩, a1⟩
    | 2, hq => cases hq; exact ⟨fun n z => ⟨(fun k h => by cases h), kr, r3, cr, r4⟩, kr, cr, r3, r4, r1, r5⟩
    | k + 3, hq => simp at hq
