theorem lw_head {L i : Nat} (hL : L ≤ 2560) (hi : i ≤ 2560) : nI L - 5 < nI i ↔ L < i + 5 := by
  rcases Nat.lt_or_ge L 5 with g | g
  · have h0 : nI L - 5 < 0 := by
      rcases (show L = 0 ∨ L = 1 ∨ L = 2 ∨ L = 3 ∨ L = 4 by omega) with rfl | rfl | rfl | rfl | rfl <;> decide
    exact ⟨fun _ => by omega, fun _ => Int32.lt_of_lt_of_le h0 (nI_pos' (by omega))⟩
  · rw [show (5 : Int32) = nI 5 from rfl, pk_sub g, nI_ltI (by omega) (by omega)]
    omega
set_option maxHeartbeats 4000000 in
set_option maxRecDepth 100000 in
theorem law_loop {T : LT} {w0 : WG} {p : Program} {l : Launch} {e : Env} {s : State} {m : MethodId} {below : List Frame} {meth : Method} {c : Code} {b Ln : Nat} {xs : Nat → Int32} (hT : T = (p, l, e, s, m, below, meth, c, b, Ln, xs)) (hC : LC T w0) (hLn : Ln ≤ 2560) : ∀ (n t kc ks : Nat) (w : WG) (I : SI) (L : SL) (v : WG) (J : SI) (K : SL), Ln ≤ 5 * (t + n) → t ≤ 512 → exW w0 w → exW w0 v → XL w → ML v → TIE w I t → (∃ n d r q p m, RR I J K n d r q p m) → kc ≤ 47 + 10 * t → ks ≤ 1300 + 159 * t → GL T kc ks w I L v J K 18 (lvO [(0, .ref b), (1, .ref (gA w 0)), (2, .ref (gA v 0)), (3, .int (nI (5 * t)))]) [] := by
  have rmc : 47 + 10 * 513 ≤ room_1.cells := Nat.le_of_ble_eq_true rfl
  have rms : 1300 + 159 * 513 ≤ room_1.slots := Nat.le_of_ble_eq_true rfl
  intro n
  induction n with
  | zero =>
    intro t kc ks w I L v J K hn ht5 he he2 hw hm ht h hkc hks
    refine f_iload_n hC dL_law_18 rfl rfl ?_
    refine f_aload_n hC dL_law_19 rfl rfl ?_
    refine f_slen hT hC dL_law_20 ?_
    refine f_iconst (x := 5) hC dL_law_21 (by decide) ?_
    refine f_isub hC dL_law_22 ?_
    refine f_icmp_gt (tgt := 1070) hC dL_law_23 (by decide) (fun _ => ?_) (fun z => absurd ((lw_head hLn (by omega)).mpr (by omega)) z)
    refine f_iconst (x := 1) hC dL_law_1070 (by decide) ?_
    exact f_end (st := []) hC dL_law_1071 ⟨by omega, by omega⟩
  | succ n ih =>
    intro t kc ks w I L v J K hn ht5 he he2 hw hm ht h hkc hks
    refine f_iload_n hC dL_law_18 rfl rfl ?_
    refine f_aload_n hC dL_law_19 rfl rfl ?_
    refine f_slen hT hC dL_law_20 ?_
    refine f_iconst (x := 5) hC dL_law_21 (by decide) ?_
    refine f_isub hC dL_law_22 ?_
    refine f_icmp_gt (tgt := 1070) hC dL_law_23 (by decide) (fun _ => ?_) (fun c23 => ?_)
    · refine f_iconst (x := 1) hC dL_law_1070 (by decide) ?_
      exact f_end (st := []) hC dL_law_1071 ⟨by omega, by omega⟩
    have hi9 : 5 * t + 5 ≤ Ln := Nat.le_of_not_lt (fun z => c23 ((lw_head hLn (by omega)).mpr z))
    have ht9 : t < 512 := by omega
    refine f_aload_n hC dL_law_26 rfl rfl ?_
    refine f_iload_n hC dL_law_27 rfl rfl ?_
    refine f_sld (i := 5 * t) hT hC dL_law_28 ⟨rfl, by omega⟩ ?_
    refine f_bipush (x := 31) hC dL_law_29 (by decide) ?_
    refine f_iand hC dL_law_31 ?_
    obtain ⟨k, hk, ek⟩ := and31 (xs (5 * t))
    rw [ek]
    obtain ⟨n0, d0, r0, q0, p0, m0, h⟩ := h
    have nx : NEXT T w0 b (gA w 0) (gA v 0) t kc ks := fun C S w1 I1 L1 v1 J1 K1 hC1 hS1 he1 he3 ha1 ha2 hw1 hm1 ht1 h1 => by
      rw [← ha1, ← ha2]
      refine f_iinc hC dL_law_1064 rfl (d := 5) (by decide) ?_
      refine f_goto (tgt := 18) hC dL_law_1067 (by decide) ?_
      exact GL.at (ih (t + 1) (kc + C) (ks + S) w1 I1 L1 v1 J1 K1 (by omega) (by omega) he1 he3 hw1 hm1 ht1 h1 (by omega) (by omega)) ⟨rfl, rfl, rfl, vI (by rw [show (5 : Int32) = nI 5 from rfl, nI_add]; rfl), trivial⟩
    rcases (show k = 0 ∨ k = 1 ∨ k = 2 ∨ k = 3 ∨ k = 4 ∨ k = 5 ∨ k = 6 ∨ k = 7 ∨ k = 8 ∨ k = 9 ∨ k = 10 ∨ k = 11 ∨ k = 12 ∨ k = 13 ∨ k = 14 ∨ k = 15 ∨ k = 16 ∨ k = 17 ∨ k = 18 ∨ k = 19 ∨ k = 20 ∨ k = 21 ∨ k = 22 ∨ k = 23 ∨ k = 24 ∨ k = 25 ∨ k = 26 ∨ k = 27 ∨ k = 28 ∨ k = 29 ∨ k = 30 ∨ k = 31 by omega) with rfl | rfl | rfl | rfl | rfl | rfl | rfl | rfl | rfl | rfl | rfl | rfl | rfl | rfl | rfl | rfl | rfl | rfl | rfl | rfl | rfl | rfl | rfl | rfl | rfl | rfl | rfl | rfl | rfl | rfl | rfl | rfl
    · exact f_tabIn (off := 144) (tgt := 176) hC dL_law_32 (by decide) (by decide) (by decide) (by decide) (case_0 hT hC he he2 rfl rfl hw hm ht ht9 h hi9 ⟨by omega, by omega⟩ nx)
    · exact f_tabIn (off := 157) (tgt := 189) hC dL_law_32 (by decide) (by decide) (by decide) (by decide) (case_1 hT hC he he2 rfl rfl hw hm ht ht9 h hi9 ⟨by omega, by omega⟩ nx)
    · exact f_tabIn (off := 190) (tgt := 222) hC dL_law_32 (by decide) (by decide) (by decide) (by decide) (case_2 hT hC he he2 rfl rfl hw hm ht ht9 h hi9 ⟨by omega, by omega⟩ nx)
    · exact f_tabIn (off := 243) (tgt := 275) hC dL_law_32 (by decide) (by decide) (by decide) (by decide) (case_3 hT hC he he2 rfl rfl hw hm ht ht9 h hi9 ⟨by omega, by omega⟩ nx)
    · exact f_tabIn (off := 266) (tgt := 298) hC dL_law_32 (by decide) (by decide) (by decide) (by decide) (case_4 hT hC he he2 rfl rfl hw hm ht ht9 h hi9 ⟨by omega, by omega⟩ nx)
    · exact f_tabIn (off := 279) (tgt := 311) hC dL_law_32 (by decide) (by decide) (by decide) (by decide) (case_5 hT hC he he2 rfl rfl hw hm ht ht9 h hi9 ⟨by omega, by omega⟩ nx)
    · exact f_tabIn (off := 292) (tgt := 324) hC dL_law_32 (by decide) (by decide) (by decide) (by decide) (case_6 hT hC he he2 rfl rfl hw hm ht ht9 h hi9 ⟨by omega, by omega⟩ nx)
    · exact f_tabIn (off := 325) (tgt := 357) hC dL_law_32 (by decide) (by decide) (by decide) (by decide) (case_7 hT hC he he2 rfl rfl hw hm ht ht9 h hi9 ⟨by omega, by omega⟩ nx)
    · exact f_tabIn (off := 348) (tgt := 380) hC dL_law_32 (by decide) (by decide) (by decide) (by decide) (case_8 hT hC he he2 rfl rfl hw hm ht ht9 h hi9 ⟨by omega, by omega⟩ nx)
    · exact f_tabIn (off := 361) (tgt := 393) hC dL_law_32 (by decide) (by decide) (by decide) (by decide) (case_9 hT hC he he2 rfl rfl hw hm ht ht9 h hi9 ⟨by omega, by omega⟩ nx)
    · exact f_tabIn (off := 394) (tgt := 426) hC dL_law_32 (by decide) (by decide) (by decide) (by decide) (case_10 hT hC he he2 rfl rfl hw hm ht ht9 h hi9 ⟨by omega, by omega⟩ nx)
    · exact f_tabIn (off := 427) (tgt := 459) hC dL_law_32 (by decide) (by decide) (by decide) (by decide) (case_11 hT hC he he2 rfl rfl hw hm ht ht9 h hi9 ⟨by omega, by omega⟩ nx)
    · exact f_tabIn (off := 460) (tgt := 492) hC dL_law_32 (by decide) (by decide) (by decide) (by decide) (case_12 hT hC he he2 rfl rfl hw hm ht ht9 h hi9 ⟨by omega, by omega⟩ nx)
    · exact f_tabIn (off := 493) (tgt := 525) hC dL_law_32 (by decide) (by decide) (by decide) (by decide) (case_13 hT hC he he2 rfl rfl hw hm ht ht9 h hi9 ⟨by omega, by omega⟩ nx)
    · exact f_tabIn (off := 526) (tgt := 558) hC dL_law_32 (by decide) (by decide) (by decide) (by decide) (case_14 hT hC he he2 rfl rfl hw hm ht ht9 h hi9 ⟨by omega, by omega⟩ nx)
    · exact f_tabIn (off := 539) (tgt := 571) hC dL_law_32 (by decide) (by decide) (by decide) (by decide) (case_15 hT hC he he2 rfl rfl hw hm ht ht9 h hi9 ⟨by omega, by omega⟩ nx)
    · exact f_tabIn (off := 572) (tgt := 604) hC dL_law_32 (by decide) (by decide) (by decide) (by decide) (case_16 hT hC he he2 rfl rfl hw hm ht ht9 h hi9 ⟨by omega, by omega⟩ nx)
    · exact f_tabIn (off := 595) (tgt := 627) hC dL_law_32 (by decide) (by decide) (by decide) (by decide) (case_17 hT hC he he2 rfl rfl hw hm ht ht9 h hi9 ⟨by omega, by omega⟩ nx)
    · exact f_tabIn (off := 628) (tgt := 660) hC dL_law_32 (by decide) (by decide) (by decide) (by decide) (case_18 hT hC he he2 rfl rfl hw hm ht ht9 h hi9 ⟨by omega, by omega⟩ nx)
    · exact f_tabIn (off := 681) (tgt := 713) hC dL_law_32 (by decide) (by decide) (by decide) (by decide) (case_19 hT hC he he2 rfl rfl hw hm ht ht9 h hi9 ⟨by omega, by omega⟩ nx)
    · exact f_tabIn (off := 734) (tgt := 766) hC dL_law_32 (by decide) (by decide) (by decide) (by decide) (case_20 hT hC he he2 rfl rfl hw hm ht ht9 h hi9 ⟨by omega, by omega⟩ nx)
    · exact f_tabIn (off := 747) (tgt := 779) hC dL_law_32 (by decide) (by decide) (by decide) (by decide) (case_21 hT hC he he2 rfl rfl hw hm ht ht9 h hi9 ⟨by omega, by omega⟩ nx)
    · exact f_tabIn (off := 770) (tgt := 802) hC dL_law_32 (by decide) (by decide) (by decide) (by decide) (case_22 hT hC he he2 rfl rfl hw hm ht ht9 h hi9 ⟨by omega, by omega⟩ nx)
    · exact f_tabIn (off := 793) (tgt := 825) hC dL_law_32 (by decide) (by decide) (by decide) (by decide) (case_23 hT hC he he2 rfl rfl hw hm ht ht9 h hi9 ⟨by omega, by omega⟩ nx)
    · exact f_tabIn (off := 836) (tgt := 868) hC dL_law_32 (by decide) (by decide) (by decide) (by decide) (case_24 hT hC he he2 rfl rfl hw hm ht ht9 h hi9 ⟨by omega, by omega⟩ nx)
    · exact f_tabIn (off := 869) (tgt := 901) hC dL_law_32 (by decide) (by decide) (by decide) (by decide) (case_25 hT hC he he2 rfl rfl hw hm ht ht9 h hi9 ⟨by omega, by omega⟩ nx)
    · exact f_tabIn (off := 902) (tgt := 934) hC dL_law_32 (by decide) (by decide) (by decide) (by decide) (case_26 hT hC he he2 rfl rfl hw hm ht ht9 h hi9 ⟨by omega, by omega⟩ nx)
    · exact f_tabIn (off := 926) (tgt := 958) hC dL_law_32 (by decide) (by decide) (by decide) (by decide) (case_27 hT hC he he2 rfl rfl hw hm ht ht9 h hi9 ⟨by omega, by omega⟩ nx)
    · exact f_tabIn (off := 949) (tgt := 981) hC dL_law_32 (by decide) (by decide) (by decide) (by decide) (case_28 hT hC he he2 rfl rfl hw hm ht ht9 h hi9 ⟨by omega, by omega⟩ nx)
    · exact f_tabIn (off := 972) (tgt := 1004) hC dL_law_32 (by decide) (by decide) (by decide) (by decide) (case_29 hT hC he he2 rfl rfl hw hm ht ht9 h hi9 ⟨by omega, by omega⟩ nx)
    · exact f_tabIn (off := 995) (tgt := 1027) hC dL_law_32 (by decide) (by decide) (by decide) (by decide) (case_30 hT hC he he2 rfl rfl hw hm ht ht9 h hi9 ⟨by omega, by omega⟩ nx)
    · exact f_tabIn (off := 1018) (tgt := 1050) hC dL_law_32 (by decide) (by decide) (by decide) (by decide) (case_31 hT hC he he2 rfl rfl hw hm ht ht9 h hi9 ⟨by omega, by omega⟩ nx)
theorem f_new4 {T : LT} {kc ks : Nat} {w : WG} {I : SI} {L : SL} {v : WG} {J : SI} {K : SL} {pc : Nat} {f : LV} {st : List Value} {idx : Nat} (hC : LC T w) (he : exW w v) (hd : decode cL_law pc = .ok (.new idx, 3)) (hw : Cond.classLink RL idx RX4 ∈ BG) (hr9 : kc + 1 ≤ room_1.cells ∧ ks + 12 ≤ room_1.slots) (kk : ∀ q, GL T (kc + 1) (ks + 12) (wN w (3, 0) q) (nI0 w I) (nL0 w L) v J K (pc + 3) f (.ref q :: st)) : GL T kc ks w I L v J K pc f st := by
  obtain ⟨p, l, e, s, m, below, meth, c, b, Ln, xs⟩ := T
  obtain ⟨⟨hx, hb, hr, hml, ho, hts, hX, hbl, hlk, hgv⟩, hLn, hK, hSW, hAO⟩ := hC
  intro H locs ls hP hP2 hD hD2 hdj hS hl
  have hts' : ∀ q ∈ BG, q.before #[Value.ref b] s = true := fun q hq => hts q (bg_in hq)
  rw [he.1] at hP2
  refine va_new (D := w.1) (cl := vwCl) (tys := gT w) (ci := 3) (C := RX4) (T := TX4) (N := 12) (fs := (ft 3).mapIdx (fun k t => fv t 0 0 none)) (ws := wsO v J K ++ wsO w I L) (A := Aa s) hx hb hts' inB4 tyX4 tyX4_ok ho (hts' _ hw) (hts' _ b_is_X4) (hts' _ b_in_X4) hK (hP2.app hP) (hD2.app hD (fun i j p q h1 h2 e => hdj j i q p h2 h1 e.symm)) hS (fun _ h => h) rfl (fun j hj => by rcases (show j = 0 ∨ j = 1 ∨ j = 2 ∨ j = 3 ∨ j = 4 ∨ j = 5 ∨ j = 6 ∨ j = 7 ∨ j = 8 ∨ j = 9 ∨ j = 10 ∨ j = 11 by omega) with rfl | rfl | rfl | rfl | rfl | rfl | rfl | rfl | rfl | rfl | rfl | rfl <;> rfl) hr9.1 hr9.2 hd (fun q H1 hP1 hD1 hS1 => ?_)
  rw [List.append_assoc] at hP1 hD1
  have hle : (wsO v J K).length = (wsO v J K).length := rfl
  have eL : ∀ (i : Nat) (x : Nat × va_E), (wsO v J K)[i]? = some x → (wsO v J K ++ (wsO w I L ++ [(q, .inr (3, (ft 3).mapIdx (fun k t => fv t 0 0 none)))]))[i]? = some x := fun i x h => by rw [List.getElem?_append_left (List.getElem?_eq_some_iff.mp h).1]; exact h
  have eR : ∀ (i : Nat) (x : Nat × va_E), (wsO w I L ++ [(q, .inr (3, (ft 3).mapIdx (fun k t => fv t 0 0 none)))])[i]? = some x → (wsO v J K ++ (wsO w I L ++ [(q, .inr (3, (ft 3).mapIdx (fun k t => fv t 0 0 none)))]))[(wsO v J K).length + i]? = some x := fun i x h => by rw [List.getElem?_append_right (Nat.le_add_right _ _), Nat.add_sub_cancel_left]; exact h
  have eW : wsO (wN w (3, 0) q) (nI0 w I) (nL0 w L) = wsO w I L ++ [(q, .inr (3, (ft 3).mapIdx (fun k t => fv t 0 0 none)))] := by rw [wsO_wN]; rfl
  refine kk q H1 locs ls ?_ (by rw [he.1]; exact fun i x h => hP1 i x (eL i x h)) ?_ hD2 ?_ hS1 hl
  · rw [eW]; exact fun i x h => hP1 _ x (eR i x h)
  · rw [eW]; exact ⟨fun i j x y h1 h2 h3 => by have := hD1.1 _ _ x y (eR i x h1) (eR j y h2) h3; omega, fun i x h => hD1.2 _ x (eR i x h)⟩
  · rw [eW]
    intro i j x y h1 h2 h3
    have := hD1.1 _ _ x y (eR i x h1) (eL j y h2) h3
    have := (List.getElem?_eq_some_iff.mp h2).1
    omega
theorem f_new5 {T : LT} {kc ks : Nat} {w : WG} {I : SI} {L : SL} {v : WG} {J : SI} {K : SL} {pc : Nat} {f : LV} {st : List Value} {idx : Nat} (hC : LC T w) (he : exW w v) (hd : decode cL_law pc = .ok (.new idx, 3)) (hw : Cond.classLink RL idx RX5 ∈ BG) (hr9 : kc + 1 ≤ room_1.cells ∧ ks + 34 ≤ room_1.slots) (kk : ∀ q, GL T (kc + 1) (ks + 34) (wN w (4, 0) q) (nI0 w I) (nL0 w L) v J K (pc + 3) f (.ref q :: st)) : GL T kc ks w I L v J K pc f st := by
  obtain ⟨p, l, e, s, m, below, meth, c, b, Ln, xs⟩ := T
  obtain ⟨⟨hx, hb, hr, hml, ho, hts, hX, hbl, hlk, hgv⟩, hLn, hK, hSW, hAO⟩ := hC
  intro H locs ls hP hP2 hD hD2 hdj hS hl
  have hts' : ∀ q ∈ BG, q.before #[Value.ref b] s = true := fun q hq => hts q (bg_in hq)
  rw [he.1] at hP2
  refine va_new (D := w.1) (cl := vwCl) (tys := gT w) (ci := 4) (C := RX5) (T := TX5) (N := 34) (fs := (ft 4).mapIdx (fun k t => fv t 0 0 none)) (ws := wsO v J K ++ wsO w I L) (A := Aa s) hx hb hts' inB5 tyX5 tyX5_ok ho (hts' _ hw) (hts' _ b_is_X5) (hts' _ b_in_X5) hK (hP2.app hP) (hD2.app hD (fun i j p q h1 h2 e => hdj j i q p h2 h1 e.symm)) hS (fun _ h => h) rfl (fun j hj => by rcases (show j = 0 ∨ j = 1 ∨ j = 2 ∨ j = 3 ∨ j = 4 ∨ j = 5 ∨ j = 6 ∨ j = 7 ∨ j = 8 ∨ j = 9 ∨ j = 10 ∨ j = 11 ∨ j = 12 ∨ j = 13 ∨ j = 14 ∨ j = 15 ∨ j = 16 ∨ j = 17 ∨ j = 18 ∨ j = 19 ∨ j = 20 ∨ j = 21 ∨ j = 22 ∨ j = 23 ∨ j = 24 ∨ j = 25 ∨ j = 26 ∨ j = 27 ∨ j = 28 ∨ j = 29 ∨ j = 30 ∨ j = 31 ∨ j = 32 ∨ j = 33 by omega) with rfl | rfl | rfl | rfl | rfl | rfl | rfl | rfl | rfl | rfl | rfl | rfl | rfl | rfl | rfl | rfl | rfl | rfl | rfl | rfl | rfl | rfl | rfl | rfl | rfl | rfl | rfl | rfl | rfl | rfl | rfl | rfl | rfl | rfl <;> rfl) hr9.1 hr9.2 hd (fun q H1 hP1 hD1 hS1 => ?_)
  rw [List.append_assoc] at hP1 hD1
  have hle : (wsO v J K).length = (wsO v J K).length := rfl
  have eL : ∀ (i : Nat) (x : Nat × va_E), (wsO v J K)[i]? = some x → (wsO v J K ++ (wsO w I L ++ [(q, .inr (4, (ft 4).mapIdx (fun k t => fv t 0 0 none)))]))[i]? = some x := fun i x h => by rw [List.getElem?_append_left (List.getElem?_eq_some_iff.mp h).1]; exact h
  have eR : ∀ (i : Nat) (x : Nat × va_E), (wsO w I L ++ [(q, .inr (4, (ft 4).mapIdx (fun k t => fv t 0 0 none)))])[i]? = some x → (wsO v J K ++ (wsO w I L ++ [(q, .inr (4, (ft 4).mapIdx (fun k t => fv t 0 0 none)))]))[(wsO v J K).length + i]? = some x := fun i x h => by rw [List.getElem?_append_right (Nat.le_add_right _ _), Nat.add_sub_cancel_left]; exact h
  have eW : wsO (wN w (4, 0) q) (nI0 w I) (nL0 w L) = wsO w I L ++ [(q, .inr (4, (ft 4).mapIdx (fun k t => fv t 0 0 none)))] := by rw [wsO_wN]; rfl
  refine kk q H1 locs ls ?_ (by rw [he.1]; exact fun i x h => hP1 i x (eL i x h)) ?_ hD2 ?_ hS1 hl
  · rw [eW]; exact fun i x h => hP1 _ x (eR i x h)
  · rw [eW]; exact ⟨fun i j x y h1 h2 h3 => by have := hD1.1 _ _ x y (eR i x h1) (eR j y h2) h3; omega, fun i x h => hD1.2 _ x (eR i x h)⟩
  · rw [eW]
    intro i j x y h1 h2 h3
    have := hD1.1 _ _ x y (eR i x h1) (eL j y h2) h3
    have := (List.getElem?_eq_some_iff.mp h2).1
    omega
theorem kI_L_9 : LkI RL 9 mX4_init 0 := ⟨⟨b_ml_L_9, b_inm_yX4_init, b_in_X4, b_co_yX4_init⟩, by decide +kernel, rfl, by decide +kernel, by decide +kernel, by decide +kernel⟩
theorem kI_L_12 : LkI RL 12 mX5_init 0 := ⟨⟨b_ml_L_12, b_inm_yX5_init, b_in_X5, b_co_yX5_init⟩, by decide +kernel, rfl, by decide +kernel, by decide +kernel, by decide +kernel⟩
/-- at the start class and model agree -/
theorem RR.start {I J : SI} {K : SL} (h0 : I 0 = upd (upd (fun _ => 0) 4 0) 5 1) (hz : ZR I 27) (hg : I 1027 = fun _ => -1) (hJ : ∀ o k, o < 20 → J o k = 0) (k1 : K 0 29 = 0) (k2 : K 0 30 = 1) : RR I J K 0 0 0 0 0 0 := by
  have z : ∀ o k, 1 ≤ o → o < 27 → I o k = 0 := fun o k h1 h2 => by rw [hz o h1 h2]
  have vz : ∀ j k, j < 10 → vx I 1 j k = 0 := fun j k hj => z (1 + j) k (by omega) (by omega)
  refine RR_iff.mpr ⟨?_, ?_, ⟨⟨?_, by decide⟩, fun t ht => absurd ht (Nat.not_lt_zero t), ?_, fun t ht => absurd ht (Nat.not_lt_zero t)⟩, ?_⟩
  · exact ⟨⟨vz 0 0 (by decide), by decide, vz 0 1 (by decide), by decide, vz 0 3 (by decide), by decide⟩, ⟨vz 0 4 (by decide), by decide⟩, ⟨vz 0 5 (by decide), by decide⟩, ⟨0, vz 0 2 (by decide), by decide⟩, fun c hc => absurd hc (Nat.not_lt_zero c), fun c hc => absurd hc (Nat.not_lt_zero c), fun c hc => absurd hc (Nat.not_lt_zero c)⟩
  · exact ⟨⟨hJ 0 1 (by decide), hJ 0 2 (by decide), fun c hc => absurd hc (Nat.not_lt_zero c), fun c hc => absurd hc (Nat.not_lt_zero c)⟩, hJ 0 3 (by decide), (hJ 0 4 (by decide)).trans (vz 0 2 (by decide)).symm, hJ 0 5 (by decide), hJ 0 27 (by decide), fun c hc => absurd hc (Nat.not_lt_zero c), fun c hc => absurd hc (Nat.not_lt_zero c), fun c hc => absurd hc (Nat.not_lt_zero c)⟩
  · exact z 22 1 (by decide) (by decide)
  · exact hJ 0 18 (by decide)
  · unfold RF
    rw [h0]
    refine ⟨(hJ 1 0 (by decide)).trans rfl, (hJ 1 1 (by decide)).trans rfl, (hJ 1 2 (by decide)).trans rfl, k1.trans rfl, k2.trans rfl, fun i hi => Or.inl ⟨?_, hJ 19 i (by decide)⟩⟩
    show I 1027 i = -1
    rw [hg]
theorem TIE.start {w : WG} {I : SI} (hl : (gK w).length = 27) (hp : ∀ j, gP w 21 j = none) (hg : I 1027 = fun _ => -1) : TIE w I 0 := by
  refine ⟨by omega, by omega, fun i hi => Or.inl ⟨by rw [hg], hp i⟩, fun i j u v hi hj hij hu hv hu9 hv9 => ?_⟩
  rw [hg] at hu
  exact absurd hu.symm (nI_m1 (by omega))
set_option maxHeartbeats 4000000 in
set_option maxRecDepth 100000 in
/-- the law, from its entry -/
theorem lw_go {p : Program} {e : Env} {s : State} {m : MethodId} {below : List Frame} {meth : Method} {c : Code} (l : Launch) {b Ln : Nat} {xs : Nat → Int32} (hL : Ln ≤ 2560) (C0 : lw_At p s m meth c b Ln xs) {D : va_G} {bA iA rA : ClassId} {adK adV : Nat → Nat} (hK : va_K D vwCl [(bA, .byte), (iA, .int), (rA, .object RX3)] s) (hAO : va_AO RX3 s) (hSW : SW (D, (bA, iA, rA), [], fun _ => 0, fun _ _ => none, adK, adV) (Aa s) s s.heap) : GL (p, l, e, s, m, below, meth, c, b, Ln, xs) 0 0 (D, (bA, iA, rA), [], fun _ => 0, fun _ _ => none, adK, adV) (fun _ _ => 0) (fun _ _ => 0) (D, (bA, iA, rA), [], fun _ => 0, fun _ _ => none, adK, adV) (fun _ _ => 0) (fun _ _ => 0) 0 (lvO [(0, .ref b)]) [] := by
  have hC : LC (p, l, e, s, m, below, meth, c, b, Ln, xs) (D, (bA, iA, rA), [], fun _ => 0, fun _ _ => none, adK, adV) := ⟨C0, hL, hK, hSW, hAO⟩
  obtain ⟨T, hT⟩ : ∃ T : LT, T = (p, l, e, s, m, below, meth, c, b, Ln, xs) := ⟨_, rfl⟩
  obtain ⟨w0, hw0⟩ : ∃ w0 : WG, w0 = (D, (bA, iA, rA), [], fun _ => 0, fun _ _ => none, adK, adV) := ⟨_, rfl⟩
  rw [← hT, ← hw0] at hC ⊢
  have hl0 : (gK w0).length = 0 := by rw [hw0]; rfl
  have hn0 : gK w0 = [] := List.eq_nil_of_length_eq_zero hl0
  clear hw0 hK hSW
  refine f_new4 hC exW.rf dL_law_0 b_cl_L_7 ⟨by decide, by decide⟩ (fun q => ?_)
  refine f_dup hC dL_law_3 rfl ?_
  have hl1 : (gK (wN w0 (3, 0) q)).length = 1 := by rw [gK_wN, hn0]; rfl
  have hk1 : (gK (wN w0 (3, 0) q))[0]? = some (3, 0) := by rw [gK_wN, hn0]; rfl
  have hq1 : gA (wN w0 (3, 0) q) 0 = q := by rw [gA_wN, if_pos hl0.symm]
  have hI1 : nI0 w0 (fun _ _ => 0) 0 = fun _ => 0 := by unfold nI0; rw [hl0, rS_eq]
  have hO := ok_initX (L0 := nL0 w0 (fun _ _ => 0)) hl1 hk1 hI1
  rw [hq1] at hO
  have hE1 : exW w0 (wN w0 (3, 0) q) := wN.ex
  generalize wN w0 (3, 0) q = w1 at hl1 hk1 hq1 hO hE1 ⊢
  refine f_callI (C1 := 26) (S1 := 604) (av := []) [.ref q] (hC.ex hE1) dL_law_4 kI_L_9 ⟨by decide, by decide⟩ rfl hO ⟨by decide, by decide⟩ rfl (Nat.le_of_ble_eq_true rfl) (fun r2 w2 I2 L2 hE2 hq2 => ?_)
  obtain ⟨e2, hX, hl2, ha2, hp2, h02, hz2⟩ := hq2
  subst e2
  rw [hq1] at ha2
  have hE := hE1.tr hE2
  refine GL.ws (I2 := rS I2 1027 (fun _ => -1)) ?_ ?_
  rotate_left
  · unfold wsO
    apply List.ext_getElem?
    intro k
    rw [List.getElem?_mapIdx, List.getElem?_mapIdx]
    cases hz : (gK w2)[k]? with
    | none => rfl
    | some κ =>
      have hk := (List.getElem?_eq_some_iff.mp hz).1
      show some _ = some _
      rw [rS_ne _ _ _ (by omega)]
  have hg3 : rS I2 1027 (fun _ => -1) 1027 = fun _ => -1 := rS_eq _ _ _
  have h03 : rS I2 1027 (fun _ => -1) 0 = upd (upd (fun _ => 0) 4 0) 5 1 := by rw [rS_ne _ _ _ (by decide)]; exact h02
  have hz3 : ZR (rS I2 1027 (fun _ => -1)) 27 := fun o h1 h2 => by rw [rS_ne _ _ _ (by omega)]; exact hz2 o h1 h2
  generalize rS I2 1027 (fun _ => -1) = I3 at hg3 h03 hz3 ⊢
  refine f_astore_n hC dL_law_7 rfl (by decide) ?_
  refine GL.sw ?_
  refine f_new5 hC hE dL_law_8 b_cl_L_10 ⟨by decide, by decide⟩ (fun q2 => ?_)
  refine f_dup hC dL_law_11 rfl ?_
  have gl1 : (gK (wN w0 (4, 0) q2)).length = 1 := by rw [gK_wN, hn0]; rfl
  have gk1 : (gK (wN w0 (4, 0) q2))[0]? = some (4, 0) := by rw [gK_wN, hn0]; rfl
  have gq1 : gA (wN w0 (4, 0) q2) 0 = q2 := by rw [gA_wN, if_pos hl0.symm]
  have gI1 : nI0 w0 (fun _ _ => 0) 0 = fun _ => 0 := by unfold nI0; rw [hl0, rS_eq]
  have gL1 : nL0 w0 (fun _ _ => 0) 0 = fun _ => 0 := by unfold nL0; rw [hl0, rS_eq]
  have hO2 := ok_initM gl1 gk1 gI1 gL1
  rw [gq1] at hO2
  have gE1 : exW w0 (wN w0 (4, 0) q2) := wN.ex
  generalize wN w0 (4, 0) q2 = v1 at gl1 gk1 gq1 hO2 gE1 ⊢
  refine f_callI (C1 := 19) (S1 := 645) (av := []) [.ref q2] (hC.ex gE1) dL_law_12 kI_L_12 ⟨by decide, by decide⟩ rfl (OkA.ofM hO2) ⟨by decide, by decide⟩ rfl (Nat.le_of_ble_eq_true rfl) (fun r3 v2 J2 K2 hE3 hq3 => ?_)
  obtain ⟨e3, hM, gl2, ga2, gJ, gK1, gK2⟩ := hq3
  subst e3
  rw [gq1] at ga2
  have gE := gE1.tr hE3
  refine GL.sw ?_
  refine f_astore_n hC dL_law_15 rfl (by decide) ?_
  refine f_iconst (x := 0) hC dL_law_16 (by decide) ?_
  refine f_istore_n hC dL_law_17 rfl (by decide) ?_
  rw [← ha2, ← ga2]
  exact GL.at (law_loop hT hC hL Ln 0 _ _ w2 I3 L2 v2 J2 K2 (by omega) (by decide) hE gE hX hM (TIE.start hl2 hp2 hg3) ⟨0, 0, 0, 0, 0, 0, RR.start h03 hz3 hg3 gJ gK1 gK2⟩ (by decide) (by decide)) ⟨rfl, rfl, rfl, rfl, trivial⟩
