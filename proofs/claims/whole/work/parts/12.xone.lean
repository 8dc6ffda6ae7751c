set_option maxHeartbeats 4000000 in
set_option maxRecDepth 100000 in
theorem ok_bitCount {w : WG} {I : SI} {L : SL} (x : Int32) : Ok w mJ6_bitCount_0f7a4 [.int x] I L (Pr (.int (bcF x)) I L) := by
  refine Ok.of (by decide) (Nat.le_of_ble_eq_true rfl) (fun X hX => ?_)
  refine g_iload_n hX dJ6_bitCount_0f7a4_0 rfl rfl ?_
  refine g_iload_n hX dJ6_bitCount_0f7a4_1 rfl rfl ?_
  refine g_iconst (v := 1) hX dJ6_bitCount_0f7a4_2 (by decide) ?_
  refine g_iushr hX dJ6_bitCount_0f7a4_3 ?_
  refine g_ldcw (v := 1431655765) hX dJ6_bitCount_0f7a4_4 b_ct_J6_265 ?_
  refine g_iand hX dJ6_bitCount_0f7a4_7 ?_
  refine g_isub hX dJ6_bitCount_0f7a4_8 ?_
  refine g_istore_n hX dJ6_bitCount_0f7a4_9 rfl (by decide) ?_
  refine g_iload_n hX dJ6_bitCount_0f7a4_10 rfl rfl ?_
  refine g_ldcw (v := 858993459) hX dJ6_bitCount_0f7a4_11 b_ct_J6_266 ?_
  refine g_iand hX dJ6_bitCount_0f7a4_14 ?_
  refine g_iload_n hX dJ6_bitCount_0f7a4_15 rfl rfl ?_
  refine g_iconst (v := 2) hX dJ6_bitCount_0f7a4_16 (by decide) ?_
  refine g_iushr hX dJ6_bitCount_0f7a4_17 ?_
  refine g_ldcw (v := 858993459) hX dJ6_bitCount_0f7a4_18 b_ct_J6_266 ?_
  refine g_iand hX dJ6_bitCount_0f7a4_21 ?_
  refine g_iadd hX dJ6_bitCount_0f7a4_22 ?_
  refine g_istore_n hX dJ6_bitCount_0f7a4_23 rfl (by decide) ?_
  refine g_iload_n hX dJ6_bitCount_0f7a4_24 rfl rfl ?_
  refine g_iload_n hX dJ6_bitCount_0f7a4_25 rfl rfl ?_
  refine g_iconst (v := 4) hX dJ6_bitCount_0f7a4_26 (by decide) ?_
  refine g_iushr hX dJ6_bitCount_0f7a4_27 ?_
  refine g_iadd hX dJ6_bitCount_0f7a4_28 ?_
  refine g_ldcw (v := 252645135) hX dJ6_bitCount_0f7a4_29 b_ct_J6_267 ?_
  refine g_iand hX dJ6_bitCount_0f7a4_32 ?_
  refine g_istore_n hX dJ6_bitCount_0f7a4_33 rfl (by decide) ?_
  refine g_iload_n hX dJ6_bitCount_0f7a4_34 rfl rfl ?_
  refine g_iload_n hX dJ6_bitCount_0f7a4_35 rfl rfl ?_
  refine g_bipush (v := 8) hX dJ6_bitCount_0f7a4_36 (by decide) ?_
  refine g_iushr hX dJ6_bitCount_0f7a4_38 ?_
  refine g_iadd hX dJ6_bitCount_0f7a4_39 ?_
  refine g_istore_n hX dJ6_bitCount_0f7a4_40 rfl (by decide) ?_
  refine g_iload_n hX dJ6_bitCount_0f7a4_41 rfl rfl ?_
  refine g_iload_n hX dJ6_bitCount_0f7a4_42 rfl rfl ?_
  refine g_bipush (v := 16) hX dJ6_bitCount_0f7a4_43 (by decide) ?_
  refine g_iushr hX dJ6_bitCount_0f7a4_45 ?_
  refine g_iadd hX dJ6_bitCount_0f7a4_46 ?_
  refine g_istore_n hX dJ6_bitCount_0f7a4_47 rfl (by decide) ?_
  refine g_iload_n hX dJ6_bitCount_0f7a4_48 rfl rfl ?_
  refine g_bipush (v := 63) hX dJ6_bitCount_0f7a4_49 (by decide) ?_
  refine g_iand hX dJ6_bitCount_0f7a4_51 ?_
  exact g_iret hX dJ6_bitCount_0f7a4_52 rfl (⟨rfl, rfl, rfl⟩)
theorem b_co_max : Cond.code Lib.Math.max.name Lib.Math.max.code 2 (some .int) ∈ BG := tb3 (i := 27) (by decide +kernel) (by decide +kernel)
theorem b_st_max : Cond.static Lib.Math.max.name ∈ BG := tb3 (i := 26) (by decide +kernel) (by decide +kernel)
theorem b_ml_max : Cond.methodLink RX4 208 Lib.Math.max.name ∈ BG := tb3 (i := 25) (by decide +kernel) (by decide +kernel)
theorem g_max {X : CT} {w : WG} {M : MD} {Q : QT} {I : SI} {L : SL} {pc : Nat} {f : LV} {x y : Int32} {idx : Nat} {st : List Value} (hX : Cx X w M Q) (hd : decode M.2.1 pc = .ok (.invokestatic idx, 3)) (hw : Cond.methodLink M.1.cls idx Lib.Math.max.name ∈ BG) (hd2 : 1 ≤ M.2.2.2.2) (hst : (st.map fun v => v.category).sum ≤ 8) (kk : G X w M I L (pc + 3) f (.int (if x < y then y else x) :: st)) : G X w M I L pc f (.int y :: .int x :: st) := by
  obtain ⟨p, l, e, R, s, m, args, below, meth, c, A, cells, slots, Qf⟩ := X
  obtain ⟨hx, hb, hml, hr, hlk, ho, hts, hK, hSW, hA, hR, hc, hs, hq⟩ := hX
  intro H locs ls hP hD hS hl
  exact va_mmax hx hb (hml.trans hl.1.symm) ho (hts _ hw) (hts _ b_st_max) (hts _ b_in_J9) (hts _ b_co_max) (by have := hR.1; omega) (by have := hR.2; omega) (by subst hc; exact Nat.zero_le _) (by subst hs; exact Nat.zero_le _) hd (kk H locs ls hP hD hS hl)
set_option maxHeartbeats 4000000 in
set_option maxRecDepth 100000 in
theorem ok_doorOf {w : WG} {I : SI} {L : SL} (k : Int32) : Ok w mX4_doorOf [.int k] I L (Pr (.int (drF k)) I L) := by
  refine Ok.of (by decide) (Nat.le_of_ble_eq_true rfl) (fun X hX => ?_)
  refine g_iload_n hX dX4_doorOf_0 rfl rfl ?_
  refine g_bipush (v := 7) hX dX4_doorOf_1 (by decide) ?_
  refine g_icmp_ne (tgt := 10) hX dX4_doorOf_3 (by decide) (fun c_3 => ?_) (fun c_3 => ?_)
  · refine g_iconst (v := 1) hX dX4_doorOf_10 (by decide) ?_
    refine g_iload_n hX dX4_doorOf_11 rfl rfl ?_
    refine g_ishl hX dX4_doorOf_12 ?_
    exact g_iret hX dX4_doorOf_13 rfl (⟨by simp_all [drF], rfl, rfl⟩)
  · refine g_iconst (v := 0) hX dX4_doorOf_6 (by decide) ?_
    refine g_goto (tgt := 13) hX dX4_doorOf_7 (by decide) ?_
    exact g_iret hX dX4_doorOf_13 rfl (⟨by simp_all [drF], rfl, rfl⟩)
set_option maxHeartbeats 4000000 in
set_option maxRecDepth 100000 in
theorem ok_priceOf {w : WG} {I : SI} {L : SL} (k : Int32) : Ok w mX4_priceOf [.int k] I L (Pr (.int (prF k)) I L) := by
  refine Ok.of (by decide) (Nat.le_of_ble_eq_true rfl) (fun X hX => ?_)
  refine g_iload_n hX dX4_priceOf_0 rfl rfl ?_
  refine g_bipush (v := 7) hX dX4_priceOf_1 (by decide) ?_
  refine g_icmp_ne (tgt := 10) hX dX4_priceOf_3 (by decide) (fun c_3 => ?_) (fun c_3 => ?_)
  · refine g_iconst (v := 1) hX dX4_priceOf_10 (by decide) ?_
    exact g_iret hX dX4_priceOf_11 rfl (⟨by simp_all [prF], rfl, rfl⟩)
  · refine g_iconst (v := 0) hX dX4_priceOf_6 (by decide) ?_
    refine g_goto (tgt := 11) hX dX4_priceOf_7 (by decide) ?_
    exact g_iret hX dX4_priceOf_11 rfl (⟨by simp_all [prF], rfl, rfl⟩)
set_option maxHeartbeats 4000000 in
set_option maxRecDepth 100000 in
theorem ok_postmanOf {w : WG} {I : SI} {L : SL} {q n : Nat} (hqk : (gK w)[q]? = some (6, 4)) (hn4 : n ≤ 4) : Ok w mX4_postmanOf [.ref (gA w q), .int (nI n)] I L (Pr (.int (pmF (I q) n)) I L) := by
  refine Ok.of (by decide) (Nat.le_of_ble_eq_true rfl) (fun X hX => ?_)
  have loop := loop_up (n := n) (P := fun c => G X w mX4_postmanOf I L 4 (lvO [(0, .ref (gA w q)), (1, .int (nI n)), (2, .int (pmF (I q) c)), (3, .int (nI c))]) []) (fun c hk ih => by
    refine g_iload_n hX dX4_postmanOf_4 rfl rfl ?_
    refine g_iload_n hX dX4_postmanOf_5 rfl rfl ?_
    refine g_icmp_ge (tgt := 38) hX dX4_postmanOf_6 (by decide) (fun c_6 => ?_) (fun c_6 => ?_)
    · refine g_iload_n hX dX4_postmanOf_38 rfl rfl ?_
      exact g_iret hX dX4_postmanOf_39 rfl (⟨by rw [show c = n from Nat.le_antisymm hk (nle c_6 (by omega) (by omega))], rfl, rfl⟩)
    · have hlt := nnle c_6 (by omega) (by omega)
      refine g_aload_n hX dX4_postmanOf_9 rfl rfl ?_
      refine g_iload_n hX dX4_postmanOf_10 rfl rfl ?_
      refine g_ialdN hX dX4_postmanOf_11 hqk (⟨rfl, by omega⟩) (by decide) ?_
      refine g_iconst (v := 1) hX dX4_postmanOf_12 (by decide) ?_
      refine g_icmp_lt (tgt := 32) hX dX4_postmanOf_13 (by decide) (fun c_13 => ?_) (fun c_13 => ?_)
      · refine g_iinc hX dX4_postmanOf_32 rfl (d := 1) (by decide) ?_
        refine g_goto (tgt := 4) hX dX4_postmanOf_35 (by decide) ?_
        exact G.at (ih hlt) ⟨rfl, rfl, vI (by rw [pmF, if_neg (fun z => absurd z.1 (Int32.not_le.mpr c_13))]), vI (nI_1 c), trivial⟩
      · refine g_iload_n hX dX4_postmanOf_16 rfl rfl ?_
        refine g_iconst (v := -1) hX dX4_postmanOf_17 (by decide) ?_
        refine g_icmp_eq (tgt := 30) hX dX4_postmanOf_18 (by decide) (fun c_18 => ?_) (fun c_18 => ?_)
        · refine g_iload_n hX dX4_postmanOf_30 rfl rfl ?_
          refine g_istore_n hX dX4_postmanOf_31 rfl (by decide) ?_
          refine g_iinc hX dX4_postmanOf_32 rfl (d := 1) (by decide) ?_
          refine g_goto (tgt := 4) hX dX4_postmanOf_35 (by decide) ?_
          exact G.at (ih hlt) ⟨rfl, rfl, vI (by rw [pmF, if_pos ⟨Int32.not_lt.mp c_13, Or.inl c_18⟩]), vI (nI_1 c), trivial⟩
        · obtain ⟨j, hj, ej⟩ := (pmF_cases (I q) c).resolve_left c_18
          refine g_aload_n hX dX4_postmanOf_21 rfl rfl ?_
          refine g_iload_n hX dX4_postmanOf_22 rfl rfl ?_
          refine g_ialdN hX dX4_postmanOf_23 hqk (⟨rfl, by omega⟩) (by decide) ?_
          refine g_aload_n hX dX4_postmanOf_24 rfl rfl ?_
          refine g_iload_n hX dX4_postmanOf_25 rfl rfl ?_
          refine g_ialdN hX dX4_postmanOf_26 hqk (⟨ej, by omega⟩) (by decide) ?_
          refine g_icmp_ge (tgt := 32) hX dX4_postmanOf_27 (by decide) (fun c_27 => ?_) (fun c_27 => ?_)
          · refine g_iinc hX dX4_postmanOf_32 rfl (d := 1) (by decide) ?_
            refine g_goto (tgt := 4) hX dX4_postmanOf_35 (by decide) ?_
            exact G.at (ih hlt) ⟨rfl, rfl, vI (by rw [pmF, if_neg (fun z => z.2.elim c_18 (by rw [ej, nI_clamp (by omega)]; exact fun t => absurd t (Int32.not_lt.mpr c_27)))]), vI (nI_1 c), trivial⟩
          · refine g_iload_n hX dX4_postmanOf_30 rfl rfl ?_
            refine g_istore_n hX dX4_postmanOf_31 rfl (by decide) ?_
            refine g_iinc hX dX4_postmanOf_32 rfl (d := 1) (by decide) ?_
            refine g_goto (tgt := 4) hX dX4_postmanOf_35 (by decide) ?_
            exact G.at (ih hlt) ⟨rfl, rfl, vI (by rw [pmF, if_pos ⟨Int32.not_lt.mp c_13, Or.inr (by rw [ej, nI_clamp (by omega)]; exact Int32.not_le.mp c_27)⟩]), vI (nI_1 c), trivial⟩
    )
  refine g_iconst (v := -1) hX dX4_postmanOf_0 (by decide) ?_
  refine g_istore_n hX dX4_postmanOf_1 rfl (by decide) ?_
  refine g_iconst (v := 0) hX dX4_postmanOf_2 (by decide) ?_
  refine g_istore_n hX dX4_postmanOf_3 rfl (by decide) ?_
  exact G.at (loop 0 (Nat.zero_le _)) ⟨rfl, rfl, rfl, rfl, trivial⟩
set_option maxHeartbeats 4000000 in
set_option maxRecDepth 100000 in
theorem ok_leaverOf {w : WG} {I : SI} {L : SL} {q n : Nat} (hqk : (gK w)[q]? = some (6, 4)) (hn4 : n ≤ 4) : Ok w mX4_leaverOf [.ref (gA w q), .int (nI n)] I L (Pr (.int (lvF (I q) n)) I L) := by
  refine Ok.of (by decide) (Nat.le_of_ble_eq_true rfl) (fun X hX => ?_)
  have loop := loop_up (n := n) (P := fun c => G X w mX4_leaverOf I L 4 (lvO [(0, .ref (gA w q)), (1, .int (nI n)), (2, .int (lvF (I q) c)), (3, .int (nI c))]) []) (fun c hk ih => by
    refine g_iload_n hX dX4_leaverOf_4 rfl rfl ?_
    refine g_iload_n hX dX4_leaverOf_5 rfl rfl ?_
    refine g_icmp_ge (tgt := 38) hX dX4_leaverOf_6 (by decide) (fun c_6 => ?_) (fun c_6 => ?_)
    · refine g_iload_n hX dX4_leaverOf_38 rfl rfl ?_
      exact g_iret hX dX4_leaverOf_39 rfl (⟨by rw [show c = n from Nat.le_antisymm hk (nle c_6 (by omega) (by omega))], rfl, rfl⟩)
    · have hlt := nnle c_6 (by omega) (by omega)
      refine g_aload_n hX dX4_leaverOf_9 rfl rfl ?_
      refine g_iload_n hX dX4_leaverOf_10 rfl rfl ?_
      refine g_ialdN hX dX4_leaverOf_11 hqk (⟨rfl, by omega⟩) (by decide) ?_
      refine g_iconst (v := 1) hX dX4_leaverOf_12 (by decide) ?_
      refine g_icmp_lt (tgt := 32) hX dX4_leaverOf_13 (by decide) (fun c_13 => ?_) (fun c_13 => ?_)
      · refine g_iinc hX dX4_leaverOf_32 rfl (d := 1) (by decide) ?_
        refine g_goto (tgt := 4) hX dX4_leaverOf_35 (by decide) ?_
        exact G.at (ih hlt) ⟨rfl, rfl, vI (by rw [lvF, if_neg (fun z => absurd z.1 (Int32.not_le.mpr c_13))]), vI (nI_1 c), trivial⟩
      · refine g_iload_n hX dX4_leaverOf_16 rfl rfl ?_
        refine g_iconst (v := -1) hX dX4_leaverOf_17 (by decide) ?_
        refine g_icmp_eq (tgt := 30) hX dX4_leaverOf_18 (by decide) (fun c_18 => ?_) (fun c_18 => ?_)
        · refine g_iload_n hX dX4_leaverOf_30 rfl rfl ?_
          refine g_istore_n hX dX4_leaverOf_31 rfl (by decide) ?_
          refine g_iinc hX dX4_leaverOf_32 rfl (d := 1) (by decide) ?_
          refine g_goto (tgt := 4) hX dX4_leaverOf_35 (by decide) ?_
          exact G.at (ih hlt) ⟨rfl, rfl, vI (by rw [lvF, if_pos ⟨Int32.not_lt.mp c_13, Or.inl c_18⟩]), vI (nI_1 c), trivial⟩
        · obtain ⟨j, hj, ej⟩ := (lvF_cases (I q) c).resolve_left c_18
          refine g_aload_n hX dX4_leaverOf_21 rfl rfl ?_
          refine g_iload_n hX dX4_leaverOf_22 rfl rfl ?_
          refine g_ialdN hX dX4_leaverOf_23 hqk (⟨rfl, by omega⟩) (by decide) ?_
          refine g_aload_n hX dX4_leaverOf_24 rfl rfl ?_
          refine g_iload_n hX dX4_leaverOf_25 rfl rfl ?_
          refine g_ialdN hX dX4_leaverOf_26 hqk (⟨ej, by omega⟩) (by decide) ?_
          refine g_icmp_le (tgt := 32) hX dX4_leaverOf_27 (by decide) (fun c_27 => ?_) (fun c_27 => ?_)
          · refine g_iinc hX dX4_leaverOf_32 rfl (d := 1) (by decide) ?_
            refine g_goto (tgt := 4) hX dX4_leaverOf_35 (by decide) ?_
            exact G.at (ih hlt) ⟨rfl, rfl, vI (by rw [lvF, if_neg (fun z => z.2.elim c_18 (by rw [ej, nI_clamp (by omega)]; exact fun t => absurd t (Int32.not_lt.mpr c_27)))]), vI (nI_1 c), trivial⟩
          · refine g_iload_n hX dX4_leaverOf_30 rfl rfl ?_
            refine g_istore_n hX dX4_leaverOf_31 rfl (by decide) ?_
            refine g_iinc hX dX4_leaverOf_32 rfl (d := 1) (by decide) ?_
            refine g_goto (tgt := 4) hX dX4_leaverOf_35 (by decide) ?_
            exact G.at (ih hlt) ⟨rfl, rfl, vI (by rw [lvF, if_pos ⟨Int32.not_lt.mp c_13, Or.inr (by rw [ej, nI_clamp (by omega)]; exact Int32.not_le.mp c_27)⟩]), vI (nI_1 c), trivial⟩
    )
  refine g_iconst (v := -1) hX dX4_leaverOf_0 (by decide) ?_
  refine g_istore_n hX dX4_leaverOf_1 rfl (by decide) ?_
  refine g_iconst (v := 0) hX dX4_leaverOf_2 (by decide) ?_
  refine g_istore_n hX dX4_leaverOf_3 rfl (by decide) ?_
  exact G.at (loop 0 (Nat.zero_le _)) ⟨rfl, rfl, rfl, rfl, trivial⟩
set_option maxHeartbeats 4000000 in
set_option maxRecDepth 100000 in
theorem ok_refuse_bad {w : WG} {I : SI} {L : SL} (hw : XL w) : Ok w mX4_refuse [.ref (gA w 0), .int (-2)] I L (fun r I1 L1 => r = some (.int (-2)) ∧ I1 = rfX I 6 ∧ L1 = L) := by
  refine Ok.of (by decide) (Nat.le_of_ble_eq_true rfl) (fun X hX => ?_)
  refine g_iload_n hX dX4_refuse_0 rfl rfl ?_
  refine g_bipush (v := -2) hX dX4_refuse_1 (by decide) ?_
  refine g_icmp_ne (tgt := 19) hX dX4_refuse_3 (by decide) (fun c_3 => ?_) (fun c_3 => ?_)
  · exact absurd rfl c_3
  · refine g_aload_n hX dX4_refuse_6 rfl rfl ?_
    refine g_dup hX dX4_refuse_7 rfl ?_
    refine g_get4I hX 6 dX4_refuse_8 b_fl_X4_233 hw.k0 (by decide) ?_
    refine g_iconst (v := 1) hX dX4_refuse_11 (by decide) ?_
    refine g_iadd hX dX4_refuse_12 ?_
    refine g_put4I hX 6 dX4_refuse_13 b_fl_X4_233 hw.k0 pf4_6 ?_
    refine g_goto (tgt := 48) hX dX4_refuse_16 (by decide) ?_
    refine g_iload_n hX dX4_refuse_48 rfl rfl ?_
    exact g_iret hX dX4_refuse_49 rfl (⟨rfl, rfl, rfl⟩)
set_option maxHeartbeats 4000000 in
set_option maxRecDepth 100000 in
theorem ok_refuse_no {w : WG} {I : SI} {L : SL} (hw : XL w) : Ok w mX4_refuse [.ref (gA w 0), .int (-3)] I L (fun r I1 L1 => r = some (.int (-3)) ∧ I1 = rfX I 7 ∧ L1 = L) := by
  refine Ok.of (by decide) (Nat.le_of_ble_eq_true rfl) (fun X hX => ?_)
  refine g_iload_n hX dX4_refuse_0 rfl rfl ?_
  refine g_bipush (v := -2) hX dX4_refuse_1 (by decide) ?_
  refine g_icmp_ne (tgt := 19) hX dX4_refuse_3 (by decide) (fun c_3 => ?_) (fun c_3 => ?_)
  · refine g_iload_n hX dX4_refuse_19 rfl rfl ?_
    refine g_bipush (v := -3) hX dX4_refuse_20 (by decide) ?_
    refine g_icmp_ne (tgt := 38) hX dX4_refuse_22 (by decide) (fun c_22 => ?_) (fun c_22 => ?_)
    · exact absurd rfl c_22
    · refine g_aload_n hX dX4_refuse_25 rfl rfl ?_
      refine g_dup hX dX4_refuse_26 rfl ?_
      refine g_get4I hX 7 dX4_refuse_27 b_fl_X4_236 hw.k0 (by decide) ?_
      refine g_iconst (v := 1) hX dX4_refuse_30 (by decide) ?_
      refine g_iadd hX dX4_refuse_31 ?_
      refine g_put4I hX 7 dX4_refuse_32 b_fl_X4_236 hw.k0 pf4_7 ?_
      refine g_goto (tgt := 48) hX dX4_refuse_35 (by decide) ?_
      refine g_iload_n hX dX4_refuse_48 rfl rfl ?_
      exact g_iret hX dX4_refuse_49 rfl (⟨rfl, rfl, rfl⟩)
  · exact absurd c_3 (by decide)
set_option maxHeartbeats 4000000 in
set_option maxRecDepth 100000 in
theorem ok_refuse_full {w : WG} {I : SI} {L : SL} (hw : XL w) : Ok w mX4_refuse [.ref (gA w 0), .int (-4)] I L (fun r I1 L1 => r = some (.int (-4)) ∧ I1 = rfX I 8 ∧ L1 = L) := by
  refine Ok.of (by decide) (Nat.le_of_ble_eq_true rfl) (fun X hX => ?_)
  refine g_iload_n hX dX4_refuse_0 rfl rfl ?_
  refine g_bipush (v := -2) hX dX4_refuse_1 (by decide) ?_
  refine g_icmp_ne (tgt := 19) hX dX4_refuse_3 (by decide) (fun c_3 => ?_) (fun c_3 => ?_)
  · refine g_iload_n hX dX4_refuse_19 rfl rfl ?_
    refine g_bipush (v := -3) hX dX4_refuse_20 (by decide) ?_
    refine g_icmp_ne (tgt := 38) hX dX4_refuse_22 (by decide) (fun c_22 => ?_) (fun c_22 => ?_)
    · refine g_aload_n hX dX4_refuse_38 rfl rfl ?_
      refine g_dup hX dX4_refuse_39 rfl ?_
      refine g_get4I hX 8 dX4_refuse_40 b_fl_X4_239 hw.k0 (by decide) ?_
      refine g_iconst (v := 1) hX dX4_refuse_43 (by decide) ?_
      refine g_iadd hX dX4_refuse_44 ?_
      refine g_put4I hX 8 dX4_refuse_45 b_fl_X4_239 hw.k0 pf4_8 ?_
      refine g_iload_n hX dX4_refuse_48 rfl rfl ?_
      exact g_iret hX dX4_refuse_49 rfl (⟨rfl, rfl, rfl⟩)
    · exact absurd c_22 (by decide)
  · exact absurd c_3 (by decide)
def mcF (d a k : Int32) : Int32 := b01 (k = 7 ∨ ((0 ≤ k ∧ k < d) ∧ inF a k = 0))
set_option maxHeartbeats 4000000 in
set_option maxRecDepth 100000 in
theorem ok_mayChoose {w : WG} {I : SI} {L : SL} (hw : XL w) (k : Int32) : Ok w mX4_mayChoose [.ref (gA w 0), .int k] I L (Pr (.int (mcF (I 1 1) (I 1 2) k)) I L) := by
  refine Ok.of (by decide) (Nat.le_of_ble_eq_true rfl) (fun X hX => ?_)
  refine g_iload_n hX dX4_mayChoose_0 rfl rfl ?_
  refine g_bipush (v := 7) hX dX4_mayChoose_1 (by decide) ?_
  refine g_icmp_eq (tgt := 28) hX dX4_mayChoose_3 (by decide) (fun c_3 => ?_) (fun c_3 => ?_)
  · refine g_iconst (v := 1) hX dX4_mayChoose_28 (by decide) ?_
    refine g_goto (tgt := 33) hX dX4_mayChoose_29 (by decide) ?_
    exact g_zret hX dX4_mayChoose_33 rfl rfl (⟨by rw [mcF, b01, if_pos (Or.inl c_3)], rfl, rfl⟩)
  · refine g_aload_n hX dX4_mayChoose_6 rfl rfl ?_
    refine g_get4R hX 0 dX4_mayChoose_7 b_fl_X4_10 hw.k0 (by decide) hw.p0 ?_
    refine g_iload_n hX dX4_mayChoose_10 rfl rfl ?_
    refine g_callVp _ hX dX4_mayChoose_11 k_X4_98 ⟨by decide, by decide⟩ (by decide) hw.now.k0 rfl rfl (ok_hasDog hw.now _) rfl (Nat.le_of_ble_eq_true rfl) ?_
    refine g_if_eq (tgt := 32) hX dX4_mayChoose_14 (by decide) (fun c_14 => ?_) (fun c_14 => ?_)
    · refine g_iconst (v := 0) hX dX4_mayChoose_32 (by decide) ?_
      exact g_zret hX dX4_mayChoose_33 rfl rfl (⟨by rw [mcF, b01, if_neg (fun z => z.elim c_3 (fun y => b01_0 c_14 y.1))], rfl, rfl⟩)
    · refine g_aload_n hX dX4_mayChoose_17 rfl rfl ?_
      refine g_get4R hX 0 dX4_mayChoose_18 b_fl_X4_10 hw.k0 (by decide) hw.p0 ?_
      refine g_iload_n hX dX4_mayChoose_21 rfl rfl ?_
      refine g_callVp _ hX dX4_mayChoose_22 k_X4_153 ⟨by decide, by decide⟩ (by decide) hw.now.k0 rfl rfl (ok_isAsleep hw.now _) rfl (Nat.le_of_ble_eq_true rfl) ?_
      refine g_if_ne (tgt := 32) hX dX4_mayChoose_25 (by decide) (fun c_25 => ?_) (fun c_25 => ?_)
      · refine g_iconst (v := 0) hX dX4_mayChoose_32 (by decide) ?_
        exact g_zret hX dX4_mayChoose_33 rfl rfl (⟨by rw [mcF, b01, if_neg (fun z => z.elim c_3 (fun y => c_25 y.2))], rfl, rfl⟩)
      · refine g_iconst (v := 1) hX dX4_mayChoose_28 (by decide) ?_
        refine g_goto (tgt := 33) hX dX4_mayChoose_29 (by decide) ?_
        exact g_zret hX dX4_mayChoose_33 rfl rfl (⟨by rw [mcF, b01, if_pos (Or.inr ⟨b01_n c_14, c_25⟩)], rfl, rfl⟩)
