def XV (I : SI) (n d r : Nat) : Prop := I 1 0 = nI n ∧ n ≤ 4 ∧ I 1 1 = nI d ∧ d ≤ 7 ∧ I 1 3 = nI r ∧ r ≤ 999
theorem ix {c : Int32} {n : Nat} (h : 0 ≤ c ∧ c < nI n) (hn : n < 2 ^ 31) : ∃ j, j < n ∧ c = nI j := by
  obtain ⟨j, h1, rfl⟩ := nI_of (Int32.not_lt.mpr h.1)
  exact ⟨j, nlt h.2 h1 hn, rfl⟩
theorem ix2 {c m : Int32} {n : Nat} (hm : m = nI n) (hn : n < 2 ^ 31) (h : 0 ≤ c ∧ c ≤ m) : ∃ j, j ≤ n ∧ c = nI j := by
  subst hm
  obtain ⟨j, h1, rfl⟩ := nI_of (Int32.not_lt.mpr h.1)
  exact ⟨j, nle h.2 h1 hn, rfl⟩
theorem ok_rndRow {w : WG} {I : SI} {L : SL} {n d r t : Nat} (hw : XL w) (hI : XV I n d r) (f : Nat → Int32) (ht : t < 2000) (s : Int32) : Ok w mX3_addRound [.ref (gA w 1), .ref (gA w 24), .int (nI t), .int s] (rS I 24 f) L (fun r1 I1 L1 => r1 = none ∧ I1 = rS I 24 (rndF (vx I 1) n d t s f) ∧ L1 = L) := by
  obtain ⟨hn, hn4, hd, hd7, hr, hr9⟩ := hI
  refine (ok_addRound (I := rS I 24 f) (v := 1) (q := 24) (n := n) (d := d) hw.now hw.k24 (fun j h1 h2 => by omega) (by rw [rS_ne _ _ _ (by decide)]; exact hn) hn4 (by rw [rS_ne _ _ _ (by decide)]; exact hd) hd7 ht s).mono ?_
  rintro _ _ _ ⟨rfl, rfl, rfl⟩
  refine ⟨rfl, ?_, rfl⟩
  simp (disch := decide) only [rS_ne, rS_eq, rS_rS]
  rfl
set_option maxHeartbeats 4000000 in
set_option maxRecDepth 100000 in
theorem ok_lookAhead {w : WG} {I : SI} {L : SL} {n d r m : Nat} (hw : XL w) (hI : XV I n d r) (hm : m ≤ 60) : Ok w mX4_lookAhead [.ref (gA w 0), .int (nI m)] I L (fun r1 I1 L1 => r1 = none ∧ L1 = L ∧ ∃ f, I1 = rS I 24 f ∧ ∀ c, c < 4 → f c = ahF (vx I 1) n d r m c) := by
  have hI0 := hI
  obtain ⟨hn, hn4, hd, hd7, hr, hr9⟩ := hI0
  refine Ok.of (by decide) (Nat.le_of_ble_eq_true rfl) (fun X hX => ?_)
  have loop := loop_up (n := m) (P := fun i => ∀ f, (∀ c, c < 4 → f c = ahF (vx I 1) n d r i c) → G X w mX4_lookAhead (rS I 24 f) L 19 (lvO [(0, .ref (gA w 0)), (1, .int (nI m)), (2, .int (nI i))]) []) (fun i hk ih f hf => by
    refine g_iload_n hX dX4_lookAhead_19 rfl rfl ?_
    refine g_iload_n hX dX4_lookAhead_20 rfl rfl ?_
    refine g_icmp_ge (tgt := 65) hX dX4_lookAhead_21 (by decide) (fun c_21 => ?_) (fun c_21 => ?_)
    · exact g_vret hX dX4_lookAhead_65 rfl (⟨rfl, rfl, f, rfl, fun c hc => by rw [hf c hc, show i = m from Nat.le_antisymm hk (nle c_21 (by omega) (by omega))]⟩)
    · have hlt := nnle c_21 (by omega) (by omega)
      refine g_aload_n hX dX4_lookAhead_24 rfl rfl ?_
      refine g_get4R hX 0 dX4_lookAhead_25 b_fl_X4_10 hw.k0 (by decide) hw.p0 ?_
      refine g_aload_n hX dX4_lookAhead_28 rfl rfl ?_
      refine g_get4R hX 9 dX4_lookAhead_29 b_fl_X4_37 hw.k0 (by decide) hw.p9 ?_
      refine g_aload_n hX dX4_lookAhead_32 rfl rfl ?_
      refine g_get4R hX 0 dX4_lookAhead_33 b_fl_X4_10 hw.k0 (by decide) hw.p0 ?_
      refine g_get3I hX 3 dX4_lookAhead_36 b_fl_X4_115 hw.now.k0 (by decide) ?_
      try simp (disch := decide) only [rS_ne, rS_eq]
      rw [hr]
      refine g_iload_n hX dX4_lookAhead_39 rfl rfl ?_
      refine g_iadd hX dX4_lookAhead_40 ?_
      rw [nI_add]
      refine g_iload_n hX dX4_lookAhead_41 rfl rfl ?_
      refine g_if_ne (tgt := 55) hX dX4_lookAhead_42 (by decide) (fun c_42 => ?_) (fun c_42 => ?_)
      · refine g_iconst (v := 0) hX dX4_lookAhead_55 (by decide) ?_
        refine g_callV _ hX dX4_lookAhead_56 k_X4_124 ⟨by decide, by decide⟩ (by decide) hw.now.k0 rfl rfl (ok_rndRow hw hI _ (by omega) _) rfl (Nat.le_of_ble_eq_true rfl) (fun r1 I1 L1 hq => ?_)
        obtain ⟨rfl, rfl, rfl⟩ := hq
        refine g_iinc hX dX4_lookAhead_59 rfl (d := 1) (by decide) ?_
        refine g_goto (tgt := 19) hX dX4_lookAhead_62 (by decide) ?_
        exact G.at (ih hlt _ (fun c hc => by rw [ahF, if_neg (fun e => c_42 (by rw [e]; rfl))]; exact rndF_congr hf c hc)) ⟨rfl, rfl, vI (nI_1 i), trivial⟩
      · refine g_aload_n hX dX4_lookAhead_45 rfl rfl ?_
        refine g_get4R hX 0 dX4_lookAhead_46 b_fl_X4_10 hw.k0 (by decide) hw.p0 ?_
        refine g_get3I hX 2 dX4_lookAhead_49 b_fl_X4_121 hw.now.k0 (by decide) ?_
        try simp (disch := decide) only [rS_ne, rS_eq]
        refine g_goto (tgt := 56) hX dX4_lookAhead_52 (by decide) ?_
        refine g_callV _ hX dX4_lookAhead_56 k_X4_124 ⟨by decide, by decide⟩ (by decide) hw.now.k0 rfl rfl (ok_rndRow hw hI _ (by omega) _) rfl (Nat.le_of_ble_eq_true rfl) (fun r1 I1 L1 hq => ?_)
        obtain ⟨rfl, rfl, rfl⟩ := hq
        refine g_iinc hX dX4_lookAhead_59 rfl (d := 1) (by decide) ?_
        refine g_goto (tgt := 19) hX dX4_lookAhead_62 (by decide) ?_
        exact G.at (ih hlt _ (fun c hc => by rw [ahF, if_pos ((nI_eq (by omega) (by decide)).mp c_42)]; exact rndF_congr hf c hc)) ⟨rfl, rfl, vI (nI_1 i), trivial⟩
    )
  refine g_aload_n hX dX4_lookAhead_0 rfl rfl ?_
  refine g_get4R hX 0 dX4_lookAhead_1 b_fl_X4_10 hw.k0 (by decide) hw.p0 ?_
  refine g_get3R hX 8 dX4_lookAhead_4 b_fl_X4_118 hw.now.k0 (by decide) hw.now.p8 ?_
  refine g_iconst (v := 0) hX dX4_lookAhead_7 (by decide) ?_
  refine g_aload_n hX dX4_lookAhead_8 rfl rfl ?_
  refine g_get4R hX 9 dX4_lookAhead_9 b_fl_X4_37 hw.k0 (by decide) hw.p9 ?_
  refine g_iconst (v := 0) hX dX4_lookAhead_12 (by decide) ?_
  refine g_iconst (v := 4) hX dX4_lookAhead_13 (by decide) ?_
  refine g_copyN (a := 0) (b := 0) (m := 4) hX dX4_lookAhead_14 b_ml_X4_253 (by decide) hw.now.k3 hw.k24 (⟨rfl, rfl, rfl⟩) (⟨by omega, by omega⟩) ⟨by decide, by decide⟩ (Nat.le_of_ble_eq_true rfl) ?_
  refine g_iconst (v := 0) hX dX4_lookAhead_17 (by decide) ?_
  refine g_istore_n hX dX4_lookAhead_18 rfl (by decide) ?_
  exact G.at (loop 0 (Nat.zero_le _) _ (fun c hc => pk_cpy_in (sp := 0) (dp := 0) (n := 4) (Nat.zero_le _) (by omega) |>.trans (by rw [Nat.zero_add, Nat.sub_zero]; rfl))) ⟨rfl, rfl, rfl, trivial⟩
set_option maxHeartbeats 4000000 in
set_option maxRecDepth 100000 in
theorem ok_wins {w : WG} {I : SI} {L : SL} {n d r : Nat} (hw : XL w) (hI : XV I n d r) (c s : Int32) : Ok w mX4_winsByBribing [.ref (gA w 0), .int c, .int s] I L (fun r1 I1 L1 => r1 = some (.int (b01 (pmF (rndF (vx I 1) n d r (I 1 2 ||| s) (vx I 1 3)) n = c))) ∧ L1 = L ∧ ∃ f, I1 = rS I 24 f) := by
  have hI0 := hI
  obtain ⟨hn, hn4, hd, hd7, hr, hr9⟩ := hI0
  refine Ok.of (by decide) (Nat.le_of_ble_eq_true rfl) (fun X hX => ?_)
  refine g_aload_n hX dX4_winsByBribing_0 rfl rfl ?_
  refine g_iconst (v := 0) hX dX4_winsByBribing_1 (by decide) ?_
  refine g_callV _ hX dX4_winsByBribing_2 k_X4_174 ⟨by decide, by decide⟩ (by decide) hw.k0 rfl rfl (ok_lookAhead (m := 0) hw hI (by omega)) rfl (Nat.le_of_ble_eq_true rfl) (fun r1 I1 L1 hq => ?_)
  obtain ⟨rfl, rfl, f, rfl, hf⟩ := hq
  refine g_aload_n hX dX4_winsByBribing_5 rfl rfl ?_
  refine g_get4R hX 0 dX4_winsByBribing_6 b_fl_X4_10 hw.k0 (by decide) hw.p0 ?_
  refine g_aload_n hX dX4_winsByBribing_9 rfl rfl ?_
  refine g_get4R hX 9 dX4_winsByBribing_10 b_fl_X4_37 hw.k0 (by decide) hw.p9 ?_
  refine g_aload_n hX dX4_winsByBribing_13 rfl rfl ?_
  refine g_get4R hX 0 dX4_winsByBribing_14 b_fl_X4_10 hw.k0 (by decide) hw.p0 ?_
  refine g_get3I hX 3 dX4_winsByBribing_17 b_fl_X4_115 hw.now.k0 (by decide) ?_
  try simp (disch := decide) only [rS_ne, rS_eq]
  rw [hr]
  refine g_aload_n hX dX4_winsByBribing_20 rfl rfl ?_
  refine g_get4R hX 0 dX4_winsByBribing_21 b_fl_X4_10 hw.k0 (by decide) hw.p0 ?_
  refine g_get3I hX 2 dX4_winsByBribing_24 b_fl_X4_121 hw.now.k0 (by decide) ?_
  try simp (disch := decide) only [rS_ne, rS_eq]
  refine g_iload_n hX dX4_winsByBribing_27 rfl rfl ?_
  refine g_ior hX dX4_winsByBribing_28 ?_
  refine g_callV _ hX dX4_winsByBribing_29 k_X4_124 ⟨by decide, by decide⟩ (by decide) hw.now.k0 rfl rfl (ok_rndRow hw hI _ (by omega) _) rfl (Nat.le_of_ble_eq_true rfl) (fun r1 I1 L1 hq => ?_)
  obtain ⟨rfl, rfl, rfl⟩ := hq
  refine g_aload_n hX dX4_winsByBribing_32 rfl rfl ?_
  refine g_get4R hX 9 dX4_winsByBribing_33 b_fl_X4_37 hw.k0 (by decide) hw.p9 ?_
  refine g_aload_n hX dX4_winsByBribing_36 rfl rfl ?_
  refine g_get4R hX 0 dX4_winsByBribing_37 b_fl_X4_10 hw.k0 (by decide) hw.p0 ?_
  refine g_get3I hX 0 dX4_winsByBribing_40 b_fl_X4_61 hw.now.k0 (by decide) ?_
  try simp (disch := decide) only [rS_ne, rS_eq]
  rw [hn]
  refine g_callSp _ hX dX4_winsByBribing_43 k_X4_128 ⟨by decide, by decide⟩ rfl (ok_postmanOf (n := n) hw.k24 hn4) rfl (Nat.le_of_ble_eq_true rfl) ?_
  simp (disch := decide) only [rS_eq]
  refine g_iload_n hX dX4_winsByBribing_46 rfl rfl ?_
  refine g_icmp_ne (tgt := 54) hX dX4_winsByBribing_47 (by decide) (fun c_47 => ?_) (fun c_47 => ?_)
  · refine g_iconst (v := 0) hX dX4_winsByBribing_54 (by decide) ?_
    exact g_zret hX dX4_winsByBribing_55 rfl rfl (⟨by rw [pmF_congr n (by omega) (fun c hc => rndF_congr hf c (by omega))] at c_47; rw [b01, if_neg (show ¬ pmF (rndF (vx I 1) n d r (I 1 2 ||| s) (vx I 1 3)) n = c from c_47)], rfl, _, rfl⟩)
  · refine g_iconst (v := 1) hX dX4_winsByBribing_50 (by decide) ?_
    refine g_goto (tgt := 55) hX dX4_winsByBribing_51 (by decide) ?_
    exact g_zret hX dX4_winsByBribing_55 rfl rfl (⟨by rw [pmF_congr n (by omega) (fun c hc => rndF_congr hf c (by omega))] at c_47; rw [b01, if_pos (show pmF (rndF (vx I 1) n d r (I 1 2 ||| s) (vx I 1 3)) n = c from c_47)], rfl, _, rfl⟩)
