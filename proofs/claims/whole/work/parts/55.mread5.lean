theorem RR.t3 {XI I : SI} {L : SL} {n d r q p m : Nat} {A B C : Nat → Int32} (h : RR XI I L n d r q p m) (hf : FA (I 0) A) : RR XI (T3 I A B C) L n d r q p m := by
  obtain ⟨h1, h2, ⟨h3, h4, h5, h6⟩, h7⟩ := RR_iff.mp h
  refine RR_iff.mpr ⟨h1, h2.cg h1.b VA.rf ?_, ⟨h3, h4, ?_, ?_⟩, ?_⟩
  · unfold JA
    simp (disch := decide) only [T3_0, T3_o]
    refine ⟨⟨?_, ?_, ?_, ?_, ?_, ?_⟩, ?_⟩
    · exact hf 1 (by decide) (by decide) (by decide) (by decide) (by decide)
    · exact hf 2 (by decide) (by decide) (by decide) (by decide) (by decide)
    · exact hf 5 (by decide) (by decide) (by decide) (by decide) (by decide)
    · exact hf 27 (by decide) (by decide) (by decide) (by decide) (by decide)
    · exact hf 3 (by decide) (by decide) (by decide) (by decide) (by decide)
    · exact hf 4 (by decide) (by decide) (by decide) (by decide) (by decide)
    · simp
  · rw [T3_0, hf 18 (by decide) (by decide) (by decide) (by decide) (by decide)]; exact h5
  · rw [T3_o (by decide) (by decide) (by decide)]; exact h6
  · unfold RF at h7 ⊢
    simp (disch := decide) only [T3_o]
    exact h7
theorem RR.gh {XI XI' I : SI} {L : SL} {n d r q p m : Nat} (h : RR XI I L n d r q p m) (h0 : ∀ o, o < 24 → (o < 11 ∨ 20 < o) → XI' o = XI o) (h27 : X27 XI' = X27 XI) : RR XI' I L n d r q p m := by
  obtain ⟨h1, h2, ⟨h3, h4, h5, h6⟩, h7⟩ := RR_iff.mp h
  have e : ∀ j, j < 10 → vx XI' 1 j = vx XI 1 j := fun j hj => h0 (1 + j) (by omega) (by omega)
  refine RR_iff.mpr ⟨h1.cg (VA.of e), h2.cg h1.b (VA.of e) ⟨⟨rfl, rfl, rfl, rfl, rfl, rfl⟩, fun _ _ => ⟨rfl, rfl, rfl⟩, fun _ _ => ⟨rfl, rfl, rfl, rfl⟩, fun _ _ => ⟨rfl, rfl, rfl, rfl⟩, fun _ _ => rfl⟩, ⟨?_, ?_, h5, ?_⟩, ?_⟩
  · rw [h0 22 (by decide) (by decide)]; exact h3
  · rw [h0 23 (by decide) (by decide)]; exact h4
  · rw [h0 23 (by decide) (by decide)]; exact h6
  · unfold RF at h7 ⊢
    rw [h0 0 (by decide) (by decide), h27]; exact h7
theorem VI.vx {V : VS} {n d : Nat} (h : VI V n d) : VX V n d 0 0 0 := by
  obtain ⟨⟨h1, h2⟩, ⟨h3, h4⟩, ⟨h5, h6, h7⟩, h8, h9, h10⟩ := h
  exact ⟨⟨h1, h2, h3, h4, h5, by decide⟩, ⟨h6, by decide⟩, ⟨h7, by decide⟩, h8, fun c hc => (h9 c hc).1, h10, fun t ht => absurd ht (Nat.not_lt_zero t)⟩
/-- the model's state while it lays the village that was read -/
def PF (I : SI) (V : VS) (n d : Nat) (B C : Nat → Int32) (K : SI) : Prop := (∀ o, 8 < o → o ≠ 14 → o ≠ 15 → K o = I o) ∧ K 1 = I 1 ∧ K 0 18 = I 0 18 ∧ (K 14 = B ∧ K 15 = C ∧ K 0 20 = nI n ∧ K 0 21 = nI d ∧ K 0 22 = V 0 2) ∧ K 0 3 = 0 ∧ K 0 5 = 0 ∧ K 0 27 = 0
def PN (V : VS) (i : Nat) (K : SI) : Prop := K 0 1 = nI i ∧ ∀ c, c < i → K 2 c = V 1 c ∧ K 3 c = V 2 c ∧ K 4 c = 0
def PG (V : VS) (i : Nat) (K : SI) : Prop := K 0 2 = nI i ∧ ∀ k, k < i → K 5 k = V 4 k ∧ K 6 k = V 5 k ∧ K 7 k = V 6 k ∧ K 8 k = V 7 k
theorem PF.mn {I K : SI} {V : VS} {n d i : Nat} {B C : Nat → Int32} {b x : Int32} (h : PF I V n d B C K) : PF I V n d B C (mnJ K i b x) := by
  unfold PF mnJ at *
  simp (disch := decide) only [rS_eq, rS_ne, pk_us, pk_un]
  obtain ⟨h1, h2, h3, h4, h5, h6, h7⟩ := h
  exact ⟨fun o a b c => by rw [rS_ne _ _ _ (by omega), rS_ne _ _ _ (by omega), rS_ne _ _ _ (by omega), rS_ne _ _ _ (by omega)]; exact h1 o a b c, h2, h3, h4, h5, h6, trivial⟩
theorem PN.mn {K : SI} {V : VS} {i : Nat} (h : PN V i K) : PN V (i + 1) (mnJ K i (V 1 i) (V 2 i)) := by
  unfold PN mnJ at *
  simp (disch := decide) only [rS_eq, rS_ne, pk_us, pk_un]
  refine ⟨nI_1 i, fun c hc => ?_⟩
  by_cases e : c = i
  · subst e; rw [pk_us, pk_us, pk_us]; exact ⟨rfl, rfl, rfl⟩
  · rw [pk_un e, pk_un e, pk_un e]; exact h.2 c (by omega)
theorem PG.mn {K : SI} {V : VS} {i j : Nat} {b x : Int32} (h : PG V j K) : PG V j (mnJ K i b x) := by
  unfold PG mnJ at *
  simp (disch := decide) only [rS_eq, rS_ne, pk_us, pk_un]
  exact h
theorem PF.dg {I K : SI} {V : VS} {n d i : Nat} {B C : Nat → Int32} {b x y z : Int32} (h : PF I V n d B C K) : PF I V n d B C (dgJ K i b x y z) := by
  unfold PF dgJ at *
  simp (disch := decide) only [rS_eq, rS_ne, pk_us, pk_un]
  obtain ⟨h1, h2, h3, h4, h5, h6, h7⟩ := h
  exact ⟨fun o a b c => by rw [rS_ne _ _ _ (by omega), rS_ne _ _ _ (by omega), rS_ne _ _ _ (by omega), rS_ne _ _ _ (by omega), rS_ne _ _ _ (by omega)]; exact h1 o a b c, h2, h3, h4, h5, h6, trivial⟩
theorem PN.dg {K : SI} {V : VS} {i j : Nat} {b x y z : Int32} (h : PN V i K) : PN V i (dgJ K j b x y z) := by
  unfold PN dgJ at *
  simp (disch := decide) only [rS_eq, rS_ne, pk_us, pk_un]
  exact h
theorem PG.dg {K : SI} {V : VS} {i : Nat} (h : PG V i K) : PG V (i + 1) (dgJ K i (V 4 i) (V 5 i) (V 6 i) (V 7 i)) := by
  unfold PG dgJ at *
  simp (disch := decide) only [rS_eq, rS_ne, pk_us, pk_un]
  refine ⟨nI_1 i, fun c hc => ?_⟩
  by_cases e : c = i
  · subst e; rw [pk_us, pk_us, pk_us, pk_us]; exact ⟨rfl, rfl, rfl, rfl⟩
  · rw [pk_un e, pk_un e, pk_un e, pk_un e]; exact h.2 c (by omega)
theorem PF.bg {I : SI} {V : VS} {n d : Nat} {A B C : Nat → Int32} (hf : FA (I 0) A) (h : MVr (A 20) (A 21) (A 22) B C V n d) : PF I V n d B C (bgJ (T3 I A B C)) ∧ PN V 0 (bgJ (T3 I A B C)) ∧ PG V 0 (bgJ (T3 I A B C)) := by
  unfold PF PN PG bgJ
  simp (disch := decide) only [rS_eq, rS_ne, pk_us, pk_un, T3_0, T3_14, T3_15, T3_o]
  refine ⟨⟨fun o a b c => by rw [rS_ne _ _ _ (by omega), T3_o (by omega) b c], trivial, hf 18 (by decide) (by decide) (by decide) (by decide) (by decide), ⟨trivial, trivial, h.1, h.2.1, h.2.2.1⟩, trivial, trivial, trivial⟩, ⟨nI_0.symm, fun c hc => absurd hc (Nat.not_lt_zero c)⟩, ⟨nI_0.symm, fun c hc => absurd hc (Nat.not_lt_zero c)⟩⟩
theorem RR.read {XI I K : SI} {L : SL} {V : VS} {n d r q p m n1 d1 : Nat} {B C : Nat → Int32} (h : RR XI I L n d r q p m) (hI : VI V n1 d1) (hF : PF I V n1 d1 B C K) (hN : PN V n1 K) (hG : PG V d1 K) : RR (wV XI 1 (takeR V (vx XI 1))) (rS K 0 (upd (K 0) 4 (K 0 22))) L n1 d1 0 0 0 m := by
  obtain ⟨h1, h2, ⟨h3, h4, h5, h6⟩, h7⟩ := RR_iff.mp h
  obtain ⟨f1, f2, f3, ⟨f4, f5, f6, f7, f8⟩, f9, f10, f11⟩ := hF
  have ha : VA V (vx (wV XI 1 (takeR V (vx XI 1))) 1) := VA.tr (take_VA (S := V) (V := vx XI 1)) (fun j hj => vx_wV _ _ _ hj)
  refine RR_iff.mpr ⟨hI.vx.cg ha, ?_, ⟨?_, ?_, ?_, ?_⟩, ?_⟩
  · have hv : VM V (rS K 0 (upd (K 0) 4 (K 0 22))) n1 d1 0 0 0 := by
      unfold VM
      simp (disch := decide) only [rS_eq, rS_ne, pk_us, pk_un]
      exact ⟨⟨hN.1, hG.1, fun c hc => (hN.2 c hc).1, hG.2⟩, f9, f8, f10, f11, fun c hc => ⟨(hN.2 c hc).2.1, by rw [(hN.2 c hc).2.2, ((hI.2.2.2.2.1 c hc).2)]⟩, fun i hi => absurd hi (Nat.not_lt_zero i), fun i hi => absurd hi (Nat.not_lt_zero i)⟩
    exact hv.cg hI.vx.b ha ⟨⟨rfl, rfl, rfl, rfl, rfl, rfl⟩, fun _ _ => ⟨rfl, rfl, rfl⟩, fun _ _ => ⟨rfl, rfl, rfl, rfl⟩, fun _ _ => ⟨rfl, rfl, rfl, rfl⟩, fun _ _ => rfl⟩
  · rw [wV_out _ _ _ (by omega)]; exact h3
  · rw [wV_out _ _ _ (by omega)]; exact h4
  · rw [rS_eq, pk_un (by decide), f3]; exact h5
  · rw [rS_ne _ _ _ (by decide), f1 13 (by decide) (by decide) (by decide), wV_out _ _ _ (by omega)]; exact h6
  · unfold RF at h7 ⊢
    rw [X27_wV, wV_out _ _ _ (by omega), rS_ne _ _ _ (by decide), rS_ne _ _ _ (by decide), rS_ne _ _ _ (by decide), f2, f1 18 (by decide) (by decide) (by decide), f1 19 (by decide) (by decide) (by decide)]
    exact h7
/-- what the model's read leaves -/
def QRM (XI : SI) (n d r q p m : Nat) : QT := fun r1 J' L' => match vilF (XI 23) m (vx XI 11) with
  | .inl p0 => r1 = some (.int (-10 - nI p0)) ∧ RR XI J' L' n d r q p m
  | .inr (it, V1, n1, d1) => r1 = some (.int (nI it)) ∧ RR (wV XI 1 (takeR V1 (vx XI 1))) J' L' n1 d1 0 0 0 m
set_option maxHeartbeats 4000000 in
set_option maxRecDepth 100000 in
theorem n_read {w : WG} {I : SI} {L : SL} {XI : SI} {n d r q p m : Nat} (hm : ML w) (h : RR XI I L n d r q p m) : Ok w mX5_read [.ref (gA w 0)] I L (QRM XI n d r q p m) := by
  obtain ⟨h1, h2, ⟨⟨h3, hm150⟩, h4, h5, hT⟩, h7⟩ := RR_iff.mp h
  refine Ok.of (by decide) (Nat.le_of_ble_eq_true rfl) (fun X hX => ?_)
  have hRV := m_readsVillage (A := I 0) (B := I 14) (C := I 15) (L := L) hm (vx XI 11) h5 hm150 hT
  rw [T3_id] at hRV
  refine g_aload_n hX dX5_read_0 rfl rfl ?_
  refine g_callV _ hX dX5_read_1 k_X5_176 ⟨by decide, by decide⟩ (by decide) hm.k0 rfl rfl hRV rfl (Nat.le_of_ble_eq_true rfl) (fun r9 I9 L9 hq9 => ?_)
  obtain ⟨e2, A1, B1, C1, e3, hf, hq9⟩ := hq9
  cases hρ : vilF (XI 23) m (vx XI 11) with
  | inl p0 =>
    rw [hρ] at hq9
    obtain ⟨e1, p19⟩ := hq9
    rw [e1, e2, e3]
    refine g_istore_n hX dX5_read_4 rfl (by decide) ?_
    refine g_iload_n hX dX5_read_5 rfl rfl ?_
    refine g_if_ge (tgt := 17) hX dX5_read_6 (by decide) (fun z => absurd z (by decide)) (fun _ => ?_)
    refine g_bipush (v := -10) hX dX5_read_9 (by decide) ?_
    refine g_aload_n hX dX5_read_11 rfl rfl ?_
    refine g_get5I hX 19 dX5_read_12 b_fl_X5_115 hm.k0 (by decide) ?_
    try simp (disch := decide) only [T3_0]
    rw [p19]
    refine g_isub hX dX5_read_15 ?_
    exact g_iret hX dX5_read_16 rfl (by unfold QRM; rw [hρ]; exact ⟨rfl, h.t3 hf⟩)
  | inr z =>
    obtain ⟨it, V1, n1, d1⟩ := z
    rw [hρ] at hq9
    obtain ⟨e1, hV⟩ := hq9
    rw [e1, e2, e3]
    obtain ⟨hit, hI⟩ := vilF_it hρ
    have hn4 := hI.1.2
    have hd7 := hI.2.1.2
    unfold QRM at hX; rw [hρ] at hX
    have loop2 := loop_up (n := d1) (P := fun i => ∀ K, PF I V1 n1 d1 B1 C1 K → PN V1 n1 K → PG V1 i K → G X w mX5_read K L 62 (lvO [(0, .ref (gA w 0)), (1, .int (nI it)), (2, .int (nI i))]) []) (fun i hi ih K hF hN hG => by
      refine g_iload_n hX dX5_read_62 rfl rfl ?_
      refine g_aload_n hX dX5_read_63 rfl rfl ?_
      refine g_get5I hX 21 dX5_read_64 b_fl_X5_152 hm.k0 (by decide) ?_
      try simp (disch := decide) only [rS_eq, rS_ne, pk_us, pk_un]
      rw [hF.2.2.2.1.2.2.2.1]
      refine g_icmp_ge (tgt := 119) hX dX5_read_67 (by decide) (fun c_67 => ?_) (fun c_67 => ?_)
      · have ei : i = d1 := Nat.le_antisymm hi (nle c_67 (by omega) (by omega))
        subst ei
        refine g_aload_n hX dX5_read_119 rfl rfl ?_
        refine g_aload_n hX dX5_read_120 rfl rfl ?_
        refine g_get5I hX 22 dX5_read_121 b_fl_X5_155 hm.k0 (by decide) ?_
        try simp (disch := decide) only [rS_eq, rS_ne, pk_us, pk_un]
        refine g_put5I hX 4 dX5_read_124 b_fl_X5_84 hm.k0 pf5_4 ?_
        try simp (disch := decide) only [rS_eq, rS_ne, pk_us, pk_un]
        refine g_iload_n hX dX5_read_127 rfl rfl ?_
        exact g_iret hX dX5_read_128 rfl (⟨rfl, h.read hI hF hN hG⟩)
      · have hlt := nnle c_67 (by omega) (by omega)
        refine g_aload_n hX dX5_read_70 rfl rfl ?_
        refine g_aload_n hX dX5_read_71 rfl rfl ?_
        refine g_get5R hX 24 dX5_read_72 b_fl_X5_52 hm.k0 (by decide) hm.q15 ?_
        refine g_iconst (v := 4) hX dX5_read_75 (by decide) ?_
        refine g_iload_n hX dX5_read_76 rfl rfl ?_
        refine g_imul hX dX5_read_77 ?_
        refine g_ialdN hX dX5_read_78 hm.k15 (⟨by rw [show (4 : Int32) = nI 4 from rfl, pk_mul], by omega⟩) (by decide) ?_
        try simp (disch := decide) only [rS_eq, rS_ne, pk_us, pk_un]
        rw [hF.2.2.2.1.2.1, (hV.2.2.2.2 i hlt).1]
        refine g_aload_n hX dX5_read_79 rfl rfl ?_
        refine g_get5R hX 24 dX5_read_80 b_fl_X5_52 hm.k0 (by decide) hm.q15 ?_
        refine g_iconst (v := 4) hX dX5_read_83 (by decide) ?_
        refine g_iload_n hX dX5_read_84 rfl rfl ?_
        refine g_imul hX dX5_read_85 ?_
        refine g_iconst (v := 1) hX dX5_read_86 (by decide) ?_
        refine g_iadd hX dX5_read_87 ?_
        refine g_ialdN hX dX5_read_88 hm.k15 (⟨by rw [show (4 : Int32) = nI 4 from rfl, pk_mul, nI_1], by omega⟩) (by decide) ?_
        try simp (disch := decide) only [rS_eq, rS_ne, pk_us, pk_un]
        rw [hF.2.2.2.1.2.1, (hV.2.2.2.2 i hlt).2.1]
        refine g_aload_n hX dX5_read_89 rfl rfl ?_
        refine g_get5R hX 24 dX5_read_90 b_fl_X5_52 hm.k0 (by decide) hm.q15 ?_
        refine g_iconst (v := 4) hX dX5_read_93 (by decide) ?_
        refine g_iload_n hX dX5_read_94 rfl rfl ?_
        refine g_imul hX dX5_read_95 ?_
        refine g_iconst (v := 2) hX dX5_read_96 (by decide) ?_
        refine g_iadd hX dX5_read_97 ?_
        refine g_ialdN hX dX5_read_98 hm.k15 (⟨by rw [show (4 : Int32) = nI 4 from rfl, pk_mul, show (2 : Int32) = nI 2 from rfl, nI_add], by omega⟩) (by decide) ?_
        try simp (disch := decide) only [rS_eq, rS_ne, pk_us, pk_un]
        rw [hF.2.2.2.1.2.1, (hV.2.2.2.2 i hlt).2.2.1]
        refine g_aload_n hX dX5_read_99 rfl rfl ?_
        refine g_get5R hX 24 dX5_read_100 b_fl_X5_52 hm.k0 (by decide) hm.q15 ?_
        refine g_iconst (v := 4) hX dX5_read_103 (by decide) ?_
        refine g_iload_n hX dX5_read_104 rfl rfl ?_
        refine g_imul hX dX5_read_105 ?_
        refine g_iconst (v := 3) hX dX5_read_106 (by decide) ?_
        refine g_iadd hX dX5_read_107 ?_
        refine g_ialdN hX dX5_read_108 hm.k15 (⟨by rw [show (4 : Int32) = nI 4 from rfl, pk_mul, show (3 : Int32) = nI 3 from rfl, nI_add], by omega⟩) (by decide) ?_
        try simp (disch := decide) only [rS_eq, rS_ne, pk_us, pk_un]
        rw [hF.2.2.2.1.2.1, (hV.2.2.2.2 i hlt).2.2.2]
        refine g_callV _ hX dX5_read_109 k_X5_108 ⟨by decide, by decide⟩ (by decide) hm.k0 rfl rfl (m_addDog hm hG.1 (by omega) _ _ _ _) rfl (Nat.le_of_ble_eq_true rfl) (fun r1 I1 L1 hq => ?_)
        obtain ⟨e1, e2, e3⟩ := hq
        subst e1; rw [e2, e3]
        refine g_pop hX dX5_read_112 rfl ?_
        refine g_iinc hX dX5_read_113 rfl (d := 1) (by decide) ?_
        refine g_goto (tgt := 62) hX dX5_read_116 (by decide) ?_
        exact G.at (ih hlt _ hF.dg hN.dg hG.dg) ⟨rfl, rfl, vI (nI_1 i), trivial⟩
      )
    have loop1 := loop_up (n := n1) (P := fun i => ∀ K, PF I V1 n1 d1 B1 C1 K → PN V1 i K → PG V1 0 K → G X w mX5_read K L 23 (lvO [(0, .ref (gA w 0)), (1, .int (nI it)), (2, .int (nI i))]) []) (fun i hi ih K hF hN hG => by
      refine g_iload_n hX dX5_read_23 rfl rfl ?_
      refine g_aload_n hX dX5_read_24 rfl rfl ?_
      refine g_get5I hX 20 dX5_read_25 b_fl_X5_145 hm.k0 (by decide) ?_
      try simp (disch := decide) only [rS_eq, rS_ne, pk_us, pk_un]
      rw [hF.2.2.2.1.2.2.1]
      refine g_icmp_ge (tgt := 60) hX dX5_read_28 (by decide) (fun c_28 => ?_) (fun c_28 => ?_)
      · have ei : i = n1 := Nat.le_antisymm hi (nle c_28 (by omega) (by omega))
        subst ei
        refine g_iconst (v := 0) hX dX5_read_60 (by decide) ?_
        refine g_istore_n hX dX5_read_61 rfl (by decide) ?_
        exact G.at (loop2 0 (Nat.zero_le _) K hF hN hG) ⟨rfl, rfl, rfl, trivial⟩
      · have hlt := nnle c_28 (by omega) (by omega)
        refine g_aload_n hX dX5_read_31 rfl rfl ?_
        refine g_aload_n hX dX5_read_32 rfl rfl ?_
        refine g_get5R hX 23 dX5_read_33 b_fl_X5_49 hm.k0 (by decide) hm.q14 ?_
        refine g_iconst (v := 2) hX dX5_read_36 (by decide) ?_
        refine g_iload_n hX dX5_read_37 rfl rfl ?_
        refine g_imul hX dX5_read_38 ?_
        refine g_ialdN hX dX5_read_39 hm.k14 (⟨by rw [show (2 : Int32) = nI 2 from rfl, pk_mul], by omega⟩) (by decide) ?_
        try simp (disch := decide) only [rS_eq, rS_ne, pk_us, pk_un]
        rw [hF.2.2.2.1.1, (hV.2.2.2.1 i hlt).1]
        refine g_aload_n hX dX5_read_40 rfl rfl ?_
        refine g_get5R hX 23 dX5_read_41 b_fl_X5_49 hm.k0 (by decide) hm.q14 ?_
        refine g_iconst (v := 2) hX dX5_read_44 (by decide) ?_
        refine g_iload_n hX dX5_read_45 rfl rfl ?_
        refine g_imul hX dX5_read_46 ?_
        refine g_iconst (v := 1) hX dX5_read_47 (by decide) ?_
        refine g_iadd hX dX5_read_48 ?_
        refine g_ialdN hX dX5_read_49 hm.k14 (⟨by rw [show (2 : Int32) = nI 2 from rfl, pk_mul, nI_1], by omega⟩) (by decide) ?_
        try simp (disch := decide) only [rS_eq, rS_ne, pk_us, pk_un]
        rw [hF.2.2.2.1.1, (hV.2.2.2.1 i hlt).2]
        refine g_callV _ hX dX5_read_50 k_X5_104 ⟨by decide, by decide⟩ (by decide) hm.k0 rfl rfl (m_addMan hm hN.1 (by omega) _ _) rfl (Nat.le_of_ble_eq_true rfl) (fun r1 I1 L1 hq => ?_)
        obtain ⟨e1, e2, e3⟩ := hq
        subst e1; rw [e2, e3]
        refine g_pop hX dX5_read_53 rfl ?_
        refine g_iinc hX dX5_read_54 rfl (d := 1) (by decide) ?_
        refine g_goto (tgt := 23) hX dX5_read_57 (by decide) ?_
        exact G.at (ih hlt _ hF.mn hN.mn hG.mn) ⟨rfl, rfl, vI (nI_1 i), trivial⟩
      )
    refine g_istore_n hX dX5_read_4 rfl (by decide) ?_
    refine g_iload_n hX dX5_read_5 rfl rfl ?_
    refine g_if_ge (tgt := 17) hX dX5_read_6 (by decide) (fun c_6 => ?_) (fun c_6 => ?_)
    · refine g_aload_n hX dX5_read_17 rfl rfl ?_
      refine g_callV _ hX dX5_read_18 k_X5_71 ⟨by decide, by decide⟩ (by decide) hm.k0 rfl rfl (m_begin hm) rfl (Nat.le_of_ble_eq_true rfl) (fun r1 I1 L1 hq => ?_)
      obtain ⟨e1, e2, e3⟩ := hq
      subst e1; rw [e2, e3]
      refine g_iconst (v := 0) hX dX5_read_21 (by decide) ?_
      refine g_istore_n hX dX5_read_22 rfl (by decide) ?_
      obtain ⟨hb1, hb2, hb3⟩ := PF.bg hf hV
      exact G.at (loop1 0 (Nat.zero_le _) _ hb1 hb2 hb3) ⟨rfl, rfl, rfl, trivial⟩
    · exact absurd (nI_pos' (by omega)) c_6
