/-! what stays between two calls of the law -/
def cnt (I : SI) : Nat := (if I 1027 0 = -1 then 0 else 1) + (if I 1027 1 = -1 then 0 else 1)
theorem cnt_le (I : SI) : cnt I ≤ 2 := by unfold cnt; split <;> split <;> omega
def TIE (w : WG) (I : SI) (t : Nat) : Prop := 27 ≤ (gK w).length ∧ (gK w).length ≤ 27 + t + 10 * cnt I ∧ (∀ i, i < 2 → (I 1027 i = -1 ∧ gP w 21 i = none) ∨ ∃ u, I 1027 i = nI u ∧ 37 + u ≤ (gK w).length ∧ gP w 21 i = some (gA w (27 + u)) ∧ VL w (27 + u)) ∧ ∀ (i j u v : Nat), i < 2 → j < 2 → i ≠ j → I 1027 i = nI u → I 1027 j = nI v → u < 900 → v < 900 → u + 10 ≤ v ∨ v + 10 ≤ u
theorem TIE.up {w : WG} {I I' : SI} {t : Nat} (h : TIE w I t) (e : I' 1027 = I 1027) : TIE w I' (t + 1) := by
  have ec : cnt I' = cnt I := by unfold cnt; rw [e]
  obtain ⟨h1, h2, h3, h4⟩ := h
  refine ⟨h1, by rw [ec]; omega, ?_, ?_⟩
  · rw [e]; exact h3
  · rw [e]; exact h4
theorem TIE.lt {w : WG} {I : SI} {t : Nat} (h : TIE w I t) (ht : t ≤ 512) : (gK w).length ≤ 559 := by
  have := cnt_le I
  have := h.2.1
  omega
theorem RR.gh2 {XI XI' I : SI} {L : SL} {n d r q p m : Nat} (h : RR XI I L n d r q p m) (h0 : ∀ o, o < 24 → (o < 11 ∨ 20 < o) → XI' o = XI o) (hg : XI' 1027 = XI 1027) (hv : ∀ i u, i < 2 → XI 1027 i = nI u → u < 900 → ∀ j, j < 10 → XI' (27 + u + j) = XI (27 + u + j)) : RR XI' I L n d r q p m := by
  obtain ⟨h1, h2, ⟨h3, h4, h5, h6⟩, h7⟩ := RR_iff.mp h
  have e : ∀ j, j < 10 → vx XI' 1 j = vx XI 1 j := fun j hj => h0 (1 + j) (by omega) (by omega)
  have jr : ∀ I : SI, JA I I := fun I => ⟨⟨rfl, rfl, rfl, rfl, rfl, rfl⟩, fun _ _ => ⟨rfl, rfl, rfl⟩, fun _ _ => ⟨rfl, rfl, rfl, rfl⟩, fun _ _ => ⟨rfl, rfl, rfl, rfl⟩, fun _ _ => rfl⟩
  refine RR_iff.mpr ⟨h1.cg (VA.of e), h2.cg h1.b (VA.of e) (jr I), ⟨?_, ?_, h5, ?_⟩, ?_⟩
  · rw [h0 22 (by decide) (by decide)]; exact h3
  · rw [h0 23 (by decide) (by decide)]; exact h4
  · rw [h0 23 (by decide) (by decide)]; exact h6
  · obtain ⟨r1, r2, r3, r4, r5, r6⟩ := h7
    unfold RF
    rw [h0 0 (by decide) (by decide)]
    refine ⟨r1, r2, r3, r4, r5, fun i hi => ?_⟩
    have eg : X27 XI' 1000 i = X27 XI 1000 i := congrFun hg i
    rcases r6 i hi with ⟨a1, a2⟩ | ⟨a1, u, a2, a3, n, d, r, q, p, a4, a5⟩
    · exact Or.inl ⟨eg.trans a1, a2⟩
    · have ev : ∀ j, j < 10 → vx (X27 XI') u j = vx (X27 XI) u j := fun j hj => by rw [vx27, vx27]; exact hv i u hi a2 a3 j hj
      exact Or.inr ⟨a1, u, eg.trans a2, a3, n, d, r, q, p, a4.cg (VA.of ev), a5.cg a4.b (VA.of ev) (jr _)⟩
/-- one call of the law, on both sides -/
def STEP (w : WG) (I : SI) (L : SL) (v : WG) (J : SI) (K : SL) (t : Nat) (M M' : MD) (av : List Value) (a : Value) : Prop := ∃ (C S : Nat) (Q : QW), (C ≤ 10 ∧ S ≤ 159) ∧ OkM w M (.ref (gA w 0) :: av) I L Q C S ∧ ∀ (r : Option Value) (w' : WG) (I' : SI) (L' : SL), exW w w' → Q r w' I' L' → r = some a ∧ gA w' 0 = gA w 0 ∧ ∃ I2, wsO w' I2 L' = wsO w' I' L' ∧ XL w' ∧ Ok v M' (.ref (gA v 0) :: av) J K (fun r2 J' K' => r2 = some a ∧ TIE w' I2 (t + 1) ∧ ∃ n d r q p m, RR I2 J' K' n d r q p m)
theorem st_qx {w : WG} {I : SI} {L : SL} {v : WG} {J : SI} {K : SL} {t : Nat} {M M' : MD} {av : List Value} {sp : Value × SI} {a : Value} (hx : Ok w M (.ref (gA w 0) :: av) I L (QX sp L)) (hn : Ok v M' (.ref (gA v 0) :: av) J K (QM sp)) (h27 : sp.2 1027 = I 1027) (ha : sp.1 = a) (hw : XL w) (ht : TIE w I t) : STEP w I L v J K t M M' av a := by
  subst ha
  refine ⟨0, 0, _, ⟨by decide, by decide⟩, OkM.ofOk hx, fun r w' I' L' hex hq => ?_⟩
  obtain ⟨rfl, h1, h2, h3⟩ := hq
  refine ⟨h1, rfl, I', rfl, hw, hn.mono (fun r2 J' K' h => ?_)⟩
  obtain ⟨g1, n, d, r, q, p, m, g2⟩ := h
  have e27 : I' 1027 = sp.2 1027 := h3 1027 (Or.inr (by decide))
  exact ⟨g1, ht.up (e27.trans h27), n, d, r, q, p, m, g2.gh2 (fun o h24 _ => h3 o (Or.inl h24)) e27 (fun i u _ _ _ j _ => h3 _ (Or.inr (by omega)))⟩
set_option maxHeartbeats 4000000 in
set_option maxRecDepth 100000 in
theorem st_village {w : WG} {I : SI} {L : SL} {v : WG} {J : SI} {K : SL} {t : Nat} {n d r q p m : Nat} (hw : XL w) (hm : ML v) (ht : TIE w I t) (h : RR I J K n d r q p m)  : ∃ x : Int32, STEP w I L v J K t mX4_village mX5_village [] (.int x) := by
  obtain ⟨x, hx⟩ : ∃ x : Int32, (spVillage I ).1 = .int x := by unfold spVillage; (repeat' split) <;> exact ⟨_, rfl⟩
  refine ⟨x, st_qx (sp := spVillage I ) (x_village hw h.1.1 ) (n_village hm h ) ?_ hx hw ht⟩
  unfold spVillage
  (repeat' split) <;> first | rfl | (simp (disch := decide) only [rfX, wV_out, rS_ne]; done)
set_option maxHeartbeats 4000000 in
set_option maxRecDepth 100000 in
theorem st_man {w : WG} {I : SI} {L : SL} {v : WG} {J : SI} {K : SL} {t : Nat} {n d r q p m : Nat} (hw : XL w) (hm : ML v) (ht : TIE w I t) (h : RR I J K n d r q p m) (b y : Int32) : ∃ x : Int32, STEP w I L v J K t mX4_man mX5_man [.int b, .int y] (.int x) := by
  obtain ⟨x, hx⟩ : ∃ x : Int32, (spMan I n b y).1 = .int x := by unfold spMan; (repeat' split) <;> exact ⟨_, rfl⟩
  refine ⟨x, st_qx (sp := spMan I n b y) (x_man hw h.1.1 b y) (n_man hm h b y) ?_ hx hw ht⟩
  unfold spMan
  (repeat' split) <;> first | rfl | (simp (disch := decide) only [rfX, wV_out, rS_ne]; done)
set_option maxHeartbeats 4000000 in
set_option maxRecDepth 100000 in
theorem st_dog {w : WG} {I : SI} {L : SL} {v : WG} {J : SI} {K : SL} {t : Nat} {n d r q p m : Nat} (hw : XL w) (hm : ML v) (ht : TIE w I t) (h : RR I J K n d r q p m) (b y c e : Int32) : ∃ x : Int32, STEP w I L v J K t mX4_dog mX5_dog [.int b, .int y, .int c, .int e] (.int x) := by
  obtain ⟨x, hx⟩ : ∃ x : Int32, (spDog I d b y c e).1 = .int x := by unfold spDog; (repeat' split) <;> exact ⟨_, rfl⟩
  refine ⟨x, st_qx (sp := spDog I d b y c e) (x_dog hw h.1.1 b y c e) (n_dog hm h b y c e) ?_ hx hw ht⟩
  unfold spDog
  (repeat' split) <;> first | rfl | (simp (disch := decide) only [rfX, wV_out, rS_ne]; done)
set_option maxHeartbeats 4000000 in
set_option maxRecDepth 100000 in
theorem st_type {w : WG} {I : SI} {L : SL} {v : WG} {J : SI} {K : SL} {t : Nat} {n d r q p m : Nat} (hw : XL w) (hm : ML v) (ht : TIE w I t) (h : RR I J K n d r q p m) (b : Int32) : ∃ x : Int32, STEP w I L v J K t mX4_type mX5_type [.int b] (.int x) := by
  obtain ⟨x, hx⟩ : ∃ x : Int32, (spType I m b).1 = .int x := by unfold spType; (repeat' split) <;> exact ⟨_, rfl⟩
  refine ⟨x, st_qx (sp := spType I m b) (x_type hw h.1.2.2.2.1.1 h.1.2.2.2.1.2 b) (n_type hm h b) ?_ hx hw ht⟩
  unfold spType
  (repeat' split) <;> first | rfl | (simp (disch := decide) only [rfX, wV_out, rS_ne]; done)
set_option maxHeartbeats 4000000 in
set_option maxRecDepth 100000 in
theorem st_clear {w : WG} {I : SI} {L : SL} {v : WG} {J : SI} {K : SL} {t : Nat} {n d r q p m : Nat} (hw : XL w) (hm : ML v) (ht : TIE w I t) (h : RR I J K n d r q p m)  : ∃ x : Int32, STEP w I L v J K t mX4_clear mX5_clear [] (.int x) := by
  obtain ⟨x, hx⟩ : ∃ x : Int32, (spClear I ).1 = .int x := by unfold spClear; (repeat' split) <;> exact ⟨_, rfl⟩
  refine ⟨x, st_qx (sp := spClear I ) (x_clear hw  ) (n_clear hm h ) ?_ hx hw ht⟩
  unfold spClear
  (repeat' split) <;> first | rfl | (simp (disch := decide) only [rfX, wV_out, rS_ne]; done)
set_option maxHeartbeats 4000000 in
set_option maxRecDepth 100000 in
theorem st_bribe {w : WG} {I : SI} {L : SL} {v : WG} {J : SI} {K : SL} {t : Nat} {n d r q p m : Nat} (hw : XL w) (hm : ML v) (ht : TIE w I t) (h : RR I J K n d r q p m) (b c : Int32) : ∃ x : Int32, STEP w I L v J K t mX4_bribe mX5_bribe [.int b, .int c] (.int x) := by
  obtain ⟨x, hx⟩ : ∃ x : Int32, (spBribe I p b c).1 = .int x := by unfold spBribe; (repeat' split) <;> exact ⟨_, rfl⟩
  refine ⟨x, st_qx (sp := spBribe I p b c) (x_bribe hw h.1.1 h.1.2.2.1.1 h.1.2.2.1.2 b c) (n_bribe hm h b c) ?_ hx hw ht⟩
  unfold spBribe
  (repeat' split) <;> first | rfl | (simp (disch := decide) only [rfX, wV_out, rS_ne]; done)
set_option maxHeartbeats 4000000 in
set_option maxRecDepth 100000 in
theorem st_round {w : WG} {I : SI} {L : SL} {v : WG} {J : SI} {K : SL} {t : Nat} {n d r q p m : Nat} (hw : XL w) (hm : ML v) (ht : TIE w I t) (h : RR I J K n d r q p m) (b : Int32) : ∃ x : Int32, STEP w I L v J K t mX4_round mX5_round [.int b] (.int x) := by
  obtain ⟨x, hx⟩ : ∃ x : Int32, (spRound I n d r p b).1 = .int x := by unfold spRound; (repeat' split) <;> exact ⟨_, rfl⟩
  refine ⟨x, st_qx (sp := spRound I n d r p b) (x_round hw h.1.1 h.1.2.2.1.1 h.1.2.2.1.2 b) (n_round hm h b) ?_ hx hw ht⟩
  unfold spRound
  (repeat' split) <;> first | rfl | (simp (disch := decide) only [rfX, wV_out, rS_ne]; done)
set_option maxHeartbeats 4000000 in
set_option maxRecDepth 100000 in
theorem st_undo {w : WG} {I : SI} {L : SL} {v : WG} {J : SI} {K : SL} {t : Nat} {n d r q p m : Nat} (hw : XL w) (hm : ML v) (ht : TIE w I t) (h : RR I J K n d r q p m)  : ∃ x : Int32, STEP w I L v J K t mX4_undo mX5_undo [] (.int x) := by
  obtain ⟨x, hx⟩ : ∃ x : Int32, (spUndo I p ).1 = .int x := by unfold spUndo; (repeat' split) <;> exact ⟨_, rfl⟩
  refine ⟨x, st_qx (sp := spUndo I p ) (x_undo hw h.1.2.2.1.1 h.1.2.2.1.2 ) (n_undo hm h ) ?_ hx hw ht⟩
  unfold spUndo
  (repeat' split) <;> first | rfl | (simp (disch := decide) only [rfX, wV_out, rS_ne]; done)
set_option maxHeartbeats 4000000 in
set_option maxRecDepth 100000 in
theorem st_of {w : WG} {I : SI} {L : SL} {v : WG} {J : SI} {K : SL} {t : Nat} {n d r q p m : Nat} (hw : XL w) (hm : ML v) (ht : TIE w I t) (h : RR I J K n d r q p m) (b c : Int32) : ∃ x : Int32, STEP w I L v J K t mX4_of mX5_of [.int b, .int c] (.int x) := by
  obtain ⟨x, hx⟩ : ∃ x : Int32, (spOf I b c).1 = .int x := by unfold spOf; (repeat' split) <;> exact ⟨_, rfl⟩
  refine ⟨x, st_qx (sp := spOf I b c) (x_of hw h.1.1 b c) (n_of hm h b c) ?_ hx hw ht⟩
  unfold spOf
  (repeat' split) <;> first | rfl | (simp (disch := decide) only [rfX, wV_out, rS_ne]; done)
set_option maxHeartbeats 4000000 in
set_option maxRecDepth 100000 in
theorem st_about {w : WG} {I : SI} {L : SL} {v : WG} {J : SI} {K : SL} {t : Nat} {n d r q p m : Nat} (hw : XL w) (hm : ML v) (ht : TIE w I t) (h : RR I J K n d r q p m) (b c : Int32) : ∃ x : Int32, STEP w I L v J K t mX4_about mX5_about [.int b, .int c] (.int x) := by
  obtain ⟨x, hx⟩ : ∃ x : Int32, (spAbout I b c).1 = .int x := by unfold spAbout; (repeat' split) <;> exact ⟨_, rfl⟩
  refine ⟨x, st_qx (sp := spAbout I b c) (x_about hw h.1.1 b c) (n_about hm h b c) ?_ hx hw ht⟩
  unfold spAbout
  (repeat' split) <;> first | rfl | (simp (disch := decide) only [rfX, wV_out, rS_ne]; done)
set_option maxHeartbeats 4000000 in
set_option maxRecDepth 100000 in
theorem st_bitten {w : WG} {I : SI} {L : SL} {v : WG} {J : SI} {K : SL} {t : Nat} {n d r q p m : Nat} (hw : XL w) (hm : ML v) (ht : TIE w I t) (h : RR I J K n d r q p m) (b c : Int32) : ∃ x : Int32, STEP w I L v J K t mX4_bitten mX5_bitten [.int b, .int c] (.int x) := by
  obtain ⟨x, hx⟩ : ∃ x : Int32, (spBitten I n d r b c).1 = .int x := by unfold spBitten; (repeat' split) <;> exact ⟨_, rfl⟩
  refine ⟨x, st_qx (sp := spBitten I n d r b c) (x_bitten hw h.1.1 b c) (n_bitten hm h b c) ?_ hx hw ht⟩
  unfold spBitten
  (repeat' split) <;> first | rfl | (simp (disch := decide) only [rfX, wV_out, rS_ne]; done)
set_option maxHeartbeats 4000000 in
set_option maxRecDepth 100000 in
theorem st_then {w : WG} {I : SI} {L : SL} {v : WG} {J : SI} {K : SL} {t : Nat} {n d r q p m : Nat} (hw : XL w) (hm : ML v) (ht : TIE w I t) (h : RR I J K n d r q p m) (b c : Int32) : ∃ x : Int32, STEP w I L v J K t mX4_then mX5_then [.int b, .int c] (.int x) := by
  obtain ⟨x, hx⟩ : ∃ x : Int32, (spThen I n d r b c).1 = .int x := by unfold spThen; (repeat' split) <;> exact ⟨_, rfl⟩
  refine ⟨x, st_qx (sp := spThen I n d r b c) (x_then hw h.1.1 b c) (n_then hm h b c) ?_ hx hw ht⟩
  unfold spThen
  (repeat' split) <;> first | rfl | (simp (disch := decide) only [rfX, wV_out, rS_ne]; done)
set_option maxHeartbeats 4000000 in
set_option maxRecDepth 100000 in
theorem st_won {w : WG} {I : SI} {L : SL} {v : WG} {J : SI} {K : SL} {t : Nat} {n d r q p m : Nat} (hw : XL w) (hm : ML v) (ht : TIE w I t) (h : RR I J K n d r q p m) (b c : Int32) : ∃ x : Int32, STEP w I L v J K t mX4_won mX5_won [.int b, .int c] (.int x) := by
  obtain ⟨x, hx⟩ : ∃ x : Int32, (spWon I n d r b c).1 = .int x := by unfold spWon; (repeat' split) <;> exact ⟨_, rfl⟩
  refine ⟨x, st_qx (sp := spWon I n d r b c) (x_won hw h.1.1 b c) (n_won hm h b c) ?_ hx hw ht⟩
  unfold spWon
  (repeat' split) <;> first | rfl | (simp (disch := decide) only [rfX, wV_out, rS_ne]; done)
set_option maxHeartbeats 4000000 in
set_option maxRecDepth 100000 in
theorem st_letters {w : WG} {I : SI} {L : SL} {v : WG} {J : SI} {K : SL} {t : Nat} {n d r q p m : Nat} (hw : XL w) (hm : ML v) (ht : TIE w I t) (h : RR I J K n d r q p m)  : ∃ x : Int32, STEP w I L v J K t mX4_letters mX5_letters [] (.int x) := by
  obtain ⟨x, hx⟩ : ∃ x : Int32, (spLetters I n d r ).1 = .int x := by unfold spLetters; (repeat' split) <;> exact ⟨_, rfl⟩
  refine ⟨x, st_qx (sp := spLetters I n d r ) (x_letters hw h.1.1 ) (n_letters hm h ) ?_ hx hw ht⟩
  unfold spLetters
  (repeat' split) <;> first | rfl | (simp (disch := decide) only [rfX, wV_out, rS_ne]; done)
set_option maxHeartbeats 4000000 in
set_option maxRecDepth 100000 in
theorem st_bribes {w : WG} {I : SI} {L : SL} {v : WG} {J : SI} {K : SL} {t : Nat} {n d r q p m : Nat} (hw : XL w) (hm : ML v) (ht : TIE w I t) (h : RR I J K n d r q p m) (b c : Int32) : ∃ x : Int32, STEP w I L v J K t mX4_bribes mX5_bribes [.int b, .int c] (.int x) := by
  obtain ⟨x, hx⟩ : ∃ x : Int32, (spBribes I n d r b c).1 = .int x := by unfold spBribes; (repeat' split) <;> exact ⟨_, rfl⟩
  refine ⟨x, st_qx (sp := spBribes I n d r b c) (x_bribes hw h.1.1 b c) (n_bribes hm h b c) ?_ hx hw ht⟩
  unfold spBribes
  (repeat' split) <;> first | rfl | (simp (disch := decide) only [rfX, wV_out, rS_ne]; done)
set_option maxHeartbeats 4000000 in
set_option maxRecDepth 100000 in
theorem st_still {w : WG} {I : SI} {L : SL} {v : WG} {J : SI} {K : SL} {t : Nat} {n d r q p m : Nat} (hw : XL w) (hm : ML v) (ht : TIE w I t) (h : RR I J K n d r q p m) (b : Int32) : ∃ x : Int32, STEP w I L v J K t mX4_still mX5_still [.int b] (.int x) := by
  obtain ⟨x, hx⟩ : ∃ x : Int32, (spStill I n d r b).1 = .int x := by unfold spStill; (repeat' split) <;> exact ⟨_, rfl⟩
  refine ⟨x, st_qx (sp := spStill I n d r b) (x_still hw h.1.1 b) (n_still hm h b) ?_ hx hw ht⟩
  unfold spStill
  (repeat' split) <;> first | rfl | (simp (disch := decide) only [rfX, wV_out, rS_ne]; done)
set_option maxHeartbeats 4000000 in
set_option maxRecDepth 100000 in
theorem st_first {w : WG} {I : SI} {L : SL} {v : WG} {J : SI} {K : SL} {t : Nat} {n d r q p m : Nat} (hw : XL w) (hm : ML v) (ht : TIE w I t) (h : RR I J K n d r q p m) (b c : Int32) : ∃ x : Int32, STEP w I L v J K t mX4_first mX5_first [.int b, .int c] (.int x) := by
  obtain ⟨x, hx⟩ : ∃ x : Int32, (spFirst I n d b c).1 = .int x := by unfold spFirst; (repeat' split) <;> exact ⟨_, rfl⟩
  refine ⟨x, st_qx (sp := spFirst I n d b c) (x_first hw h.1.1 b c) (n_first hm h b c) ?_ hx hw ht⟩
  unfold spFirst
  (repeat' split) <;> first | rfl | (simp (disch := decide) only [rfX, wV_out, rS_ne]; done)
set_option maxHeartbeats 4000000 in
set_option maxRecDepth 100000 in
theorem st_slept {w : WG} {I : SI} {L : SL} {v : WG} {J : SI} {K : SL} {t : Nat} {n d r q p m : Nat} (hw : XL w) (hm : ML v) (ht : TIE w I t) (h : RR I J K n d r q p m) (b c e f : Int32) : ∃ x : Int32, STEP w I L v J K t mX4_slept mX5_slept [.int b, .int c, .int e, .int f] (.int x) := by
  obtain ⟨x, hx⟩ : ∃ x : Int32, (spSlept I n d b c e f).1 = .int x := by unfold spSlept; (repeat' split) <;> exact ⟨_, rfl⟩
  refine ⟨x, st_qx (sp := spSlept I n d b c e f) (x_slept hw h.1.1 b c e f) (n_slept hm h b c e f) ?_ hx hw ht⟩
  unfold spSlept
  (repeat' split) <;> first | rfl | (simp (disch := decide) only [rfX, wV_out, rS_ne]; done)
set_option maxHeartbeats 4000000 in
set_option maxRecDepth 100000 in
theorem st_note {w : WG} {I : SI} {L : SL} {v : WG} {J : SI} {K : SL} {t : Nat} {n d r q p m : Nat} (hw : XL w) (hm : ML v) (ht : TIE w I t) (h : RR I J K n d r q p m) (b c e f : Int32) : ∃ x : Int32, STEP w I L v J K t mX4_note mX5_note [.int b, .int c, .int e, .int f] (.int x) := by
  obtain ⟨x, hx⟩ : ∃ x : Int32, (spNote I q b c e f).1 = .int x := by unfold spNote; (repeat' split) <;> exact ⟨_, rfl⟩
  refine ⟨x, st_qx (sp := spNote I q b c e f) (x_note hw h.1.2.1.1 h.1.2.1.2 b c e f) (n_note hm h b c e f) ?_ hx hw ht⟩
  unfold spNote
  (repeat' split) <;> first | rfl | (simp (disch := decide) only [rfX, wV_out, rS_ne]; done)
set_option maxHeartbeats 4000000 in
set_option maxRecDepth 100000 in
theorem st_forget {w : WG} {I : SI} {L : SL} {v : WG} {J : SI} {K : SL} {t : Nat} {n d r q p m : Nat} (hw : XL w) (hm : ML v) (ht : TIE w I t) (h : RR I J K n d r q p m)  : ∃ x : Int32, STEP w I L v J K t mX4_forget mX5_forget [] (.int x) := by
  obtain ⟨x, hx⟩ : ∃ x : Int32, (spForget I ).1 = .int x := by unfold spForget; (repeat' split) <;> exact ⟨_, rfl⟩
  refine ⟨x, st_qx (sp := spForget I ) (x_forget hw  ) (n_forget hm h ) ?_ hx hw ht⟩
  unfold spForget
  (repeat' split) <;> first | rfl | (simp (disch := decide) only [rfX, wV_out, rS_ne]; done)
set_option maxHeartbeats 4000000 in
set_option maxRecDepth 100000 in
theorem st_is {w : WG} {I : SI} {L : SL} {v : WG} {J : SI} {K : SL} {t : Nat} {n d r q p m : Nat} (hw : XL w) (hm : ML v) (ht : TIE w I t) (h : RR I J K n d r q p m) (b : Int32) : ∃ x : Int32, STEP w I L v J K t mX4_is mX5_is [.int b] (.int x) := by
  obtain ⟨x, hx⟩ : ∃ x : Int32, (spIs I q b).1 = .int x := by unfold spIs; (repeat' split) <;> exact ⟨_, rfl⟩
  refine ⟨x, st_qx (sp := spIs I q b) (x_is hw h.1.2.1.1 h.1.2.1.2 b) (n_is hm h b) ?_ hx hw ht⟩
  unfold spIs
  (repeat' split) <;> first | rfl | (simp (disch := decide) only [rfX, wV_out, rS_ne]; done)
set_option maxHeartbeats 4000000 in
set_option maxRecDepth 100000 in
theorem st_send {w : WG} {I : SI} {L : SL} {v : WG} {J : SI} {K : SL} {t : Nat} {n d r q p m : Nat} (hw : XL w) (hm : ML v) (ht : TIE w I t) (h : RR I J K n d r q p m) (b : Int32) : ∃ x : Int32, STEP w I L v J K t mX4_send mX5_send [.int b] (.int x) := by
  obtain ⟨x, hx⟩ : ∃ x : Int32, (spSend I q b).1 = .int x := by unfold spSend; (repeat' split) <;> exact ⟨_, rfl⟩
  refine ⟨x, st_qx (sp := spSend I q b) (x_send hw h.1.2.1.1 h.1.2.1.2 b) (n_send hm h b) ?_ hx hw ht⟩
  unfold spSend
  (repeat' split) <;> first | rfl | (simp (disch := decide) only [rfX, wV_out, rS_ne]; done)
set_option maxHeartbeats 4000000 in
set_option maxRecDepth 100000 in
theorem st_two {w : WG} {I : SI} {L : SL} {v : WG} {J : SI} {K : SL} {t : Nat} {n d r q p m : Nat} (hw : XL w) (hm : ML v) (ht : TIE w I t) (h : RR I J K n d r q p m) (b c e : Int32) : ∃ x : Int32, STEP w I L v J K t mX4_two mX5_two [.int b, .int c, .int e] (.int x) := by
  obtain ⟨x, hx⟩ : ∃ x : Int32, (spTwo I n d r b c e).1 = .int x := by unfold spTwo; (repeat' split) <;> exact ⟨_, rfl⟩
  refine ⟨x, st_qx (sp := spTwo I n d r b c e) (x_two hw h.1.1 b c e) (n_two hm h b c e) ?_ hx hw ht⟩
  unfold spTwo
  (repeat' split) <;> first | rfl | (simp (disch := decide) only [rfX, wV_out, rS_ne]; done)
set_option maxHeartbeats 4000000 in
set_option maxRecDepth 100000 in
theorem st_strays {w : WG} {I : SI} {L : SL} {v : WG} {J : SI} {K : SL} {t : Nat} {n d r q p m : Nat} (hw : XL w) (hm : ML v) (ht : TIE w I t) (h : RR I J K n d r q p m) (b c : Int32) : ∃ x : Int32, STEP w I L v J K t mX4_strays mX5_strays [.int b, .int c] (.int x) := by
  obtain ⟨x, hx⟩ : ∃ x : Int32, (spStrays I n d r b c).1 = .int x := by unfold spStrays; (repeat' split) <;> exact ⟨_, rfl⟩
  refine ⟨x, st_qx (sp := spStrays I n d r b c) (x_strays hw h.1.1 b c) (n_strays hm h b c) ?_ hx hw ht⟩
  unfold spStrays
  (repeat' split) <;> first | rfl | (simp (disch := decide) only [rfX, wV_out, rS_ne]; done)
set_option maxHeartbeats 4000000 in
set_option maxRecDepth 100000 in
theorem st_villages {w : WG} {I : SI} {L : SL} {v : WG} {J : SI} {K : SL} {t : Nat} {n d r q p m : Nat} (hw : XL w) (hm : ML v) (ht : TIE w I t) (h : RR I J K n d r q p m) (b c : Int32) : ∃ x : Int32, STEP w I L v J K t mX4_villages mX5_villages [.int b, .int c] (.int x) := by
  obtain ⟨x, hx⟩ : ∃ x : Int32, (spVillages I n d r b c).1 = .int x := by unfold spVillages; (repeat' split) <;> exact ⟨_, rfl⟩
  refine ⟨x, st_qx (sp := spVillages I n d r b c) (x_villages hw h.1.1 b c) (n_villages hm h b c) ?_ hx hw ht⟩
  unfold spVillages
  (repeat' split) <;> first | rfl | (simp (disch := decide) only [rfX, wV_out, rS_ne]; done)
set_option maxHeartbeats 4000000 in
set_option maxRecDepth 100000 in
theorem st_part {w : WG} {I : SI} {L : SL} {v : WG} {J : SI} {K : SL} {t : Nat} {n d r q p m : Nat} (hw : XL w) (hm : ML v) (ht : TIE w I t) (h : RR I J K n d r q p m) (b : Int32) : ∃ x : Int64, STEP w I L v J K t mX4_part mX5_part [.int b] (.long x) := by
  obtain ⟨x, hx⟩ : ∃ x : Int64, (spPart I b).1 = .long x := by unfold spPart; (repeat' split) <;> exact ⟨_, rfl⟩
  refine ⟨x, st_qx (sp := spPart I b) (x_part hw  b) (n_part hm h b) ?_ hx hw ht⟩
  unfold spPart
  (repeat' split) <;> first | rfl | (simp (disch := decide) only [rfX, wV_out, rS_ne]; done)
set_option maxHeartbeats 4000000 in
set_option maxRecDepth 100000 in
theorem st_status {w : WG} {I : SI} {L : SL} {v : WG} {J : SI} {K : SL} {t : Nat} {n d r q p m : Nat} (hw : XL w) (hm : ML v) (ht : TIE w I t) (h : RR I J K n d r q p m) (b : Int32) : ∃ x : Int32, STEP w I L v J K t mX4_status mX5_status [.int b] (.int x) := by
  obtain ⟨x, hx⟩ : ∃ x : Int32, (spStatus I b).1 = .int x := by unfold spStatus; (repeat' split) <;> exact ⟨_, rfl⟩
  refine ⟨x, st_qx (sp := spStatus I b) (x_status hw  b) (n_status hm h b) ?_ hx hw ht⟩
  unfold spStatus
  (repeat' split) <;> first | rfl | (simp (disch := decide) only [rfX, wV_out, rS_ne]; done)
set_option maxHeartbeats 4000000 in
set_option maxRecDepth 100000 in
theorem st_count {w : WG} {I : SI} {L : SL} {v : WG} {J : SI} {K : SL} {t : Nat} {n d r q p m : Nat} (hw : XL w) (hm : ML v) (ht : TIE w I t) (h : RR I J K n d r q p m) (b : Int32) : ∃ x : Int32, STEP w I L v J K t mX4_count mX5_count [.int b] (.int x) := by
  obtain ⟨x, hx⟩ : ∃ x : Int32, (spCount I b).1 = .int x := by unfold spCount; (repeat' split) <;> exact ⟨_, rfl⟩
  refine ⟨x, st_qx (sp := spCount I b) (x_count hw  b) (n_count hm h b) ?_ hx hw ht⟩
  unfold spCount
  (repeat' split) <;> first | rfl | (simp (disch := decide) only [rfX, wV_out, rS_ne]; done)
set_option maxHeartbeats 4000000 in
set_option maxRecDepth 100000 in
theorem st_digest {w : WG} {I : SI} {L : SL} {v : WG} {J : SI} {K : SL} {t : Nat} {n d r q p m : Nat} (hw : XL w) (hm : ML v) (ht : TIE w I t) (h : RR I J K n d r q p m)  : ∃ x : Int64, STEP w I L v J K t mX4_digest mX5_digest [] (.long x) := by
  obtain ⟨x, hx⟩ : ∃ x : Int64, (spDigest I n d q ).1 = .long x := by unfold spDigest; (repeat' split) <;> exact ⟨_, rfl⟩
  refine ⟨x, st_qx (sp := spDigest I n d q ) (x_digest hw h.1.1 h.1.2.1.1 h.1.2.1.2 ) (n_digest hm h ) ?_ hx hw ht⟩
  unfold spDigest
  (repeat' split) <;> first | rfl | (simp (disch := decide) only [rfX, wV_out, rS_ne]; done)
