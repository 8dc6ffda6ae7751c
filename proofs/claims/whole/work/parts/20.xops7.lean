def chF (V : VS) (d i : Nat) : Prop := i = 7 ∨ (i < d ∧ inF (V 0 2) (nI i) = 0)
def gtF (V : VS) (n d st : Nat) (c : Int32) (i j : Nat) : Int32 := -(wtX V n d c (V 0 2 ||| drF (nI i) ||| drF (nI j)) st) - prF (nI i)
def RS (V : VS) (n d st : Nat) (a b : Int32) (i j : Nat) : Prop := chF V d i ∧ chF V d j ∧ ∀ o, o < 8 → chF V d o → gtF V n d st a o j ≤ gtF V n d st a i j ∧ gtF V n d st b o i ≤ gtF V n d st b j i
noncomputable def rsB (V : VS) (n d st : Nat) (a b : Int32) (t : Nat) : Bool := @decide (RS V n d st a b (t / 8) (t % 8)) (Classical.propDecidable _)
theorem rsB_t {V : VS} {n d st : Nat} {a b : Int32} {t : Nat} (h : RS V n d st a b (t / 8) (t % 8)) : rsB V n d st a b t = true := by
  unfold rsB; exact @decide_eq_true _ (Classical.propDecidable _) h
theorem rsB_f {V : VS} {n d st : Nat} {a b : Int32} {t : Nat} (h : ¬ RS V n d st a b (t / 8) (t % 8)) : rsB V n d st a b t = false := by
  unfold rsB; exact @decide_eq_false _ (Classical.propDecidable _) h
theorem mcF_1 {V : VS} {d i : Nat} (hd : d ≤ 7) (hi : i < 8) (h : ¬ mcF (nI d) (V 0 2) (nI i) = 0) : chF V d i := by
  rcases b01_n h with e | ⟨⟨-, h2⟩, h3⟩
  · exact Or.inl ((nI_eq (b := 7) (by omega) (by decide)).mp e)
  · exact Or.inr ⟨nlt h2 (by omega) (by omega), h3⟩
theorem mcF_0 {V : VS} {d i : Nat} (hd : d ≤ 7) (hi : i < 8) (h : mcF (nI d) (V 0 2) (nI i) = 0) : ¬ chF V d i := by
  intro q
  refine b01_0 h ?_
  rcases q with rfl | ⟨h2, h3⟩
  · exact Or.inl rfl
  · exact Or.inr ⟨⟨nI_pos' (by omega), nI_lt h2 (by omega)⟩, h3⟩
/-- how many rest, and what is told -/
def twF (B : Nat → Bool) (k : Int32) : Nat → Nat × Int32
  | 0 => (0, -5)
  | t + 1 => if B t = true then ((twF B k t).1 + 1, if nI (twF B k t).1 = k then nI t else (twF B k t).2) else twF B k t
theorem twF_le (B : Nat → Bool) (k : Int32) : ∀ t, (twF B k t).1 ≤ t := by
  intro t; induction t with
  | zero => exact Nat.le_refl 0
  | succ t ih => rw [twF]; split
                 · exact Nat.succ_le_succ ih
                 · omega
theorem twF_mono (B : Nat → Bool) (k : Int32) (t : Nat) : ∀ m, (twF B k t).1 ≤ (twF B k (t + m)).1 := by
  intro m; induction m with
  | zero => exact Nat.le_refl _
  | succ m ih => show _ ≤ (twF B k ((t + m) + 1)).1; rw [twF]; split
                 · exact Nat.le_succ_of_le ih
                 · exact ih
theorem twF_told {B : Nat → Bool} {k : Int32} {t : Nat} (hb : B t = true) (hk : nI (twF B k t).1 = k) : ∀ m, t + 1 + m ≤ 1000 → (twF B k (t + 1 + m)).2 = nI t := by
  intro m; induction m with
  | zero => intro _; show (twF B k (t + 1)).2 = _; rw [twF, if_pos hb, if_pos hk]
  | succ m ih =>
    intro hm
    show (twF B k ((t + 1 + m) + 1)).2 = _
    rw [twF]
    by_cases q : B (t + 1 + m) = true
    · rw [if_pos q]
      have h1 := twF_mono B k (t + 1) m
      have h2 : (twF B k (t + 1)).1 = (twF B k t).1 + 1 := by rw [twF, if_pos hb]
      have h3 := twF_le B k (t + 1 + m)
      have h4 := twF_le B k t
      rw [if_neg, ih (by omega)]
      intro e
      have := (nI_eq (by omega) (by omega)).mp (e.trans hk.symm)
      omega
    · rw [if_neg q]; exact ih (by omega)
theorem i32_orc (a b c : Int32) : a ||| b ||| c = a ||| c ||| b := by
  apply Int32.toBitVec_inj.mp; simp only [Int32.toBitVec_or]; rw [BitVec.or_assoc, BitVec.or_comm b.toBitVec, ← BitVec.or_assoc]
theorem rs_25 {I : SI} {f g h : Nat → Int32} : rS (rS (rS I 25 f) 26 g) 25 h = rS (rS I 25 h) 26 g := by
  funext q; by_cases h1 : q = 25
  · subst h1; simp [rS]
  · by_cases h2 : q = 26
    · subst h2; simp [rS]
    · simp [rS, h1, h2]
set_option maxHeartbeats 4000000 in
set_option maxRecDepth 100000 in
theorem ok_fillGains {w : WG} {I : SI} {L : SL} {n d r : Nat} (hw : XL w) (hI : XV I n d r) (a b : Int32) : Ok w mX4_fillGains [.ref (gA w 0), .int a, .int b] I L (fun r1 I1 L1 => r1 = none ∧ L1 = L ∧ ∃ fa fb, I1 = rS (rS I 25 fa) 26 fb ∧ ∀ x y, x < 8 → y < 8 → chF (vx I 1) d x → chF (vx I 1) d y → fa (8 * x + y) = gtF (vx I 1) n d (stF n r) a x y ∧ fb (8 * x + y) = gtF (vx I 1) n d (stF n r) b y x) := by
  obtain ⟨hn, hn4, hd, hd7, hr, hr9⟩ := id hI
  have hst : stF n r < 2000 := by unfold stF; split; omega; exact Nat.lt_of_le_of_lt (Nat.mod_le _ _) (by omega)
  refine Ok.of (by decide) (Nat.le_of_ble_eq_true rfl) (fun X hX => ?_)
  have loop := loop_up (n := 8) (P := fun i => ∀ fa fb, (∀ x y, x < i → y < 8 → chF (vx I 1) d x → chF (vx I 1) d y → fa (8 * x + y) = gtF (vx I 1) n d (stF n r) a x y ∧ fb (8 * x + y) = gtF (vx I 1) n d (stF n r) b y x) → G X w mX4_fillGains (rS (rS I 25 fa) 26 fb) L 18 (lvO [(0, .ref (gA w 0)), (1, .int a), (2, .int b), (3, .int (nI (stF n r))), (4, .int (nI i))]) []) (fun i hi ih fa fb hinv => by
    refine g_iload hX dX4_fillGains_18 rfl ?_
    refine g_bipush (v := 8) hX dX4_fillGains_20 (by decide) ?_
    rw [show (8 : Int32) = nI 8 from rfl]
    refine g_icmp_ge (tgt := 151) hX dX4_fillGains_22 (by decide) (fun c_22 => ?_) (fun c_22 => ?_)
    · exact g_vret hX dX4_fillGains_151 rfl (⟨rfl, rfl, fa, fb, rfl, fun x y hx hy cx cy => hinv x y (by have := nle c_22 (by decide) (by omega); omega) hy cx cy⟩)
    · have hlt : i < 8 := nnle c_22 (by decide) (by omega)
      refine g_iconst (v := 0) hX dX4_fillGains_25 (by decide) ?_
      refine g_istore hX dX4_fillGains_26 (by decide) ?_
      have loopj := loop_up (n := 8) (P := fun j => ∀ fa fb, (∀ x y, (x < i ∨ x = i ∧ y < j) → y < 8 → chF (vx I 1) d x → chF (vx I 1) d y → fa (8 * x + y) = gtF (vx I 1) n d (stF n r) a x y ∧ fb (8 * x + y) = gtF (vx I 1) n d (stF n r) b y x) → G X w mX4_fillGains (rS (rS I 25 fa) 26 fb) L 28 (lvO [(0, .ref (gA w 0)), (1, .int a), (2, .int b), (3, .int (nI (stF n r))), (4, .int (nI i)), (5, .int (nI j))]) []) (fun j hj ihj fa fb hinv => by
        refine g_iload hX dX4_fillGains_28 rfl ?_
        refine g_bipush (v := 8) hX dX4_fillGains_30 (by decide) ?_
        rw [show (8 : Int32) = nI 8 from rfl]
        refine g_icmp_ge (tgt := 145) hX dX4_fillGains_32 (by decide) (fun c_32 => ?_) (fun c_32 => ?_)
        · refine g_iinc hX dX4_fillGains_145 rfl (d := 1) (by decide) ?_
          refine g_goto (tgt := 18) hX dX4_fillGains_148 (by decide) ?_
          exact G.at (ih hlt fa fb (fun x y h h8 cx cy => hinv x y (by have := nle c_32 (by decide) (by omega); omega) h8 cx cy)) ⟨rfl, rfl, rfl, rfl, vI (nI_1 i), trivial⟩
        · have hltj : j < 8 := nnle c_32 (by decide) (by omega)
          refine g_aload_n hX dX4_fillGains_35 rfl rfl ?_
          refine g_iload hX dX4_fillGains_36 rfl ?_
          refine g_callVp _ hX dX4_fillGains_38 k_X4_259 ⟨by decide, by decide⟩ (by decide) hw.k0 rfl rfl (ok_mayChoose hw _) rfl (Nat.le_of_ble_eq_true rfl) ?_
          try simp (disch := decide) only [rS_eq, rS_ne, rS_rS, rs_25]
          try rw [hd]
          refine g_if_eq (tgt := 139) hX dX4_fillGains_41 (by decide) (fun c_41 => ?_) (fun c_41 => ?_)
          · refine g_iinc hX dX4_fillGains_139 rfl (d := 1) (by decide) ?_
            refine g_goto (tgt := 28) hX dX4_fillGains_142 (by decide) ?_
            exact G.at (ihj hltj fa fb (fun x y h h8 cx cy => (show x < i ∨ x = i ∧ y < j ∨ x = i ∧ y = j by omega).elim (fun z => hinv x y (Or.inl z) h8 cx cy) (fun z => z.elim (fun z => hinv x y (Or.inr z) h8 cx cy) (fun z => absurd (by first | exact z.1 ▸ cx | exact z.2 ▸ cy) (mcF_0 (V := (vx I 1)) hd7 (by omega) c_41))))) ⟨rfl, rfl, rfl, rfl, rfl, vI (nI_1 j), trivial⟩
          · refine g_aload_n hX dX4_fillGains_44 rfl rfl ?_
            refine g_iload hX dX4_fillGains_45 rfl ?_
            refine g_callVp _ hX dX4_fillGains_47 k_X4_259 ⟨by decide, by decide⟩ (by decide) hw.k0 rfl rfl (ok_mayChoose hw _) rfl (Nat.le_of_ble_eq_true rfl) ?_
            try simp (disch := decide) only [rS_eq, rS_ne, rS_rS, rs_25]
            try rw [hd]
            refine g_if_ne (tgt := 56) hX dX4_fillGains_50 (by decide) (fun c_50 => ?_) (fun c_50 => ?_)
            · refine g_aload_n hX dX4_fillGains_56 rfl rfl ?_
              refine g_get4R hX 0 dX4_fillGains_57 b_fl_X4_10 hw.k0 (by decide) hw.p0 ?_
              refine g_get3I hX 2 dX4_fillGains_60 b_fl_X4_121 hw.now.k0 (by decide) ?_
              try simp (disch := decide) only [rS_eq, rS_ne, rS_rS, rs_25]
              refine g_iload hX dX4_fillGains_63 rfl ?_
              refine g_callSp _ hX dX4_fillGains_65 k_X4_262 ⟨by decide, by decide⟩ rfl (ok_doorOf _) rfl (Nat.le_of_ble_eq_true rfl) ?_
              refine g_ior hX dX4_fillGains_68 ?_
              refine g_iload hX dX4_fillGains_69 rfl ?_
              refine g_callSp _ hX dX4_fillGains_71 k_X4_262 ⟨by decide, by decide⟩ rfl (ok_doorOf _) rfl (Nat.le_of_ble_eq_true rfl) ?_
              refine g_ior hX dX4_fillGains_74 ?_
              refine g_istore hX dX4_fillGains_75 (by decide) ?_
              refine g_aload_n hX dX4_fillGains_77 rfl rfl ?_
              refine g_get4R hX 10 dX4_fillGains_78 b_fl_X4_41 hw.k0 (by decide) hw.p10 ?_
              refine g_bipush (v := 8) hX dX4_fillGains_81 (by decide) ?_
              refine g_iload hX dX4_fillGains_83 rfl ?_
              refine g_imul hX dX4_fillGains_85 ?_
              refine g_iload hX dX4_fillGains_86 rfl ?_
              refine g_iadd hX dX4_fillGains_88 ?_
              refine g_aload_n hX dX4_fillGains_89 rfl rfl ?_
              refine g_get4R hX 0 dX4_fillGains_90 b_fl_X4_10 hw.k0 (by decide) hw.p0 ?_
              refine g_iload_n hX dX4_fillGains_93 rfl rfl ?_
              refine g_iload_n hX dX4_fillGains_94 rfl rfl ?_
              refine g_iload hX dX4_fillGains_95 rfl ?_
              refine g_callVp _ hX dX4_fillGains_97 k_X4_171 ⟨by decide, by decide⟩ (by decide) hw.now.k0 rfl rfl (ok_widthTo (I := rS (rS I 25 _) 26 _) (n := n) (d := d) hw.now (by rw [rS_ne _ _ _ (by decide), rS_ne _ _ _ (by decide)]; exact hn) hn4 (by rw [rS_ne _ _ _ (by decide), rS_ne _ _ _ (by decide)]; exact hd) hd7 hst _ _) rfl (Nat.le_of_ble_eq_true rfl) ?_
              try simp (disch := decide) only [rS_eq, rS_ne, rS_rS, rs_25]
              refine g_ineg hX dX4_fillGains_100 ?_
              refine g_iload hX dX4_fillGains_101 rfl ?_
              refine g_callSp _ hX dX4_fillGains_103 k_X4_265 ⟨by decide, by decide⟩ rfl (ok_priceOf _) rfl (Nat.le_of_ble_eq_true rfl) ?_
              refine g_isub hX dX4_fillGains_106 ?_
              refine g_iastN hX dX4_fillGains_107 hw.k25 (⟨(by rw [show (8 : Int32) = nI 8 from rfl, pk_mul, nI_add]), by omega⟩) (by decide) ?_
              try simp (disch := decide) only [rS_eq, rS_ne, rS_rS, rs_25]
              refine g_aload_n hX dX4_fillGains_108 rfl rfl ?_
              refine g_get4R hX 11 dX4_fillGains_109 b_fl_X4_44 hw.k0 (by decide) hw.p11 ?_
              refine g_bipush (v := 8) hX dX4_fillGains_112 (by decide) ?_
              refine g_iload hX dX4_fillGains_114 rfl ?_
              refine g_imul hX dX4_fillGains_116 ?_
              refine g_iload hX dX4_fillGains_117 rfl ?_
              refine g_iadd hX dX4_fillGains_119 ?_
              refine g_aload_n hX dX4_fillGains_120 rfl rfl ?_
              refine g_get4R hX 0 dX4_fillGains_121 b_fl_X4_10 hw.k0 (by decide) hw.p0 ?_
              refine g_iload_n hX dX4_fillGains_124 rfl rfl ?_
              refine g_iload_n hX dX4_fillGains_125 rfl rfl ?_
              refine g_iload hX dX4_fillGains_126 rfl ?_
              refine g_callVp _ hX dX4_fillGains_128 k_X4_171 ⟨by decide, by decide⟩ (by decide) hw.now.k0 rfl rfl (ok_widthTo (I := rS (rS I 25 _) 26 _) (n := n) (d := d) hw.now (by rw [rS_ne _ _ _ (by decide), rS_ne _ _ _ (by decide)]; exact hn) hn4 (by rw [rS_ne _ _ _ (by decide), rS_ne _ _ _ (by decide)]; exact hd) hd7 hst _ _) rfl (Nat.le_of_ble_eq_true rfl) ?_
              try simp (disch := decide) only [rS_eq, rS_ne, rS_rS, rs_25]
              refine g_ineg hX dX4_fillGains_131 ?_
              refine g_iload hX dX4_fillGains_132 rfl ?_
              refine g_callSp _ hX dX4_fillGains_134 k_X4_265 ⟨by decide, by decide⟩ rfl (ok_priceOf _) rfl (Nat.le_of_ble_eq_true rfl) ?_
              refine g_isub hX dX4_fillGains_137 ?_
              refine g_iastN hX dX4_fillGains_138 hw.k26 (⟨(by rw [show (8 : Int32) = nI 8 from rfl, pk_mul, nI_add]), by omega⟩) (by decide) ?_
              try simp (disch := decide) only [rS_eq, rS_ne, rS_rS, rs_25]
              refine g_iinc hX dX4_fillGains_139 rfl (d := 1) (by decide) ?_
              refine g_goto (tgt := 28) hX dX4_fillGains_142 (by decide) ?_
              exact G.at (ihj hltj _ _ (fun x y h h8 cx cy => by
                by_cases e : 8 * x + y = 8 * i + j
                · have e1 : x = i := by omega
                  have e2 : y = j := by omega
                  subst e1; subst e2
                  rw [pk_us, pk_us]
                  refine ⟨rfl, ?_⟩
                  rw [gtF, i32_orc]; rfl
                · rw [pk_un e, pk_un e]
                  exact hinv x y (by omega) h8 cx cy)) ⟨rfl, rfl, rfl, rfl, rfl, vI (nI_1 j), trivial⟩
            · refine g_goto (tgt := 139) hX dX4_fillGains_53 (by decide) ?_
              refine g_iinc hX dX4_fillGains_139 rfl (d := 1) (by decide) ?_
              refine g_goto (tgt := 28) hX dX4_fillGains_142 (by decide) ?_
              exact G.at (ihj hltj fa fb (fun x y h h8 cx cy => (show x < i ∨ x = i ∧ y < j ∨ x = i ∧ y = j by omega).elim (fun z => hinv x y (Or.inl z) h8 cx cy) (fun z => z.elim (fun z => hinv x y (Or.inr z) h8 cx cy) (fun z => absurd (by first | exact z.1 ▸ cx | exact z.2 ▸ cy) (mcF_0 (V := (vx I 1)) hd7 (by omega) c_50))))) ⟨rfl, rfl, rfl, rfl, rfl, vI (nI_1 j), trivial⟩
        )
      exact G.at (loopj 0 (Nat.zero_le _) fa fb (fun x y h h8 cx cy => hinv x y (by omega) h8 cx cy)) ⟨rfl, rfl, rfl, rfl, rfl, rfl, trivial⟩
    )
  refine g_aload_n hX dX4_fillGains_0 rfl rfl ?_
  refine g_get4R hX 0 dX4_fillGains_1 b_fl_X4_10 hw.k0 (by decide) hw.p0 ?_
  refine g_aload_n hX dX4_fillGains_4 rfl rfl ?_
  refine g_get4R hX 0 dX4_fillGains_5 b_fl_X4_10 hw.k0 (by decide) hw.p0 ?_
  refine g_get3I hX 3 dX4_fillGains_8 b_fl_X4_115 hw.now.k0 (by decide) ?_
  try simp (disch := decide) only [rS_eq, rS_ne, rS_rS, rs_25]
  rw [hr]
  refine g_callVp _ hX dX4_fillGains_11 k_X4_164 ⟨by decide, by decide⟩ (by decide) hw.now.k0 rfl rfl (ok_startOf (v := 1) (r := r) hw.now hn hn4 (by omega)) rfl (Nat.le_of_ble_eq_true rfl) ?_
  refine g_istore_n hX dX4_fillGains_14 rfl (by decide) ?_
  refine g_iconst (v := 0) hX dX4_fillGains_15 (by decide) ?_
  refine g_istore hX dX4_fillGains_16 (by decide) ?_
  refine G.eqI (show I = rS (rS I 25 (I 25)) 26 (I 26) by rw [rS_self]; exact (rS_self I 26).symm) (G.at (loop 0 (Nat.zero_le _) _ _ (fun x y h => absurd h (Nat.not_lt_zero x))) ⟨rfl, rfl, rfl, rfl, rfl, trivial⟩)
set_option maxHeartbeats 4000000 in
set_option maxRecDepth 100000 in
theorem ok_restsX {w : WG} {I : SI} {L : SL} {n d st i j : Nat} {a b : Int32} {V : VS} (hw : XL w) (hv2 : I 1 2 = V 0 2) (hd : I 1 1 = nI d) (hd7 : d ≤ 7) (hi8 : i < 8) (hj8 : j < 8) (hG : ∀ x y, x < 8 → y < 8 → chF V d x → chF V d y → I 25 (8 * x + y) = gtF V n d st a x y ∧ I 26 (8 * x + y) = gtF V n d st b y x) : Ok w mX4_rests [.ref (gA w 0), .int (nI i), .int (nI j)] I L (fun r1 I1 L1 => ∃ x, r1 = some (.int x) ∧ I1 = I ∧ L1 = L ∧ ((x = 1 ∧ RS V n d st a b i j) ∨ (x = 0 ∧ ¬ RS V n d st a b i j))) := by
  refine Ok.of (by decide) (Nat.le_of_ble_eq_true rfl) (fun X hX => ?_)
  refine g_aload_n hX dX4_rests_0 rfl rfl ?_
  refine g_iload_n hX dX4_rests_1 rfl rfl ?_
  refine g_callVp _ hX dX4_rests_2 k_X4_259 ⟨by decide, by decide⟩ (by decide) hw.k0 rfl rfl (ok_mayChoose hw _) rfl (Nat.le_of_ble_eq_true rfl) ?_
  try rw [hd, hv2]
  refine g_if_eq (tgt := 16) hX dX4_rests_5 (by decide) (fun c_5 => ?_) (fun c_5 => ?_)
  · refine g_iconst (v := 0) hX dX4_rests_16 (by decide) ?_
    exact g_zret hX dX4_rests_17 rfl rfl (⟨_, rfl, rfl, rfl, Or.inr ⟨rfl, fun z => mcF_0 (V := V) hd7 (by omega) c_5 z.1⟩⟩)
  · refine g_aload_n hX dX4_rests_8 rfl rfl ?_
    refine g_iload_n hX dX4_rests_9 rfl rfl ?_
    refine g_callVp _ hX dX4_rests_10 k_X4_259 ⟨by decide, by decide⟩ (by decide) hw.k0 rfl rfl (ok_mayChoose hw _) rfl (Nat.le_of_ble_eq_true rfl) ?_
    try rw [hd, hv2]
    refine g_if_ne (tgt := 18) hX dX4_rests_13 (by decide) (fun c_13 => ?_) (fun c_13 => ?_)
    · have ci := mcF_1 (V := V) hd7 (by omega) c_5
      have cj := mcF_1 (V := V) hd7 (by omega) c_13
      have loop := loop_up (n := 8) (P := fun o => (∀ x, x < o → chF V d x → gtF V n d st a x j ≤ gtF V n d st a i j ∧ gtF V n d st b x i ≤ gtF V n d st b j i) → G X w mX4_rests I L 28 (lvO [(0, .ref (gA w 0)), (1, .int (nI i)), (2, .int (nI j)), (3, .int (nI (8 * i + j))), (4, .int (nI o))]) []) (fun o ho ih hinv => by
        refine g_iload hX dX4_rests_28 rfl ?_
        refine g_bipush (v := 8) hX dX4_rests_30 (by decide) ?_
        rw [show (8 : Int32) = nI 8 from rfl]
        refine g_icmp_ge (tgt := 97) hX dX4_rests_32 (by decide) (fun c_32 => ?_) (fun c_32 => ?_)
        · refine g_iconst (v := 1) hX dX4_rests_97 (by decide) ?_
          exact g_zret hX dX4_rests_98 rfl rfl (⟨_, rfl, rfl, rfl, Or.inl ⟨rfl, ci, cj, fun x hx cx => hinv x (by have := nle c_32 (by decide) (by omega); omega) cx⟩⟩)
        · have hlt : o < 8 := nnle c_32 (by decide) (by omega)
          refine g_aload_n hX dX4_rests_35 rfl rfl ?_
          refine g_iload hX dX4_rests_36 rfl ?_
          refine g_callVp _ hX dX4_rests_38 k_X4_259 ⟨by decide, by decide⟩ (by decide) hw.k0 rfl rfl (ok_mayChoose hw _) rfl (Nat.le_of_ble_eq_true rfl) ?_
          try rw [hd, hv2]
          refine g_if_ne (tgt := 47) hX dX4_rests_41 (by decide) (fun c_41 => ?_) (fun c_41 => ?_)
          · have co := mcF_1 (V := V) hd7 (by omega) c_41
            have g1 := hG o j hlt hj8 co cj
            have g2 := hG i o hi8 hlt ci co
            have g0 := hG i j hi8 hj8 ci cj
            refine g_aload_n hX dX4_rests_47 rfl rfl ?_
            refine g_get4R hX 10 dX4_rests_48 b_fl_X4_41 hw.k0 (by decide) hw.p10 ?_
            refine g_bipush (v := 8) hX dX4_rests_51 (by decide) ?_
            refine g_iload hX dX4_rests_53 rfl ?_
            refine g_imul hX dX4_rests_55 ?_
            refine g_iload_n hX dX4_rests_56 rfl rfl ?_
            refine g_iadd hX dX4_rests_57 ?_
            refine g_ialdN hX dX4_rests_58 hw.k25 (⟨(by rw [show (8 : Int32) = nI 8 from rfl, pk_mul, nI_add]), by omega⟩) (by decide) ?_
            refine g_aload_n hX dX4_rests_59 rfl rfl ?_
            refine g_get4R hX 10 dX4_rests_60 b_fl_X4_41 hw.k0 (by decide) hw.p10 ?_
            refine g_iload_n hX dX4_rests_63 rfl rfl ?_
            refine g_ialdN hX dX4_rests_64 hw.k25 (⟨rfl, by omega⟩) (by decide) ?_
            refine g_icmp_gt (tgt := 89) hX dX4_rests_65 (by decide) (fun c_65 => ?_) (fun c_65 => ?_)
            · refine g_iconst (v := 0) hX dX4_rests_89 (by decide) ?_
              exact g_zret hX dX4_rests_90 rfl rfl (⟨_, rfl, rfl, rfl, Or.inr ⟨rfl, fun z => Int32.not_lt.mpr ((z.2.2 o hlt co).1) (by rw [← g1.1, ← g0.1]; exact c_65)⟩⟩)
            · refine g_aload_n hX dX4_rests_68 rfl rfl ?_
              refine g_get4R hX 11 dX4_rests_69 b_fl_X4_44 hw.k0 (by decide) hw.p11 ?_
              refine g_bipush (v := 8) hX dX4_rests_72 (by decide) ?_
              refine g_iload_n hX dX4_rests_74 rfl rfl ?_
              refine g_imul hX dX4_rests_75 ?_
              refine g_iload hX dX4_rests_76 rfl ?_
              refine g_iadd hX dX4_rests_78 ?_
              refine g_ialdN hX dX4_rests_79 hw.k26 (⟨(by rw [show (8 : Int32) = nI 8 from rfl, pk_mul, nI_add]), by omega⟩) (by decide) ?_
              refine g_aload_n hX dX4_rests_80 rfl rfl ?_
              refine g_get4R hX 11 dX4_rests_81 b_fl_X4_44 hw.k0 (by decide) hw.p11 ?_
              refine g_iload_n hX dX4_rests_84 rfl rfl ?_
              refine g_ialdN hX dX4_rests_85 hw.k26 (⟨rfl, by omega⟩) (by decide) ?_
              refine g_icmp_le (tgt := 91) hX dX4_rests_86 (by decide) (fun c_86 => ?_) (fun c_86 => ?_)
              · refine g_iinc hX dX4_rests_91 rfl (d := 1) (by decide) ?_
                refine g_goto (tgt := 28) hX dX4_rests_94 (by decide) ?_
                exact G.at (ih hlt (fun x hx cx => (show x < o ∨ x = o by omega).elim (fun z => hinv x z cx) (fun z => z ▸ ⟨by rw [← g1.1, ← g0.1]; exact Int32.not_lt.mp c_65, by rw [← g2.2, ← g0.2]; exact c_86⟩))) ⟨rfl, rfl, rfl, rfl, vI (nI_1 o), trivial⟩
              · refine g_iconst (v := 0) hX dX4_rests_89 (by decide) ?_
                exact g_zret hX dX4_rests_90 rfl rfl (⟨_, rfl, rfl, rfl, Or.inr ⟨rfl, fun z => c_86 (by rw [g2.2, g0.2]; exact (z.2.2 o hlt co).2)⟩⟩)
          · refine g_goto (tgt := 91) hX dX4_rests_44 (by decide) ?_
            refine g_iinc hX dX4_rests_91 rfl (d := 1) (by decide) ?_
            refine g_goto (tgt := 28) hX dX4_rests_94 (by decide) ?_
            exact G.at (ih hlt (fun x hx cx => (show x < o ∨ x = o by omega).elim (fun z => hinv x z cx) (fun z => absurd (z ▸ cx) (mcF_0 (V := V) hd7 (by omega) c_41)))) ⟨rfl, rfl, rfl, rfl, vI (nI_1 o), trivial⟩
        )
      refine g_bipush (v := 8) hX dX4_rests_18 (by decide) ?_
      refine g_iload_n hX dX4_rests_20 rfl rfl ?_
      refine g_imul hX dX4_rests_21 ?_
      refine g_iload_n hX dX4_rests_22 rfl rfl ?_
      refine g_iadd hX dX4_rests_23 ?_
      refine g_istore_n hX dX4_rests_24 rfl (by decide) ?_
      refine g_iconst (v := 0) hX dX4_rests_25 (by decide) ?_
      refine g_istore hX dX4_rests_26 (by decide) ?_
      exact G.at (loop 0 (Nat.zero_le _) (fun x h => absurd h (Nat.not_lt_zero x))) ⟨rfl, rfl, rfl, vI (by rw [show (8 : Int32) = nI 8 from rfl, pk_mul, nI_add]), rfl, trivial⟩
    · refine g_iconst (v := 0) hX dX4_rests_16 (by decide) ?_
      exact g_zret hX dX4_rests_17 rfl rfl (⟨_, rfl, rfl, rfl, Or.inr ⟨rfl, fun z => mcF_0 (V := V) hd7 (by omega) c_13 z.2.1⟩⟩)
noncomputable def spTwo (I : SI) (n d r : Nat) (a b k : Int32) : Value × SI := if ¬ ((0 ≤ a ∧ a < I 1 0) ∧ (0 ≤ b ∧ b < I 1 0) ∧ a ≠ b ∧ -1 ≤ k) then (.int (-10), rfX I 6) else if k = -1 then (.int (nI (twF (rsB (vx I 1) n d (stF n r) a b) k 64).1), I) else (.int (twF (rsB (vx I 1) n d (stF n r) a b) k 64).2, I)
theorem nI_m1 {a : Nat} (h : a < 2 ^ 31) : nI a ≠ -1 := by
  intro e
  have h1 := congrArg Int32.toInt e
  rw [nI_toInt h] at h1
  have h2 : (-1 : Int32).toInt = -1 := by decide
  omega
set_option maxHeartbeats 4000000 in
set_option maxRecDepth 100000 in
theorem x_two {w : WG} {I : SI} {L : SL} {n d r : Nat} (hw : XL w) (hI : XV I n d r) (a b k : Int32) : Ok w mX4_two [.ref (gA w 0), .int a, .int b, .int k] I L (QX (spTwo I n d r a b k) L) := by
  obtain ⟨hn, hn4, hd, hd7, hr, hr9⟩ := id hI
  refine Ok.of (by decide) (Nat.le_of_ble_eq_true rfl) (fun X hX => ?_)
  refine g_aload_n hX dX4_two_0 rfl rfl ?_
  refine g_get4R hX 0 dX4_two_1 b_fl_X4_10 hw.k0 (by decide) hw.p0 ?_
  refine g_iload_n hX dX4_two_4 rfl rfl ?_
  refine g_callVp _ hX dX4_two_5 k_X4_94 ⟨by decide, by decide⟩ (by decide) hw.now.k0 rfl rfl (ok_hasMan hw.now _) rfl (Nat.le_of_ble_eq_true rfl) ?_
  refine g_if_eq (tgt := 32) hX dX4_two_8 (by decide) (fun c_8 => ?_) (fun c_8 => ?_)
  · refine g_aload_n hX dX4_two_32 rfl rfl ?_
    refine g_bipush (v := -2) hX dX4_two_33 (by decide) ?_
    refine g_callV _ hX dX4_two_35 k_X4_57 ⟨by decide, by decide⟩ (by decide) hw.k0 rfl rfl (ok_refuse_bad hw) rfl (Nat.le_of_ble_eq_true rfl) (fun r1 I1 L1 hq => ?_)
    obtain ⟨rfl, rfl, rfl⟩ := hq
    refine g_pop hX dX4_two_38 rfl ?_
    refine g_bipush (v := -10) hX dX4_two_39 (by decide) ?_
    exact g_iret hX dX4_two_41 rfl (by rw [spTwo, if_pos (by intro z; first | exact b01_0 c_8 z.1 | exact b01_0 c_19 z.2.1 | exact z.2.2.1 c_24 | exact c_29 z.2.2.2)]; exact ⟨rfl, rfl, SmX.rf⟩)
  · refine g_aload_n hX dX4_two_11 rfl rfl ?_
    refine g_get4R hX 0 dX4_two_12 b_fl_X4_10 hw.k0 (by decide) hw.p0 ?_
    refine g_iload_n hX dX4_two_15 rfl rfl ?_
    refine g_callVp _ hX dX4_two_16 k_X4_94 ⟨by decide, by decide⟩ (by decide) hw.now.k0 rfl rfl (ok_hasMan hw.now _) rfl (Nat.le_of_ble_eq_true rfl) ?_
    refine g_if_eq (tgt := 32) hX dX4_two_19 (by decide) (fun c_19 => ?_) (fun c_19 => ?_)
    · refine g_aload_n hX dX4_two_32 rfl rfl ?_
      refine g_bipush (v := -2) hX dX4_two_33 (by decide) ?_
      refine g_callV _ hX dX4_two_35 k_X4_57 ⟨by decide, by decide⟩ (by decide) hw.k0 rfl rfl (ok_refuse_bad hw) rfl (Nat.le_of_ble_eq_true rfl) (fun r1 I1 L1 hq => ?_)
      obtain ⟨rfl, rfl, rfl⟩ := hq
      refine g_pop hX dX4_two_38 rfl ?_
      refine g_bipush (v := -10) hX dX4_two_39 (by decide) ?_
      exact g_iret hX dX4_two_41 rfl (by rw [spTwo, if_pos (by intro z; first | exact b01_0 c_8 z.1 | exact b01_0 c_19 z.2.1 | exact z.2.2.1 c_24 | exact c_29 z.2.2.2)]; exact ⟨rfl, rfl, SmX.rf⟩)
    · refine g_iload_n hX dX4_two_22 rfl rfl ?_
      refine g_iload_n hX dX4_two_23 rfl rfl ?_
      refine g_icmp_eq (tgt := 32) hX dX4_two_24 (by decide) (fun c_24 => ?_) (fun c_24 => ?_)
      · refine g_aload_n hX dX4_two_32 rfl rfl ?_
        refine g_bipush (v := -2) hX dX4_two_33 (by decide) ?_
        refine g_callV _ hX dX4_two_35 k_X4_57 ⟨by decide, by decide⟩ (by decide) hw.k0 rfl rfl (ok_refuse_bad hw) rfl (Nat.le_of_ble_eq_true rfl) (fun r1 I1 L1 hq => ?_)
        obtain ⟨rfl, rfl, rfl⟩ := hq
        refine g_pop hX dX4_two_38 rfl ?_
        refine g_bipush (v := -10) hX dX4_two_39 (by decide) ?_
        exact g_iret hX dX4_two_41 rfl (by rw [spTwo, if_pos (by intro z; first | exact b01_0 c_8 z.1 | exact b01_0 c_19 z.2.1 | exact z.2.2.1 c_24 | exact c_29 z.2.2.2)]; exact ⟨rfl, rfl, SmX.rf⟩)
      · refine g_iload_n hX dX4_two_27 rfl rfl ?_
        refine g_iconst (v := -1) hX dX4_two_28 (by decide) ?_
        refine g_icmp_ge (tgt := 42) hX dX4_two_29 (by decide) (fun c_29 => ?_) (fun c_29 => ?_)
        · have hv := And.intro (b01_n c_8) (And.intro (b01_n c_19) (And.intro c_24 c_29))
          refine g_aload_n hX dX4_two_42 rfl rfl ?_
          refine g_iload_n hX dX4_two_43 rfl rfl ?_
          refine g_iload_n hX dX4_two_44 rfl rfl ?_
          refine g_callV _ hX dX4_two_45 k_X4_213 ⟨by decide, by decide⟩ (by decide) hw.k0 rfl rfl (ok_fillGains hw hI _ _) rfl (Nat.le_of_ble_eq_true rfl) (fun r1 I1 L1 hq => ?_)
          obtain ⟨rfl, rfl, fa, fb, rfl, hG0⟩ := hq
          have hG : ∀ x y, x < 8 → y < 8 → chF (vx I 1) d x → chF (vx I 1) d y → (rS (rS I 25 fa) 26 fb) 25 (8 * x + y) = gtF (vx I 1) n d (stF n r) a x y ∧ (rS (rS I 25 fa) 26 fb) 26 (8 * x + y) = gtF (vx I 1) n d (stF n r) b y x := fun x y h1 h2 h3 h4 => by rw [rS_ne _ _ _ (by decide), rS_eq, rS_eq]; exact hG0 x y h1 h2 h3 h4
          have hdG : (rS (rS I 25 fa) 26 fb) 1 1 = nI d := by rw [rS_ne _ _ _ (by decide), rS_ne _ _ _ (by decide)]; exact hd
          have hv2 : (rS (rS I 25 fa) 26 fb) 1 2 = vx I 1 0 2 := by rw [rS_ne _ _ _ (by decide), rS_ne _ _ _ (by decide)]; rfl
          have hsm : SmX I (rS (rS I 25 fa) 26 fb) := (SmX.rf.set fa ⟨by decide, by decide⟩).set fb ⟨by decide, by decide⟩
          have loop := loop_up (n := 8) (P := fun i => (twF (rsB (vx I 1) n d (stF n r) a b) k (8 * i)).2 = -5 → G X w mX4_two (rS (rS I 25 fa) 26 fb) L1 54 (lvO [(0, .ref (gA w 0)), (3, .int k), (4, .int (nI (twF (rsB (vx I 1) n d (stF n r) a b) k (8 * i)).1)), (5, .int (nI i))]) []) (fun i hi ih hto => by
            refine g_iload hX dX4_two_54 rfl ?_
            refine g_bipush (v := 8) hX dX4_two_56 (by decide) ?_
            rw [show (8 : Int32) = nI 8 from rfl]
            refine g_icmp_ge (tgt := 115) hX dX4_two_58 (by decide) (fun c_58 => ?_) (fun c_58 => ?_)
            · refine g_iload_n hX dX4_two_115 rfl rfl ?_
              refine g_iconst (v := -1) hX dX4_two_116 (by decide) ?_
              refine g_icmp_ne (tgt := 125) hX dX4_two_117 (by decide) (fun c_117 => ?_) (fun c_117 => ?_)
              · refine g_bipush (v := -5) hX dX4_two_125 (by decide) ?_
                exact g_iret hX dX4_two_127 rfl (by have es : i = 8 := Nat.le_antisymm hi (nle c_58 (by decide) (by omega)); subst es; rw [spTwo, if_neg (fun z => z hv), if_neg c_117]; exact ⟨vI hto.symm, rfl, hsm⟩)
              · refine g_iload hX dX4_two_120 rfl ?_
                refine g_goto (tgt := 127) hX dX4_two_122 (by decide) ?_
                exact g_iret hX dX4_two_127 rfl (by have es : i = 8 := Nat.le_antisymm hi (nle c_58 (by decide) (by omega)); subst es; rw [spTwo, if_neg (fun z => z hv), if_pos c_117]; exact ⟨rfl, rfl, hsm⟩)
            · have hlt : i < 8 := nnle c_58 (by decide) (by omega)
              have loopj := loop_up (n := 8) (P := fun j => (twF (rsB (vx I 1) n d (stF n r) a b) k (8 * i + j)).2 = -5 → G X w mX4_two (rS (rS I 25 fa) 26 fb) L1 64 (lvO [(0, .ref (gA w 0)), (3, .int k), (4, .int (nI (twF (rsB (vx I 1) n d (stF n r) a b) k (8 * i + j)).1)), (5, .int (nI i)), (6, .int (nI j))]) []) (fun j hj ihj hto => by
                refine g_iload hX dX4_two_64 rfl ?_
                refine g_bipush (v := 8) hX dX4_two_66 (by decide) ?_
                rw [show (8 : Int32) = nI 8 from rfl]
                refine g_icmp_ge (tgt := 109) hX dX4_two_68 (by decide) (fun c_68 => ?_) (fun c_68 => ?_)
                · refine g_iinc hX dX4_two_109 rfl (d := 1) (by decide) ?_
                  refine g_goto (tgt := 54) hX dX4_two_112 (by decide) ?_
                  have es : j = 8 := Nat.le_antisymm hj (nle c_68 (by decide) (by omega))
                  subst es
                  exact G.at (ih hlt hto) ⟨rfl, rfl, rfl, vI (nI_1 i), trivial⟩
                · have hltj : j < 8 := nnle c_68 (by decide) (by omega)
                  refine g_aload_n hX dX4_two_71 rfl rfl ?_
                  refine g_iload hX dX4_two_72 rfl ?_
                  refine g_iload hX dX4_two_74 rfl ?_
                  refine g_callV _ hX dX4_two_76 k_X4_216 ⟨by decide, by decide⟩ (by decide) hw.k0 rfl rfl (ok_restsX (n := n) (st := stF n r) (a := a) (b := b) (V := (vx I 1)) hw hv2 hdG hd7 hlt hltj hG) rfl (Nat.le_of_ble_eq_true rfl) (fun r1 I1 L1 hq => ?_)
                  obtain ⟨x, rfl, rfl, rfl, hx⟩ := hq
                  refine g_if_ne (tgt := 85) hX dX4_two_79 (by decide) (fun c_79 => ?_) (fun c_79 => ?_)
                  · refine g_iload hX dX4_two_85 rfl ?_
                    refine g_iload_n hX dX4_two_87 rfl rfl ?_
                    refine g_icmp_ne (tgt := 100) hX dX4_two_88 (by decide) (fun c_88 => ?_) (fun c_88 => ?_)
                    · refine g_iinc hX dX4_two_100 rfl (d := 1) (by decide) ?_
                      refine g_iinc hX dX4_two_103 rfl (d := 1) (by decide) ?_
                      refine g_goto (tgt := 64) hX dX4_two_106 (by decide) ?_
                      exact G.at (ihj hltj (by rw [show 8 * i + (j + 1) = (8 * i + j) + 1 from rfl, twF, if_pos (rsB_t (by rw [show (8 * i + j) / 8 = i by omega, show (8 * i + j) % 8 = j by omega]; exact hx.elim (fun z => z.2) (fun z => absurd z.1 c_79)))]; show (if _ then _ else _) = _; rw [if_neg c_88]; exact hto)) ⟨rfl, rfl, vI (by rw [show 8 * i + (j + 1) = (8 * i + j) + 1 from rfl, twF, if_pos (rsB_t (by rw [show (8 * i + j) / 8 = i by omega, show (8 * i + j) % 8 = j by omega]; exact hx.elim (fun z => z.2) (fun z => absurd z.1 c_79)))]; exact nI_1 _), rfl, vI (nI_1 j), trivial⟩
                    · refine g_bipush (v := 8) hX dX4_two_91 (by decide) ?_
                      refine g_iload hX dX4_two_93 rfl ?_
                      refine g_imul hX dX4_two_95 ?_
                      refine g_iload hX dX4_two_96 rfl ?_
                      refine g_iadd hX dX4_two_98 ?_
                      exact g_iret hX dX4_two_99 rfl (by have hle := twF_le (rsB (vx I 1) n d (stF n r) a b) k (8 * i + j); have hto2 := twF_told (rsB_t (by rw [show (8 * i + j) / 8 = i by omega, show (8 * i + j) % 8 = j by omega]; exact hx.elim (fun z => z.2) (fun z => absurd z.1 c_79))) c_88 (63 - (8 * i + j)) (by omega); rw [show 8 * i + j + 1 + (63 - (8 * i + j)) = 64 by omega] at hto2; rw [spTwo, if_neg (fun z => z hv), if_neg (fun e => nI_m1 (by omega) (c_88.trans e)), hto2, ← nI_add, ← pk_mul]; exact ⟨rfl, rfl, hsm⟩)
                  · refine g_goto (tgt := 103) hX dX4_two_82 (by decide) ?_
                    refine g_iinc hX dX4_two_103 rfl (d := 1) (by decide) ?_
                    refine g_goto (tgt := 64) hX dX4_two_106 (by decide) ?_
                    exact G.at (ihj hltj (by rw [show 8 * i + (j + 1) = (8 * i + j) + 1 from rfl, twF, if_neg (by rw [(rsB_f (by rw [show (8 * i + j) / 8 = i by omega, show (8 * i + j) % 8 = j by omega]; exact hx.elim (fun z => absurd (z.1.symm.trans (show x = 0 from c_79)) (by decide)) (fun z => z.2)))]; decide)]; exact hto)) ⟨rfl, rfl, vI (by rw [show 8 * i + (j + 1) = (8 * i + j) + 1 from rfl, twF, if_neg (by rw [(rsB_f (by rw [show (8 * i + j) / 8 = i by omega, show (8 * i + j) % 8 = j by omega]; exact hx.elim (fun z => absurd (z.1.symm.trans (show x = 0 from c_79)) (by decide)) (fun z => z.2)))]; decide)]), rfl, vI (nI_1 j), trivial⟩
                )
              refine g_iconst (v := 0) hX dX4_two_61 (by decide) ?_
              refine g_istore hX dX4_two_62 (by decide) ?_
              exact G.at (loopj 0 (Nat.zero_le _) hto) ⟨rfl, rfl, rfl, rfl, rfl, trivial⟩
            )
          refine g_iconst (v := 0) hX dX4_two_48 (by decide) ?_
          refine g_istore hX dX4_two_49 (by decide) ?_
          refine g_iconst (v := 0) hX dX4_two_51 (by decide) ?_
          refine g_istore hX dX4_two_52 (by decide) ?_
          exact G.at (loop 0 (Nat.zero_le _) rfl) ⟨rfl, rfl, rfl, rfl, trivial⟩
        · refine g_aload_n hX dX4_two_32 rfl rfl ?_
          refine g_bipush (v := -2) hX dX4_two_33 (by decide) ?_
          refine g_callV _ hX dX4_two_35 k_X4_57 ⟨by decide, by decide⟩ (by decide) hw.k0 rfl rfl (ok_refuse_bad hw) rfl (Nat.le_of_ble_eq_true rfl) (fun r1 I1 L1 hq => ?_)
          obtain ⟨rfl, rfl, rfl⟩ := hq
          refine g_pop hX dX4_two_38 rfl ?_
          refine g_bipush (v := -10) hX dX4_two_39 (by decide) ?_
          exact g_iret hX dX4_two_41 rfl (by rw [spTwo, if_pos (by intro z; first | exact b01_0 c_8 z.1 | exact b01_0 c_19 z.2.1 | exact z.2.2.1 c_24 | exact c_29 z.2.2.2)]; exact ⟨rfl, rfl, SmX.rf⟩)
