theorem wbF_01 (k f b : Int32) : wbF k f b = 0 ∨ wbF k f b = 1 := by
  unfold wbF; repeat' split
  all_goals first | exact Or.inl rfl | exact Or.inr rfl
theorem b01_eq {P : Prop} [Decidable P] {x : Int32} (h : x = 0 ∨ x = 1) : x = b01 P ↔ (¬ x = 0 ↔ P) := by
  unfold b01
  rcases h with rfl | rfl <;> by_cases p : P <;> simp [p]
/-- the notes on k so far leave the kind j -/
def KK (N : Nat → Int32) (k : Int32) (j i : Nat) : Prop := ∀ x, x < i → N (x * 4) = k → (¬ wbF (nI j) (b01 (N (x * 4 + 1) = 1)) (N (x * 4 + 2)) = 0 ↔ N (x * 4 + 3) = 1)
theorem KK_s {N : Nat → Int32} {k : Int32} {j i : Nat} : KK N k j (i + 1) ↔ KK N k j i ∧ (N (i * 4) = k → (¬ wbF (nI j) (b01 (N (i * 4 + 1) = 1)) (N (i * 4 + 2)) = 0 ↔ N (i * 4 + 3) = 1)) := by
  constructor
  · intro h; exact ⟨fun x hx => h x (by omega), h i (by omega)⟩
  · intro h x hx
    rcases (show x < i ∨ x = i by omega) with g | rfl
    · exact h.1 x g
    · exact h.2
theorem bt_bg (f b : Int32) {i : Nat} (hi : i < 32) : ∀ j, j ≤ 6 → (bt (bgS f b j) i = true ↔ i < j ∧ ¬ wbF (nI i) f b = 0) := by
  intro j
  induction j with
  | zero => intro _; rw [bgS, b_0]; simp
  | succ j ih =>
    intro hj
    rw [bgS]
    by_cases q : wbF (nI j) f b = 0
    · rw [if_pos q, ih (by omega)]
      constructor
      · intro z; exact ⟨by omega, z.2⟩
      · intro z; refine ⟨?_, z.2⟩
        rcases (show i < j ∨ i = j by omega) with g | rfl
        · exact g
        · exact absurd q z.2
    · rw [if_neg q, b_or, bt_one j (by omega) i hi, Bool.or_eq_true, ih (by omega)]
      constructor
      · rintro (z | z)
        · exact ⟨by omega, z.2⟩
        · have := of_decide_eq_true z; subst this; exact ⟨by omega, q⟩
      · intro z
        rcases (show i < j ∨ j = i by omega) with g | g
        · exact Or.inl ⟨g, z.2⟩
        · exact Or.inr (decide_eq_true g)
theorem bt_63 : ∀ i, i < 32 → bt 63 i = decide (i < 6) := by decide +kernel
theorem bt_kn (N : Nat → Int32) (k : Int32) {j : Nat} (hj : j < 32) : ∀ i, bt (knR N k i) j = true ↔ j < 6 ∧ KK N k j i := by
  intro i
  induction i with
  | zero => rw [knR, bt_63 j hj]; simp [KK]
  | succ i ih =>
    rw [KK_s, knR]
    by_cases q : N (i * 4) = k
    · rw [if_pos q, b_and, Bool.and_eq_true, ih]
      by_cases t : N (i * 4 + 3) = 1
      · rw [if_pos t, bgF, bt_bg _ _ hj 6 (Nat.le_refl 6)]
        constructor
        · rintro ⟨⟨h1, h2⟩, -, h3⟩; exact ⟨h1, h2, fun _ => ⟨fun _ => t, fun _ => h3⟩⟩
        · rintro ⟨h1, h2, h3⟩; exact ⟨⟨h1, h2⟩, h1, (h3 q).mpr t⟩
      · rw [if_neg t, b_xor, b_m1 j hj, Bool.xor_true, Bool.not_eq_true', ← Bool.not_eq_true, bgF, bt_bg _ _ hj 6 (Nat.le_refl 6)]
        constructor
        · rintro ⟨⟨h1, h2⟩, h3⟩; exact ⟨h1, h2, fun _ => ⟨fun z => absurd ⟨h1, z⟩ h3, fun z => absurd z t⟩⟩
        · rintro ⟨h1, h2, h3⟩; exact ⟨⟨h1, h2⟩, fun z => t ((h3 q).mp z.2)⟩
    · rw [if_neg q, ih]
      constructor
      · rintro ⟨h1, h2⟩; exact ⟨h1, h2, fun z => absurd z q⟩
      · rintro ⟨h1, h2, -⟩; exact ⟨h1, h2⟩
theorem b_ext' {x y : Int32} (h : ∀ i, i < 32 → (bt x i = true ↔ bt y i = true)) : x = y := b_ext (fun i hi => Bool.eq_iff_iff.mpr (h i hi))
def natOf (x : Int32) : Nat := x.toBitVec.toNat
theorem kn_64 (N : Nat → Int32) (k : Int32) (i : Nat) : ∃ t, t < 64 ∧ knR N k i = nI t := by
  have h : knR N k i = knR N k i &&& 63 := b_ext (fun j hj => by
    rw [b_and, bt_63 j hj]
    by_cases g : j < 6
    · rw [decide_eq_true g, Bool.and_true]
    · rw [decide_eq_false g, Bool.and_false]
      exact (Bool.not_eq_true _).mp (fun z => g ((bt_kn N k hj i).mp z).1))
  refine ⟨(knR N k i).toBitVec.toNat % 64, Nat.mod_lt _ (by decide), ?_⟩
  rw [h]
  apply Int32.toBitVec_inj.mp
  apply BitVec.eq_of_toNat_eq
  rw [Int32.toBitVec_and, BitVec.toNat_and]
  have e : ((63 : Int32).toBitVec).toNat = 2 ^ 6 - 1 := by decide
  rw [e, Nat.and_two_pow_sub_one_eq_mod]
  show _ = (BitVec.ofNat 32 _).toNat
  rw [BitVec.toNat_ofNat]
  omega
set_option maxHeartbeats 4000000 in
set_option maxRecDepth 100000 in
theorem m_kindsOf {w : WG} {I : SI} {L : SL} (hm : ML w) {N : Nat → Int32} {q : Nat} (jq : I 0 5 = nI q) (xq6 : q ≤ 6) (jN : ∀ i, i < q → I 9 i = N (i * 4) ∧ I 10 i = N (i * 4 + 1) ∧ I 11 i = N (i * 4 + 2) ∧ I 12 i = N (i * 4 + 3)) (k : Int32) : Ok w mX5_kindsOf [.ref (gA w 0), .int k] I L (Pr (.int (knR N k q)) I L) := by
  refine Ok.of (by decide) (Nat.le_of_ble_eq_true rfl) (fun X hX => ?_)
  have loop := loop_up (n := 6) (P := fun j => ∀ S : Int32, (∀ x, x < 32 → (bt S x = true ↔ x < j ∧ KK N k x q)) → G X w mX5_kindsOf I L 4 (lvO [(0, .ref (gA w 0)), (1, .int k), (2, .int S), (3, .int (nI j))]) []) (fun j hj ih S hS => by
    refine g_iload_n hX dX5_kindsOf_4 rfl rfl ?_
    refine g_iconst (v := 5) hX dX5_kindsOf_5 (by decide) ?_
    rw [show (5 : Int32) = nI 5 from rfl]
    refine g_icmp_gt (tgt := 132) hX dX5_kindsOf_6 (by decide) (fun c_6 => ?_) (fun c_6 => ?_)
    · refine g_iload_n hX dX5_kindsOf_132 rfl rfl ?_
      exact g_iret hX dX5_kindsOf_133 rfl (⟨vI (b_ext' (fun x hx => by rw [hS x hx, bt_kn N k hx q]; have := nlt c_6 (by decide) (by omega); exact ⟨fun z => ⟨by omega, z.2⟩, fun z => ⟨by omega, z.2⟩⟩)), rfl, rfl⟩)
    · have hltj : j < 6 := by have := Int32.not_lt.mp c_6; have := nle this (by omega) (by decide); omega
      have loopi := loop_up (n := q) (P := fun i => ∀ e : Int32, ((e = 1 ∧ KK N k j i) ∨ (e = 0 ∧ ¬ KK N k j i)) → G X w mX5_kindsOf I L 15 (lvO [(0, .ref (gA w 0)), (1, .int k), (2, .int S), (3, .int (nI j)), (4, .int e), (5, .int (nI i))]) []) (fun i hiq ihi e he => by
        refine g_iload hX dX5_kindsOf_15 rfl ?_
        refine g_aload_n hX dX5_kindsOf_17 rfl rfl ?_
        refine g_get5I hX 5 dX5_kindsOf_18 b_fl_X5_87 hm.k0 (by decide) ?_
        rw [jq]
        refine g_icmp_ge (tgt := 111) hX dX5_kindsOf_21 (by decide) (fun c_21 => ?_) (fun c_21 => ?_)
        · refine g_iload_n hX dX5_kindsOf_111 rfl rfl ?_
          refine g_iload hX dX5_kindsOf_112 rfl ?_
          refine g_if_eq (tgt := 123) hX dX5_kindsOf_114 (by decide) (fun c_114 => ?_) (fun c_114 => ?_)
          · refine g_iconst (v := 0) hX dX5_kindsOf_123 (by decide) ?_
            refine g_ior hX dX5_kindsOf_124 ?_
            refine g_istore_n hX dX5_kindsOf_125 rfl (by decide) ?_
            refine g_iinc hX dX5_kindsOf_126 rfl (d := 1) (by decide) ?_
            refine g_goto (tgt := 4) hX dX5_kindsOf_129 (by decide) ?_
            have ei : i = q := Nat.le_antisymm hiq (nle c_21 (by omega) (by omega))
            subst ei
            exact G.at (ih hltj (S ||| 0) (fun x hx => by rw [i_or0, hS x hx]; exact ⟨fun z => ⟨by omega, z.2⟩, fun z => ⟨(show x < j ∨ x = j by omega).elim id (fun g => absurd (g ▸ z.2) (he.elim (fun y => absurd (y.1.symm.trans c_114) (by decide)) (fun y => y.2))), z.2⟩⟩)) ⟨rfl, rfl, rfl, vI (nI_1 j), trivial⟩
          · refine g_iconst (v := 1) hX dX5_kindsOf_117 (by decide) ?_
            refine g_iload_n hX dX5_kindsOf_118 rfl rfl ?_
            refine g_ishl hX dX5_kindsOf_119 ?_
            refine g_goto (tgt := 124) hX dX5_kindsOf_120 (by decide) ?_
            refine g_ior hX dX5_kindsOf_124 ?_
            refine g_istore_n hX dX5_kindsOf_125 rfl (by decide) ?_
            refine g_iinc hX dX5_kindsOf_126 rfl (d := 1) (by decide) ?_
            refine g_goto (tgt := 4) hX dX5_kindsOf_129 (by decide) ?_
            have ei : i = q := Nat.le_antisymm hiq (nle c_21 (by omega) (by omega))
            subst ei
            exact G.at (ih hltj _ (fun x hx => by rw [b_or, bt_one j (by omega) x hx, Bool.or_eq_true, hS x hx]; exact ⟨fun z => z.elim (fun z => ⟨by omega, z.2⟩) (fun z => by have := of_decide_eq_true z; subst this; exact ⟨by omega, he.elim (fun y => y.2) (fun y => absurd y.1 c_114)⟩), fun z => (show x < j ∨ j = x by omega).elim (fun g => Or.inl ⟨g, z.2⟩) (fun g => Or.inr (decide_eq_true g))⟩)) ⟨rfl, rfl, rfl, vI (nI_1 j), trivial⟩
        · have hlt := nnle c_21 (by omega) (by omega)
          have J103 : ∀ e' : Int32, ((e' = 1 ∧ KK N k j (i + 1)) ∨ (e' = 0 ∧ ¬ KK N k j (i + 1))) → G X w mX5_kindsOf I L 103 (lvO [(0, .ref (gA w 0)), (1, .int k), (2, .int S), (3, .int (nI j)), (4, .int e), (5, .int (nI i))]) [.int e'] := by
            intro e' he'
            refine g_istore hX dX5_kindsOf_103 (by decide) ?_
            refine g_iinc hX dX5_kindsOf_105 rfl (d := 1) (by decide) ?_
            refine g_goto (tgt := 15) hX dX5_kindsOf_108 (by decide) ?_
            exact G.at (ihi hlt e' he') ⟨rfl, rfl, rfl, rfl, rfl, vI (nI_1 i), trivial⟩
          have J75 : ∀ so : Int32, ((so = 1 ∧ (¬ wbF (nI j) (b01 (N (i * 4 + 1) = 1)) (N (i * 4 + 2)) = 0 ↔ N (i * 4 + 3) = 1)) ∨ (so = 0 ∧ ¬ (¬ wbF (nI j) (b01 (N (i * 4 + 1) = 1)) (N (i * 4 + 2)) = 0 ↔ N (i * 4 + 3) = 1))) → G X w mX5_kindsOf I L 75 (lvO [(0, .ref (gA w 0)), (1, .int k), (2, .int S), (3, .int (nI j)), (4, .int e), (5, .int (nI i))]) [.int so] := by
            intro so hso
            refine g_istore hX dX5_kindsOf_75 (by decide) ?_
            refine g_iload hX dX5_kindsOf_77 rfl ?_
            refine g_if_eq (tgt := 102) hX dX5_kindsOf_79 (by decide) (fun c_79 => ?_) (fun c_79 => ?_)
            · refine g_iconst (v := 0) hX dX5_kindsOf_102 (by decide) ?_
              exact G.at (J103 0 (Or.inr ⟨rfl, fun z => (he.elim (fun y => absurd (y.1.symm.trans c_79) (by decide)) (fun y => y.2)) (KK_s.mp z).1⟩)) ⟨rfl, rfl, rfl, rfl, rfl, rfl, trivial⟩
            · refine g_aload_n hX dX5_kindsOf_82 rfl rfl ?_
              refine g_get5R hX 13 dX5_kindsOf_83 b_fl_X5_34 hm.k0 (by decide) hm.q9 ?_
              refine g_iload hX dX5_kindsOf_86 rfl ?_
              refine g_ialdN hX dX5_kindsOf_88 hm.k9 (⟨rfl, by omega⟩) (by decide) ?_
              rw [(jN i hlt).1]
              refine g_iload_n hX dX5_kindsOf_89 rfl rfl ?_
              refine g_icmp_ne (tgt := 98) hX dX5_kindsOf_90 (by decide) (fun c_90 => ?_) (fun c_90 => ?_)
              · refine g_iconst (v := 1) hX dX5_kindsOf_98 (by decide) ?_
                refine g_goto (tgt := 103) hX dX5_kindsOf_99 (by decide) ?_
                exact G.at (J103 1 (Or.inl ⟨rfl, KK_s.mpr ⟨(he.elim (fun y => y.2) (fun y => absurd y.1 c_79)), fun z => absurd z c_90⟩⟩)) ⟨rfl, rfl, rfl, rfl, rfl, rfl, trivial⟩
              · refine g_iload hX dX5_kindsOf_93 rfl ?_
                refine g_if_eq (tgt := 102) hX dX5_kindsOf_95 (by decide) (fun c_95 => ?_) (fun c_95 => ?_)
                · refine g_iconst (v := 0) hX dX5_kindsOf_102 (by decide) ?_
                  exact G.at (J103 0 (Or.inr ⟨rfl, fun z => (hso.elim (fun y => absurd (y.1.symm.trans c_95) (by decide)) (fun y => y.2)) ((KK_s.mp z).2 c_90)⟩)) ⟨rfl, rfl, rfl, rfl, rfl, rfl, trivial⟩
                · refine g_iconst (v := 1) hX dX5_kindsOf_98 (by decide) ?_
                  refine g_goto (tgt := 103) hX dX5_kindsOf_99 (by decide) ?_
                  exact G.at (J103 1 (Or.inl ⟨rfl, KK_s.mpr ⟨(he.elim (fun y => y.2) (fun y => absurd y.1 c_79)), fun _ => hso.elim (fun y => y.2) (fun y => absurd y.1 c_95)⟩⟩)) ⟨rfl, rfl, rfl, rfl, rfl, rfl, trivial⟩
          have J67 : ∀ t : Int32, t = b01 (N (i * 4 + 3) = 1) → G X w mX5_kindsOf I L 67 (lvO [(0, .ref (gA w 0)), (1, .int k), (2, .int S), (3, .int (nI j)), (4, .int e), (5, .int (nI i))]) [.int t, .int (wbF (nI j) (b01 (N (i * 4 + 1) = 1)) (N (i * 4 + 2)))] := by
            intro t ht
            subst ht
            refine g_icmp_ne (tgt := 74) hX dX5_kindsOf_67 (by decide) (fun c_67 => ?_) (fun c_67 => ?_)
            · refine g_iconst (v := 0) hX dX5_kindsOf_74 (by decide) ?_
              exact G.at (J75 0 (Or.inr ⟨rfl, fun z => c_67 ((b01_eq (wbF_01 _ _ _)).mpr z)⟩)) ⟨rfl, rfl, rfl, rfl, rfl, rfl, trivial⟩
            · refine g_iconst (v := 1) hX dX5_kindsOf_70 (by decide) ?_
              refine g_goto (tgt := 75) hX dX5_kindsOf_71 (by decide) ?_
              exact G.at (J75 1 (Or.inl ⟨rfl, (b01_eq (wbF_01 _ _ _)).mp c_67⟩)) ⟨rfl, rfl, rfl, rfl, rfl, rfl, trivial⟩
          have J41 : ∀ t : Int32, t = b01 (N (i * 4 + 1) = 1) → G X w mX5_kindsOf I L 41 (lvO [(0, .ref (gA w 0)), (1, .int k), (2, .int S), (3, .int (nI j)), (4, .int e), (5, .int (nI i))]) [.int t, .int (nI j)] := by
            intro t ht
            subst ht
            refine g_aload_n hX dX5_kindsOf_41 rfl rfl ?_
            refine g_get5R hX 15 dX5_kindsOf_42 b_fl_X5_40 hm.k0 (by decide) hm.q11 ?_
            refine g_iload hX dX5_kindsOf_45 rfl ?_
            refine g_ialdN hX dX5_kindsOf_47 hm.k11 (⟨rfl, by omega⟩) (by decide) ?_
            rw [(jN i hlt).2.2.1]
            refine g_callSp _ hX dX5_kindsOf_48 k_X5_182 ⟨by decide, by decide⟩ rfl (ok_bitesBy _ _ _) rfl (Nat.le_of_ble_eq_true rfl) ?_
            refine g_aload_n hX dX5_kindsOf_51 rfl rfl ?_
            refine g_get5R hX 16 dX5_kindsOf_52 b_fl_X5_43 hm.k0 (by decide) hm.q12 ?_
            refine g_iload hX dX5_kindsOf_55 rfl ?_
            refine g_ialdN hX dX5_kindsOf_57 hm.k12 (⟨rfl, by omega⟩) (by decide) ?_
            rw [(jN i hlt).2.2.2]
            refine g_iconst (v := 1) hX dX5_kindsOf_58 (by decide) ?_
            refine g_icmp_ne (tgt := 66) hX dX5_kindsOf_59 (by decide) (fun c_59 => ?_) (fun c_59 => ?_)
            · refine g_iconst (v := 0) hX dX5_kindsOf_66 (by decide) ?_
              exact G.at (J67 0 (by rw [b01, if_neg c_59])) ⟨rfl, rfl, rfl, rfl, rfl, rfl, trivial⟩
            · refine g_iconst (v := 1) hX dX5_kindsOf_62 (by decide) ?_
              refine g_goto (tgt := 67) hX dX5_kindsOf_63 (by decide) ?_
              exact G.at (J67 1 (by rw [b01, if_pos c_59])) ⟨rfl, rfl, rfl, rfl, rfl, rfl, trivial⟩
          refine g_iload_n hX dX5_kindsOf_24 rfl rfl ?_
          refine g_aload_n hX dX5_kindsOf_25 rfl rfl ?_
          refine g_get5R hX 14 dX5_kindsOf_26 b_fl_X5_37 hm.k0 (by decide) hm.q10 ?_
          refine g_iload hX dX5_kindsOf_29 rfl ?_
          refine g_ialdN hX dX5_kindsOf_31 hm.k10 (⟨rfl, by omega⟩) (by decide) ?_
          rw [(jN i hlt).2.1]
          refine g_iconst (v := 1) hX dX5_kindsOf_32 (by decide) ?_
          refine g_icmp_ne (tgt := 40) hX dX5_kindsOf_33 (by decide) (fun c_33 => ?_) (fun c_33 => ?_)
          · refine g_iconst (v := 0) hX dX5_kindsOf_40 (by decide) ?_
            exact G.at (J41 0 (by rw [b01, if_neg c_33])) ⟨rfl, rfl, rfl, rfl, rfl, rfl, trivial⟩
          · refine g_iconst (v := 1) hX dX5_kindsOf_36 (by decide) ?_
            refine g_goto (tgt := 41) hX dX5_kindsOf_37 (by decide) ?_
            exact G.at (J41 1 (by rw [b01, if_pos c_33])) ⟨rfl, rfl, rfl, rfl, rfl, rfl, trivial⟩
        )
      refine g_iconst (v := 1) hX dX5_kindsOf_9 (by decide) ?_
      refine g_istore hX dX5_kindsOf_10 (by decide) ?_
      refine g_iconst (v := 0) hX dX5_kindsOf_12 (by decide) ?_
      refine g_istore hX dX5_kindsOf_13 (by decide) ?_
      exact G.at (loopi 0 (Nat.zero_le _) 1 (Or.inl ⟨rfl, fun x h => absurd h (Nat.not_lt_zero x)⟩)) ⟨rfl, rfl, rfl, rfl, rfl, rfl, trivial⟩
    )
  refine g_iconst (v := 0) hX dX5_kindsOf_0 (by decide) ?_
  refine g_istore_n hX dX5_kindsOf_1 rfl (by decide) ?_
  refine g_iconst (v := 0) hX dX5_kindsOf_2 (by decide) ?_
  refine g_istore_n hX dX5_kindsOf_3 rfl (by decide) ?_
  exact G.at (loop 0 (Nat.zero_le _) 0 (fun x hx => by rw [b_0]; exact ⟨fun z => absurd z (by decide), fun z => absurd z.1 (Nat.not_lt_zero x)⟩)) ⟨rfl, rfl, rfl, rfl, trivial⟩
set_option maxHeartbeats 4000000 in
set_option maxRecDepth 100000 in
theorem n_is {w : WG} {I : SI} {L : SL} {XI : SI} {n d r q p m : Nat} (hm : ML w) (h : RR XI I L n d r q p m) (k : Int32) : Ok w mX5_is [.ref (gA w 0), .int k] I L (QM (spIs XI q k)) := by
  obtain ⟨hRX, hRJ, hRF⟩ := id h
  obtain ⟨⟨xn, xn4, xd, xd7, xr, xr9⟩, ⟨xq, xq6⟩, ⟨xp, xp8⟩, ⟨xm, xm150⟩, xA, xH, xD, xP, xT⟩ := id hRX
  obtain ⟨⟨jn, -, jd, -, jB, jK⟩, jr, ja, jq, jp, jm, jH, jN, jP, jT⟩ := RJ_v hRJ
  have hRV : RV (vx XI 1) I n d := hRJ.1
  have hMS := h.ms
  refine Ok.of (by decide) (Nat.le_of_ble_eq_true rfl) (fun X hX => ?_)
  refine g_aload_n hX dX5_is_0 rfl rfl ?_
  refine g_iload_n hX dX5_is_1 rfl rfl ?_
  refine g_callVp _ hX dX5_is_2 k_X5_209 ⟨by decide, by decide⟩ (by decide) hm.k0 rfl rfl (m_isDog hm jd (by omega) _) rfl (Nat.le_of_ble_eq_true rfl) ?_
  refine g_if_eq (tgt := 16) hX dX5_is_5 (by decide) (fun c_5 => ?_) (fun c_5 => ?_)
  · refine g_aload_n hX dX5_is_16 rfl rfl ?_
    refine g_callV _ hX dX5_is_17 k_X5_97 ⟨by decide, by decide⟩ (by decide) hm.k0 rfl rfl (m_bad hm) rfl (Nat.le_of_ble_eq_true rfl) (fun r1 I1 L1 hq => ?_)
    obtain ⟨rfl, rfl, rfl⟩ := hq
    exact g_iret hX dX5_is_20 rfl (by rw [spIs, if_pos (fun z => b01_0 c_5 (xd ▸ z))]; exact ⟨rfl, n, d, r, q, p, m, h.bad⟩)
  · refine g_aload_n hX dX5_is_8 rfl rfl ?_
    refine g_iload_n hX dX5_is_9 rfl rfl ?_
    refine g_callVp _ hX dX5_is_10 k_X5_239 ⟨by decide, by decide⟩ (by decide) hm.k0 rfl rfl (m_kindsOf hm jq xq6 jN _) rfl (Nat.le_of_ble_eq_true rfl) ?_
    refine g_goto (tgt := 20) hX dX5_is_13 (by decide) ?_
    exact g_iret hX dX5_is_20 rfl (by rw [spIs, if_neg (fun z => z (by rw [xd]; exact b01_n c_5))]; exact ⟨rfl, n, d, r, q, p, m, h⟩)
def cnB (S : Int32) (c : Nat) : Nat → Int32
  | 0 => 0
  | j + 1 => cnB S c j + (if ¬ inF S (nI j) = 0 ∧ ¬ wbF (nI j) (b01 (9 < c)) (nI (c % 10)) = 0 then 1 else 0)
def cnN (S : Int32) (c : Nat) : Nat → Int32
  | 0 => 0
  | j + 1 => cnN S c j + (if ¬ inF S (nI j) = 0 ∧ wbF (nI j) (b01 (9 < c)) (nI (c % 10)) = 0 then 1 else 0)
set_option maxRecDepth 100000 in
theorem cn_all : ∀ t, t < 64 → ∀ c, c < 20 → cnB (nI t) c 6 = bcF (nI t &&& bgF (b01 (nI (c / 10) = 1)) (nI (c % 10))) ∧ cnN (nI t) c 6 = bcF (nI t) - bcF (nI t &&& bgF (b01 (nI (c / 10) = 1)) (nI (c % 10))) := by decide +kernel
theorem sg_0 : ∀ t, t < 64 → sgF (nI t) 0 < 7 ∧ sgF (nI t) 0 < 1048576 := by decide +kernel
theorem sg_le {S : Int32} {c : Nat} {B N : Int32} (h1 : B = bcF (S &&& bgF (b01 (nI (c / 10) = 1)) (nI (c % 10)))) (h2 : N = bcF S - bcF (S &&& bgF (b01 (nI (c / 10) = 1)) (nI (c % 10)))) (h : B ≤ N) : N = sgF S c := by
  unfold sgF; rw [← h2, ← h1]
  by_cases q : B < N
  · rw [if_pos q]
  · rw [if_neg q]; exact Int32.le_antisymm (Int32.not_lt.mp q) h
theorem sg_gt {S : Int32} {c : Nat} {B N : Int32} (h1 : B = bcF (S &&& bgF (b01 (nI (c / 10) = 1)) (nI (c % 10)))) (h2 : N = bcF S - bcF (S &&& bgF (b01 (nI (c / 10) = 1)) (nI (c % 10)))) (h : ¬ B ≤ N) : B = sgF S c := by
  unfold sgF; rw [← h2, ← h1, if_neg (fun q => h (Int32.le_of_lt q))]
/-- the best question so far -/
def SD (S : Int32) (c : Nat) (b l : Int32) : Prop := (c = 0 ∧ b = -1 ∧ l = 1048576) ∨ (0 < c ∧ sdX S c = (b, l))
theorem SD.yes {t c : Nat} {b l : Int32} (h : SD (nI t) c b l) (ht : t < 64) (hg : sgF (nI t) c < l) : SD (nI t) (c + 1) (nI c) (sgF (nI t) c) := by
  refine Or.inr ⟨by omega, ?_⟩
  rcases h with ⟨rfl, rfl, rfl⟩ | ⟨-, h⟩
  · rw [sdX_yes (sg_0 t ht).1 rfl]
  · rw [sdX_yes (by rw [h]; exact hg) rfl]
theorem SD.no {t c : Nat} {b l : Int32} (h : SD (nI t) c b l) (ht : t < 64) (hg : ¬ sgF (nI t) c < l) : SD (nI t) (c + 1) b l := by
  refine Or.inr ⟨by omega, ?_⟩
  rcases h with ⟨rfl, rfl, rfl⟩ | ⟨-, h⟩
  · exact absurd (sg_0 t ht).2 hg
  · rw [sdX_no (by rw [h]; exact hg) rfl, h]
set_option maxHeartbeats 4000000 in
set_option maxRecDepth 100000 in
theorem n_send {w : WG} {I : SI} {L : SL} {XI : SI} {n d r q p m : Nat} (hm : ML w) (h : RR XI I L n d r q p m) (k : Int32) : Ok w mX5_send [.ref (gA w 0), .int k] I L (QM (spSend XI q k)) := by
  obtain ⟨hRX, hRJ, hRF⟩ := id h
  obtain ⟨⟨xn, xn4, xd, xd7, xr, xr9⟩, ⟨xq, xq6⟩, ⟨xp, xp8⟩, ⟨xm, xm150⟩, xA, xH, xD, xP, xT⟩ := id hRX
  obtain ⟨⟨jn, -, jd, -, jB, jK⟩, jr, ja, jq, jp, jm, jH, jN, jP, jT⟩ := RJ_v hRJ
  have hRV : RV (vx XI 1) I n d := hRJ.1
  have hMS := h.ms
  refine Ok.of (by decide) (Nat.le_of_ble_eq_true rfl) (fun X hX => ?_)
  refine g_aload_n hX dX5_send_0 rfl rfl ?_
  refine g_iload_n hX dX5_send_1 rfl rfl ?_
  refine g_callVp _ hX dX5_send_2 k_X5_209 ⟨by decide, by decide⟩ (by decide) hm.k0 rfl rfl (m_isDog hm jd (by omega) _) rfl (Nat.le_of_ble_eq_true rfl) ?_
  refine g_if_ne (tgt := 13) hX dX5_send_5 (by decide) (fun c_5 => ?_) (fun c_5 => ?_)
  · refine g_aload_n hX dX5_send_13 rfl rfl ?_
    refine g_iload_n hX dX5_send_14 rfl rfl ?_
    refine g_callVp _ hX dX5_send_15 k_X5_239 ⟨by decide, by decide⟩ (by decide) hm.k0 rfl rfl (m_kindsOf hm jq xq6 jN _) rfl (Nat.le_of_ble_eq_true rfl) ?_
    obtain ⟨t, ht, ht2⟩ := kn_64 (XI 9) k q
    rw [ht2]
    have loop := loop_up (n := 20) (P := fun c => ∀ b l : Int32, SD (nI t) c b l → (c = 0 ∨ ¬ nI t = 0) → G X w mX5_send I L 28 (lvO [(0, .ref (gA w 0)), (2, .int (nI t)), (3, .int b), (4, .int l), (5, .int (nI c))]) []) (fun c hc ih b l hD hz => by
      refine g_iload hX dX5_send_28 rfl ?_
      refine g_bipush (v := 20) hX dX5_send_30 (by decide) ?_
      rw [show (20 : Int32) = nI 20 from rfl]
      refine g_icmp_ge (tgt := 184) hX dX5_send_32 (by decide) (fun c_32 => ?_) (fun c_32 => ?_)
      · refine g_iload_n hX dX5_send_184 rfl rfl ?_
        exact g_iret hX dX5_send_185 rfl (by have ec : c = 20 := (by have := nle c_32 (by decide) (by omega); omega); subst ec; rw [spSend, if_neg (fun z => z (by rw [xd]; exact b01_n c_5)), ht2, if_neg (hz.resolve_left (by decide))]; rcases hD with ⟨z, -⟩ | ⟨-, hD⟩; exact absurd z (by decide); rw [hD]; exact ⟨rfl, n, d, r, q, p, m, h⟩)
      · have hltc : c < 20 := nnle c_32 (by decide) (by omega)
        refine g_iload_n hX dX5_send_35 rfl rfl ?_
        refine g_if_eq (tgt := 184) hX dX5_send_36 (by decide) (fun c_36 => ?_) (fun c_36 => ?_)
        · refine g_iload_n hX dX5_send_184 rfl rfl ?_
          exact g_iret hX dX5_send_185 rfl (by rw [spSend, if_neg (fun z => z (by rw [xd]; exact b01_n c_5)), ht2, if_pos c_36]; have e0 := hz.resolve_right (fun z => z c_36); rcases hD with ⟨-, rfl, -⟩ | ⟨z, -⟩; exact ⟨rfl, n, d, r, q, p, m, h⟩; exact absurd z (by omega))
        · have hS0 : ¬ nI t = 0 := c_36
          have J146 : ∀ g : Int32, g = sgF (nI t) c → G X w mX5_send I L 146 (lvO [(0, .ref (gA w 0)), (2, .int (nI t)), (3, .int b), (4, .int l), (5, .int (nI c))]) [.int g] := by
            intro g hg
            subst hg
            refine g_istore hX dX5_send_146 (by decide) ?_
            refine g_iload hX dX5_send_148 rfl ?_
            refine g_iload hX dX5_send_150 rfl ?_
            refine g_icmp_ge (tgt := 160) hX dX5_send_152 (by decide) (fun c_152 => ?_) (fun c_152 => ?_)
            · refine g_iload_n hX dX5_send_160 rfl rfl ?_
              refine g_istore_n hX dX5_send_161 rfl (by decide) ?_
              refine g_iload hX dX5_send_162 rfl ?_
              refine g_iload hX dX5_send_164 rfl ?_
              refine g_icmp_ge (tgt := 174) hX dX5_send_166 (by decide) (fun c_166 => ?_) (fun c_166 => ?_)
              · refine g_iload hX dX5_send_174 rfl ?_
                refine g_istore hX dX5_send_176 (by decide) ?_
                refine g_iinc hX dX5_send_178 rfl (d := 1) (by decide) ?_
                refine g_goto (tgt := 28) hX dX5_send_181 (by decide) ?_
                exact G.at (ih hltc b l (hD.no ht (Int32.not_lt.mpr c_152)) (Or.inr hS0)) ⟨rfl, rfl, rfl, rfl, vI (nI_1 c), trivial⟩
              · refine g_iload hX dX5_send_169 rfl ?_
                refine g_goto (tgt := 176) hX dX5_send_171 (by decide) ?_
                refine g_istore hX dX5_send_176 (by decide) ?_
                refine g_iinc hX dX5_send_178 rfl (d := 1) (by decide) ?_
                refine g_goto (tgt := 28) hX dX5_send_181 (by decide) ?_
                exact absurd c_152 c_166
            · refine g_iload hX dX5_send_155 rfl ?_
              refine g_goto (tgt := 161) hX dX5_send_157 (by decide) ?_
              refine g_istore_n hX dX5_send_161 rfl (by decide) ?_
              refine g_iload hX dX5_send_162 rfl ?_
              refine g_iload hX dX5_send_164 rfl ?_
              refine g_icmp_ge (tgt := 174) hX dX5_send_166 (by decide) (fun c_166 => ?_) (fun c_166 => ?_)
              · refine g_iload hX dX5_send_174 rfl ?_
                refine g_istore hX dX5_send_176 (by decide) ?_
                refine g_iinc hX dX5_send_178 rfl (d := 1) (by decide) ?_
                refine g_goto (tgt := 28) hX dX5_send_181 (by decide) ?_
                exact absurd c_166 c_152
              · refine g_iload hX dX5_send_169 rfl ?_
                refine g_goto (tgt := 176) hX dX5_send_171 (by decide) ?_
                refine g_istore hX dX5_send_176 (by decide) ?_
                refine g_iinc hX dX5_send_178 rfl (d := 1) (by decide) ?_
                refine g_goto (tgt := 28) hX dX5_send_181 (by decide) ?_
                exact G.at (ih hltc (nI c) (sgF (nI t) c) (hD.yes ht (Int32.not_le.mp c_152)) (Or.inr hS0)) ⟨rfl, rfl, rfl, rfl, vI (nI_1 c), trivial⟩
          have loopj := loop_up (n := 6) (P := fun j => G X w mX5_send I L 48 (lvO [(0, .ref (gA w 0)), (2, .int (nI t)), (3, .int b), (4, .int l), (5, .int (nI c)), (6, .int (cnB (nI t) c j)), (7, .int (cnN (nI t) c j)), (8, .int (nI j))]) []) (fun j hj ihj => by
            refine g_iload hX dX5_send_48 rfl ?_
            refine g_iconst (v := 5) hX dX5_send_50 (by decide) ?_
            rw [show (5 : Int32) = nI 5 from rfl]
            refine g_icmp_gt (tgt := 132) hX dX5_send_51 (by decide) (fun c_51 => ?_) (fun c_51 => ?_)
            · refine g_iload hX dX5_send_132 rfl ?_
              refine g_iload hX dX5_send_134 rfl ?_
              refine g_icmp_le (tgt := 144) hX dX5_send_136 (by decide) (fun c_136 => ?_) (fun c_136 => ?_)
              · refine g_iload hX dX5_send_144 rfl ?_
                have ej : j = 6 := (by have := nlt c_51 (by decide) (by omega); omega)
                subst ej
                exact G.at (J146 _ (sg_le (cn_all t ht c hltc).1 (cn_all t ht c hltc).2 c_136)) ⟨rfl, rfl, rfl, rfl, rfl, trivial⟩
              · refine g_iload hX dX5_send_139 rfl ?_
                refine g_goto (tgt := 146) hX dX5_send_141 (by decide) ?_
                have ej : j = 6 := (by have := nlt c_51 (by decide) (by omega); omega)
                subst ej
                exact G.at (J146 _ (sg_gt (cn_all t ht c hltc).1 (cn_all t ht c hltc).2 c_136)) ⟨rfl, rfl, rfl, rfl, rfl, trivial⟩
            · have hltj : j < 6 := by have := Int32.not_lt.mp c_51; have := nle this (by omega) (by decide); omega
              have J68 : ∀ f : Int32, f = b01 (9 < c) → G X w mX5_send I L 68 (lvO [(0, .ref (gA w 0)), (2, .int (nI t)), (3, .int b), (4, .int l), (5, .int (nI c)), (6, .int (cnB (nI t) c j)), (7, .int (cnN (nI t) c j)), (8, .int (nI j))]) [.int f, .int (nI j)] := by
                intro f hf
                subst hf
                refine g_iload hX dX5_send_68 rfl ?_
                refine g_bipush (v := 10) hX dX5_send_70 (by decide) ?_
                refine g_irem hX dX5_send_72 (by decide) ?_
                rw [show (10 : Int32) = nI 10 from rfl, pk_rem (by omega) (by decide) (by decide)]
                refine g_callSp _ hX dX5_send_73 k_X5_182 ⟨by decide, by decide⟩ rfl (ok_bitesBy _ _ _) rfl (Nat.le_of_ble_eq_true rfl) ?_
                refine g_istore hX dX5_send_76 (by decide) ?_
                refine g_iload hX dX5_send_78 rfl ?_
                refine g_iload_n hX dX5_send_80 rfl rfl ?_
                refine g_iload hX dX5_send_81 rfl ?_
                refine g_callSp _ hX dX5_send_83 k_X5_158 ⟨by decide, by decide⟩ rfl (ok_has _ _) rfl (Nat.le_of_ble_eq_true rfl) ?_
                refine g_if_eq (tgt := 98) hX dX5_send_86 (by decide) (fun c_86 => ?_) (fun c_86 => ?_)
                · refine g_iconst (v := 0) hX dX5_send_98 (by decide) ?_
                  refine g_iadd hX dX5_send_99 ?_
                  refine g_istore hX dX5_send_100 (by decide) ?_
                  refine g_iload hX dX5_send_102 rfl ?_
                  refine g_iload_n hX dX5_send_104 rfl rfl ?_
                  refine g_iload hX dX5_send_105 rfl ?_
                  refine g_callSp _ hX dX5_send_107 k_X5_158 ⟨by decide, by decide⟩ rfl (ok_has _ _) rfl (Nat.le_of_ble_eq_true rfl) ?_
                  refine g_if_eq (tgt := 122) hX dX5_send_110 (by decide) (fun c_110 => ?_) (fun c_110 => ?_)
                  · refine g_iconst (v := 0) hX dX5_send_122 (by decide) ?_
                    refine g_iadd hX dX5_send_123 ?_
                    refine g_istore hX dX5_send_124 (by decide) ?_
                    refine g_iinc hX dX5_send_126 rfl (d := 1) (by decide) ?_
                    refine g_goto (tgt := 48) hX dX5_send_129 (by decide) ?_
                    exact G.at (ihj hltj) ⟨rfl, rfl, rfl, rfl, rfl, vI (by rw [cnB, if_neg (fun z => z.1 c_86)]), vI (by rw [cnN, if_neg (fun z => z.1 c_110)]), vI (nI_1 j), trivial⟩
                  · refine g_iload hX dX5_send_113 rfl ?_
                    refine g_if_ne (tgt := 122) hX dX5_send_115 (by decide) (fun c_115 => ?_) (fun c_115 => ?_)
                    · refine g_iconst (v := 0) hX dX5_send_122 (by decide) ?_
                      refine g_iadd hX dX5_send_123 ?_
                      refine g_istore hX dX5_send_124 (by decide) ?_
                      refine g_iinc hX dX5_send_126 rfl (d := 1) (by decide) ?_
                      refine g_goto (tgt := 48) hX dX5_send_129 (by decide) ?_
                      exact G.at (ihj hltj) ⟨rfl, rfl, rfl, rfl, rfl, vI (by rw [cnB, if_neg (fun z => z.1 c_86)]), vI (by rw [cnN, if_neg (fun z => c_115 z.2)]), vI (nI_1 j), trivial⟩
                    · refine g_iconst (v := 1) hX dX5_send_118 (by decide) ?_
                      refine g_goto (tgt := 123) hX dX5_send_119 (by decide) ?_
                      refine g_iadd hX dX5_send_123 ?_
                      refine g_istore hX dX5_send_124 (by decide) ?_
                      refine g_iinc hX dX5_send_126 rfl (d := 1) (by decide) ?_
                      refine g_goto (tgt := 48) hX dX5_send_129 (by decide) ?_
                      exact G.at (ihj hltj) ⟨rfl, rfl, rfl, rfl, rfl, vI (by rw [cnB, if_neg (fun z => z.1 c_86)]), vI (by rw [cnN, if_pos ⟨c_110, c_115⟩]), vI (nI_1 j), trivial⟩
                · refine g_iload hX dX5_send_89 rfl ?_
                  refine g_if_eq (tgt := 98) hX dX5_send_91 (by decide) (fun c_91 => ?_) (fun c_91 => ?_)
                  · refine g_iconst (v := 0) hX dX5_send_98 (by decide) ?_
                    refine g_iadd hX dX5_send_99 ?_
                    refine g_istore hX dX5_send_100 (by decide) ?_
                    refine g_iload hX dX5_send_102 rfl ?_
                    refine g_iload_n hX dX5_send_104 rfl rfl ?_
                    refine g_iload hX dX5_send_105 rfl ?_
                    refine g_callSp _ hX dX5_send_107 k_X5_158 ⟨by decide, by decide⟩ rfl (ok_has _ _) rfl (Nat.le_of_ble_eq_true rfl) ?_
                    refine g_if_eq (tgt := 122) hX dX5_send_110 (by decide) (fun c_110 => ?_) (fun c_110 => ?_)
                    · refine g_iconst (v := 0) hX dX5_send_122 (by decide) ?_
                      refine g_iadd hX dX5_send_123 ?_
                      refine g_istore hX dX5_send_124 (by decide) ?_
                      refine g_iinc hX dX5_send_126 rfl (d := 1) (by decide) ?_
                      refine g_goto (tgt := 48) hX dX5_send_129 (by decide) ?_
                      exact G.at (ihj hltj) ⟨rfl, rfl, rfl, rfl, rfl, vI (by rw [cnB, if_neg (fun z => z.2 c_91)]), vI (by rw [cnN, if_neg (fun z => z.1 c_110)]), vI (nI_1 j), trivial⟩
                    · refine g_iload hX dX5_send_113 rfl ?_
                      refine g_if_ne (tgt := 122) hX dX5_send_115 (by decide) (fun c_115 => ?_) (fun c_115 => ?_)
                      · refine g_iconst (v := 0) hX dX5_send_122 (by decide) ?_
                        refine g_iadd hX dX5_send_123 ?_
                        refine g_istore hX dX5_send_124 (by decide) ?_
                        refine g_iinc hX dX5_send_126 rfl (d := 1) (by decide) ?_
                        refine g_goto (tgt := 48) hX dX5_send_129 (by decide) ?_
                        exact G.at (ihj hltj) ⟨rfl, rfl, rfl, rfl, rfl, vI (by rw [cnB, if_neg (fun z => z.2 c_91)]), vI (by rw [cnN, if_neg (fun z => c_115 z.2)]), vI (nI_1 j), trivial⟩
                      · refine g_iconst (v := 1) hX dX5_send_118 (by decide) ?_
                        refine g_goto (tgt := 123) hX dX5_send_119 (by decide) ?_
                        refine g_iadd hX dX5_send_123 ?_
                        refine g_istore hX dX5_send_124 (by decide) ?_
                        refine g_iinc hX dX5_send_126 rfl (d := 1) (by decide) ?_
                        refine g_goto (tgt := 48) hX dX5_send_129 (by decide) ?_
                        exact G.at (ihj hltj) ⟨rfl, rfl, rfl, rfl, rfl, vI (by rw [cnB, if_neg (fun z => z.2 c_91)]), vI (by rw [cnN, if_pos ⟨c_110, c_115⟩]), vI (nI_1 j), trivial⟩
                  · refine g_iconst (v := 1) hX dX5_send_94 (by decide) ?_
                    refine g_goto (tgt := 99) hX dX5_send_95 (by decide) ?_
                    refine g_iadd hX dX5_send_99 ?_
                    refine g_istore hX dX5_send_100 (by decide) ?_
                    refine g_iload hX dX5_send_102 rfl ?_
                    refine g_iload_n hX dX5_send_104 rfl rfl ?_
                    refine g_iload hX dX5_send_105 rfl ?_
                    refine g_callSp _ hX dX5_send_107 k_X5_158 ⟨by decide, by decide⟩ rfl (ok_has _ _) rfl (Nat.le_of_ble_eq_true rfl) ?_
                    refine g_if_eq (tgt := 122) hX dX5_send_110 (by decide) (fun c_110 => ?_) (fun c_110 => ?_)
                    · refine g_iconst (v := 0) hX dX5_send_122 (by decide) ?_
                      refine g_iadd hX dX5_send_123 ?_
                      refine g_istore hX dX5_send_124 (by decide) ?_
                      refine g_iinc hX dX5_send_126 rfl (d := 1) (by decide) ?_
                      refine g_goto (tgt := 48) hX dX5_send_129 (by decide) ?_
                      exact G.at (ihj hltj) ⟨rfl, rfl, rfl, rfl, rfl, vI (by rw [cnB, if_pos ⟨c_86, c_91⟩]), vI (by rw [cnN, if_neg (fun z => z.1 c_110)]), vI (nI_1 j), trivial⟩
                    · refine g_iload hX dX5_send_113 rfl ?_
                      refine g_if_ne (tgt := 122) hX dX5_send_115 (by decide) (fun c_115 => ?_) (fun c_115 => ?_)
                      · refine g_iconst (v := 0) hX dX5_send_122 (by decide) ?_
                        refine g_iadd hX dX5_send_123 ?_
                        refine g_istore hX dX5_send_124 (by decide) ?_
                        refine g_iinc hX dX5_send_126 rfl (d := 1) (by decide) ?_
                        refine g_goto (tgt := 48) hX dX5_send_129 (by decide) ?_
                        exact G.at (ihj hltj) ⟨rfl, rfl, rfl, rfl, rfl, vI (by rw [cnB, if_pos ⟨c_86, c_91⟩]), vI (by rw [cnN, if_neg (fun z => c_115 z.2)]), vI (nI_1 j), trivial⟩
                      · refine g_iconst (v := 1) hX dX5_send_118 (by decide) ?_
                        refine g_goto (tgt := 123) hX dX5_send_119 (by decide) ?_
                        refine g_iadd hX dX5_send_123 ?_
                        refine g_istore hX dX5_send_124 (by decide) ?_
                        refine g_iinc hX dX5_send_126 rfl (d := 1) (by decide) ?_
                        refine g_goto (tgt := 48) hX dX5_send_129 (by decide) ?_
                        exact G.at (ihj hltj) ⟨rfl, rfl, rfl, rfl, rfl, vI (by rw [cnB, if_pos ⟨c_86, c_91⟩]), vI (by rw [cnN, if_pos ⟨c_110, c_115⟩]), vI (nI_1 j), trivial⟩
              refine g_iload hX dX5_send_54 rfl ?_
              refine g_iload hX dX5_send_56 rfl ?_
              refine g_bipush (v := 9) hX dX5_send_58 (by decide) ?_
              rw [show (9 : Int32) = nI 9 from rfl]
              refine g_icmp_le (tgt := 67) hX dX5_send_60 (by decide) (fun c_60 => ?_) (fun c_60 => ?_)
              · refine g_iconst (v := 0) hX dX5_send_67 (by decide) ?_
                exact G.at (J68 0 (by rw [b01, if_neg (by have := nle c_60 (by omega) (by decide); omega)])) ⟨rfl, rfl, rfl, rfl, rfl, rfl, rfl, rfl, trivial⟩
              · refine g_iconst (v := 1) hX dX5_send_63 (by decide) ?_
                refine g_goto (tgt := 68) hX dX5_send_64 (by decide) ?_
                exact G.at (J68 1 (by rw [b01, if_pos (by have := nnle c_60 (by omega) (by decide); omega)])) ⟨rfl, rfl, rfl, rfl, rfl, rfl, rfl, rfl, trivial⟩
            )
          refine g_iconst (v := 0) hX dX5_send_39 (by decide) ?_
          refine g_istore hX dX5_send_40 (by decide) ?_
          refine g_iconst (v := 0) hX dX5_send_42 (by decide) ?_
          refine g_istore hX dX5_send_43 (by decide) ?_
          refine g_iconst (v := 0) hX dX5_send_45 (by decide) ?_
          refine g_istore hX dX5_send_46 (by decide) ?_
          exact G.at (loopj 0 (Nat.zero_le _)) ⟨rfl, rfl, rfl, rfl, rfl, rfl, rfl, rfl, trivial⟩
      )
    refine g_istore_n hX dX5_send_18 rfl (by decide) ?_
    refine g_iconst (v := -1) hX dX5_send_19 (by decide) ?_
    refine g_istore_n hX dX5_send_20 rfl (by decide) ?_
    refine g_ldc (v := 1048576) hX dX5_send_21 b_ct_X5_242 ?_
    refine g_istore hX dX5_send_23 (by decide) ?_
    refine g_iconst (v := 0) hX dX5_send_25 (by decide) ?_
    refine g_istore hX dX5_send_26 (by decide) ?_
    exact G.at (loop 0 (Nat.zero_le _) (-1) 1048576 (Or.inl ⟨rfl, rfl, rfl⟩) (Or.inl rfl)) ⟨rfl, rfl, rfl, rfl, rfl, trivial⟩
  · refine g_aload_n hX dX5_send_8 rfl rfl ?_
    refine g_callV _ hX dX5_send_9 k_X5_97 ⟨by decide, by decide⟩ (by decide) hm.k0 rfl rfl (m_bad hm) rfl (Nat.le_of_ble_eq_true rfl) (fun r1 I1 L1 hq => ?_)
    obtain ⟨rfl, rfl, rfl⟩ := hq
    exact g_iret hX dX5_send_12 rfl (by rw [spSend, if_pos (fun z => b01_0 c_5 (xd ▸ z))]; exact ⟨rfl, n, d, r, q, p, m, h.bad⟩)
