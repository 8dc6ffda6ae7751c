theorem XVr {I : SI} {n d r : Nat} {f : Nat → Int32} (h : XV I n d r) : XV (rS I 24 f) n d r := by
  unfold XV; rw [rS_ne _ _ _ (by decide)]; exact h
theorem rnd_row {I : SI} {f : Nat → Int32} {n d r : Nat} {s : Int32} {h : Nat → Int32} : rndF (vx (rS I 24 f) 1) n d r s h = rndF (vx I 1) n d r s h := by
  unfold rndF vx; simp (disch := decide) only [rS_ne]
theorem ev_n : ∀ d, d ≤ 7 → ((1 : Int32) <<< (nI d &&& 31)) - 1 = nI (2 ^ d - 1) := by decide +kernel
def spRound (I : SI) (n d r p : Nat) (m : Int32) : Value × SI := if ¬ (1 ≤ m ∧ m ≤ 30) then (.int (-2), rfX I 6) else (.int (pmF (ahF (keepV (vx I 1) p) n d r (min m.toNatClampNeg (999 - r))) n), wV I 1 (rdV (keepV (vx I 1) p) n d r (min m.toNatClampNeg (999 - r))))
set_option maxHeartbeats 4000000 in
set_option maxRecDepth 100000 in
theorem x_round {w : WG} {I : SI} {L : SL} {n d r p : Nat} (hw : XL w) (hI : XV I n d r) (hp : I 1 5 = nI p) (hp8 : p ≤ 8) (m : Int32) : Ok w mX4_round [.ref (gA w 0), .int m] I L (QX (spRound I n d r p m) L) := by
  obtain ⟨hn, hn4, hd, hd7, hr, hr9⟩ := id hI
  refine Ok.of (by decide) (Nat.le_of_ble_eq_true rfl) (fun X hX => ?_)
  refine g_iload_n hX dX4_round_0 rfl rfl ?_
  refine g_iconst (v := 1) hX dX4_round_1 (by decide) ?_
  refine g_bipush (v := 30) hX dX4_round_2 (by decide) ?_
  refine g_callSp _ hX dX4_round_4 k_X4_53 ⟨by decide, by decide⟩ rfl (ok_within _ _ _) rfl (Nat.le_of_ble_eq_true rfl) ?_
  refine g_if_ne (tgt := 17) hX dX4_round_7 (by decide) (fun c_7 => ?_) (fun c_7 => ?_)
  · have hv := b01_n c_7
    obtain ⟨m, hm, rfl⟩ := ix2 (n := 30) rfl (by decide) ⟨Int32.le_trans (by decide) hv.1, hv.2⟩
    have hK0 : (keepV (vx I 1) p) 0 0 = nI n := by rw [keepV_0 (by decide)]; exact hn
    have hK1 : (keepV (vx I 1) p) 0 1 = nI d := by rw [keepV_0 (by decide)]; exact hd
    have hK3 : (keepV (vx I 1) p) 0 3 = nI r := by rw [keepV_0 (by decide)]; exact hr
    have loop := loop_up (n := min m (999 - r)) (P := fun i => G X w mX4_round (wV I 1 (rdV (keepV (vx I 1) p) n d r i)) L 26 (lvO [(0, .ref (gA w 0)), (1, .int (nI m)), (2, .int (nI i))]) []) (fun i hk ih => by
      refine g_iload_n hX dX4_round_26 rfl rfl ?_
      refine g_iload_n hX dX4_round_27 rfl rfl ?_
      refine g_icmp_ge (tgt := 99) hX dX4_round_28 (by decide) (fun c_28 => ?_) (fun c_28 => ?_)
      · refine g_aload_n hX dX4_round_99 rfl rfl ?_
        refine g_get4R hX 0 dX4_round_100 b_fl_X4_10 hw.k0 (by decide) hw.p0 ?_
        refine g_get3R hX 8 dX4_round_103 b_fl_X4_118 hw.now.k0 (by decide) hw.now.p8 ?_
        refine g_aload_n hX dX4_round_106 rfl rfl ?_
        refine g_get4R hX 0 dX4_round_107 b_fl_X4_10 hw.k0 (by decide) hw.p0 ?_
        refine g_get3I hX 0 dX4_round_110 b_fl_X4_61 hw.now.k0 (by decide) ?_
        try simp (disch := decide) only [wV_0, wV_at, wV_rS, wV_rS0, rS_eq, rS_ne, rS_rS, pk_us, pk_un, rdV_h, rdV_k, rdV_3 hK3]
        rw [hK0]
        refine g_callSp _ hX dX4_round_113 k_X4_128 ⟨by decide, by decide⟩ rfl (ok_postmanOf (n := n) hw.now.k3 hn4) rfl (Nat.le_of_ble_eq_true rfl) ?_
        try simp (disch := decide) only [wV_0, wV_at, wV_rS, wV_rS0, rS_eq, rS_ne, rS_rS, pk_us, pk_un, rdV_h, rdV_k, rdV_3 hK3]
        exact g_iret hX dX4_round_116 rfl (by rw [spRound, if_neg (fun z => z hv), nI_clamp (by omega), show i = min m (999 - r) by have := nle c_28 (by omega) (by omega); omega]; exact ⟨rfl, rfl, SmX.rf⟩)
      · have hlm := nnle c_28 (by omega) (by omega)
        refine g_aload_n hX dX4_round_31 rfl rfl ?_
        refine g_get4R hX 0 dX4_round_32 b_fl_X4_10 hw.k0 (by decide) hw.p0 ?_
        refine g_get3I hX 3 dX4_round_35 b_fl_X4_115 hw.now.k0 (by decide) ?_
        try simp (disch := decide) only [wV_0, wV_at, wV_rS, wV_rS0, rS_eq, rS_ne, rS_rS, pk_us, pk_un, rdV_h, rdV_k, rdV_3 hK3]
        refine g_sipush (v := 999) hX dX4_round_38 (by decide) ?_
        rw [show (999 : Int32) = nI 999 from rfl]
        refine g_icmp_ge (tgt := 99) hX dX4_round_41 (by decide) (fun c_41 => ?_) (fun c_41 => ?_)
        · refine g_aload_n hX dX4_round_99 rfl rfl ?_
          refine g_get4R hX 0 dX4_round_100 b_fl_X4_10 hw.k0 (by decide) hw.p0 ?_
          refine g_get3R hX 8 dX4_round_103 b_fl_X4_118 hw.now.k0 (by decide) hw.now.p8 ?_
          refine g_aload_n hX dX4_round_106 rfl rfl ?_
          refine g_get4R hX 0 dX4_round_107 b_fl_X4_10 hw.k0 (by decide) hw.p0 ?_
          refine g_get3I hX 0 dX4_round_110 b_fl_X4_61 hw.now.k0 (by decide) ?_
          try simp (disch := decide) only [wV_0, wV_at, wV_rS, wV_rS0, rS_eq, rS_ne, rS_rS, pk_us, pk_un, rdV_h, rdV_k, rdV_3 hK3]
          rw [hK0]
          refine g_callSp _ hX dX4_round_113 k_X4_128 ⟨by decide, by decide⟩ rfl (ok_postmanOf (n := n) hw.now.k3 hn4) rfl (Nat.le_of_ble_eq_true rfl) ?_
          try simp (disch := decide) only [wV_0, wV_at, wV_rS, wV_rS0, rS_eq, rS_ne, rS_rS, pk_us, pk_un, rdV_h, rdV_k, rdV_3 hK3]
          exact g_iret hX dX4_round_116 rfl (by rw [spRound, if_neg (fun z => z hv), nI_clamp (by omega), show i = min m (999 - r) by have := nle c_41 (by omega) (by omega); omega]; exact ⟨rfl, rfl, SmX.rf⟩)
        · have hlr := nnle c_41 (by omega) (by omega)
          refine g_aload_n hX dX4_round_44 rfl rfl ?_
          refine g_get4R hX 0 dX4_round_45 b_fl_X4_10 hw.k0 (by decide) hw.p0 ?_
          refine g_aload_n hX dX4_round_48 rfl rfl ?_
          refine g_get4R hX 0 dX4_round_49 b_fl_X4_10 hw.k0 (by decide) hw.p0 ?_
          refine g_get3R hX 8 dX4_round_52 b_fl_X4_118 hw.now.k0 (by decide) hw.now.p8 ?_
          refine g_aload_n hX dX4_round_55 rfl rfl ?_
          refine g_get4R hX 0 dX4_round_56 b_fl_X4_10 hw.k0 (by decide) hw.p0 ?_
          refine g_get3I hX 3 dX4_round_59 b_fl_X4_115 hw.now.k0 (by decide) ?_
          try simp (disch := decide) only [wV_0, wV_at, wV_rS, wV_rS0, rS_eq, rS_ne, rS_rS, pk_us, pk_un, rdV_h, rdV_k, rdV_3 hK3]
          refine g_aload_n hX dX4_round_62 rfl rfl ?_
          refine g_get4R hX 0 dX4_round_63 b_fl_X4_10 hw.k0 (by decide) hw.p0 ?_
          refine g_get3I hX 2 dX4_round_66 b_fl_X4_121 hw.now.k0 (by decide) ?_
          try simp (disch := decide) only [wV_0, wV_at, wV_rS, wV_rS0, rS_eq, rS_ne, rS_rS, pk_us, pk_un, rdV_h, rdV_k, rdV_3 hK3]
          refine g_callV _ hX dX4_round_69 k_X4_124 ⟨by decide, by decide⟩ (by decide) hw.now.k0 rfl rfl (ok_addRound (I := wV I 1 (rdV (keepV (vx I 1) p) n d r i)) (v := 1) (q := 1 + 3) hw.now hw.now.k3 (fun j h1 h2 => by omega) (by rw [wV_0, rdV_k (by decide) (by decide)]; exact hK0) hn4 (by rw [wV_0, rdV_k (by decide) (by decide)]; exact hK1) hd7 (by omega) _) rfl (Nat.le_of_ble_eq_true rfl) (fun r1 I1 L1 hq => ?_)
          obtain ⟨rfl, rfl, rfl⟩ := hq
          try simp (disch := decide) only [wV_0, wV_at, wV_rS, wV_rS0, rS_eq, rS_ne, rS_rS, pk_us, pk_un, rdV_h, rdV_k, rdV_3 hK3]
          refine g_aload_n hX dX4_round_72 rfl rfl ?_
          refine g_get4R hX 0 dX4_round_73 b_fl_X4_10 hw.k0 (by decide) hw.p0 ?_
          refine g_iconst (v := 0) hX dX4_round_76 (by decide) ?_
          refine g_put3I hX 2 dX4_round_77 b_fl_X4_121 hw.now.k0 pf3_2 ?_
          try simp (disch := decide) only [wV_0, wV_at, wV_rS, wV_rS0, rS_eq, rS_ne, rS_rS, pk_us, pk_un, rdV_h, rdV_k, rdV_3 hK3]
          refine g_aload_n hX dX4_round_80 rfl rfl ?_
          refine g_get4R hX 0 dX4_round_81 b_fl_X4_10 hw.k0 (by decide) hw.p0 ?_
          refine g_dup hX dX4_round_84 rfl ?_
          refine g_get3I hX 3 dX4_round_85 b_fl_X4_115 hw.now.k0 (by decide) ?_
          try simp (disch := decide) only [wV_0, wV_at, wV_rS, wV_rS0, rS_eq, rS_ne, rS_rS, pk_us, pk_un, rdV_h, rdV_k, rdV_3 hK3]
          refine g_iconst (v := 1) hX dX4_round_88 (by decide) ?_
          refine g_iadd hX dX4_round_89 ?_
          refine g_put3I hX 3 dX4_round_90 b_fl_X4_115 hw.now.k0 pf3_3 ?_
          try simp (disch := decide) only [wV_0, wV_at, wV_rS, wV_rS0, rS_eq, rS_ne, rS_rS, pk_us, pk_un, rdV_h, rdV_k, rdV_3 hK3]
          refine g_iinc hX dX4_round_93 rfl (d := 1) (by decide) ?_
          refine g_goto (tgt := 26) hX dX4_round_96 (by decide) ?_
          refine G.eqI (congrArg (wV I 1) (?_ : _ = rdV (keepV (vx I 1) p) n d r (i + 1))) (G.at (ih (by omega)) ⟨rfl, rfl, vI (nI_1 i), trivial⟩)
          rw [← rdV_step, ahF]
          simp (disch := decide) only [rdV_ne, rdV_h, rdV_2, nI_1, rndF]
          rfl
      )
    refine g_aload_n hX dX4_round_17 rfl rfl ?_
    refine g_get4R hX 0 dX4_round_18 b_fl_X4_10 hw.k0 (by decide) hw.p0 ?_
    refine g_callV _ hX dX4_round_21 k_X4_105 ⟨by decide, by decide⟩ (by decide) hw.now.k0 rfl rfl (ok_V (ok_keepPast_V hw.now hp hp8)) rfl (Nat.le_of_ble_eq_true rfl) (fun r1 I1 L1 hq => ?_)
    obtain ⟨rfl, rfl, rfl⟩ := hq
    refine g_iconst (v := 0) hX dX4_round_24 (by decide) ?_
    refine g_istore_n hX dX4_round_25 rfl (by decide) ?_
    refine G.eqI (congrArg (wV I 1) (rdV_00 (n := n) (d := d) (r := r)).symm) (G.at (loop 0 (Nat.zero_le _)) ⟨rfl, rfl, rfl, trivial⟩)
  · refine g_aload_n hX dX4_round_10 rfl rfl ?_
    refine g_bipush (v := -2) hX dX4_round_11 (by decide) ?_
    refine g_callV _ hX dX4_round_13 k_X4_57 ⟨by decide, by decide⟩ (by decide) hw.k0 rfl rfl (ok_refuse_bad hw) rfl (Nat.le_of_ble_eq_true rfl) (fun r1 I1 L1 hq => ?_)
    obtain ⟨rfl, rfl, rfl⟩ := hq
    exact g_iret hX dX4_round_16 rfl (by rw [spRound, if_pos (b01_0 c_7)]; exact ⟨rfl, rfl, SmX.rf⟩)
def ltF (F : Nat → Int32) (pm : Int32) : Nat → Int32
  | 0 => 0
  | k + 1 => if F k = pm then ltF F pm k else ltF F pm k ||| ((1 : Int32) <<< (nI k &&& 31))
def spLetters (I : SI) (n d r : Nat) : Value × SI := (.int (ltF (I 8) (pmF (ahF (vx I 1) n d r 1) n) d), I)
set_option maxHeartbeats 4000000 in
set_option maxRecDepth 100000 in
theorem x_letters {w : WG} {I : SI} {L : SL} {n d r : Nat} (hw : XL w) (hI : XV I n d r)  : Ok w mX4_letters [.ref (gA w 0)] I L (QX (spLetters I n d r) L) := by
  obtain ⟨hn, hn4, hd, hd7, hr, hr9⟩ := id hI
  refine Ok.of (by decide) (Nat.le_of_ble_eq_true rfl) (fun X hX => ?_)
  refine g_aload_n hX dX4_letters_0 rfl rfl ?_
  refine g_iconst (v := 1) hX dX4_letters_1 (by decide) ?_
  refine g_callV _ hX dX4_letters_2 k_X4_174 ⟨by decide, by decide⟩ (by decide) hw.k0 rfl rfl (ok_lookAhead (m := 1) hw hI (by omega)) rfl (Nat.le_of_ble_eq_true rfl) (fun r1 I1 L1 hq => ?_)
  obtain ⟨rfl, rfl, f, rfl, hf⟩ := hq
  refine g_aload_n hX dX4_letters_5 rfl rfl ?_
  refine g_get4R hX 9 dX4_letters_6 b_fl_X4_37 hw.k0 (by decide) hw.p9 ?_
  refine g_aload_n hX dX4_letters_9 rfl rfl ?_
  refine g_get4R hX 0 dX4_letters_10 b_fl_X4_10 hw.k0 (by decide) hw.p0 ?_
  refine g_get3I hX 0 dX4_letters_13 b_fl_X4_61 hw.now.k0 (by decide) ?_
  try simp (disch := decide) only [rS_ne, rS_eq]
  rw [hn]
  refine g_callSp _ hX dX4_letters_16 k_X4_128 ⟨by decide, by decide⟩ rfl (ok_postmanOf (n := n) hw.k24 hn4) rfl (Nat.le_of_ble_eq_true rfl) ?_
  simp (disch := decide) only [rS_eq]
  refine g_istore_n hX dX4_letters_19 rfl (by decide) ?_
  refine g_iconst (v := 0) hX dX4_letters_20 (by decide) ?_
  refine g_istore_n hX dX4_letters_21 rfl (by decide) ?_
  refine g_iconst (v := 0) hX dX4_letters_22 (by decide) ?_
  refine g_istore_n hX dX4_letters_23 rfl (by decide) ?_
  have loop := loop_up (n := d) (P := fun k => G X w mX4_letters (rS I 24 f) L1 24 (lvO [(0, .ref (gA w 0)), (1, .int (pmF f n)), (2, .int (ltF (I 8) (pmF f n) k)), (3, .int (nI k))]) []) (fun k hk ih => by
    refine g_iload_n hX dX4_letters_24 rfl rfl ?_
    refine g_aload_n hX dX4_letters_25 rfl rfl ?_
    refine g_get4R hX 0 dX4_letters_26 b_fl_X4_10 hw.k0 (by decide) hw.p0 ?_
    refine g_get3I hX 1 dX4_letters_29 b_fl_X4_47 hw.now.k0 (by decide) ?_
    try simp (disch := decide) only [rS_ne, rS_eq]
    rw [hd]
    refine g_icmp_ge (tgt := 60) hX dX4_letters_32 (by decide) (fun c_32 => ?_) (fun c_32 => ?_)
    · refine g_iload_n hX dX4_letters_60 rfl rfl ?_
      exact g_iret hX dX4_letters_61 rfl (⟨by rw [show k = d from Nat.le_antisymm hk (nle c_32 (by omega) (by omega)), pmF_congr n (by omega) (fun c hc => hf c (by omega))]; rfl, rfl, SmX.rf.set _ ⟨by decide, by decide⟩⟩)
    · have hlt := nnle c_32 (by omega) (by omega)
      refine g_aload_n hX dX4_letters_35 rfl rfl ?_
      refine g_get4R hX 0 dX4_letters_36 b_fl_X4_10 hw.k0 (by decide) hw.p0 ?_
      refine g_get3R hX 12 dX4_letters_39 b_fl_X4_150 hw.now.k0 (by decide) hw.now.p12 ?_
      refine g_iload_n hX dX4_letters_42 rfl rfl ?_
      refine g_ialdN hX dX4_letters_43 hw.now.k7 (⟨rfl, by omega⟩) (by decide) ?_
      try simp (disch := decide) only [rS_ne, rS_eq]
      refine g_iload_n hX dX4_letters_44 rfl rfl ?_
      refine g_icmp_eq (tgt := 54) hX dX4_letters_45 (by decide) (fun c_45 => ?_) (fun c_45 => ?_)
      · refine g_iinc hX dX4_letters_54 rfl (d := 1) (by decide) ?_
        refine g_goto (tgt := 24) hX dX4_letters_57 (by decide) ?_
        exact G.at (ih hlt) ⟨rfl, rfl, vI (by rw [ltF, if_pos c_45]), vI (nI_1 k), trivial⟩
      · refine g_iload_n hX dX4_letters_48 rfl rfl ?_
        refine g_iconst (v := 1) hX dX4_letters_49 (by decide) ?_
        refine g_iload_n hX dX4_letters_50 rfl rfl ?_
        refine g_ishl hX dX4_letters_51 ?_
        refine g_ior hX dX4_letters_52 ?_
        refine g_istore_n hX dX4_letters_53 rfl (by decide) ?_
        refine g_iinc hX dX4_letters_54 rfl (d := 1) (by decide) ?_
        refine g_goto (tgt := 24) hX dX4_letters_57 (by decide) ?_
        exact G.at (ih hlt) ⟨rfl, rfl, vI (by rw [ltF, if_neg c_45]), vI (nI_1 k), trivial⟩
    )
  exact G.at (loop 0 (Nat.zero_le _)) ⟨rfl, rfl, rfl, rfl, trivial⟩
def brX (V : VS) (n d r : Nat) (c ham : Int32) : Nat → Int32 × Int32
  | 0 => (31, -1)
  | s + 1 => if nI s &&& V 0 2 = 0 ∧ hgF (V 6) (nI s) d ≤ ham ∧ hgF (V 6) (nI s) d < (brX V n d r c ham s).1 ∧ pmF (rndF V n d r (V 0 2 ||| nI s) (V 3)) n = c then (hgF (V 6) (nI s) d, nI s) else brX V n d r c ham s
def spBribes (I : SI) (n d r : Nat) (c a : Int32) : Value × SI := if ¬ ((0 ≤ c ∧ c < I 1 0) ∧ (0 ≤ a ∧ a ≤ 1)) then (.int (-2), rfX I 6) else if (brX (vx I 1) n d r c (I 3 c.toNatClampNeg) (2 ^ d)).2 = -1 then (.int (-1), I) else if a = 0 then (.int (brX (vx I 1) n d r c (I 3 c.toNatClampNeg) (2 ^ d)).1, I) else (.int (brX (vx I 1) n d r c (I 3 c.toNatClampNeg) (2 ^ d)).2, I)
set_option maxHeartbeats 4000000 in
set_option maxRecDepth 100000 in
theorem x_bribes {w : WG} {I : SI} {L : SL} {n d r : Nat} (hw : XL w) (hI : XV I n d r) (c a : Int32) : Ok w mX4_bribes [.ref (gA w 0), .int c, .int a] I L (QX (spBribes I n d r c a) L) := by
  obtain ⟨hn, hn4, hd, hd7, hr, hr9⟩ := id hI
  refine Ok.of (by decide) (Nat.le_of_ble_eq_true rfl) (fun X hX => ?_)
  refine g_aload_n hX dX4_bribes_0 rfl rfl ?_
  refine g_get4R hX 0 dX4_bribes_1 b_fl_X4_10 hw.k0 (by decide) hw.p0 ?_
  refine g_iload_n hX dX4_bribes_4 rfl rfl ?_
  refine g_callVp _ hX dX4_bribes_5 k_X4_94 ⟨by decide, by decide⟩ (by decide) hw.now.k0 rfl rfl (ok_hasMan hw.now _) rfl (Nat.le_of_ble_eq_true rfl) ?_
  refine g_if_eq (tgt := 20) hX dX4_bribes_8 (by decide) (fun c_8 => ?_) (fun c_8 => ?_)
  · refine g_aload_n hX dX4_bribes_20 rfl rfl ?_
    refine g_bipush (v := -2) hX dX4_bribes_21 (by decide) ?_
    refine g_callV _ hX dX4_bribes_23 k_X4_57 ⟨by decide, by decide⟩ (by decide) hw.k0 rfl rfl (ok_refuse_bad hw) rfl (Nat.le_of_ble_eq_true rfl) (fun r1 I1 L1 hq => ?_)
    obtain ⟨rfl, rfl, rfl⟩ := hq
    exact g_iret hX dX4_bribes_26 rfl (by rw [spBribes, if_pos (by intro z; first | exact b01_0 c_8 z.1 | exact b01_0 c_17 z.2)]; exact ⟨rfl, rfl, SmX.rf⟩)
  · refine g_iload_n hX dX4_bribes_11 rfl rfl ?_
    refine g_iconst (v := 0) hX dX4_bribes_12 (by decide) ?_
    refine g_iconst (v := 1) hX dX4_bribes_13 (by decide) ?_
    refine g_callSp _ hX dX4_bribes_14 k_X4_53 ⟨by decide, by decide⟩ rfl (ok_within _ _ _) rfl (Nat.le_of_ble_eq_true rfl) ?_
    refine g_if_ne (tgt := 27) hX dX4_bribes_17 (by decide) (fun c_17 => ?_) (fun c_17 => ?_)
    · obtain ⟨c, hc, rfl⟩ := ix (hn ▸ b01_n c_8) (by omega)
      have hp2 : 2 ^ d ≤ 128 := Nat.pow_le_pow_right (by decide) hd7
      have hp0 : 0 < 2 ^ d := Nat.pow_pos (by decide)
      have loop := loop_up (n := 2 ^ d) (P := fun i => ∀ f, G X w mX4_bribes (rS I 24 f) L 45 (lvO [(0, .ref (gA w 0)), (1, .int (nI c)), (2, .int a), (3, .int (brX (vx I 1) n d r (nI c) (I 3 c) i).1), (4, .int (brX (vx I 1) n d r (nI c) (I 3 c) i).2), (5, .int (nI (2 ^ d - 1))), (6, .int (nI i))]) []) (fun i hk ih f => by
        refine g_iload hX dX4_bribes_45 rfl ?_
        refine g_iload hX dX4_bribes_47 rfl ?_
        refine g_icmp_gt (tgt := 122) hX dX4_bribes_49 (by decide) (fun c_49 => ?_) (fun c_49 => ?_)
        · refine g_iload hX dX4_bribes_122 rfl ?_
          refine g_iconst (v := -1) hX dX4_bribes_124 (by decide) ?_
          refine g_icmp_ne (tgt := 130) hX dX4_bribes_125 (by decide) (fun c_125 => ?_) (fun c_125 => ?_)
          · refine g_iload_n hX dX4_bribes_130 rfl rfl ?_
            refine g_if_ne (tgt := 138) hX dX4_bribes_131 (by decide) (fun c_131 => ?_) (fun c_131 => ?_)
            · refine g_iload hX dX4_bribes_138 rfl ?_
              exact g_iret hX dX4_bribes_140 rfl (by rw [spBribes, if_neg (fun z => z ⟨b01_n c_8, b01_n c_17⟩), nI_clamp (by omega), ← show i = 2 ^ d by (have := nlt c_49 (by omega) (by omega); omega), if_neg c_125, if_neg c_131]; exact ⟨rfl, rfl, SmX.rf.set _ ⟨by decide, by decide⟩⟩)
            · refine g_iload_n hX dX4_bribes_134 rfl rfl ?_
              refine g_goto (tgt := 140) hX dX4_bribes_135 (by decide) ?_
              exact g_iret hX dX4_bribes_140 rfl (by rw [spBribes, if_neg (fun z => z ⟨b01_n c_8, b01_n c_17⟩), nI_clamp (by omega), ← show i = 2 ^ d by (have := nlt c_49 (by omega) (by omega); omega), if_neg c_125, if_pos c_131]; exact ⟨rfl, rfl, SmX.rf.set _ ⟨by decide, by decide⟩⟩)
          · refine g_iconst (v := -1) hX dX4_bribes_128 (by decide) ?_
            exact g_iret hX dX4_bribes_129 rfl (by rw [spBribes, if_neg (fun z => z ⟨b01_n c_8, b01_n c_17⟩), nI_clamp (by omega), ← show i = 2 ^ d by (have := nlt c_49 (by omega) (by omega); omega), if_pos c_125]; exact ⟨rfl, rfl, SmX.rf.set _ ⟨by decide, by decide⟩⟩)
        · have hlt : i < 2 ^ d := by have := nnlt c_49 (by omega) (by omega); omega
          refine g_iload hX dX4_bribes_52 rfl ?_
          refine g_aload_n hX dX4_bribes_54 rfl rfl ?_
          refine g_get4R hX 0 dX4_bribes_55 b_fl_X4_10 hw.k0 (by decide) hw.p0 ?_
          refine g_get3I hX 2 dX4_bribes_58 b_fl_X4_121 hw.now.k0 (by decide) ?_
          try simp (disch := decide) only [rS_ne, rS_eq]
          refine g_iand hX dX4_bribes_61 ?_
          refine g_if_eq (tgt := 68) hX dX4_bribes_62 (by decide) (fun c_62 => ?_) (fun c_62 => ?_)
          · refine g_aload_n hX dX4_bribes_68 rfl rfl ?_
            refine g_get4R hX 0 dX4_bribes_69 b_fl_X4_10 hw.k0 (by decide) hw.p0 ?_
            refine g_iload hX dX4_bribes_72 rfl ?_
            refine g_callVp _ hX dX4_bribes_74 k_X4_184 ⟨by decide, by decide⟩ (by decide) hw.now.k0 rfl rfl (ok_hungerOf (d := d) hw.now (by rw [rS_ne _ _ _ (by decide)]; exact hd) hd7 _) rfl (Nat.le_of_ble_eq_true rfl) ?_
            try simp (disch := decide) only [rS_ne, rS_eq]
            refine g_istore hX dX4_bribes_77 (by decide) ?_
            refine g_iload hX dX4_bribes_79 rfl ?_
            refine g_aload_n hX dX4_bribes_81 rfl rfl ?_
            refine g_get4R hX 0 dX4_bribes_82 b_fl_X4_10 hw.k0 (by decide) hw.p0 ?_
            refine g_get3R hX 7 dX4_bribes_85 b_fl_X4_112 hw.now.k0 (by decide) hw.now.p7 ?_
            refine g_iload_n hX dX4_bribes_88 rfl rfl ?_
            refine g_ialdN hX dX4_bribes_89 hw.now.k2 (⟨rfl, by omega⟩) (by decide) ?_
            try simp (disch := decide) only [rS_ne, rS_eq]
            refine g_icmp_gt (tgt := 116) hX dX4_bribes_90 (by decide) (fun c_90 => ?_) (fun c_90 => ?_)
            · refine g_iinc hX dX4_bribes_116 rfl (d := 1) (by decide) ?_
              refine g_goto (tgt := 45) hX dX4_bribes_119 (by decide) ?_
              exact G.at (ih hlt _) ⟨rfl, rfl, rfl, vI (by rw [brX, if_neg (fun z => absurd z.2.1 (Int32.not_le.mpr c_90))]), vI (by rw [brX, if_neg (fun z => absurd z.2.1 (Int32.not_le.mpr c_90))]), rfl, vI (nI_1 i), trivial⟩
            · refine g_iload hX dX4_bribes_93 rfl ?_
              refine g_iload_n hX dX4_bribes_95 rfl rfl ?_
              refine g_icmp_ge (tgt := 116) hX dX4_bribes_96 (by decide) (fun c_96 => ?_) (fun c_96 => ?_)
              · refine g_iinc hX dX4_bribes_116 rfl (d := 1) (by decide) ?_
                refine g_goto (tgt := 45) hX dX4_bribes_119 (by decide) ?_
                exact G.at (ih hlt _) ⟨rfl, rfl, rfl, vI (by rw [brX, if_neg (fun z => absurd z.2.2.1 (Int32.not_lt.mpr c_96))]), vI (by rw [brX, if_neg (fun z => absurd z.2.2.1 (Int32.not_lt.mpr c_96))]), rfl, vI (nI_1 i), trivial⟩
              · refine g_aload_n hX dX4_bribes_99 rfl rfl ?_
                refine g_iload_n hX dX4_bribes_100 rfl rfl ?_
                refine g_iload hX dX4_bribes_101 rfl ?_
                refine g_callV _ hX dX4_bribes_103 k_X4_187 ⟨by decide, by decide⟩ (by decide) hw.k0 rfl rfl (ok_wins hw (XVr hI) _ _) rfl (Nat.le_of_ble_eq_true rfl) (fun r1 I1 L1 hq => ?_)
                obtain ⟨rfl, rfl, f2, rfl⟩ := hq
                rw [rS_rS, rnd_row]
                simp (disch := decide) only [rS_ne, rS_eq]
                refine g_if_eq (tgt := 116) hX dX4_bribes_106 (by decide) (fun c_106 => ?_) (fun c_106 => ?_)
                · refine g_iinc hX dX4_bribes_116 rfl (d := 1) (by decide) ?_
                  refine g_goto (tgt := 45) hX dX4_bribes_119 (by decide) ?_
                  exact G.at (ih hlt _) ⟨rfl, rfl, rfl, vI (by rw [brX, if_neg (fun z => b01_0 c_106 z.2.2.2)]), vI (by rw [brX, if_neg (fun z => b01_0 c_106 z.2.2.2)]), rfl, vI (nI_1 i), trivial⟩
                · refine g_iload hX dX4_bribes_109 rfl ?_
                  refine g_istore_n hX dX4_bribes_111 rfl (by decide) ?_
                  refine g_iload hX dX4_bribes_112 rfl ?_
                  refine g_istore hX dX4_bribes_114 (by decide) ?_
                  refine g_iinc hX dX4_bribes_116 rfl (d := 1) (by decide) ?_
                  refine g_goto (tgt := 45) hX dX4_bribes_119 (by decide) ?_
                  exact G.at (ih hlt _) ⟨rfl, rfl, rfl, vI (by rw [brX, if_pos ⟨c_62, Int32.not_lt.mp c_90, Int32.not_le.mp c_96, b01_n c_106⟩]; try rfl), vI (by rw [brX, if_pos ⟨c_62, Int32.not_lt.mp c_90, Int32.not_le.mp c_96, b01_n c_106⟩]; try rfl), rfl, vI (nI_1 i), trivial⟩
          · refine g_goto (tgt := 116) hX dX4_bribes_65 (by decide) ?_
            refine g_iinc hX dX4_bribes_116 rfl (d := 1) (by decide) ?_
            refine g_goto (tgt := 45) hX dX4_bribes_119 (by decide) ?_
            exact G.at (ih hlt _) ⟨rfl, rfl, rfl, vI (by rw [brX, if_neg (fun z => c_62 z.1)]), vI (by rw [brX, if_neg (fun z => c_62 z.1)]), rfl, vI (nI_1 i), trivial⟩
        )
      refine g_bipush (v := 31) hX dX4_bribes_27 (by decide) ?_
      refine g_istore_n hX dX4_bribes_29 rfl (by decide) ?_
      refine g_iconst (v := -1) hX dX4_bribes_30 (by decide) ?_
      refine g_istore hX dX4_bribes_31 (by decide) ?_
      refine g_aload_n hX dX4_bribes_33 rfl rfl ?_
      refine g_get4R hX 0 dX4_bribes_34 b_fl_X4_10 hw.k0 (by decide) hw.p0 ?_
      refine g_callVp _ hX dX4_bribes_37 k_X4_181 ⟨by decide, by decide⟩ (by decide) hw.now.k0 rfl rfl (ok_everyDog hw.now) rfl (Nat.le_of_ble_eq_true rfl) ?_
      rw [hd, ev_n d hd7]
      refine g_istore hX dX4_bribes_40 (by decide) ?_
      refine g_iconst (v := 0) hX dX4_bribes_42 (by decide) ?_
      refine g_istore hX dX4_bribes_43 (by decide) ?_
      refine G.eqI (rS_self I 24).symm (G.at (loop 0 (Nat.zero_le _) _) ⟨rfl, rfl, rfl, rfl, rfl, rfl, rfl, trivial⟩)
    · refine g_aload_n hX dX4_bribes_20 rfl rfl ?_
      refine g_bipush (v := -2) hX dX4_bribes_21 (by decide) ?_
      refine g_callV _ hX dX4_bribes_23 k_X4_57 ⟨by decide, by decide⟩ (by decide) hw.k0 rfl rfl (ok_refuse_bad hw) rfl (Nat.le_of_ble_eq_true rfl) (fun r1 I1 L1 hq => ?_)
      obtain ⟨rfl, rfl, rfl⟩ := hq
      exact g_iret hX dX4_bribes_26 rfl (by rw [spBribes, if_pos (by intro z; first | exact b01_0 c_8 z.1 | exact b01_0 c_17 z.2)]; exact ⟨rfl, rfl, SmX.rf⟩)
