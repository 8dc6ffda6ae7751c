def dgX (C : Int32 → Int32) : Nat → Int64
  | 0 => 1367
  | a + 1 => mx (dgX C a) (C (nI a))
def dgV (V : VS) (n d q : Nat) (h : Int64) : Int64 := dgN (V 8) (dgD (V 4) (V 5) (V 6) (V 7) (V 0 2) (dgM (V 1) (V 2) (V 3) h n) d) (q * 4)
def spDigest (I : SI) (n d q : Nat) : Value × SI := (.long (mx (mx (dgV (vx I 1) n d q (dgX (cnX I) 7)) (I 0 4)) (I 0 5)), I)
set_option maxHeartbeats 4000000 in
set_option maxRecDepth 100000 in
theorem x_digest {w : WG} {I : SI} {L : SL} {n d r q : Nat} (hw : XL w) (hI : XV I n d r) (hq : I 1 4 = nI q) (hq6 : q ≤ 6)  : Ok w mX4_digest [.ref (gA w 0)] I L (QX (spDigest I n d q) L) := by
  obtain ⟨hn, hn4, hd, hd7, hr, hr9⟩ := id hI
  refine Ok.of (by decide) (Nat.le_of_ble_eq_true rfl) (fun X hX => ?_)
  have loop := loop_up (n := 7) (P := fun a => G X w mX4_digest I L 6 (lvO [(0, .ref (gA w 0)), (1, .long (dgX (cnX I) a)), (3, .int (nI a))]) []) (fun a hk ih => by
    refine g_iload_n hX dX4_digest_6 rfl rfl ?_
    refine g_bipush (v := 6) hX dX4_digest_7 (by decide) ?_
    rw [show (6 : Int32) = nI 6 from rfl]
    refine g_icmp_gt (tgt := 31) hX dX4_digest_9 (by decide) (fun c_9 => ?_) (fun c_9 => ?_)
    · refine g_aload_n hX dX4_digest_31 rfl rfl ?_
      refine g_get4R hX 0 dX4_digest_32 b_fl_X4_10 hw.k0 (by decide) hw.p0 ?_
      refine g_lload_n hX dX4_digest_35 rfl rfl ?_
      refine g_callVp _ hX dX4_digest_36 k_X4_249 ⟨by decide, by decide⟩ (by decide) hw.now.k0 rfl rfl (ok_digestOn (q := q) hw.now hn hn4 hd hd7 hq hq6 _) rfl (Nat.le_of_ble_eq_true rfl) ?_
      refine g_lstore_n hX dX4_digest_39 rfl (by decide) ?_
      refine g_ldc2 (v := 31) hX dX4_digest_40 b_ct_X4_247 ?_
      refine g_lload_n hX dX4_digest_43 rfl rfl ?_
      refine g_lmul hX dX4_digest_44 ?_
      refine g_aload_n hX dX4_digest_45 rfl rfl ?_
      refine g_get4I hX 4 dX4_digest_46 b_fl_X4_30 hw.k0 (by decide) ?_
      try simp (disch := decide) only [rS_ne, rS_eq]
      refine g_i2l hX dX4_digest_49 ?_
      refine g_ladd hX dX4_digest_50 ?_
      refine g_lstore_n hX dX4_digest_51 rfl (by decide) ?_
      refine g_ldc2 (v := 31) hX dX4_digest_52 b_ct_X4_247 ?_
      refine g_lload_n hX dX4_digest_55 rfl rfl ?_
      refine g_lmul hX dX4_digest_56 ?_
      refine g_aload_n hX dX4_digest_57 rfl rfl ?_
      refine g_get4I hX 5 dX4_digest_58 b_fl_X4_34 hw.k0 (by decide) ?_
      try simp (disch := decide) only [rS_ne, rS_eq]
      refine g_i2l hX dX4_digest_61 ?_
      refine g_ladd hX dX4_digest_62 ?_
      exact g_lret hX dX4_digest_63 rfl (by have es : a = 7 := (by have := nlt c_9 (by decide) (by omega); omega); subst es; rw [spDigest]; exact ⟨rfl, rfl, SmX.rf⟩)
    · have hlt : a < 7 := by have := nnlt c_9 (by decide) (by omega); omega
      refine g_ldc2 (v := 31) hX dX4_digest_12 b_ct_X4_247 ?_
      refine g_lload_n hX dX4_digest_15 rfl rfl ?_
      refine g_lmul hX dX4_digest_16 ?_
      refine g_aload_n hX dX4_digest_17 rfl rfl ?_
      refine g_iload_n hX dX4_digest_18 rfl rfl ?_
      refine g_callVp _ hX dX4_digest_19 k_X4_242 ⟨by decide, by decide⟩ (by decide) hw.k0 rfl rfl (ok_counted hw _) rfl (Nat.le_of_ble_eq_true rfl) ?_
      refine g_i2l hX dX4_digest_22 ?_
      refine g_ladd hX dX4_digest_23 ?_
      refine g_lstore_n hX dX4_digest_24 rfl (by decide) ?_
      refine g_iinc hX dX4_digest_25 rfl (d := 1) (by decide) ?_
      refine g_goto (tgt := 6) hX dX4_digest_28 (by decide) ?_
      exact G.at (ih hlt) ⟨rfl, vL rfl, vI (nI_1 a), trivial⟩
    )
  refine g_ldc2 (v := 1367) hX dX4_digest_0 b_ct_X4_245 ?_
  refine g_lstore_n hX dX4_digest_3 rfl (by decide) ?_
  refine g_iconst (v := 0) hX dX4_digest_4 (by decide) ?_
  refine g_istore_n hX dX4_digest_5 rfl (by decide) ?_
  exact G.at (loop 0 (Nat.zero_le _)) ⟨rfl, rfl, rfl, trivial⟩
def cdF : Nat → Int32 → Int32 → Int32
  | 0, a, _ => a
  | k + 1, a, b => if b = 0 then a else cdF k b (a - a / b * b)
def cdX (a b : Int32) : Int32 := if cdF 100 a b = 0 then 1 else cdF 100 a b
def tnX (I : SI) (n d r : Nat) (a c : Int32) : Int32 := wtR (I 5) (I 6) (I 8) (I 2) n (stF n r) a (I 1 2) d * (10 - c)
def spStrays (I : SI) (n d r : Nat) (a c : Int32) : Value × SI := if ¬ ((0 ≤ a ∧ a < I 1 0) ∧ (0 ≤ c ∧ c ≤ 10)) then (.int (-2), rfX I 6) else (.int 1, rS I 0 (upd (upd (I 0) 4 (tnX I n d r a c / cdX 10 (tnX I n d r a c))) 5 (10 / cdX 10 (tnX I n d r a c))))
theorem cdX_n0 (a b : Int32) : ¬ cdX a b = 0 := by
  unfold cdX; split
  · decide
  · assumption
set_option maxHeartbeats 4000000 in
set_option maxRecDepth 100000 in
theorem ok_commonDivisor {w : WG} {I : SI} {L : SL} (a b : Int32) : Ok w mX4_commonDivisor [.int a, .int b] I L (Pr (.int (cdX a b)) I L) := by
  refine Ok.of (by decide) (Nat.le_of_ble_eq_true rfl) (fun X hX => ?_)
  have loop := loop_up (n := 100) (P := fun i => ∀ x y : Int32, cdF 100 a b = cdF (100 - i) x y → G X w mX4_commonDivisor I L 7 (lvO [(2, .int x), (3, .int y), (4, .int (nI i))]) []) (fun i hk ih x y hres => by
    refine g_iload hX dX4_commonDivisor_7 rfl ?_
    refine g_bipush (v := 100) hX dX4_commonDivisor_9 (by decide) ?_
    rw [show (100 : Int32) = nI 100 from rfl]
    refine g_icmp_ge (tgt := 34) hX dX4_commonDivisor_11 (by decide) (fun c_11 => ?_) (fun c_11 => ?_)
    · refine g_iload_n hX dX4_commonDivisor_34 rfl rfl ?_
      refine g_if_ne (tgt := 42) hX dX4_commonDivisor_35 (by decide) (fun c_35 => ?_) (fun c_35 => ?_)
      · refine g_iload_n hX dX4_commonDivisor_42 rfl rfl ?_
        exact g_iret hX dX4_commonDivisor_43 rfl (⟨by rw [show 100 - i = 0 by (have := nle c_11 (by decide) (by omega); omega)] at hres; rw [cdX, hres, cdF, if_neg c_35], rfl, rfl⟩)
      · refine g_iconst (v := 1) hX dX4_commonDivisor_38 (by decide) ?_
        refine g_goto (tgt := 43) hX dX4_commonDivisor_39 (by decide) ?_
        exact g_iret hX dX4_commonDivisor_43 rfl (⟨by rw [show 100 - i = 0 by (have := nle c_11 (by decide) (by omega); omega)] at hres; rw [cdX, hres, cdF, if_pos c_35], rfl, rfl⟩)
    · have hlt : i < 100 := nnle c_11 (by decide) (by omega)
      refine g_iload_n hX dX4_commonDivisor_14 rfl rfl ?_
      refine g_if_eq (tgt := 34) hX dX4_commonDivisor_15 (by decide) (fun c_15 => ?_) (fun c_15 => ?_)
      · refine g_iload_n hX dX4_commonDivisor_34 rfl rfl ?_
        refine g_if_ne (tgt := 42) hX dX4_commonDivisor_35 (by decide) (fun c_35 => ?_) (fun c_35 => ?_)
        · refine g_iload_n hX dX4_commonDivisor_42 rfl rfl ?_
          exact g_iret hX dX4_commonDivisor_43 rfl (⟨by rw [cdX, hres.trans (show cdF (100 - i) x y = x by rw [show 100 - i = (99 - i) + 1 by omega, cdF, if_pos c_15]), if_neg c_35], rfl, rfl⟩)
        · refine g_iconst (v := 1) hX dX4_commonDivisor_38 (by decide) ?_
          refine g_goto (tgt := 43) hX dX4_commonDivisor_39 (by decide) ?_
          exact g_iret hX dX4_commonDivisor_43 rfl (⟨by rw [cdX, hres.trans (show cdF (100 - i) x y = x by rw [show 100 - i = (99 - i) + 1 by omega, cdF, if_pos c_15]), if_pos c_35], rfl, rfl⟩)
      · refine g_iload_n hX dX4_commonDivisor_18 rfl rfl ?_
        refine g_iload_n hX dX4_commonDivisor_19 rfl rfl ?_
        refine g_irem hX dX4_commonDivisor_20 (c_15) ?_
        refine g_istore hX dX4_commonDivisor_21 (by decide) ?_
        refine g_iload_n hX dX4_commonDivisor_23 rfl rfl ?_
        refine g_istore_n hX dX4_commonDivisor_24 rfl (by decide) ?_
        refine g_iload hX dX4_commonDivisor_25 rfl ?_
        refine g_istore_n hX dX4_commonDivisor_27 rfl (by decide) ?_
        refine g_iinc hX dX4_commonDivisor_28 rfl (d := 1) (by decide) ?_
        refine g_goto (tgt := 7) hX dX4_commonDivisor_31 (by decide) ?_
        exact G.at (ih hlt _ _ (hres.trans (by rw [show 100 - i = (100 - (i + 1)) + 1 by omega, cdF, if_neg c_15]))) ⟨rfl, rfl, vI (nI_1 i), trivial⟩
    )
  refine g_iload_n hX dX4_commonDivisor_0 rfl rfl ?_
  refine g_istore_n hX dX4_commonDivisor_1 rfl (by decide) ?_
  refine g_iload_n hX dX4_commonDivisor_2 rfl rfl ?_
  refine g_istore_n hX dX4_commonDivisor_3 rfl (by decide) ?_
  refine g_iconst (v := 0) hX dX4_commonDivisor_4 (by decide) ?_
  refine g_istore hX dX4_commonDivisor_5 (by decide) ?_
  exact G.at (loop 0 (Nat.zero_le _) _ _ rfl) ⟨rfl, rfl, rfl, trivial⟩
set_option maxHeartbeats 4000000 in
set_option maxRecDepth 100000 in
theorem x_strays {w : WG} {I : SI} {L : SL} {n d r : Nat} (hw : XL w) (hI : XV I n d r) (a c : Int32) : Ok w mX4_strays [.ref (gA w 0), .int a, .int c] I L (QX (spStrays I n d r a c) L) := by
  obtain ⟨hn, hn4, hd, hd7, hr, hr9⟩ := id hI
  have hst : stF n r < 2000 := by unfold stF; split; omega; exact Nat.lt_of_le_of_lt (Nat.mod_le _ _) (by omega)
  refine Ok.of (by decide) (Nat.le_of_ble_eq_true rfl) (fun X hX => ?_)
  refine g_aload_n hX dX4_strays_0 rfl rfl ?_
  refine g_get4R hX 0 dX4_strays_1 b_fl_X4_10 hw.k0 (by decide) hw.p0 ?_
  refine g_iload_n hX dX4_strays_4 rfl rfl ?_
  refine g_callVp _ hX dX4_strays_5 k_X4_94 ⟨by decide, by decide⟩ (by decide) hw.now.k0 rfl rfl (ok_hasMan hw.now _) rfl (Nat.le_of_ble_eq_true rfl) ?_
  refine g_if_eq (tgt := 21) hX dX4_strays_8 (by decide) (fun c_8 => ?_) (fun c_8 => ?_)
  · refine g_aload_n hX dX4_strays_21 rfl rfl ?_
    refine g_bipush (v := -2) hX dX4_strays_22 (by decide) ?_
    refine g_callV _ hX dX4_strays_24 k_X4_57 ⟨by decide, by decide⟩ (by decide) hw.k0 rfl rfl (ok_refuse_bad hw) rfl (Nat.le_of_ble_eq_true rfl) (fun r1 I1 L1 hq => ?_)
    obtain ⟨rfl, rfl, rfl⟩ := hq
    exact g_iret hX dX4_strays_27 rfl (by rw [spStrays, if_pos (by intro z; first | exact b01_0 c_8 z.1 | exact b01_0 c_18 z.2)]; exact ⟨rfl, rfl, SmX.rf⟩)
  · refine g_iload_n hX dX4_strays_11 rfl rfl ?_
    refine g_iconst (v := 0) hX dX4_strays_12 (by decide) ?_
    refine g_bipush (v := 10) hX dX4_strays_13 (by decide) ?_
    refine g_callSp _ hX dX4_strays_15 k_X4_53 ⟨by decide, by decide⟩ rfl (ok_within _ _ _) rfl (Nat.le_of_ble_eq_true rfl) ?_
    refine g_if_ne (tgt := 28) hX dX4_strays_18 (by decide) (fun c_18 => ?_) (fun c_18 => ?_)
    · refine g_aload_n hX dX4_strays_28 rfl rfl ?_
      refine g_get4R hX 0 dX4_strays_29 b_fl_X4_10 hw.k0 (by decide) hw.p0 ?_
      refine g_aload_n hX dX4_strays_32 rfl rfl ?_
      refine g_get4R hX 0 dX4_strays_33 b_fl_X4_10 hw.k0 (by decide) hw.p0 ?_
      refine g_get3I hX 3 dX4_strays_36 b_fl_X4_115 hw.now.k0 (by decide) ?_
      try simp (disch := decide) only [rS_eq, rS_ne, rS_rS, pk_un, pk_us]
      rw [hr]
      refine g_callVp _ hX dX4_strays_39 k_X4_164 ⟨by decide, by decide⟩ (by decide) hw.now.k0 rfl rfl (ok_startOf (v := 1) (r := r) hw.now hn hn4 (by omega)) rfl (Nat.le_of_ble_eq_true rfl) ?_
      refine g_istore_n hX dX4_strays_42 rfl (by decide) ?_
      refine g_aload_n hX dX4_strays_43 rfl rfl ?_
      refine g_get4R hX 0 dX4_strays_44 b_fl_X4_10 hw.k0 (by decide) hw.p0 ?_
      refine g_iload_n hX dX4_strays_47 rfl rfl ?_
      refine g_iload_n hX dX4_strays_48 rfl rfl ?_
      refine g_aload_n hX dX4_strays_49 rfl rfl ?_
      refine g_get4R hX 0 dX4_strays_50 b_fl_X4_10 hw.k0 (by decide) hw.p0 ?_
      refine g_get3I hX 2 dX4_strays_53 b_fl_X4_121 hw.now.k0 (by decide) ?_
      try simp (disch := decide) only [rS_eq, rS_ne, rS_rS, pk_un, pk_us]
      refine g_callVp _ hX dX4_strays_56 k_X4_171 ⟨by decide, by decide⟩ (by decide) hw.now.k0 rfl rfl (ok_widthTo hw.now hn hn4 hd hd7 hst _ _) rfl (Nat.le_of_ble_eq_true rfl) ?_
      refine g_bipush (v := 10) hX dX4_strays_59 (by decide) ?_
      refine g_iload_n hX dX4_strays_61 rfl rfl ?_
      refine g_isub hX dX4_strays_62 ?_
      refine g_imul hX dX4_strays_63 ?_
      refine g_istore hX dX4_strays_64 (by decide) ?_
      refine g_bipush (v := 10) hX dX4_strays_66 (by decide) ?_
      refine g_iload hX dX4_strays_68 rfl ?_
      refine g_callSp _ hX dX4_strays_70 k_X4_219 ⟨by decide, by decide⟩ rfl (ok_commonDivisor _ _) rfl (Nat.le_of_ble_eq_true rfl) ?_
      refine g_istore hX dX4_strays_73 (by decide) ?_
      refine g_aload_n hX dX4_strays_75 rfl rfl ?_
      refine g_iload hX dX4_strays_76 rfl ?_
      refine g_iload hX dX4_strays_78 rfl ?_
      refine g_idiv hX dX4_strays_80 (cdX_n0 _ _) ?_
      refine g_put4I hX 4 dX4_strays_81 b_fl_X4_30 hw.k0 pf4_4 ?_
      try simp (disch := decide) only [rS_eq, rS_ne, rS_rS, pk_un, pk_us]
      refine g_aload_n hX dX4_strays_84 rfl rfl ?_
      refine g_bipush (v := 10) hX dX4_strays_85 (by decide) ?_
      refine g_iload hX dX4_strays_87 rfl ?_
      refine g_idiv hX dX4_strays_89 (cdX_n0 _ _) ?_
      refine g_put4I hX 5 dX4_strays_90 b_fl_X4_34 hw.k0 pf4_5 ?_
      try simp (disch := decide) only [rS_eq, rS_ne, rS_rS, pk_un, pk_us]
      refine g_iconst (v := 1) hX dX4_strays_93 (by decide) ?_
      exact g_iret hX dX4_strays_94 rfl (by rw [spStrays, if_neg (fun z => z ⟨b01_n c_8, b01_n c_18⟩)]; exact ⟨rfl, rfl, SmX.rf⟩)
    · refine g_aload_n hX dX4_strays_21 rfl rfl ?_
      refine g_bipush (v := -2) hX dX4_strays_22 (by decide) ?_
      refine g_callV _ hX dX4_strays_24 k_X4_57 ⟨by decide, by decide⟩ (by decide) hw.k0 rfl rfl (ok_refuse_bad hw) rfl (Nat.le_of_ble_eq_true rfl) (fun r1 I1 L1 hq => ?_)
      obtain ⟨rfl, rfl, rfl⟩ := hq
      exact g_iret hX dX4_strays_27 rfl (by rw [spStrays, if_pos (by intro z; first | exact b01_0 c_8 z.1 | exact b01_0 c_18 z.2)]; exact ⟨rfl, rfl, SmX.rf⟩)
