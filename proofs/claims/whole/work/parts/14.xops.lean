def spVillage (I : SI) : Value × SI := (.int (I 1 1), wV I 1 (emV (vx I 1)))
theorem ok_V {w : WG} {M : MD} {av : List Value} {I : SI} {L : SL} {V' : VS} {r : Option Value} {v : Nat} (h : Ok w M av (wV I v (vx I v)) L (Vd I v V' L r)) : Ok w M av I L (Vd I v V' L r) := by rwa [wV_id] at h
set_option maxHeartbeats 4000000 in
set_option maxRecDepth 100000 in
theorem x_village {w : WG} {I : SI} {L : SL} {n d r : Nat} (hw : XL w) (hI : XV I n d r)  : Ok w mX4_village [.ref (gA w 0)] I L (QX (spVillage I) L) := by
  obtain ⟨hn, hn4, hd, hd7, hr, hr9⟩ := id hI
  refine Ok.of (by decide) (Nat.le_of_ble_eq_true rfl) (fun X hX => ?_)
  refine g_aload_n hX dX4_village_0 rfl rfl ?_
  refine g_get4R hX 0 dX4_village_1 b_fl_X4_10 hw.k0 (by decide) hw.p0 ?_
  refine g_get3I hX 1 dX4_village_4 b_fl_X4_47 hw.now.k0 (by decide) ?_
  try simp (disch := decide) only [rS_ne, rS_eq]
  refine g_istore_n hX dX4_village_7 rfl (by decide) ?_
  refine g_aload_n hX dX4_village_8 rfl rfl ?_
  refine g_get4R hX 0 dX4_village_9 b_fl_X4_10 hw.k0 (by decide) hw.p0 ?_
  refine g_callV _ hX dX4_village_12 k_X4_50 ⟨by decide, by decide⟩ (by decide) hw.now.k0 rfl rfl (ok_V (ok_empty_V hw.now)) rfl (Nat.le_of_ble_eq_true rfl) (fun r1 I1 L1 hq => ?_)
  obtain ⟨rfl, rfl, rfl⟩ := hq
  refine g_iload_n hX dX4_village_15 rfl rfl ?_
  exact g_iret hX dX4_village_16 rfl (⟨rfl, rfl, SmX.rf⟩)
def spMan (I : SI) (n : Nat) (b h : Int32) : Value × SI := if ¬ ((0 ≤ b ∧ b ≤ 9) ∧ (0 ≤ h ∧ h ≤ 30)) then (.int (-2), rfX I 6) else if n < 4 then (.int (nI n), wV I 1 (manV (vx I 1) n b h)) else (.int (-4), rfX I 8)
set_option maxHeartbeats 4000000 in
set_option maxRecDepth 100000 in
theorem x_man {w : WG} {I : SI} {L : SL} {n d r : Nat} (hw : XL w) (hI : XV I n d r) (b h : Int32) : Ok w mX4_man [.ref (gA w 0), .int b, .int h] I L (QX (spMan I n b h) L) := by
  obtain ⟨hn, hn4, hd, hd7, hr, hr9⟩ := id hI
  refine Ok.of (by decide) (Nat.le_of_ble_eq_true rfl) (fun X hX => ?_)
  refine g_iload_n hX dX4_man_0 rfl rfl ?_
  refine g_iconst (v := 0) hX dX4_man_1 (by decide) ?_
  refine g_bipush (v := 9) hX dX4_man_2 (by decide) ?_
  refine g_callSp _ hX dX4_man_4 k_X4_53 ⟨by decide, by decide⟩ rfl (ok_within _ _ _) rfl (Nat.le_of_ble_eq_true rfl) ?_
  refine g_if_eq (tgt := 20) hX dX4_man_7 (by decide) (fun c_7 => ?_) (fun c_7 => ?_)
  · refine g_aload_n hX dX4_man_20 rfl rfl ?_
    refine g_bipush (v := -2) hX dX4_man_21 (by decide) ?_
    refine g_callV _ hX dX4_man_23 k_X4_57 ⟨by decide, by decide⟩ (by decide) hw.k0 rfl rfl (ok_refuse_bad hw) rfl (Nat.le_of_ble_eq_true rfl) (fun r1 I1 L1 hq => ?_)
    obtain ⟨rfl, rfl, rfl⟩ := hq
    exact g_iret hX dX4_man_26 rfl (by rw [spMan, if_pos (by intro z; first | exact b01_0 c_7 z.1 | exact b01_0 c_17 z.2)]; exact ⟨rfl, rfl, SmX.rf⟩)
  · refine g_iload_n hX dX4_man_10 rfl rfl ?_
    refine g_iconst (v := 0) hX dX4_man_11 (by decide) ?_
    refine g_bipush (v := 30) hX dX4_man_12 (by decide) ?_
    refine g_callSp _ hX dX4_man_14 k_X4_53 ⟨by decide, by decide⟩ rfl (ok_within _ _ _) rfl (Nat.le_of_ble_eq_true rfl) ?_
    refine g_if_ne (tgt := 27) hX dX4_man_17 (by decide) (fun c_17 => ?_) (fun c_17 => ?_)
    · refine g_aload_n hX dX4_man_27 rfl rfl ?_
      refine g_get4R hX 0 dX4_man_28 b_fl_X4_10 hw.k0 (by decide) hw.p0 ?_
      refine g_get3I hX 0 dX4_man_31 b_fl_X4_61 hw.now.k0 (by decide) ?_
      try simp (disch := decide) only [rS_ne, rS_eq]
      refine g_iconst (v := 4) hX dX4_man_34 (by decide) ?_
      rw [hn, show (4 : Int32) = nI 4 from rfl]
      refine g_icmp_lt (tgt := 45) hX dX4_man_35 (by decide) (fun c_35 => ?_) (fun c_35 => ?_)
      · have hlt := nlt c_35 (by omega) (by decide)
        refine g_aload_n hX dX4_man_45 rfl rfl ?_
        refine g_get4R hX 0 dX4_man_46 b_fl_X4_10 hw.k0 (by decide) hw.p0 ?_
        refine g_iload_n hX dX4_man_49 rfl rfl ?_
        refine g_iload_n hX dX4_man_50 rfl rfl ?_
        refine g_callV _ hX dX4_man_51 k_X4_64 ⟨by decide, by decide⟩ (by decide) hw.now.k0 rfl rfl (ok_V (ok_addMan_V hw.now hn hlt _ _)) rfl (Nat.le_of_ble_eq_true rfl) (fun r1 I1 L1 hq => ?_)
        obtain ⟨rfl, rfl, rfl⟩ := hq
        exact g_iret hX dX4_man_54 rfl (by rw [spMan, if_neg (fun z => z ⟨b01_n c_7, b01_n c_17⟩), if_pos hlt]; exact ⟨rfl, rfl, SmX.rf⟩)
      · refine g_aload_n hX dX4_man_38 rfl rfl ?_
        refine g_bipush (v := -4) hX dX4_man_39 (by decide) ?_
        refine g_callV _ hX dX4_man_41 k_X4_57 ⟨by decide, by decide⟩ (by decide) hw.k0 rfl rfl (ok_refuse_full hw) rfl (Nat.le_of_ble_eq_true rfl) (fun r1 I1 L1 hq => ?_)
        obtain ⟨rfl, rfl, rfl⟩ := hq
        exact g_iret hX dX4_man_44 rfl (by rw [spMan, if_neg (fun z => z ⟨b01_n c_7, b01_n c_17⟩), if_neg (by have := nnlt c_35 (by omega) (by decide); omega)]; exact ⟨rfl, rfl, SmX.rf⟩)
    · refine g_aload_n hX dX4_man_20 rfl rfl ?_
      refine g_bipush (v := -2) hX dX4_man_21 (by decide) ?_
      refine g_callV _ hX dX4_man_23 k_X4_57 ⟨by decide, by decide⟩ (by decide) hw.k0 rfl rfl (ok_refuse_bad hw) rfl (Nat.le_of_ble_eq_true rfl) (fun r1 I1 L1 hq => ?_)
      obtain ⟨rfl, rfl, rfl⟩ := hq
      exact g_iret hX dX4_man_26 rfl (by rw [spMan, if_pos (by intro z; first | exact b01_0 c_7 z.1 | exact b01_0 c_17 z.2)]; exact ⟨rfl, rfl, SmX.rf⟩)
def spDog (I : SI) (d : Nat) (k x h f : Int32) : Value × SI := if ¬ ((0 ≤ k ∧ k ≤ 5) ∧ (1 ≤ x ∧ x ≤ 5) ∧ (1 ≤ h ∧ h ≤ 9) ∧ (0 ≤ f ∧ f ≤ 3)) then (.int (-2), rfX I 6) else if d < 7 then (.int (nI d), wV I 1 (dogV (vx I 1) d k x h f)) else (.int (-4), rfX I 8)
set_option maxHeartbeats 4000000 in
set_option maxRecDepth 100000 in
theorem x_dog {w : WG} {I : SI} {L : SL} {n d r : Nat} (hw : XL w) (hI : XV I n d r) (k x h f : Int32) : Ok w mX4_dog [.ref (gA w 0), .int k, .int x, .int h, .int f] I L (QX (spDog I d k x h f) L) := by
  obtain ⟨hn, hn4, hd, hd7, hr, hr9⟩ := id hI
  refine Ok.of (by decide) (Nat.le_of_ble_eq_true rfl) (fun X hX => ?_)
  refine g_iload_n hX dX4_dog_0 rfl rfl ?_
  refine g_iconst (v := 0) hX dX4_dog_1 (by decide) ?_
  refine g_iconst (v := 5) hX dX4_dog_2 (by decide) ?_
  refine g_callSp _ hX dX4_dog_3 k_X4_53 ⟨by decide, by decide⟩ rfl (ok_within _ _ _) rfl (Nat.le_of_ble_eq_true rfl) ?_
  refine g_if_eq (tgt := 18) hX dX4_dog_6 (by decide) (fun c_6 => ?_) (fun c_6 => ?_)
  · refine g_aload_n hX dX4_dog_18 rfl rfl ?_
    refine g_bipush (v := -2) hX dX4_dog_19 (by decide) ?_
    refine g_callV _ hX dX4_dog_21 k_X4_57 ⟨by decide, by decide⟩ (by decide) hw.k0 rfl rfl (ok_refuse_bad hw) rfl (Nat.le_of_ble_eq_true rfl) (fun r1 I1 L1 hq => ?_)
    obtain ⟨rfl, rfl, rfl⟩ := hq
    exact g_iret hX dX4_dog_24 rfl (by rw [spDog, if_pos (by intro z; first | exact b01_0 c_6 z.1 | exact b01_0 c_15 z.2.1 | exact b01_0 c_32 z.2.2.1 | exact b01_0 c_42 z.2.2.2)]; exact ⟨rfl, rfl, SmX.rf⟩)
  · refine g_iload_n hX dX4_dog_9 rfl rfl ?_
    refine g_iconst (v := 1) hX dX4_dog_10 (by decide) ?_
    refine g_iconst (v := 5) hX dX4_dog_11 (by decide) ?_
    refine g_callSp _ hX dX4_dog_12 k_X4_53 ⟨by decide, by decide⟩ rfl (ok_within _ _ _) rfl (Nat.le_of_ble_eq_true rfl) ?_
    refine g_if_ne (tgt := 25) hX dX4_dog_15 (by decide) (fun c_15 => ?_) (fun c_15 => ?_)
    · refine g_iload_n hX dX4_dog_25 rfl rfl ?_
      refine g_iconst (v := 1) hX dX4_dog_26 (by decide) ?_
      refine g_bipush (v := 9) hX dX4_dog_27 (by decide) ?_
      refine g_callSp _ hX dX4_dog_29 k_X4_53 ⟨by decide, by decide⟩ rfl (ok_within _ _ _) rfl (Nat.le_of_ble_eq_true rfl) ?_
      refine g_if_eq (tgt := 45) hX dX4_dog_32 (by decide) (fun c_32 => ?_) (fun c_32 => ?_)
      · refine g_aload_n hX dX4_dog_45 rfl rfl ?_
        refine g_bipush (v := -2) hX dX4_dog_46 (by decide) ?_
        refine g_callV _ hX dX4_dog_48 k_X4_57 ⟨by decide, by decide⟩ (by decide) hw.k0 rfl rfl (ok_refuse_bad hw) rfl (Nat.le_of_ble_eq_true rfl) (fun r1 I1 L1 hq => ?_)
        obtain ⟨rfl, rfl, rfl⟩ := hq
        exact g_iret hX dX4_dog_51 rfl (by rw [spDog, if_pos (by intro z; first | exact b01_0 c_6 z.1 | exact b01_0 c_15 z.2.1 | exact b01_0 c_32 z.2.2.1 | exact b01_0 c_42 z.2.2.2)]; exact ⟨rfl, rfl, SmX.rf⟩)
      · refine g_iload hX dX4_dog_35 rfl ?_
        refine g_iconst (v := 0) hX dX4_dog_37 (by decide) ?_
        refine g_iconst (v := 3) hX dX4_dog_38 (by decide) ?_
        refine g_callSp _ hX dX4_dog_39 k_X4_53 ⟨by decide, by decide⟩ rfl (ok_within _ _ _) rfl (Nat.le_of_ble_eq_true rfl) ?_
        refine g_if_ne (tgt := 52) hX dX4_dog_42 (by decide) (fun c_42 => ?_) (fun c_42 => ?_)
        · refine g_aload_n hX dX4_dog_52 rfl rfl ?_
          refine g_get4R hX 0 dX4_dog_53 b_fl_X4_10 hw.k0 (by decide) hw.p0 ?_
          refine g_get3I hX 1 dX4_dog_56 b_fl_X4_47 hw.now.k0 (by decide) ?_
          try simp (disch := decide) only [rS_ne, rS_eq]
          refine g_bipush (v := 7) hX dX4_dog_59 (by decide) ?_
          rw [hd, show (7 : Int32) = nI 7 from rfl]
          refine g_icmp_lt (tgt := 71) hX dX4_dog_61 (by decide) (fun c_61 => ?_) (fun c_61 => ?_)
          · have hlt := nlt c_61 (by omega) (by decide)
            refine g_aload_n hX dX4_dog_71 rfl rfl ?_
            refine g_get4R hX 0 dX4_dog_72 b_fl_X4_10 hw.k0 (by decide) hw.p0 ?_
            refine g_iload_n hX dX4_dog_75 rfl rfl ?_
            refine g_iload_n hX dX4_dog_76 rfl rfl ?_
            refine g_iload_n hX dX4_dog_77 rfl rfl ?_
            refine g_iload hX dX4_dog_78 rfl ?_
            refine g_callV _ hX dX4_dog_80 k_X4_68 ⟨by decide, by decide⟩ (by decide) hw.now.k0 rfl rfl (ok_V (ok_addDog_V hw.now hd hlt _ _ _ _)) rfl (Nat.le_of_ble_eq_true rfl) (fun r1 I1 L1 hq => ?_)
            obtain ⟨rfl, rfl, rfl⟩ := hq
            exact g_iret hX dX4_dog_83 rfl (by rw [spDog, if_neg (fun z => z ⟨b01_n c_6, b01_n c_15, b01_n c_32, b01_n c_42⟩), if_pos hlt]; exact ⟨rfl, rfl, SmX.rf⟩)
          · refine g_aload_n hX dX4_dog_64 rfl rfl ?_
            refine g_bipush (v := -4) hX dX4_dog_65 (by decide) ?_
            refine g_callV _ hX dX4_dog_67 k_X4_57 ⟨by decide, by decide⟩ (by decide) hw.k0 rfl rfl (ok_refuse_full hw) rfl (Nat.le_of_ble_eq_true rfl) (fun r1 I1 L1 hq => ?_)
            obtain ⟨rfl, rfl, rfl⟩ := hq
            exact g_iret hX dX4_dog_70 rfl (by rw [spDog, if_neg (fun z => z ⟨b01_n c_6, b01_n c_15, b01_n c_32, b01_n c_42⟩), if_neg (by have := nnlt c_61 (by omega) (by decide); omega)]; exact ⟨rfl, rfl, SmX.rf⟩)
        · refine g_aload_n hX dX4_dog_45 rfl rfl ?_
          refine g_bipush (v := -2) hX dX4_dog_46 (by decide) ?_
          refine g_callV _ hX dX4_dog_48 k_X4_57 ⟨by decide, by decide⟩ (by decide) hw.k0 rfl rfl (ok_refuse_bad hw) rfl (Nat.le_of_ble_eq_true rfl) (fun r1 I1 L1 hq => ?_)
          obtain ⟨rfl, rfl, rfl⟩ := hq
          exact g_iret hX dX4_dog_51 rfl (by rw [spDog, if_pos (by intro z; first | exact b01_0 c_6 z.1 | exact b01_0 c_15 z.2.1 | exact b01_0 c_32 z.2.2.1 | exact b01_0 c_42 z.2.2.2)]; exact ⟨rfl, rfl, SmX.rf⟩)
    · refine g_aload_n hX dX4_dog_18 rfl rfl ?_
      refine g_bipush (v := -2) hX dX4_dog_19 (by decide) ?_
      refine g_callV _ hX dX4_dog_21 k_X4_57 ⟨by decide, by decide⟩ (by decide) hw.k0 rfl rfl (ok_refuse_bad hw) rfl (Nat.le_of_ble_eq_true rfl) (fun r1 I1 L1 hq => ?_)
      obtain ⟨rfl, rfl, rfl⟩ := hq
      exact g_iret hX dX4_dog_24 rfl (by rw [spDog, if_pos (by intro z; first | exact b01_0 c_6 z.1 | exact b01_0 c_15 z.2.1 | exact b01_0 c_32 z.2.2.1 | exact b01_0 c_42 z.2.2.2)]; exact ⟨rfl, rfl, SmX.rf⟩)
set_option maxHeartbeats 4000000 in
set_option maxRecDepth 100000 in
theorem ok_tadd {w : WG} {I : SI} {L : SL} {t m : Nat} (hT : TL w t) (ht : I t 1 = nI m) (hm : m < 150) (c : Int32) : Ok w mX2_add [.ref (gA w t), .int c] I L (fun r1 I1 L1 => r1 = some (.int (nI (m + 1))) ∧ I1 = rS (rS I (t + 1) (upd (I (t + 1)) m (vp_nar .byte c.toInt8.toInt32))) t (upd (I t) 1 (nI (m + 1))) ∧ L1 = L) := by
  refine Ok.of (by decide) (Nat.le_of_ble_eq_true rfl) (fun X hX => ?_)
  refine g_aload_n hX dX2_add_0 rfl rfl ?_
  refine g_get2R hX 0 dX2_add_1 b_fl_X2_9 hT.k0 (by decide) hT.p0 ?_
  refine g_aload_n hX dX2_add_4 rfl rfl ?_
  refine g_get2I hX 1 dX2_add_5 b_fl_X2_15 hT.k0 (by decide) ?_
  try simp (disch := omega) only [rS_ne, rS_eq]
  refine g_iload_n hX dX2_add_8 rfl rfl ?_
  refine g_i2b hX dX2_add_9 ?_
  refine g_bastN hX dX2_add_10 hT.k1 (⟨ht, by omega⟩) (by decide) ?_
  try simp (disch := omega) only [rS_ne, rS_eq]
  refine g_aload_n hX dX2_add_11 rfl rfl ?_
  refine g_dup hX dX2_add_12 rfl ?_
  refine g_get2I hX 1 dX2_add_13 b_fl_X2_15 hT.k0 (by decide) ?_
  try simp (disch := omega) only [rS_ne, rS_eq]
  refine g_iconst (v := 1) hX dX2_add_16 (by decide) ?_
  refine g_iadd hX dX2_add_17 ?_
  refine g_put2I hX 1 dX2_add_18 b_fl_X2_15 hT.k0 pf2_1 ?_
  try simp (disch := omega) only [rS_ne, rS_eq]
  refine g_aload_n hX dX2_add_21 rfl rfl ?_
  refine g_get2I hX 1 dX2_add_22 b_fl_X2_15 hT.k0 (by decide) ?_
  try simp (disch := omega) only [rS_ne, rS_eq]
  exact g_iret hX dX2_add_25 rfl (⟨by rw [pk_us, ht, nI_1], by rw [ht, nI_1], rfl⟩)
def tatF (T : Nat → Int32) (m : Nat) (c : Int32) : Int32 := if 0 ≤ c ∧ c < nI m then T c.toNatClampNeg else -1
set_option maxHeartbeats 4000000 in
set_option maxRecDepth 100000 in
theorem ok_tat {w : WG} {I : SI} {L : SL} {t m : Nat} (hT : TL w t) (ht : I t 1 = nI m) (hm : m ≤ 150) (c : Int32) : Ok w mX2_at [.ref (gA w t), .int c] I L (Pr (.int (tatF (I (t + 1)) m c)) I L) := by
  refine Ok.of (by decide) (Nat.le_of_ble_eq_true rfl) (fun X hX => ?_)
  refine g_iload_n hX dX2_at_0 rfl rfl ?_
  refine g_if_lt (tgt := 21) hX dX2_at_1 (by decide) (fun c_1 => ?_) (fun c_1 => ?_)
  · refine g_iconst (v := -1) hX dX2_at_21 (by decide) ?_
    exact g_iret hX dX2_at_22 rfl (⟨by rw [tatF, if_neg (by rintro ⟨z1, z2⟩; first | exact absurd z1 (Int32.not_le.mpr c_1) | exact absurd z2 (Int32.not_lt.mpr (ht ▸ c_9)))], rfl, rfl⟩)
  · refine g_iload_n hX dX2_at_4 rfl rfl ?_
    refine g_aload_n hX dX2_at_5 rfl rfl ?_
    refine g_get2I hX 1 dX2_at_6 b_fl_X2_15 hT.k0 (by decide) ?_
    refine g_icmp_ge (tgt := 21) hX dX2_at_9 (by decide) (fun c_9 => ?_) (fun c_9 => ?_)
    · refine g_iconst (v := -1) hX dX2_at_21 (by decide) ?_
      exact g_iret hX dX2_at_22 rfl (⟨by rw [tatF, if_neg (by rintro ⟨z1, z2⟩; first | exact absurd z1 (Int32.not_le.mpr c_1) | exact absurd z2 (Int32.not_lt.mpr (ht ▸ c_9)))], rfl, rfl⟩)
    · obtain ⟨j, hj, rfl⟩ := ix ⟨Int32.not_lt.mp c_1, ht ▸ Int32.not_le.mp c_9⟩ (by omega)
      refine g_aload_n hX dX2_at_12 rfl rfl ?_
      refine g_get2R hX 0 dX2_at_13 b_fl_X2_9 hT.k0 (by decide) hT.p0 ?_
      refine g_iload_n hX dX2_at_16 rfl rfl ?_
      refine g_baldN hX dX2_at_17 hT.k1 (⟨rfl, by omega⟩) (by decide) ?_
      refine g_goto (tgt := 22) hX dX2_at_18 (by decide) ?_
      exact g_iret hX dX2_at_22 rfl (⟨by rw [tatF, if_pos ⟨nI_pos' (by omega), (nI_ltI (by omega) (by omega)).mpr hj⟩, nI_clamp (by omega)], rfl, rfl⟩)
def spType (I : SI) (m : Nat) (c : Int32) : Value × SI := if ¬ (0 ≤ c ∧ c ≤ 127) then (.int (-2), rfX I 6) else if m < 150 then (.int (nI (m + 1)), rS (rS I 23 (upd (I 23) m (vp_nar .byte c.toInt8.toInt32))) 22 (upd (I 22) 1 (nI (m + 1)))) else (.int (-4), rfX I 8)
set_option maxHeartbeats 4000000 in
set_option maxRecDepth 100000 in
theorem x_type {w : WG} {I : SI} {L : SL} {m : Nat} (hw : XL w) (ht : I 22 1 = nI m) (hm : m ≤ 150) (c : Int32) : Ok w mX4_type [.ref (gA w 0), .int c] I L (QX (spType I m c) L) := by

  refine Ok.of (by decide) (Nat.le_of_ble_eq_true rfl) (fun X hX => ?_)
  refine g_iload_n hX dX4_type_0 rfl rfl ?_
  refine g_iconst (v := 0) hX dX4_type_1 (by decide) ?_
  refine g_bipush (v := 127) hX dX4_type_2 (by decide) ?_
  refine g_callSp _ hX dX4_type_4 k_X4_53 ⟨by decide, by decide⟩ rfl (ok_within _ _ _) rfl (Nat.le_of_ble_eq_true rfl) ?_
  refine g_if_ne (tgt := 17) hX dX4_type_7 (by decide) (fun c_7 => ?_) (fun c_7 => ?_)
  · refine g_aload_n hX dX4_type_17 rfl rfl ?_
    refine g_get4R hX 3 dX4_type_18 b_fl_X4_26 hw.k0 (by decide) hw.p3 ?_
    refine g_get2I hX 1 dX4_type_21 b_fl_X4_72 hw.text.k0 (by decide) ?_
    try simp (disch := decide) only [rS_ne, rS_eq]
    refine g_sipush (v := 150) hX dX4_type_24 (by decide) ?_
    rw [ht, show (150 : Int32) = nI 150 from rfl]
    refine g_icmp_lt (tgt := 37) hX dX4_type_27 (by decide) (fun c_27 => ?_) (fun c_27 => ?_)
    · have hlt := nlt c_27 (by omega) (by decide)
      refine g_aload_n hX dX4_type_37 rfl rfl ?_
      refine g_get4R hX 3 dX4_type_38 b_fl_X4_26 hw.k0 (by decide) hw.p3 ?_
      refine g_iload_n hX dX4_type_41 rfl rfl ?_
      refine g_callV _ hX dX4_type_42 k_X4_75 ⟨by decide, by decide⟩ (by decide) hw.text.k0 rfl rfl (ok_tadd hw.text ht hlt _) rfl (Nat.le_of_ble_eq_true rfl) (fun r1 I1 L1 hq => ?_)
      obtain ⟨rfl, rfl, rfl⟩ := hq
      exact g_iret hX dX4_type_45 rfl (by rw [spType, if_neg (fun z => z (b01_n c_7)), if_pos hlt]; exact ⟨rfl, rfl, SmX.rf⟩)
    · refine g_aload_n hX dX4_type_30 rfl rfl ?_
      refine g_bipush (v := -4) hX dX4_type_31 (by decide) ?_
      refine g_callV _ hX dX4_type_33 k_X4_57 ⟨by decide, by decide⟩ (by decide) hw.k0 rfl rfl (ok_refuse_full hw) rfl (Nat.le_of_ble_eq_true rfl) (fun r1 I1 L1 hq => ?_)
      obtain ⟨rfl, rfl, rfl⟩ := hq
      exact g_iret hX dX4_type_36 rfl (by rw [spType, if_neg (fun z => z (b01_n c_7)), if_neg (by have := nnlt c_27 (by omega) (by decide); omega)]; exact ⟨rfl, rfl, SmX.rf⟩)
  · refine g_aload_n hX dX4_type_10 rfl rfl ?_
    refine g_bipush (v := -2) hX dX4_type_11 (by decide) ?_
    refine g_callV _ hX dX4_type_13 k_X4_57 ⟨by decide, by decide⟩ (by decide) hw.k0 rfl rfl (ok_refuse_bad hw) rfl (Nat.le_of_ble_eq_true rfl) (fun r1 I1 L1 hq => ?_)
    obtain ⟨rfl, rfl, rfl⟩ := hq
    exact g_iret hX dX4_type_16 rfl (by rw [spType, if_pos (b01_0 c_7)]; exact ⟨rfl, rfl, SmX.rf⟩)
def spClear (I : SI) : Value × SI := (.int (I 22 1), rS I 22 (upd (I 22) 1 0))
set_option maxHeartbeats 4000000 in
set_option maxRecDepth 100000 in
theorem x_clear {w : WG} {I : SI} {L : SL} (hw : XL w)  : Ok w mX4_clear [.ref (gA w 0)] I L (QX (spClear I) L) := by

  refine Ok.of (by decide) (Nat.le_of_ble_eq_true rfl) (fun X hX => ?_)
  refine g_aload_n hX dX4_clear_0 rfl rfl ?_
  refine g_get4R hX 3 dX4_clear_1 b_fl_X4_26 hw.k0 (by decide) hw.p3 ?_
  refine g_get2I hX 1 dX4_clear_4 b_fl_X4_72 hw.text.k0 (by decide) ?_
  refine g_istore_n hX dX4_clear_7 rfl (by decide) ?_
  refine g_aload_n hX dX4_clear_8 rfl rfl ?_
  refine g_get4R hX 3 dX4_clear_9 b_fl_X4_26 hw.k0 (by decide) hw.p3 ?_
  refine g_iconst (v := 0) hX dX4_clear_12 (by decide) ?_
  refine g_put2I hX 1 dX4_clear_13 b_fl_X4_72 hw.text.k0 pf2_1 ?_
  refine g_iload_n hX dX4_clear_16 rfl rfl ?_
  exact g_iret hX dX4_clear_17 rfl (⟨rfl, rfl, SmX.rf⟩)
