def spNote (I : SI) (q : Nat) (k f b t : Int32) : Value × SI := if ¬ ((0 ≤ k ∧ k < I 1 1) ∧ (0 ≤ f ∧ f ≤ 1) ∧ (0 ≤ b ∧ b ≤ 9) ∧ (0 ≤ t ∧ t ≤ 1)) then (.int (-2), rfX I 6) else if q < 6 then (.int (nI q + 1), wV I 1 (noteV (vx I 1) q k f b t)) else (.int (-4), rfX I 8)
set_option maxHeartbeats 4000000 in
set_option maxRecDepth 100000 in
theorem x_note {w : WG} {I : SI} {L : SL} {q : Nat} (hw : XL w) (hq : I 1 4 = nI q) (hq6 : q ≤ 6) (k f b t : Int32) : Ok w mX4_note [.ref (gA w 0), .int k, .int f, .int b, .int t] I L (QX (spNote I q k f b t) L) := by

  refine Ok.of (by decide) (Nat.le_of_ble_eq_true rfl) (fun X hX => ?_)
  refine g_aload_n hX dX4_note_0 rfl rfl ?_
  refine g_get4R hX 0 dX4_note_1 b_fl_X4_10 hw.k0 (by decide) hw.p0 ?_
  refine g_iload_n hX dX4_note_4 rfl rfl ?_
  refine g_callVp _ hX dX4_note_5 k_X4_98 ⟨by decide, by decide⟩ (by decide) hw.now.k0 rfl rfl (ok_hasDog hw.now _) rfl (Nat.le_of_ble_eq_true rfl) ?_
  refine g_if_eq (tgt := 20) hX dX4_note_8 (by decide) (fun c_8 => ?_) (fun c_8 => ?_)
  · refine g_aload_n hX dX4_note_20 rfl rfl ?_
    refine g_bipush (v := -2) hX dX4_note_21 (by decide) ?_
    refine g_callV _ hX dX4_note_23 k_X4_57 ⟨by decide, by decide⟩ (by decide) hw.k0 rfl rfl (ok_refuse_bad hw) rfl (Nat.le_of_ble_eq_true rfl) (fun r1 I1 L1 hq => ?_)
    obtain ⟨rfl, rfl, rfl⟩ := hq
    exact g_iret hX dX4_note_26 rfl (by rw [spNote, if_pos (by intro z; first | exact b01_0 c_8 z.1 | exact b01_0 c_17 z.2.1 | exact b01_0 c_34 z.2.2.1 | exact b01_0 c_44 z.2.2.2)]; exact ⟨rfl, rfl, SmX.rf⟩)
  · refine g_iload_n hX dX4_note_11 rfl rfl ?_
    refine g_iconst (v := 0) hX dX4_note_12 (by decide) ?_
    refine g_iconst (v := 1) hX dX4_note_13 (by decide) ?_
    refine g_callSp _ hX dX4_note_14 k_X4_53 ⟨by decide, by decide⟩ rfl (ok_within _ _ _) rfl (Nat.le_of_ble_eq_true rfl) ?_
    refine g_if_ne (tgt := 27) hX dX4_note_17 (by decide) (fun c_17 => ?_) (fun c_17 => ?_)
    · refine g_iload_n hX dX4_note_27 rfl rfl ?_
      refine g_iconst (v := 0) hX dX4_note_28 (by decide) ?_
      refine g_bipush (v := 9) hX dX4_note_29 (by decide) ?_
      refine g_callSp _ hX dX4_note_31 k_X4_53 ⟨by decide, by decide⟩ rfl (ok_within _ _ _) rfl (Nat.le_of_ble_eq_true rfl) ?_
      refine g_if_eq (tgt := 47) hX dX4_note_34 (by decide) (fun c_34 => ?_) (fun c_34 => ?_)
      · refine g_aload_n hX dX4_note_47 rfl rfl ?_
        refine g_bipush (v := -2) hX dX4_note_48 (by decide) ?_
        refine g_callV _ hX dX4_note_50 k_X4_57 ⟨by decide, by decide⟩ (by decide) hw.k0 rfl rfl (ok_refuse_bad hw) rfl (Nat.le_of_ble_eq_true rfl) (fun r1 I1 L1 hq => ?_)
        obtain ⟨rfl, rfl, rfl⟩ := hq
        exact g_iret hX dX4_note_53 rfl (by rw [spNote, if_pos (by intro z; first | exact b01_0 c_8 z.1 | exact b01_0 c_17 z.2.1 | exact b01_0 c_34 z.2.2.1 | exact b01_0 c_44 z.2.2.2)]; exact ⟨rfl, rfl, SmX.rf⟩)
      · refine g_iload hX dX4_note_37 rfl ?_
        refine g_iconst (v := 0) hX dX4_note_39 (by decide) ?_
        refine g_iconst (v := 1) hX dX4_note_40 (by decide) ?_
        refine g_callSp _ hX dX4_note_41 k_X4_53 ⟨by decide, by decide⟩ rfl (ok_within _ _ _) rfl (Nat.le_of_ble_eq_true rfl) ?_
        refine g_if_ne (tgt := 54) hX dX4_note_44 (by decide) (fun c_44 => ?_) (fun c_44 => ?_)
        · refine g_aload_n hX dX4_note_54 rfl rfl ?_
          refine g_get4R hX 0 dX4_note_55 b_fl_X4_10 hw.k0 (by decide) hw.p0 ?_
          refine g_get3I hX 4 dX4_note_58 b_fl_X4_190 hw.now.k0 (by decide) ?_
          try simp (disch := decide) only [rS_ne, rS_eq]
          refine g_bipush (v := 6) hX dX4_note_61 (by decide) ?_
          rw [hq, show (6 : Int32) = nI 6 from rfl]
          refine g_icmp_lt (tgt := 73) hX dX4_note_63 (by decide) (fun c_63 => ?_) (fun c_63 => ?_)
          · have hlt := nlt c_63 (by omega) (by decide)
            refine g_aload_n hX dX4_note_73 rfl rfl ?_
            refine g_get4R hX 0 dX4_note_74 b_fl_X4_10 hw.k0 (by decide) hw.p0 ?_
            refine g_iload_n hX dX4_note_77 rfl rfl ?_
            refine g_iload_n hX dX4_note_78 rfl rfl ?_
            refine g_iload_n hX dX4_note_79 rfl rfl ?_
            refine g_iload hX dX4_note_80 rfl ?_
            refine g_callV _ hX dX4_note_82 k_X4_193 ⟨by decide, by decide⟩ (by decide) hw.now.k0 rfl rfl (ok_V (ok_addNote_V hw.now hq hlt _ _ _ _)) rfl (Nat.le_of_ble_eq_true rfl) (fun r1 I1 L1 hq => ?_)
            obtain ⟨rfl, rfl, rfl⟩ := hq
            exact g_iret hX dX4_note_85 rfl (by rw [spNote, if_neg (fun z => z ⟨b01_n c_8, b01_n c_17, b01_n c_34, b01_n c_44⟩), if_pos hlt]; exact ⟨rfl, rfl, SmX.rf⟩)
          · refine g_aload_n hX dX4_note_66 rfl rfl ?_
            refine g_bipush (v := -4) hX dX4_note_67 (by decide) ?_
            refine g_callV _ hX dX4_note_69 k_X4_57 ⟨by decide, by decide⟩ (by decide) hw.k0 rfl rfl (ok_refuse_full hw) rfl (Nat.le_of_ble_eq_true rfl) (fun r1 I1 L1 hq => ?_)
            obtain ⟨rfl, rfl, rfl⟩ := hq
            exact g_iret hX dX4_note_72 rfl (by rw [spNote, if_neg (fun z => z ⟨b01_n c_8, b01_n c_17, b01_n c_34, b01_n c_44⟩), if_neg (by have := nnlt c_63 (by omega) (by decide); omega)]; exact ⟨rfl, rfl, SmX.rf⟩)
        · refine g_aload_n hX dX4_note_47 rfl rfl ?_
          refine g_bipush (v := -2) hX dX4_note_48 (by decide) ?_
          refine g_callV _ hX dX4_note_50 k_X4_57 ⟨by decide, by decide⟩ (by decide) hw.k0 rfl rfl (ok_refuse_bad hw) rfl (Nat.le_of_ble_eq_true rfl) (fun r1 I1 L1 hq => ?_)
          obtain ⟨rfl, rfl, rfl⟩ := hq
          exact g_iret hX dX4_note_53 rfl (by rw [spNote, if_pos (by intro z; first | exact b01_0 c_8 z.1 | exact b01_0 c_17 z.2.1 | exact b01_0 c_34 z.2.2.1 | exact b01_0 c_44 z.2.2.2)]; exact ⟨rfl, rfl, SmX.rf⟩)
    · refine g_aload_n hX dX4_note_20 rfl rfl ?_
      refine g_bipush (v := -2) hX dX4_note_21 (by decide) ?_
      refine g_callV _ hX dX4_note_23 k_X4_57 ⟨by decide, by decide⟩ (by decide) hw.k0 rfl rfl (ok_refuse_bad hw) rfl (Nat.le_of_ble_eq_true rfl) (fun r1 I1 L1 hq => ?_)
      obtain ⟨rfl, rfl, rfl⟩ := hq
      exact g_iret hX dX4_note_26 rfl (by rw [spNote, if_pos (by intro z; first | exact b01_0 c_8 z.1 | exact b01_0 c_17 z.2.1 | exact b01_0 c_34 z.2.2.1 | exact b01_0 c_44 z.2.2.2)]; exact ⟨rfl, rfl, SmX.rf⟩)
def spForget (I : SI) : Value × SI := (.int (I 1 4), rS I 1 (upd (I 1) 4 0))
set_option maxHeartbeats 4000000 in
set_option maxRecDepth 100000 in
theorem x_forget {w : WG} {I : SI} {L : SL} (hw : XL w)  : Ok w mX4_forget [.ref (gA w 0)] I L (QX (spForget I) L) := by

  refine Ok.of (by decide) (Nat.le_of_ble_eq_true rfl) (fun X hX => ?_)
  refine g_aload_n hX dX4_forget_0 rfl rfl ?_
  refine g_get4R hX 0 dX4_forget_1 b_fl_X4_10 hw.k0 (by decide) hw.p0 ?_
  refine g_get3I hX 4 dX4_forget_4 b_fl_X4_190 hw.now.k0 (by decide) ?_
  refine g_istore_n hX dX4_forget_7 rfl (by decide) ?_
  refine g_aload_n hX dX4_forget_8 rfl rfl ?_
  refine g_get4R hX 0 dX4_forget_9 b_fl_X4_10 hw.k0 (by decide) hw.p0 ?_
  refine g_iconst (v := 0) hX dX4_forget_12 (by decide) ?_
  refine g_put3I hX 4 dX4_forget_13 b_fl_X4_190 hw.now.k0 pf3_4 ?_
  refine g_iload_n hX dX4_forget_16 rfl rfl ?_
  exact g_iret hX dX4_forget_17 rfl (⟨rfl, rfl, SmX.rf⟩)
def spIs (I : SI) (q : Nat) (k : Int32) : Value × SI := if ¬ (0 ≤ k ∧ k < I 1 1) then (.int (-2), rfX I 6) else (.int (knR (I 9) k q), I)
set_option maxHeartbeats 4000000 in
set_option maxRecDepth 100000 in
theorem x_is {w : WG} {I : SI} {L : SL} {q : Nat} (hw : XL w) (hq : I 1 4 = nI q) (hq6 : q ≤ 6) (k : Int32) : Ok w mX4_is [.ref (gA w 0), .int k] I L (QX (spIs I q k) L) := by

  refine Ok.of (by decide) (Nat.le_of_ble_eq_true rfl) (fun X hX => ?_)
  refine g_aload_n hX dX4_is_0 rfl rfl ?_
  refine g_get4R hX 0 dX4_is_1 b_fl_X4_10 hw.k0 (by decide) hw.p0 ?_
  refine g_iload_n hX dX4_is_4 rfl rfl ?_
  refine g_callVp _ hX dX4_is_5 k_X4_98 ⟨by decide, by decide⟩ (by decide) hw.now.k0 rfl rfl (ok_hasDog hw.now _) rfl (Nat.le_of_ble_eq_true rfl) ?_
  refine g_if_ne (tgt := 18) hX dX4_is_8 (by decide) (fun c_8 => ?_) (fun c_8 => ?_)
  · refine g_aload_n hX dX4_is_18 rfl rfl ?_
    refine g_get4R hX 0 dX4_is_19 b_fl_X4_10 hw.k0 (by decide) hw.p0 ?_
    refine g_iload_n hX dX4_is_22 rfl rfl ?_
    refine g_callVp _ hX dX4_is_23 k_X4_196 ⟨by decide, by decide⟩ (by decide) hw.now.k0 rfl rfl (ok_kindsBy hw.now hq hq6 _) rfl (Nat.le_of_ble_eq_true rfl) ?_
    exact g_iret hX dX4_is_26 rfl (by rw [spIs, if_neg (fun z => z (b01_n c_8))]; exact ⟨rfl, rfl, SmX.rf⟩)
  · refine g_aload_n hX dX4_is_11 rfl rfl ?_
    refine g_bipush (v := -2) hX dX4_is_12 (by decide) ?_
    refine g_callV _ hX dX4_is_14 k_X4_57 ⟨by decide, by decide⟩ (by decide) hw.k0 rfl rfl (ok_refuse_bad hw) rfl (Nat.le_of_ble_eq_true rfl) (fun r1 I1 L1 hq => ?_)
    obtain ⟨rfl, rfl, rfl⟩ := hq
    exact g_iret hX dX4_is_17 rfl (by rw [spIs, if_pos (b01_0 c_8)]; exact ⟨rfl, rfl, SmX.rf⟩)
def sgF (S : Int32) (c : Nat) : Int32 := if bcF (S &&& bgF (b01 (nI (c / 10) = 1)) (nI (c % 10))) < bcF S - bcF (S &&& bgF (b01 (nI (c / 10) = 1)) (nI (c % 10))) then bcF S - bcF (S &&& bgF (b01 (nI (c / 10) = 1)) (nI (c % 10))) else bcF (S &&& bgF (b01 (nI (c / 10) = 1)) (nI (c % 10)))
def sdX (S : Int32) : Nat → Int32 × Int32
  | 0 => (-1, 7)
  | c + 1 => if sgF S c < (sdX S c).2 then (nI c, sgF S c) else sdX S c
theorem sdX_yes {S g : Int32} {c : Nat} (h : g < (sdX S c).2) (hg : sgF S c = g) : sdX S (c + 1) = (nI c, g) := by
  subst hg; rw [sdX, if_pos h]
theorem sdX_no {S g : Int32} {c : Nat} (h : ¬ g < (sdX S c).2) (hg : sgF S c = g) : sdX S (c + 1) = sdX S c := by
  subst hg; rw [sdX, if_neg h]
def spSend (I : SI) (q : Nat) (k : Int32) : Value × SI := if ¬ (0 ≤ k ∧ k < I 1 1) then (.int (-2), rfX I 6) else if knR (I 9) k q = 0 then (.int (-1), I) else (.int (sdX (knR (I 9) k q) 20).1, I)
set_option maxHeartbeats 4000000 in
set_option maxRecDepth 100000 in
theorem x_send {w : WG} {I : SI} {L : SL} {q : Nat} (hw : XL w) (hq : I 1 4 = nI q) (hq6 : q ≤ 6) (k : Int32) : Ok w mX4_send [.ref (gA w 0), .int k] I L (QX (spSend I q k) L) := by

  refine Ok.of (by decide) (Nat.le_of_ble_eq_true rfl) (fun X hX => ?_)
  refine g_aload_n hX dX4_send_0 rfl rfl ?_
  refine g_get4R hX 0 dX4_send_1 b_fl_X4_10 hw.k0 (by decide) hw.p0 ?_
  refine g_iload_n hX dX4_send_4 rfl rfl ?_
  refine g_callVp _ hX dX4_send_5 k_X4_98 ⟨by decide, by decide⟩ (by decide) hw.now.k0 rfl rfl (ok_hasDog hw.now _) rfl (Nat.le_of_ble_eq_true rfl) ?_
  refine g_if_ne (tgt := 18) hX dX4_send_8 (by decide) (fun c_8 => ?_) (fun c_8 => ?_)
  · refine g_aload_n hX dX4_send_18 rfl rfl ?_
    refine g_get4R hX 0 dX4_send_19 b_fl_X4_10 hw.k0 (by decide) hw.p0 ?_
    refine g_iload_n hX dX4_send_22 rfl rfl ?_
    refine g_callVp _ hX dX4_send_23 k_X4_196 ⟨by decide, by decide⟩ (by decide) hw.now.k0 rfl rfl (ok_kindsBy hw.now hq hq6 _) rfl (Nat.le_of_ble_eq_true rfl) ?_
    refine g_istore_n hX dX4_send_26 rfl (by decide) ?_
    refine g_iload_n hX dX4_send_27 rfl rfl ?_
    refine g_if_ne (tgt := 33) hX dX4_send_28 (by decide) (fun c_28 => ?_) (fun c_28 => ?_)
    · have loop := loop_up (n := 20) (P := fun c => G X w mX4_send I L 42 (lvO [(0, .ref (gA w 0)), (2, .int (knR (I (1 + 8)) k q)), (3, .int (sdX (knR (I (1 + 8)) k q) c).1), (4, .int (sdX (knR (I (1 + 8)) k q) c).2), (5, .int (nI c))]) []) (fun c hk ih => by
        refine g_iload hX dX4_send_42 rfl ?_
        refine g_bipush (v := 20) hX dX4_send_44 (by decide) ?_
        rw [show (20 : Int32) = nI 20 from rfl]
        refine g_icmp_ge (tgt := 112) hX dX4_send_46 (by decide) (fun c_46 => ?_) (fun c_46 => ?_)
        · refine g_iload_n hX dX4_send_112 rfl rfl ?_
          exact g_iret hX dX4_send_113 rfl (by rw [spSend, if_neg (fun z => z (b01_n c_8)), if_neg c_28, ← show c = 20 from Nat.le_antisymm hk (nle c_46 (by decide) (by omega))]; exact ⟨rfl, rfl, SmX.rf⟩)
        · have hlt : c < 20 := nnle c_46 (by decide) (by omega)
          refine g_iload_n hX dX4_send_49 rfl rfl ?_
          refine g_iload hX dX4_send_50 rfl ?_
          refine g_bipush (v := 10) hX dX4_send_52 (by decide) ?_
          refine g_idiv hX dX4_send_54 (by decide) ?_
          rw [show (10 : Int32) = nI 10 from rfl, pk_div (by omega) (by decide) (by decide)]
          refine g_iconst (v := 1) hX dX4_send_55 (by decide) ?_
          refine g_icmp_ne (tgt := 63) hX dX4_send_56 (by decide) (fun c_56 => ?_) (fun c_56 => ?_)
          · refine g_iconst (v := 0) hX dX4_send_63 (by decide) ?_
            refine g_iload hX dX4_send_64 rfl ?_
            refine g_bipush (v := 10) hX dX4_send_66 (by decide) ?_
            refine g_irem hX dX4_send_68 (by decide) ?_
            rw [show (10 : Int32) = nI 10 from rfl, pk_rem (by omega) (by decide) (by decide)]
            refine g_callSp _ hX dX4_send_69 k_X4_199 ⟨by decide, by decide⟩ rfl (ok_biting _ _) rfl (Nat.le_of_ble_eq_true rfl) ?_
            refine g_iand hX dX4_send_72 ?_
            refine g_callSp _ hX dX4_send_73 k_X4_203 ⟨by decide, by decide⟩ rfl (ok_bitCount _) rfl (Nat.le_of_ble_eq_true rfl) ?_
            refine g_istore hX dX4_send_76 (by decide) ?_
            refine g_iload hX dX4_send_78 rfl ?_
            refine g_iload_n hX dX4_send_80 rfl rfl ?_
            refine g_callSp _ hX dX4_send_81 k_X4_203 ⟨by decide, by decide⟩ rfl (ok_bitCount _) rfl (Nat.le_of_ble_eq_true rfl) ?_
            refine g_iload hX dX4_send_84 rfl ?_
            refine g_isub hX dX4_send_86 ?_
            refine g_max hX dX4_send_87 b_ml_max (by decide) (Nat.le_of_ble_eq_true rfl) ?_
            refine g_istore hX dX4_send_90 (by decide) ?_
            refine g_iload hX dX4_send_92 rfl ?_
            refine g_iload hX dX4_send_94 rfl ?_
            refine g_icmp_ge (tgt := 106) hX dX4_send_96 (by decide) (fun c_96 => ?_) (fun c_96 => ?_)
            · refine g_iinc hX dX4_send_106 rfl (d := 1) (by decide) ?_
              refine g_goto (tgt := 42) hX dX4_send_109 (by decide) ?_
              exact G.at (ih hlt) ⟨rfl, rfl, vI (by rw [sdX_no (Int32.not_lt.mpr c_96) (by rw [sgF, b01, if_neg c_56])]), vI (by rw [sdX_no (Int32.not_lt.mpr c_96) (by rw [sgF, b01, if_neg c_56])]), vI (nI_1 c), trivial⟩
            · refine g_iload hX dX4_send_99 rfl ?_
              refine g_istore hX dX4_send_101 (by decide) ?_
              refine g_iload hX dX4_send_103 rfl ?_
              refine g_istore_n hX dX4_send_105 rfl (by decide) ?_
              refine g_iinc hX dX4_send_106 rfl (d := 1) (by decide) ?_
              refine g_goto (tgt := 42) hX dX4_send_109 (by decide) ?_
              exact G.at (ih hlt) ⟨rfl, rfl, vI (by rw [sdX_yes (Int32.not_le.mp c_96) (by rw [sgF, b01, if_neg c_56])]), vI (by rw [sdX_yes (Int32.not_le.mp c_96) (by rw [sgF, b01, if_neg c_56])]), vI (nI_1 c), trivial⟩
          · refine g_iconst (v := 1) hX dX4_send_59 (by decide) ?_
            refine g_goto (tgt := 64) hX dX4_send_60 (by decide) ?_
            refine g_iload hX dX4_send_64 rfl ?_
            refine g_bipush (v := 10) hX dX4_send_66 (by decide) ?_
            refine g_irem hX dX4_send_68 (by decide) ?_
            rw [show (10 : Int32) = nI 10 from rfl, pk_rem (by omega) (by decide) (by decide)]
            refine g_callSp _ hX dX4_send_69 k_X4_199 ⟨by decide, by decide⟩ rfl (ok_biting _ _) rfl (Nat.le_of_ble_eq_true rfl) ?_
            refine g_iand hX dX4_send_72 ?_
            refine g_callSp _ hX dX4_send_73 k_X4_203 ⟨by decide, by decide⟩ rfl (ok_bitCount _) rfl (Nat.le_of_ble_eq_true rfl) ?_
            refine g_istore hX dX4_send_76 (by decide) ?_
            refine g_iload hX dX4_send_78 rfl ?_
            refine g_iload_n hX dX4_send_80 rfl rfl ?_
            refine g_callSp _ hX dX4_send_81 k_X4_203 ⟨by decide, by decide⟩ rfl (ok_bitCount _) rfl (Nat.le_of_ble_eq_true rfl) ?_
            refine g_iload hX dX4_send_84 rfl ?_
            refine g_isub hX dX4_send_86 ?_
            refine g_max hX dX4_send_87 b_ml_max (by decide) (Nat.le_of_ble_eq_true rfl) ?_
            refine g_istore hX dX4_send_90 (by decide) ?_
            refine g_iload hX dX4_send_92 rfl ?_
            refine g_iload hX dX4_send_94 rfl ?_
            refine g_icmp_ge (tgt := 106) hX dX4_send_96 (by decide) (fun c_96 => ?_) (fun c_96 => ?_)
            · refine g_iinc hX dX4_send_106 rfl (d := 1) (by decide) ?_
              refine g_goto (tgt := 42) hX dX4_send_109 (by decide) ?_
              exact G.at (ih hlt) ⟨rfl, rfl, vI (by rw [sdX_no (Int32.not_lt.mpr c_96) (by rw [sgF, b01, if_pos c_56])]), vI (by rw [sdX_no (Int32.not_lt.mpr c_96) (by rw [sgF, b01, if_pos c_56])]), vI (nI_1 c), trivial⟩
            · refine g_iload hX dX4_send_99 rfl ?_
              refine g_istore hX dX4_send_101 (by decide) ?_
              refine g_iload hX dX4_send_103 rfl ?_
              refine g_istore_n hX dX4_send_105 rfl (by decide) ?_
              refine g_iinc hX dX4_send_106 rfl (d := 1) (by decide) ?_
              refine g_goto (tgt := 42) hX dX4_send_109 (by decide) ?_
              exact G.at (ih hlt) ⟨rfl, rfl, vI (by rw [sdX_yes (Int32.not_le.mp c_96) (by rw [sgF, b01, if_pos c_56])]), vI (by rw [sdX_yes (Int32.not_le.mp c_96) (by rw [sgF, b01, if_pos c_56])]), vI (nI_1 c), trivial⟩
        )
      refine g_iconst (v := -1) hX dX4_send_33 (by decide) ?_
      refine g_istore_n hX dX4_send_34 rfl (by decide) ?_
      refine g_bipush (v := 7) hX dX4_send_35 (by decide) ?_
      refine g_istore hX dX4_send_37 (by decide) ?_
      refine g_iconst (v := 0) hX dX4_send_39 (by decide) ?_
      refine g_istore hX dX4_send_40 (by decide) ?_
      exact G.at (loop 0 (Nat.zero_le _)) ⟨rfl, rfl, rfl, rfl, rfl, trivial⟩
    · refine g_iconst (v := -1) hX dX4_send_31 (by decide) ?_
      exact g_iret hX dX4_send_32 rfl (by rw [spSend, if_neg (fun z => z (b01_n c_8)), if_pos c_28]; exact ⟨rfl, rfl, SmX.rf⟩)
  · refine g_aload_n hX dX4_send_11 rfl rfl ?_
    refine g_bipush (v := -2) hX dX4_send_12 (by decide) ?_
    refine g_callV _ hX dX4_send_14 k_X4_57 ⟨by decide, by decide⟩ (by decide) hw.k0 rfl rfl (ok_refuse_bad hw) rfl (Nat.le_of_ble_eq_true rfl) (fun r1 I1 L1 hq => ?_)
    obtain ⟨rfl, rfl, rfl⟩ := hq
    exact g_iret hX dX4_send_17 rfl (by rw [spSend, if_pos (b01_0 c_8)]; exact ⟨rfl, rfl, SmX.rf⟩)
def vlX (seed : Int64) : Nat → Int64
  | 0 => seed
  | i + 1 => let y := vlX seed i * 1103515245 + 12345; y - y / 2147483648 * 2147483648
def vbX (x : Int64) : Int32 := (x / 65536 - x / 65536 / 128 * 128).toInt32
def vhX (V : VS) (n d r : Nat) (seed : Int64) : Nat → (Nat → Int32)
  | 0 => V 3
  | i + 1 => rndF V n d (r + i) ((if i = 0 then V 0 2 else 0) ||| vbX (vlX seed (i + 1))) (vhX V n d r seed i)
def spVillages (I : SI) (n d r : Nat) (s m : Int32) : Value × SI := if ¬ ((0 ≤ s ∧ s ≤ 999999) ∧ (0 ≤ m ∧ m ≤ 60)) then (.int (-2), rfX I 6) else (.int (pmF (vhX (vx I 1) n d r s.toInt64 m.toNatClampNeg) n), I)
set_option maxHeartbeats 4000000 in
set_option maxRecDepth 100000 in
theorem x_villages {w : WG} {I : SI} {L : SL} {n d r : Nat} (hw : XL w) (hI : XV I n d r) (s m : Int32) : Ok w mX4_villages [.ref (gA w 0), .int s, .int m] I L (QX (spVillages I n d r s m) L) := by
  obtain ⟨hn, hn4, hd, hd7, hr, hr9⟩ := id hI
  refine Ok.of (by decide) (Nat.le_of_ble_eq_true rfl) (fun X hX => ?_)
  refine g_iload_n hX dX4_villages_0 rfl rfl ?_
  refine g_iconst (v := 0) hX dX4_villages_1 (by decide) ?_
  refine g_ldc (v := 999999) hX dX4_villages_2 b_ct_X4_222 ?_
  refine g_callSp _ hX dX4_villages_4 k_X4_53 ⟨by decide, by decide⟩ rfl (ok_within _ _ _) rfl (Nat.le_of_ble_eq_true rfl) ?_
  refine g_if_eq (tgt := 20) hX dX4_villages_7 (by decide) (fun c_7 => ?_) (fun c_7 => ?_)
  · refine g_aload_n hX dX4_villages_20 rfl rfl ?_
    refine g_bipush (v := -2) hX dX4_villages_21 (by decide) ?_
    refine g_callV _ hX dX4_villages_23 k_X4_57 ⟨by decide, by decide⟩ (by decide) hw.k0 rfl rfl (ok_refuse_bad hw) rfl (Nat.le_of_ble_eq_true rfl) (fun r1 I1 L1 hq => ?_)
    obtain ⟨rfl, rfl, rfl⟩ := hq
    exact g_iret hX dX4_villages_26 rfl (by rw [spVillages, if_pos (by intro z; first | exact b01_0 c_7 z.1 | exact b01_0 c_17 z.2)]; exact ⟨rfl, rfl, SmX.rf⟩)
  · refine g_iload_n hX dX4_villages_10 rfl rfl ?_
    refine g_iconst (v := 0) hX dX4_villages_11 (by decide) ?_
    refine g_bipush (v := 60) hX dX4_villages_12 (by decide) ?_
    refine g_callSp _ hX dX4_villages_14 k_X4_53 ⟨by decide, by decide⟩ rfl (ok_within _ _ _) rfl (Nat.le_of_ble_eq_true rfl) ?_
    refine g_if_ne (tgt := 27) hX dX4_villages_17 (by decide) (fun c_17 => ?_) (fun c_17 => ?_)
    · obtain ⟨m, hm, rfl⟩ := ix2 (n := 60) rfl (by decide) (b01_n c_17)
      have loop := loop_up (n := m) (P := fun i => ∀ f, (∀ c, c < 4 → f c = vhX (vx I 1) n d r s.toInt64 i c) → G X w mX4_villages (rS I 24 f) L 38 (lvO [(0, .ref (gA w 0)), (2, .int (nI m)), (3, .long (vlX s.toInt64 i)), (5, .int (nI i))]) []) (fun i hk ih f hf => by
        refine g_iload hX dX4_villages_38 rfl ?_
        refine g_iload_n hX dX4_villages_40 rfl rfl ?_
        refine g_icmp_ge (tgt := 120) hX dX4_villages_41 (by decide) (fun c_41 => ?_) (fun c_41 => ?_)
        · refine g_aload_n hX dX4_villages_120 rfl rfl ?_
          refine g_get4R hX 9 dX4_villages_121 b_fl_X4_37 hw.k0 (by decide) hw.p9 ?_
          refine g_aload_n hX dX4_villages_124 rfl rfl ?_
          refine g_get4R hX 0 dX4_villages_125 b_fl_X4_10 hw.k0 (by decide) hw.p0 ?_
          refine g_get3I hX 0 dX4_villages_128 b_fl_X4_61 hw.now.k0 (by decide) ?_
          try simp (disch := decide) only [rS_ne, rS_eq]
          rw [hn]
          refine g_callSp _ hX dX4_villages_131 k_X4_128 ⟨by decide, by decide⟩ rfl (ok_postmanOf (n := n) hw.k24 hn4) rfl (Nat.le_of_ble_eq_true rfl) ?_
          simp (disch := decide) only [rS_eq]
          exact g_iret hX dX4_villages_134 rfl (by rw [spVillages, if_neg (fun z => z ⟨b01_n c_7, b01_n c_17⟩), nI_clamp (by omega), ← show i = m from Nat.le_antisymm hk (nle c_41 (by omega) (by omega))]; exact ⟨vI (pmF_congr n (by omega) (fun c hc => hf c (by omega))), rfl, SmX.rf.set _ ⟨by decide, by decide⟩⟩)
        · have hlt := nnle c_41 (by omega) (by omega)
          refine g_lload_n hX dX4_villages_44 rfl rfl ?_
          refine g_ldc2 (v := 1103515245) hX dX4_villages_45 b_ct_X4_223 ?_
          refine g_lmul hX dX4_villages_48 ?_
          refine g_ldc2 (v := 12345) hX dX4_villages_49 b_ct_X4_225 ?_
          refine g_ladd hX dX4_villages_52 ?_
          refine g_ldc2 (v := 2147483648) hX dX4_villages_53 b_ct_X4_227 ?_
          refine g_lrem hX dX4_villages_56 (by decide) ?_
          refine g_lstore_n hX dX4_villages_57 rfl (by decide) ?_
          refine g_lload_n hX dX4_villages_58 rfl rfl ?_
          refine g_ldc2 (v := 65536) hX dX4_villages_59 b_ct_X4_229 ?_
          refine g_ldiv hX dX4_villages_62 (by decide) ?_
          refine g_ldc2 (v := 128) hX dX4_villages_63 b_ct_X4_231 ?_
          refine g_lrem hX dX4_villages_66 (by decide) ?_
          refine g_l2i hX dX4_villages_67 ?_
          refine g_istore hX dX4_villages_68 (by decide) ?_
          refine g_iload hX dX4_villages_70 rfl ?_
          refine g_if_ne (tgt := 85) hX dX4_villages_72 (by decide) (fun c_72 => ?_) (fun c_72 => ?_)
          · refine g_iconst (v := 0) hX dX4_villages_85 (by decide) ?_
            refine g_istore hX dX4_villages_86 (by decide) ?_
            refine g_aload_n hX dX4_villages_88 rfl rfl ?_
            refine g_get4R hX 0 dX4_villages_89 b_fl_X4_10 hw.k0 (by decide) hw.p0 ?_
            refine g_aload_n hX dX4_villages_92 rfl rfl ?_
            refine g_get4R hX 9 dX4_villages_93 b_fl_X4_37 hw.k0 (by decide) hw.p9 ?_
            refine g_aload_n hX dX4_villages_96 rfl rfl ?_
            refine g_get4R hX 0 dX4_villages_97 b_fl_X4_10 hw.k0 (by decide) hw.p0 ?_
            refine g_get3I hX 3 dX4_villages_100 b_fl_X4_115 hw.now.k0 (by decide) ?_
            try simp (disch := decide) only [rS_ne, rS_eq]
            rw [hr]
            refine g_iload hX dX4_villages_103 rfl ?_
            refine g_iadd hX dX4_villages_105 ?_
            rw [nI_add]
            refine g_iload hX dX4_villages_106 rfl ?_
            refine g_iload hX dX4_villages_108 rfl ?_
            refine g_ior hX dX4_villages_110 ?_
            refine g_callV _ hX dX4_villages_111 k_X4_124 ⟨by decide, by decide⟩ (by decide) hw.now.k0 rfl rfl (ok_rndRow hw hI _ (by omega) _) rfl (Nat.le_of_ble_eq_true rfl) (fun r1 I1 L1 hq => ?_)
            obtain ⟨rfl, rfl, rfl⟩ := hq
            refine g_iinc hX dX4_villages_114 rfl (d := 1) (by decide) ?_
            refine g_goto (tgt := 38) hX dX4_villages_117 (by decide) ?_
            exact G.at (ih hlt _ (fun c hc => by rw [vhX, if_neg (fun e => c_72 (by rw [e]; rfl))]; exact rndF_congr hf c hc)) ⟨rfl, rfl, vL rfl, vI (nI_1 i), trivial⟩
          · refine g_aload_n hX dX4_villages_75 rfl rfl ?_
            refine g_get4R hX 0 dX4_villages_76 b_fl_X4_10 hw.k0 (by decide) hw.p0 ?_
            refine g_get3I hX 2 dX4_villages_79 b_fl_X4_121 hw.now.k0 (by decide) ?_
            try simp (disch := decide) only [rS_ne, rS_eq]
            refine g_goto (tgt := 86) hX dX4_villages_82 (by decide) ?_
            refine g_istore hX dX4_villages_86 (by decide) ?_
            refine g_aload_n hX dX4_villages_88 rfl rfl ?_
            refine g_get4R hX 0 dX4_villages_89 b_fl_X4_10 hw.k0 (by decide) hw.p0 ?_
            refine g_aload_n hX dX4_villages_92 rfl rfl ?_
            refine g_get4R hX 9 dX4_villages_93 b_fl_X4_37 hw.k0 (by decide) hw.p9 ?_
            refine g_aload_n hX dX4_villages_96 rfl rfl ?_
            refine g_get4R hX 0 dX4_villages_97 b_fl_X4_10 hw.k0 (by decide) hw.p0 ?_
            refine g_get3I hX 3 dX4_villages_100 b_fl_X4_115 hw.now.k0 (by decide) ?_
            try simp (disch := decide) only [rS_ne, rS_eq]
            rw [hr]
            refine g_iload hX dX4_villages_103 rfl ?_
            refine g_iadd hX dX4_villages_105 ?_
            rw [nI_add]
            refine g_iload hX dX4_villages_106 rfl ?_
            refine g_iload hX dX4_villages_108 rfl ?_
            refine g_ior hX dX4_villages_110 ?_
            refine g_callV _ hX dX4_villages_111 k_X4_124 ⟨by decide, by decide⟩ (by decide) hw.now.k0 rfl rfl (ok_rndRow hw hI _ (by omega) _) rfl (Nat.le_of_ble_eq_true rfl) (fun r1 I1 L1 hq => ?_)
            obtain ⟨rfl, rfl, rfl⟩ := hq
            refine g_iinc hX dX4_villages_114 rfl (d := 1) (by decide) ?_
            refine g_goto (tgt := 38) hX dX4_villages_117 (by decide) ?_
            exact G.at (ih hlt _ (fun c hc => by rw [vhX, if_pos ((nI_eq (b := 0) (by omega) (by decide)).mp c_72)]; exact rndF_congr hf c hc)) ⟨rfl, rfl, vL rfl, vI (nI_1 i), trivial⟩
        )
      refine g_aload_n hX dX4_villages_27 rfl rfl ?_
      refine g_iconst (v := 0) hX dX4_villages_28 (by decide) ?_
      refine g_callV _ hX dX4_villages_29 k_X4_174 ⟨by decide, by decide⟩ (by decide) hw.k0 rfl rfl (ok_lookAhead (m := 0) hw hI (by omega)) rfl (Nat.le_of_ble_eq_true rfl) (fun r1 I1 L1 hq => ?_)
      obtain ⟨rfl, rfl, f, rfl, hf⟩ := hq
      refine g_iload_n hX dX4_villages_32 rfl rfl ?_
      refine g_i2l hX dX4_villages_33 ?_
      refine g_lstore_n hX dX4_villages_34 rfl (by decide) ?_
      refine g_iconst (v := 0) hX dX4_villages_35 (by decide) ?_
      refine g_istore hX dX4_villages_36 (by decide) ?_
      exact G.at (loop 0 (Nat.zero_le _) _ hf) ⟨rfl, rfl, rfl, rfl, trivial⟩
    · refine g_aload_n hX dX4_villages_20 rfl rfl ?_
      refine g_bipush (v := -2) hX dX4_villages_21 (by decide) ?_
      refine g_callV _ hX dX4_villages_23 k_X4_57 ⟨by decide, by decide⟩ (by decide) hw.k0 rfl rfl (ok_refuse_bad hw) rfl (Nat.le_of_ble_eq_true rfl) (fun r1 I1 L1 hq => ?_)
      obtain ⟨rfl, rfl, rfl⟩ := hq
      exact g_iret hX dX4_villages_26 rfl (by rw [spVillages, if_pos (by intro z; first | exact b01_0 c_7 z.1 | exact b01_0 c_17 z.2)]; exact ⟨rfl, rfl, SmX.rf⟩)
def spPart (I : SI) (a : Int32) : Value × SI := if a = 0 then (.long (I 0 4).toInt64, I) else if a = 1 then (.long (I 0 5).toInt64, I) else (.long (-2), rfX I 6)
set_option maxHeartbeats 4000000 in
set_option maxRecDepth 100000 in
theorem x_part {w : WG} {I : SI} {L : SL} (hw : XL w) (a : Int32) : Ok w mX4_part [.ref (gA w 0), .int a] I L (QX (spPart I a) L) := by

  refine Ok.of (by decide) (Nat.le_of_ble_eq_true rfl) (fun X hX => ?_)
  refine g_iload_n hX dX4_part_0 rfl rfl ?_
  by_cases s0 : a = 0
  · refine g_lookup (tgt := 28) hX dX4_part_1 (by decide) (by rw [s0] <;> rfl) (by decide) ?_
    refine g_aload_n hX dX4_part_28 rfl rfl ?_
    refine g_get4I hX 4 dX4_part_29 b_fl_X4_30 hw.k0 (by decide) ?_
    refine g_i2l hX dX4_part_32 ?_
    exact g_lret hX dX4_part_33 rfl (by rw [spPart, if_pos s0]; exact ⟨rfl, rfl, SmX.rf⟩)
  by_cases s1 : a = 1
  · refine g_lookup (tgt := 34) hX dX4_part_1 (by decide) (by rw [s1] <;> rfl) (by decide) ?_
    refine g_aload_n hX dX4_part_34 rfl rfl ?_
    refine g_get4I hX 5 dX4_part_35 b_fl_X4_34 hw.k0 (by decide) ?_
    refine g_i2l hX dX4_part_38 ?_
    exact g_lret hX dX4_part_39 rfl (by rw [spPart, if_neg s0, if_pos s1]; exact ⟨rfl, rfl, SmX.rf⟩)
  refine g_lookup (off := 39) (tgt := 40) hX dX4_part_1 (by decide) ((lv_osw s0 rfl).trans ((lv_osw s1 rfl).trans rfl)) (by decide) ?_
  refine g_aload_n hX dX4_part_40 rfl rfl ?_
  refine g_bipush (v := -2) hX dX4_part_41 (by decide) ?_
  refine g_callV _ hX dX4_part_43 k_X4_57 ⟨by decide, by decide⟩ (by decide) hw.k0 rfl rfl (ok_refuse_bad hw) rfl (Nat.le_of_ble_eq_true rfl) (fun r1 I1 L1 hq => ?_)
  obtain ⟨rfl, rfl, rfl⟩ := hq
  refine g_i2l hX dX4_part_46 ?_
  exact g_lret hX dX4_part_47 rfl (by rw [spPart, if_neg s0, if_neg s1]; exact ⟨rfl, rfl, SmX.rf⟩)
def spStatus (I : SI) (a : Int32) : Value × SI := if a = 0 then (.int (I 0 6), I) else if a = 1 then (.int (I 0 7), I) else if a = 2 then (.int (I 0 8), I) else (.int (-1), rfX I 6)
set_option maxHeartbeats 4000000 in
set_option maxRecDepth 100000 in
theorem x_status {w : WG} {I : SI} {L : SL} (hw : XL w) (a : Int32) : Ok w mX4_status [.ref (gA w 0), .int a] I L (QX (spStatus I a) L) := by

  refine Ok.of (by decide) (Nat.le_of_ble_eq_true rfl) (fun X hX => ?_)
  refine g_iload_n hX dX4_status_0 rfl rfl ?_
  by_cases s_1_0 : a = 0
  · refine g_tabIn (tgt := 28) hX dX4_status_1 (by rw [s_1_0]; decide) (by rw [s_1_0]; decide) (by rw [s_1_0]; rfl) (by decide) ?_
    refine g_aload_n hX dX4_status_28 rfl rfl ?_
    refine g_get4I hX 6 dX4_status_29 b_fl_X4_233 hw.k0 (by decide) ?_
    exact g_iret hX dX4_status_32 rfl (by rw [spStatus, if_pos s_1_0]; exact ⟨rfl, rfl, SmX.rf⟩)
  by_cases s_1_1 : a = 1
  · refine g_tabIn (tgt := 33) hX dX4_status_1 (by rw [s_1_1]; decide) (by rw [s_1_1]; decide) (by rw [s_1_1]; rfl) (by decide) ?_
    refine g_aload_n hX dX4_status_33 rfl rfl ?_
    refine g_get4I hX 7 dX4_status_34 b_fl_X4_236 hw.k0 (by decide) ?_
    exact g_iret hX dX4_status_37 rfl (by rw [spStatus, if_neg s_1_0, if_pos s_1_1]; exact ⟨rfl, rfl, SmX.rf⟩)
  by_cases s_1_2 : a = 2
  · refine g_tabIn (tgt := 38) hX dX4_status_1 (by rw [s_1_2]; decide) (by rw [s_1_2]; decide) (by rw [s_1_2]; rfl) (by decide) ?_
    refine g_aload_n hX dX4_status_38 rfl rfl ?_
    refine g_get4I hX 8 dX4_status_39 b_fl_X4_239 hw.k0 (by decide) ?_
    exact g_iret hX dX4_status_42 rfl (by rw [spStatus, if_neg s_1_0, if_neg s_1_1, if_pos s_1_2]; exact ⟨rfl, rfl, SmX.rf⟩)
  refine g_tabOut (tgt := 43) hX dX4_status_1 (tab_out (fun j h1 h2 => by rcases (show j = 0 ∨ j = 1 ∨ j = 2 by omega) with rfl | rfl | rfl <;> assumption)) (by decide) ?_
  refine g_aload_n hX dX4_status_43 rfl rfl ?_
  refine g_bipush (v := -2) hX dX4_status_44 (by decide) ?_
  refine g_callV _ hX dX4_status_46 k_X4_57 ⟨by decide, by decide⟩ (by decide) hw.k0 rfl rfl (ok_refuse_bad hw) rfl (Nat.le_of_ble_eq_true rfl) (fun r1 I1 L1 hq => ?_)
  obtain ⟨rfl, rfl, rfl⟩ := hq
  refine g_pop hX dX4_status_49 rfl ?_
  refine g_iconst (v := -1) hX dX4_status_50 (by decide) ?_
  exact g_iret hX dX4_status_51 rfl (by rw [spStatus, if_neg s_1_0, if_neg s_1_1, if_neg s_1_2]; exact ⟨rfl, rfl, SmX.rf⟩)
def cnX (I : SI) (a : Int32) : Int32 := if a = 0 then I 1 0 else if a = 1 then I 1 1 else if a = 2 then I 1 3 else if a = 3 then bcF (I 1 2) else if a = 4 then I 1 4 else if a = 5 then I 1 5 else I 22 1
def spCount (I : SI) (a : Int32) : Value × SI := if ¬ (0 ≤ a ∧ a ≤ 6) then (.int (-2), rfX I 6) else (.int (cnX I a), I)
set_option maxHeartbeats 4000000 in
set_option maxRecDepth 100000 in
theorem ok_counted {w : WG} {I : SI} {L : SL} (hw : XL w) (a : Int32) : Ok w mX4_counted [.ref (gA w 0), .int a] I L (Pr (.int (cnX I a)) I L) := by
  refine Ok.of (by decide) (Nat.le_of_ble_eq_true rfl) (fun X hX => ?_)
  refine g_iload_n hX dX4_counted_0 rfl rfl ?_
  by_cases s_1_0 : a = 0
  · refine g_tabIn (tgt := 40) hX dX4_counted_1 (by rw [s_1_0]; decide) (by rw [s_1_0]; decide) (by rw [s_1_0]; rfl) (by decide) ?_
    refine g_aload_n hX dX4_counted_40 rfl rfl ?_
    refine g_get4R hX 0 dX4_counted_41 b_fl_X4_10 hw.k0 (by decide) hw.p0 ?_
    refine g_get3I hX 0 dX4_counted_44 b_fl_X4_61 hw.now.k0 (by decide) ?_
    exact g_iret hX dX4_counted_47 rfl (⟨by rw [cnX, if_pos s_1_0], rfl, rfl⟩)
  by_cases s_1_1 : a = 1
  · refine g_tabIn (tgt := 48) hX dX4_counted_1 (by rw [s_1_1]; decide) (by rw [s_1_1]; decide) (by rw [s_1_1]; rfl) (by decide) ?_
    refine g_aload_n hX dX4_counted_48 rfl rfl ?_
    refine g_get4R hX 0 dX4_counted_49 b_fl_X4_10 hw.k0 (by decide) hw.p0 ?_
    refine g_get3I hX 1 dX4_counted_52 b_fl_X4_47 hw.now.k0 (by decide) ?_
    exact g_iret hX dX4_counted_55 rfl (⟨by rw [cnX, if_neg s_1_0, if_pos s_1_1], rfl, rfl⟩)
  by_cases s_1_2 : a = 2
  · refine g_tabIn (tgt := 56) hX dX4_counted_1 (by rw [s_1_2]; decide) (by rw [s_1_2]; decide) (by rw [s_1_2]; rfl) (by decide) ?_
    refine g_aload_n hX dX4_counted_56 rfl rfl ?_
    refine g_get4R hX 0 dX4_counted_57 b_fl_X4_10 hw.k0 (by decide) hw.p0 ?_
    refine g_get3I hX 3 dX4_counted_60 b_fl_X4_115 hw.now.k0 (by decide) ?_
    exact g_iret hX dX4_counted_63 rfl (⟨by rw [cnX, if_neg s_1_0, if_neg s_1_1, if_pos s_1_2], rfl, rfl⟩)
  by_cases s_1_3 : a = 3
  · refine g_tabIn (tgt := 64) hX dX4_counted_1 (by rw [s_1_3]; decide) (by rw [s_1_3]; decide) (by rw [s_1_3]; rfl) (by decide) ?_
    refine g_aload_n hX dX4_counted_64 rfl rfl ?_
    refine g_get4R hX 0 dX4_counted_65 b_fl_X4_10 hw.k0 (by decide) hw.p0 ?_
    refine g_get3I hX 2 dX4_counted_68 b_fl_X4_121 hw.now.k0 (by decide) ?_
    refine g_callSp _ hX dX4_counted_71 k_X4_203 ⟨by decide, by decide⟩ rfl (ok_bitCount _) rfl (Nat.le_of_ble_eq_true rfl) ?_
    exact g_iret hX dX4_counted_74 rfl (⟨by rw [cnX, if_neg s_1_0, if_neg s_1_1, if_neg s_1_2, if_pos s_1_3], rfl, rfl⟩)
  by_cases s_1_4 : a = 4
  · refine g_tabIn (tgt := 75) hX dX4_counted_1 (by rw [s_1_4]; decide) (by rw [s_1_4]; decide) (by rw [s_1_4]; rfl) (by decide) ?_
    refine g_aload_n hX dX4_counted_75 rfl rfl ?_
    refine g_get4R hX 0 dX4_counted_76 b_fl_X4_10 hw.k0 (by decide) hw.p0 ?_
    refine g_get3I hX 4 dX4_counted_79 b_fl_X4_190 hw.now.k0 (by decide) ?_
    exact g_iret hX dX4_counted_82 rfl (⟨by rw [cnX, if_neg s_1_0, if_neg s_1_1, if_neg s_1_2, if_neg s_1_3, if_pos s_1_4], rfl, rfl⟩)
  by_cases s_1_5 : a = 5
  · refine g_tabIn (tgt := 83) hX dX4_counted_1 (by rw [s_1_5]; decide) (by rw [s_1_5]; decide) (by rw [s_1_5]; rfl) (by decide) ?_
    refine g_aload_n hX dX4_counted_83 rfl rfl ?_
    refine g_get4R hX 0 dX4_counted_84 b_fl_X4_10 hw.k0 (by decide) hw.p0 ?_
    refine g_get3I hX 5 dX4_counted_87 b_fl_X4_132 hw.now.k0 (by decide) ?_
    exact g_iret hX dX4_counted_90 rfl (⟨by rw [cnX, if_neg s_1_0, if_neg s_1_1, if_neg s_1_2, if_neg s_1_3, if_neg s_1_4, if_pos s_1_5], rfl, rfl⟩)
  refine g_tabOut (tgt := 91) hX dX4_counted_1 (tab_out (fun j h1 h2 => by rcases (show j = 0 ∨ j = 1 ∨ j = 2 ∨ j = 3 ∨ j = 4 ∨ j = 5 by omega) with rfl | rfl | rfl | rfl | rfl | rfl <;> assumption)) (by decide) ?_
  refine g_aload_n hX dX4_counted_91 rfl rfl ?_
  refine g_get4R hX 3 dX4_counted_92 b_fl_X4_26 hw.k0 (by decide) hw.p3 ?_
  refine g_get2I hX 1 dX4_counted_95 b_fl_X4_72 hw.text.k0 (by decide) ?_
  exact g_iret hX dX4_counted_98 rfl (⟨by rw [cnX, if_neg s_1_0, if_neg s_1_1, if_neg s_1_2, if_neg s_1_3, if_neg s_1_4, if_neg s_1_5], rfl, rfl⟩)
set_option maxHeartbeats 4000000 in
set_option maxRecDepth 100000 in
theorem x_count {w : WG} {I : SI} {L : SL} (hw : XL w) (a : Int32) : Ok w mX4_count [.ref (gA w 0), .int a] I L (QX (spCount I a) L) := by

  refine Ok.of (by decide) (Nat.le_of_ble_eq_true rfl) (fun X hX => ?_)
  refine g_iload_n hX dX4_count_0 rfl rfl ?_
  refine g_iconst (v := 0) hX dX4_count_1 (by decide) ?_
  refine g_bipush (v := 6) hX dX4_count_2 (by decide) ?_
  refine g_callSp _ hX dX4_count_4 k_X4_53 ⟨by decide, by decide⟩ rfl (ok_within _ _ _) rfl (Nat.le_of_ble_eq_true rfl) ?_
  refine g_if_ne (tgt := 17) hX dX4_count_7 (by decide) (fun c_7 => ?_) (fun c_7 => ?_)
  · refine g_aload_n hX dX4_count_17 rfl rfl ?_
    refine g_iload_n hX dX4_count_18 rfl rfl ?_
    refine g_callVp _ hX dX4_count_19 k_X4_242 ⟨by decide, by decide⟩ (by decide) hw.k0 rfl rfl (ok_counted hw _) rfl (Nat.le_of_ble_eq_true rfl) ?_
    exact g_iret hX dX4_count_22 rfl (by rw [spCount, if_neg (fun z => z (b01_n c_7))]; exact ⟨rfl, rfl, SmX.rf⟩)
  · refine g_aload_n hX dX4_count_10 rfl rfl ?_
    refine g_bipush (v := -2) hX dX4_count_11 (by decide) ?_
    refine g_callV _ hX dX4_count_13 k_X4_57 ⟨by decide, by decide⟩ (by decide) hw.k0 rfl rfl (ok_refuse_bad hw) rfl (Nat.le_of_ble_eq_true rfl) (fun r1 I1 L1 hq => ?_)
    obtain ⟨rfl, rfl, rfl⟩ := hq
    exact g_iret hX dX4_count_16 rfl (by rw [spCount, if_pos (b01_0 c_7)]; exact ⟨rfl, rfl, SmX.rf⟩)
