def slX (V : VS) (n d r : Nat) (c : Int32) : Nat → Nat → Int32
  | 0, _ => -1
  | k + 1, i => if pmF (ahF V n d r i) n = c then nI i else slX V n d r c k (i + 1)
def spStill (I : SI) (n d r : Nat) (c : Int32) : Value × SI := if ¬ (0 ≤ c ∧ c < I 1 0) then (.int (-2), rfX I 6) else (.int (slX (vx I 1) n d r c 30 1), I)
set_option maxHeartbeats 4000000 in
set_option maxRecDepth 100000 in
theorem x_still {w : WG} {I : SI} {L : SL} {n d r : Nat} (hw : XL w) (hI : XV I n d r) (c : Int32) : Ok w mX4_still [.ref (gA w 0), .int c] I L (QX (spStill I n d r c) L) := by
  obtain ⟨hn, hn4, hd, hd7, hr, hr9⟩ := id hI
  refine Ok.of (by decide) (Nat.le_of_ble_eq_true rfl) (fun X hX => ?_)
  refine g_aload_n hX dX4_still_0 rfl rfl ?_
  refine g_get4R hX 0 dX4_still_1 b_fl_X4_10 hw.k0 (by decide) hw.p0 ?_
  refine g_iload_n hX dX4_still_4 rfl rfl ?_
  refine g_callVp _ hX dX4_still_5 k_X4_94 ⟨by decide, by decide⟩ (by decide) hw.now.k0 rfl rfl (ok_hasMan hw.now _) rfl (Nat.le_of_ble_eq_true rfl) ?_
  refine g_if_ne (tgt := 18) hX dX4_still_8 (by decide) (fun c_8 => ?_) (fun c_8 => ?_)
  · have loop := loop_up (n := 30) (P := fun i => ∀ f, (∀ c, c < 4 → f c = ahF (vx I 1) n d r i c) → (spStill I n d r c) = (.int (slX (vx I 1) n d r c (30 - i) (i + 1)), I) → G X w mX4_still (rS I 24 f) L 25 (lvO [(0, .ref (gA w 0)), (1, .int c), (2, .int (nI (i + 1)))]) []) (fun i hk ih f hf hres => by
      refine g_iload_n hX dX4_still_25 rfl rfl ?_
      refine g_bipush (v := 30) hX dX4_still_26 (by decide) ?_
      rw [show (30 : Int32) = nI 30 from rfl]
      refine g_icmp_gt (tgt := 95) hX dX4_still_28 (by decide) (fun c_28 => ?_) (fun c_28 => ?_)
      · refine g_iconst (v := -1) hX dX4_still_95 (by decide) ?_
        exact g_iret hX dX4_still_96 rfl (by rw [hres, show i = 30 by (have := nlt c_28 (by decide) (by omega); omega)]; exact ⟨rfl, rfl, SmX.rf.set _ ⟨by decide, by decide⟩⟩)
      · have hlt : i < 30 := by have := nnlt c_28 (by decide) (by omega); omega
        refine g_aload_n hX dX4_still_31 rfl rfl ?_
        refine g_get4R hX 0 dX4_still_32 b_fl_X4_10 hw.k0 (by decide) hw.p0 ?_
        refine g_aload_n hX dX4_still_35 rfl rfl ?_
        refine g_get4R hX 9 dX4_still_36 b_fl_X4_37 hw.k0 (by decide) hw.p9 ?_
        refine g_aload_n hX dX4_still_39 rfl rfl ?_
        refine g_get4R hX 0 dX4_still_40 b_fl_X4_10 hw.k0 (by decide) hw.p0 ?_
        refine g_get3I hX 3 dX4_still_43 b_fl_X4_115 hw.now.k0 (by decide) ?_
        try simp (disch := decide) only [rS_ne, rS_eq]
        rw [hr]
        refine g_iload_n hX dX4_still_46 rfl rfl ?_
        refine g_iadd hX dX4_still_47 ?_
        rw [nI_add]
        refine g_iconst (v := 1) hX dX4_still_48 (by decide) ?_
        refine g_isub hX dX4_still_49 ?_
        rw [show r + (i + 1) = (r + i) + 1 from rfl, nI_pred]
        refine g_iload_n hX dX4_still_50 rfl rfl ?_
        refine g_iconst (v := 1) hX dX4_still_51 (by decide) ?_
        refine g_icmp_ne (tgt := 65) hX dX4_still_52 (by decide) (fun c_52 => ?_) (fun c_52 => ?_)
        · refine g_iconst (v := 0) hX dX4_still_65 (by decide) ?_
          refine g_callV _ hX dX4_still_66 k_X4_124 ⟨by decide, by decide⟩ (by decide) hw.now.k0 rfl rfl (ok_rndRow hw hI _ (by omega) _) rfl (Nat.le_of_ble_eq_true rfl) (fun r1 I1 L1 hq => ?_)
          obtain ⟨rfl, rfl, rfl⟩ := hq
          have hf2 : ∀ c, c < 4 → rndF (vx I 1) n d (r + i) (0) f c = ahF (vx I 1) n d r (i + 1) c := fun c hc => (rndF_congr hf c hc).trans (congrFun (by rw [ahF]; rw [if_neg (fun e => c_52 (by rw [e]; rfl))]) c)
          refine g_aload_n hX dX4_still_69 rfl rfl ?_
          refine g_get4R hX 9 dX4_still_70 b_fl_X4_37 hw.k0 (by decide) hw.p9 ?_
          refine g_aload_n hX dX4_still_73 rfl rfl ?_
          refine g_get4R hX 0 dX4_still_74 b_fl_X4_10 hw.k0 (by decide) hw.p0 ?_
          refine g_get3I hX 0 dX4_still_77 b_fl_X4_61 hw.now.k0 (by decide) ?_
          try simp (disch := decide) only [rS_ne, rS_eq]
          rw [hn]
          refine g_callSp _ hX dX4_still_80 k_X4_128 ⟨by decide, by decide⟩ rfl (ok_postmanOf (n := n) hw.k24 hn4) rfl (Nat.le_of_ble_eq_true rfl) ?_
          simp (disch := decide) only [rS_eq]
          rw [pmF_congr n (by omega) (fun c hc => hf2 c (by omega))]
          refine g_iload_n hX dX4_still_83 rfl rfl ?_
          refine g_icmp_ne (tgt := 89) hX dX4_still_84 (by decide) (fun c_84 => ?_) (fun c_84 => ?_)
          · refine g_iinc hX dX4_still_89 rfl (d := 1) (by decide) ?_
            refine g_goto (tgt := 25) hX dX4_still_92 (by decide) ?_
            exact G.at (ih hlt _ hf2 (hres.trans (by rw [show 30 - i = (30 - (i + 1)) + 1 by omega, slX, if_neg c_84]))) ⟨rfl, rfl, vI (nI_1 (i + 1)), trivial⟩
          · refine g_iload_n hX dX4_still_87 rfl rfl ?_
            exact g_iret hX dX4_still_88 rfl (by rw [hres, show 30 - i = (30 - (i + 1)) + 1 by omega, slX, if_pos c_84]; exact ⟨rfl, rfl, SmX.rf.set _ ⟨by decide, by decide⟩⟩)
        · refine g_aload_n hX dX4_still_55 rfl rfl ?_
          refine g_get4R hX 0 dX4_still_56 b_fl_X4_10 hw.k0 (by decide) hw.p0 ?_
          refine g_get3I hX 2 dX4_still_59 b_fl_X4_121 hw.now.k0 (by decide) ?_
          try simp (disch := decide) only [rS_ne, rS_eq]
          refine g_goto (tgt := 66) hX dX4_still_62 (by decide) ?_
          refine g_callV _ hX dX4_still_66 k_X4_124 ⟨by decide, by decide⟩ (by decide) hw.now.k0 rfl rfl (ok_rndRow hw hI _ (by omega) _) rfl (Nat.le_of_ble_eq_true rfl) (fun r1 I1 L1 hq => ?_)
          obtain ⟨rfl, rfl, rfl⟩ := hq
          have hf2 : ∀ c, c < 4 → rndF (vx I 1) n d (r + i) (I 1 2) f c = ahF (vx I 1) n d r (i + 1) c := fun c hc => (rndF_congr hf c hc).trans (congrFun (by rw [ahF]; rw [if_pos (show i = 0 by have := (nI_eq (a := i + 1) (b := 1) (by omega) (by decide)).mp c_52; omega)]; rfl) c)
          refine g_aload_n hX dX4_still_69 rfl rfl ?_
          refine g_get4R hX 9 dX4_still_70 b_fl_X4_37 hw.k0 (by decide) hw.p9 ?_
          refine g_aload_n hX dX4_still_73 rfl rfl ?_
          refine g_get4R hX 0 dX4_still_74 b_fl_X4_10 hw.k0 (by decide) hw.p0 ?_
          refine g_get3I hX 0 dX4_still_77 b_fl_X4_61 hw.now.k0 (by decide) ?_
          try simp (disch := decide) only [rS_ne, rS_eq]
          rw [hn]
          refine g_callSp _ hX dX4_still_80 k_X4_128 ⟨by decide, by decide⟩ rfl (ok_postmanOf (n := n) hw.k24 hn4) rfl (Nat.le_of_ble_eq_true rfl) ?_
          simp (disch := decide) only [rS_eq]
          rw [pmF_congr n (by omega) (fun c hc => hf2 c (by omega))]
          refine g_iload_n hX dX4_still_83 rfl rfl ?_
          refine g_icmp_ne (tgt := 89) hX dX4_still_84 (by decide) (fun c_84 => ?_) (fun c_84 => ?_)
          · refine g_iinc hX dX4_still_89 rfl (d := 1) (by decide) ?_
            refine g_goto (tgt := 25) hX dX4_still_92 (by decide) ?_
            exact G.at (ih hlt _ hf2 (hres.trans (by rw [show 30 - i = (30 - (i + 1)) + 1 by omega, slX, if_neg c_84]))) ⟨rfl, rfl, vI (nI_1 (i + 1)), trivial⟩
          · refine g_iload_n hX dX4_still_87 rfl rfl ?_
            exact g_iret hX dX4_still_88 rfl (by rw [hres, show 30 - i = (30 - (i + 1)) + 1 by omega, slX, if_pos c_84]; exact ⟨rfl, rfl, SmX.rf.set _ ⟨by decide, by decide⟩⟩)
      )
    refine g_aload_n hX dX4_still_18 rfl rfl ?_
    refine g_iconst (v := 0) hX dX4_still_19 (by decide) ?_
    refine g_callV _ hX dX4_still_20 k_X4_174 ⟨by decide, by decide⟩ (by decide) hw.k0 rfl rfl (ok_lookAhead (m := 0) hw hI (by omega)) rfl (Nat.le_of_ble_eq_true rfl) (fun r1 I1 L1 hq => ?_)
    obtain ⟨rfl, rfl, f, rfl, hf⟩ := hq
    refine g_iconst (v := 1) hX dX4_still_23 (by decide) ?_
    refine g_istore_n hX dX4_still_24 rfl (by decide) ?_
    exact G.at (loop 0 (Nat.zero_le _) _ hf (by rw [spStill, if_neg (fun z => z (b01_n c_8))])) ⟨rfl, rfl, rfl, trivial⟩
  · refine g_aload_n hX dX4_still_11 rfl rfl ?_
    refine g_bipush (v := -2) hX dX4_still_12 (by decide) ?_
    refine g_callV _ hX dX4_still_14 k_X4_57 ⟨by decide, by decide⟩ (by decide) hw.k0 rfl rfl (ok_refuse_bad hw) rfl (Nat.le_of_ble_eq_true rfl) (fun r1 I1 L1 hq => ?_)
    obtain ⟨rfl, rfl, rfl⟩ := hq
    exact g_iret hX dX4_still_17 rfl (by rw [spStill, if_pos (b01_0 c_8)]; exact ⟨rfl, rfl, SmX.rf⟩)
def frX (W : Nat → Int32) : Nat → Int32 × Int32
  | 0 => (0, W 0)
  | s + 1 => if W (s + 1) < (frX W s).2 then (nI (s + 1), W (s + 1)) else frX W s
def wtX (V : VS) (n d : Nat) (c s : Int32) (a : Nat) : Int32 := wtR (V 4) (V 5) (V 7) (V 1) n a c s d
def spFirst (I : SI) (n d : Nat) (c a : Int32) : Value × SI := if ¬ ((0 ≤ c ∧ c < I 1 0) ∧ (0 ≤ a ∧ a ≤ 1)) then (.int (-2), rfX I 6) else if a = 0 then (.int (frX (wtX (vx I 1) n d c (I 1 2)) (n - 1)).1, I) else (.int (frX (wtX (vx I 1) n d c (I 1 2)) (n - 1)).2, I)
set_option maxHeartbeats 4000000 in
set_option maxRecDepth 100000 in
theorem x_first {w : WG} {I : SI} {L : SL} {n d r : Nat} (hw : XL w) (hI : XV I n d r) (c a : Int32) : Ok w mX4_first [.ref (gA w 0), .int c, .int a] I L (QX (spFirst I n d c a) L) := by
  obtain ⟨hn, hn4, hd, hd7, hr, hr9⟩ := id hI
  refine Ok.of (by decide) (Nat.le_of_ble_eq_true rfl) (fun X hX => ?_)
  refine g_aload_n hX dX4_first_0 rfl rfl ?_
  refine g_get4R hX 0 dX4_first_1 b_fl_X4_10 hw.k0 (by decide) hw.p0 ?_
  refine g_iload_n hX dX4_first_4 rfl rfl ?_
  refine g_callVp _ hX dX4_first_5 k_X4_94 ⟨by decide, by decide⟩ (by decide) hw.now.k0 rfl rfl (ok_hasMan hw.now _) rfl (Nat.le_of_ble_eq_true rfl) ?_
  refine g_if_eq (tgt := 20) hX dX4_first_8 (by decide) (fun c_8 => ?_) (fun c_8 => ?_)
  · refine g_aload_n hX dX4_first_20 rfl rfl ?_
    refine g_bipush (v := -2) hX dX4_first_21 (by decide) ?_
    refine g_callV _ hX dX4_first_23 k_X4_57 ⟨by decide, by decide⟩ (by decide) hw.k0 rfl rfl (ok_refuse_bad hw) rfl (Nat.le_of_ble_eq_true rfl) (fun r1 I1 L1 hq => ?_)
    obtain ⟨rfl, rfl, rfl⟩ := hq
    exact g_iret hX dX4_first_26 rfl (by rw [spFirst, if_pos (by intro z; first | exact b01_0 c_8 z.1 | exact b01_0 c_17 z.2)]; exact ⟨rfl, rfl, SmX.rf⟩)
  · refine g_iload_n hX dX4_first_11 rfl rfl ?_
    refine g_iconst (v := 0) hX dX4_first_12 (by decide) ?_
    refine g_iconst (v := 1) hX dX4_first_13 (by decide) ?_
    refine g_callSp _ hX dX4_first_14 k_X4_53 ⟨by decide, by decide⟩ rfl (ok_within _ _ _) rfl (Nat.le_of_ble_eq_true rfl) ?_
    refine g_if_ne (tgt := 27) hX dX4_first_17 (by decide) (fun c_17 => ?_) (fun c_17 => ?_)
    · obtain ⟨c, hc, rfl⟩ := ix (hn ▸ b01_n c_8) (by omega)
      have loop := loop_up (n := n - 1) (P := fun s => G X w mX4_first I L 50 (lvO [(0, .ref (gA w 0)), (1, .int (nI c)), (2, .int a), (3, .int (frX (wtX (vx I 1) n d (nI c) (I 1 2)) s).1), (4, .int (frX (wtX (vx I 1) n d (nI c) (I 1 2)) s).2), (5, .int (nI (s + 1)))]) []) (fun s hk ih => by
        refine g_iload hX dX4_first_50 rfl ?_
        refine g_aload_n hX dX4_first_52 rfl rfl ?_
        refine g_get4R hX 0 dX4_first_53 b_fl_X4_10 hw.k0 (by decide) hw.p0 ?_
        refine g_get3I hX 0 dX4_first_56 b_fl_X4_61 hw.now.k0 (by decide) ?_
        try simp (disch := decide) only [rS_ne, rS_eq]
        rw [hn]
        refine g_icmp_ge (tgt := 101) hX dX4_first_59 (by decide) (fun c_59 => ?_) (fun c_59 => ?_)
        · refine g_iload_n hX dX4_first_101 rfl rfl ?_
          refine g_if_ne (tgt := 109) hX dX4_first_102 (by decide) (fun c_102 => ?_) (fun c_102 => ?_)
          · refine g_iload hX dX4_first_109 rfl ?_
            exact g_iret hX dX4_first_111 rfl (by rw [spFirst, if_neg (fun z => z ⟨b01_n c_8, b01_n c_17⟩), ← show s = n - 1 by (have := nle c_59 (by omega) (by omega); omega), if_neg c_102]; exact ⟨rfl, rfl, SmX.rf⟩)
          · refine g_iload_n hX dX4_first_105 rfl rfl ?_
            refine g_goto (tgt := 111) hX dX4_first_106 (by decide) ?_
            exact g_iret hX dX4_first_111 rfl (by rw [spFirst, if_neg (fun z => z ⟨b01_n c_8, b01_n c_17⟩), ← show s = n - 1 by (have := nle c_59 (by omega) (by omega); omega), if_pos c_102]; exact ⟨rfl, rfl, SmX.rf⟩)
        · have hlt := nnle c_59 (by omega) (by omega)
          refine g_aload_n hX dX4_first_62 rfl rfl ?_
          refine g_get4R hX 0 dX4_first_63 b_fl_X4_10 hw.k0 (by decide) hw.p0 ?_
          refine g_iload_n hX dX4_first_66 rfl rfl ?_
          refine g_iload hX dX4_first_67 rfl ?_
          refine g_aload_n hX dX4_first_69 rfl rfl ?_
          refine g_get4R hX 0 dX4_first_70 b_fl_X4_10 hw.k0 (by decide) hw.p0 ?_
          refine g_get3I hX 2 dX4_first_73 b_fl_X4_121 hw.now.k0 (by decide) ?_
          try simp (disch := decide) only [rS_ne, rS_eq]
          refine g_callVp _ hX dX4_first_76 k_X4_171 ⟨by decide, by decide⟩ (by decide) hw.now.k0 rfl rfl (ok_widthTo (a := s + 1) hw.now hn hn4 hd hd7 (by omega) _ _) rfl (Nat.le_of_ble_eq_true rfl) ?_
          refine g_istore hX dX4_first_79 (by decide) ?_
          refine g_iload hX dX4_first_81 rfl ?_
          refine g_iload hX dX4_first_83 rfl ?_
          refine g_icmp_ge (tgt := 95) hX dX4_first_85 (by decide) (fun c_85 => ?_) (fun c_85 => ?_)
          · refine g_iinc hX dX4_first_95 rfl (d := 1) (by decide) ?_
            refine g_goto (tgt := 50) hX dX4_first_98 (by decide) ?_
            exact G.at (ih (by omega)) ⟨rfl, rfl, rfl, vI (by rw [frX, if_neg (show ¬ wtX (vx I 1) n d (nI c) (I 1 2) (s + 1) < _ from Int32.not_lt.mpr c_85)]), vI (by rw [frX, if_neg (show ¬ wtX (vx I 1) n d (nI c) (I 1 2) (s + 1) < _ from Int32.not_lt.mpr c_85)]), vI (nI_1 (s + 1)), trivial⟩
          · refine g_iload hX dX4_first_88 rfl ?_
            refine g_istore hX dX4_first_90 (by decide) ?_
            refine g_iload hX dX4_first_92 rfl ?_
            refine g_istore_n hX dX4_first_94 rfl (by decide) ?_
            refine g_iinc hX dX4_first_95 rfl (d := 1) (by decide) ?_
            refine g_goto (tgt := 50) hX dX4_first_98 (by decide) ?_
            exact G.at (ih (by omega)) ⟨rfl, rfl, rfl, vI (by rw [frX, if_pos (show wtX (vx I 1) n d (nI c) (I 1 2) (s + 1) < _ from Int32.not_le.mp c_85)]; try rfl), vI (by rw [frX, if_pos (show wtX (vx I 1) n d (nI c) (I 1 2) (s + 1) < _ from Int32.not_le.mp c_85)]; try rfl), vI (nI_1 (s + 1)), trivial⟩
        )
      refine g_iconst (v := 0) hX dX4_first_27 (by decide) ?_
      refine g_istore_n hX dX4_first_28 rfl (by decide) ?_
      refine g_aload_n hX dX4_first_29 rfl rfl ?_
      refine g_get4R hX 0 dX4_first_30 b_fl_X4_10 hw.k0 (by decide) hw.p0 ?_
      refine g_iload_n hX dX4_first_33 rfl rfl ?_
      refine g_iconst (v := 0) hX dX4_first_34 (by decide) ?_
      refine g_aload_n hX dX4_first_35 rfl rfl ?_
      refine g_get4R hX 0 dX4_first_36 b_fl_X4_10 hw.k0 (by decide) hw.p0 ?_
      refine g_get3I hX 2 dX4_first_39 b_fl_X4_121 hw.now.k0 (by decide) ?_
      try simp (disch := decide) only [rS_ne, rS_eq]
      refine g_callVp _ hX dX4_first_42 k_X4_171 ⟨by decide, by decide⟩ (by decide) hw.now.k0 rfl rfl (ok_widthTo (a := 0) hw.now hn hn4 hd hd7 (by omega) _ _) rfl (Nat.le_of_ble_eq_true rfl) ?_
      refine g_istore hX dX4_first_45 (by decide) ?_
      refine g_iconst (v := 1) hX dX4_first_47 (by decide) ?_
      refine g_istore hX dX4_first_48 (by decide) ?_
      exact G.at (loop 0 (Nat.zero_le _)) ⟨rfl, rfl, rfl, rfl, rfl, rfl, trivial⟩
    · refine g_aload_n hX dX4_first_20 rfl rfl ?_
      refine g_bipush (v := -2) hX dX4_first_21 (by decide) ?_
      refine g_callV _ hX dX4_first_23 k_X4_57 ⟨by decide, by decide⟩ (by decide) hw.k0 rfl rfl (ok_refuse_bad hw) rfl (Nat.le_of_ble_eq_true rfl) (fun r1 I1 L1 hq => ?_)
      obtain ⟨rfl, rfl, rfl⟩ := hq
      exact g_iret hX dX4_first_26 rfl (by rw [spFirst, if_pos (by intro z; first | exact b01_0 c_8 z.1 | exact b01_0 c_17 z.2)]; exact ⟨rfl, rfl, SmX.rf⟩)
def spX (W : Int32 → Int32) (x ev : Int32) : Nat → Int32 × Int32 × Int32
  | 0 => (0, ev, 0)
  | s + 1 => if W (nI s) = x then ((spX W x ev s).1 + 1, (spX W x ev s).2.1 &&& nI s, (spX W x ev s).2.2 ||| nI s) else spX W x ev s
def wsX (V : VS) (n d a : Nat) (c s : Int32) : Int32 := wtR (V 4) (V 5) (V 7) (V 1) n a c s d
def spSlept (I : SI) (n d : Nat) (q c x a : Int32) : Value × SI := if ¬ ((0 ≤ q ∧ q ≤ 99) ∧ (0 ≤ c ∧ c < I 1 0) ∧ (0 ≤ x ∧ x ≤ 200) ∧ (0 ≤ a ∧ a ≤ 2)) then (.int (-2), rfX I 6) else if a = 0 then (.int (spX (wsX (vx I 1) n d (stF n q.toNatClampNeg) c) x (nI (2 ^ d - 1)) (2 ^ d)).1, I) else if a = 1 then (.int (if (spX (wsX (vx I 1) n d (stF n q.toNatClampNeg) c) x (nI (2 ^ d - 1)) (2 ^ d)).1 = 0 then -1 else (spX (wsX (vx I 1) n d (stF n q.toNatClampNeg) c) x (nI (2 ^ d - 1)) (2 ^ d)).2.1), I) else (.int (spX (wsX (vx I 1) n d (stF n q.toNatClampNeg) c) x (nI (2 ^ d - 1)) (2 ^ d)).2.2, I)
set_option maxHeartbeats 4000000 in
set_option maxRecDepth 100000 in
theorem x_slept {w : WG} {I : SI} {L : SL} {n d r : Nat} (hw : XL w) (hI : XV I n d r) (q c x a : Int32) : Ok w mX4_slept [.ref (gA w 0), .int q, .int c, .int x, .int a] I L (QX (spSlept I n d q c x a) L) := by
  obtain ⟨hn, hn4, hd, hd7, hr, hr9⟩ := id hI
  refine Ok.of (by decide) (Nat.le_of_ble_eq_true rfl) (fun X hX => ?_)
  refine g_iload_n hX dX4_slept_0 rfl rfl ?_
  refine g_iconst (v := 0) hX dX4_slept_1 (by decide) ?_
  refine g_bipush (v := 99) hX dX4_slept_2 (by decide) ?_
  refine g_callSp _ hX dX4_slept_4 k_X4_53 ⟨by decide, by decide⟩ rfl (ok_within _ _ _) rfl (Nat.le_of_ble_eq_true rfl) ?_
  refine g_if_eq (tgt := 21) hX dX4_slept_7 (by decide) (fun c_7 => ?_) (fun c_7 => ?_)
  · refine g_aload_n hX dX4_slept_21 rfl rfl ?_
    refine g_bipush (v := -2) hX dX4_slept_22 (by decide) ?_
    refine g_callV _ hX dX4_slept_24 k_X4_57 ⟨by decide, by decide⟩ (by decide) hw.k0 rfl rfl (ok_refuse_bad hw) rfl (Nat.le_of_ble_eq_true rfl) (fun r1 I1 L1 hq => ?_)
    obtain ⟨rfl, rfl, rfl⟩ := hq
    exact g_iret hX dX4_slept_27 rfl (by rw [spSlept, if_pos (by intro z; first | exact b01_0 c_7 z.1 | exact b01_0 c_18 z.2.1 | exact b01_0 c_36 z.2.2.1 | exact b01_0 c_46 z.2.2.2)]; exact ⟨rfl, rfl, SmX.rf⟩)
  · refine g_aload_n hX dX4_slept_10 rfl rfl ?_
    refine g_get4R hX 0 dX4_slept_11 b_fl_X4_10 hw.k0 (by decide) hw.p0 ?_
    refine g_iload_n hX dX4_slept_14 rfl rfl ?_
    refine g_callVp _ hX dX4_slept_15 k_X4_94 ⟨by decide, by decide⟩ (by decide) hw.now.k0 rfl rfl (ok_hasMan hw.now _) rfl (Nat.le_of_ble_eq_true rfl) ?_
    refine g_if_ne (tgt := 28) hX dX4_slept_18 (by decide) (fun c_18 => ?_) (fun c_18 => ?_)
    · refine g_iload_n hX dX4_slept_28 rfl rfl ?_
      refine g_iconst (v := 0) hX dX4_slept_29 (by decide) ?_
      refine g_sipush (v := 200) hX dX4_slept_30 (by decide) ?_
      refine g_callSp _ hX dX4_slept_33 k_X4_53 ⟨by decide, by decide⟩ rfl (ok_within _ _ _) rfl (Nat.le_of_ble_eq_true rfl) ?_
      refine g_if_eq (tgt := 49) hX dX4_slept_36 (by decide) (fun c_36 => ?_) (fun c_36 => ?_)
      · refine g_aload_n hX dX4_slept_49 rfl rfl ?_
        refine g_bipush (v := -2) hX dX4_slept_50 (by decide) ?_
        refine g_callV _ hX dX4_slept_52 k_X4_57 ⟨by decide, by decide⟩ (by decide) hw.k0 rfl rfl (ok_refuse_bad hw) rfl (Nat.le_of_ble_eq_true rfl) (fun r1 I1 L1 hq => ?_)
        obtain ⟨rfl, rfl, rfl⟩ := hq
        exact g_iret hX dX4_slept_55 rfl (by rw [spSlept, if_pos (by intro z; first | exact b01_0 c_7 z.1 | exact b01_0 c_18 z.2.1 | exact b01_0 c_36 z.2.2.1 | exact b01_0 c_46 z.2.2.2)]; exact ⟨rfl, rfl, SmX.rf⟩)
      · refine g_iload hX dX4_slept_39 rfl ?_
        refine g_iconst (v := 0) hX dX4_slept_41 (by decide) ?_
        refine g_iconst (v := 2) hX dX4_slept_42 (by decide) ?_
        refine g_callSp _ hX dX4_slept_43 k_X4_53 ⟨by decide, by decide⟩ rfl (ok_within _ _ _) rfl (Nat.le_of_ble_eq_true rfl) ?_
        refine g_if_ne (tgt := 56) hX dX4_slept_46 (by decide) (fun c_46 => ?_) (fun c_46 => ?_)
        · obtain ⟨q, hq, rfl⟩ := ix2 (n := 99) rfl (by decide) (b01_n c_7)
          have hp2 : 2 ^ d ≤ 128 := Nat.pow_le_pow_right (by decide) hd7
          have hp0 : 0 < 2 ^ d := Nat.pow_pos (by decide)
          have hst : stF n q < 2000 := by unfold stF; split; omega; exact Nat.lt_of_le_of_lt (Nat.mod_le _ _) (by omega)
          have loop := loop_up (n := 2 ^ d) (P := fun s => G X w mX4_slept I L 88 (lvO [(0, .ref (gA w 0)), (2, .int c), (3, .int x), (4, .int a), (5, .int (nI (stF n q))), (6, .int (spX (wsX (vx I 1) n d (stF n q) c) x (nI (2 ^ d - 1)) s).1), (7, .int (nI (2 ^ d - 1))), (8, .int (spX (wsX (vx I 1) n d (stF n q) c) x (nI (2 ^ d - 1)) s).2.1), (9, .int (spX (wsX (vx I 1) n d (stF n q) c) x (nI (2 ^ d - 1)) s).2.2), (10, .int (nI s))]) []) (fun s hk ih => by
            refine g_iload hX dX4_slept_88 rfl ?_
            refine g_iload hX dX4_slept_90 rfl ?_
            refine g_icmp_gt (tgt := 134) hX dX4_slept_92 (by decide) (fun c_92 => ?_) (fun c_92 => ?_)
            · refine g_iload hX dX4_slept_134 rfl ?_
              refine g_if_ne (tgt := 142) hX dX4_slept_136 (by decide) (fun c_136 => ?_) (fun c_136 => ?_)
              · refine g_iload hX dX4_slept_142 rfl ?_
                refine g_iconst (v := 1) hX dX4_slept_144 (by decide) ?_
                refine g_icmp_ne (tgt := 160) hX dX4_slept_145 (by decide) (fun c_145 => ?_) (fun c_145 => ?_)
                · refine g_iload hX dX4_slept_160 rfl ?_
                  exact g_iret hX dX4_slept_162 rfl (by have es : s = 2 ^ d := (by have := nlt c_92 (by omega) (by omega); omega); subst es; rw [spSlept, if_neg (fun z => z ⟨b01_n c_7, b01_n c_18, b01_n c_36, b01_n c_46⟩), nI_clamp (by omega), if_neg c_136, if_neg c_145]; exact ⟨rfl, rfl, SmX.rf⟩)
                · refine g_iload hX dX4_slept_148 rfl ?_
                  refine g_if_ne (tgt := 157) hX dX4_slept_150 (by decide) (fun c_150 => ?_) (fun c_150 => ?_)
                  · refine g_iload hX dX4_slept_157 rfl ?_
                    exact g_iret hX dX4_slept_159 rfl (by have es : s = 2 ^ d := (by have := nlt c_92 (by omega) (by omega); omega); subst es; rw [spSlept, if_neg (fun z => z ⟨b01_n c_7, b01_n c_18, b01_n c_36, b01_n c_46⟩), nI_clamp (by omega), if_neg c_136, if_pos c_145, if_neg c_150]; exact ⟨rfl, rfl, SmX.rf⟩)
                  · refine g_iconst (v := -1) hX dX4_slept_153 (by decide) ?_
                    refine g_goto (tgt := 159) hX dX4_slept_154 (by decide) ?_
                    exact g_iret hX dX4_slept_159 rfl (by have es : s = 2 ^ d := (by have := nlt c_92 (by omega) (by omega); omega); subst es; rw [spSlept, if_neg (fun z => z ⟨b01_n c_7, b01_n c_18, b01_n c_36, b01_n c_46⟩), nI_clamp (by omega), if_neg c_136, if_pos c_145, if_pos c_150]; exact ⟨rfl, rfl, SmX.rf⟩)
              · refine g_iload hX dX4_slept_139 rfl ?_
                exact g_iret hX dX4_slept_141 rfl (by have es : s = 2 ^ d := (by have := nlt c_92 (by omega) (by omega); omega); subst es; rw [spSlept, if_neg (fun z => z ⟨b01_n c_7, b01_n c_18, b01_n c_36, b01_n c_46⟩), nI_clamp (by omega), if_pos c_136]; exact ⟨rfl, rfl, SmX.rf⟩)
            · have hlt : s < 2 ^ d := by have := nnlt c_92 (by omega) (by omega); omega
              refine g_aload_n hX dX4_slept_95 rfl rfl ?_
              refine g_get4R hX 0 dX4_slept_96 b_fl_X4_10 hw.k0 (by decide) hw.p0 ?_
              refine g_iload_n hX dX4_slept_99 rfl rfl ?_
              refine g_iload hX dX4_slept_100 rfl ?_
              refine g_iload hX dX4_slept_102 rfl ?_
              refine g_callVp _ hX dX4_slept_104 k_X4_171 ⟨by decide, by decide⟩ (by decide) hw.now.k0 rfl rfl (ok_widthTo hw.now hn hn4 hd hd7 hst _ _) rfl (Nat.le_of_ble_eq_true rfl) ?_
              refine g_iload_n hX dX4_slept_107 rfl rfl ?_
              refine g_icmp_ne (tgt := 128) hX dX4_slept_108 (by decide) (fun c_108 => ?_) (fun c_108 => ?_)
              · refine g_iinc hX dX4_slept_128 rfl (d := 1) (by decide) ?_
                refine g_goto (tgt := 88) hX dX4_slept_131 (by decide) ?_
                exact G.at (ih hlt) ⟨rfl, rfl, rfl, rfl, rfl, vI (by rw [spX, if_neg (show ¬ wsX (vx I 1) n d (stF n q) c (nI s) = x from c_108)]), rfl, vI (by rw [spX, if_neg (show ¬ wsX (vx I 1) n d (stF n q) c (nI s) = x from c_108)]), vI (by rw [spX, if_neg (show ¬ wsX (vx I 1) n d (stF n q) c (nI s) = x from c_108)]), vI (nI_1 s), trivial⟩
              · refine g_iinc hX dX4_slept_111 rfl (d := 1) (by decide) ?_
                refine g_iload hX dX4_slept_114 rfl ?_
                refine g_iload hX dX4_slept_116 rfl ?_
                refine g_iand hX dX4_slept_118 ?_
                refine g_istore hX dX4_slept_119 (by decide) ?_
                refine g_iload hX dX4_slept_121 rfl ?_
                refine g_iload hX dX4_slept_123 rfl ?_
                refine g_ior hX dX4_slept_125 ?_
                refine g_istore hX dX4_slept_126 (by decide) ?_
                refine g_iinc hX dX4_slept_128 rfl (d := 1) (by decide) ?_
                refine g_goto (tgt := 88) hX dX4_slept_131 (by decide) ?_
                exact G.at (ih hlt) ⟨rfl, rfl, rfl, rfl, rfl, vI (by rw [spX, if_pos (show wsX (vx I 1) n d (stF n q) c (nI s) = x from c_108)]; try rfl), rfl, vI (by rw [spX, if_pos (show wsX (vx I 1) n d (stF n q) c (nI s) = x from c_108)]; try rfl), vI (by rw [spX, if_pos (show wsX (vx I 1) n d (stF n q) c (nI s) = x from c_108)]; try rfl), vI (nI_1 s), trivial⟩
            )
          refine g_aload_n hX dX4_slept_56 rfl rfl ?_
          refine g_get4R hX 0 dX4_slept_57 b_fl_X4_10 hw.k0 (by decide) hw.p0 ?_
          refine g_iload_n hX dX4_slept_60 rfl rfl ?_
          refine g_callVp _ hX dX4_slept_61 k_X4_164 ⟨by decide, by decide⟩ (by decide) hw.now.k0 rfl rfl (ok_startOf (v := 1) hw.now hn hn4 (by omega)) rfl (Nat.le_of_ble_eq_true rfl) ?_
          refine g_istore hX dX4_slept_64 (by decide) ?_
          refine g_iconst (v := 0) hX dX4_slept_66 (by decide) ?_
          refine g_istore hX dX4_slept_67 (by decide) ?_
          refine g_aload_n hX dX4_slept_69 rfl rfl ?_
          refine g_get4R hX 0 dX4_slept_70 b_fl_X4_10 hw.k0 (by decide) hw.p0 ?_
          refine g_callVp _ hX dX4_slept_73 k_X4_181 ⟨by decide, by decide⟩ (by decide) hw.now.k0 rfl rfl (ok_everyDog hw.now) rfl (Nat.le_of_ble_eq_true rfl) ?_
          rw [hd, ev_n d hd7]
          refine g_istore hX dX4_slept_76 (by decide) ?_
          refine g_iload hX dX4_slept_78 rfl ?_
          refine g_istore hX dX4_slept_80 (by decide) ?_
          refine g_iconst (v := 0) hX dX4_slept_82 (by decide) ?_
          refine g_istore hX dX4_slept_83 (by decide) ?_
          refine g_iconst (v := 0) hX dX4_slept_85 (by decide) ?_
          refine g_istore hX dX4_slept_86 (by decide) ?_
          exact G.at (loop 0 (Nat.zero_le _)) ⟨rfl, rfl, rfl, rfl, rfl, rfl, rfl, rfl, rfl, rfl, trivial⟩
        · refine g_aload_n hX dX4_slept_49 rfl rfl ?_
          refine g_bipush (v := -2) hX dX4_slept_50 (by decide) ?_
          refine g_callV _ hX dX4_slept_52 k_X4_57 ⟨by decide, by decide⟩ (by decide) hw.k0 rfl rfl (ok_refuse_bad hw) rfl (Nat.le_of_ble_eq_true rfl) (fun r1 I1 L1 hq => ?_)
          obtain ⟨rfl, rfl, rfl⟩ := hq
          exact g_iret hX dX4_slept_55 rfl (by rw [spSlept, if_pos (by intro z; first | exact b01_0 c_7 z.1 | exact b01_0 c_18 z.2.1 | exact b01_0 c_36 z.2.2.1 | exact b01_0 c_46 z.2.2.2)]; exact ⟨rfl, rfl, SmX.rf⟩)
    · refine g_aload_n hX dX4_slept_21 rfl rfl ?_
      refine g_bipush (v := -2) hX dX4_slept_22 (by decide) ?_
      refine g_callV _ hX dX4_slept_24 k_X4_57 ⟨by decide, by decide⟩ (by decide) hw.k0 rfl rfl (ok_refuse_bad hw) rfl (Nat.le_of_ble_eq_true rfl) (fun r1 I1 L1 hq => ?_)
      obtain ⟨rfl, rfl, rfl⟩ := hq
      exact g_iret hX dX4_slept_27 rfl (by rw [spSlept, if_pos (by intro z; first | exact b01_0 c_7 z.1 | exact b01_0 c_18 z.2.1 | exact b01_0 c_36 z.2.2.1 | exact b01_0 c_46 z.2.2.2)]; exact ⟨rfl, rfl, SmX.rf⟩)
