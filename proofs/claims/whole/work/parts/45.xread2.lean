/-- a reader stands at N, over the text and the spare village -/
def RDL (w : WG) (N : Nat) : Prop := ((gK w)[N]? = some (0, 0) ∧ 27 ≤ N) ∧ gP w N 0 = some (gA w 22) ∧ gP w N 1 = some (gA w 11) ∧ TL w 22 ∧ VL w 11
theorem RDL.k0 {w : WG} {N : Nat} (h : RDL w N) : (gK w)[N]? = some (0, 0) := h.1.1
theorem RDL.hN {w : WG} {N : Nat} (h : RDL w N) : 27 ≤ N := h.1.2
theorem RDL.p0 {w : WG} {N : Nat} (h : RDL w N) : gP w N 0 = some (gA w 22) := h.2.1
theorem RDL.p1 {w : WG} {N : Nat} (h : RDL w N) : gP w N 1 = some (gA w 11) := h.2.2.1
theorem RDL.text {w : WG} {N : Nat} (h : RDL w N) : TL w 22 := h.2.2.2.1
theorem RDL.into {w : WG} {N : Nat} (h : RDL w N) : VL w 11 := h.2.2.2.2
theorem tat_lt {T : Nat → Int32} {m a : Nat} (h : a < m) (hm : m ≤ 150) : tatF T m (nI a) = T a := by
  rw [tatF, if_pos ⟨nI_pos' (by omega), (nI_ltI (by omega) (by omega)).mpr h⟩, nI_clamp (by omega)]
theorem isF_nL {c : Int32} (h : isL c) : ¬ isF c := fun z => absurd (Int32.le_trans h.1 z.2) (by decide)
set_option maxHeartbeats 4000000 in
set_option maxRecDepth 100000 in
theorem ok_isL {w : WG} {I : SI} {L : SL} (c : Int32) : Ok w mX1_isLetter [.int c] I L (Pr (.int (b01 (isL c))) I L) := by
  refine Ok.of (by decide) (Nat.le_of_ble_eq_true rfl) (fun X hX => ?_)
  refine g_iload_n hX dX1_isLetter_0 rfl rfl ?_
  refine g_bipush (v := 97) hX dX1_isLetter_1 (by decide) ?_
  refine g_icmp_lt (tgt := 16) hX dX1_isLetter_3 (by decide) (fun c_3 => ?_) (fun c_3 => ?_)
  · refine g_iconst (v := 0) hX dX1_isLetter_16 (by decide) ?_
    exact g_zret hX dX1_isLetter_17 rfl rfl (by rw [show b01 (isL c) = (0 : Int32) from if_neg (fun z => absurd z.1 (Int32.not_le.mpr c_3))]; exact ⟨rfl, rfl, rfl⟩)
  · refine g_iload_n hX dX1_isLetter_6 rfl rfl ?_
    refine g_bipush (v := 122) hX dX1_isLetter_7 (by decide) ?_
    refine g_icmp_gt (tgt := 16) hX dX1_isLetter_9 (by decide) (fun c_9 => ?_) (fun c_9 => ?_)
    · refine g_iconst (v := 0) hX dX1_isLetter_16 (by decide) ?_
      exact g_zret hX dX1_isLetter_17 rfl rfl (by rw [show b01 (isL c) = (0 : Int32) from if_neg (fun z => absurd z.2 (Int32.not_le.mpr c_9))]; exact ⟨rfl, rfl, rfl⟩)
    · refine g_iconst (v := 1) hX dX1_isLetter_12 (by decide) ?_
      refine g_goto (tgt := 17) hX dX1_isLetter_13 (by decide) ?_
      exact g_zret hX dX1_isLetter_17 rfl rfl (by rw [show b01 (isL c) = (1 : Int32) from if_pos ⟨Int32.not_lt.mp c_3, Int32.not_lt.mp c_9⟩]; exact ⟨rfl, rfl, rfl⟩)
set_option maxHeartbeats 4000000 in
set_option maxRecDepth 100000 in
theorem ok_isF {w : WG} {I : SI} {L : SL} (c : Int32) : Ok w mX1_isFigure [.int c] I L (Pr (.int (b01 (isF c))) I L) := by
  refine Ok.of (by decide) (Nat.le_of_ble_eq_true rfl) (fun X hX => ?_)
  refine g_iload_n hX dX1_isFigure_0 rfl rfl ?_
  refine g_bipush (v := 48) hX dX1_isFigure_1 (by decide) ?_
  refine g_icmp_lt (tgt := 16) hX dX1_isFigure_3 (by decide) (fun c_3 => ?_) (fun c_3 => ?_)
  · refine g_iconst (v := 0) hX dX1_isFigure_16 (by decide) ?_
    exact g_zret hX dX1_isFigure_17 rfl rfl (by rw [show b01 (isF c) = (0 : Int32) from if_neg (fun z => absurd z.1 (Int32.not_le.mpr c_3))]; exact ⟨rfl, rfl, rfl⟩)
  · refine g_iload_n hX dX1_isFigure_6 rfl rfl ?_
    refine g_bipush (v := 57) hX dX1_isFigure_7 (by decide) ?_
    refine g_icmp_gt (tgt := 16) hX dX1_isFigure_9 (by decide) (fun c_9 => ?_) (fun c_9 => ?_)
    · refine g_iconst (v := 0) hX dX1_isFigure_16 (by decide) ?_
      exact g_zret hX dX1_isFigure_17 rfl rfl (by rw [show b01 (isF c) = (0 : Int32) from if_neg (fun z => absurd z.2 (Int32.not_le.mpr c_9))]; exact ⟨rfl, rfl, rfl⟩)
    · refine g_iconst (v := 1) hX dX1_isFigure_12 (by decide) ?_
      refine g_goto (tgt := 17) hX dX1_isFigure_13 (by decide) ?_
      exact g_zret hX dX1_isFigure_17 rfl rfl (by rw [show b01 (isF c) = (1 : Int32) from if_pos ⟨Int32.not_lt.mp c_3, Int32.not_lt.mp c_9⟩]; exact ⟨rfl, rfl, rfl⟩)
/-- what takeNumber leaves -/
def TkN (T : Nat → Int32) (m s : Nat) (R : Nat → Int32) : Prop := R 3 = nI s ∧ R 4 = nI (fg T m s) ∧ R 5 = nv T s (fg T m s) ∧ R 2 = if fg T m s - s ≤ 2 then 2 else 4
theorem nv_1 {T : Nat → Int32} {s : Nat} : nv T s (s + 1) = T s - 48 := if_pos (Nat.le_refl _)
theorem nv_2 {T : Nat → Int32} {s : Nat} : nv T s (s + 1 + 1) = 10 * nv T s (s + 1) + T (s + 1) - 48 := by
  rw [nv_1, nv, if_neg (by omega)]
theorem nv_3 {T : Nat → Int32} {s b : Nat} (h : s + 2 ≤ b) : nv T s (b + 1) = nv T s b := by
  rw [nv, nv, if_neg (by omega), if_neg (by omega)]
set_option maxHeartbeats 4000000 in
set_option maxRecDepth 100000 in
theorem ok_takeNumber {w : WG} {I : SI} {L : SL} {N m s : Nat} {R : Nat → Int32} (hR : RDL w N) (ht : I 22 1 = nI m) (hm : m ≤ 150) (hs : s < m) (hf : isF (I 23 s)) (h3 : R 3 = nI s) (h4 : R 4 = nI (s + 1)) : Ok w mX1_takeNumber [.ref (gA w N), .int (I 23 s - 48)] (rS I N R) L (fun r I1 L1 => r = none ∧ L1 = L ∧ ∃ R1, I1 = rS I N R1 ∧ TkN (I 23) m s R1) := by
  refine Ok.of (by decide) (Nat.le_of_ble_eq_true rfl) (fun X hX => ?_)
  have hN := hR.hN
  have loop := loop_up (n := m) (P := fun b => ∀ R, s + 1 ≤ b → fg (I 23) m b = fg (I 23) m s → R 3 = nI s → R 4 = nI b → R 5 = nv (I 23) s b → G X w mX1_takeNumber (rS I N R) L 5 (lvO [(0, .ref (gA w N))]) []) (fun b hb ih R hsb he h3 h4 h5 => by
    refine g_aload_n hX dX1_takeNumber_5 rfl rfl ?_
    refine g_get1I hX 4 dX1_takeNumber_6 b_fl_X1_87 hR.k0 (by decide) ?_
    try simp (disch := omega) only [rS_eq, rS_ne, rS_rS, pk_us, pk_un]
    rw [h4]
    refine g_aload_n hX dX1_takeNumber_9 rfl rfl ?_
    refine g_get1R hX 0 dX1_takeNumber_10 b_fl_X1_9 hR.k0 (by decide) hR.p0 ?_
    refine g_get2I hX 1 dX1_takeNumber_13 b_fl_X1_108 hR.text.k0 (by decide) ?_
    try simp (disch := omega) only [rS_eq, rS_ne, rS_rS, pk_us, pk_un]
    rw [ht]
    refine g_icmp_ge (tgt := 88) hX dX1_takeNumber_16 (by decide) (fun c_16 => ?_) (fun c_16 => ?_)
    · refine g_aload_n hX dX1_takeNumber_88 rfl rfl ?_
      refine g_aload_n hX dX1_takeNumber_89 rfl rfl ?_
      refine g_get1I hX 4 dX1_takeNumber_90 b_fl_X1_87 hR.k0 (by decide) ?_
      try simp (disch := omega) only [rS_eq, rS_ne, rS_rS, pk_us, pk_un]
      rw [h4]
      refine g_aload_n hX dX1_takeNumber_93 rfl rfl ?_
      refine g_get1I hX 3 dX1_takeNumber_94 b_fl_X1_90 hR.k0 (by decide) ?_
      try simp (disch := omega) only [rS_eq, rS_ne, rS_rS, pk_us, pk_un]
      rw [h3]
      refine g_isub hX dX1_takeNumber_97 ?_
      rw [pk_sub (by omega)]
      refine g_iconst (v := 2) hX dX1_takeNumber_98 (by decide) ?_
      rw [show (2 : Int32) = nI 2 from rfl]
      refine g_icmp_gt (tgt := 106) hX dX1_takeNumber_99 (by decide) (fun c_99 => ?_) (fun c_99 => ?_)
      · refine g_iconst (v := 4) hX dX1_takeNumber_106 (by decide) ?_
        refine g_put1I hX 2 dX1_takeNumber_107 b_fl_X1_37 hR.k0 pf1_2 ?_
        try simp (disch := omega) only [rS_eq, rS_ne, rS_rS, pk_us, pk_un]
        exact g_vret hX dX1_takeNumber_110 rfl (by have eb : fg (I 23) m s = b := he.symm.trans (rU_stop (nle c_16 (by omega) (by omega))); refine ⟨rfl, rfl, _, rfl, ?_⟩; unfold TkN; rw [eb]; simp (disch := decide) only [pk_us, pk_un]; exact ⟨h3, h4, h5, (if_neg (by have := nlt c_99 (by omega) (by omega); omega)).symm⟩)
      · refine g_iconst (v := 2) hX dX1_takeNumber_102 (by decide) ?_
        refine g_goto (tgt := 107) hX dX1_takeNumber_103 (by decide) ?_
        refine g_put1I hX 2 dX1_takeNumber_107 b_fl_X1_37 hR.k0 pf1_2 ?_
        try simp (disch := omega) only [rS_eq, rS_ne, rS_rS, pk_us, pk_un]
        exact g_vret hX dX1_takeNumber_110 rfl (by have eb : fg (I 23) m s = b := he.symm.trans (rU_stop (nle c_16 (by omega) (by omega))); refine ⟨rfl, rfl, _, rfl, ?_⟩; unfold TkN; rw [eb]; simp (disch := decide) only [pk_us, pk_un]; exact ⟨h3, h4, h5, (if_pos (by have := nnlt c_99 (by omega) (by omega); omega)).symm⟩)
    · have hlt := nnle c_16 (by omega) (by omega)
      refine g_aload_n hX dX1_takeNumber_19 rfl rfl ?_
      refine g_get1R hX 0 dX1_takeNumber_20 b_fl_X1_9 hR.k0 (by decide) hR.p0 ?_
      refine g_aload_n hX dX1_takeNumber_23 rfl rfl ?_
      refine g_get1I hX 4 dX1_takeNumber_24 b_fl_X1_87 hR.k0 (by decide) ?_
      try simp (disch := omega) only [rS_eq, rS_ne, rS_rS, pk_us, pk_un]
      rw [h4]
      refine g_callVp _ hX dX1_takeNumber_27 k_X1_99 ⟨by decide, by decide⟩ (by decide) hR.text.k0 rfl rfl (ok_tat hR.text (m := m) (by simp (disch := omega) only [rS_ne]; exact ht) hm _) rfl (Nat.le_of_ble_eq_true rfl) ?_
      simp (disch := omega) only [rS_ne]
      rw [tat_lt (by omega) hm]
      refine g_callSp _ hX dX1_takeNumber_30 k_X1_114 ⟨by decide, by decide⟩ rfl (ok_isF _) rfl (Nat.le_of_ble_eq_true rfl) ?_
      refine g_if_eq (tgt := 88) hX dX1_takeNumber_33 (by decide) (fun c_33 => ?_) (fun c_33 => ?_)
      · refine g_aload_n hX dX1_takeNumber_88 rfl rfl ?_
        refine g_aload_n hX dX1_takeNumber_89 rfl rfl ?_
        refine g_get1I hX 4 dX1_takeNumber_90 b_fl_X1_87 hR.k0 (by decide) ?_
        try simp (disch := omega) only [rS_eq, rS_ne, rS_rS, pk_us, pk_un]
        rw [h4]
        refine g_aload_n hX dX1_takeNumber_93 rfl rfl ?_
        refine g_get1I hX 3 dX1_takeNumber_94 b_fl_X1_90 hR.k0 (by decide) ?_
        try simp (disch := omega) only [rS_eq, rS_ne, rS_rS, pk_us, pk_un]
        rw [h3]
        refine g_isub hX dX1_takeNumber_97 ?_
        rw [pk_sub (by omega)]
        refine g_iconst (v := 2) hX dX1_takeNumber_98 (by decide) ?_
        rw [show (2 : Int32) = nI 2 from rfl]
        refine g_icmp_gt (tgt := 106) hX dX1_takeNumber_99 (by decide) (fun c_99 => ?_) (fun c_99 => ?_)
        · refine g_iconst (v := 4) hX dX1_takeNumber_106 (by decide) ?_
          refine g_put1I hX 2 dX1_takeNumber_107 b_fl_X1_37 hR.k0 pf1_2 ?_
          try simp (disch := omega) only [rS_eq, rS_ne, rS_rS, pk_us, pk_un]
          exact g_vret hX dX1_takeNumber_110 rfl (by have eb : fg (I 23) m s = b := he.symm.trans (rU_no (b01_0 c_33)); refine ⟨rfl, rfl, _, rfl, ?_⟩; unfold TkN; rw [eb]; simp (disch := decide) only [pk_us, pk_un]; exact ⟨h3, h4, h5, (if_neg (by have := nlt c_99 (by omega) (by omega); omega)).symm⟩)
        · refine g_iconst (v := 2) hX dX1_takeNumber_102 (by decide) ?_
          refine g_goto (tgt := 107) hX dX1_takeNumber_103 (by decide) ?_
          refine g_put1I hX 2 dX1_takeNumber_107 b_fl_X1_37 hR.k0 pf1_2 ?_
          try simp (disch := omega) only [rS_eq, rS_ne, rS_rS, pk_us, pk_un]
          exact g_vret hX dX1_takeNumber_110 rfl (by have eb : fg (I 23) m s = b := he.symm.trans (rU_no (b01_0 c_33)); refine ⟨rfl, rfl, _, rfl, ?_⟩; unfold TkN; rw [eb]; simp (disch := decide) only [pk_us, pk_un]; exact ⟨h3, h4, h5, (if_pos (by have := nnlt c_99 (by omega) (by omega); omega)).symm⟩)
      · refine g_aload_n hX dX1_takeNumber_36 rfl rfl ?_
        refine g_get1I hX 4 dX1_takeNumber_37 b_fl_X1_87 hR.k0 (by decide) ?_
        try simp (disch := omega) only [rS_eq, rS_ne, rS_rS, pk_us, pk_un]
        rw [h4]
        refine g_aload_n hX dX1_takeNumber_40 rfl rfl ?_
        refine g_get1I hX 3 dX1_takeNumber_41 b_fl_X1_90 hR.k0 (by decide) ?_
        try simp (disch := omega) only [rS_eq, rS_ne, rS_rS, pk_us, pk_un]
        rw [h3]
        refine g_isub hX dX1_takeNumber_44 ?_
        rw [pk_sub (by omega)]
        refine g_iconst (v := 2) hX dX1_takeNumber_45 (by decide) ?_
        rw [show (2 : Int32) = nI 2 from rfl]
        refine g_icmp_ge (tgt := 75) hX dX1_takeNumber_46 (by decide) (fun c_46 => ?_) (fun c_46 => ?_)
        · refine g_aload_n hX dX1_takeNumber_75 rfl rfl ?_
          refine g_dup hX dX1_takeNumber_76 rfl ?_
          refine g_get1I hX 4 dX1_takeNumber_77 b_fl_X1_87 hR.k0 (by decide) ?_
          try simp (disch := omega) only [rS_eq, rS_ne, rS_rS, pk_us, pk_un]
          rw [h4]
          refine g_iconst (v := 1) hX dX1_takeNumber_80 (by decide) ?_
          refine g_iadd hX dX1_takeNumber_81 ?_
          refine g_put1I hX 4 dX1_takeNumber_82 b_fl_X1_87 hR.k0 pf1_4 ?_
          try simp (disch := omega) only [rS_eq, rS_ne, rS_rS, pk_us, pk_un]
          refine g_goto (tgt := 5) hX dX1_takeNumber_85 (by decide) ?_
          exact G.at (ih hlt _ (by omega) (by exact (rU_yes hlt (b01_n c_33)).symm.trans he) (by simp (disch := decide) only [pk_us, pk_un]; exact h3) (by simp (disch := decide) only [pk_us, pk_un]; exact nI_1 _) (by simp (disch := decide) only [pk_us, pk_un]; rw [h5]; exact (nv_3 (by have := nle c_46 (by omega) (by omega); omega)).symm)) ⟨rfl, trivial⟩
        · have h46 := nnle c_46 (by omega) (by omega)
          refine g_aload_n hX dX1_takeNumber_49 rfl rfl ?_
          refine g_bipush (v := 10) hX dX1_takeNumber_50 (by decide) ?_
          refine g_aload_n hX dX1_takeNumber_52 rfl rfl ?_
          refine g_get1I hX 5 dX1_takeNumber_53 b_fl_X1_66 hR.k0 (by decide) ?_
          try simp (disch := omega) only [rS_eq, rS_ne, rS_rS, pk_us, pk_un]
          rw [h5]
          refine g_imul hX dX1_takeNumber_56 ?_
          refine g_aload_n hX dX1_takeNumber_57 rfl rfl ?_
          refine g_get1R hX 0 dX1_takeNumber_58 b_fl_X1_9 hR.k0 (by decide) hR.p0 ?_
          refine g_aload_n hX dX1_takeNumber_61 rfl rfl ?_
          refine g_get1I hX 4 dX1_takeNumber_62 b_fl_X1_87 hR.k0 (by decide) ?_
          try simp (disch := omega) only [rS_eq, rS_ne, rS_rS, pk_us, pk_un]
          rw [h4]
          refine g_callVp _ hX dX1_takeNumber_65 k_X1_99 ⟨by decide, by decide⟩ (by decide) hR.text.k0 rfl rfl (ok_tat hR.text (m := m) (by simp (disch := omega) only [rS_ne]; exact ht) hm _) rfl (Nat.le_of_ble_eq_true rfl) ?_
          simp (disch := omega) only [rS_ne]
          rw [tat_lt (by omega) hm]
          refine g_iadd hX dX1_takeNumber_68 ?_
          refine g_bipush (v := 48) hX dX1_takeNumber_69 (by decide) ?_
          refine g_isub hX dX1_takeNumber_71 ?_
          refine g_put1I hX 5 dX1_takeNumber_72 b_fl_X1_66 hR.k0 pf1_5 ?_
          try simp (disch := omega) only [rS_eq, rS_ne, rS_rS, pk_us, pk_un]
          refine g_aload_n hX dX1_takeNumber_75 rfl rfl ?_
          refine g_dup hX dX1_takeNumber_76 rfl ?_
          refine g_get1I hX 4 dX1_takeNumber_77 b_fl_X1_87 hR.k0 (by decide) ?_
          try simp (disch := omega) only [rS_eq, rS_ne, rS_rS, pk_us, pk_un]
          rw [h4]
          refine g_iconst (v := 1) hX dX1_takeNumber_80 (by decide) ?_
          refine g_iadd hX dX1_takeNumber_81 ?_
          refine g_put1I hX 4 dX1_takeNumber_82 b_fl_X1_87 hR.k0 pf1_4 ?_
          try simp (disch := omega) only [rS_eq, rS_ne, rS_rS, pk_us, pk_un]
          refine g_goto (tgt := 5) hX dX1_takeNumber_85 (by decide) ?_
          exact G.at (ih hlt _ (by omega) (by exact (rU_yes hlt (b01_n c_33)).symm.trans he) (by simp (disch := decide) only [pk_us, pk_un]; exact h3) (by simp (disch := decide) only [pk_us, pk_un]; exact nI_1 _) (by have eb : b = s + 1 := (by omega); subst eb; simp (disch := decide) only [pk_us, pk_un]; exact nv_2.symm)) ⟨rfl, trivial⟩
    )
  refine g_aload_n hX dX1_takeNumber_0 rfl rfl ?_
  refine g_iload_n hX dX1_takeNumber_1 rfl rfl ?_
  refine g_put1I hX 5 dX1_takeNumber_2 b_fl_X1_66 hR.k0 pf1_5 ?_
  try simp (disch := omega) only [rS_eq, rS_ne, rS_rS, pk_us, pk_un]
  exact G.at (loop (s + 1) (by omega) _ (Nat.le_refl _) (rU_yes hs hf).symm (by simp (disch := decide) only [pk_us, pk_un]; exact h3) (by simp (disch := decide) only [pk_us, pk_un]; exact h4) (by simp (disch := decide) only [pk_us, pk_un]; exact nv_1.symm)) ⟨rfl, trivial⟩
