def tE (T : Nat → Int32) (m s : Nat) : Nat := if m ≤ s then s else if isL (T s) then wl T m s else if isF (T s) then fg T m s else s + 1
def tS (T : Nat → Int32) (m s : Nat) : Int32 := if m ≤ s then 0 else if isL (T s) then 1 else if isF (T s) then (if fg T m s - s ≤ 2 then 2 else 4) else if T s = 59 then 3 else 4
/-- what next leaves, the token's first place being s -/
def TkP (T : Nat → Int32) (m s : Nat) (R : Nat → Int32) : Prop := R 3 = nI s ∧ R 4 = nI (tE T m s) ∧ R 2 = tS T m s ∧ (s < m → isF (T s) → R 5 = nv T s (fg T m s))
set_option maxHeartbeats 4000000 in
set_option maxRecDepth 100000 in
theorem ok_next {w : WG} {I : SI} {L : SL} {N m b0 : Nat} {R : Nat → Int32} (hR : RDL w N) (ht : I 22 1 = nI m) (hm : m ≤ 150) (hb0 : b0 ≤ m) (h4 : R 4 = nI b0) : Ok w mX1_next [.ref (gA w N)] (rS I N R) L (fun r I1 L1 => r = none ∧ L1 = L ∧ ∃ R1, I1 = rS I N R1 ∧ TkP (I 23) m (sk (I 23) m b0) R1) := by
  refine Ok.of (by decide) (Nat.le_of_ble_eq_true rfl) (fun X hX => ?_)
  have hN := hR.hN
  have loop2 := fun (s : Nat) (hs : s < m) (hl : isL (I 23 s)) => loop_up (n := m) (P := fun b => ∀ R, s + 1 ≤ b → wl (I 23) m b = wl (I 23) m s → R 3 = nI s → R 2 = 1 → R 4 = nI b → s = sk (I 23) m b0 → G X w mX1_next (rS I N R) L 113 (lvO [(0, .ref (gA w N))]) []) (fun b hb ih R hsb he h3 h2 h4 es => by
    refine g_aload_n hX dX1_next_113 rfl rfl ?_
    refine g_get1I hX 4 dX1_next_114 b_fl_X1_87 hR.k0 (by decide) ?_
    try simp (disch := omega) only [rS_eq, rS_ne, rS_rS, pk_us, pk_un]
    rw [h4]
    refine g_aload_n hX dX1_next_117 rfl rfl ?_
    refine g_get1R hX 0 dX1_next_118 b_fl_X1_9 hR.k0 (by decide) hR.p0 ?_
    refine g_get2I hX 1 dX1_next_121 b_fl_X1_108 hR.text.k0 (by decide) ?_
    try simp (disch := omega) only [rS_eq, rS_ne, rS_rS, pk_us, pk_un]
    rw [ht]
    refine g_icmp_ge (tgt := 190) hX dX1_next_124 (by decide) (fun c_124 => ?_) (fun c_124 => ?_)
    · exact g_vret hX dX1_next_190 rfl (by have eb : wl (I 23) m s = b := he.symm.trans (rU_stop (nle c_124 (by omega) (by omega))); rw [← es]; exact ⟨rfl, rfl, _, rfl, h3, by rw [tE, if_neg (by omega), if_pos hl, eb]; exact h4, by rw [tS, if_neg (by omega), if_pos hl]; exact h2, fun _ z => absurd z (isF_nL hl)⟩)
    · have hlt := nnle c_124 (by omega) (by omega)
      refine g_aload_n hX dX1_next_127 rfl rfl ?_
      refine g_get1R hX 0 dX1_next_128 b_fl_X1_9 hR.k0 (by decide) hR.p0 ?_
      refine g_aload_n hX dX1_next_131 rfl rfl ?_
      refine g_get1I hX 4 dX1_next_132 b_fl_X1_87 hR.k0 (by decide) ?_
      try simp (disch := omega) only [rS_eq, rS_ne, rS_rS, pk_us, pk_un]
      rw [h4]
      refine g_callVp _ hX dX1_next_135 k_X1_99 ⟨by decide, by decide⟩ (by decide) hR.text.k0 rfl rfl (ok_tat hR.text (m := m) (by simp (disch := omega) only [rS_ne]; exact ht) hm _) rfl (Nat.le_of_ble_eq_true rfl) ?_
      simp (disch := omega) only [rS_ne]
      rw [tat_lt (by omega) hm]
      refine g_callSp _ hX dX1_next_138 k_X1_110 ⟨by decide, by decide⟩ rfl (ok_isL _) rfl (Nat.le_of_ble_eq_true rfl) ?_
      refine g_if_eq (tgt := 190) hX dX1_next_141 (by decide) (fun c_141 => ?_) (fun c_141 => ?_)
      · exact g_vret hX dX1_next_190 rfl (by have eb : wl (I 23) m s = b := he.symm.trans (rU_no (b01_0 c_141)); rw [← es]; exact ⟨rfl, rfl, _, rfl, h3, by rw [tE, if_neg (by omega), if_pos hl, eb]; exact h4, by rw [tS, if_neg (by omega), if_pos hl]; exact h2, fun _ z => absurd z (isF_nL hl)⟩)
      · refine g_aload_n hX dX1_next_144 rfl rfl ?_
        refine g_dup hX dX1_next_145 rfl ?_
        refine g_get1I hX 4 dX1_next_146 b_fl_X1_87 hR.k0 (by decide) ?_
        try simp (disch := omega) only [rS_eq, rS_ne, rS_rS, pk_us, pk_un]
        rw [h4]
        refine g_iconst (v := 1) hX dX1_next_149 (by decide) ?_
        refine g_iadd hX dX1_next_150 ?_
        refine g_put1I hX 4 dX1_next_151 b_fl_X1_87 hR.k0 pf1_4 ?_
        try simp (disch := omega) only [rS_eq, rS_ne, rS_rS, pk_us, pk_un]
        refine g_goto (tgt := 113) hX dX1_next_154 (by decide) ?_
        exact G.at (ih hlt _ (by omega) ((rU_yes hlt (b01_n c_141)).symm.trans he) (by simp (disch := decide) only [pk_us, pk_un]; exact h3) (by simp (disch := decide) only [pk_us, pk_un]; exact h2) (by simp (disch := decide) only [pk_us, pk_un]; exact nI_1 _) es) ⟨rfl, trivial⟩
    )
  have tail : ∀ (s : Nat) (R : Nat → Int32), s ≤ m → s = sk (I 23) m b0 → R 3 = nI s → G X w mX1_next (rS I N R) L 51 (lvO [(0, .ref (gA w N))]) [] := by
    intro s R hsm es h3
    refine g_aload_n hX dX1_next_51 rfl rfl ?_
    refine g_aload_n hX dX1_next_52 rfl rfl ?_
    refine g_get1I hX 3 dX1_next_53 b_fl_X1_90 hR.k0 (by decide) ?_
    try simp (disch := omega) only [rS_eq, rS_ne, rS_rS, pk_us, pk_un]
    rw [h3]
    refine g_put1I hX 4 dX1_next_56 b_fl_X1_87 hR.k0 pf1_4 ?_
    try simp (disch := omega) only [rS_eq, rS_ne, rS_rS, pk_us, pk_un]
    refine g_aload_n hX dX1_next_59 rfl rfl ?_
    refine g_get1I hX 3 dX1_next_60 b_fl_X1_90 hR.k0 (by decide) ?_
    try simp (disch := omega) only [rS_eq, rS_ne, rS_rS, pk_us, pk_un]
    rw [h3]
    refine g_aload_n hX dX1_next_63 rfl rfl ?_
    refine g_get1R hX 0 dX1_next_64 b_fl_X1_9 hR.k0 (by decide) hR.p0 ?_
    refine g_get2I hX 1 dX1_next_67 b_fl_X1_108 hR.text.k0 (by decide) ?_
    try simp (disch := omega) only [rS_eq, rS_ne, rS_rS, pk_us, pk_un]
    rw [ht]
    refine g_icmp_lt (tgt := 79) hX dX1_next_70 (by decide) (fun c_70 => ?_) (fun c_70 => ?_)
    · have hs := nlt c_70 (by omega) (by omega)
      refine g_aload_n hX dX1_next_79 rfl rfl ?_
      refine g_aload_n hX dX1_next_80 rfl rfl ?_
      refine g_get1I hX 3 dX1_next_81 b_fl_X1_90 hR.k0 (by decide) ?_
      try simp (disch := omega) only [rS_eq, rS_ne, rS_rS, pk_us, pk_un]
      rw [h3]
      refine g_iconst (v := 1) hX dX1_next_84 (by decide) ?_
      refine g_iadd hX dX1_next_85 ?_
      refine g_put1I hX 4 dX1_next_86 b_fl_X1_87 hR.k0 pf1_4 ?_
      try simp (disch := omega) only [rS_eq, rS_ne, rS_rS, pk_us, pk_un]
      refine g_aload_n hX dX1_next_89 rfl rfl ?_
      refine g_get1R hX 0 dX1_next_90 b_fl_X1_9 hR.k0 (by decide) hR.p0 ?_
      refine g_aload_n hX dX1_next_93 rfl rfl ?_
      refine g_get1I hX 3 dX1_next_94 b_fl_X1_90 hR.k0 (by decide) ?_
      try simp (disch := omega) only [rS_eq, rS_ne, rS_rS, pk_us, pk_un]
      rw [h3]
      refine g_callVp _ hX dX1_next_97 k_X1_99 ⟨by decide, by decide⟩ (by decide) hR.text.k0 rfl rfl (ok_tat hR.text (m := m) (by simp (disch := omega) only [rS_ne]; exact ht) hm _) rfl (Nat.le_of_ble_eq_true rfl) ?_
      simp (disch := omega) only [rS_ne]
      rw [tat_lt (by omega) hm]
      refine g_istore_n hX dX1_next_100 rfl (by decide) ?_
      refine g_iload_n hX dX1_next_101 rfl rfl ?_
      refine g_callSp _ hX dX1_next_102 k_X1_110 ⟨by decide, by decide⟩ rfl (ok_isL _) rfl (Nat.le_of_ble_eq_true rfl) ?_
      refine g_if_eq (tgt := 157) hX dX1_next_105 (by decide) (fun c_105 => ?_) (fun c_105 => ?_)
      · refine g_iload_n hX dX1_next_157 rfl rfl ?_
        refine g_callSp _ hX dX1_next_158 k_X1_114 ⟨by decide, by decide⟩ rfl (ok_isF _) rfl (Nat.le_of_ble_eq_true rfl) ?_
        refine g_if_eq (tgt := 175) hX dX1_next_161 (by decide) (fun c_161 => ?_) (fun c_161 => ?_)
        · have hnf := b01_0 c_161
          refine g_aload_n hX dX1_next_175 rfl rfl ?_
          refine g_iload_n hX dX1_next_176 rfl rfl ?_
          refine g_bipush (v := 59) hX dX1_next_177 (by decide) ?_
          refine g_icmp_ne (tgt := 186) hX dX1_next_179 (by decide) (fun c_179 => ?_) (fun c_179 => ?_)
          · refine g_iconst (v := 4) hX dX1_next_186 (by decide) ?_
            refine g_put1I hX 2 dX1_next_187 b_fl_X1_37 hR.k0 pf1_2 ?_
            try simp (disch := omega) only [rS_eq, rS_ne, rS_rS, pk_us, pk_un]
            exact g_vret hX dX1_next_190 rfl (by rw [← es]; exact ⟨rfl, rfl, _, rfl, by simp (disch := decide) only [pk_us, pk_un]; exact h3, by rw [tE, if_neg (by omega), if_neg (b01_0 c_105), if_neg hnf]; simp (disch := decide) only [pk_us, pk_un]; exact nI_1 _, by rw [tS, if_neg (by omega), if_neg (b01_0 c_105), if_neg hnf, if_neg c_179]; simp (disch := decide) only [pk_us, pk_un], fun _ z => absurd z hnf⟩)
          · refine g_iconst (v := 3) hX dX1_next_182 (by decide) ?_
            refine g_goto (tgt := 187) hX dX1_next_183 (by decide) ?_
            refine g_put1I hX 2 dX1_next_187 b_fl_X1_37 hR.k0 pf1_2 ?_
            try simp (disch := omega) only [rS_eq, rS_ne, rS_rS, pk_us, pk_un]
            exact g_vret hX dX1_next_190 rfl (by rw [← es]; exact ⟨rfl, rfl, _, rfl, by simp (disch := decide) only [pk_us, pk_un]; exact h3, by rw [tE, if_neg (by omega), if_neg (b01_0 c_105), if_neg hnf]; simp (disch := decide) only [pk_us, pk_un]; exact nI_1 _, by rw [tS, if_neg (by omega), if_neg (b01_0 c_105), if_neg hnf, if_pos c_179]; simp (disch := decide) only [pk_us, pk_un], fun _ z => absurd z hnf⟩)
        · refine g_aload_n hX dX1_next_164 rfl rfl ?_
          refine g_iload_n hX dX1_next_165 rfl rfl ?_
          refine g_bipush (v := 48) hX dX1_next_166 (by decide) ?_
          refine g_isub hX dX1_next_168 ?_
          refine g_callV _ hX dX1_next_169 k_X1_117 ⟨by decide, by decide⟩ (by decide) hR.k0 rfl rfl (ok_takeNumber (R := _) hR ht hm hs (b01_n c_161) (by simp (disch := decide) only [pk_us, pk_un]; exact h3) (by simp (disch := decide) only [pk_us, pk_un]; exact nI_1 _)) rfl (Nat.le_of_ble_eq_true rfl) (fun r1 I1 L1 hq => ?_)
          obtain ⟨e1, e2, R1, e3, q3, q4, q5, q2⟩ := hq
          subst e1; subst e2; subst e3
          refine g_goto (tgt := 190) hX dX1_next_172 (by decide) ?_
          exact g_vret hX dX1_next_190 rfl (by rw [← es]; exact ⟨rfl, rfl, _, rfl, q3, by rw [tE, if_neg (by omega), if_neg (b01_0 c_105), if_pos (b01_n c_161)]; exact q4, by rw [tS, if_neg (by omega), if_neg (b01_0 c_105), if_pos (b01_n c_161)]; exact q2, fun _ _ => q5⟩)
      · refine g_aload_n hX dX1_next_108 rfl rfl ?_
        refine g_iconst (v := 1) hX dX1_next_109 (by decide) ?_
        refine g_put1I hX 2 dX1_next_110 b_fl_X1_37 hR.k0 pf1_2 ?_
        try simp (disch := omega) only [rS_eq, rS_ne, rS_rS, pk_us, pk_un]
        exact G.at (loop2 s hs (b01_n c_105) (s + 1) (by omega) _ (Nat.le_refl _) (rU_yes hs (b01_n c_105)).symm (by simp (disch := decide) only [pk_us, pk_un]; exact h3) (by simp (disch := decide) only [pk_us, pk_un]) (by simp (disch := decide) only [pk_us, pk_un]; exact nI_1 _) es) ⟨rfl, trivial⟩
    · have hs := nnlt c_70 (by omega) (by omega)
      refine g_aload_n hX dX1_next_73 rfl rfl ?_
      refine g_iconst (v := 0) hX dX1_next_74 (by decide) ?_
      refine g_put1I hX 2 dX1_next_75 b_fl_X1_37 hR.k0 pf1_2 ?_
      try simp (disch := omega) only [rS_eq, rS_ne, rS_rS, pk_us, pk_un]
      exact g_vret hX dX1_next_78 rfl (by rw [← es]; exact ⟨rfl, rfl, _, rfl, by simp (disch := decide) only [pk_us, pk_un]; exact h3, by rw [tE, if_pos hs]; simp (disch := decide) only [pk_us, pk_un], by rw [tS, if_pos hs]; simp (disch := decide) only [pk_us, pk_un], fun z => absurd z (by omega)⟩)
  have loop := loop_up (n := m) (P := fun a => ∀ R, sk (I 23) m a = sk (I 23) m b0 → R 3 = nI a → G X w mX1_next (rS I N R) L 8 (lvO [(0, .ref (gA w N))]) []) (fun a ha ih R he h3 => by
    refine g_aload_n hX dX1_next_8 rfl rfl ?_
    refine g_get1I hX 3 dX1_next_9 b_fl_X1_90 hR.k0 (by decide) ?_
    try simp (disch := omega) only [rS_eq, rS_ne, rS_rS, pk_us, pk_un]
    rw [h3]
    refine g_aload_n hX dX1_next_12 rfl rfl ?_
    refine g_get1R hX 0 dX1_next_13 b_fl_X1_9 hR.k0 (by decide) hR.p0 ?_
    refine g_get2I hX 1 dX1_next_16 b_fl_X1_108 hR.text.k0 (by decide) ?_
    try simp (disch := omega) only [rS_eq, rS_ne, rS_rS, pk_us, pk_un]
    rw [ht]
    refine g_icmp_ge (tgt := 51) hX dX1_next_19 (by decide) (fun c_19 => ?_) (fun c_19 => ?_)
    · exact tail a R ha ((rU_stop (nle c_19 (by omega) (by omega))).symm.trans he) h3
    · have hlt := nnle c_19 (by omega) (by omega)
      refine g_aload_n hX dX1_next_22 rfl rfl ?_
      refine g_get1R hX 0 dX1_next_23 b_fl_X1_9 hR.k0 (by decide) hR.p0 ?_
      refine g_aload_n hX dX1_next_26 rfl rfl ?_
      refine g_get1I hX 3 dX1_next_27 b_fl_X1_90 hR.k0 (by decide) ?_
      try simp (disch := omega) only [rS_eq, rS_ne, rS_rS, pk_us, pk_un]
      rw [h3]
      refine g_callVp _ hX dX1_next_30 k_X1_99 ⟨by decide, by decide⟩ (by decide) hR.text.k0 rfl rfl (ok_tat hR.text (m := m) (by simp (disch := omega) only [rS_ne]; exact ht) hm _) rfl (Nat.le_of_ble_eq_true rfl) ?_
      simp (disch := omega) only [rS_ne]
      rw [tat_lt (by omega) hm]
      refine g_bipush (v := 32) hX dX1_next_33 (by decide) ?_
      refine g_icmp_ne (tgt := 51) hX dX1_next_35 (by decide) (fun c_35 => ?_) (fun c_35 => ?_)
      · exact tail a R ha ((rU_no c_35).symm.trans he) h3
      · have c35 := c_35
        refine g_aload_n hX dX1_next_38 rfl rfl ?_
        refine g_dup hX dX1_next_39 rfl ?_
        refine g_get1I hX 3 dX1_next_40 b_fl_X1_90 hR.k0 (by decide) ?_
        try simp (disch := omega) only [rS_eq, rS_ne, rS_rS, pk_us, pk_un]
        rw [h3]
        refine g_iconst (v := 1) hX dX1_next_43 (by decide) ?_
        refine g_iadd hX dX1_next_44 ?_
        refine g_put1I hX 3 dX1_next_45 b_fl_X1_90 hR.k0 pf1_3 ?_
        try simp (disch := omega) only [rS_eq, rS_ne, rS_rS, pk_us, pk_un]
        refine g_goto (tgt := 8) hX dX1_next_48 (by decide) ?_
        exact G.at (ih hlt _ ((rU_yes hlt c35).symm.trans he) (by simp (disch := decide) only [pk_us, pk_un]; exact nI_1 _)) ⟨rfl, trivial⟩
    )
  refine g_aload_n hX dX1_next_0 rfl rfl ?_
  refine g_aload_n hX dX1_next_1 rfl rfl ?_
  refine g_get1I hX 4 dX1_next_2 b_fl_X1_87 hR.k0 (by decide) ?_
  try simp (disch := omega) only [rS_eq, rS_ne, rS_rS, pk_us, pk_un]
  rw [h4]
  refine g_put1I hX 3 dX1_next_5 b_fl_X1_90 hR.k0 pf1_3 ?_
  try simp (disch := omega) only [rS_eq, rS_ne, rS_rS, pk_us, pk_un]
  exact G.at (loop b0 hb0 _ rfl (by simp (disch := decide) only [pk_us, pk_un])) ⟨rfl, trivial⟩
