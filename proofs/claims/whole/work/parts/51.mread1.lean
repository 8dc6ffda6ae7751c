set_option maxHeartbeats 4000000 in
set_option maxRecDepth 100000 in
theorem m_here {w : WG} {I : SI} {L : SL} (hm : ML w) {T : Nat → Int32} {a m : Nat} (ha : I 0 19 = nI a) (ht : I 0 18 = nI m) (h150 : m ≤ 150) (ham : a ≤ m) (hT : ∀ i, i < m → I 13 i = T i) : Ok w mX5_here [.ref (gA w 0)] I L (Pr (.int (if a < m then T a else -1)) I L) := by
  refine Ok.of (by decide) (Nat.le_of_ble_eq_true rfl) (fun X hX => ?_)
  refine g_aload_n hX dX5_here_0 rfl rfl ?_
  refine g_get5I hX 19 dX5_here_1 b_fl_X5_115 hm.k0 (by decide) ?_
  rw [ha]
  refine g_aload_n hX dX5_here_4 rfl rfl ?_
  refine g_get5I hX 18 dX5_here_5 b_fl_X5_112 hm.k0 (by decide) ?_
  rw [ht]
  refine g_icmp_ge (tgt := 23) hX dX5_here_8 (by decide) (fun c_8 => ?_) (fun c_8 => ?_)
  · refine g_iconst (v := -1) hX dX5_here_23 (by decide) ?_
    exact g_iret hX dX5_here_24 rfl (by rw [if_neg (by have := nle c_8 (by omega) (by omega); omega)]; exact ⟨rfl, rfl, rfl⟩)
  · have hlt := nnle c_8 (by omega) (by omega)
    refine g_aload_n hX dX5_here_11 rfl rfl ?_
    refine g_get5R hX 17 dX5_here_12 b_fl_X5_46 hm.k0 (by decide) hm.q13 ?_
    refine g_aload_n hX dX5_here_15 rfl rfl ?_
    refine g_get5I hX 19 dX5_here_16 b_fl_X5_115 hm.k0 (by decide) ?_
    rw [ha]
    refine g_ialdN hX dX5_here_19 hm.k13 (⟨rfl, by omega⟩) (by decide) ?_
    rw [hT _ hlt]
    refine g_goto (tgt := 24) hX dX5_here_20 (by decide) ?_
    exact g_iret hX dX5_here_24 rfl (by rw [if_pos hlt]; exact ⟨rfl, rfl, rfl⟩)
theorem row_eq {A B : Nat → Int32} {k : Nat} {x : Int32} (h1 : A k = x) (h2 : ∀ j, j ≠ k → A j = B j) : A = upd B k x := by
  funext j
  by_cases e : j = k
  · subst e; rw [pk_us]; exact h1
  · rw [pk_un e]; exact h2 j e
theorem isL_in {c : Int32} : b01 ((97 : Int32) ≤ c ∧ c ≤ 122) = b01 (isL c) := rfl
set_option maxHeartbeats 4000000 in
set_option maxRecDepth 100000 in
theorem m_skip {w : WG} {I : SI} {L : SL} (hm : ML w) {T : Nat → Int32} {a m : Nat} (ha : I 0 19 = nI a) (ht : I 0 18 = nI m) (h150 : m ≤ 150) (ham : a ≤ m) (hT : ∀ i, i < m → I 13 i = T i) : Ok w mX5_skip [.ref (gA w 0)] I L (fun r1 I1 L1 => r1 = none ∧ I1 = rS I 0 (upd (I 0) 19 (nI (sk T m a))) ∧ L1 = L) := by
  refine Ok.of (by decide) (Nat.le_of_ble_eq_true rfl) (fun X hX => ?_)
  have loop := loop_up (n := m) (P := fun b => ∀ A, sk T m b = sk T m a → A 19 = nI b → (∀ k, k ≠ 19 → A k = I 0 k) → G X w mX5_skip (rS I 0 A) L 0 (lvO [(0, .ref (gA w 0))]) []) (fun b hb ih A he h9 hA => by
    refine g_aload_n hX dX5_skip_0 rfl rfl ?_
    refine g_callVp _ hX dX5_skip_1 k_X5_118 ⟨by decide, by decide⟩ (by decide) hm.k0 rfl rfl (m_here (T := T) (a := b) (m := m) hm (by rw [rS_eq]; exact h9) (by rw [rS_eq, hA _ (by decide)]; exact ht) h150 hb (fun i hi => by rw [rS_ne _ _ _ (by decide)]; exact hT i hi)) rfl (Nat.le_of_ble_eq_true rfl) ?_
    refine g_bipush (v := 32) hX dX5_skip_4 (by decide) ?_
    refine g_icmp_ne (tgt := 22) hX dX5_skip_6 (by decide) (fun c_6 => ?_) (fun c_6 => ?_)
    · exact g_vret hX dX5_skip_22 rfl (by refine ⟨rfl, ?_, rfl⟩; have eb : sk T m a = b := he.symm.trans (by by_cases z : b < m; exact rU_no (by rw [if_pos z] at c_6; exact c_6); exact rU_stop (by omega)); rw [eb, row_eq h9 hA])
    · have hlt : b < m := Nat.lt_of_not_le (fun z => by rw [if_neg (by omega)] at c_6; exact absurd c_6 (by decide))
      rw [if_pos hlt] at c_6
      refine g_aload_n hX dX5_skip_9 rfl rfl ?_
      refine g_dup hX dX5_skip_10 rfl ?_
      refine g_get5I hX 19 dX5_skip_11 b_fl_X5_115 hm.k0 (by decide) ?_
      try simp (disch := decide) only [rS_eq, rS_ne, rS_rS, pk_un, pk_us]
      rw [h9]
      refine g_iconst (v := 1) hX dX5_skip_14 (by decide) ?_
      refine g_iadd hX dX5_skip_15 ?_
      refine g_put5I hX 19 dX5_skip_16 b_fl_X5_115 hm.k0 pf5_19 ?_
      try simp (disch := decide) only [rS_eq, rS_ne, rS_rS, pk_un, pk_us]
      refine g_goto (tgt := 0) hX dX5_skip_19 (by decide) ?_
      exact G.at (ih hlt _ ((rU_yes (P := isS) hlt c_6).symm.trans he) (by rw [pk_us]; exact nI_1 _) (fun k hk => by rw [pk_un hk]; exact hA k hk)) ⟨rfl, trivial⟩
    )
  have z := loop a ham (I 0) rfl ha (fun _ _ => rfl)
  rw [rS_self] at z
  exact G.at z ⟨rfl, trivial⟩
set_option maxHeartbeats 4000000 in
set_option maxRecDepth 100000 in
theorem m_isL {w : WG} {I : SI} {L : SL} (c : Int32) : Ok w mX5_isLetter [.int c] I L (Pr (.int (b01 (isL c))) I L) := by
  refine Ok.of (by decide) (Nat.le_of_ble_eq_true rfl) (fun X hX => ?_)
  refine g_iload_n hX dX5_isLetter_0 rfl rfl ?_
  refine g_bipush (v := 97) hX dX5_isLetter_1 (by decide) ?_
  refine g_bipush (v := 122) hX dX5_isLetter_3 (by decide) ?_
  refine g_callSp _ hX dX5_isLetter_5 k_X5_93 ⟨by decide, by decide⟩ rfl (ok_in _ _ _) rfl (Nat.le_of_ble_eq_true rfl) ?_
  exact g_zret hX dX5_isLetter_8 rfl (b01_nar _) (⟨rfl, rfl, rfl⟩)
set_option maxHeartbeats 4000000 in
set_option maxRecDepth 100000 in
theorem m_isF {w : WG} {I : SI} {L : SL} (c : Int32) : Ok w mX5_isFigure [.int c] I L (Pr (.int (b01 (isF c))) I L) := by
  refine Ok.of (by decide) (Nat.le_of_ble_eq_true rfl) (fun X hX => ?_)
  refine g_iload_n hX dX5_isFigure_0 rfl rfl ?_
  refine g_bipush (v := 48) hX dX5_isFigure_1 (by decide) ?_
  refine g_bipush (v := 57) hX dX5_isFigure_3 (by decide) ?_
  refine g_callSp _ hX dX5_isFigure_5 k_X5_93 ⟨by decide, by decide⟩ rfl (ok_in _ _ _) rfl (Nat.le_of_ble_eq_true rfl) ?_
  exact g_zret hX dX5_isFigure_8 rfl (b01_nar _) (⟨rfl, rfl, rfl⟩)
set_option maxHeartbeats 4000000 in
set_option maxRecDepth 100000 in
theorem m_wordSize {w : WG} {I : SI} {L : SL} (hm : ML w) {T : Nat → Int32} {a m : Nat} (ha : I 0 19 = nI a) (ht : I 0 18 = nI m) (h150 : m ≤ 150) (ham : a ≤ m) (hT : ∀ i, i < m → I 13 i = T i) : Ok w mX5_wordSize [.ref (gA w 0)] I L (Pr (.int (nI (wl T m a - a))) I L) := by
  refine Ok.of (by decide) (Nat.le_of_ble_eq_true rfl) (fun X hX => ?_)
  have loop := loop_up (n := m) (P := fun j => a + j ≤ m → wl T m (a + j) = wl T m a → G X w mX5_wordSize I L 2 (lvO [(0, .ref (gA w 0)), (1, .int (nI j))]) []) (fun j hj ih hb he => by
    refine g_aload_n hX dX5_wordSize_2 rfl rfl ?_
    refine g_get5I hX 19 dX5_wordSize_3 b_fl_X5_115 hm.k0 (by decide) ?_
    rw [ha]
    refine g_iload_n hX dX5_wordSize_6 rfl rfl ?_
    refine g_iadd hX dX5_wordSize_7 ?_
    rw [nI_add]
    refine g_aload_n hX dX5_wordSize_8 rfl rfl ?_
    refine g_get5I hX 18 dX5_wordSize_9 b_fl_X5_112 hm.k0 (by decide) ?_
    rw [ht]
    refine g_icmp_ge (tgt := 38) hX dX5_wordSize_12 (by decide) (fun c_12 => ?_) (fun c_12 => ?_)
    · refine g_iload_n hX dX5_wordSize_38 rfl rfl ?_
      exact g_iret hX dX5_wordSize_39 rfl (by have eb : wl T m a = a + j := he.symm.trans (rU_stop (nle c_12 (by omega) (by omega))); rw [eb, Nat.add_sub_cancel_left]; exact ⟨rfl, rfl, rfl⟩)
    · have hlt := nnle c_12 (by omega) (by omega)
      refine g_aload_n hX dX5_wordSize_15 rfl rfl ?_
      refine g_get5R hX 17 dX5_wordSize_16 b_fl_X5_46 hm.k0 (by decide) hm.q13 ?_
      refine g_aload_n hX dX5_wordSize_19 rfl rfl ?_
      refine g_get5I hX 19 dX5_wordSize_20 b_fl_X5_115 hm.k0 (by decide) ?_
      rw [ha]
      refine g_iload_n hX dX5_wordSize_23 rfl rfl ?_
      refine g_iadd hX dX5_wordSize_24 ?_
      rw [nI_add]
      refine g_ialdN hX dX5_wordSize_25 hm.k13 (⟨rfl, by omega⟩) (by decide) ?_
      rw [hT _ hlt]
      refine g_callSp _ hX dX5_wordSize_26 k_X5_121 ⟨by decide, by decide⟩ rfl (m_isL _) rfl (Nat.le_of_ble_eq_true rfl) ?_
      refine g_if_eq (tgt := 38) hX dX5_wordSize_29 (by decide) (fun c_29 => ?_) (fun c_29 => ?_)
      · refine g_iload_n hX dX5_wordSize_38 rfl rfl ?_
        exact g_iret hX dX5_wordSize_39 rfl (by have eb : wl T m a = a + j := he.symm.trans (rU_no (b01_0 c_29)); rw [eb, Nat.add_sub_cancel_left]; exact ⟨rfl, rfl, rfl⟩)
      · refine g_iinc hX dX5_wordSize_32 rfl (d := 1) (by decide) ?_
        refine g_goto (tgt := 2) hX dX5_wordSize_35 (by decide) ?_
        exact G.at (ih (by omega) (by omega) ((rU_yes hlt (b01_n c_29)).symm.trans he)) ⟨rfl, vI (nI_1 j), trivial⟩
    )
  refine g_iconst (v := 0) hX dX5_wordSize_0 (by decide) ?_
  refine g_istore_n hX dX5_wordSize_1 rfl (by decide) ?_
  exact G.at (loop 0 (Nat.zero_le _) ham rfl) ⟨rfl, rfl, trivial⟩
set_option maxHeartbeats 4000000 in
set_option maxRecDepth 100000 in
theorem m_letter {w : WG} {I : SI} {L : SL} (hm : ML w) {T : Nat → Int32} {a m : Nat} (ha : I 0 19 = nI a) (ht : I 0 18 = nI m) (h150 : m ≤ 150) (hT : ∀ i, i < m → I 13 i = T i) {j : Nat} (hj : a + j < m) : Ok w mX5_letter [.ref (gA w 0), .int (nI j)] I L (Pr (.int (T (a + j))) I L) := by
  refine Ok.of (by decide) (Nat.le_of_ble_eq_true rfl) (fun X hX => ?_)
  refine g_aload_n hX dX5_letter_0 rfl rfl ?_
  refine g_get5R hX 17 dX5_letter_1 b_fl_X5_46 hm.k0 (by decide) hm.q13 ?_
  refine g_aload_n hX dX5_letter_4 rfl rfl ?_
  refine g_get5I hX 19 dX5_letter_5 b_fl_X5_115 hm.k0 (by decide) ?_
  rw [ha]
  refine g_iload_n hX dX5_letter_8 rfl rfl ?_
  refine g_iadd hX dX5_letter_9 ?_
  rw [nI_add]
  refine g_ialdN hX dX5_letter_10 hm.k13 (⟨rfl, by omega⟩) (by decide) ?_
  rw [hT _ hj]
  exact g_iret hX dX5_letter_11 rfl (⟨rfl, rfl, rfl⟩)
def whF (T : Nat → Int32) (m a : Nat) : Int32 := if wOK T m a 0 then 0 else if wOK T m a 1 then 1 else if wOK T m a 2 then 2 else if wOK T m a 3 then 3 else -1
theorem wOK_n {T : Nat → Int32} {m a k : Nat} (h : wOK T m a k) : nI (wl T m a - a) = nI (sL k) := by rw [h.1, Nat.add_sub_cancel_left]
theorem wl_n {T : Nat → Int32} {m a n : Nat} (hm : m ≤ 150) (ha : a ≤ m) (hn : n < 10) (h : nI (wl T m a - a) = nI n) : wl T m a = a + n ∧ a + n ≤ m := by
  have h1 : wl T m a ≤ m := rU_le ha
  have h2 : a ≤ wl T m a := rU_ge
  have := (nI_eq (by omega) (by omega)).mp h
  omega
set_option maxHeartbeats 4000000 in
set_option maxRecDepth 100000 in
theorem m_wordHere {w : WG} {I : SI} {L : SL} (hm : ML w) {T : Nat → Int32} {a m : Nat} (ha : I 0 19 = nI a) (ht : I 0 18 = nI m) (h150 : m ≤ 150) (ham : a ≤ m) (hT : ∀ i, i < m → I 13 i = T i) : Ok w mX5_wordHere [.ref (gA w 0)] I L (Pr (.int (whF T m a)) I L) := by
  refine Ok.of (by decide) (Nat.le_of_ble_eq_true rfl) (fun X hX => ?_)
  have t217 : ¬ wOK T m a 0 → ¬ wOK T m a 1 → ¬ wOK T m a 2 → ¬ wOK T m a 3 → G X w mX5_wordHere I L 217 (lvO [(0, .ref (gA w 0)), (1, .int (nI (wl T m a - a)))]) [] := by
    intro n0 n1 n2 n3
    refine g_iconst (v := -1) hX dX5_wordHere_217 (by decide) ?_
    exact g_iret hX dX5_wordHere_218 rfl (by rw [whF, if_neg n0, if_neg n1, if_neg n2, if_neg n3]; exact ⟨rfl, rfl, rfl⟩)
  have t158 : ¬ wOK T m a 0 → ¬ wOK T m a 1 → ¬ wOK T m a 2 → G X w mX5_wordHere I L 158 (lvO [(0, .ref (gA w 0)), (1, .int (nI (wl T m a - a)))]) [] := by
    intro n0 n1 n2
    refine g_iload_n hX dX5_wordHere_158 rfl rfl ?_
    refine g_iconst (v := 5) hX dX5_wordHere_159 (by decide) ?_
    refine g_icmp_ne (tgt := 217) hX dX5_wordHere_160 (by decide) (fun c_160 => ?_) (fun c_160 => ?_)
    · exact G.at (t217 n0 n1 n2 (fun z => by first | exact c_160 (wOK_n z) | exact c_170 (z.2 0 (by decide)) | exact c_180 (z.2 1 (by decide)) | exact c_190 (z.2 2 (by decide)) | exact c_200 (z.2 3 (by decide)) | exact c_210 (z.2 4 (by decide)))) ⟨rfl, rfl, trivial⟩
    · have hw := wl_n (n := 5) h150 ham (by decide) c_160
      refine g_aload_n hX dX5_wordHere_163 rfl rfl ?_
      refine g_iconst (v := 0) hX dX5_wordHere_164 (by decide) ?_
      refine g_callVp _ hX dX5_wordHere_165 k_X5_128 ⟨by decide, by decide⟩ (by decide) hm.k0 rfl rfl (m_letter hm (T := T) (j := 0) ha ht h150 hT (by have := hw.2; omega)) rfl (Nat.le_of_ble_eq_true rfl) ?_
      refine g_bipush (v := 98) hX dX5_wordHere_168 (by decide) ?_
      refine g_icmp_ne (tgt := 217) hX dX5_wordHere_170 (by decide) (fun c_170 => ?_) (fun c_170 => ?_)
      · exact G.at (t217 n0 n1 n2 (fun z => by first | exact c_160 (wOK_n z) | exact c_170 (z.2 0 (by decide)) | exact c_180 (z.2 1 (by decide)) | exact c_190 (z.2 2 (by decide)) | exact c_200 (z.2 3 (by decide)) | exact c_210 (z.2 4 (by decide)))) ⟨rfl, rfl, trivial⟩
      · refine g_aload_n hX dX5_wordHere_173 rfl rfl ?_
        refine g_iconst (v := 1) hX dX5_wordHere_174 (by decide) ?_
        refine g_callVp _ hX dX5_wordHere_175 k_X5_128 ⟨by decide, by decide⟩ (by decide) hm.k0 rfl rfl (m_letter hm (T := T) (j := 1) ha ht h150 hT (by have := hw.2; omega)) rfl (Nat.le_of_ble_eq_true rfl) ?_
        refine g_bipush (v := 114) hX dX5_wordHere_178 (by decide) ?_
        refine g_icmp_ne (tgt := 217) hX dX5_wordHere_180 (by decide) (fun c_180 => ?_) (fun c_180 => ?_)
        · exact G.at (t217 n0 n1 n2 (fun z => by first | exact c_160 (wOK_n z) | exact c_170 (z.2 0 (by decide)) | exact c_180 (z.2 1 (by decide)) | exact c_190 (z.2 2 (by decide)) | exact c_200 (z.2 3 (by decide)) | exact c_210 (z.2 4 (by decide)))) ⟨rfl, rfl, trivial⟩
        · refine g_aload_n hX dX5_wordHere_183 rfl rfl ?_
          refine g_iconst (v := 2) hX dX5_wordHere_184 (by decide) ?_
          refine g_callVp _ hX dX5_wordHere_185 k_X5_128 ⟨by decide, by decide⟩ (by decide) hm.k0 rfl rfl (m_letter hm (T := T) (j := 2) ha ht h150 hT (by have := hw.2; omega)) rfl (Nat.le_of_ble_eq_true rfl) ?_
          refine g_bipush (v := 105) hX dX5_wordHere_188 (by decide) ?_
          refine g_icmp_ne (tgt := 217) hX dX5_wordHere_190 (by decide) (fun c_190 => ?_) (fun c_190 => ?_)
          · exact G.at (t217 n0 n1 n2 (fun z => by first | exact c_160 (wOK_n z) | exact c_170 (z.2 0 (by decide)) | exact c_180 (z.2 1 (by decide)) | exact c_190 (z.2 2 (by decide)) | exact c_200 (z.2 3 (by decide)) | exact c_210 (z.2 4 (by decide)))) ⟨rfl, rfl, trivial⟩
          · refine g_aload_n hX dX5_wordHere_193 rfl rfl ?_
            refine g_iconst (v := 3) hX dX5_wordHere_194 (by decide) ?_
            refine g_callVp _ hX dX5_wordHere_195 k_X5_128 ⟨by decide, by decide⟩ (by decide) hm.k0 rfl rfl (m_letter hm (T := T) (j := 3) ha ht h150 hT (by have := hw.2; omega)) rfl (Nat.le_of_ble_eq_true rfl) ?_
            refine g_bipush (v := 98) hX dX5_wordHere_198 (by decide) ?_
            refine g_icmp_ne (tgt := 217) hX dX5_wordHere_200 (by decide) (fun c_200 => ?_) (fun c_200 => ?_)
            · exact G.at (t217 n0 n1 n2 (fun z => by first | exact c_160 (wOK_n z) | exact c_170 (z.2 0 (by decide)) | exact c_180 (z.2 1 (by decide)) | exact c_190 (z.2 2 (by decide)) | exact c_200 (z.2 3 (by decide)) | exact c_210 (z.2 4 (by decide)))) ⟨rfl, rfl, trivial⟩
            · refine g_aload_n hX dX5_wordHere_203 rfl rfl ?_
              refine g_iconst (v := 4) hX dX5_wordHere_204 (by decide) ?_
              refine g_callVp _ hX dX5_wordHere_205 k_X5_128 ⟨by decide, by decide⟩ (by decide) hm.k0 rfl rfl (m_letter hm (T := T) (j := 4) ha ht h150 hT (by have := hw.2; omega)) rfl (Nat.le_of_ble_eq_true rfl) ?_
              refine g_bipush (v := 101) hX dX5_wordHere_208 (by decide) ?_
              refine g_icmp_ne (tgt := 217) hX dX5_wordHere_210 (by decide) (fun c_210 => ?_) (fun c_210 => ?_)
              · exact G.at (t217 n0 n1 n2 (fun z => by first | exact c_160 (wOK_n z) | exact c_170 (z.2 0 (by decide)) | exact c_180 (z.2 1 (by decide)) | exact c_190 (z.2 2 (by decide)) | exact c_200 (z.2 3 (by decide)) | exact c_210 (z.2 4 (by decide)))) ⟨rfl, rfl, trivial⟩
              · refine g_iconst (v := 3) hX dX5_wordHere_213 (by decide) ?_
                refine g_goto (tgt := 218) hX dX5_wordHere_214 (by decide) ?_
                exact g_iret hX dX5_wordHere_218 rfl (by have hok : wOK T m a 3 := ⟨hw.1, fun j hj => by rcases (show j = 0 ∨ j = 1 ∨ j = 2 ∨ j = 3 ∨ j = 4 by have : sL 3 = 5 := rfl; omega) with rfl | rfl | rfl | rfl | rfl; exact c_170; exact c_180; exact c_190; exact c_200; exact c_210⟩; rw [whF, if_neg n0, if_neg n1, if_neg n2, if_pos hok]; exact ⟨rfl, rfl, rfl⟩)
  have t121 : ¬ wOK T m a 0 → ¬ wOK T m a 1 → G X w mX5_wordHere I L 121 (lvO [(0, .ref (gA w 0)), (1, .int (nI (wl T m a - a)))]) [] := by
    intro n0 n1
    refine g_iload_n hX dX5_wordHere_121 rfl rfl ?_
    refine g_iconst (v := 3) hX dX5_wordHere_122 (by decide) ?_
    refine g_icmp_ne (tgt := 158) hX dX5_wordHere_123 (by decide) (fun c_123 => ?_) (fun c_123 => ?_)
    · exact G.at (t158 n0 n1 (fun z => by first | exact c_123 (wOK_n z) | exact c_133 (z.2 0 (by decide)) | exact c_143 (z.2 1 (by decide)) | exact c_153 (z.2 2 (by decide)))) ⟨rfl, rfl, trivial⟩
    · have hw := wl_n (n := 3) h150 ham (by decide) c_123
      refine g_aload_n hX dX5_wordHere_126 rfl rfl ?_
      refine g_iconst (v := 0) hX dX5_wordHere_127 (by decide) ?_
      refine g_callVp _ hX dX5_wordHere_128 k_X5_128 ⟨by decide, by decide⟩ (by decide) hm.k0 rfl rfl (m_letter hm (T := T) (j := 0) ha ht h150 hT (by have := hw.2; omega)) rfl (Nat.le_of_ble_eq_true rfl) ?_
      refine g_bipush (v := 100) hX dX5_wordHere_131 (by decide) ?_
      refine g_icmp_ne (tgt := 158) hX dX5_wordHere_133 (by decide) (fun c_133 => ?_) (fun c_133 => ?_)
      · exact G.at (t158 n0 n1 (fun z => by first | exact c_123 (wOK_n z) | exact c_133 (z.2 0 (by decide)) | exact c_143 (z.2 1 (by decide)) | exact c_153 (z.2 2 (by decide)))) ⟨rfl, rfl, trivial⟩
      · refine g_aload_n hX dX5_wordHere_136 rfl rfl ?_
        refine g_iconst (v := 1) hX dX5_wordHere_137 (by decide) ?_
        refine g_callVp _ hX dX5_wordHere_138 k_X5_128 ⟨by decide, by decide⟩ (by decide) hm.k0 rfl rfl (m_letter hm (T := T) (j := 1) ha ht h150 hT (by have := hw.2; omega)) rfl (Nat.le_of_ble_eq_true rfl) ?_
        refine g_bipush (v := 111) hX dX5_wordHere_141 (by decide) ?_
        refine g_icmp_ne (tgt := 158) hX dX5_wordHere_143 (by decide) (fun c_143 => ?_) (fun c_143 => ?_)
        · exact G.at (t158 n0 n1 (fun z => by first | exact c_123 (wOK_n z) | exact c_133 (z.2 0 (by decide)) | exact c_143 (z.2 1 (by decide)) | exact c_153 (z.2 2 (by decide)))) ⟨rfl, rfl, trivial⟩
        · refine g_aload_n hX dX5_wordHere_146 rfl rfl ?_
          refine g_iconst (v := 2) hX dX5_wordHere_147 (by decide) ?_
          refine g_callVp _ hX dX5_wordHere_148 k_X5_128 ⟨by decide, by decide⟩ (by decide) hm.k0 rfl rfl (m_letter hm (T := T) (j := 2) ha ht h150 hT (by have := hw.2; omega)) rfl (Nat.le_of_ble_eq_true rfl) ?_
          refine g_bipush (v := 103) hX dX5_wordHere_151 (by decide) ?_
          refine g_icmp_ne (tgt := 158) hX dX5_wordHere_153 (by decide) (fun c_153 => ?_) (fun c_153 => ?_)
          · exact G.at (t158 n0 n1 (fun z => by first | exact c_123 (wOK_n z) | exact c_133 (z.2 0 (by decide)) | exact c_143 (z.2 1 (by decide)) | exact c_153 (z.2 2 (by decide)))) ⟨rfl, rfl, trivial⟩
          · refine g_iconst (v := 2) hX dX5_wordHere_156 (by decide) ?_
            exact g_iret hX dX5_wordHere_157 rfl (by have hok : wOK T m a 2 := ⟨hw.1, fun j hj => by rcases (show j = 0 ∨ j = 1 ∨ j = 2 by have : sL 2 = 3 := rfl; omega) with rfl | rfl | rfl; exact c_133; exact c_143; exact c_153⟩; rw [whF, if_neg n0, if_neg n1, if_pos hok]; exact ⟨rfl, rfl, rfl⟩)
  have t84 : ¬ wOK T m a 0 → G X w mX5_wordHere I L 84 (lvO [(0, .ref (gA w 0)), (1, .int (nI (wl T m a - a)))]) [] := by
    intro n0
    refine g_iload_n hX dX5_wordHere_84 rfl rfl ?_
    refine g_iconst (v := 3) hX dX5_wordHere_85 (by decide) ?_
    refine g_icmp_ne (tgt := 121) hX dX5_wordHere_86 (by decide) (fun c_86 => ?_) (fun c_86 => ?_)
    · exact G.at (t121 n0 (fun z => by first | exact c_86 (wOK_n z) | exact c_96 (z.2 0 (by decide)) | exact c_106 (z.2 1 (by decide)) | exact c_116 (z.2 2 (by decide)))) ⟨rfl, rfl, trivial⟩
    · have hw := wl_n (n := 3) h150 ham (by decide) c_86
      refine g_aload_n hX dX5_wordHere_89 rfl rfl ?_
      refine g_iconst (v := 0) hX dX5_wordHere_90 (by decide) ?_
      refine g_callVp _ hX dX5_wordHere_91 k_X5_128 ⟨by decide, by decide⟩ (by decide) hm.k0 rfl rfl (m_letter hm (T := T) (j := 0) ha ht h150 hT (by have := hw.2; omega)) rfl (Nat.le_of_ble_eq_true rfl) ?_
      refine g_bipush (v := 109) hX dX5_wordHere_94 (by decide) ?_
      refine g_icmp_ne (tgt := 121) hX dX5_wordHere_96 (by decide) (fun c_96 => ?_) (fun c_96 => ?_)
      · exact G.at (t121 n0 (fun z => by first | exact c_86 (wOK_n z) | exact c_96 (z.2 0 (by decide)) | exact c_106 (z.2 1 (by decide)) | exact c_116 (z.2 2 (by decide)))) ⟨rfl, rfl, trivial⟩
      · refine g_aload_n hX dX5_wordHere_99 rfl rfl ?_
        refine g_iconst (v := 1) hX dX5_wordHere_100 (by decide) ?_
        refine g_callVp _ hX dX5_wordHere_101 k_X5_128 ⟨by decide, by decide⟩ (by decide) hm.k0 rfl rfl (m_letter hm (T := T) (j := 1) ha ht h150 hT (by have := hw.2; omega)) rfl (Nat.le_of_ble_eq_true rfl) ?_
        refine g_bipush (v := 97) hX dX5_wordHere_104 (by decide) ?_
        refine g_icmp_ne (tgt := 121) hX dX5_wordHere_106 (by decide) (fun c_106 => ?_) (fun c_106 => ?_)
        · exact G.at (t121 n0 (fun z => by first | exact c_86 (wOK_n z) | exact c_96 (z.2 0 (by decide)) | exact c_106 (z.2 1 (by decide)) | exact c_116 (z.2 2 (by decide)))) ⟨rfl, rfl, trivial⟩
        · refine g_aload_n hX dX5_wordHere_109 rfl rfl ?_
          refine g_iconst (v := 2) hX dX5_wordHere_110 (by decide) ?_
          refine g_callVp _ hX dX5_wordHere_111 k_X5_128 ⟨by decide, by decide⟩ (by decide) hm.k0 rfl rfl (m_letter hm (T := T) (j := 2) ha ht h150 hT (by have := hw.2; omega)) rfl (Nat.le_of_ble_eq_true rfl) ?_
          refine g_bipush (v := 110) hX dX5_wordHere_114 (by decide) ?_
          refine g_icmp_ne (tgt := 121) hX dX5_wordHere_116 (by decide) (fun c_116 => ?_) (fun c_116 => ?_)
          · exact G.at (t121 n0 (fun z => by first | exact c_86 (wOK_n z) | exact c_96 (z.2 0 (by decide)) | exact c_106 (z.2 1 (by decide)) | exact c_116 (z.2 2 (by decide)))) ⟨rfl, rfl, trivial⟩
          · refine g_iconst (v := 1) hX dX5_wordHere_119 (by decide) ?_
            exact g_iret hX dX5_wordHere_120 rfl (by have hok : wOK T m a 1 := ⟨hw.1, fun j hj => by rcases (show j = 0 ∨ j = 1 ∨ j = 2 by have : sL 1 = 3 := rfl; omega) with rfl | rfl | rfl; exact c_96; exact c_106; exact c_116⟩; rw [whF, if_neg n0, if_pos hok]; exact ⟨rfl, rfl, rfl⟩)
  refine g_aload_n hX dX5_wordHere_0 rfl rfl ?_
  refine g_callVp _ hX dX5_wordHere_1 k_X5_125 ⟨by decide, by decide⟩ (by decide) hm.k0 rfl rfl (m_wordSize hm ha ht h150 ham hT) rfl (Nat.le_of_ble_eq_true rfl) ?_
  refine g_istore_n hX dX5_wordHere_4 rfl (by decide) ?_
  refine g_iload_n hX dX5_wordHere_5 rfl rfl ?_
  refine g_bipush (v := 7) hX dX5_wordHere_6 (by decide) ?_
  refine g_icmp_ne (tgt := 84) hX dX5_wordHere_8 (by decide) (fun c_8 => ?_) (fun c_8 => ?_)
  · exact G.at (t84  (fun z => by first | exact c_8 (wOK_n z) | exact c_18 (z.2 0 (by decide)) | exact c_28 (z.2 1 (by decide)) | exact c_38 (z.2 2 (by decide)) | exact c_48 (z.2 3 (by decide)) | exact c_58 (z.2 4 (by decide)) | exact c_68 (z.2 5 (by decide)) | exact c_79 (z.2 6 (by decide)))) ⟨rfl, rfl, trivial⟩
  · have hw := wl_n (n := 7) h150 ham (by decide) c_8
    refine g_aload_n hX dX5_wordHere_11 rfl rfl ?_
    refine g_iconst (v := 0) hX dX5_wordHere_12 (by decide) ?_
    refine g_callVp _ hX dX5_wordHere_13 k_X5_128 ⟨by decide, by decide⟩ (by decide) hm.k0 rfl rfl (m_letter hm (T := T) (j := 0) ha ht h150 hT (by have := hw.2; omega)) rfl (Nat.le_of_ble_eq_true rfl) ?_
    refine g_bipush (v := 118) hX dX5_wordHere_16 (by decide) ?_
    refine g_icmp_ne (tgt := 84) hX dX5_wordHere_18 (by decide) (fun c_18 => ?_) (fun c_18 => ?_)
    · exact G.at (t84  (fun z => by first | exact c_8 (wOK_n z) | exact c_18 (z.2 0 (by decide)) | exact c_28 (z.2 1 (by decide)) | exact c_38 (z.2 2 (by decide)) | exact c_48 (z.2 3 (by decide)) | exact c_58 (z.2 4 (by decide)) | exact c_68 (z.2 5 (by decide)) | exact c_79 (z.2 6 (by decide)))) ⟨rfl, rfl, trivial⟩
    · refine g_aload_n hX dX5_wordHere_21 rfl rfl ?_
      refine g_iconst (v := 1) hX dX5_wordHere_22 (by decide) ?_
      refine g_callVp _ hX dX5_wordHere_23 k_X5_128 ⟨by decide, by decide⟩ (by decide) hm.k0 rfl rfl (m_letter hm (T := T) (j := 1) ha ht h150 hT (by have := hw.2; omega)) rfl (Nat.le_of_ble_eq_true rfl) ?_
      refine g_bipush (v := 105) hX dX5_wordHere_26 (by decide) ?_
      refine g_icmp_ne (tgt := 84) hX dX5_wordHere_28 (by decide) (fun c_28 => ?_) (fun c_28 => ?_)
      · exact G.at (t84  (fun z => by first | exact c_8 (wOK_n z) | exact c_18 (z.2 0 (by decide)) | exact c_28 (z.2 1 (by decide)) | exact c_38 (z.2 2 (by decide)) | exact c_48 (z.2 3 (by decide)) | exact c_58 (z.2 4 (by decide)) | exact c_68 (z.2 5 (by decide)) | exact c_79 (z.2 6 (by decide)))) ⟨rfl, rfl, trivial⟩
      · refine g_aload_n hX dX5_wordHere_31 rfl rfl ?_
        refine g_iconst (v := 2) hX dX5_wordHere_32 (by decide) ?_
        refine g_callVp _ hX dX5_wordHere_33 k_X5_128 ⟨by decide, by decide⟩ (by decide) hm.k0 rfl rfl (m_letter hm (T := T) (j := 2) ha ht h150 hT (by have := hw.2; omega)) rfl (Nat.le_of_ble_eq_true rfl) ?_
        refine g_bipush (v := 108) hX dX5_wordHere_36 (by decide) ?_
        refine g_icmp_ne (tgt := 84) hX dX5_wordHere_38 (by decide) (fun c_38 => ?_) (fun c_38 => ?_)
        · exact G.at (t84  (fun z => by first | exact c_8 (wOK_n z) | exact c_18 (z.2 0 (by decide)) | exact c_28 (z.2 1 (by decide)) | exact c_38 (z.2 2 (by decide)) | exact c_48 (z.2 3 (by decide)) | exact c_58 (z.2 4 (by decide)) | exact c_68 (z.2 5 (by decide)) | exact c_79 (z.2 6 (by decide)))) ⟨rfl, rfl, trivial⟩
        · refine g_aload_n hX dX5_wordHere_41 rfl rfl ?_
          refine g_iconst (v := 3) hX dX5_wordHere_42 (by decide) ?_
          refine g_callVp _ hX dX5_wordHere_43 k_X5_128 ⟨by decide, by decide⟩ (by decide) hm.k0 rfl rfl (m_letter hm (T := T) (j := 3) ha ht h150 hT (by have := hw.2; omega)) rfl (Nat.le_of_ble_eq_true rfl) ?_
          refine g_bipush (v := 108) hX dX5_wordHere_46 (by decide) ?_
          refine g_icmp_ne (tgt := 84) hX dX5_wordHere_48 (by decide) (fun c_48 => ?_) (fun c_48 => ?_)
          · exact G.at (t84  (fun z => by first | exact c_8 (wOK_n z) | exact c_18 (z.2 0 (by decide)) | exact c_28 (z.2 1 (by decide)) | exact c_38 (z.2 2 (by decide)) | exact c_48 (z.2 3 (by decide)) | exact c_58 (z.2 4 (by decide)) | exact c_68 (z.2 5 (by decide)) | exact c_79 (z.2 6 (by decide)))) ⟨rfl, rfl, trivial⟩
          · refine g_aload_n hX dX5_wordHere_51 rfl rfl ?_
            refine g_iconst (v := 4) hX dX5_wordHere_52 (by decide) ?_
            refine g_callVp _ hX dX5_wordHere_53 k_X5_128 ⟨by decide, by decide⟩ (by decide) hm.k0 rfl rfl (m_letter hm (T := T) (j := 4) ha ht h150 hT (by have := hw.2; omega)) rfl (Nat.le_of_ble_eq_true rfl) ?_
            refine g_bipush (v := 97) hX dX5_wordHere_56 (by decide) ?_
            refine g_icmp_ne (tgt := 84) hX dX5_wordHere_58 (by decide) (fun c_58 => ?_) (fun c_58 => ?_)
            · exact G.at (t84  (fun z => by first | exact c_8 (wOK_n z) | exact c_18 (z.2 0 (by decide)) | exact c_28 (z.2 1 (by decide)) | exact c_38 (z.2 2 (by decide)) | exact c_48 (z.2 3 (by decide)) | exact c_58 (z.2 4 (by decide)) | exact c_68 (z.2 5 (by decide)) | exact c_79 (z.2 6 (by decide)))) ⟨rfl, rfl, trivial⟩
            · refine g_aload_n hX dX5_wordHere_61 rfl rfl ?_
              refine g_iconst (v := 5) hX dX5_wordHere_62 (by decide) ?_
              refine g_callVp _ hX dX5_wordHere_63 k_X5_128 ⟨by decide, by decide⟩ (by decide) hm.k0 rfl rfl (m_letter hm (T := T) (j := 5) ha ht h150 hT (by have := hw.2; omega)) rfl (Nat.le_of_ble_eq_true rfl) ?_
              refine g_bipush (v := 103) hX dX5_wordHere_66 (by decide) ?_
              refine g_icmp_ne (tgt := 84) hX dX5_wordHere_68 (by decide) (fun c_68 => ?_) (fun c_68 => ?_)
              · exact G.at (t84  (fun z => by first | exact c_8 (wOK_n z) | exact c_18 (z.2 0 (by decide)) | exact c_28 (z.2 1 (by decide)) | exact c_38 (z.2 2 (by decide)) | exact c_48 (z.2 3 (by decide)) | exact c_58 (z.2 4 (by decide)) | exact c_68 (z.2 5 (by decide)) | exact c_79 (z.2 6 (by decide)))) ⟨rfl, rfl, trivial⟩
              · refine g_aload_n hX dX5_wordHere_71 rfl rfl ?_
                refine g_bipush (v := 6) hX dX5_wordHere_72 (by decide) ?_
                refine g_callVp _ hX dX5_wordHere_74 k_X5_128 ⟨by decide, by decide⟩ (by decide) hm.k0 rfl rfl (m_letter hm (T := T) (j := 6) ha ht h150 hT (by have := hw.2; omega)) rfl (Nat.le_of_ble_eq_true rfl) ?_
                refine g_bipush (v := 101) hX dX5_wordHere_77 (by decide) ?_
                refine g_icmp_ne (tgt := 84) hX dX5_wordHere_79 (by decide) (fun c_79 => ?_) (fun c_79 => ?_)
                · exact G.at (t84  (fun z => by first | exact c_8 (wOK_n z) | exact c_18 (z.2 0 (by decide)) | exact c_28 (z.2 1 (by decide)) | exact c_38 (z.2 2 (by decide)) | exact c_48 (z.2 3 (by decide)) | exact c_58 (z.2 4 (by decide)) | exact c_68 (z.2 5 (by decide)) | exact c_79 (z.2 6 (by decide)))) ⟨rfl, rfl, trivial⟩
                · refine g_iconst (v := 0) hX dX5_wordHere_82 (by decide) ?_
                  exact g_iret hX dX5_wordHere_83 rfl (by have hok : wOK T m a 0 := ⟨hw.1, fun j hj => by rcases (show j = 0 ∨ j = 1 ∨ j = 2 ∨ j = 3 ∨ j = 4 ∨ j = 5 ∨ j = 6 by have : sL 0 = 7 := rfl; omega) with rfl | rfl | rfl | rfl | rfl | rfl | rfl; exact c_18; exact c_28; exact c_38; exact c_48; exact c_58; exact c_68; exact c_79⟩; rw [whF, if_pos hok]; exact ⟨rfl, rfl, rfl⟩)
def NM (I : SI) (L : SL) (T : Nat → Int32) (m a : Nat) (lo hi : Int32) : QT := fun r I1 L1 => r = some (.int (b01 (nOK T m (sk T m a) lo hi))) ∧ L1 = L ∧ ∃ A, I1 = rS I 0 A ∧ (∀ k, k ≠ 19 → k ≠ 25 → A k = I 0 k) ∧ (¬ nOK T m (sk T m a) lo hi → A 19 = nI (sk T m a)) ∧ (nOK T m (sk T m a) lo hi → A 19 = nI (fg T m (sk T m a)) ∧ A 25 = nv T (sk T m a) (fg T m (sk T m a)))
def EM (I : SI) (L : SL) (T : Nat → Int32) (m a : Nat) : QT := fun r I1 L1 => r = some (.int (b01 (SMC T m a))) ∧ L1 = L ∧ ∃ A, I1 = rS I 0 A ∧ (∀ k, k ≠ 19 → A k = I 0 k) ∧ (¬ SMC T m a → A 19 = nI (sk T m a)) ∧ (SMC T m a → A 19 = nI (sk T m a + 1))
def nv0 (T : Nat → Int32) (s j : Nat) : Int32 := if j = 0 then 0 else nv T s (s + j)
theorem nv0_s {T : Nat → Int32} {s j : Nat} (h : j < 2) : 10 * nv0 T s j + T (s + j) - 48 = nv0 T s (j + 1) := by
  rcases (show j = 0 ∨ j = 1 by omega) with rfl | rfl
  · show 10 * 0 + T s - 48 = nv T s (s + 1)
    rw [nv_1, Int32.mul_zero, Int32.zero_add]
  · exact nv_2.symm
theorem nv0_k {T : Nat → Int32} {s j : Nat} (h : 2 ≤ j) : nv0 T s j = nv0 T s (j + 1) := by
  unfold nv0
  rw [if_neg (by omega), if_neg (by omega)]
  exact (nv_3 (by omega)).symm
set_option maxHeartbeats 4000000 in
set_option maxRecDepth 100000 in
theorem m_number {w : WG} {I : SI} {L : SL} (hm : ML w) {T : Nat → Int32} {a m : Nat} (ha : I 0 19 = nI a) (ht : I 0 18 = nI m) (h150 : m ≤ 150) (ham : a ≤ m) (hT : ∀ i, i < m → I 13 i = T i) {lo hi : Int32} : Ok w mX5_number [.ref (gA w 0), .int lo, .int hi] I L (NM I L T m a lo hi) := by
  refine Ok.of (by decide) (Nat.le_of_ble_eq_true rfl) (fun X hX => ?_)
  have hs : sk T m a ≤ m := rU_le ham
  have tail : ∀ j, sk T m a + j ≤ m → fg T m (sk T m a) = sk T m a + j → G X w mX5_number (rS I 0 (upd (I 0) 19 (nI (sk T m a)))) L 77 (lvO [(0, .ref (gA w 0)), (1, .int lo), (2, .int hi), (3, .int (nI j)), (4, .int (nv0 T (sk T m a) j))]) [] := by
    intro j hb he
    refine g_iload_n hX dX5_number_77 rfl rfl ?_
    refine g_iconst (v := 1) hX dX5_number_78 (by decide) ?_
    refine g_iconst (v := 2) hX dX5_number_79 (by decide) ?_
    refine g_callSp _ hX dX5_number_80 k_X5_93 ⟨by decide, by decide⟩ rfl (ok_in _ _ _) rfl (Nat.le_of_ble_eq_true rfl) ?_
    refine g_if_eq (tgt := 96) hX dX5_number_83 (by decide) (fun c_83 => ?_) (fun c_83 => ?_)
    · refine g_iconst (v := 0) hX dX5_number_96 (by decide) ?_
      exact g_zret hX dX5_number_97 rfl rfl (by have hno : ¬ nOK T m (sk T m a) lo hi := (fun z => b01_0 c_83 (by have := (fg_gt z.1 z.2.1).1; have := z.2.2.1; exact ⟨(nI_leI (a := 1) (by omega) (by omega)).mpr (by omega), (nI_leI (b := 2) (by omega) (by omega)).mpr (by omega)⟩)); exact ⟨by rw [show b01 (nOK T m (sk T m a) lo hi) = (0 : Int32) from if_neg hno], rfl, _, rfl, fun k h1 _ => pk_un h1, fun _ => pk_us, fun z => absurd z hno⟩)
    · refine g_iload hX dX5_number_86 rfl ?_
      refine g_iload_n hX dX5_number_88 rfl rfl ?_
      refine g_iload_n hX dX5_number_89 rfl rfl ?_
      refine g_callSp _ hX dX5_number_90 k_X5_93 ⟨by decide, by decide⟩ rfl (ok_in _ _ _) rfl (Nat.le_of_ble_eq_true rfl) ?_
      refine g_if_ne (tgt := 98) hX dX5_number_93 (by decide) (fun c_93 => ?_) (fun c_93 => ?_)
      · have hj0 := b01_n c_83
        have hj1 : 1 ≤ j := nle (a := 1) hj0.1 (by omega) (by omega)
        have hj2 : j ≤ 2 := nle (b := 2) hj0.2 (by omega) (by omega)
        have hv : nv0 T (sk T m a) j = nv T (sk T m a) (fg T m (sk T m a)) := by unfold nv0; rw [if_neg (by omega), he]
        have hlm : sk T m a < m := by omega
        have hyes : nOK T m (sk T m a) lo hi := ⟨hlm, rU_all (P := isF) (T := T) (m := m) (Nat.le_refl _) (by show sk T m a < fg T m (sk T m a); omega), by omega, by rw [← hv]; exact (b01_n c_93).1, by rw [← hv]; exact (b01_n c_93).2⟩
        refine g_aload_n hX dX5_number_98 rfl rfl ?_
        refine g_iload hX dX5_number_99 rfl ?_
        refine g_put5I hX 25 dX5_number_101 b_fl_X5_138 hm.k0 pf5_25 ?_
        try simp (disch := decide) only [rS_eq, rS_ne, rS_rS, pk_un, pk_us]
        refine g_aload_n hX dX5_number_104 rfl rfl ?_
        refine g_dup hX dX5_number_105 rfl ?_
        refine g_get5I hX 19 dX5_number_106 b_fl_X5_115 hm.k0 (by decide) ?_
        try simp (disch := decide) only [rS_eq, rS_ne, rS_rS, pk_un, pk_us]
        refine g_iload_n hX dX5_number_109 rfl rfl ?_
        refine g_iadd hX dX5_number_110 ?_
        refine g_put5I hX 19 dX5_number_111 b_fl_X5_115 hm.k0 pf5_19 ?_
        try simp (disch := decide) only [rS_eq, rS_ne, rS_rS, pk_un, pk_us]
        refine g_iconst (v := 1) hX dX5_number_114 (by decide) ?_
        exact g_zret hX dX5_number_115 rfl rfl (by exact ⟨by rw [show b01 (nOK T m (sk T m a) lo hi) = (1 : Int32) from if_pos hyes], rfl, _, rfl, fun k h1 h2 => by rw [pk_un h1, pk_un h2, pk_un h1], fun z => absurd hyes z, fun _ => ⟨by rw [pk_us, nI_add, he], by rw [pk_un (by decide), pk_us, hv]⟩⟩)
      · refine g_iconst (v := 0) hX dX5_number_96 (by decide) ?_
        exact g_zret hX dX5_number_97 rfl rfl (by have hno : ¬ nOK T m (sk T m a) lo hi := (fun z => b01_0 c_93 (by have hv : nv0 T (sk T m a) j = nv T (sk T m a) (fg T m (sk T m a)) := (by unfold nv0; rw [if_neg (by have := (fg_gt z.1 z.2.1).1; omega), he]); rw [hv]; exact ⟨z.2.2.2.1, z.2.2.2.2⟩)); exact ⟨by rw [show b01 (nOK T m (sk T m a) lo hi) = (0 : Int32) from if_neg hno], rfl, _, rfl, fun k h1 _ => pk_un h1, fun _ => pk_us, fun z => absurd z hno⟩)
  have loop := loop_up (n := m) (P := fun j => sk T m a + j ≤ m → fg T m (sk T m a + j) = fg T m (sk T m a) → G X w mX5_number (rS I 0 (upd (I 0) 19 (nI (sk T m a)))) L 9 (lvO [(0, .ref (gA w 0)), (1, .int lo), (2, .int hi), (3, .int (nI j)), (4, .int (nv0 T (sk T m a) j))]) []) (fun j hj ih hb he => by
    refine g_aload_n hX dX5_number_9 rfl rfl ?_
    refine g_get5I hX 19 dX5_number_10 b_fl_X5_115 hm.k0 (by decide) ?_
    try simp (disch := decide) only [rS_eq, rS_ne, rS_rS, pk_un, pk_us]
    refine g_iload_n hX dX5_number_13 rfl rfl ?_
    refine g_iadd hX dX5_number_14 ?_
    rw [nI_add]
    refine g_aload_n hX dX5_number_15 rfl rfl ?_
    refine g_get5I hX 18 dX5_number_16 b_fl_X5_112 hm.k0 (by decide) ?_
    try simp (disch := decide) only [rS_eq, rS_ne, rS_rS, pk_un, pk_us]
    rw [ht]
    refine g_icmp_ge (tgt := 77) hX dX5_number_19 (by decide) (fun c_19 => ?_) (fun c_19 => ?_)
    · exact G.at (tail j hb (he.symm.trans (rU_stop (nle c_19 (by omega) (by omega))))) ⟨rfl, rfl, rfl, rfl, rfl, trivial⟩
    · have hlt := nnle c_19 (by omega) (by omega)
      refine g_aload_n hX dX5_number_22 rfl rfl ?_
      refine g_get5R hX 17 dX5_number_23 b_fl_X5_46 hm.k0 (by decide) hm.q13 ?_
      refine g_aload_n hX dX5_number_26 rfl rfl ?_
      refine g_get5I hX 19 dX5_number_27 b_fl_X5_115 hm.k0 (by decide) ?_
      try simp (disch := decide) only [rS_eq, rS_ne, rS_rS, pk_un, pk_us]
      refine g_iload_n hX dX5_number_30 rfl rfl ?_
      refine g_iadd hX dX5_number_31 ?_
      rw [nI_add]
      refine g_ialdN hX dX5_number_32 hm.k13 (⟨rfl, by omega⟩) (by decide) ?_
      try simp (disch := decide) only [rS_eq, rS_ne, rS_rS, pk_un, pk_us]
      rw [hT _ hlt]
      refine g_callSp _ hX dX5_number_33 k_X5_135 ⟨by decide, by decide⟩ rfl (m_isF _) rfl (Nat.le_of_ble_eq_true rfl) ?_
      refine g_if_eq (tgt := 77) hX dX5_number_36 (by decide) (fun c_36 => ?_) (fun c_36 => ?_)
      · exact G.at (tail j hb (he.symm.trans (rU_no (b01_0 c_36)))) ⟨rfl, rfl, rfl, rfl, rfl, trivial⟩
      · refine g_iload_n hX dX5_number_39 rfl rfl ?_
        refine g_iconst (v := 2) hX dX5_number_40 (by decide) ?_
        rw [show (2 : Int32) = nI 2 from rfl]
        refine g_icmp_ge (tgt := 67) hX dX5_number_41 (by decide) (fun c_41 => ?_) (fun c_41 => ?_)
        · refine g_iload hX dX5_number_67 rfl ?_
          refine g_istore hX dX5_number_69 (by decide) ?_
          refine g_iinc hX dX5_number_71 rfl (d := 1) (by decide) ?_
          refine g_goto (tgt := 9) hX dX5_number_74 (by decide) ?_
          exact G.at (ih (by omega) (by omega) ((rU_yes hlt (b01_n c_36)).symm.trans he)) ⟨rfl, rfl, rfl, vI (nI_1 j), vI (by exact nv0_k (nle c_41 (by omega) (by omega))), trivial⟩
        · have h41 := nnle c_41 (by omega) (by omega)
          refine g_bipush (v := 10) hX dX5_number_44 (by decide) ?_
          refine g_iload hX dX5_number_46 rfl ?_
          refine g_imul hX dX5_number_48 ?_
          refine g_aload_n hX dX5_number_49 rfl rfl ?_
          refine g_get5R hX 17 dX5_number_50 b_fl_X5_46 hm.k0 (by decide) hm.q13 ?_
          refine g_aload_n hX dX5_number_53 rfl rfl ?_
          refine g_get5I hX 19 dX5_number_54 b_fl_X5_115 hm.k0 (by decide) ?_
          try simp (disch := decide) only [rS_eq, rS_ne, rS_rS, pk_un, pk_us]
          refine g_iload_n hX dX5_number_57 rfl rfl ?_
          refine g_iadd hX dX5_number_58 ?_
          rw [nI_add]
          refine g_ialdN hX dX5_number_59 hm.k13 (⟨rfl, by omega⟩) (by decide) ?_
          try simp (disch := decide) only [rS_eq, rS_ne, rS_rS, pk_un, pk_us]
          rw [hT _ hlt]
          refine g_iadd hX dX5_number_60 ?_
          refine g_bipush (v := 48) hX dX5_number_61 (by decide) ?_
          refine g_isub hX dX5_number_63 ?_
          refine g_goto (tgt := 69) hX dX5_number_64 (by decide) ?_
          refine g_istore hX dX5_number_69 (by decide) ?_
          refine g_iinc hX dX5_number_71 rfl (d := 1) (by decide) ?_
          refine g_goto (tgt := 9) hX dX5_number_74 (by decide) ?_
          exact G.at (ih (by omega) (by omega) ((rU_yes hlt (b01_n c_36)).symm.trans he)) ⟨rfl, rfl, rfl, vI (nI_1 j), vI (by exact nv0_s h41), trivial⟩
    )
  refine g_aload_n hX dX5_number_0 rfl rfl ?_
  refine g_callV _ hX dX5_number_1 k_X5_132 ⟨by decide, by decide⟩ (by decide) hm.k0 rfl rfl (m_skip hm ha ht h150 ham hT) rfl (Nat.le_of_ble_eq_true rfl) (fun r1 I1 L1 hq => ?_)
  obtain ⟨e1, e2, e3⟩ := hq
  subst e1; rw [e2, e3]
  refine g_iconst (v := 0) hX dX5_number_4 (by decide) ?_
  refine g_istore_n hX dX5_number_5 rfl (by decide) ?_
  refine g_iconst (v := 0) hX dX5_number_6 (by decide) ?_
  refine g_istore hX dX5_number_7 (by decide) ?_
  exact G.at (loop 0 (Nat.zero_le _) hs rfl) ⟨rfl, rfl, rfl, rfl, rfl, trivial⟩
set_option maxHeartbeats 4000000 in
set_option maxRecDepth 100000 in
theorem m_ends {w : WG} {I : SI} {L : SL} (hm : ML w) {T : Nat → Int32} {a m : Nat} (ha : I 0 19 = nI a) (ht : I 0 18 = nI m) (h150 : m ≤ 150) (ham : a ≤ m) (hT : ∀ i, i < m → I 13 i = T i) : Ok w mX5_ends [.ref (gA w 0)] I L (EM I L T m a) := by
  refine Ok.of (by decide) (Nat.le_of_ble_eq_true rfl) (fun X hX => ?_)
  have hs : sk T m a ≤ m := rU_le ham
  refine g_aload_n hX dX5_ends_0 rfl rfl ?_
  refine g_callV _ hX dX5_ends_1 k_X5_132 ⟨by decide, by decide⟩ (by decide) hm.k0 rfl rfl (m_skip hm ha ht h150 ham hT) rfl (Nat.le_of_ble_eq_true rfl) (fun r1 I1 L1 hq => ?_)
  obtain ⟨e1, e2, e3⟩ := hq
  subst e1; rw [e2, e3]
  refine g_aload_n hX dX5_ends_4 rfl rfl ?_
  refine g_callVp _ hX dX5_ends_5 k_X5_118 ⟨by decide, by decide⟩ (by decide) hm.k0 rfl rfl (m_here (T := T) (a := sk T m a) (m := m) hm (by rw [rS_eq, pk_us]) (by rw [rS_eq, pk_un (by decide)]; exact ht) h150 hs (fun i hi => by rw [rS_ne _ _ _ (by decide)]; exact hT i hi)) rfl (Nat.le_of_ble_eq_true rfl) ?_
  refine g_bipush (v := 59) hX dX5_ends_8 (by decide) ?_
  refine g_icmp_eq (tgt := 15) hX dX5_ends_10 (by decide) (fun c_10 => ?_) (fun c_10 => ?_)
  · refine g_aload_n hX dX5_ends_15 rfl rfl ?_
    refine g_dup hX dX5_ends_16 rfl ?_
    refine g_get5I hX 19 dX5_ends_17 b_fl_X5_115 hm.k0 (by decide) ?_
    try simp (disch := decide) only [rS_eq, rS_ne, rS_rS, pk_un, pk_us]
    refine g_iconst (v := 1) hX dX5_ends_20 (by decide) ?_
    refine g_iadd hX dX5_ends_21 ?_
    refine g_put5I hX 19 dX5_ends_22 b_fl_X5_115 hm.k0 pf5_19 ?_
    try simp (disch := decide) only [rS_eq, rS_ne, rS_rS, pk_un, pk_us]
    refine g_iconst (v := 1) hX dX5_ends_25 (by decide) ?_
    exact g_zret hX dX5_ends_26 rfl rfl (by have hlt : sk T m a < m := Nat.lt_of_not_le (fun z => by rw [if_neg (by omega)] at c_10; exact absurd c_10 (by decide)); rw [if_pos hlt] at c_10; have hyes : SMC T m a := ⟨hlt, c_10⟩; exact ⟨by rw [show b01 (SMC T m a) = (1 : Int32) from if_pos hyes], rfl, _, rfl, fun k h1 => by rw [pk_un h1, pk_un h1], fun z => absurd hyes z, fun _ => by rw [pk_us, nI_1]⟩)
  · refine g_iconst (v := 0) hX dX5_ends_13 (by decide) ?_
    exact g_zret hX dX5_ends_14 rfl rfl (by have hno : ¬ SMC T m a := (fun z => c_10 (by rw [if_pos z.1]; exact z.2)); exact ⟨by rw [show b01 (SMC T m a) = (0 : Int32) from if_neg hno], rfl, _, rfl, fun k h1 => pk_un h1, fun _ => pk_us, fun z => absurd z hno⟩)
