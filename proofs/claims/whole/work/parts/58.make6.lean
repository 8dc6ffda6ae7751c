theorem pn5_0 : pn5 0 := ⟨rfl, by decide, by decide +kernel, by decide +kernel, .array .int, by decide +kernel, fun v => ⟨rfl, rfl⟩⟩
theorem pn5_6 : pn5 6 := ⟨rfl, by decide, by decide +kernel, by decide +kernel, .array .int, by decide +kernel, fun v => ⟨rfl, rfl⟩⟩
theorem pn5_7 : pn5 7 := ⟨rfl, by decide, by decide +kernel, by decide +kernel, .array .int, by decide +kernel, fun v => ⟨rfl, rfl⟩⟩
theorem pn5_8 : pn5 8 := ⟨rfl, by decide, by decide +kernel, by decide +kernel, .array .int, by decide +kernel, fun v => ⟨rfl, rfl⟩⟩
theorem pn5_9 : pn5 9 := ⟨rfl, by decide, by decide +kernel, by decide +kernel, .array .int, by decide +kernel, fun v => ⟨rfl, rfl⟩⟩
theorem pn5_10 : pn5 10 := ⟨rfl, by decide, by decide +kernel, by decide +kernel, .array .int, by decide +kernel, fun v => ⟨rfl, rfl⟩⟩
theorem pn5_11 : pn5 11 := ⟨rfl, by decide, by decide +kernel, by decide +kernel, .array .int, by decide +kernel, fun v => ⟨rfl, rfl⟩⟩
theorem pn5_12 : pn5 12 := ⟨rfl, by decide, by decide +kernel, by decide +kernel, .array .int, by decide +kernel, fun v => ⟨rfl, rfl⟩⟩
theorem pn5_13 : pn5 13 := ⟨rfl, by decide, by decide +kernel, by decide +kernel, .array .int, by decide +kernel, fun v => ⟨rfl, rfl⟩⟩
theorem pn5_14 : pn5 14 := ⟨rfl, by decide, by decide +kernel, by decide +kernel, .array .int, by decide +kernel, fun v => ⟨rfl, rfl⟩⟩
theorem pn5_15 : pn5 15 := ⟨rfl, by decide, by decide +kernel, by decide +kernel, .array .int, by decide +kernel, fun v => ⟨rfl, rfl⟩⟩
theorem pn5_16 : pn5 16 := ⟨rfl, by decide, by decide +kernel, by decide +kernel, .array .int, by decide +kernel, fun v => ⟨rfl, rfl⟩⟩
theorem pn5_17 : pn5 17 := ⟨rfl, by decide, by decide +kernel, by decide +kernel, .array .int, by decide +kernel, fun v => ⟨rfl, rfl⟩⟩
theorem pn5_23 : pn5 23 := ⟨rfl, by decide, by decide +kernel, by decide +kernel, .array .int, by decide +kernel, fun v => ⟨rfl, rfl⟩⟩
theorem pn5_24 : pn5 24 := ⟨rfl, by decide, by decide +kernel, by decide +kernel, .array .int, by decide +kernel, fun v => ⟨rfl, rfl⟩⟩
theorem pn5_26 : pn5 26 := ⟨rfl, by decide, by decide +kernel, by decide +kernel, .array .int, by decide +kernel, fun v => ⟨rfl, rfl⟩⟩
theorem pn5_28 : pn5 28 := ⟨rfl, by decide, by decide +kernel, by decide +kernel, .array .int, by decide +kernel, fun v => ⟨rfl, rfl⟩⟩
theorem pn5_31 : pn5 31 := ⟨rfl, by decide, by decide +kernel, by decide +kernel, .array .int, by decide +kernel, fun v => ⟨rfl, rfl⟩⟩
theorem pn5_32 : pn5 32 := ⟨rfl, by decide, by decide +kernel, by decide +kernel, .array .int, by decide +kernel, fun v => ⟨rfl, rfl⟩⟩
theorem MK.l {w0 w : WG} {I0 I : SI} {L0 L : SL} {o : Nat} {κs : List (Nat × Nat)} {rs : List Nat} (h : MK w0 I0 L0 o κs rs w I L) (ho : o < (gK w0).length) (k : Nat) (x : Int64) : MK w0 I0 (rS L0 o (vp_updL (L0 o) k x)) o κs rs w I (rS L o (vp_updL (L o) k x)) := by
  obtain ⟨h1, h2, h3, h4, h5, h6⟩ := h
  refine ⟨h1, h2, h3, h4, fun i hi => ⟨(h5 i hi).1, ?_⟩, h6⟩
  by_cases e : i = o
  · subst e; rw [rS_eq, rS_eq, (h5 i hi).2]
  · rw [rS_ne _ _ _ e, rS_ne _ _ _ e]; exact (h5 i hi).2
/-- what the model's constructor leaves -/
def QIN (w : WG) : QW := fun r w' I' L' => r = none ∧ ML w' ∧ (gK w').length = 20 ∧ gA w' 0 = gA w 0 ∧ (∀ o k, o < 20 → I' o k = 0) ∧ L' 0 29 = 0 ∧ L' 0 30 = 1
set_option maxHeartbeats 4000000 in
set_option maxRecDepth 100000 in
theorem ok_initM {w0 : WG} {I0 : SI} {L0 : SL} (hl0 : (gK w0).length = 1) (hk : (gK w0)[0]? = some (4, 0)) (h00 : I0 0 = fun _ => 0) (hL0 : L0 0 = fun _ => 0) : OkM w0 mX5_init [.ref (gA w0 0)] I0 L0 (QIN w0) 19 645 := by
  have ho : 0 < (gK w0).length := by omega
  refine OkM.of (by decide) (Nat.le_of_ble_eq_true rfl) (fun X hX => ?_)
  have st19 : ∀ (X : CT) (w : WG) (I : SI) (L : SL), MK w0 I0 (rS L0 0 (vp_updL (L0 0) 30 1)) 0 [(6, 3), (6, 4), (6, 4), (6, 4), (6, 7), (6, 7), (6, 7), (6, 7), (6, 6), (6, 6), (6, 6), (6, 6), (6, 150), (6, 8), (6, 28), (6, 80), (6, 10), (6, 300), (6, 2)] [0, 6, 7, 8, 9, 10, 11, 12, 13, 14, 15, 16, 17, 23, 24, 26, 28, 31, 32] w I L → Cy X w mX5_init (QIN w0) 0 0 → G X w mX5_init I L 158 (lvO [(0, .ref (gA w0 0))]) [] := by
    intro X w I L hM hX
    have hK : ∀ i, (gK w)[i + 1]? = ([(6, 3), (6, 4), (6, 4), (6, 4), (6, 7), (6, 7), (6, 7), (6, 7), (6, 6), (6, 6), (6, 6), (6, 6), (6, 150), (6, 8), (6, 28), (6, 80), (6, 10), (6, 300), (6, 2)] : List (Nat × Nat))[i]? := fun i => by
      rw [hM.1, List.getElem?_append_right (by omega), show i + 1 - (gK w0).length = i by omega]
    have hm : ML w := ⟨by rw [hM.1, List.getElem?_append_left (by omega)]; exact hk, hK 0, hK 1, hK 2, hK 3, hK 4, hK 5, hK 6, hK 7, hK 8, hK 9, hK 10, hK 11, hK 12, hK 13, hK 14, hK 15, hK 16, hK 17, hK 18, by have z := hM.2.2.2.1 0 0 rfl; rw [hl0, show 1 + 0 = 1 by decide] at z; exact z, by have z := hM.2.2.2.1 1 6 rfl; rw [hl0, show 1 + 1 = 2 by decide] at z; exact z, by have z := hM.2.2.2.1 2 7 rfl; rw [hl0, show 1 + 2 = 3 by decide] at z; exact z, by have z := hM.2.2.2.1 3 8 rfl; rw [hl0, show 1 + 3 = 4 by decide] at z; exact z, by have z := hM.2.2.2.1 4 9 rfl; rw [hl0, show 1 + 4 = 5 by decide] at z; exact z, by have z := hM.2.2.2.1 5 10 rfl; rw [hl0, show 1 + 5 = 6 by decide] at z; exact z, by have z := hM.2.2.2.1 6 11 rfl; rw [hl0, show 1 + 6 = 7 by decide] at z; exact z, by have z := hM.2.2.2.1 7 12 rfl; rw [hl0, show 1 + 7 = 8 by decide] at z; exact z, by have z := hM.2.2.2.1 8 13 rfl; rw [hl0, show 1 + 8 = 9 by decide] at z; exact z, by have z := hM.2.2.2.1 9 14 rfl; rw [hl0, show 1 + 9 = 10 by decide] at z; exact z, by have z := hM.2.2.2.1 10 15 rfl; rw [hl0, show 1 + 10 = 11 by decide] at z; exact z, by have z := hM.2.2.2.1 11 16 rfl; rw [hl0, show 1 + 11 = 12 by decide] at z; exact z, by have z := hM.2.2.2.1 12 17 rfl; rw [hl0, show 1 + 12 = 13 by decide] at z; exact z, by have z := hM.2.2.2.1 13 23 rfl; rw [hl0, show 1 + 13 = 14 by decide] at z; exact z, by have z := hM.2.2.2.1 14 24 rfl; rw [hl0, show 1 + 14 = 15 by decide] at z; exact z, by have z := hM.2.2.2.1 15 26 rfl; rw [hl0, show 1 + 15 = 16 by decide] at z; exact z, by have z := hM.2.2.2.1 16 28 rfl; rw [hl0, show 1 + 16 = 17 by decide] at z; exact z, by have z := hM.2.2.2.1 17 31 rfl; rw [hl0, show 1 + 17 = 18 by decide] at z; exact z, by have z := hM.2.2.2.1 18 32 rfl; rw [hl0, show 1 + 18 = 19 by decide] at z; exact z⟩
    have hl : (gK w).length = 20 := by rw [hM.1, List.length_append, hl0]; rfl
    have hI : ∀ o k, o < 20 → I o k = 0 := fun o k ho => by
      rcases Nat.eq_zero_or_pos o with rfl | h0
      · rw [(hM.2.2.2.2.1 0 (by omega)).1, h00]
      · have z := hM.2.2.2.2.2 (o - 1) (show o - 1 < 19 by omega)
        rw [hl0, show 1 + (o - 1) = o by omega] at z; rw [z]
    have hL : L 0 = vp_updL (L0 0) 30 1 := by rw [(hM.2.2.2.2.1 0 (by omega)).2, rS_eq]
    have ha : gA w 0 = gA w0 0 := hM.2.1 0 (by omega)
    rw [← ha]
    refine h_aload_n hX dX5_init_158 rfl rfl ?_
    refine h_callV _ hX dX5_init_159 k_X5_71 ⟨by decide, by decide⟩ (by decide) hm.k0 rfl rfl (m_begin hm) rfl (Nat.le_of_ble_eq_true rfl) (fun r1 I1 L2 hq => ?_)
    obtain ⟨e1, e2, e3⟩ := hq
    subst e1; rw [e2, e3]
    refine h_vret hX dX5_init_162 rfl ⟨rfl, hm, hl, ha, fun o k ho => ?_, ?_, ?_⟩
    · unfold bgJ
      by_cases e : o = 0
      · subst e; rw [rS_eq]
        have z := hI 0
        have u : ∀ (g : Nat → Int32) (q : Nat), (∀ k, g k = 0) → ∀ k, upd g q 0 k = 0 := fun g q hg k => by
          by_cases e : k = q
          · subst e; exact pk_us
          · rw [pk_un e]; exact hg k
        exact u _ _ (u _ _ (u _ _ (u _ _ (u _ _ (u _ _ (fun k => z k (by decide))))))) k
      · rw [rS_ne _ _ _ e]; exact hI o k ho
    · rw [hL, hL0]; rfl
    · rw [hL, hL0]; rfl
  have st18 : ∀ (X : CT) (w : WG) (I : SI) (L : SL), MK w0 I0 (rS L0 0 (vp_updL (L0 0) 30 1)) 0 [(6, 3), (6, 4), (6, 4), (6, 4), (6, 7), (6, 7), (6, 7), (6, 7), (6, 6), (6, 6), (6, 6), (6, 6), (6, 150), (6, 8), (6, 28), (6, 80), (6, 10), (6, 300)] [0, 6, 7, 8, 9, 10, 11, 12, 13, 14, 15, 16, 17, 23, 24, 26, 28, 31] w I L → Cy X w mX5_init (QIN w0) 1 2 → G X w mX5_init I L 151 (lvO [(0, .ref (gA w0 0))]) [] := by
    intro X w I L hM hX
    refine h_aload_n hX dX5_init_151 rfl rfl ?_
    refine h_iconst (v := 2) hX dX5_init_152 (by decide) ?_
    refine h_newI 0 0 2 hX dX5_init_153 b_ac_int rfl (by decide) (fun q hX1 => ?_)
    rw [← hM.2.1 0 ho, ← gA_wN_at (hM.at hk)]
    refine h_putN5 hX1 32 dX5_init_155 b_fl_X5_68 (gK_wN_at (hM.at hk)) pn5_32 ⟨rfl, rfl⟩ (fun hX2 => ?_)
    rw [gA_wN_at (hM.at hk), hM.2.1 0 ho]
    exact st19 _ _ _ _ (hM.step rfl ho (by decide)) hX2
  have st17 : ∀ (X : CT) (w : WG) (I : SI) (L : SL), MK w0 I0 (rS L0 0 (vp_updL (L0 0) 30 1)) 0 [(6, 3), (6, 4), (6, 4), (6, 4), (6, 7), (6, 7), (6, 7), (6, 7), (6, 6), (6, 6), (6, 6), (6, 6), (6, 150), (6, 8), (6, 28), (6, 80), (6, 10)] [0, 6, 7, 8, 9, 10, 11, 12, 13, 14, 15, 16, 17, 23, 24, 26, 28] w I L → Cy X w mX5_init (QIN w0) 2 302 → G X w mX5_init I L 142 (lvO [(0, .ref (gA w0 0))]) [] := by
    intro X w I L hM hX
    refine h_aload_n hX dX5_init_142 rfl rfl ?_
    refine h_sipush (v := 300) hX dX5_init_143 (by decide) ?_
    refine h_newI 1 2 300 hX dX5_init_146 b_ac_int rfl (by decide) (fun q hX1 => ?_)
    rw [← hM.2.1 0 ho, ← gA_wN_at (hM.at hk)]
    refine h_putN5 hX1 31 dX5_init_148 b_fl_X5_65 (gK_wN_at (hM.at hk)) pn5_31 ⟨rfl, rfl⟩ (fun hX2 => ?_)
    rw [gA_wN_at (hM.at hk), hM.2.1 0 ho]
    exact st18 _ _ _ _ (hM.step rfl ho (by decide)) hX2
  have st16 : ∀ (X : CT) (w : WG) (I : SI) (L : SL), MK w0 I0 L0 0 [(6, 3), (6, 4), (6, 4), (6, 4), (6, 7), (6, 7), (6, 7), (6, 7), (6, 6), (6, 6), (6, 6), (6, 6), (6, 150), (6, 8), (6, 28), (6, 80)] [0, 6, 7, 8, 9, 10, 11, 12, 13, 14, 15, 16, 17, 23, 24, 26] w I L → Cy X w mX5_init (QIN w0) 3 312 → G X w mX5_init I L 129 (lvO [(0, .ref (gA w0 0))]) [] := by
    intro X w I L hM hX
    refine h_aload_n hX dX5_init_129 rfl rfl ?_
    refine h_bipush (v := 10) hX dX5_init_130 (by decide) ?_
    refine h_newI 2 302 10 hX dX5_init_132 b_ac_int rfl (by decide) (fun q hX1 => ?_)
    rw [← hM.2.1 0 ho, ← gA_wN_at (hM.at hk)]
    refine h_putN5 hX1 28 dX5_init_134 b_fl_X5_58 (gK_wN_at (hM.at hk)) pn5_28 ⟨rfl, rfl⟩ (fun hX2 => ?_)
    rw [gA_wN_at (hM.at hk), hM.2.1 0 ho]
    have hM2 := hM.step rfl ho (by decide) (κ := (6, 10)) (q := q) (k := 28)
    generalize wP (wN w (6, 10) q) 0 28 (some q) = w2 at hX2 hM2 ⊢
    generalize nI0 w I = I2 at hM2 ⊢
    generalize nL0 w L = L2 at hM2 ⊢
    have hM3 := hM2.l ho 30 1
    refine h_aload_n hX2 dX5_init_137 rfl rfl ?_
    refine h_lconst (v := 1) hX2 dX5_init_138 (by decide) ?_
    rw [← hM2.2.1 0 ho]
    refine h_put5L hX2 30 dX5_init_139 b_fl_X5_61 (hM2.at hk) pf5_30 ?_
    rw [hM2.2.1 0 ho]
    exact st17 _ _ _ _ hM3 hX2
  have st15 : ∀ (X : CT) (w : WG) (I : SI) (L : SL), MK w0 I0 L0 0 [(6, 3), (6, 4), (6, 4), (6, 4), (6, 7), (6, 7), (6, 7), (6, 7), (6, 6), (6, 6), (6, 6), (6, 6), (6, 150), (6, 8), (6, 28)] [0, 6, 7, 8, 9, 10, 11, 12, 13, 14, 15, 16, 17, 23, 24] w I L → Cy X w mX5_init (QIN w0) 4 392 → G X w mX5_init I L 121 (lvO [(0, .ref (gA w0 0))]) [] := by
    intro X w I L hM hX
    refine h_aload_n hX dX5_init_121 rfl rfl ?_
    refine h_bipush (v := 80) hX dX5_init_122 (by decide) ?_
    refine h_newI 3 312 80 hX dX5_init_124 b_ac_int rfl (by decide) (fun q hX1 => ?_)
    rw [← hM.2.1 0 ho, ← gA_wN_at (hM.at hk)]
    refine h_putN5 hX1 26 dX5_init_126 b_fl_X5_55 (gK_wN_at (hM.at hk)) pn5_26 ⟨rfl, rfl⟩ (fun hX2 => ?_)
    rw [gA_wN_at (hM.at hk), hM.2.1 0 ho]
    exact st16 _ _ _ _ (hM.step rfl ho (by decide)) hX2
  have st14 : ∀ (X : CT) (w : WG) (I : SI) (L : SL), MK w0 I0 L0 0 [(6, 3), (6, 4), (6, 4), (6, 4), (6, 7), (6, 7), (6, 7), (6, 7), (6, 6), (6, 6), (6, 6), (6, 6), (6, 150), (6, 8)] [0, 6, 7, 8, 9, 10, 11, 12, 13, 14, 15, 16, 17, 23] w I L → Cy X w mX5_init (QIN w0) 5 420 → G X w mX5_init I L 113 (lvO [(0, .ref (gA w0 0))]) [] := by
    intro X w I L hM hX
    refine h_aload_n hX dX5_init_113 rfl rfl ?_
    refine h_bipush (v := 28) hX dX5_init_114 (by decide) ?_
    refine h_newI 4 392 28 hX dX5_init_116 b_ac_int rfl (by decide) (fun q hX1 => ?_)
    rw [← hM.2.1 0 ho, ← gA_wN_at (hM.at hk)]
    refine h_putN5 hX1 24 dX5_init_118 b_fl_X5_52 (gK_wN_at (hM.at hk)) pn5_24 ⟨rfl, rfl⟩ (fun hX2 => ?_)
    rw [gA_wN_at (hM.at hk), hM.2.1 0 ho]
    exact st15 _ _ _ _ (hM.step rfl ho (by decide)) hX2
  have st13 : ∀ (X : CT) (w : WG) (I : SI) (L : SL), MK w0 I0 L0 0 [(6, 3), (6, 4), (6, 4), (6, 4), (6, 7), (6, 7), (6, 7), (6, 7), (6, 6), (6, 6), (6, 6), (6, 6), (6, 150)] [0, 6, 7, 8, 9, 10, 11, 12, 13, 14, 15, 16, 17] w I L → Cy X w mX5_init (QIN w0) 6 428 → G X w mX5_init I L 105 (lvO [(0, .ref (gA w0 0))]) [] := by
    intro X w I L hM hX
    refine h_aload_n hX dX5_init_105 rfl rfl ?_
    refine h_bipush (v := 8) hX dX5_init_106 (by decide) ?_
    refine h_newI 5 420 8 hX dX5_init_108 b_ac_int rfl (by decide) (fun q hX1 => ?_)
    rw [← hM.2.1 0 ho, ← gA_wN_at (hM.at hk)]
    refine h_putN5 hX1 23 dX5_init_110 b_fl_X5_49 (gK_wN_at (hM.at hk)) pn5_23 ⟨rfl, rfl⟩ (fun hX2 => ?_)
    rw [gA_wN_at (hM.at hk), hM.2.1 0 ho]
    exact st14 _ _ _ _ (hM.step rfl ho (by decide)) hX2
  have st12 : ∀ (X : CT) (w : WG) (I : SI) (L : SL), MK w0 I0 L0 0 [(6, 3), (6, 4), (6, 4), (6, 4), (6, 7), (6, 7), (6, 7), (6, 7), (6, 6), (6, 6), (6, 6), (6, 6)] [0, 6, 7, 8, 9, 10, 11, 12, 13, 14, 15, 16] w I L → Cy X w mX5_init (QIN w0) 7 578 → G X w mX5_init I L 96 (lvO [(0, .ref (gA w0 0))]) [] := by
    intro X w I L hM hX
    refine h_aload_n hX dX5_init_96 rfl rfl ?_
    refine h_sipush (v := 150) hX dX5_init_97 (by decide) ?_
    refine h_newI 6 428 150 hX dX5_init_100 b_ac_int rfl (by decide) (fun q hX1 => ?_)
    rw [← hM.2.1 0 ho, ← gA_wN_at (hM.at hk)]
    refine h_putN5 hX1 17 dX5_init_102 b_fl_X5_46 (gK_wN_at (hM.at hk)) pn5_17 ⟨rfl, rfl⟩ (fun hX2 => ?_)
    rw [gA_wN_at (hM.at hk), hM.2.1 0 ho]
    exact st13 _ _ _ _ (hM.step rfl ho (by decide)) hX2
  have st11 : ∀ (X : CT) (w : WG) (I : SI) (L : SL), MK w0 I0 L0 0 [(6, 3), (6, 4), (6, 4), (6, 4), (6, 7), (6, 7), (6, 7), (6, 7), (6, 6), (6, 6), (6, 6)] [0, 6, 7, 8, 9, 10, 11, 12, 13, 14, 15] w I L → Cy X w mX5_init (QIN w0) 8 584 → G X w mX5_init I L 88 (lvO [(0, .ref (gA w0 0))]) [] := by
    intro X w I L hM hX
    refine h_aload_n hX dX5_init_88 rfl rfl ?_
    refine h_bipush (v := 6) hX dX5_init_89 (by decide) ?_
    refine h_newI 7 578 6 hX dX5_init_91 b_ac_int rfl (by decide) (fun q hX1 => ?_)
    rw [← hM.2.1 0 ho, ← gA_wN_at (hM.at hk)]
    refine h_putN5 hX1 16 dX5_init_93 b_fl_X5_43 (gK_wN_at (hM.at hk)) pn5_16 ⟨rfl, rfl⟩ (fun hX2 => ?_)
    rw [gA_wN_at (hM.at hk), hM.2.1 0 ho]
    exact st12 _ _ _ _ (hM.step rfl ho (by decide)) hX2
  have st10 : ∀ (X : CT) (w : WG) (I : SI) (L : SL), MK w0 I0 L0 0 [(6, 3), (6, 4), (6, 4), (6, 4), (6, 7), (6, 7), (6, 7), (6, 7), (6, 6), (6, 6)] [0, 6, 7, 8, 9, 10, 11, 12, 13, 14] w I L → Cy X w mX5_init (QIN w0) 9 590 → G X w mX5_init I L 80 (lvO [(0, .ref (gA w0 0))]) [] := by
    intro X w I L hM hX
    refine h_aload_n hX dX5_init_80 rfl rfl ?_
    refine h_bipush (v := 6) hX dX5_init_81 (by decide) ?_
    refine h_newI 8 584 6 hX dX5_init_83 b_ac_int rfl (by decide) (fun q hX1 => ?_)
    rw [← hM.2.1 0 ho, ← gA_wN_at (hM.at hk)]
    refine h_putN5 hX1 15 dX5_init_85 b_fl_X5_40 (gK_wN_at (hM.at hk)) pn5_15 ⟨rfl, rfl⟩ (fun hX2 => ?_)
    rw [gA_wN_at (hM.at hk), hM.2.1 0 ho]
    exact st11 _ _ _ _ (hM.step rfl ho (by decide)) hX2
  have st9 : ∀ (X : CT) (w : WG) (I : SI) (L : SL), MK w0 I0 L0 0 [(6, 3), (6, 4), (6, 4), (6, 4), (6, 7), (6, 7), (6, 7), (6, 7), (6, 6)] [0, 6, 7, 8, 9, 10, 11, 12, 13] w I L → Cy X w mX5_init (QIN w0) 10 596 → G X w mX5_init I L 72 (lvO [(0, .ref (gA w0 0))]) [] := by
    intro X w I L hM hX
    refine h_aload_n hX dX5_init_72 rfl rfl ?_
    refine h_bipush (v := 6) hX dX5_init_73 (by decide) ?_
    refine h_newI 9 590 6 hX dX5_init_75 b_ac_int rfl (by decide) (fun q hX1 => ?_)
    rw [← hM.2.1 0 ho, ← gA_wN_at (hM.at hk)]
    refine h_putN5 hX1 14 dX5_init_77 b_fl_X5_37 (gK_wN_at (hM.at hk)) pn5_14 ⟨rfl, rfl⟩ (fun hX2 => ?_)
    rw [gA_wN_at (hM.at hk), hM.2.1 0 ho]
    exact st10 _ _ _ _ (hM.step rfl ho (by decide)) hX2
  have st8 : ∀ (X : CT) (w : WG) (I : SI) (L : SL), MK w0 I0 L0 0 [(6, 3), (6, 4), (6, 4), (6, 4), (6, 7), (6, 7), (6, 7), (6, 7)] [0, 6, 7, 8, 9, 10, 11, 12] w I L → Cy X w mX5_init (QIN w0) 11 602 → G X w mX5_init I L 64 (lvO [(0, .ref (gA w0 0))]) [] := by
    intro X w I L hM hX
    refine h_aload_n hX dX5_init_64 rfl rfl ?_
    refine h_bipush (v := 6) hX dX5_init_65 (by decide) ?_
    refine h_newI 10 596 6 hX dX5_init_67 b_ac_int rfl (by decide) (fun q hX1 => ?_)
    rw [← hM.2.1 0 ho, ← gA_wN_at (hM.at hk)]
    refine h_putN5 hX1 13 dX5_init_69 b_fl_X5_34 (gK_wN_at (hM.at hk)) pn5_13 ⟨rfl, rfl⟩ (fun hX2 => ?_)
    rw [gA_wN_at (hM.at hk), hM.2.1 0 ho]
    exact st9 _ _ _ _ (hM.step rfl ho (by decide)) hX2
  have st7 : ∀ (X : CT) (w : WG) (I : SI) (L : SL), MK w0 I0 L0 0 [(6, 3), (6, 4), (6, 4), (6, 4), (6, 7), (6, 7), (6, 7)] [0, 6, 7, 8, 9, 10, 11] w I L → Cy X w mX5_init (QIN w0) 12 609 → G X w mX5_init I L 56 (lvO [(0, .ref (gA w0 0))]) [] := by
    intro X w I L hM hX
    refine h_aload_n hX dX5_init_56 rfl rfl ?_
    refine h_bipush (v := 7) hX dX5_init_57 (by decide) ?_
    refine h_newI 11 602 7 hX dX5_init_59 b_ac_int rfl (by decide) (fun q hX1 => ?_)
    rw [← hM.2.1 0 ho, ← gA_wN_at (hM.at hk)]
    refine h_putN5 hX1 12 dX5_init_61 b_fl_X5_31 (gK_wN_at (hM.at hk)) pn5_12 ⟨rfl, rfl⟩ (fun hX2 => ?_)
    rw [gA_wN_at (hM.at hk), hM.2.1 0 ho]
    exact st8 _ _ _ _ (hM.step rfl ho (by decide)) hX2
  have st6 : ∀ (X : CT) (w : WG) (I : SI) (L : SL), MK w0 I0 L0 0 [(6, 3), (6, 4), (6, 4), (6, 4), (6, 7), (6, 7)] [0, 6, 7, 8, 9, 10] w I L → Cy X w mX5_init (QIN w0) 13 616 → G X w mX5_init I L 48 (lvO [(0, .ref (gA w0 0))]) [] := by
    intro X w I L hM hX
    refine h_aload_n hX dX5_init_48 rfl rfl ?_
    refine h_bipush (v := 7) hX dX5_init_49 (by decide) ?_
    refine h_newI 12 609 7 hX dX5_init_51 b_ac_int rfl (by decide) (fun q hX1 => ?_)
    rw [← hM.2.1 0 ho, ← gA_wN_at (hM.at hk)]
    refine h_putN5 hX1 11 dX5_init_53 b_fl_X5_28 (gK_wN_at (hM.at hk)) pn5_11 ⟨rfl, rfl⟩ (fun hX2 => ?_)
    rw [gA_wN_at (hM.at hk), hM.2.1 0 ho]
    exact st7 _ _ _ _ (hM.step rfl ho (by decide)) hX2
  have st5 : ∀ (X : CT) (w : WG) (I : SI) (L : SL), MK w0 I0 L0 0 [(6, 3), (6, 4), (6, 4), (6, 4), (6, 7)] [0, 6, 7, 8, 9] w I L → Cy X w mX5_init (QIN w0) 14 623 → G X w mX5_init I L 40 (lvO [(0, .ref (gA w0 0))]) [] := by
    intro X w I L hM hX
    refine h_aload_n hX dX5_init_40 rfl rfl ?_
    refine h_bipush (v := 7) hX dX5_init_41 (by decide) ?_
    refine h_newI 13 616 7 hX dX5_init_43 b_ac_int rfl (by decide) (fun q hX1 => ?_)
    rw [← hM.2.1 0 ho, ← gA_wN_at (hM.at hk)]
    refine h_putN5 hX1 10 dX5_init_45 b_fl_X5_25 (gK_wN_at (hM.at hk)) pn5_10 ⟨rfl, rfl⟩ (fun hX2 => ?_)
    rw [gA_wN_at (hM.at hk), hM.2.1 0 ho]
    exact st6 _ _ _ _ (hM.step rfl ho (by decide)) hX2
  have st4 : ∀ (X : CT) (w : WG) (I : SI) (L : SL), MK w0 I0 L0 0 [(6, 3), (6, 4), (6, 4), (6, 4)] [0, 6, 7, 8] w I L → Cy X w mX5_init (QIN w0) 15 630 → G X w mX5_init I L 32 (lvO [(0, .ref (gA w0 0))]) [] := by
    intro X w I L hM hX
    refine h_aload_n hX dX5_init_32 rfl rfl ?_
    refine h_bipush (v := 7) hX dX5_init_33 (by decide) ?_
    refine h_newI 14 623 7 hX dX5_init_35 b_ac_int rfl (by decide) (fun q hX1 => ?_)
    rw [← hM.2.1 0 ho, ← gA_wN_at (hM.at hk)]
    refine h_putN5 hX1 9 dX5_init_37 b_fl_X5_22 (gK_wN_at (hM.at hk)) pn5_9 ⟨rfl, rfl⟩ (fun hX2 => ?_)
    rw [gA_wN_at (hM.at hk), hM.2.1 0 ho]
    exact st5 _ _ _ _ (hM.step rfl ho (by decide)) hX2
  have st3 : ∀ (X : CT) (w : WG) (I : SI) (L : SL), MK w0 I0 L0 0 [(6, 3), (6, 4), (6, 4)] [0, 6, 7] w I L → Cy X w mX5_init (QIN w0) 16 634 → G X w mX5_init I L 25 (lvO [(0, .ref (gA w0 0))]) [] := by
    intro X w I L hM hX
    refine h_aload_n hX dX5_init_25 rfl rfl ?_
    refine h_iconst (v := 4) hX dX5_init_26 (by decide) ?_
    refine h_newI 15 630 4 hX dX5_init_27 b_ac_int rfl (by decide) (fun q hX1 => ?_)
    rw [← hM.2.1 0 ho, ← gA_wN_at (hM.at hk)]
    refine h_putN5 hX1 8 dX5_init_29 b_fl_X5_19 (gK_wN_at (hM.at hk)) pn5_8 ⟨rfl, rfl⟩ (fun hX2 => ?_)
    rw [gA_wN_at (hM.at hk), hM.2.1 0 ho]
    exact st4 _ _ _ _ (hM.step rfl ho (by decide)) hX2
  have st2 : ∀ (X : CT) (w : WG) (I : SI) (L : SL), MK w0 I0 L0 0 [(6, 3), (6, 4)] [0, 6] w I L → Cy X w mX5_init (QIN w0) 17 638 → G X w mX5_init I L 18 (lvO [(0, .ref (gA w0 0))]) [] := by
    intro X w I L hM hX
    refine h_aload_n hX dX5_init_18 rfl rfl ?_
    refine h_iconst (v := 4) hX dX5_init_19 (by decide) ?_
    refine h_newI 16 634 4 hX dX5_init_20 b_ac_int rfl (by decide) (fun q hX1 => ?_)
    rw [← hM.2.1 0 ho, ← gA_wN_at (hM.at hk)]
    refine h_putN5 hX1 7 dX5_init_22 b_fl_X5_16 (gK_wN_at (hM.at hk)) pn5_7 ⟨rfl, rfl⟩ (fun hX2 => ?_)
    rw [gA_wN_at (hM.at hk), hM.2.1 0 ho]
    exact st3 _ _ _ _ (hM.step rfl ho (by decide)) hX2
  have st1 : ∀ (X : CT) (w : WG) (I : SI) (L : SL), MK w0 I0 L0 0 [(6, 3)] [0] w I L → Cy X w mX5_init (QIN w0) 18 642 → G X w mX5_init I L 11 (lvO [(0, .ref (gA w0 0))]) [] := by
    intro X w I L hM hX
    refine h_aload_n hX dX5_init_11 rfl rfl ?_
    refine h_iconst (v := 4) hX dX5_init_12 (by decide) ?_
    refine h_newI 17 638 4 hX dX5_init_13 b_ac_int rfl (by decide) (fun q hX1 => ?_)
    rw [← hM.2.1 0 ho, ← gA_wN_at (hM.at hk)]
    refine h_putN5 hX1 6 dX5_init_15 b_fl_X5_13 (gK_wN_at (hM.at hk)) pn5_6 ⟨rfl, rfl⟩ (fun hX2 => ?_)
    rw [gA_wN_at (hM.at hk), hM.2.1 0 ho]
    exact st2 _ _ _ _ (hM.step rfl ho (by decide)) hX2
  have st0 : ∀ (X : CT) (w : WG) (I : SI) (L : SL), MK w0 I0 L0 0 [] [] w I L → Cy X w mX5_init (QIN w0) 19 645 → G X w mX5_init I L 4 (lvO [(0, .ref (gA w0 0))]) [] := by
    intro X w I L hM hX
    refine h_aload_n hX dX5_init_4 rfl rfl ?_
    refine h_iconst (v := 3) hX dX5_init_5 (by decide) ?_
    refine h_newI 18 642 3 hX dX5_init_6 b_ac_int rfl (by decide) (fun q hX1 => ?_)
    rw [← hM.2.1 0 ho, ← gA_wN_at (hM.at hk)]
    refine h_putN5 hX1 0 dX5_init_8 b_fl_X5_1 (gK_wN_at (hM.at hk)) pn5_0 ⟨rfl, rfl⟩ (fun hX2 => ?_)
    rw [gA_wN_at (hM.at hk), hM.2.1 0 ho]
    exact st1 _ _ _ _ (hM.step rfl ho (by decide)) hX2
  refine h_aload_n hX dX5_init_0 rfl rfl ?_
  refine h_objInit hX dX5_init_1 b_ml_X5_7 (by decide) (Nat.le_of_ble_eq_true rfl) ?_
  exact G.at (st0 _ _ _ _ MK.start hX) ⟨rfl, trivial⟩
