/-- what an image of the model holds: a its place, R the row, k the parts that are laid -/
def FIm (J : SI) (a : Nat) (old R : Nat → Int32) (k1 k2 k3 k4 : Nat) : Prop :=
  (∀ x, x < a ∨ a + 150 ≤ x → R x = old x) ∧ R a = J 0 1 ∧ R (a + 1) = J 0 2 ∧ R (a + 2) = J 0 5 ∧ R (a + 3) = J 0 27 ∧ R (a + 4) = J 0 3 ∧ R (a + 5) = J 0 4 ∧
  (∀ c, c < 4 → R (a + 6 + c) = J 3 c ∧ R (a + 10 + c) = J 4 c) ∧ (∀ c, c < k1 → R (a + 14 + c) = J 2 c) ∧
  (∀ k, k < k2 → R (a + 18 + k) = J 5 k ∧ R (a + 25 + k) = J 6 k ∧ R (a + 32 + k) = J 7 k ∧ R (a + 39 + k) = J 8 k) ∧
  (∀ k, k < k3 → R (a + 46 + k) = J 9 k ∧ R (a + 52 + k) = J 10 k ∧ R (a + 58 + k) = J 11 k ∧ R (a + 64 + k) = J 12 k) ∧ ∀ k, k < k4 → R (a + 70 + k) = J 16 k
theorem FIm.s1 {J : SI} {a c : Nat} {old R : Nat → Int32} (h : FIm J a old R c 0 0 0) (hc : c < 4) : FIm J a old (upd R (a + 14 + c) (J 2 c)) (c + 1) 0 0 0 := by
  obtain ⟨h0, h1, h2, h3, h4, h5, h6, h7, h8, -, -, -⟩ := h
  have e : ∀ x, x ≠ a + 14 + c → upd R (a + 14 + c) (J 2 c) x = R x := fun x hx => pk_un hx
  refine ⟨fun x hx => by rw [e x (by omega)]; exact h0 x hx, by rw [e _ (by omega)]; exact h1, by rw [e _ (by omega)]; exact h2, by rw [e _ (by omega)]; exact h3, by rw [e _ (by omega)]; exact h4, by rw [e _ (by omega)]; exact h5, by rw [e _ (by omega)]; exact h6, fun x hx => by rw [e _ (by omega), e _ (by omega)]; exact h7 x hx, fun x hx => ?_, fun x hx => absurd hx (Nat.not_lt_zero x), fun x hx => absurd hx (Nat.not_lt_zero x), fun x hx => absurd hx (Nat.not_lt_zero x)⟩
  by_cases q : x = c
  · subst q; exact pk_us
  · rw [e _ (by omega)]; exact h8 x (by omega)
theorem FIm.s4 {J : SI} {a c : Nat} {old R : Nat → Int32} (h : FIm J a old R 4 7 6 c) (hc : c < 80) : FIm J a old (upd R (a + 70 + c) (J 16 c)) 4 7 6 (c + 1) := by
  obtain ⟨h0, h1, h2, h3, h4, h5, h6, h7, h8, h9, h10, h11⟩ := h
  have e : ∀ x, x ≠ a + 70 + c → upd R (a + 70 + c) (J 16 c) x = R x := fun x hx => pk_un hx
  refine ⟨fun x hx => by rw [e x (by omega)]; exact h0 x hx, by rw [e _ (by omega)]; exact h1, by rw [e _ (by omega)]; exact h2, by rw [e _ (by omega)]; exact h3, by rw [e _ (by omega)]; exact h4, by rw [e _ (by omega)]; exact h5, by rw [e _ (by omega)]; exact h6, fun x hx => by rw [e _ (by omega), e _ (by omega)]; exact h7 x hx, fun x hx => by rw [e _ (by omega)]; exact h8 x hx, fun x hx => by rw [e _ (by omega), e _ (by omega), e _ (by omega), e _ (by omega)]; exact h9 x hx, fun x hx => by rw [e _ (by omega), e _ (by omega), e _ (by omega), e _ (by omega)]; exact h10 x hx, fun x hx => ?_⟩
  by_cases q : x = c
  · subst q; exact pk_us
  · rw [e _ (by omega)]; exact h11 x (by omega)
theorem FIm.s2 {J : SI} {a c : Nat} {old R : Nat → Int32} (h : FIm J a old R 4 c 0 0) (hc : c < 7) : FIm J a old (upd (upd (upd (upd R (a + 18 + c) (J 5 c)) (a + 25 + c) (J 6 c)) (a + 32 + c) (J 7 c)) (a + 39 + c) (J 8 c)) 4 (c + 1) 0 0 := by
  obtain ⟨h0, h1, h2, h3, h4, h5, h6, h7, h8, h9, h10, h11⟩ := h
  have e : ∀ x, x ≠ a + 18 + c → x ≠ a + 25 + c → x ≠ a + 32 + c → x ≠ a + 39 + c → (upd (upd (upd (upd R (a + 18 + c) (J 5 c)) (a + 25 + c) (J 6 c)) (a + 32 + c) (J 7 c)) (a + 39 + c) (J 8 c)) x = R x := fun x x1 x2 x3 x4 => by rw [pk_un x4, pk_un x3, pk_un x2, pk_un x1]
  have e' : ∀ x, (x < a + 18 ∨ a + 46 ≤ x) → (upd (upd (upd (upd R (a + 18 + c) (J 5 c)) (a + 25 + c) (J 6 c)) (a + 32 + c) (J 7 c)) (a + 39 + c) (J 8 c)) x = R x := fun x hx => e x (by omega) (by omega) (by omega) (by omega)
  refine ⟨fun x hx => by rw [e' x (by omega)]; exact h0 x hx, by rw [e' _ (by omega)]; exact h1, by rw [e' _ (by omega)]; exact h2, by rw [e' _ (by omega)]; exact h3, by rw [e' _ (by omega)]; exact h4, by rw [e' _ (by omega)]; exact h5, by rw [e' _ (by omega)]; exact h6, fun x hx => by rw [e' _ (by omega), e' _ (by omega)]; exact h7 x hx, fun x hx => by rw [e' _ (by omega)]; exact h8 x hx, ?_, ?_, fun x hx => absurd hx (Nat.not_lt_zero x)⟩
  · intro x hx
    by_cases q : x = c
    · subst q
      refine ⟨?_, ?_, ?_, ?_⟩
      · rw [pk_un (by omega), pk_un (by omega), pk_un (by omega), pk_us]
      · rw [pk_un (by omega), pk_un (by omega), pk_us]
      · rw [pk_un (by omega), pk_us]
      · rw [pk_us]
    · rw [e _ (by omega) (by omega) (by omega) (by omega), e _ (by omega) (by omega) (by omega) (by omega), e _ (by omega) (by omega) (by omega) (by omega), e _ (by omega) (by omega) (by omega) (by omega)]; exact h9 x (by omega)
  · exact fun x hx => absurd hx (Nat.not_lt_zero x)
theorem FIm.s3 {J : SI} {a c : Nat} {old R : Nat → Int32} (h : FIm J a old R 4 7 c 0) (hc : c < 6) : FIm J a old (upd (upd (upd (upd R (a + 46 + c) (J 9 c)) (a + 52 + c) (J 10 c)) (a + 58 + c) (J 11 c)) (a + 64 + c) (J 12 c)) 4 7 (c + 1) 0 := by
  obtain ⟨h0, h1, h2, h3, h4, h5, h6, h7, h8, h9, h10, h11⟩ := h
  have e : ∀ x, x ≠ a + 46 + c → x ≠ a + 52 + c → x ≠ a + 58 + c → x ≠ a + 64 + c → (upd (upd (upd (upd R (a + 46 + c) (J 9 c)) (a + 52 + c) (J 10 c)) (a + 58 + c) (J 11 c)) (a + 64 + c) (J 12 c)) x = R x := fun x x1 x2 x3 x4 => by rw [pk_un x4, pk_un x3, pk_un x2, pk_un x1]
  have e' : ∀ x, (x < a + 46 ∨ a + 70 ≤ x) → (upd (upd (upd (upd R (a + 46 + c) (J 9 c)) (a + 52 + c) (J 10 c)) (a + 58 + c) (J 11 c)) (a + 64 + c) (J 12 c)) x = R x := fun x hx => e x (by omega) (by omega) (by omega) (by omega)
  refine ⟨fun x hx => by rw [e' x (by omega)]; exact h0 x hx, by rw [e' _ (by omega)]; exact h1, by rw [e' _ (by omega)]; exact h2, by rw [e' _ (by omega)]; exact h3, by rw [e' _ (by omega)]; exact h4, by rw [e' _ (by omega)]; exact h5, by rw [e' _ (by omega)]; exact h6, fun x hx => by rw [e' _ (by omega), e' _ (by omega)]; exact h7 x hx, fun x hx => by rw [e' _ (by omega)]; exact h8 x hx, ?_, ?_, fun x hx => absurd hx (Nat.not_lt_zero x)⟩
  · intro x hx; rw [e' _ (by omega), e' _ (by omega), e' _ (by omega), e' _ (by omega)]; exact h9 x hx
  · intro x hx
    by_cases q : x = c
    · subst q
      refine ⟨?_, ?_, ?_, ?_⟩
      · rw [pk_un (by omega), pk_un (by omega), pk_un (by omega), pk_us]
      · rw [pk_un (by omega), pk_un (by omega), pk_us]
      · rw [pk_un (by omega), pk_us]
      · rw [pk_us]
    · rw [e _ (by omega) (by omega) (by omega) (by omega), e _ (by omega) (by omega) (by omega) (by omega), e _ (by omega) (by omega) (by omega) (by omega), e _ (by omega) (by omega) (by omega) (by omega)]; exact h10 x (by omega)
theorem FIm.go {J J2 : SI} {a : Nat} {old : Nat → Int32} (h0 : J2 0 = J 0) (h3 : J2 3 = J 3) (h4 : J2 4 = J 4) : FIm J a old (layC J2 (a + 4) 4 (upd (upd (upd (upd old a (J 0 1)) (a + 1) (J 0 2)) (a + 2) (J 0 5)) (a + 3) (J 0 27))) 0 0 0 0 := by
  refine ⟨fun x hx => ?_, ?_, ?_, ?_, ?_, ?_, ?_, fun c hc => ⟨?_, ?_⟩, fun x hx => absurd hx (Nat.not_lt_zero x), fun x hx => absurd hx (Nat.not_lt_zero x), fun x hx => absurd hx (Nat.not_lt_zero x), fun x hx => absurd hx (Nat.not_lt_zero x)⟩
  · unfold layC
    rw [if_neg (by omega), if_neg (by omega), if_neg (by omega), if_neg (by omega), pk_un (by omega), pk_un (by omega), pk_un (by omega), pk_un (by omega)]
  · rw [lay_old (by omega), pk_un (by omega), pk_un (by omega), pk_un (by omega), pk_us]
  · rw [lay_old (by omega), pk_un (by omega), pk_un (by omega), pk_us]
  · rw [lay_old (by omega), pk_un (by omega), pk_us]
  · rw [lay_old (by omega), pk_us]
  · rw [lay_0, h0]
  · rw [show a + 5 = a + 4 + 1 from rfl, lay_1, h0]
  · rw [show a + 6 + c = a + 4 + 2 + c from rfl, lay_h hc, h3]
  · rw [show a + 10 + c = a + 4 + 6 + c from rfl, lay_o hc, h4]
set_option maxHeartbeats 4000000 in
set_option maxRecDepth 100000 in
theorem m_image {w : WG} {I : SI} {L : SL} (hm : ML w) {i : Nat} (hi : i < 2) : Ok w mX5_image [.ref (gA w 0), .int (nI i)] I L (fun r1 I1 L1 => r1 = some (.int 1) ∧ L1 = L ∧ ∃ R, I1 = (rS (rS I 19 (upd (I 19) i 1)) 18 R) ∧ FIm I (150 * i) (I 18) R 4 7 6 80) := by
  refine Ok.of (by decide) (Nat.le_of_ble_eq_true rfl) (fun X hX => ?_)
  refine g_iload_n hX dX5_image_0 rfl rfl ?_
  refine g_iconst (v := 0) hX dX5_image_1 (by decide) ?_
  refine g_iconst (v := 1) hX dX5_image_2 (by decide) ?_
  refine g_callSp _ hX dX5_image_3 k_X5_93 ⟨by decide, by decide⟩ rfl (ok_in _ _ _) rfl (Nat.le_of_ble_eq_true rfl) ?_
  refine g_if_ne (tgt := 14) hX dX5_image_6 (by decide) (fun c_6 => ?_) (fun c_6 => ?_)
  · have hi6 := c_6
    have l4 := loop_up (n := 80) (P := fun c => ∀ R : Nat → Int32, FIm I (150 * i) (I 18) R 4 7 6 c → G X w mX5_image (rS (rS I 19 (upd (I 19) i 1)) 18 R) L 280 (lvO [(0, .ref (gA w 0)), (1, .int (nI i)), (2, .int (nI (150 * i))), (3, .int (nI c))]) []) (fun c hc ih R hR => by
      refine g_iload_n hX dX5_image_280 rfl rfl ?_
      refine g_bipush (v := 80) hX dX5_image_281 (by decide) ?_
      rw [show (80 : Int32) = nI 80 from rfl]
      refine g_icmp_ge (tgt := 309) hX dX5_image_283 (by decide) (fun c_283 => ?_) (fun c_283 => ?_)
      · refine g_iconst (v := 1) hX dX5_image_309 (by decide) ?_
        exact g_iret hX dX5_image_310 rfl (by have ec : c = 80 := Nat.le_antisymm hc (nle c_283 (by decide) (by omega)); subst ec; exact ⟨rfl, rfl, R, rfl, hR⟩)
      · have hlt := nnle c_283 (by decide) (by omega)
        refine g_aload_n hX dX5_image_286 rfl rfl ?_
        refine g_get5R hX 31 dX5_image_287 b_fl_X5_65 hm.k0 (by decide) hm.q18 ?_
        refine g_iload_n hX dX5_image_290 rfl rfl ?_
        refine g_bipush (v := 70) hX dX5_image_291 (by decide) ?_
        refine g_iadd hX dX5_image_293 ?_
        refine g_iload_n hX dX5_image_294 rfl rfl ?_
        refine g_iadd hX dX5_image_295 ?_
        refine g_aload_n hX dX5_image_296 rfl rfl ?_
        refine g_get5R hX 26 dX5_image_297 b_fl_X5_55 hm.k0 (by decide) hm.q16 ?_
        refine g_iload_n hX dX5_image_300 rfl rfl ?_
        refine g_ialdN hX dX5_image_301 hm.k16 (⟨rfl, by omega⟩) (by omega) ?_
        try simp (disch := decide) only [rS_eq, rS_ne, rS_rS]
        refine g_iastN hX dX5_image_302 hm.k18 (⟨(by rw [show (70 : Int32) = nI 70 from rfl, nI_add, nI_add]), by omega⟩) (by omega) ?_
        try simp (disch := decide) only [rS_eq, rS_ne, rS_rS]
        refine g_iinc hX dX5_image_303 rfl (d := 1) (by decide) ?_
        refine g_goto (tgt := 280) hX dX5_image_306 (by decide) ?_
        exact G.at (ih hlt _ (FIm.s4 hR hlt)) ⟨rfl, rfl, rfl, vI (nI_1 c), trivial⟩
      )
    have l3 := loop_up (n := 6) (P := fun c => ∀ R : Nat → Int32, FIm I (150 * i) (I 18) R 4 7 c 0 → G X w mX5_image (rS (rS I 19 (upd (I 19) i 1)) 18 R) L 198 (lvO [(0, .ref (gA w 0)), (1, .int (nI i)), (2, .int (nI (150 * i))), (3, .int (nI c))]) []) (fun c hc ih R hR => by
      refine g_iload_n hX dX5_image_198 rfl rfl ?_
      refine g_bipush (v := 6) hX dX5_image_199 (by decide) ?_
      rw [show (6 : Int32) = nI 6 from rfl]
      refine g_icmp_ge (tgt := 278) hX dX5_image_201 (by decide) (fun c_201 => ?_) (fun c_201 => ?_)
      · refine g_iconst (v := 0) hX dX5_image_278 (by decide) ?_
        refine g_istore_n hX dX5_image_279 rfl (by decide) ?_
        have ec : c = 6 := Nat.le_antisymm hc (nle c_201 (by decide) (by omega))
        subst ec
        exact G.at (l4 0 (Nat.zero_le _) R hR) ⟨rfl, rfl, rfl, rfl, trivial⟩
      · have hlt := nnle c_201 (by decide) (by omega)
        refine g_aload_n hX dX5_image_204 rfl rfl ?_
        refine g_get5R hX 31 dX5_image_205 b_fl_X5_65 hm.k0 (by decide) hm.q18 ?_
        refine g_iload_n hX dX5_image_208 rfl rfl ?_
        refine g_bipush (v := 46) hX dX5_image_209 (by decide) ?_
        refine g_iadd hX dX5_image_211 ?_
        refine g_iload_n hX dX5_image_212 rfl rfl ?_
        refine g_iadd hX dX5_image_213 ?_
        refine g_aload_n hX dX5_image_214 rfl rfl ?_
        refine g_get5R hX 13 dX5_image_215 b_fl_X5_34 hm.k0 (by decide) hm.q9 ?_
        refine g_iload_n hX dX5_image_218 rfl rfl ?_
        refine g_ialdN hX dX5_image_219 hm.k9 (⟨rfl, by omega⟩) (by omega) ?_
        try simp (disch := decide) only [rS_eq, rS_ne, rS_rS]
        refine g_iastN hX dX5_image_220 hm.k18 (⟨(by rw [show (46 : Int32) = nI 46 from rfl, nI_add, nI_add]), by omega⟩) (by omega) ?_
        try simp (disch := decide) only [rS_eq, rS_ne, rS_rS]
        refine g_aload_n hX dX5_image_221 rfl rfl ?_
        refine g_get5R hX 31 dX5_image_222 b_fl_X5_65 hm.k0 (by decide) hm.q18 ?_
        refine g_iload_n hX dX5_image_225 rfl rfl ?_
        refine g_bipush (v := 52) hX dX5_image_226 (by decide) ?_
        refine g_iadd hX dX5_image_228 ?_
        refine g_iload_n hX dX5_image_229 rfl rfl ?_
        refine g_iadd hX dX5_image_230 ?_
        refine g_aload_n hX dX5_image_231 rfl rfl ?_
        refine g_get5R hX 14 dX5_image_232 b_fl_X5_37 hm.k0 (by decide) hm.q10 ?_
        refine g_iload_n hX dX5_image_235 rfl rfl ?_
        refine g_ialdN hX dX5_image_236 hm.k10 (⟨rfl, by omega⟩) (by omega) ?_
        try simp (disch := decide) only [rS_eq, rS_ne, rS_rS]
        refine g_iastN hX dX5_image_237 hm.k18 (⟨(by rw [show (52 : Int32) = nI 52 from rfl, nI_add, nI_add]), by omega⟩) (by omega) ?_
        try simp (disch := decide) only [rS_eq, rS_ne, rS_rS]
        refine g_aload_n hX dX5_image_238 rfl rfl ?_
        refine g_get5R hX 31 dX5_image_239 b_fl_X5_65 hm.k0 (by decide) hm.q18 ?_
        refine g_iload_n hX dX5_image_242 rfl rfl ?_
        refine g_bipush (v := 58) hX dX5_image_243 (by decide) ?_
        refine g_iadd hX dX5_image_245 ?_
        refine g_iload_n hX dX5_image_246 rfl rfl ?_
        refine g_iadd hX dX5_image_247 ?_
        refine g_aload_n hX dX5_image_248 rfl rfl ?_
        refine g_get5R hX 15 dX5_image_249 b_fl_X5_40 hm.k0 (by decide) hm.q11 ?_
        refine g_iload_n hX dX5_image_252 rfl rfl ?_
        refine g_ialdN hX dX5_image_253 hm.k11 (⟨rfl, by omega⟩) (by omega) ?_
        try simp (disch := decide) only [rS_eq, rS_ne, rS_rS]
        refine g_iastN hX dX5_image_254 hm.k18 (⟨(by rw [show (58 : Int32) = nI 58 from rfl, nI_add, nI_add]), by omega⟩) (by omega) ?_
        try simp (disch := decide) only [rS_eq, rS_ne, rS_rS]
        refine g_aload_n hX dX5_image_255 rfl rfl ?_
        refine g_get5R hX 31 dX5_image_256 b_fl_X5_65 hm.k0 (by decide) hm.q18 ?_
        refine g_iload_n hX dX5_image_259 rfl rfl ?_
        refine g_bipush (v := 64) hX dX5_image_260 (by decide) ?_
        refine g_iadd hX dX5_image_262 ?_
        refine g_iload_n hX dX5_image_263 rfl rfl ?_
        refine g_iadd hX dX5_image_264 ?_
        refine g_aload_n hX dX5_image_265 rfl rfl ?_
        refine g_get5R hX 16 dX5_image_266 b_fl_X5_43 hm.k0 (by decide) hm.q12 ?_
        refine g_iload_n hX dX5_image_269 rfl rfl ?_
        refine g_ialdN hX dX5_image_270 hm.k12 (⟨rfl, by omega⟩) (by omega) ?_
        try simp (disch := decide) only [rS_eq, rS_ne, rS_rS]
        refine g_iastN hX dX5_image_271 hm.k18 (⟨(by rw [show (64 : Int32) = nI 64 from rfl, nI_add, nI_add]), by omega⟩) (by omega) ?_
        try simp (disch := decide) only [rS_eq, rS_ne, rS_rS]
        refine g_iinc hX dX5_image_272 rfl (d := 1) (by decide) ?_
        refine g_goto (tgt := 198) hX dX5_image_275 (by decide) ?_
        exact G.at (ih hlt _ (FIm.s3 hR hlt)) ⟨rfl, rfl, rfl, vI (nI_1 c), trivial⟩
      )
    have l2 := loop_up (n := 7) (P := fun c => ∀ R : Nat → Int32, FIm I (150 * i) (I 18) R 4 c 0 0 → G X w mX5_image (rS (rS I 19 (upd (I 19) i 1)) 18 R) L 116 (lvO [(0, .ref (gA w 0)), (1, .int (nI i)), (2, .int (nI (150 * i))), (3, .int (nI c))]) []) (fun c hc ih R hR => by
      refine g_iload_n hX dX5_image_116 rfl rfl ?_
      refine g_bipush (v := 7) hX dX5_image_117 (by decide) ?_
      rw [show (7 : Int32) = nI 7 from rfl]
      refine g_icmp_ge (tgt := 196) hX dX5_image_119 (by decide) (fun c_119 => ?_) (fun c_119 => ?_)
      · refine g_iconst (v := 0) hX dX5_image_196 (by decide) ?_
        refine g_istore_n hX dX5_image_197 rfl (by decide) ?_
        have ec : c = 7 := Nat.le_antisymm hc (nle c_119 (by decide) (by omega))
        subst ec
        exact G.at (l3 0 (Nat.zero_le _) R hR) ⟨rfl, rfl, rfl, rfl, trivial⟩
      · have hlt := nnle c_119 (by decide) (by omega)
        refine g_aload_n hX dX5_image_122 rfl rfl ?_
        refine g_get5R hX 31 dX5_image_123 b_fl_X5_65 hm.k0 (by decide) hm.q18 ?_
        refine g_iload_n hX dX5_image_126 rfl rfl ?_
        refine g_bipush (v := 18) hX dX5_image_127 (by decide) ?_
        refine g_iadd hX dX5_image_129 ?_
        refine g_iload_n hX dX5_image_130 rfl rfl ?_
        refine g_iadd hX dX5_image_131 ?_
        refine g_aload_n hX dX5_image_132 rfl rfl ?_
        refine g_get5R hX 9 dX5_image_133 b_fl_X5_22 hm.k0 (by decide) hm.q5 ?_
        refine g_iload_n hX dX5_image_136 rfl rfl ?_
        refine g_ialdN hX dX5_image_137 hm.k5 (⟨rfl, by omega⟩) (by omega) ?_
        try simp (disch := decide) only [rS_eq, rS_ne, rS_rS]
        refine g_iastN hX dX5_image_138 hm.k18 (⟨(by rw [show (18 : Int32) = nI 18 from rfl, nI_add, nI_add]), by omega⟩) (by omega) ?_
        try simp (disch := decide) only [rS_eq, rS_ne, rS_rS]
        refine g_aload_n hX dX5_image_139 rfl rfl ?_
        refine g_get5R hX 31 dX5_image_140 b_fl_X5_65 hm.k0 (by decide) hm.q18 ?_
        refine g_iload_n hX dX5_image_143 rfl rfl ?_
        refine g_bipush (v := 25) hX dX5_image_144 (by decide) ?_
        refine g_iadd hX dX5_image_146 ?_
        refine g_iload_n hX dX5_image_147 rfl rfl ?_
        refine g_iadd hX dX5_image_148 ?_
        refine g_aload_n hX dX5_image_149 rfl rfl ?_
        refine g_get5R hX 10 dX5_image_150 b_fl_X5_25 hm.k0 (by decide) hm.q6 ?_
        refine g_iload_n hX dX5_image_153 rfl rfl ?_
        refine g_ialdN hX dX5_image_154 hm.k6 (⟨rfl, by omega⟩) (by omega) ?_
        try simp (disch := decide) only [rS_eq, rS_ne, rS_rS]
        refine g_iastN hX dX5_image_155 hm.k18 (⟨(by rw [show (25 : Int32) = nI 25 from rfl, nI_add, nI_add]), by omega⟩) (by omega) ?_
        try simp (disch := decide) only [rS_eq, rS_ne, rS_rS]
        refine g_aload_n hX dX5_image_156 rfl rfl ?_
        refine g_get5R hX 31 dX5_image_157 b_fl_X5_65 hm.k0 (by decide) hm.q18 ?_
        refine g_iload_n hX dX5_image_160 rfl rfl ?_
        refine g_bipush (v := 32) hX dX5_image_161 (by decide) ?_
        refine g_iadd hX dX5_image_163 ?_
        refine g_iload_n hX dX5_image_164 rfl rfl ?_
        refine g_iadd hX dX5_image_165 ?_
        refine g_aload_n hX dX5_image_166 rfl rfl ?_
        refine g_get5R hX 11 dX5_image_167 b_fl_X5_28 hm.k0 (by decide) hm.q7 ?_
        refine g_iload_n hX dX5_image_170 rfl rfl ?_
        refine g_ialdN hX dX5_image_171 hm.k7 (⟨rfl, by omega⟩) (by omega) ?_
        try simp (disch := decide) only [rS_eq, rS_ne, rS_rS]
        refine g_iastN hX dX5_image_172 hm.k18 (⟨(by rw [show (32 : Int32) = nI 32 from rfl, nI_add, nI_add]), by omega⟩) (by omega) ?_
        try simp (disch := decide) only [rS_eq, rS_ne, rS_rS]
        refine g_aload_n hX dX5_image_173 rfl rfl ?_
        refine g_get5R hX 31 dX5_image_174 b_fl_X5_65 hm.k0 (by decide) hm.q18 ?_
        refine g_iload_n hX dX5_image_177 rfl rfl ?_
        refine g_bipush (v := 39) hX dX5_image_178 (by decide) ?_
        refine g_iadd hX dX5_image_180 ?_
        refine g_iload_n hX dX5_image_181 rfl rfl ?_
        refine g_iadd hX dX5_image_182 ?_
        refine g_aload_n hX dX5_image_183 rfl rfl ?_
        refine g_get5R hX 12 dX5_image_184 b_fl_X5_31 hm.k0 (by decide) hm.q8 ?_
        refine g_iload_n hX dX5_image_187 rfl rfl ?_
        refine g_ialdN hX dX5_image_188 hm.k8 (⟨rfl, by omega⟩) (by omega) ?_
        try simp (disch := decide) only [rS_eq, rS_ne, rS_rS]
        refine g_iastN hX dX5_image_189 hm.k18 (⟨(by rw [show (39 : Int32) = nI 39 from rfl, nI_add, nI_add]), by omega⟩) (by omega) ?_
        try simp (disch := decide) only [rS_eq, rS_ne, rS_rS]
        refine g_iinc hX dX5_image_190 rfl (d := 1) (by decide) ?_
        refine g_goto (tgt := 116) hX dX5_image_193 (by decide) ?_
        exact G.at (ih hlt _ (FIm.s2 hR hlt)) ⟨rfl, rfl, rfl, vI (nI_1 c), trivial⟩
      )
    have l1 := loop_up (n := 4) (P := fun c => ∀ R : Nat → Int32, FIm I (150 * i) (I 18) R c 0 0 0 → G X w mX5_image (rS (rS I 19 (upd (I 19) i 1)) 18 R) L 86 (lvO [(0, .ref (gA w 0)), (1, .int (nI i)), (2, .int (nI (150 * i))), (3, .int (nI c))]) []) (fun c hc ih R hR => by
      refine g_iload_n hX dX5_image_86 rfl rfl ?_
      refine g_iconst (v := 4) hX dX5_image_87 (by decide) ?_
      rw [show (4 : Int32) = nI 4 from rfl]
      refine g_icmp_ge (tgt := 114) hX dX5_image_88 (by decide) (fun c_88 => ?_) (fun c_88 => ?_)
      · refine g_iconst (v := 0) hX dX5_image_114 (by decide) ?_
        refine g_istore_n hX dX5_image_115 rfl (by decide) ?_
        have ec : c = 4 := Nat.le_antisymm hc (nle c_88 (by decide) (by omega))
        subst ec
        exact G.at (l2 0 (Nat.zero_le _) R hR) ⟨rfl, rfl, rfl, rfl, trivial⟩
      · have hlt := nnle c_88 (by decide) (by omega)
        refine g_aload_n hX dX5_image_91 rfl rfl ?_
        refine g_get5R hX 31 dX5_image_92 b_fl_X5_65 hm.k0 (by decide) hm.q18 ?_
        refine g_iload_n hX dX5_image_95 rfl rfl ?_
        refine g_bipush (v := 14) hX dX5_image_96 (by decide) ?_
        refine g_iadd hX dX5_image_98 ?_
        refine g_iload_n hX dX5_image_99 rfl rfl ?_
        refine g_iadd hX dX5_image_100 ?_
        refine g_aload_n hX dX5_image_101 rfl rfl ?_
        refine g_get5R hX 6 dX5_image_102 b_fl_X5_13 hm.k0 (by decide) hm.q2 ?_
        refine g_iload_n hX dX5_image_105 rfl rfl ?_
        refine g_ialdN hX dX5_image_106 hm.k2 (⟨rfl, by omega⟩) (by omega) ?_
        try simp (disch := decide) only [rS_eq, rS_ne, rS_rS]
        refine g_iastN hX dX5_image_107 hm.k18 (⟨(by rw [show (14 : Int32) = nI 14 from rfl, nI_add, nI_add]), by omega⟩) (by omega) ?_
        try simp (disch := decide) only [rS_eq, rS_ne, rS_rS]
        refine g_iinc hX dX5_image_108 rfl (d := 1) (by decide) ?_
        refine g_goto (tgt := 86) hX dX5_image_111 (by decide) ?_
        exact G.at (ih hlt _ (FIm.s1 hR hlt)) ⟨rfl, rfl, rfl, vI (nI_1 c), trivial⟩
      )
    refine g_sipush (v := 150) hX dX5_image_14 (by decide) ?_
    refine g_iload_n hX dX5_image_17 rfl rfl ?_
    refine g_imul hX dX5_image_18 ?_
    rw [show (150 : Int32) = nI 150 from rfl, pk_mul]
    refine g_istore_n hX dX5_image_19 rfl (by decide) ?_
    refine g_aload_n hX dX5_image_20 rfl rfl ?_
    refine g_get5R hX 32 dX5_image_21 b_fl_X5_68 hm.k0 (by decide) hm.q19 ?_
    refine g_iload_n hX dX5_image_24 rfl rfl ?_
    refine g_iconst (v := 1) hX dX5_image_25 (by decide) ?_
    refine g_iastN hX dX5_image_26 hm.k19 (⟨rfl, by omega⟩) (by omega) ?_
    try simp (disch := decide) only [rS_eq, rS_ne, rS_rS]
    refine g_aload_n hX dX5_image_27 rfl rfl ?_
    refine g_get5R hX 31 dX5_image_28 b_fl_X5_65 hm.k0 (by decide) hm.q18 ?_
    refine g_iload_n hX dX5_image_31 rfl rfl ?_
    refine g_aload_n hX dX5_image_32 rfl rfl ?_
    refine g_get5I hX 1 dX5_image_33 b_fl_X5_74 hm.k0 (by decide) ?_
    try simp (disch := decide) only [rS_eq, rS_ne, rS_rS]
    refine g_iastN hX dX5_image_36 hm.k18 (⟨rfl, by omega⟩) (by omega) ?_
    try simp (disch := decide) only [rS_eq, rS_ne, rS_rS]
    refine g_aload_n hX dX5_image_37 rfl rfl ?_
    refine g_get5R hX 31 dX5_image_38 b_fl_X5_65 hm.k0 (by decide) hm.q18 ?_
    refine g_iload_n hX dX5_image_41 rfl rfl ?_
    refine g_iconst (v := 1) hX dX5_image_42 (by decide) ?_
    refine g_iadd hX dX5_image_43 ?_
    refine g_aload_n hX dX5_image_44 rfl rfl ?_
    refine g_get5I hX 2 dX5_image_45 b_fl_X5_78 hm.k0 (by decide) ?_
    try simp (disch := decide) only [rS_eq, rS_ne, rS_rS]
    refine g_iastN hX dX5_image_48 hm.k18 (⟨(by rw [show (1 : Int32) = nI 1 from rfl, nI_add]), by omega⟩) (by omega) ?_
    try simp (disch := decide) only [rS_eq, rS_ne, rS_rS]
    refine g_aload_n hX dX5_image_49 rfl rfl ?_
    refine g_get5R hX 31 dX5_image_50 b_fl_X5_65 hm.k0 (by decide) hm.q18 ?_
    refine g_iload_n hX dX5_image_53 rfl rfl ?_
    refine g_iconst (v := 2) hX dX5_image_54 (by decide) ?_
    refine g_iadd hX dX5_image_55 ?_
    refine g_aload_n hX dX5_image_56 rfl rfl ?_
    refine g_get5I hX 5 dX5_image_57 b_fl_X5_87 hm.k0 (by decide) ?_
    try simp (disch := decide) only [rS_eq, rS_ne, rS_rS]
    refine g_iastN hX dX5_image_60 hm.k18 (⟨(by rw [show (2 : Int32) = nI 2 from rfl, nI_add]), by omega⟩) (by omega) ?_
    try simp (disch := decide) only [rS_eq, rS_ne, rS_rS]
    refine g_aload_n hX dX5_image_61 rfl rfl ?_
    refine g_get5R hX 31 dX5_image_62 b_fl_X5_65 hm.k0 (by decide) hm.q18 ?_
    refine g_iload_n hX dX5_image_65 rfl rfl ?_
    refine g_iconst (v := 3) hX dX5_image_66 (by decide) ?_
    refine g_iadd hX dX5_image_67 ?_
    refine g_aload_n hX dX5_image_68 rfl rfl ?_
    refine g_get5I hX 27 dX5_image_69 b_fl_X5_90 hm.k0 (by decide) ?_
    try simp (disch := decide) only [rS_eq, rS_ne, rS_rS]
    refine g_iastN hX dX5_image_72 hm.k18 (⟨(by rw [show (3 : Int32) = nI 3 from rfl, nI_add]), by omega⟩) (by omega) ?_
    try simp (disch := decide) only [rS_eq, rS_ne, rS_rS]
    refine g_aload_n hX dX5_image_73 rfl rfl ?_
    refine g_aload_n hX dX5_image_74 rfl rfl ?_
    refine g_get5R hX 31 dX5_image_75 b_fl_X5_65 hm.k0 (by decide) hm.q18 ?_
    refine g_iload_n hX dX5_image_78 rfl rfl ?_
    refine g_iconst (v := 4) hX dX5_image_79 (by decide) ?_
    refine g_iadd hX dX5_image_80 ?_
    rw [show (4 : Int32) = nI 4 from rfl, nI_add]
    refine g_callV _ hX dX5_image_81 k_X5_199 ⟨by decide, by decide⟩ (by decide) hm.k0 rfl rfl (m_lays (q := 18) (a := 150 * i + 4) hm hm.k18 (by decide) (by omega) ⟨by decide, by decide, by decide⟩) rfl (Nat.le_of_ble_eq_true rfl) (fun r1 I1 L1 hq => ?_)
    obtain ⟨rfl, rfl, rfl⟩ := hq
    try simp (disch := decide) only [rS_eq, rS_ne, rS_rS]
    refine g_iconst (v := 0) hX dX5_image_84 (by decide) ?_
    refine g_istore_n hX dX5_image_85 rfl (by decide) ?_
    exact G.at (l1 0 (Nat.zero_le _) _ (FIm.go rfl rfl rfl)) ⟨rfl, rfl, rfl, rfl, trivial⟩
  · exact absurd ⟨nI_pos' (by omega), (nI_leI (b := 1) (by omega) (by decide)).mpr (by omega)⟩ (b01_0 c_6)
