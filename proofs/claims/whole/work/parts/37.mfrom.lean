/-- the model taken back from an image -/
def FRm (I : SI) (a : Nat) (J : SI) (k1 k2 k3 k4 : Nat) : Prop :=
  (∀ o, o ≠ 0 → (o < 2 ∨ 12 < o) → o ≠ 16 → J o = I o) ∧ (∀ k, k ≠ 1 → k ≠ 2 → k ≠ 3 → k ≠ 4 → k ≠ 5 → k ≠ 27 → J 0 k = I 0 k) ∧
  J 0 1 = I 18 a ∧ J 0 2 = I 18 (a + 1) ∧ J 0 5 = I 18 (a + 2) ∧ J 0 27 = I 18 (a + 3) ∧ J 0 3 = I 18 (a + 4) ∧ J 0 4 = I 18 (a + 5) ∧
  (∀ c, c < 4 → J 3 c = I 18 (a + 6 + c) ∧ J 4 c = I 18 (a + 10 + c)) ∧ (∀ c, c < k1 → J 2 c = I 18 (a + 14 + c)) ∧
  (∀ k, k < k2 → J 5 k = I 18 (a + 18 + k) ∧ J 6 k = I 18 (a + 25 + k) ∧ J 7 k = I 18 (a + 32 + k) ∧ J 8 k = I 18 (a + 39 + k)) ∧
  (∀ k, k < k3 → J 9 k = I 18 (a + 46 + k) ∧ J 10 k = I 18 (a + 52 + k) ∧ J 11 k = I 18 (a + 58 + k) ∧ J 12 k = I 18 (a + 64 + k)) ∧ ∀ k, k < k4 → J 16 k = I 18 (a + 70 + k)
theorem upd_all {P : Nat → Int32 → Prop} {f : Nat → Int32} {c : Nat} {v : Int32} (h : ∀ x, x < c → P x (f x)) (hv : P c v) : ∀ x, x < c + 1 → P x (upd f c v x) := by
  intro x hx
  by_cases q : x = c
  · subst q; rw [pk_us]; exact hv
  · rw [pk_un q]; exact h x (by omega)
theorem FRm.s1 {I J : SI} {a c : Nat} (h : FRm I a J c 0 0 0) (hc : c < 4) : FRm I a (rS J 2 (upd (J 2) c (I 18 (a + 14 + c)))) (c + 1) 0 0 0 := by
  obtain ⟨f0, f1, h1, h2, h3, h4, h5, h6, h7, h8, h9, h10, h11⟩ := h
  refine ⟨fun o a1 a2 a3 => ?_, ?_, ?_, ?_, ?_, ?_, ?_, ?_, ?_, ?_, ?_, ?_, ?_⟩
  · rw [rS_ne _ _ _ (by omega)]; exact f0 o a1 a2 a3
  · simp (disch := first | assumption | decide | omega) only [rS_eq, rS_ne]; exact f1
  · simp (disch := first | assumption | decide | omega) only [rS_eq, rS_ne]; exact h1
  · simp (disch := first | assumption | decide | omega) only [rS_eq, rS_ne]; exact h2
  · simp (disch := first | assumption | decide | omega) only [rS_eq, rS_ne]; exact h3
  · simp (disch := first | assumption | decide | omega) only [rS_eq, rS_ne]; exact h4
  · simp (disch := first | assumption | decide | omega) only [rS_eq, rS_ne]; exact h5
  · simp (disch := first | assumption | decide | omega) only [rS_eq, rS_ne]; exact h6
  · simp (disch := first | assumption | decide | omega) only [rS_eq, rS_ne]; exact h7
  · simp (disch := first | assumption | decide | omega) only [rS_eq, rS_ne]; exact upd_all (P := fun x y => y = I 18 (a + 14 + x)) h8 rfl
  · exact fun x hx => absurd hx (Nat.not_lt_zero x)
  · exact fun x hx => absurd hx (Nat.not_lt_zero x)
  · exact fun x hx => absurd hx (Nat.not_lt_zero x)
theorem FRm.s2 {I J : SI} {a c : Nat} (h : FRm I a J 4 c 0 0) (hc : c < 7) : FRm I a (rS (rS (rS (rS J 5 (upd (J 5) c (I 18 (a + 18 + c)))) 6 (upd (J 6) c (I 18 (a + 25 + c)))) 7 (upd (J 7) c (I 18 (a + 32 + c)))) 8 (upd (J 8) c (I 18 (a + 39 + c)))) 4 (c + 1) 0 0 := by
  obtain ⟨f0, f1, h1, h2, h3, h4, h5, h6, h7, h8, h9, h10, h11⟩ := h
  refine ⟨fun o a1 a2 a3 => ?_, ?_, ?_, ?_, ?_, ?_, ?_, ?_, ?_, ?_, ?_, ?_, ?_⟩
  · rw [rS_ne _ _ _ (by omega), rS_ne _ _ _ (by omega), rS_ne _ _ _ (by omega), rS_ne _ _ _ (by omega)]; exact f0 o a1 a2 a3
  · simp (disch := first | assumption | decide | omega) only [rS_eq, rS_ne]; exact f1
  · simp (disch := first | assumption | decide | omega) only [rS_eq, rS_ne]; exact h1
  · simp (disch := first | assumption | decide | omega) only [rS_eq, rS_ne]; exact h2
  · simp (disch := first | assumption | decide | omega) only [rS_eq, rS_ne]; exact h3
  · simp (disch := first | assumption | decide | omega) only [rS_eq, rS_ne]; exact h4
  · simp (disch := first | assumption | decide | omega) only [rS_eq, rS_ne]; exact h5
  · simp (disch := first | assumption | decide | omega) only [rS_eq, rS_ne]; exact h6
  · simp (disch := first | assumption | decide | omega) only [rS_eq, rS_ne]; exact h7
  · simp (disch := first | assumption | decide | omega) only [rS_eq, rS_ne]; exact h8
  · simp (disch := first | assumption | decide | omega) only [rS_eq, rS_ne]
    intro x hx
    exact ⟨upd_all (P := fun x y => y = I 18 (a + 18 + x)) (fun x hx => (h9 x hx).1) rfl x hx, upd_all (P := fun x y => y = I 18 (a + 25 + x)) (fun x hx => (h9 x hx).2.1) rfl x hx, upd_all (P := fun x y => y = I 18 (a + 32 + x)) (fun x hx => (h9 x hx).2.2.1) rfl x hx, upd_all (P := fun x y => y = I 18 (a + 39 + x)) (fun x hx => (h9 x hx).2.2.2) rfl x hx⟩
  · exact fun x hx => absurd hx (Nat.not_lt_zero x)
  · exact fun x hx => absurd hx (Nat.not_lt_zero x)
theorem FRm.s3 {I J : SI} {a c : Nat} (h : FRm I a J 4 7 c 0) (hc : c < 6) : FRm I a (rS (rS (rS (rS J 9 (upd (J 9) c (I 18 (a + 46 + c)))) 10 (upd (J 10) c (I 18 (a + 52 + c)))) 11 (upd (J 11) c (I 18 (a + 58 + c)))) 12 (upd (J 12) c (I 18 (a + 64 + c)))) 4 7 (c + 1) 0 := by
  obtain ⟨f0, f1, h1, h2, h3, h4, h5, h6, h7, h8, h9, h10, h11⟩ := h
  refine ⟨fun o a1 a2 a3 => ?_, ?_, ?_, ?_, ?_, ?_, ?_, ?_, ?_, ?_, ?_, ?_, ?_⟩
  · rw [rS_ne _ _ _ (by omega), rS_ne _ _ _ (by omega), rS_ne _ _ _ (by omega), rS_ne _ _ _ (by omega)]; exact f0 o a1 a2 a3
  · simp (disch := first | assumption | decide | omega) only [rS_eq, rS_ne]; exact f1
  · simp (disch := first | assumption | decide | omega) only [rS_eq, rS_ne]; exact h1
  · simp (disch := first | assumption | decide | omega) only [rS_eq, rS_ne]; exact h2
  · simp (disch := first | assumption | decide | omega) only [rS_eq, rS_ne]; exact h3
  · simp (disch := first | assumption | decide | omega) only [rS_eq, rS_ne]; exact h4
  · simp (disch := first | assumption | decide | omega) only [rS_eq, rS_ne]; exact h5
  · simp (disch := first | assumption | decide | omega) only [rS_eq, rS_ne]; exact h6
  · simp (disch := first | assumption | decide | omega) only [rS_eq, rS_ne]; exact h7
  · simp (disch := first | assumption | decide | omega) only [rS_eq, rS_ne]; exact h8
  · simp (disch := first | assumption | decide | omega) only [rS_eq, rS_ne]; exact h9
  · simp (disch := first | assumption | decide | omega) only [rS_eq, rS_ne]
    intro x hx
    exact ⟨upd_all (P := fun x y => y = I 18 (a + 46 + x)) (fun x hx => (h10 x hx).1) rfl x hx, upd_all (P := fun x y => y = I 18 (a + 52 + x)) (fun x hx => (h10 x hx).2.1) rfl x hx, upd_all (P := fun x y => y = I 18 (a + 58 + x)) (fun x hx => (h10 x hx).2.2.1) rfl x hx, upd_all (P := fun x y => y = I 18 (a + 64 + x)) (fun x hx => (h10 x hx).2.2.2) rfl x hx⟩
  · exact fun x hx => absurd hx (Nat.not_lt_zero x)
theorem FRm.s4 {I J : SI} {a c : Nat} (h : FRm I a J 4 7 6 c) (hc : c < 80) : FRm I a (rS J 16 (upd (J 16) c (I 18 (a + 70 + c)))) 4 7 6 (c + 1) := by
  obtain ⟨f0, f1, h1, h2, h3, h4, h5, h6, h7, h8, h9, h10, h11⟩ := h
  refine ⟨fun o a1 a2 a3 => ?_, ?_, ?_, ?_, ?_, ?_, ?_, ?_, ?_, ?_, ?_, ?_, ?_⟩
  · rw [rS_ne _ _ _ (by omega)]; exact f0 o a1 a2 a3
  · simp (disch := first | assumption | decide | omega) only [rS_eq, rS_ne]; exact f1
  · simp (disch := first | assumption | decide | omega) only [rS_eq, rS_ne]; exact h1
  · simp (disch := first | assumption | decide | omega) only [rS_eq, rS_ne]; exact h2
  · simp (disch := first | assumption | decide | omega) only [rS_eq, rS_ne]; exact h3
  · simp (disch := first | assumption | decide | omega) only [rS_eq, rS_ne]; exact h4
  · simp (disch := first | assumption | decide | omega) only [rS_eq, rS_ne]; exact h5
  · simp (disch := first | assumption | decide | omega) only [rS_eq, rS_ne]; exact h6
  · simp (disch := first | assumption | decide | omega) only [rS_eq, rS_ne]; exact h7
  · simp (disch := first | assumption | decide | omega) only [rS_eq, rS_ne]; exact h8
  · simp (disch := first | assumption | decide | omega) only [rS_eq, rS_ne]; exact h9
  · simp (disch := first | assumption | decide | omega) only [rS_eq, rS_ne]; exact h10
  · simp (disch := first | assumption | decide | omega) only [rS_eq, rS_ne]; exact upd_all (P := fun x y => y = I 18 (a + 70 + x)) h11 rfl
theorem FRm.go {I : SI} {a : Nat} : FRm I a (tkJ (rS I 0 (upd (upd (upd (upd (I 0) 1 (I 18 a)) 2 (I 18 (a + 1))) 5 (I 18 (a + 2))) 27 (I 18 (a + 3)))) (I 18) (a + 4) 4) 0 0 0 0 := by
  unfold tkJ
  refine ⟨fun o a1 a2 a3 => ?_, fun k b1 b2 b3 b4 b5 b6 => ?_, ?_, ?_, ?_, ?_, ?_, ?_, fun c hc => ⟨?_, ?_⟩, fun x hx => absurd hx (Nat.not_lt_zero x), fun x hx => absurd hx (Nat.not_lt_zero x), fun x hx => absurd hx (Nat.not_lt_zero x), fun x hx => absurd hx (Nat.not_lt_zero x)⟩
  · rw [rS_ne _ _ _ (by omega), rS_ne _ _ _ (by omega), rS_ne _ _ _ a1, rS_ne _ _ _ a1]
  · simp (disch := first | assumption | decide | omega) only [rS_eq, rS_ne]; rw [pk_un b4, pk_un b3, pk_un b6, pk_un b5, pk_un b2, pk_un b1]
  · simp (disch := first | assumption | decide | omega) only [rS_eq, rS_ne]; rw [pk_un (by decide), pk_un (by decide), pk_un (by decide), pk_un (by decide), pk_un (by decide), pk_us]
  · simp (disch := first | assumption | decide | omega) only [rS_eq, rS_ne]; rw [pk_un (by decide), pk_un (by decide), pk_un (by decide), pk_un (by decide), pk_us]
  · simp (disch := first | assumption | decide | omega) only [rS_eq, rS_ne]; rw [pk_un (by decide), pk_un (by decide), pk_un (by decide), pk_us]
  · simp (disch := first | assumption | decide | omega) only [rS_eq, rS_ne]; rw [pk_un (by decide), pk_un (by decide), pk_us]
  · simp (disch := first | assumption | decide | omega) only [rS_eq, rS_ne]; rw [pk_un (by decide), pk_us]
  · simp (disch := first | assumption | decide | omega) only [rS_eq, rS_ne]; rw [pk_us]
  · simp (disch := first | assumption | decide | omega) only [rS_eq, rS_ne]; unfold tkC; rw [if_pos hc]
  · simp (disch := first | assumption | decide | omega) only [rS_eq, rS_ne]; unfold tkC; rw [if_pos hc]
set_option maxHeartbeats 4000000 in
set_option maxRecDepth 100000 in
theorem m_from {w : WG} {I : SI} {L : SL} (hm : ML w) {i : Nat} (hi : i < 2) (hk1 : I 19 i = 1) : Ok w mX5_from [.ref (gA w 0), .int (nI i)] I L (fun r1 I1 L1 => r1 = some (.int 1) ∧ L1 = L ∧ FRm I (150 * i) I1 4 7 6 80) := by
  refine Ok.of (by decide) (Nat.le_of_ble_eq_true rfl) (fun X hX => ?_)
  refine g_iload_n hX dX5_from_0 rfl rfl ?_
  refine g_iconst (v := 0) hX dX5_from_1 (by decide) ?_
  refine g_iconst (v := 1) hX dX5_from_2 (by decide) ?_
  refine g_callSp _ hX dX5_from_3 k_X5_93 ⟨by decide, by decide⟩ rfl (ok_in _ _ _) rfl (Nat.le_of_ble_eq_true rfl) ?_
  refine g_if_ne (tgt := 14) hX dX5_from_6 (by decide) (fun c_6 => ?_) (fun c_6 => ?_)
  · have l4 := loop_up (n := 80) (P := fun c => ∀ J : SI, FRm I (150 * i) J 4 7 6 c → G X w mX5_from J L 287 (lvO [(0, .ref (gA w 0)), (1, .int (nI i)), (2, .int (nI (150 * i))), (3, .int (nI c))]) []) (fun c hc ih J hJ => by
      refine g_iload_n hX dX5_from_287 rfl rfl ?_
      refine g_bipush (v := 80) hX dX5_from_288 (by decide) ?_
      rw [show (80 : Int32) = nI 80 from rfl]
      refine g_icmp_ge (tgt := 316) hX dX5_from_290 (by decide) (fun c_290 => ?_) (fun c_290 => ?_)
      · refine g_iconst (v := 1) hX dX5_from_316 (by decide) ?_
        exact g_iret hX dX5_from_317 rfl (by have ec : c = 80 := Nat.le_antisymm hc (nle c_290 (by decide) (by omega)); subst ec; exact ⟨rfl, rfl, hJ⟩)
      · have hlt := nnle c_290 (by decide) (by omega)
        have hJ18 : J 18 = I 18 := hJ.1 18 (by decide) (by decide) (by decide)
        refine g_aload_n hX dX5_from_293 rfl rfl ?_
        refine g_get5R hX 26 dX5_from_294 b_fl_X5_55 hm.k0 (by decide) hm.q16 ?_
        refine g_iload_n hX dX5_from_297 rfl rfl ?_
        refine g_aload_n hX dX5_from_298 rfl rfl ?_
        refine g_get5R hX 31 dX5_from_299 b_fl_X5_65 hm.k0 (by decide) hm.q18 ?_
        refine g_iload_n hX dX5_from_302 rfl rfl ?_
        refine g_bipush (v := 70) hX dX5_from_303 (by decide) ?_
        refine g_iadd hX dX5_from_305 ?_
        refine g_iload_n hX dX5_from_306 rfl rfl ?_
        refine g_iadd hX dX5_from_307 ?_
        refine g_ialdN hX dX5_from_308 hm.k18 (⟨(by rw [show (70 : Int32) = nI 70 from rfl, nI_add, nI_add]), by omega⟩) (by omega) ?_
        try simp (disch := decide) only [rS_eq, rS_ne, rS_rS]
        rw [hJ18]
        refine g_iastN hX dX5_from_309 hm.k16 (⟨rfl, by omega⟩) (by omega) ?_
        try simp (disch := decide) only [rS_eq, rS_ne, rS_rS]
        refine g_iinc hX dX5_from_310 rfl (d := 1) (by decide) ?_
        refine g_goto (tgt := 287) hX dX5_from_313 (by decide) ?_
        exact G.at (ih hlt _ (FRm.s4 hJ hlt)) ⟨rfl, rfl, rfl, vI (nI_1 c), trivial⟩
      )
    have l3 := loop_up (n := 6) (P := fun c => ∀ J : SI, FRm I (150 * i) J 4 7 c 0 → G X w mX5_from J L 205 (lvO [(0, .ref (gA w 0)), (1, .int (nI i)), (2, .int (nI (150 * i))), (3, .int (nI c))]) []) (fun c hc ih J hJ => by
      refine g_iload_n hX dX5_from_205 rfl rfl ?_
      refine g_bipush (v := 6) hX dX5_from_206 (by decide) ?_
      rw [show (6 : Int32) = nI 6 from rfl]
      refine g_icmp_ge (tgt := 285) hX dX5_from_208 (by decide) (fun c_208 => ?_) (fun c_208 => ?_)
      · refine g_iconst (v := 0) hX dX5_from_285 (by decide) ?_
        refine g_istore_n hX dX5_from_286 rfl (by decide) ?_
        have ec : c = 6 := Nat.le_antisymm hc (nle c_208 (by decide) (by omega))
        subst ec
        exact G.at (l4 0 (Nat.zero_le _) J hJ) ⟨rfl, rfl, rfl, rfl, trivial⟩
      · have hlt := nnle c_208 (by decide) (by omega)
        have hJ18 : J 18 = I 18 := hJ.1 18 (by decide) (by decide) (by decide)
        refine g_aload_n hX dX5_from_211 rfl rfl ?_
        refine g_get5R hX 13 dX5_from_212 b_fl_X5_34 hm.k0 (by decide) hm.q9 ?_
        refine g_iload_n hX dX5_from_215 rfl rfl ?_
        refine g_aload_n hX dX5_from_216 rfl rfl ?_
        refine g_get5R hX 31 dX5_from_217 b_fl_X5_65 hm.k0 (by decide) hm.q18 ?_
        refine g_iload_n hX dX5_from_220 rfl rfl ?_
        refine g_bipush (v := 46) hX dX5_from_221 (by decide) ?_
        refine g_iadd hX dX5_from_223 ?_
        refine g_iload_n hX dX5_from_224 rfl rfl ?_
        refine g_iadd hX dX5_from_225 ?_
        refine g_ialdN hX dX5_from_226 hm.k18 (⟨(by rw [show (46 : Int32) = nI 46 from rfl, nI_add, nI_add]), by omega⟩) (by omega) ?_
        try simp (disch := decide) only [rS_eq, rS_ne, rS_rS]
        rw [hJ18]
        refine g_iastN hX dX5_from_227 hm.k9 (⟨rfl, by omega⟩) (by omega) ?_
        try simp (disch := decide) only [rS_eq, rS_ne, rS_rS]
        refine g_aload_n hX dX5_from_228 rfl rfl ?_
        refine g_get5R hX 14 dX5_from_229 b_fl_X5_37 hm.k0 (by decide) hm.q10 ?_
        refine g_iload_n hX dX5_from_232 rfl rfl ?_
        refine g_aload_n hX dX5_from_233 rfl rfl ?_
        refine g_get5R hX 31 dX5_from_234 b_fl_X5_65 hm.k0 (by decide) hm.q18 ?_
        refine g_iload_n hX dX5_from_237 rfl rfl ?_
        refine g_bipush (v := 52) hX dX5_from_238 (by decide) ?_
        refine g_iadd hX dX5_from_240 ?_
        refine g_iload_n hX dX5_from_241 rfl rfl ?_
        refine g_iadd hX dX5_from_242 ?_
        refine g_ialdN hX dX5_from_243 hm.k18 (⟨(by rw [show (52 : Int32) = nI 52 from rfl, nI_add, nI_add]), by omega⟩) (by omega) ?_
        try simp (disch := decide) only [rS_eq, rS_ne, rS_rS]
        rw [hJ18]
        refine g_iastN hX dX5_from_244 hm.k10 (⟨rfl, by omega⟩) (by omega) ?_
        try simp (disch := decide) only [rS_eq, rS_ne, rS_rS]
        refine g_aload_n hX dX5_from_245 rfl rfl ?_
        refine g_get5R hX 15 dX5_from_246 b_fl_X5_40 hm.k0 (by decide) hm.q11 ?_
        refine g_iload_n hX dX5_from_249 rfl rfl ?_
        refine g_aload_n hX dX5_from_250 rfl rfl ?_
        refine g_get5R hX 31 dX5_from_251 b_fl_X5_65 hm.k0 (by decide) hm.q18 ?_
        refine g_iload_n hX dX5_from_254 rfl rfl ?_
        refine g_bipush (v := 58) hX dX5_from_255 (by decide) ?_
        refine g_iadd hX dX5_from_257 ?_
        refine g_iload_n hX dX5_from_258 rfl rfl ?_
        refine g_iadd hX dX5_from_259 ?_
        refine g_ialdN hX dX5_from_260 hm.k18 (⟨(by rw [show (58 : Int32) = nI 58 from rfl, nI_add, nI_add]), by omega⟩) (by omega) ?_
        try simp (disch := decide) only [rS_eq, rS_ne, rS_rS]
        rw [hJ18]
        refine g_iastN hX dX5_from_261 hm.k11 (⟨rfl, by omega⟩) (by omega) ?_
        try simp (disch := decide) only [rS_eq, rS_ne, rS_rS]
        refine g_aload_n hX dX5_from_262 rfl rfl ?_
        refine g_get5R hX 16 dX5_from_263 b_fl_X5_43 hm.k0 (by decide) hm.q12 ?_
        refine g_iload_n hX dX5_from_266 rfl rfl ?_
        refine g_aload_n hX dX5_from_267 rfl rfl ?_
        refine g_get5R hX 31 dX5_from_268 b_fl_X5_65 hm.k0 (by decide) hm.q18 ?_
        refine g_iload_n hX dX5_from_271 rfl rfl ?_
        refine g_bipush (v := 64) hX dX5_from_272 (by decide) ?_
        refine g_iadd hX dX5_from_274 ?_
        refine g_iload_n hX dX5_from_275 rfl rfl ?_
        refine g_iadd hX dX5_from_276 ?_
        refine g_ialdN hX dX5_from_277 hm.k18 (⟨(by rw [show (64 : Int32) = nI 64 from rfl, nI_add, nI_add]), by omega⟩) (by omega) ?_
        try simp (disch := decide) only [rS_eq, rS_ne, rS_rS]
        rw [hJ18]
        refine g_iastN hX dX5_from_278 hm.k12 (⟨rfl, by omega⟩) (by omega) ?_
        try simp (disch := decide) only [rS_eq, rS_ne, rS_rS]
        refine g_iinc hX dX5_from_279 rfl (d := 1) (by decide) ?_
        refine g_goto (tgt := 205) hX dX5_from_282 (by decide) ?_
        exact G.at (ih hlt _ (FRm.s3 hJ hlt)) ⟨rfl, rfl, rfl, vI (nI_1 c), trivial⟩
      )
    have l2 := loop_up (n := 7) (P := fun c => ∀ J : SI, FRm I (150 * i) J 4 c 0 0 → G X w mX5_from J L 123 (lvO [(0, .ref (gA w 0)), (1, .int (nI i)), (2, .int (nI (150 * i))), (3, .int (nI c))]) []) (fun c hc ih J hJ => by
      refine g_iload_n hX dX5_from_123 rfl rfl ?_
      refine g_bipush (v := 7) hX dX5_from_124 (by decide) ?_
      rw [show (7 : Int32) = nI 7 from rfl]
      refine g_icmp_ge (tgt := 203) hX dX5_from_126 (by decide) (fun c_126 => ?_) (fun c_126 => ?_)
      · refine g_iconst (v := 0) hX dX5_from_203 (by decide) ?_
        refine g_istore_n hX dX5_from_204 rfl (by decide) ?_
        have ec : c = 7 := Nat.le_antisymm hc (nle c_126 (by decide) (by omega))
        subst ec
        exact G.at (l3 0 (Nat.zero_le _) J hJ) ⟨rfl, rfl, rfl, rfl, trivial⟩
      · have hlt := nnle c_126 (by decide) (by omega)
        have hJ18 : J 18 = I 18 := hJ.1 18 (by decide) (by decide) (by decide)
        refine g_aload_n hX dX5_from_129 rfl rfl ?_
        refine g_get5R hX 9 dX5_from_130 b_fl_X5_22 hm.k0 (by decide) hm.q5 ?_
        refine g_iload_n hX dX5_from_133 rfl rfl ?_
        refine g_aload_n hX dX5_from_134 rfl rfl ?_
        refine g_get5R hX 31 dX5_from_135 b_fl_X5_65 hm.k0 (by decide) hm.q18 ?_
        refine g_iload_n hX dX5_from_138 rfl rfl ?_
        refine g_bipush (v := 18) hX dX5_from_139 (by decide) ?_
        refine g_iadd hX dX5_from_141 ?_
        refine g_iload_n hX dX5_from_142 rfl rfl ?_
        refine g_iadd hX dX5_from_143 ?_
        refine g_ialdN hX dX5_from_144 hm.k18 (⟨(by rw [show (18 : Int32) = nI 18 from rfl, nI_add, nI_add]), by omega⟩) (by omega) ?_
        try simp (disch := decide) only [rS_eq, rS_ne, rS_rS]
        rw [hJ18]
        refine g_iastN hX dX5_from_145 hm.k5 (⟨rfl, by omega⟩) (by omega) ?_
        try simp (disch := decide) only [rS_eq, rS_ne, rS_rS]
        refine g_aload_n hX dX5_from_146 rfl rfl ?_
        refine g_get5R hX 10 dX5_from_147 b_fl_X5_25 hm.k0 (by decide) hm.q6 ?_
        refine g_iload_n hX dX5_from_150 rfl rfl ?_
        refine g_aload_n hX dX5_from_151 rfl rfl ?_
        refine g_get5R hX 31 dX5_from_152 b_fl_X5_65 hm.k0 (by decide) hm.q18 ?_
        refine g_iload_n hX dX5_from_155 rfl rfl ?_
        refine g_bipush (v := 25) hX dX5_from_156 (by decide) ?_
        refine g_iadd hX dX5_from_158 ?_
        refine g_iload_n hX dX5_from_159 rfl rfl ?_
        refine g_iadd hX dX5_from_160 ?_
        refine g_ialdN hX dX5_from_161 hm.k18 (⟨(by rw [show (25 : Int32) = nI 25 from rfl, nI_add, nI_add]), by omega⟩) (by omega) ?_
        try simp (disch := decide) only [rS_eq, rS_ne, rS_rS]
        rw [hJ18]
        refine g_iastN hX dX5_from_162 hm.k6 (⟨rfl, by omega⟩) (by omega) ?_
        try simp (disch := decide) only [rS_eq, rS_ne, rS_rS]
        refine g_aload_n hX dX5_from_163 rfl rfl ?_
        refine g_get5R hX 11 dX5_from_164 b_fl_X5_28 hm.k0 (by decide) hm.q7 ?_
        refine g_iload_n hX dX5_from_167 rfl rfl ?_
        refine g_aload_n hX dX5_from_168 rfl rfl ?_
        refine g_get5R hX 31 dX5_from_169 b_fl_X5_65 hm.k0 (by decide) hm.q18 ?_
        refine g_iload_n hX dX5_from_172 rfl rfl ?_
        refine g_bipush (v := 32) hX dX5_from_173 (by decide) ?_
        refine g_iadd hX dX5_from_175 ?_
        refine g_iload_n hX dX5_from_176 rfl rfl ?_
        refine g_iadd hX dX5_from_177 ?_
        refine g_ialdN hX dX5_from_178 hm.k18 (⟨(by rw [show (32 : Int32) = nI 32 from rfl, nI_add, nI_add]), by omega⟩) (by omega) ?_
        try simp (disch := decide) only [rS_eq, rS_ne, rS_rS]
        rw [hJ18]
        refine g_iastN hX dX5_from_179 hm.k7 (⟨rfl, by omega⟩) (by omega) ?_
        try simp (disch := decide) only [rS_eq, rS_ne, rS_rS]
        refine g_aload_n hX dX5_from_180 rfl rfl ?_
        refine g_get5R hX 12 dX5_from_181 b_fl_X5_31 hm.k0 (by decide) hm.q8 ?_
        refine g_iload_n hX dX5_from_184 rfl rfl ?_
        refine g_aload_n hX dX5_from_185 rfl rfl ?_
        refine g_get5R hX 31 dX5_from_186 b_fl_X5_65 hm.k0 (by decide) hm.q18 ?_
        refine g_iload_n hX dX5_from_189 rfl rfl ?_
        refine g_bipush (v := 39) hX dX5_from_190 (by decide) ?_
        refine g_iadd hX dX5_from_192 ?_
        refine g_iload_n hX dX5_from_193 rfl rfl ?_
        refine g_iadd hX dX5_from_194 ?_
        refine g_ialdN hX dX5_from_195 hm.k18 (⟨(by rw [show (39 : Int32) = nI 39 from rfl, nI_add, nI_add]), by omega⟩) (by omega) ?_
        try simp (disch := decide) only [rS_eq, rS_ne, rS_rS]
        rw [hJ18]
        refine g_iastN hX dX5_from_196 hm.k8 (⟨rfl, by omega⟩) (by omega) ?_
        try simp (disch := decide) only [rS_eq, rS_ne, rS_rS]
        refine g_iinc hX dX5_from_197 rfl (d := 1) (by decide) ?_
        refine g_goto (tgt := 123) hX dX5_from_200 (by decide) ?_
        exact G.at (ih hlt _ (FRm.s2 hJ hlt)) ⟨rfl, rfl, rfl, vI (nI_1 c), trivial⟩
      )
    have l1 := loop_up (n := 4) (P := fun c => ∀ J : SI, FRm I (150 * i) J c 0 0 0 → G X w mX5_from J L 93 (lvO [(0, .ref (gA w 0)), (1, .int (nI i)), (2, .int (nI (150 * i))), (3, .int (nI c))]) []) (fun c hc ih J hJ => by
      refine g_iload_n hX dX5_from_93 rfl rfl ?_
      refine g_iconst (v := 4) hX dX5_from_94 (by decide) ?_
      rw [show (4 : Int32) = nI 4 from rfl]
      refine g_icmp_ge (tgt := 121) hX dX5_from_95 (by decide) (fun c_95 => ?_) (fun c_95 => ?_)
      · refine g_iconst (v := 0) hX dX5_from_121 (by decide) ?_
        refine g_istore_n hX dX5_from_122 rfl (by decide) ?_
        have ec : c = 4 := Nat.le_antisymm hc (nle c_95 (by decide) (by omega))
        subst ec
        exact G.at (l2 0 (Nat.zero_le _) J hJ) ⟨rfl, rfl, rfl, rfl, trivial⟩
      · have hlt := nnle c_95 (by decide) (by omega)
        have hJ18 : J 18 = I 18 := hJ.1 18 (by decide) (by decide) (by decide)
        refine g_aload_n hX dX5_from_98 rfl rfl ?_
        refine g_get5R hX 6 dX5_from_99 b_fl_X5_13 hm.k0 (by decide) hm.q2 ?_
        refine g_iload_n hX dX5_from_102 rfl rfl ?_
        refine g_aload_n hX dX5_from_103 rfl rfl ?_
        refine g_get5R hX 31 dX5_from_104 b_fl_X5_65 hm.k0 (by decide) hm.q18 ?_
        refine g_iload_n hX dX5_from_107 rfl rfl ?_
        refine g_bipush (v := 14) hX dX5_from_108 (by decide) ?_
        refine g_iadd hX dX5_from_110 ?_
        refine g_iload_n hX dX5_from_111 rfl rfl ?_
        refine g_iadd hX dX5_from_112 ?_
        refine g_ialdN hX dX5_from_113 hm.k18 (⟨(by rw [show (14 : Int32) = nI 14 from rfl, nI_add, nI_add]), by omega⟩) (by omega) ?_
        try simp (disch := decide) only [rS_eq, rS_ne, rS_rS]
        rw [hJ18]
        refine g_iastN hX dX5_from_114 hm.k2 (⟨rfl, by omega⟩) (by omega) ?_
        try simp (disch := decide) only [rS_eq, rS_ne, rS_rS]
        refine g_iinc hX dX5_from_115 rfl (d := 1) (by decide) ?_
        refine g_goto (tgt := 93) hX dX5_from_118 (by decide) ?_
        exact G.at (ih hlt _ (FRm.s1 hJ hlt)) ⟨rfl, rfl, rfl, vI (nI_1 c), trivial⟩
      )
    refine g_aload_n hX dX5_from_14 rfl rfl ?_
    refine g_get5R hX 32 dX5_from_15 b_fl_X5_68 hm.k0 (by decide) hm.q19 ?_
    refine g_iload_n hX dX5_from_18 rfl rfl ?_
    refine g_ialdN hX dX5_from_19 hm.k19 (⟨rfl, by omega⟩) (by omega) ?_
    try simp (disch := decide) only [rS_eq, rS_ne, rS_rS]
    refine g_if_ne (tgt := 28) hX dX5_from_20 (by decide) (fun c_20 => ?_) (fun c_20 => ?_)
    · refine g_sipush (v := 150) hX dX5_from_28 (by decide) ?_
      refine g_iload_n hX dX5_from_31 rfl rfl ?_
      refine g_imul hX dX5_from_32 ?_
      rw [show (150 : Int32) = nI 150 from rfl, pk_mul]
      refine g_istore_n hX dX5_from_33 rfl (by decide) ?_
      refine g_aload_n hX dX5_from_34 rfl rfl ?_
      refine g_aload_n hX dX5_from_35 rfl rfl ?_
      refine g_get5R hX 31 dX5_from_36 b_fl_X5_65 hm.k0 (by decide) hm.q18 ?_
      refine g_iload_n hX dX5_from_39 rfl rfl ?_
      refine g_ialdN hX dX5_from_40 hm.k18 (⟨rfl, by omega⟩) (by omega) ?_
      try simp (disch := decide) only [rS_eq, rS_ne, rS_rS]
      refine g_put5I hX 1 dX5_from_41 b_fl_X5_74 hm.k0 pf5_1 ?_
      try simp (disch := decide) only [rS_eq, rS_ne, rS_rS]
      refine g_aload_n hX dX5_from_44 rfl rfl ?_
      refine g_aload_n hX dX5_from_45 rfl rfl ?_
      refine g_get5R hX 31 dX5_from_46 b_fl_X5_65 hm.k0 (by decide) hm.q18 ?_
      refine g_iload_n hX dX5_from_49 rfl rfl ?_
      refine g_iconst (v := 1) hX dX5_from_50 (by decide) ?_
      refine g_iadd hX dX5_from_51 ?_
      refine g_ialdN hX dX5_from_52 hm.k18 (⟨(by rw [show (1 : Int32) = nI 1 from rfl, nI_add]), by omega⟩) (by omega) ?_
      try simp (disch := decide) only [rS_eq, rS_ne, rS_rS]
      refine g_put5I hX 2 dX5_from_53 b_fl_X5_78 hm.k0 pf5_2 ?_
      try simp (disch := decide) only [rS_eq, rS_ne, rS_rS]
      refine g_aload_n hX dX5_from_56 rfl rfl ?_
      refine g_aload_n hX dX5_from_57 rfl rfl ?_
      refine g_get5R hX 31 dX5_from_58 b_fl_X5_65 hm.k0 (by decide) hm.q18 ?_
      refine g_iload_n hX dX5_from_61 rfl rfl ?_
      refine g_iconst (v := 2) hX dX5_from_62 (by decide) ?_
      refine g_iadd hX dX5_from_63 ?_
      refine g_ialdN hX dX5_from_64 hm.k18 (⟨(by rw [show (2 : Int32) = nI 2 from rfl, nI_add]), by omega⟩) (by omega) ?_
      try simp (disch := decide) only [rS_eq, rS_ne, rS_rS]
      refine g_put5I hX 5 dX5_from_65 b_fl_X5_87 hm.k0 pf5_5 ?_
      try simp (disch := decide) only [rS_eq, rS_ne, rS_rS]
      refine g_aload_n hX dX5_from_68 rfl rfl ?_
      refine g_aload_n hX dX5_from_69 rfl rfl ?_
      refine g_get5R hX 31 dX5_from_70 b_fl_X5_65 hm.k0 (by decide) hm.q18 ?_
      refine g_iload_n hX dX5_from_73 rfl rfl ?_
      refine g_iconst (v := 3) hX dX5_from_74 (by decide) ?_
      refine g_iadd hX dX5_from_75 ?_
      refine g_ialdN hX dX5_from_76 hm.k18 (⟨(by rw [show (3 : Int32) = nI 3 from rfl, nI_add]), by omega⟩) (by omega) ?_
      try simp (disch := decide) only [rS_eq, rS_ne, rS_rS]
      refine g_put5I hX 27 dX5_from_77 b_fl_X5_90 hm.k0 pf5_27 ?_
      try simp (disch := decide) only [rS_eq, rS_ne, rS_rS]
      refine g_aload_n hX dX5_from_80 rfl rfl ?_
      refine g_aload_n hX dX5_from_81 rfl rfl ?_
      refine g_get5R hX 31 dX5_from_82 b_fl_X5_65 hm.k0 (by decide) hm.q18 ?_
      refine g_iload_n hX dX5_from_85 rfl rfl ?_
      refine g_iconst (v := 4) hX dX5_from_86 (by decide) ?_
      refine g_iadd hX dX5_from_87 ?_
      rw [show (4 : Int32) = nI 4 from rfl, nI_add]
      refine g_callV _ hX dX5_from_88 k_X5_203 ⟨by decide, by decide⟩ (by decide) hm.k0 rfl rfl (m_takes (q := 18) (a := 150 * i + 4) hm hm.k18 (by decide) (by omega) ⟨by decide, by decide, by decide⟩) rfl (Nat.le_of_ble_eq_true rfl) (fun r1 I1 L1 hq => ?_)
      obtain ⟨rfl, rfl, rfl⟩ := hq
      try simp (disch := decide) only [rS_eq, rS_ne, rS_rS]
      refine g_iconst (v := 0) hX dX5_from_91 (by decide) ?_
      refine g_istore_n hX dX5_from_92 rfl (by decide) ?_
      exact G.at (l1 0 (Nat.zero_le _) _ FRm.go) ⟨rfl, rfl, rfl, rfl, trivial⟩
    · exact absurd c_20 (by rw [hk1]; decide)
  · exact absurd ⟨nI_pos' (by omega), (nI_leI (b := 1) (by omega) (by decide)).mpr (by omega)⟩ (b01_0 c_6)
