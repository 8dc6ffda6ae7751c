theorem and31 (x : Int32) : ∃ k, k < 32 ∧ x &&& 31 = nI k := by
  have h : (x.toBitVec &&& 31#32).toNat < 32 := by
    rw [BitVec.toNat_and]
    exact Nat.lt_succ_of_le Nat.and_le_right
  refine ⟨(x.toBitVec &&& 31#32).toNat, h, ?_⟩
  apply Int32.toBitVec_inj.mp
  show x.toBitVec &&& 31#32 = BitVec.ofNat 32 _
  simp
theorem lg_cmp_self (x : Int64) : lg_cmp x x = 0 := by simp [lg_cmp]
/-- behind a call on both sides -/
def NEXT (T : LT) (w0 : WG) (b a1 a2 t kc ks : Nat) : Prop := ∀ (C S : Nat) (w : WG) (I : SI) (L : SL) (v : WG) (J : SI) (K : SL), C ≤ 10 → S ≤ 159 → exW w0 w → exW w0 v → gA w 0 = a1 → gA v 0 = a2 → XL w → ML v → TIE w I (t + 1) → (∃ n d r q p m, RR I J K n d r q p m) → GL T (kc + C) (ks + S) w I L v J K 1064 (lvO [(0, .ref b), (1, .ref a1), (2, .ref a2), (3, .int (nI (5 * t)))]) []
theorem kL_13 : LkV RL 13 mX4_village 0 := ⟨⟨b_ml_L_13, b_inm_yX4_village, b_se_yX4_village, b_in_X4, b_co_yX4_village⟩, by decide +kernel, by decide +kernel, by decide +kernel⟩
theorem kL_17 : LkV RL 17 mX5_village 0 := ⟨⟨b_ml_L_17, b_inm_yX5_village, b_se_yX5_village, b_in_X5, b_co_yX5_village⟩, by decide +kernel, by decide +kernel, by decide +kernel⟩
set_option maxHeartbeats 4000000 in
set_option maxRecDepth 100000 in
theorem case_0 {T : LT} {w0 : WG} {p : Program} {l : Launch} {e : Env} {s : State} {m : MethodId} {below : List Frame} {meth : Method} {c : Code} {b Ln : Nat} {xs : Nat → Int32} {kc ks : Nat} {w : WG} {I : SI} {L : SL} {v : WG} {J : SI} {K : SL} {a1 a2 t n d r q p0 m0 : Nat} (hT : T = (p, l, e, s, m, below, meth, c, b, Ln, xs)) (hC : LC T w0) (he : exW w0 w) (he2 : exW w0 v) (ha1 : gA w 0 = a1) (ha2 : gA v 0 = a2) (hw : XL w) (hm : ML v) (ht : TIE w I t) (h9 : t < 512) (h : RR I J K n d r q p0 m0) (hi : 5 * t + 5 ≤ Ln) (hrm : kc + 10 ≤ room_1.cells ∧ ks + 159 ≤ room_1.slots) (nx : NEXT T w0 b a1 a2 t kc ks) : GL T kc ks w I L v J K 176 (lvO [(0, .ref b), (1, .ref a1), (2, .ref a2), (3, .int (nI (5 * t)))]) [] := by
  subst ha1; subst ha2
  obtain ⟨x, C, S, Q, ⟨hC1, hS1⟩, hO, hk⟩ := st_village (L := L) hw hm ht h
  refine f_aload_n hC dL_law_176 rfl rfl ?_
  refine f_call (C1 := C) (S1 := S) [] (hC.ex he) dL_law_177 kL_13 ⟨by decide, by decide⟩ (by decide) hw.k0 rfl rfl hO ⟨by omega, by omega⟩ rfl (Nat.le_of_ble_eq_true rfl) (fun r1 w1 I1 L1 hex hq => ?_)
  obtain ⟨e1, e2, I2, e3, hw1, hO2⟩ := hk r1 w1 I1 L1 hex hq
  subst e1
  refine GL.ws ?_ e3
  refine f_aload_n hC dL_law_180 rfl rfl ?_
  refine GL.sw ?_
  refine f_call (C1 := 0) (S1 := 0) [.int x] (hC.ex he2) dL_law_181 kL_17 ⟨by decide, by decide⟩ (by decide) hm.k0 rfl rfl (OkM.ofOk hO2) ⟨by omega, by omega⟩ rfl (Nat.le_of_ble_eq_true rfl) (fun r2 v1 J1 K1 hex2 hq2 => ?_)
  obtain ⟨e5, e4, ht1, h1⟩ := hq2
  subst e4; subst e5
  refine GL.sw ?_
  refine f_icmp_eq (tgt := 1064) hC dL_law_184 (by decide) ?_
  exact nx C S w1 I2 L1 v1 J1 K1 hC1 hS1 (he.tr hex) he2 e2 rfl hw1 hm ht1 h1
theorem kL_18 : LkV RL 18 mX4_man 2 := ⟨⟨b_ml_L_18, b_inm_yX4_man, b_se_yX4_man, b_in_X4, b_co_yX4_man⟩, by decide +kernel, by decide +kernel, by decide +kernel⟩
theorem kL_22 : LkV RL 22 mX5_man 2 := ⟨⟨b_ml_L_22, b_inm_yX5_man, b_se_yX5_man, b_in_X5, b_co_yX5_man⟩, by decide +kernel, by decide +kernel, by decide +kernel⟩
set_option maxHeartbeats 4000000 in
set_option maxRecDepth 100000 in
theorem case_1 {T : LT} {w0 : WG} {p : Program} {l : Launch} {e : Env} {s : State} {m : MethodId} {below : List Frame} {meth : Method} {c : Code} {b Ln : Nat} {xs : Nat → Int32} {kc ks : Nat} {w : WG} {I : SI} {L : SL} {v : WG} {J : SI} {K : SL} {a1 a2 t n d r q p0 m0 : Nat} (hT : T = (p, l, e, s, m, below, meth, c, b, Ln, xs)) (hC : LC T w0) (he : exW w0 w) (he2 : exW w0 v) (ha1 : gA w 0 = a1) (ha2 : gA v 0 = a2) (hw : XL w) (hm : ML v) (ht : TIE w I t) (h9 : t < 512) (h : RR I J K n d r q p0 m0) (hi : 5 * t + 5 ≤ Ln) (hrm : kc + 10 ≤ room_1.cells ∧ ks + 159 ≤ room_1.slots) (nx : NEXT T w0 b a1 a2 t kc ks) : GL T kc ks w I L v J K 189 (lvO [(0, .ref b), (1, .ref a1), (2, .ref a2), (3, .int (nI (5 * t)))]) [] := by
  subst ha1; subst ha2
  obtain ⟨x, C, S, Q, ⟨hC1, hS1⟩, hO, hk⟩ := st_man (L := L) hw hm ht h (xs (5 * t + 1)) (xs (5 * t + 2))
  refine f_aload_n hC dL_law_189 rfl rfl ?_
  refine f_aload_n hC dL_law_190 rfl rfl ?_
  refine f_iload_n hC dL_law_191 rfl rfl ?_
  refine f_iconst (x := 1) hC dL_law_192 (by decide) ?_
  refine f_iadd hC dL_law_193 ?_
  refine f_sld (i := 5 * t + 1) hT hC dL_law_194 ⟨by rw [show (1 : Int32) = nI 1 from rfl, nI_add], by omega⟩ ?_
  refine f_aload_n hC dL_law_195 rfl rfl ?_
  refine f_iload_n hC dL_law_196 rfl rfl ?_
  refine f_iconst (x := 2) hC dL_law_197 (by decide) ?_
  refine f_iadd hC dL_law_198 ?_
  refine f_sld (i := 5 * t + 2) hT hC dL_law_199 ⟨by rw [show (2 : Int32) = nI 2 from rfl, nI_add], by omega⟩ ?_
  refine f_call (C1 := C) (S1 := S) [] (hC.ex he) dL_law_200 kL_18 ⟨by decide, by decide⟩ (by decide) hw.k0 rfl rfl hO ⟨by omega, by omega⟩ rfl (Nat.le_of_ble_eq_true rfl) (fun r1 w1 I1 L1 hex hq => ?_)
  obtain ⟨e1, e2, I2, e3, hw1, hO2⟩ := hk r1 w1 I1 L1 hex hq
  subst e1
  refine GL.ws ?_ e3
  refine f_aload_n hC dL_law_203 rfl rfl ?_
  refine f_aload_n hC dL_law_204 rfl rfl ?_
  refine f_iload_n hC dL_law_205 rfl rfl ?_
  refine f_iconst (x := 1) hC dL_law_206 (by decide) ?_
  refine f_iadd hC dL_law_207 ?_
  refine f_sld (i := 5 * t + 1) hT hC dL_law_208 ⟨by rw [show (1 : Int32) = nI 1 from rfl, nI_add], by omega⟩ ?_
  refine f_aload_n hC dL_law_209 rfl rfl ?_
  refine f_iload_n hC dL_law_210 rfl rfl ?_
  refine f_iconst (x := 2) hC dL_law_211 (by decide) ?_
  refine f_iadd hC dL_law_212 ?_
  refine f_sld (i := 5 * t + 2) hT hC dL_law_213 ⟨by rw [show (2 : Int32) = nI 2 from rfl, nI_add], by omega⟩ ?_
  refine GL.sw ?_
  refine f_call (C1 := 0) (S1 := 0) [.int x] (hC.ex he2) dL_law_214 kL_22 ⟨by decide, by decide⟩ (by decide) hm.k0 rfl rfl (OkM.ofOk hO2) ⟨by omega, by omega⟩ rfl (Nat.le_of_ble_eq_true rfl) (fun r2 v1 J1 K1 hex2 hq2 => ?_)
  obtain ⟨e5, e4, ht1, h1⟩ := hq2
  subst e4; subst e5
  refine GL.sw ?_
  refine f_icmp_eq (tgt := 1064) hC dL_law_217 (by decide) ?_
  exact nx C S w1 I2 L1 v1 J1 K1 hC1 hS1 (he.tr hex) he2 e2 rfl hw1 hm ht1 h1
theorem kL_23 : LkV RL 23 mX4_dog 4 := ⟨⟨b_ml_L_23, b_inm_yX4_dog, b_se_yX4_dog, b_in_X4, b_co_yX4_dog⟩, by decide +kernel, by decide +kernel, by decide +kernel⟩
theorem kL_27 : LkV RL 27 mX5_dog 4 := ⟨⟨b_ml_L_27, b_inm_yX5_dog, b_se_yX5_dog, b_in_X5, b_co_yX5_dog⟩, by decide +kernel, by decide +kernel, by decide +kernel⟩
set_option maxHeartbeats 4000000 in
set_option maxRecDepth 100000 in
theorem case_2 {T : LT} {w0 : WG} {p : Program} {l : Launch} {e : Env} {s : State} {m : MethodId} {below : List Frame} {meth : Method} {c : Code} {b Ln : Nat} {xs : Nat → Int32} {kc ks : Nat} {w : WG} {I : SI} {L : SL} {v : WG} {J : SI} {K : SL} {a1 a2 t n d r q p0 m0 : Nat} (hT : T = (p, l, e, s, m, below, meth, c, b, Ln, xs)) (hC : LC T w0) (he : exW w0 w) (he2 : exW w0 v) (ha1 : gA w 0 = a1) (ha2 : gA v 0 = a2) (hw : XL w) (hm : ML v) (ht : TIE w I t) (h9 : t < 512) (h : RR I J K n d r q p0 m0) (hi : 5 * t + 5 ≤ Ln) (hrm : kc + 10 ≤ room_1.cells ∧ ks + 159 ≤ room_1.slots) (nx : NEXT T w0 b a1 a2 t kc ks) : GL T kc ks w I L v J K 222 (lvO [(0, .ref b), (1, .ref a1), (2, .ref a2), (3, .int (nI (5 * t)))]) [] := by
  subst ha1; subst ha2
  obtain ⟨x, C, S, Q, ⟨hC1, hS1⟩, hO, hk⟩ := st_dog (L := L) hw hm ht h (xs (5 * t + 1)) (xs (5 * t + 2)) (xs (5 * t + 3)) (xs (5 * t + 4))
  refine f_aload_n hC dL_law_222 rfl rfl ?_
  refine f_aload_n hC dL_law_223 rfl rfl ?_
  refine f_iload_n hC dL_law_224 rfl rfl ?_
  refine f_iconst (x := 1) hC dL_law_225 (by decide) ?_
  refine f_iadd hC dL_law_226 ?_
  refine f_sld (i := 5 * t + 1) hT hC dL_law_227 ⟨by rw [show (1 : Int32) = nI 1 from rfl, nI_add], by omega⟩ ?_
  refine f_aload_n hC dL_law_228 rfl rfl ?_
  refine f_iload_n hC dL_law_229 rfl rfl ?_
  refine f_iconst (x := 2) hC dL_law_230 (by decide) ?_
  refine f_iadd hC dL_law_231 ?_
  refine f_sld (i := 5 * t + 2) hT hC dL_law_232 ⟨by rw [show (2 : Int32) = nI 2 from rfl, nI_add], by omega⟩ ?_
  refine f_aload_n hC dL_law_233 rfl rfl ?_
  refine f_iload_n hC dL_law_234 rfl rfl ?_
  refine f_iconst (x := 3) hC dL_law_235 (by decide) ?_
  refine f_iadd hC dL_law_236 ?_
  refine f_sld (i := 5 * t + 3) hT hC dL_law_237 ⟨by rw [show (3 : Int32) = nI 3 from rfl, nI_add], by omega⟩ ?_
  refine f_aload_n hC dL_law_238 rfl rfl ?_
  refine f_iload_n hC dL_law_239 rfl rfl ?_
  refine f_iconst (x := 4) hC dL_law_240 (by decide) ?_
  refine f_iadd hC dL_law_241 ?_
  refine f_sld (i := 5 * t + 4) hT hC dL_law_242 ⟨by rw [show (4 : Int32) = nI 4 from rfl, nI_add], by omega⟩ ?_
  refine f_call (C1 := C) (S1 := S) [] (hC.ex he) dL_law_243 kL_23 ⟨by decide, by decide⟩ (by decide) hw.k0 rfl rfl hO ⟨by omega, by omega⟩ rfl (Nat.le_of_ble_eq_true rfl) (fun r1 w1 I1 L1 hex hq => ?_)
  obtain ⟨e1, e2, I2, e3, hw1, hO2⟩ := hk r1 w1 I1 L1 hex hq
  subst e1
  refine GL.ws ?_ e3
  refine f_aload_n hC dL_law_246 rfl rfl ?_
  refine f_aload_n hC dL_law_247 rfl rfl ?_
  refine f_iload_n hC dL_law_248 rfl rfl ?_
  refine f_iconst (x := 1) hC dL_law_249 (by decide) ?_
  refine f_iadd hC dL_law_250 ?_
  refine f_sld (i := 5 * t + 1) hT hC dL_law_251 ⟨by rw [show (1 : Int32) = nI 1 from rfl, nI_add], by omega⟩ ?_
  refine f_aload_n hC dL_law_252 rfl rfl ?_
  refine f_iload_n hC dL_law_253 rfl rfl ?_
  refine f_iconst (x := 2) hC dL_law_254 (by decide) ?_
  refine f_iadd hC dL_law_255 ?_
  refine f_sld (i := 5 * t + 2) hT hC dL_law_256 ⟨by rw [show (2 : Int32) = nI 2 from rfl, nI_add], by omega⟩ ?_
  refine f_aload_n hC dL_law_257 rfl rfl ?_
  refine f_iload_n hC dL_law_258 rfl rfl ?_
  refine f_iconst (x := 3) hC dL_law_259 (by decide) ?_
  refine f_iadd hC dL_law_260 ?_
  refine f_sld (i := 5 * t + 3) hT hC dL_law_261 ⟨by rw [show (3 : Int32) = nI 3 from rfl, nI_add], by omega⟩ ?_
  refine f_aload_n hC dL_law_262 rfl rfl ?_
  refine f_iload_n hC dL_law_263 rfl rfl ?_
  refine f_iconst (x := 4) hC dL_law_264 (by decide) ?_
  refine f_iadd hC dL_law_265 ?_
  refine f_sld (i := 5 * t + 4) hT hC dL_law_266 ⟨by rw [show (4 : Int32) = nI 4 from rfl, nI_add], by omega⟩ ?_
  refine GL.sw ?_
  refine f_call (C1 := 0) (S1 := 0) [.int x] (hC.ex he2) dL_law_267 kL_27 ⟨by decide, by decide⟩ (by decide) hm.k0 rfl rfl (OkM.ofOk hO2) ⟨by omega, by omega⟩ rfl (Nat.le_of_ble_eq_true rfl) (fun r2 v1 J1 K1 hex2 hq2 => ?_)
  obtain ⟨e5, e4, ht1, h1⟩ := hq2
  subst e4; subst e5
  refine GL.sw ?_
  refine f_icmp_eq (tgt := 1064) hC dL_law_270 (by decide) ?_
  exact nx C S w1 I2 L1 v1 J1 K1 hC1 hS1 (he.tr hex) he2 e2 rfl hw1 hm ht1 h1
theorem kL_28 : LkV RL 28 mX4_type 1 := ⟨⟨b_ml_L_28, b_inm_yX4_type, b_se_yX4_type, b_in_X4, b_co_yX4_type⟩, by decide +kernel, by decide +kernel, by decide +kernel⟩
theorem kL_32 : LkV RL 32 mX5_type 1 := ⟨⟨b_ml_L_32, b_inm_yX5_type, b_se_yX5_type, b_in_X5, b_co_yX5_type⟩, by decide +kernel, by decide +kernel, by decide +kernel⟩
set_option maxHeartbeats 4000000 in
set_option maxRecDepth 100000 in
theorem case_3 {T : LT} {w0 : WG} {p : Program} {l : Launch} {e : Env} {s : State} {m : MethodId} {below : List Frame} {meth : Method} {c : Code} {b Ln : Nat} {xs : Nat → Int32} {kc ks : Nat} {w : WG} {I : SI} {L : SL} {v : WG} {J : SI} {K : SL} {a1 a2 t n d r q p0 m0 : Nat} (hT : T = (p, l, e, s, m, below, meth, c, b, Ln, xs)) (hC : LC T w0) (he : exW w0 w) (he2 : exW w0 v) (ha1 : gA w 0 = a1) (ha2 : gA v 0 = a2) (hw : XL w) (hm : ML v) (ht : TIE w I t) (h9 : t < 512) (h : RR I J K n d r q p0 m0) (hi : 5 * t + 5 ≤ Ln) (hrm : kc + 10 ≤ room_1.cells ∧ ks + 159 ≤ room_1.slots) (nx : NEXT T w0 b a1 a2 t kc ks) : GL T kc ks w I L v J K 275 (lvO [(0, .ref b), (1, .ref a1), (2, .ref a2), (3, .int (nI (5 * t)))]) [] := by
  subst ha1; subst ha2
  obtain ⟨x, C, S, Q, ⟨hC1, hS1⟩, hO, hk⟩ := st_type (L := L) hw hm ht h (xs (5 * t + 1))
  refine f_aload_n hC dL_law_275 rfl rfl ?_
  refine f_aload_n hC dL_law_276 rfl rfl ?_
  refine f_iload_n hC dL_law_277 rfl rfl ?_
  refine f_iconst (x := 1) hC dL_law_278 (by decide) ?_
  refine f_iadd hC dL_law_279 ?_
  refine f_sld (i := 5 * t + 1) hT hC dL_law_280 ⟨by rw [show (1 : Int32) = nI 1 from rfl, nI_add], by omega⟩ ?_
  refine f_call (C1 := C) (S1 := S) [] (hC.ex he) dL_law_281 kL_28 ⟨by decide, by decide⟩ (by decide) hw.k0 rfl rfl hO ⟨by omega, by omega⟩ rfl (Nat.le_of_ble_eq_true rfl) (fun r1 w1 I1 L1 hex hq => ?_)
  obtain ⟨e1, e2, I2, e3, hw1, hO2⟩ := hk r1 w1 I1 L1 hex hq
  subst e1
  refine GL.ws ?_ e3
  refine f_aload_n hC dL_law_284 rfl rfl ?_
  refine f_aload_n hC dL_law_285 rfl rfl ?_
  refine f_iload_n hC dL_law_286 rfl rfl ?_
  refine f_iconst (x := 1) hC dL_law_287 (by decide) ?_
  refine f_iadd hC dL_law_288 ?_
  refine f_sld (i := 5 * t + 1) hT hC dL_law_289 ⟨by rw [show (1 : Int32) = nI 1 from rfl, nI_add], by omega⟩ ?_
  refine GL.sw ?_
  refine f_call (C1 := 0) (S1 := 0) [.int x] (hC.ex he2) dL_law_290 kL_32 ⟨by decide, by decide⟩ (by decide) hm.k0 rfl rfl (OkM.ofOk hO2) ⟨by omega, by omega⟩ rfl (Nat.le_of_ble_eq_true rfl) (fun r2 v1 J1 K1 hex2 hq2 => ?_)
  obtain ⟨e5, e4, ht1, h1⟩ := hq2
  subst e4; subst e5
  refine GL.sw ?_
  refine f_icmp_eq (tgt := 1064) hC dL_law_293 (by decide) ?_
  exact nx C S w1 I2 L1 v1 J1 K1 hC1 hS1 (he.tr hex) he2 e2 rfl hw1 hm ht1 h1
theorem kL_33 : LkV RL 33 mX4_clear 0 := ⟨⟨b_ml_L_33, b_inm_yX4_clear, b_se_yX4_clear, b_in_X4, b_co_yX4_clear⟩, by decide +kernel, by decide +kernel, by decide +kernel⟩
theorem kL_36 : LkV RL 36 mX5_clear 0 := ⟨⟨b_ml_L_36, b_inm_yX5_clear, b_se_yX5_clear, b_in_X5, b_co_yX5_clear⟩, by decide +kernel, by decide +kernel, by decide +kernel⟩
set_option maxHeartbeats 4000000 in
set_option maxRecDepth 100000 in
theorem case_4 {T : LT} {w0 : WG} {p : Program} {l : Launch} {e : Env} {s : State} {m : MethodId} {below : List Frame} {meth : Method} {c : Code} {b Ln : Nat} {xs : Nat → Int32} {kc ks : Nat} {w : WG} {I : SI} {L : SL} {v : WG} {J : SI} {K : SL} {a1 a2 t n d r q p0 m0 : Nat} (hT : T = (p, l, e, s, m, below, meth, c, b, Ln, xs)) (hC : LC T w0) (he : exW w0 w) (he2 : exW w0 v) (ha1 : gA w 0 = a1) (ha2 : gA v 0 = a2) (hw : XL w) (hm : ML v) (ht : TIE w I t) (h9 : t < 512) (h : RR I J K n d r q p0 m0) (hi : 5 * t + 5 ≤ Ln) (hrm : kc + 10 ≤ room_1.cells ∧ ks + 159 ≤ room_1.slots) (nx : NEXT T w0 b a1 a2 t kc ks) : GL T kc ks w I L v J K 298 (lvO [(0, .ref b), (1, .ref a1), (2, .ref a2), (3, .int (nI (5 * t)))]) [] := by
  subst ha1; subst ha2
  obtain ⟨x, C, S, Q, ⟨hC1, hS1⟩, hO, hk⟩ := st_clear (L := L) hw hm ht h
  refine f_aload_n hC dL_law_298 rfl rfl ?_
  refine f_call (C1 := C) (S1 := S) [] (hC.ex he) dL_law_299 kL_33 ⟨by decide, by decide⟩ (by decide) hw.k0 rfl rfl hO ⟨by omega, by omega⟩ rfl (Nat.le_of_ble_eq_true rfl) (fun r1 w1 I1 L1 hex hq => ?_)
  obtain ⟨e1, e2, I2, e3, hw1, hO2⟩ := hk r1 w1 I1 L1 hex hq
  subst e1
  refine GL.ws ?_ e3
  refine f_aload_n hC dL_law_302 rfl rfl ?_
  refine GL.sw ?_
  refine f_call (C1 := 0) (S1 := 0) [.int x] (hC.ex he2) dL_law_303 kL_36 ⟨by decide, by decide⟩ (by decide) hm.k0 rfl rfl (OkM.ofOk hO2) ⟨by omega, by omega⟩ rfl (Nat.le_of_ble_eq_true rfl) (fun r2 v1 J1 K1 hex2 hq2 => ?_)
  obtain ⟨e5, e4, ht1, h1⟩ := hq2
  subst e4; subst e5
  refine GL.sw ?_
  refine f_icmp_eq (tgt := 1064) hC dL_law_306 (by decide) ?_
  exact nx C S w1 I2 L1 v1 J1 K1 hC1 hS1 (he.tr hex) he2 e2 rfl hw1 hm ht1 h1
theorem kL_37 : LkV RL 37 mX4_read 0 := ⟨⟨b_ml_L_37, b_inm_yX4_read, b_se_yX4_read, b_in_X4, b_co_yX4_read⟩, by decide +kernel, by decide +kernel, by decide +kernel⟩
theorem kL_40 : LkV RL 40 mX5_read 0 := ⟨⟨b_ml_L_40, b_inm_yX5_read, b_se_yX5_read, b_in_X5, b_co_yX5_read⟩, by decide +kernel, by decide +kernel, by decide +kernel⟩
set_option maxHeartbeats 4000000 in
set_option maxRecDepth 100000 in
theorem case_5 {T : LT} {w0 : WG} {p : Program} {l : Launch} {e : Env} {s : State} {m : MethodId} {below : List Frame} {meth : Method} {c : Code} {b Ln : Nat} {xs : Nat → Int32} {kc ks : Nat} {w : WG} {I : SI} {L : SL} {v : WG} {J : SI} {K : SL} {a1 a2 t n d r q p0 m0 : Nat} (hT : T = (p, l, e, s, m, below, meth, c, b, Ln, xs)) (hC : LC T w0) (he : exW w0 w) (he2 : exW w0 v) (ha1 : gA w 0 = a1) (ha2 : gA v 0 = a2) (hw : XL w) (hm : ML v) (ht : TIE w I t) (h9 : t < 512) (h : RR I J K n d r q p0 m0) (hi : 5 * t + 5 ≤ Ln) (hrm : kc + 10 ≤ room_1.cells ∧ ks + 159 ≤ room_1.slots) (nx : NEXT T w0 b a1 a2 t kc ks) : GL T kc ks w I L v J K 311 (lvO [(0, .ref b), (1, .ref a1), (2, .ref a2), (3, .int (nI (5 * t)))]) [] := by
  subst ha1; subst ha2
  obtain ⟨x, C, S, Q, ⟨hC1, hS1⟩, hO, hk⟩ := st_read (L := L) hw hm ht (Nat.le_of_lt h9) h
  refine f_aload_n hC dL_law_311 rfl rfl ?_
  refine f_call (C1 := C) (S1 := S) [] (hC.ex he) dL_law_312 kL_37 ⟨by decide, by decide⟩ (by decide) hw.k0 rfl rfl hO ⟨by omega, by omega⟩ rfl (Nat.le_of_ble_eq_true rfl) (fun r1 w1 I1 L1 hex hq => ?_)
  obtain ⟨e1, e2, I2, e3, hw1, hO2⟩ := hk r1 w1 I1 L1 hex hq
  subst e1
  refine GL.ws ?_ e3
  refine f_aload_n hC dL_law_315 rfl rfl ?_
  refine GL.sw ?_
  refine f_call (C1 := 0) (S1 := 0) [.int x] (hC.ex he2) dL_law_316 kL_40 ⟨by decide, by decide⟩ (by decide) hm.k0 rfl rfl (OkM.ofOk hO2) ⟨by omega, by omega⟩ rfl (Nat.le_of_ble_eq_true rfl) (fun r2 v1 J1 K1 hex2 hq2 => ?_)
  obtain ⟨e5, e4, ht1, h1⟩ := hq2
  subst e4; subst e5
  refine GL.sw ?_
  refine f_icmp_eq (tgt := 1064) hC dL_law_319 (by decide) ?_
  exact nx C S w1 I2 L1 v1 J1 K1 hC1 hS1 (he.tr hex) he2 e2 rfl hw1 hm ht1 h1
theorem kL_41 : LkV RL 41 mX4_bribe 2 := ⟨⟨b_ml_L_41, b_inm_yX4_bribe, b_se_yX4_bribe, b_in_X4, b_co_yX4_bribe⟩, by decide +kernel, by decide +kernel, by decide +kernel⟩
theorem kL_44 : LkV RL 44 mX5_bribe 2 := ⟨⟨b_ml_L_44, b_inm_yX5_bribe, b_se_yX5_bribe, b_in_X5, b_co_yX5_bribe⟩, by decide +kernel, by decide +kernel, by decide +kernel⟩
set_option maxHeartbeats 4000000 in
set_option maxRecDepth 100000 in
theorem case_6 {T : LT} {w0 : WG} {p : Program} {l : Launch} {e : Env} {s : State} {m : MethodId} {below : List Frame} {meth : Method} {c : Code} {b Ln : Nat} {xs : Nat → Int32} {kc ks : Nat} {w : WG} {I : SI} {L : SL} {v : WG} {J : SI} {K : SL} {a1 a2 t n d r q p0 m0 : Nat} (hT : T = (p, l, e, s, m, below, meth, c, b, Ln, xs)) (hC : LC T w0) (he : exW w0 w) (he2 : exW w0 v) (ha1 : gA w 0 = a1) (ha2 : gA v 0 = a2) (hw : XL w) (hm : ML v) (ht : TIE w I t) (h9 : t < 512) (h : RR I J K n d r q p0 m0) (hi : 5 * t + 5 ≤ Ln) (hrm : kc + 10 ≤ room_1.cells ∧ ks + 159 ≤ room_1.slots) (nx : NEXT T w0 b a1 a2 t kc ks) : GL T kc ks w I L v J K 324 (lvO [(0, .ref b), (1, .ref a1), (2, .ref a2), (3, .int (nI (5 * t)))]) [] := by
  subst ha1; subst ha2
  obtain ⟨x, C, S, Q, ⟨hC1, hS1⟩, hO, hk⟩ := st_bribe (L := L) hw hm ht h (xs (5 * t + 1)) (xs (5 * t + 2))
  refine f_aload_n hC dL_law_324 rfl rfl ?_
  refine f_aload_n hC dL_law_325 rfl rfl ?_
  refine f_iload_n hC dL_law_326 rfl rfl ?_
  refine f_iconst (x := 1) hC dL_law_327 (by decide) ?_
  refine f_iadd hC dL_law_328 ?_
  refine f_sld (i := 5 * t + 1) hT hC dL_law_329 ⟨by rw [show (1 : Int32) = nI 1 from rfl, nI_add], by omega⟩ ?_
  refine f_aload_n hC dL_law_330 rfl rfl ?_
  refine f_iload_n hC dL_law_331 rfl rfl ?_
  refine f_iconst (x := 2) hC dL_law_332 (by decide) ?_
  refine f_iadd hC dL_law_333 ?_
  refine f_sld (i := 5 * t + 2) hT hC dL_law_334 ⟨by rw [show (2 : Int32) = nI 2 from rfl, nI_add], by omega⟩ ?_
  refine f_call (C1 := C) (S1 := S) [] (hC.ex he) dL_law_335 kL_41 ⟨by decide, by decide⟩ (by decide) hw.k0 rfl rfl hO ⟨by omega, by omega⟩ rfl (Nat.le_of_ble_eq_true rfl) (fun r1 w1 I1 L1 hex hq => ?_)
  obtain ⟨e1, e2, I2, e3, hw1, hO2⟩ := hk r1 w1 I1 L1 hex hq
  subst e1
  refine GL.ws ?_ e3
  refine f_aload_n hC dL_law_338 rfl rfl ?_
  refine f_aload_n hC dL_law_339 rfl rfl ?_
  refine f_iload_n hC dL_law_340 rfl rfl ?_
  refine f_iconst (x := 1) hC dL_law_341 (by decide) ?_
  refine f_iadd hC dL_law_342 ?_
  refine f_sld (i := 5 * t + 1) hT hC dL_law_343 ⟨by rw [show (1 : Int32) = nI 1 from rfl, nI_add], by omega⟩ ?_
  refine f_aload_n hC dL_law_344 rfl rfl ?_
  refine f_iload_n hC dL_law_345 rfl rfl ?_
  refine f_iconst (x := 2) hC dL_law_346 (by decide) ?_
  refine f_iadd hC dL_law_347 ?_
  refine f_sld (i := 5 * t + 2) hT hC dL_law_348 ⟨by rw [show (2 : Int32) = nI 2 from rfl, nI_add], by omega⟩ ?_
  refine GL.sw ?_
  refine f_call (C1 := 0) (S1 := 0) [.int x] (hC.ex he2) dL_law_349 kL_44 ⟨by decide, by decide⟩ (by decide) hm.k0 rfl rfl (OkM.ofOk hO2) ⟨by omega, by omega⟩ rfl (Nat.le_of_ble_eq_true rfl) (fun r2 v1 J1 K1 hex2 hq2 => ?_)
  obtain ⟨e5, e4, ht1, h1⟩ := hq2
  subst e4; subst e5
  refine GL.sw ?_
  refine f_icmp_eq (tgt := 1064) hC dL_law_352 (by decide) ?_
  exact nx C S w1 I2 L1 v1 J1 K1 hC1 hS1 (he.tr hex) he2 e2 rfl hw1 hm ht1 h1
theorem kL_45 : LkV RL 45 mX4_round 1 := ⟨⟨b_ml_L_45, b_inm_yX4_round, b_se_yX4_round, b_in_X4, b_co_yX4_round⟩, by decide +kernel, by decide +kernel, by decide +kernel⟩
theorem kL_48 : LkV RL 48 mX5_round 1 := ⟨⟨b_ml_L_48, b_inm_yX5_round, b_se_yX5_round, b_in_X5, b_co_yX5_round⟩, by decide +kernel, by decide +kernel, by decide +kernel⟩
set_option maxHeartbeats 4000000 in
set_option maxRecDepth 100000 in
theorem case_7 {T : LT} {w0 : WG} {p : Program} {l : Launch} {e : Env} {s : State} {m : MethodId} {below : List Frame} {meth : Method} {c : Code} {b Ln : Nat} {xs : Nat → Int32} {kc ks : Nat} {w : WG} {I : SI} {L : SL} {v : WG} {J : SI} {K : SL} {a1 a2 t n d r q p0 m0 : Nat} (hT : T = (p, l, e, s, m, below, meth, c, b, Ln, xs)) (hC : LC T w0) (he : exW w0 w) (he2 : exW w0 v) (ha1 : gA w 0 = a1) (ha2 : gA v 0 = a2) (hw : XL w) (hm : ML v) (ht : TIE w I t) (h9 : t < 512) (h : RR I J K n d r q p0 m0) (hi : 5 * t + 5 ≤ Ln) (hrm : kc + 10 ≤ room_1.cells ∧ ks + 159 ≤ room_1.slots) (nx : NEXT T w0 b a1 a2 t kc ks) : GL T kc ks w I L v J K 357 (lvO [(0, .ref b), (1, .ref a1), (2, .ref a2), (3, .int (nI (5 * t)))]) [] := by
  subst ha1; subst ha2
  obtain ⟨x, C, S, Q, ⟨hC1, hS1⟩, hO, hk⟩ := st_round (L := L) hw hm ht h (xs (5 * t + 1))
  refine f_aload_n hC dL_law_357 rfl rfl ?_
  refine f_aload_n hC dL_law_358 rfl rfl ?_
  refine f_iload_n hC dL_law_359 rfl rfl ?_
  refine f_iconst (x := 1) hC dL_law_360 (by decide) ?_
  refine f_iadd hC dL_law_361 ?_
  refine f_sld (i := 5 * t + 1) hT hC dL_law_362 ⟨by rw [show (1 : Int32) = nI 1 from rfl, nI_add], by omega⟩ ?_
  refine f_call (C1 := C) (S1 := S) [] (hC.ex he) dL_law_363 kL_45 ⟨by decide, by decide⟩ (by decide) hw.k0 rfl rfl hO ⟨by omega, by omega⟩ rfl (Nat.le_of_ble_eq_true rfl) (fun r1 w1 I1 L1 hex hq => ?_)
  obtain ⟨e1, e2, I2, e3, hw1, hO2⟩ := hk r1 w1 I1 L1 hex hq
  subst e1
  refine GL.ws ?_ e3
  refine f_aload_n hC dL_law_366 rfl rfl ?_
  refine f_aload_n hC dL_law_367 rfl rfl ?_
  refine f_iload_n hC dL_law_368 rfl rfl ?_
  refine f_iconst (x := 1) hC dL_law_369 (by decide) ?_
  refine f_iadd hC dL_law_370 ?_
  refine f_sld (i := 5 * t + 1) hT hC dL_law_371 ⟨by rw [show (1 : Int32) = nI 1 from rfl, nI_add], by omega⟩ ?_
  refine GL.sw ?_
  refine f_call (C1 := 0) (S1 := 0) [.int x] (hC.ex he2) dL_law_372 kL_48 ⟨by decide, by decide⟩ (by decide) hm.k0 rfl rfl (OkM.ofOk hO2) ⟨by omega, by omega⟩ rfl (Nat.le_of_ble_eq_true rfl) (fun r2 v1 J1 K1 hex2 hq2 => ?_)
  obtain ⟨e5, e4, ht1, h1⟩ := hq2
  subst e4; subst e5
  refine GL.sw ?_
  refine f_icmp_eq (tgt := 1064) hC dL_law_375 (by decide) ?_
  exact nx C S w1 I2 L1 v1 J1 K1 hC1 hS1 (he.tr hex) he2 e2 rfl hw1 hm ht1 h1
theorem kL_49 : LkV RL 49 mX4_undo 0 := ⟨⟨b_ml_L_49, b_inm_yX4_undo, b_se_yX4_undo, b_in_X4, b_co_yX4_undo⟩, by decide +kernel, by decide +kernel, by decide +kernel⟩
theorem kL_52 : LkV RL 52 mX5_undo 0 := ⟨⟨b_ml_L_52, b_inm_yX5_undo, b_se_yX5_undo, b_in_X5, b_co_yX5_undo⟩, by decide +kernel, by decide +kernel, by decide +kernel⟩
set_option maxHeartbeats 4000000 in
set_option maxRecDepth 100000 in
theorem case_8 {T : LT} {w0 : WG} {p : Program} {l : Launch} {e : Env} {s : State} {m : MethodId} {below : List Frame} {meth : Method} {c : Code} {b Ln : Nat} {xs : Nat → Int32} {kc ks : Nat} {w : WG} {I : SI} {L : SL} {v : WG} {J : SI} {K : SL} {a1 a2 t n d r q p0 m0 : Nat} (hT : T = (p, l, e, s, m, below, meth, c, b, Ln, xs)) (hC : LC T w0) (he : exW w0 w) (he2 : exW w0 v) (ha1 : gA w 0 = a1) (ha2 : gA v 0 = a2) (hw : XL w) (hm : ML v) (ht : TIE w I t) (h9 : t < 512) (h : RR I J K n d r q p0 m0) (hi : 5 * t + 5 ≤ Ln) (hrm : kc + 10 ≤ room_1.cells ∧ ks + 159 ≤ room_1.slots) (nx : NEXT T w0 b a1 a2 t kc ks) : GL T kc ks w I L v J K 380 (lvO [(0, .ref b), (1, .ref a1), (2, .ref a2), (3, .int (nI (5 * t)))]) [] := by
  subst ha1; subst ha2
  obtain ⟨x, C, S, Q, ⟨hC1, hS1⟩, hO, hk⟩ := st_undo (L := L) hw hm ht h
  refine f_aload_n hC dL_law_380 rfl rfl ?_
  refine f_call (C1 := C) (S1 := S) [] (hC.ex he) dL_law_381 kL_49 ⟨by decide, by decide⟩ (by decide) hw.k0 rfl rfl hO ⟨by omega, by omega⟩ rfl (Nat.le_of_ble_eq_true rfl) (fun r1 w1 I1 L1 hex hq => ?_)
  obtain ⟨e1, e2, I2, e3, hw1, hO2⟩ := hk r1 w1 I1 L1 hex hq
  subst e1
  refine GL.ws ?_ e3
  refine f_aload_n hC dL_law_384 rfl rfl ?_
  refine GL.sw ?_
  refine f_call (C1 := 0) (S1 := 0) [.int x] (hC.ex he2) dL_law_385 kL_52 ⟨by decide, by decide⟩ (by decide) hm.k0 rfl rfl (OkM.ofOk hO2) ⟨by omega, by omega⟩ rfl (Nat.le_of_ble_eq_true rfl) (fun r2 v1 J1 K1 hex2 hq2 => ?_)
  obtain ⟨e5, e4, ht1, h1⟩ := hq2
  subst e4; subst e5
  refine GL.sw ?_
  refine f_icmp_eq (tgt := 1064) hC dL_law_388 (by decide) ?_
  exact nx C S w1 I2 L1 v1 J1 K1 hC1 hS1 (he.tr hex) he2 e2 rfl hw1 hm ht1 h1
theorem kL_53 : LkV RL 53 mX4_of 2 := ⟨⟨b_ml_L_53, b_inm_yX4_of, b_se_yX4_of, b_in_X4, b_co_yX4_of⟩, by decide +kernel, by decide +kernel, by decide +kernel⟩
theorem kL_56 : LkV RL 56 mX5_of 2 := ⟨⟨b_ml_L_56, b_inm_yX5_of, b_se_yX5_of, b_in_X5, b_co_yX5_of⟩, by decide +kernel, by decide +kernel, by decide +kernel⟩
set_option maxHeartbeats 4000000 in
set_option maxRecDepth 100000 in
theorem case_9 {T : LT} {w0 : WG} {p : Program} {l : Launch} {e : Env} {s : State} {m : MethodId} {below : List Frame} {meth : Method} {c : Code} {b Ln : Nat} {xs : Nat → Int32} {kc ks : Nat} {w : WG} {I : SI} {L : SL} {v : WG} {J : SI} {K : SL} {a1 a2 t n d r q p0 m0 : Nat} (hT : T = (p, l, e, s, m, below, meth, c, b, Ln, xs)) (hC : LC T w0) (he : exW w0 w) (he2 : exW w0 v) (ha1 : gA w 0 = a1) (ha2 : gA v 0 = a2) (hw : XL w) (hm : ML v) (ht : TIE w I t) (h9 : t < 512) (h : RR I J K n d r q p0 m0) (hi : 5 * t + 5 ≤ Ln) (hrm : kc + 10 ≤ room_1.cells ∧ ks + 159 ≤ room_1.slots) (nx : NEXT T w0 b a1 a2 t kc ks) : GL T kc ks w I L v J K 393 (lvO [(0, .ref b), (1, .ref a1), (2, .ref a2), (3, .int (nI (5 * t)))]) [] := by
  subst ha1; subst ha2
  obtain ⟨x, C, S, Q, ⟨hC1, hS1⟩, hO, hk⟩ := st_of (L := L) hw hm ht h (xs (5 * t + 1)) (xs (5 * t + 2))
  refine f_aload_n hC dL_law_393 rfl rfl ?_
  refine f_aload_n hC dL_law_394 rfl rfl ?_
  refine f_iload_n hC dL_law_395 rfl rfl ?_
  refine f_iconst (x := 1) hC dL_law_396 (by decide) ?_
  refine f_iadd hC dL_law_397 ?_
  refine f_sld (i := 5 * t + 1) hT hC dL_law_398 ⟨by rw [show (1 : Int32) = nI 1 from rfl, nI_add], by omega⟩ ?_
  refine f_aload_n hC dL_law_399 rfl rfl ?_
  refine f_iload_n hC dL_law_400 rfl rfl ?_
  refine f_iconst (x := 2) hC dL_law_401 (by decide) ?_
  refine f_iadd hC dL_law_402 ?_
  refine f_sld (i := 5 * t + 2) hT hC dL_law_403 ⟨by rw [show (2 : Int32) = nI 2 from rfl, nI_add], by omega⟩ ?_
  refine f_call (C1 := C) (S1 := S) [] (hC.ex he) dL_law_404 kL_53 ⟨by decide, by decide⟩ (by decide) hw.k0 rfl rfl hO ⟨by omega, by omega⟩ rfl (Nat.le_of_ble_eq_true rfl) (fun r1 w1 I1 L1 hex hq => ?_)
  obtain ⟨e1, e2, I2, e3, hw1, hO2⟩ := hk r1 w1 I1 L1 hex hq
  subst e1
  refine GL.ws ?_ e3
  refine f_aload_n hC dL_law_407 rfl rfl ?_
  refine f_aload_n hC dL_law_408 rfl rfl ?_
  refine f_iload_n hC dL_law_409 rfl rfl ?_
  refine f_iconst (x := 1) hC dL_law_410 (by decide) ?_
  refine f_iadd hC dL_law_411 ?_
  refine f_sld (i := 5 * t + 1) hT hC dL_law_412 ⟨by rw [show (1 : Int32) = nI 1 from rfl, nI_add], by omega⟩ ?_
  refine f_aload_n hC dL_law_413 rfl rfl ?_
  refine f_iload_n hC dL_law_414 rfl rfl ?_
  refine f_iconst (x := 2) hC dL_law_415 (by decide) ?_
  refine f_iadd hC dL_law_416 ?_
  refine f_sld (i := 5 * t + 2) hT hC dL_law_417 ⟨by rw [show (2 : Int32) = nI 2 from rfl, nI_add], by omega⟩ ?_
  refine GL.sw ?_
  refine f_call (C1 := 0) (S1 := 0) [.int x] (hC.ex he2) dL_law_418 kL_56 ⟨by decide, by decide⟩ (by decide) hm.k0 rfl rfl (OkM.ofOk hO2) ⟨by omega, by omega⟩ rfl (Nat.le_of_ble_eq_true rfl) (fun r2 v1 J1 K1 hex2 hq2 => ?_)
  obtain ⟨e5, e4, ht1, h1⟩ := hq2
  subst e4; subst e5
  refine GL.sw ?_
  refine f_icmp_eq (tgt := 1064) hC dL_law_421 (by decide) ?_
  exact nx C S w1 I2 L1 v1 J1 K1 hC1 hS1 (he.tr hex) he2 e2 rfl hw1 hm ht1 h1
theorem kL_57 : LkV RL 57 mX4_about 2 := ⟨⟨b_ml_L_57, b_inm_yX4_about, b_se_yX4_about, b_in_X4, b_co_yX4_about⟩, by decide +kernel, by decide +kernel, by decide +kernel⟩
theorem kL_60 : LkV RL 60 mX5_about 2 := ⟨⟨b_ml_L_60, b_inm_yX5_about, b_se_yX5_about, b_in_X5, b_co_yX5_about⟩, by decide +kernel, by decide +kernel, by decide +kernel⟩
set_option maxHeartbeats 4000000 in
set_option maxRecDepth 100000 in
theorem case_10 {T : LT} {w0 : WG} {p : Program} {l : Launch} {e : Env} {s : State} {m : MethodId} {below : List Frame} {meth : Method} {c : Code} {b Ln : Nat} {xs : Nat → Int32} {kc ks : Nat} {w : WG} {I : SI} {L : SL} {v : WG} {J : SI} {K : SL} {a1 a2 t n d r q p0 m0 : Nat} (hT : T = (p, l, e, s, m, below, meth, c, b, Ln, xs)) (hC : LC T w0) (he : exW w0 w) (he2 : exW w0 v) (ha1 : gA w 0 = a1) (ha2 : gA v 0 = a2) (hw : XL w) (hm : ML v) (ht : TIE w I t) (h9 : t < 512) (h : RR I J K n d r q p0 m0) (hi : 5 * t + 5 ≤ Ln) (hrm : kc + 10 ≤ room_1.cells ∧ ks + 159 ≤ room_1.slots) (nx : NEXT T w0 b a1 a2 t kc ks) : GL T kc ks w I L v J K 426 (lvO [(0, .ref b), (1, .ref a1), (2, .ref a2), (3, .int (nI (5 * t)))]) [] := by
  subst ha1; subst ha2
  obtain ⟨x, C, S, Q, ⟨hC1, hS1⟩, hO, hk⟩ := st_about (L := L) hw hm ht h (xs (5 * t + 1)) (xs (5 * t + 2))
  refine f_aload_n hC dL_law_426 rfl rfl ?_
  refine f_aload_n hC dL_law_427 rfl rfl ?_
  refine f_iload_n hC dL_law_428 rfl rfl ?_
  refine f_iconst (x := 1) hC dL_law_429 (by decide) ?_
  refine f_iadd hC dL_law_430 ?_
  refine f_sld (i := 5 * t + 1) hT hC dL_law_431 ⟨by rw [show (1 : Int32) = nI 1 from rfl, nI_add], by omega⟩ ?_
  refine f_aload_n hC dL_law_432 rfl rfl ?_
  refine f_iload_n hC dL_law_433 rfl rfl ?_
  refine f_iconst (x := 2) hC dL_law_434 (by decide) ?_
  refine f_iadd hC dL_law_435 ?_
  refine f_sld (i := 5 * t + 2) hT hC dL_law_436 ⟨by rw [show (2 : Int32) = nI 2 from rfl, nI_add], by omega⟩ ?_
  refine f_call (C1 := C) (S1 := S) [] (hC.ex he) dL_law_437 kL_57 ⟨by decide, by decide⟩ (by decide) hw.k0 rfl rfl hO ⟨by omega, by omega⟩ rfl (Nat.le_of_ble_eq_true rfl) (fun r1 w1 I1 L1 hex hq => ?_)
  obtain ⟨e1, e2, I2, e3, hw1, hO2⟩ := hk r1 w1 I1 L1 hex hq
  subst e1
  refine GL.ws ?_ e3
  refine f_aload_n hC dL_law_440 rfl rfl ?_
  refine f_aload_n hC dL_law_441 rfl rfl ?_
  refine f_iload_n hC dL_law_442 rfl rfl ?_
  refine f_iconst (x := 1) hC dL_law_443 (by decide) ?_
  refine f_iadd hC dL_law_444 ?_
  refine f_sld (i := 5 * t + 1) hT hC dL_law_445 ⟨by rw [show (1 : Int32) = nI 1 from rfl, nI_add], by omega⟩ ?_
  refine f_aload_n hC dL_law_446 rfl rfl ?_
  refine f_iload_n hC dL_law_447 rfl rfl ?_
  refine f_iconst (x := 2) hC dL_law_448 (by decide) ?_
  refine f_iadd hC dL_law_449 ?_
  refine f_sld (i := 5 * t + 2) hT hC dL_law_450 ⟨by rw [show (2 : Int32) = nI 2 from rfl, nI_add], by omega⟩ ?_
  refine GL.sw ?_
  refine f_call (C1 := 0) (S1 := 0) [.int x] (hC.ex he2) dL_law_451 kL_60 ⟨by decide, by decide⟩ (by decide) hm.k0 rfl rfl (OkM.ofOk hO2) ⟨by omega, by omega⟩ rfl (Nat.le_of_ble_eq_true rfl) (fun r2 v1 J1 K1 hex2 hq2 => ?_)
  obtain ⟨e5, e4, ht1, h1⟩ := hq2
  subst e4; subst e5
  refine GL.sw ?_
  refine f_icmp_eq (tgt := 1064) hC dL_law_454 (by decide) ?_
  exact nx C S w1 I2 L1 v1 J1 K1 hC1 hS1 (he.tr hex) he2 e2 rfl hw1 hm ht1 h1
theorem kL_61 : LkV RL 61 mX4_bitten 2 := ⟨⟨b_ml_L_61, b_inm_yX4_bitten, b_se_yX4_bitten, b_in_X4, b_co_yX4_bitten⟩, by decide +kernel, by decide +kernel, by decide +kernel⟩
theorem kL_64 : LkV RL 64 mX5_bitten 2 := ⟨⟨b_ml_L_64, b_inm_yX5_bitten, b_se_yX5_bitten, b_in_X5, b_co_yX5_bitten⟩, by decide +kernel, by decide +kernel, by decide +kernel⟩
set_option maxHeartbeats 4000000 in
set_option maxRecDepth 100000 in
theorem case_11 {T : LT} {w0 : WG} {p : Program} {l : Launch} {e : Env} {s : State} {m : MethodId} {below : List Frame} {meth : Method} {c : Code} {b Ln : Nat} {xs : Nat → Int32} {kc ks : Nat} {w : WG} {I : SI} {L : SL} {v : WG} {J : SI} {K : SL} {a1 a2 t n d r q p0 m0 : Nat} (hT : T = (p, l, e, s, m, below, meth, c, b, Ln, xs)) (hC : LC T w0) (he : exW w0 w) (he2 : exW w0 v) (ha1 : gA w 0 = a1) (ha2 : gA v 0 = a2) (hw : XL w) (hm : ML v) (ht : TIE w I t) (h9 : t < 512) (h : RR I J K n d r q p0 m0) (hi : 5 * t + 5 ≤ Ln) (hrm : kc + 10 ≤ room_1.cells ∧ ks + 159 ≤ room_1.slots) (nx : NEXT T w0 b a1 a2 t kc ks) : GL T kc ks w I L v J K 459 (lvO [(0, .ref b), (1, .ref a1), (2, .ref a2), (3, .int (nI (5 * t)))]) [] := by
  subst ha1; subst ha2
  obtain ⟨x, C, S, Q, ⟨hC1, hS1⟩, hO, hk⟩ := st_bitten (L := L) hw hm ht h (xs (5 * t + 1)) (xs (5 * t + 2))
  refine f_aload_n hC dL_law_459 rfl rfl ?_
  refine f_aload_n hC dL_law_460 rfl rfl ?_
  refine f_iload_n hC dL_law_461 rfl rfl ?_
  refine f_iconst (x := 1) hC dL_law_462 (by decide) ?_
  refine f_iadd hC dL_law_463 ?_
  refine f_sld (i := 5 * t + 1) hT hC dL_law_464 ⟨by rw [show (1 : Int32) = nI 1 from rfl, nI_add], by omega⟩ ?_
  refine f_aload_n hC dL_law_465 rfl rfl ?_
  refine f_iload_n hC dL_law_466 rfl rfl ?_
  refine f_iconst (x := 2) hC dL_law_467 (by decide) ?_
  refine f_iadd hC dL_law_468 ?_
  refine f_sld (i := 5 * t + 2) hT hC dL_law_469 ⟨by rw [show (2 : Int32) = nI 2 from rfl, nI_add], by omega⟩ ?_
  refine f_call (C1 := C) (S1 := S) [] (hC.ex he) dL_law_470 kL_61 ⟨by decide, by decide⟩ (by decide) hw.k0 rfl rfl hO ⟨by omega, by omega⟩ rfl (Nat.le_of_ble_eq_true rfl) (fun r1 w1 I1 L1 hex hq => ?_)
  obtain ⟨e1, e2, I2, e3, hw1, hO2⟩ := hk r1 w1 I1 L1 hex hq
  subst e1
  refine GL.ws ?_ e3
  refine f_aload_n hC dL_law_473 rfl rfl ?_
  refine f_aload_n hC dL_law_474 rfl rfl ?_
  refine f_iload_n hC dL_law_475 rfl rfl ?_
  refine f_iconst (x := 1) hC dL_law_476 (by decide) ?_
  refine f_iadd hC dL_law_477 ?_
  refine f_sld (i := 5 * t + 1) hT hC dL_law_478 ⟨by rw [show (1 : Int32) = nI 1 from rfl, nI_add], by omega⟩ ?_
  refine f_aload_n hC dL_law_479 rfl rfl ?_
  refine f_iload_n hC dL_law_480 rfl rfl ?_
  refine f_iconst (x := 2) hC dL_law_481 (by decide) ?_
  refine f_iadd hC dL_law_482 ?_
  refine f_sld (i := 5 * t + 2) hT hC dL_law_483 ⟨by rw [show (2 : Int32) = nI 2 from rfl, nI_add], by omega⟩ ?_
  refine GL.sw ?_
  refine f_call (C1 := 0) (S1 := 0) [.int x] (hC.ex he2) dL_law_484 kL_64 ⟨by decide, by decide⟩ (by decide) hm.k0 rfl rfl (OkM.ofOk hO2) ⟨by omega, by omega⟩ rfl (Nat.le_of_ble_eq_true rfl) (fun r2 v1 J1 K1 hex2 hq2 => ?_)
  obtain ⟨e5, e4, ht1, h1⟩ := hq2
  subst e4; subst e5
  refine GL.sw ?_
  refine f_icmp_eq (tgt := 1064) hC dL_law_487 (by decide) ?_
  exact nx C S w1 I2 L1 v1 J1 K1 hC1 hS1 (he.tr hex) he2 e2 rfl hw1 hm ht1 h1
theorem kL_65 : LkV RL 65 mX4_then 2 := ⟨⟨b_ml_L_65, b_inm_yX4_then, b_se_yX4_then, b_in_X4, b_co_yX4_then⟩, by decide +kernel, by decide +kernel, by decide +kernel⟩
theorem kL_68 : LkV RL 68 mX5_then 2 := ⟨⟨b_ml_L_68, b_inm_yX5_then, b_se_yX5_then, b_in_X5, b_co_yX5_then⟩, by decide +kernel, by decide +kernel, by decide +kernel⟩
set_option maxHeartbeats 4000000 in
set_option maxRecDepth 100000 in
theorem case_12 {T : LT} {w0 : WG} {p : Program} {l : Launch} {e : Env} {s : State} {m : MethodId} {below : List Frame} {meth : Method} {c : Code} {b Ln : Nat} {xs : Nat → Int32} {kc ks : Nat} {w : WG} {I : SI} {L : SL} {v : WG} {J : SI} {K : SL} {a1 a2 t n d r q p0 m0 : Nat} (hT : T = (p, l, e, s, m, below, meth, c, b, Ln, xs)) (hC : LC T w0) (he : exW w0 w) (he2 : exW w0 v) (ha1 : gA w 0 = a1) (ha2 : gA v 0 = a2) (hw : XL w) (hm : ML v) (ht : TIE w I t) (h9 : t < 512) (h : RR I J K n d r q p0 m0) (hi : 5 * t + 5 ≤ Ln) (hrm : kc + 10 ≤ room_1.cells ∧ ks + 159 ≤ room_1.slots) (nx : NEXT T w0 b a1 a2 t kc ks) : GL T kc ks w I L v J K 492 (lvO [(0, .ref b), (1, .ref a1), (2, .ref a2), (3, .int (nI (5 * t)))]) [] := by
  subst ha1; subst ha2
  obtain ⟨x, C, S, Q, ⟨hC1, hS1⟩, hO, hk⟩ := st_then (L := L) hw hm ht h (xs (5 * t + 1)) (xs (5 * t + 2))
  refine f_aload_n hC dL_law_492 rfl rfl ?_
  refine f_aload_n hC dL_law_493 rfl rfl ?_
  refine f_iload_n hC dL_law_494 rfl rfl ?_
  refine f_iconst (x := 1) hC dL_law_495 (by decide) ?_
  refine f_iadd hC dL_law_496 ?_
  refine f_sld (i := 5 * t + 1) hT hC dL_law_497 ⟨by rw [show (1 : Int32) = nI 1 from rfl, nI_add], by omega⟩ ?_
  refine f_aload_n hC dL_law_498 rfl rfl ?_
  refine f_iload_n hC dL_law_499 rfl rfl ?_
  refine f_iconst (x := 2) hC dL_law_500 (by decide) ?_
  refine f_iadd hC dL_law_501 ?_
  refine f_sld (i := 5 * t + 2) hT hC dL_law_502 ⟨by rw [show (2 : Int32) = nI 2 from rfl, nI_add], by omega⟩ ?_
  refine f_call (C1 := C) (S1 := S) [] (hC.ex he) dL_law_503 kL_65 ⟨by decide, by decide⟩ (by decide) hw.k0 rfl rfl hO ⟨by omega, by omega⟩ rfl (Nat.le_of_ble_eq_true rfl) (fun r1 w1 I1 L1 hex hq => ?_)
  obtain ⟨e1, e2, I2, e3, hw1, hO2⟩ := hk r1 w1 I1 L1 hex hq
  subst e1
  refine GL.ws ?_ e3
  refine f_aload_n hC dL_law_506 rfl rfl ?_
  refine f_aload_n hC dL_law_507 rfl rfl ?_
  refine f_iload_n hC dL_law_508 rfl rfl ?_
  refine f_iconst (x := 1) hC dL_law_509 (by decide) ?_
  refine f_iadd hC dL_law_510 ?_
  refine f_sld (i := 5 * t + 1) hT hC dL_law_511 ⟨by rw [show (1 : Int32) = nI 1 from rfl, nI_add], by omega⟩ ?_
  refine f_aload_n hC dL_law_512 rfl rfl ?_
  refine f_iload_n hC dL_law_513 rfl rfl ?_
  refine f_iconst (x := 2) hC dL_law_514 (by decide) ?_
  refine f_iadd hC dL_law_515 ?_
  refine f_sld (i := 5 * t + 2) hT hC dL_law_516 ⟨by rw [show (2 : Int32) = nI 2 from rfl, nI_add], by omega⟩ ?_
  refine GL.sw ?_
  refine f_call (C1 := 0) (S1 := 0) [.int x] (hC.ex he2) dL_law_517 kL_68 ⟨by decide, by decide⟩ (by decide) hm.k0 rfl rfl (OkM.ofOk hO2) ⟨by omega, by omega⟩ rfl (Nat.le_of_ble_eq_true rfl) (fun r2 v1 J1 K1 hex2 hq2 => ?_)
  obtain ⟨e5, e4, ht1, h1⟩ := hq2
  subst e4; subst e5
  refine GL.sw ?_
  refine f_icmp_eq (tgt := 1064) hC dL_law_520 (by decide) ?_
  exact nx C S w1 I2 L1 v1 J1 K1 hC1 hS1 (he.tr hex) he2 e2 rfl hw1 hm ht1 h1
theorem kL_69 : LkV RL 69 mX4_won 2 := ⟨⟨b_ml_L_69, b_inm_yX4_won, b_se_yX4_won, b_in_X4, b_co_yX4_won⟩, by decide +kernel, by decide +kernel, by decide +kernel⟩
theorem kL_72 : LkV RL 72 mX5_won 2 := ⟨⟨b_ml_L_72, b_inm_yX5_won, b_se_yX5_won, b_in_X5, b_co_yX5_won⟩, by decide +kernel, by decide +kernel, by decide +kernel⟩
set_option maxHeartbeats 4000000 in
set_option maxRecDepth 100000 in
theorem case_13 {T : LT} {w0 : WG} {p : Program} {l : Launch} {e : Env} {s : State} {m : MethodId} {below : List Frame} {meth : Method} {c : Code} {b Ln : Nat} {xs : Nat → Int32} {kc ks : Nat} {w : WG} {I : SI} {L : SL} {v : WG} {J : SI} {K : SL} {a1 a2 t n d r q p0 m0 : Nat} (hT : T = (p, l, e, s, m, below, meth, c, b, Ln, xs)) (hC : LC T w0) (he : exW w0 w) (he2 : exW w0 v) (ha1 : gA w 0 = a1) (ha2 : gA v 0 = a2) (hw : XL w) (hm : ML v) (ht : TIE w I t) (h9 : t < 512) (h : RR I J K n d r q p0 m0) (hi : 5 * t + 5 ≤ Ln) (hrm : kc + 10 ≤ room_1.cells ∧ ks + 159 ≤ room_1.slots) (nx : NEXT T w0 b a1 a2 t kc ks) : GL T kc ks w I L v J K 525 (lvO [(0, .ref b), (1, .ref a1), (2, .ref a2), (3, .int (nI (5 * t)))]) [] := by
  subst ha1; subst ha2
  obtain ⟨x, C, S, Q, ⟨hC1, hS1⟩, hO, hk⟩ := st_won (L := L) hw hm ht h (xs (5 * t + 1)) (xs (5 * t + 2))
  refine f_aload_n hC dL_law_525 rfl rfl ?_
  refine f_aload_n hC dL_law_526 rfl rfl ?_
  refine f_iload_n hC dL_law_527 rfl rfl ?_
  refine f_iconst (x := 1) hC dL_law_528 (by decide) ?_
  refine f_iadd hC dL_law_529 ?_
  refine f_sld (i := 5 * t + 1) hT hC dL_law_530 ⟨by rw [show (1 : Int32) = nI 1 from rfl, nI_add], by omega⟩ ?_
  refine f_aload_n hC dL_law_531 rfl rfl ?_
  refine f_iload_n hC dL_law_532 rfl rfl ?_
  refine f_iconst (x := 2) hC dL_law_533 (by decide) ?_
  refine f_iadd hC dL_law_534 ?_
  refine f_sld (i := 5 * t + 2) hT hC dL_law_535 ⟨by rw [show (2 : Int32) = nI 2 from rfl, nI_add], by omega⟩ ?_
  refine f_call (C1 := C) (S1 := S) [] (hC.ex he) dL_law_536 kL_69 ⟨by decide, by decide⟩ (by decide) hw.k0 rfl rfl hO ⟨by omega, by omega⟩ rfl (Nat.le_of_ble_eq_true rfl) (fun r1 w1 I1 L1 hex hq => ?_)
  obtain ⟨e1, e2, I2, e3, hw1, hO2⟩ := hk r1 w1 I1 L1 hex hq
  subst e1
  refine GL.ws ?_ e3
  refine f_aload_n hC dL_law_539 rfl rfl ?_
  refine f_aload_n hC dL_law_540 rfl rfl ?_
  refine f_iload_n hC dL_law_541 rfl rfl ?_
  refine f_iconst (x := 1) hC dL_law_542 (by decide) ?_
  refine f_iadd hC dL_law_543 ?_
  refine f_sld (i := 5 * t + 1) hT hC dL_law_544 ⟨by rw [show (1 : Int32) = nI 1 from rfl, nI_add], by omega⟩ ?_
  refine f_aload_n hC dL_law_545 rfl rfl ?_
  refine f_iload_n hC dL_law_546 rfl rfl ?_
  refine f_iconst (x := 2) hC dL_law_547 (by decide) ?_
  refine f_iadd hC dL_law_548 ?_
  refine f_sld (i := 5 * t + 2) hT hC dL_law_549 ⟨by rw [show (2 : Int32) = nI 2 from rfl, nI_add], by omega⟩ ?_
  refine GL.sw ?_
  refine f_call (C1 := 0) (S1 := 0) [.int x] (hC.ex he2) dL_law_550 kL_72 ⟨by decide, by decide⟩ (by decide) hm.k0 rfl rfl (OkM.ofOk hO2) ⟨by omega, by omega⟩ rfl (Nat.le_of_ble_eq_true rfl) (fun r2 v1 J1 K1 hex2 hq2 => ?_)
  obtain ⟨e5, e4, ht1, h1⟩ := hq2
  subst e4; subst e5
  refine GL.sw ?_
  refine f_icmp_eq (tgt := 1064) hC dL_law_553 (by decide) ?_
  exact nx C S w1 I2 L1 v1 J1 K1 hC1 hS1 (he.tr hex) he2 e2 rfl hw1 hm ht1 h1
theorem kL_73 : LkV RL 73 mX4_letters 0 := ⟨⟨b_ml_L_73, b_inm_yX4_letters, b_se_yX4_letters, b_in_X4, b_co_yX4_letters⟩, by decide +kernel, by decide +kernel, by decide +kernel⟩
theorem kL_76 : LkV RL 76 mX5_letters 0 := ⟨⟨b_ml_L_76, b_inm_yX5_letters, b_se_yX5_letters, b_in_X5, b_co_yX5_letters⟩, by decide +kernel, by decide +kernel, by decide +kernel⟩
set_option maxHeartbeats 4000000 in
set_option maxRecDepth 100000 in
theorem case_14 {T : LT} {w0 : WG} {p : Program} {l : Launch} {e : Env} {s : State} {m : MethodId} {below : List Frame} {meth : Method} {c : Code} {b Ln : Nat} {xs : Nat → Int32} {kc ks : Nat} {w : WG} {I : SI} {L : SL} {v : WG} {J : SI} {K : SL} {a1 a2 t n d r q p0 m0 : Nat} (hT : T = (p, l, e, s, m, below, meth, c, b, Ln, xs)) (hC : LC T w0) (he : exW w0 w) (he2 : exW w0 v) (ha1 : gA w 0 = a1) (ha2 : gA v 0 = a2) (hw : XL w) (hm : ML v) (ht : TIE w I t) (h9 : t < 512) (h : RR I J K n d r q p0 m0) (hi : 5 * t + 5 ≤ Ln) (hrm : kc + 10 ≤ room_1.cells ∧ ks + 159 ≤ room_1.slots) (nx : NEXT T w0 b a1 a2 t kc ks) : GL T kc ks w I L v J K 558 (lvO [(0, .ref b), (1, .ref a1), (2, .ref a2), (3, .int (nI (5 * t)))]) [] := by
  subst ha1; subst ha2
  obtain ⟨x, C, S, Q, ⟨hC1, hS1⟩, hO, hk⟩ := st_letters (L := L) hw hm ht h
  refine f_aload_n hC dL_law_558 rfl rfl ?_
  refine f_call (C1 := C) (S1 := S) [] (hC.ex he) dL_law_559 kL_73 ⟨by decide, by decide⟩ (by decide) hw.k0 rfl rfl hO ⟨by omega, by omega⟩ rfl (Nat.le_of_ble_eq_true rfl) (fun r1 w1 I1 L1 hex hq => ?_)
  obtain ⟨e1, e2, I2, e3, hw1, hO2⟩ := hk r1 w1 I1 L1 hex hq
  subst e1
  refine GL.ws ?_ e3
  refine f_aload_n hC dL_law_562 rfl rfl ?_
  refine GL.sw ?_
  refine f_call (C1 := 0) (S1 := 0) [.int x] (hC.ex he2) dL_law_563 kL_76 ⟨by decide, by decide⟩ (by decide) hm.k0 rfl rfl (OkM.ofOk hO2) ⟨by omega, by omega⟩ rfl (Nat.le_of_ble_eq_true rfl) (fun r2 v1 J1 K1 hex2 hq2 => ?_)
  obtain ⟨e5, e4, ht1, h1⟩ := hq2
  subst e4; subst e5
  refine GL.sw ?_
  refine f_icmp_eq (tgt := 1064) hC dL_law_566 (by decide) ?_
  exact nx C S w1 I2 L1 v1 J1 K1 hC1 hS1 (he.tr hex) he2 e2 rfl hw1 hm ht1 h1
theorem kL_77 : LkV RL 77 mX4_bribes 2 := ⟨⟨b_ml_L_77, b_inm_yX4_bribes, b_se_yX4_bribes, b_in_X4, b_co_yX4_bribes⟩, by decide +kernel, by decide +kernel, by decide +kernel⟩
theorem kL_80 : LkV RL 80 mX5_bribes 2 := ⟨⟨b_ml_L_80, b_inm_yX5_bribes, b_se_yX5_bribes, b_in_X5, b_co_yX5_bribes⟩, by decide +kernel, by decide +kernel, by decide +kernel⟩
set_option maxHeartbeats 4000000 in
set_option maxRecDepth 100000 in
theorem case_15 {T : LT} {w0 : WG} {p : Program} {l : Launch} {e : Env} {s : State} {m : MethodId} {below : List Frame} {meth : Method} {c : Code} {b Ln : Nat} {xs : Nat → Int32} {kc ks : Nat} {w : WG} {I : SI} {L : SL} {v : WG} {J : SI} {K : SL} {a1 a2 t n d r q p0 m0 : Nat} (hT : T = (p, l, e, s, m, below, meth, c, b, Ln, xs)) (hC : LC T w0) (he : exW w0 w) (he2 : exW w0 v) (ha1 : gA w 0 = a1) (ha2 : gA v 0 = a2) (hw : XL w) (hm : ML v) (ht : TIE w I t) (h9 : t < 512) (h : RR I J K n d r q p0 m0) (hi : 5 * t + 5 ≤ Ln) (hrm : kc + 10 ≤ room_1.cells ∧ ks + 159 ≤ room_1.slots) (nx : NEXT T w0 b a1 a2 t kc ks) : GL T kc ks w I L v J K 571 (lvO [(0, .ref b), (1, .ref a1), (2, .ref a2), (3, .int (nI (5 * t)))]) [] := by
  subst ha1; subst ha2
  obtain ⟨x, C, S, Q, ⟨hC1, hS1⟩, hO, hk⟩ := st_bribes (L := L) hw hm ht h (xs (5 * t + 1)) (xs (5 * t + 2))
  refine f_aload_n hC dL_law_571 rfl rfl ?_
  refine f_aload_n hC dL_law_572 rfl rfl ?_
  refine f_iload_n hC dL_law_573 rfl rfl ?_
  refine f_iconst (x := 1) hC dL_law_574 (by decide) ?_
  refine f_iadd hC dL_law_575 ?_
  refine f_sld (i := 5 * t + 1) hT hC dL_law_576 ⟨by rw [show (1 : Int32) = nI 1 from rfl, nI_add], by omega⟩ ?_
  refine f_aload_n hC dL_law_577 rfl rfl ?_
  refine f_iload_n hC dL_law_578 rfl rfl ?_
  refine f_iconst (x := 2) hC dL_law_579 (by decide) ?_
  refine f_iadd hC dL_law_580 ?_
  refine f_sld (i := 5 * t + 2) hT hC dL_law_581 ⟨by rw [show (2 : Int32) = nI 2 from rfl, nI_add], by omega⟩ ?_
  refine f_call (C1 := C) (S1 := S) [] (hC.ex he) dL_law_582 kL_77 ⟨by decide, by decide⟩ (by decide) hw.k0 rfl rfl hO ⟨by omega, by omega⟩ rfl (Nat.le_of_ble_eq_true rfl) (fun r1 w1 I1 L1 hex hq => ?_)
  obtain ⟨e1, e2, I2, e3, hw1, hO2⟩ := hk r1 w1 I1 L1 hex hq
  subst e1
  refine GL.ws ?_ e3
  refine f_aload_n hC dL_law_585 rfl rfl ?_
  refine f_aload_n hC dL_law_586 rfl rfl ?_
  refine f_iload_n hC dL_law_587 rfl rfl ?_
  refine f_iconst (x := 1) hC dL_law_588 (by decide) ?_
  refine f_iadd hC dL_law_589 ?_
  refine f_sld (i := 5 * t + 1) hT hC dL_law_590 ⟨by rw [show (1 : Int32) = nI 1 from rfl, nI_add], by omega⟩ ?_
  refine f_aload_n hC dL_law_591 rfl rfl ?_
  refine f_iload_n hC dL_law_592 rfl rfl ?_
  refine f_iconst (x := 2) hC dL_law_593 (by decide) ?_
  refine f_iadd hC dL_law_594 ?_
  refine f_sld (i := 5 * t + 2) hT hC dL_law_595 ⟨by rw [show (2 : Int32) = nI 2 from rfl, nI_add], by omega⟩ ?_
  refine GL.sw ?_
  refine f_call (C1 := 0) (S1 := 0) [.int x] (hC.ex he2) dL_law_596 kL_80 ⟨by decide, by decide⟩ (by decide) hm.k0 rfl rfl (OkM.ofOk hO2) ⟨by omega, by omega⟩ rfl (Nat.le_of_ble_eq_true rfl) (fun r2 v1 J1 K1 hex2 hq2 => ?_)
  obtain ⟨e5, e4, ht1, h1⟩ := hq2
  subst e4; subst e5
  refine GL.sw ?_
  refine f_icmp_eq (tgt := 1064) hC dL_law_599 (by decide) ?_
  exact nx C S w1 I2 L1 v1 J1 K1 hC1 hS1 (he.tr hex) he2 e2 rfl hw1 hm ht1 h1
theorem kL_81 : LkV RL 81 mX4_still 1 := ⟨⟨b_ml_L_81, b_inm_yX4_still, b_se_yX4_still, b_in_X4, b_co_yX4_still⟩, by decide +kernel, by decide +kernel, by decide +kernel⟩
theorem kL_84 : LkV RL 84 mX5_still 1 := ⟨⟨b_ml_L_84, b_inm_yX5_still, b_se_yX5_still, b_in_X5, b_co_yX5_still⟩, by decide +kernel, by decide +kernel, by decide +kernel⟩
set_option maxHeartbeats 4000000 in
set_option maxRecDepth 100000 in
theorem case_16 {T : LT} {w0 : WG} {p : Program} {l : Launch} {e : Env} {s : State} {m : MethodId} {below : List Frame} {meth : Method} {c : Code} {b Ln : Nat} {xs : Nat → Int32} {kc ks : Nat} {w : WG} {I : SI} {L : SL} {v : WG} {J : SI} {K : SL} {a1 a2 t n d r q p0 m0 : Nat} (hT : T = (p, l, e, s, m, below, meth, c, b, Ln, xs)) (hC : LC T w0) (he : exW w0 w) (he2 : exW w0 v) (ha1 : gA w 0 = a1) (ha2 : gA v 0 = a2) (hw : XL w) (hm : ML v) (ht : TIE w I t) (h9 : t < 512) (h : RR I J K n d r q p0 m0) (hi : 5 * t + 5 ≤ Ln) (hrm : kc + 10 ≤ room_1.cells ∧ ks + 159 ≤ room_1.slots) (nx : NEXT T w0 b a1 a2 t kc ks) : GL T kc ks w I L v J K 604 (lvO [(0, .ref b), (1, .ref a1), (2, .ref a2), (3, .int (nI (5 * t)))]) [] := by
  subst ha1; subst ha2
  obtain ⟨x, C, S, Q, ⟨hC1, hS1⟩, hO, hk⟩ := st_still (L := L) hw hm ht h (xs (5 * t + 1))
  refine f_aload_n hC dL_law_604 rfl rfl ?_
  refine f_aload_n hC dL_law_605 rfl rfl ?_
  refine f_iload_n hC dL_law_606 rfl rfl ?_
  refine f_iconst (x := 1) hC dL_law_607 (by decide) ?_
  refine f_iadd hC dL_law_608 ?_
  refine f_sld (i := 5 * t + 1) hT hC dL_law_609 ⟨by rw [show (1 : Int32) = nI 1 from rfl, nI_add], by omega⟩ ?_
  refine f_call (C1 := C) (S1 := S) [] (hC.ex he) dL_law_610 kL_81 ⟨by decide, by decide⟩ (by decide) hw.k0 rfl rfl hO ⟨by omega, by omega⟩ rfl (Nat.le_of_ble_eq_true rfl) (fun r1 w1 I1 L1 hex hq => ?_)
  obtain ⟨e1, e2, I2, e3, hw1, hO2⟩ := hk r1 w1 I1 L1 hex hq
  subst e1
  refine GL.ws ?_ e3
  refine f_aload_n hC dL_law_613 rfl rfl ?_
  refine f_aload_n hC dL_law_614 rfl rfl ?_
  refine f_iload_n hC dL_law_615 rfl rfl ?_
  refine f_iconst (x := 1) hC dL_law_616 (by decide) ?_
  refine f_iadd hC dL_law_617 ?_
  refine f_sld (i := 5 * t + 1) hT hC dL_law_618 ⟨by rw [show (1 : Int32) = nI 1 from rfl, nI_add], by omega⟩ ?_
  refine GL.sw ?_
  refine f_call (C1 := 0) (S1 := 0) [.int x] (hC.ex he2) dL_law_619 kL_84 ⟨by decide, by decide⟩ (by decide) hm.k0 rfl rfl (OkM.ofOk hO2) ⟨by omega, by omega⟩ rfl (Nat.le_of_ble_eq_true rfl) (fun r2 v1 J1 K1 hex2 hq2 => ?_)
  obtain ⟨e5, e4, ht1, h1⟩ := hq2
  subst e4; subst e5
  refine GL.sw ?_
  refine f_icmp_eq (tgt := 1064) hC dL_law_622 (by decide) ?_
  exact nx C S w1 I2 L1 v1 J1 K1 hC1 hS1 (he.tr hex) he2 e2 rfl hw1 hm ht1 h1
theorem kL_85 : LkV RL 85 mX4_first 2 := ⟨⟨b_ml_L_85, b_inm_yX4_first, b_se_yX4_first, b_in_X4, b_co_yX4_first⟩, by decide +kernel, by decide +kernel, by decide +kernel⟩
theorem kL_88 : LkV RL 88 mX5_first 2 := ⟨⟨b_ml_L_88, b_inm_yX5_first, b_se_yX5_first, b_in_X5, b_co_yX5_first⟩, by decide +kernel, by decide +kernel, by decide +kernel⟩
set_option maxHeartbeats 4000000 in
set_option maxRecDepth 100000 in
theorem case_17 {T : LT} {w0 : WG} {p : Program} {l : Launch} {e : Env} {s : State} {m : MethodId} {below : List Frame} {meth : Method} {c : Code} {b Ln : Nat} {xs : Nat → Int32} {kc ks : Nat} {w : WG} {I : SI} {L : SL} {v : WG} {J : SI} {K : SL} {a1 a2 t n d r q p0 m0 : Nat} (hT : T = (p, l, e, s, m, below, meth, c, b, Ln, xs)) (hC : LC T w0) (he : exW w0 w) (he2 : exW w0 v) (ha1 : gA w 0 = a1) (ha2 : gA v 0 = a2) (hw : XL w) (hm : ML v) (ht : TIE w I t) (h9 : t < 512) (h : RR I J K n d r q p0 m0) (hi : 5 * t + 5 ≤ Ln) (hrm : kc + 10 ≤ room_1.cells ∧ ks + 159 ≤ room_1.slots) (nx : NEXT T w0 b a1 a2 t kc ks) : GL T kc ks w I L v J K 627 (lvO [(0, .ref b), (1, .ref a1), (2, .ref a2), (3, .int (nI (5 * t)))]) [] := by
  subst ha1; subst ha2
  obtain ⟨x, C, S, Q, ⟨hC1, hS1⟩, hO, hk⟩ := st_first (L := L) hw hm ht h (xs (5 * t + 1)) (xs (5 * t + 2))
  refine f_aload_n hC dL_law_627 rfl rfl ?_
  refine f_aload_n hC dL_law_628 rfl rfl ?_
  refine f_iload_n hC dL_law_629 rfl rfl ?_
  refine f_iconst (x := 1) hC dL_law_630 (by decide) ?_
  refine f_iadd hC dL_law_631 ?_
  refine f_sld (i := 5 * t + 1) hT hC dL_law_632 ⟨by rw [show (1 : Int32) = nI 1 from rfl, nI_add], by omega⟩ ?_
  refine f_aload_n hC dL_law_633 rfl rfl ?_
  refine f_iload_n hC dL_law_634 rfl rfl ?_
  refine f_iconst (x := 2) hC dL_law_635 (by decide) ?_
  refine f_iadd hC dL_law_636 ?_
  refine f_sld (i := 5 * t + 2) hT hC dL_law_637 ⟨by rw [show (2 : Int32) = nI 2 from rfl, nI_add], by omega⟩ ?_
  refine f_call (C1 := C) (S1 := S) [] (hC.ex he) dL_law_638 kL_85 ⟨by decide, by decide⟩ (by decide) hw.k0 rfl rfl hO ⟨by omega, by omega⟩ rfl (Nat.le_of_ble_eq_true rfl) (fun r1 w1 I1 L1 hex hq => ?_)
  obtain ⟨e1, e2, I2, e3, hw1, hO2⟩ := hk r1 w1 I1 L1 hex hq
  subst e1
  refine GL.ws ?_ e3
  refine f_aload_n hC dL_law_641 rfl rfl ?_
  refine f_aload_n hC dL_law_642 rfl rfl ?_
  refine f_iload_n hC dL_law_643 rfl rfl ?_
  refine f_iconst (x := 1) hC dL_law_644 (by decide) ?_
  refine f_iadd hC dL_law_645 ?_
  refine f_sld (i := 5 * t + 1) hT hC dL_law_646 ⟨by rw [show (1 : Int32) = nI 1 from rfl, nI_add], by omega⟩ ?_
  refine f_aload_n hC dL_law_647 rfl rfl ?_
  refine f_iload_n hC dL_law_648 rfl rfl ?_
  refine f_iconst (x := 2) hC dL_law_649 (by decide) ?_
  refine f_iadd hC dL_law_650 ?_
  refine f_sld (i := 5 * t + 2) hT hC dL_law_651 ⟨by rw [show (2 : Int32) = nI 2 from rfl, nI_add], by omega⟩ ?_
  refine GL.sw ?_
  refine f_call (C1 := 0) (S1 := 0) [.int x] (hC.ex he2) dL_law_652 kL_88 ⟨by decide, by decide⟩ (by decide) hm.k0 rfl rfl (OkM.ofOk hO2) ⟨by omega, by omega⟩ rfl (Nat.le_of_ble_eq_true rfl) (fun r2 v1 J1 K1 hex2 hq2 => ?_)
  obtain ⟨e5, e4, ht1, h1⟩ := hq2
  subst e4; subst e5
  refine GL.sw ?_
  refine f_icmp_eq (tgt := 1064) hC dL_law_655 (by decide) ?_
  exact nx C S w1 I2 L1 v1 J1 K1 hC1 hS1 (he.tr hex) he2 e2 rfl hw1 hm ht1 h1
theorem kL_89 : LkV RL 89 mX4_slept 4 := ⟨⟨b_ml_L_89, b_inm_yX4_slept, b_se_yX4_slept, b_in_X4, b_co_yX4_slept⟩, by decide +kernel, by decide +kernel, by decide +kernel⟩
theorem kL_92 : LkV RL 92 mX5_slept 4 := ⟨⟨b_ml_L_92, b_inm_yX5_slept, b_se_yX5_slept, b_in_X5, b_co_yX5_slept⟩, by decide +kernel, by decide +kernel, by decide +kernel⟩
set_option maxHeartbeats 4000000 in
set_option maxRecDepth 100000 in
theorem case_18 {T : LT} {w0 : WG} {p : Program} {l : Launch} {e : Env} {s : State} {m : MethodId} {below : List Frame} {meth : Method} {c : Code} {b Ln : Nat} {xs : Nat → Int32} {kc ks : Nat} {w : WG} {I : SI} {L : SL} {v : WG} {J : SI} {K : SL} {a1 a2 t n d r q p0 m0 : Nat} (hT : T = (p, l, e, s, m, below, meth, c, b, Ln, xs)) (hC : LC T w0) (he : exW w0 w) (he2 : exW w0 v) (ha1 : gA w 0 = a1) (ha2 : gA v 0 = a2) (hw : XL w) (hm : ML v) (ht : TIE w I t) (h9 : t < 512) (h : RR I J K n d r q p0 m0) (hi : 5 * t + 5 ≤ Ln) (hrm : kc + 10 ≤ room_1.cells ∧ ks + 159 ≤ room_1.slots) (nx : NEXT T w0 b a1 a2 t kc ks) : GL T kc ks w I L v J K 660 (lvO [(0, .ref b), (1, .ref a1), (2, .ref a2), (3, .int (nI (5 * t)))]) [] := by
  subst ha1; subst ha2
  obtain ⟨x, C, S, Q, ⟨hC1, hS1⟩, hO, hk⟩ := st_slept (L := L) hw hm ht h (xs (5 * t + 1)) (xs (5 * t + 2)) (xs (5 * t + 3)) (xs (5 * t + 4))
  refine f_aload_n hC dL_law_660 rfl rfl ?_
  refine f_aload_n hC dL_law_661 rfl rfl ?_
  refine f_iload_n hC dL_law_662 rfl rfl ?_
  refine f_iconst (x := 1) hC dL_law_663 (by decide) ?_
  refine f_iadd hC dL_law_664 ?_
  refine f_sld (i := 5 * t + 1) hT hC dL_law_665 ⟨by rw [show (1 : Int32) = nI 1 from rfl, nI_add], by omega⟩ ?_
  refine f_aload_n hC dL_law_666 rfl rfl ?_
  refine f_iload_n hC dL_law_667 rfl rfl ?_
  refine f_iconst (x := 2) hC dL_law_668 (by decide) ?_
  refine f_iadd hC dL_law_669 ?_
  refine f_sld (i := 5 * t + 2) hT hC dL_law_670 ⟨by rw [show (2 : Int32) = nI 2 from rfl, nI_add], by omega⟩ ?_
  refine f_aload_n hC dL_law_671 rfl rfl ?_
  refine f_iload_n hC dL_law_672 rfl rfl ?_
  refine f_iconst (x := 3) hC dL_law_673 (by decide) ?_
  refine f_iadd hC dL_law_674 ?_
  refine f_sld (i := 5 * t + 3) hT hC dL_law_675 ⟨by rw [show (3 : Int32) = nI 3 from rfl, nI_add], by omega⟩ ?_
  refine f_aload_n hC dL_law_676 rfl rfl ?_
  refine f_iload_n hC dL_law_677 rfl rfl ?_
  refine f_iconst (x := 4) hC dL_law_678 (by decide) ?_
  refine f_iadd hC dL_law_679 ?_
  refine f_sld (i := 5 * t + 4) hT hC dL_law_680 ⟨by rw [show (4 : Int32) = nI 4 from rfl, nI_add], by omega⟩ ?_
  refine f_call (C1 := C) (S1 := S) [] (hC.ex he) dL_law_681 kL_89 ⟨by decide, by decide⟩ (by decide) hw.k0 rfl rfl hO ⟨by omega, by omega⟩ rfl (Nat.le_of_ble_eq_true rfl) (fun r1 w1 I1 L1 hex hq => ?_)
  obtain ⟨e1, e2, I2, e3, hw1, hO2⟩ := hk r1 w1 I1 L1 hex hq
  subst e1
  refine GL.ws ?_ e3
  refine f_aload_n hC dL_law_684 rfl rfl ?_
  refine f_aload_n hC dL_law_685 rfl rfl ?_
  refine f_iload_n hC dL_law_686 rfl rfl ?_
  refine f_iconst (x := 1) hC dL_law_687 (by decide) ?_
  refine f_iadd hC dL_law_688 ?_
  refine f_sld (i := 5 * t + 1) hT hC dL_law_689 ⟨by rw [show (1 : Int32) = nI 1 from rfl, nI_add], by omega⟩ ?_
  refine f_aload_n hC dL_law_690 rfl rfl ?_
  refine f_iload_n hC dL_law_691 rfl rfl ?_
  refine f_iconst (x := 2) hC dL_law_692 (by decide) ?_
  refine f_iadd hC dL_law_693 ?_
  refine f_sld (i := 5 * t + 2) hT hC dL_law_694 ⟨by rw [show (2 : Int32) = nI 2 from rfl, nI_add], by omega⟩ ?_
  refine f_aload_n hC dL_law_695 rfl rfl ?_
  refine f_iload_n hC dL_law_696 rfl rfl ?_
  refine f_iconst (x := 3) hC dL_law_697 (by decide) ?_
  refine f_iadd hC dL_law_698 ?_
  refine f_sld (i := 5 * t + 3) hT hC dL_law_699 ⟨by rw [show (3 : Int32) = nI 3 from rfl, nI_add], by omega⟩ ?_
  refine f_aload_n hC dL_law_700 rfl rfl ?_
  refine f_iload_n hC dL_law_701 rfl rfl ?_
  refine f_iconst (x := 4) hC dL_law_702 (by decide) ?_
  refine f_iadd hC dL_law_703 ?_
  refine f_sld (i := 5 * t + 4) hT hC dL_law_704 ⟨by rw [show (4 : Int32) = nI 4 from rfl, nI_add], by omega⟩ ?_
  refine GL.sw ?_
  refine f_call (C1 := 0) (S1 := 0) [.int x] (hC.ex he2) dL_law_705 kL_92 ⟨by decide, by decide⟩ (by decide) hm.k0 rfl rfl (OkM.ofOk hO2) ⟨by omega, by omega⟩ rfl (Nat.le_of_ble_eq_true rfl) (fun r2 v1 J1 K1 hex2 hq2 => ?_)
  obtain ⟨e5, e4, ht1, h1⟩ := hq2
  subst e4; subst e5
  refine GL.sw ?_
  refine f_icmp_eq (tgt := 1064) hC dL_law_708 (by decide) ?_
  exact nx C S w1 I2 L1 v1 J1 K1 hC1 hS1 (he.tr hex) he2 e2 rfl hw1 hm ht1 h1
theorem kL_93 : LkV RL 93 mX4_note 4 := ⟨⟨b_ml_L_93, b_inm_yX4_note, b_se_yX4_note, b_in_X4, b_co_yX4_note⟩, by decide +kernel, by decide +kernel, by decide +kernel⟩
theorem kL_96 : LkV RL 96 mX5_note 4 := ⟨⟨b_ml_L_96, b_inm_yX5_note, b_se_yX5_note, b_in_X5, b_co_yX5_note⟩, by decide +kernel, by decide +kernel, by decide +kernel⟩
set_option maxHeartbeats 4000000 in
set_option maxRecDepth 100000 in
theorem case_19 {T : LT} {w0 : WG} {p : Program} {l : Launch} {e : Env} {s : State} {m : MethodId} {below : List Frame} {meth : Method} {c : Code} {b Ln : Nat} {xs : Nat → Int32} {kc ks : Nat} {w : WG} {I : SI} {L : SL} {v : WG} {J : SI} {K : SL} {a1 a2 t n d r q p0 m0 : Nat} (hT : T = (p, l, e, s, m, below, meth, c, b, Ln, xs)) (hC : LC T w0) (he : exW w0 w) (he2 : exW w0 v) (ha1 : gA w 0 = a1) (ha2 : gA v 0 = a2) (hw : XL w) (hm : ML v) (ht : TIE w I t) (h9 : t < 512) (h : RR I J K n d r q p0 m0) (hi : 5 * t + 5 ≤ Ln) (hrm : kc + 10 ≤ room_1.cells ∧ ks + 159 ≤ room_1.slots) (nx : NEXT T w0 b a1 a2 t kc ks) : GL T kc ks w I L v J K 713 (lvO [(0, .ref b), (1, .ref a1), (2, .ref a2), (3, .int (nI (5 * t)))]) [] := by
  subst ha1; subst ha2
  obtain ⟨x, C, S, Q, ⟨hC1, hS1⟩, hO, hk⟩ := st_note (L := L) hw hm ht h (xs (5 * t + 1)) (xs (5 * t + 2)) (xs (5 * t + 3)) (xs (5 * t + 4))
  refine f_aload_n hC dL_law_713 rfl rfl ?_
  refine f_aload_n hC dL_law_714 rfl rfl ?_
  refine f_iload_n hC dL_law_715 rfl rfl ?_
  refine f_iconst (x := 1) hC dL_law_716 (by decide) ?_
  refine f_iadd hC dL_law_717 ?_
  refine f_sld (i := 5 * t + 1) hT hC dL_law_718 ⟨by rw [show (1 : Int32) = nI 1 from rfl, nI_add], by omega⟩ ?_
  refine f_aload_n hC dL_law_719 rfl rfl ?_
  refine f_iload_n hC dL_law_720 rfl rfl ?_
  refine f_iconst (x := 2) hC dL_law_721 (by decide) ?_
  refine f_iadd hC dL_law_722 ?_
  refine f_sld (i := 5 * t + 2) hT hC dL_law_723 ⟨by rw [show (2 : Int32) = nI 2 from rfl, nI_add], by omega⟩ ?_
  refine f_aload_n hC dL_law_724 rfl rfl ?_
  refine f_iload_n hC dL_law_725 rfl rfl ?_
  refine f_iconst (x := 3) hC dL_law_726 (by decide) ?_
  refine f_iadd hC dL_law_727 ?_
  refine f_sld (i := 5 * t + 3) hT hC dL_law_728 ⟨by rw [show (3 : Int32) = nI 3 from rfl, nI_add], by omega⟩ ?_
  refine f_aload_n hC dL_law_729 rfl rfl ?_
  refine f_iload_n hC dL_law_730 rfl rfl ?_
  refine f_iconst (x := 4) hC dL_law_731 (by decide) ?_
  refine f_iadd hC dL_law_732 ?_
  refine f_sld (i := 5 * t + 4) hT hC dL_law_733 ⟨by rw [show (4 : Int32) = nI 4 from rfl, nI_add], by omega⟩ ?_
  refine f_call (C1 := C) (S1 := S) [] (hC.ex he) dL_law_734 kL_93 ⟨by decide, by decide⟩ (by decide) hw.k0 rfl rfl hO ⟨by omega, by omega⟩ rfl (Nat.le_of_ble_eq_true rfl) (fun r1 w1 I1 L1 hex hq => ?_)
  obtain ⟨e1, e2, I2, e3, hw1, hO2⟩ := hk r1 w1 I1 L1 hex hq
  subst e1
  refine GL.ws ?_ e3
  refine f_aload_n hC dL_law_737 rfl rfl ?_
  refine f_aload_n hC dL_law_738 rfl rfl ?_
  refine f_iload_n hC dL_law_739 rfl rfl ?_
  refine f_iconst (x := 1) hC dL_law_740 (by decide) ?_
  refine f_iadd hC dL_law_741 ?_
  refine f_sld (i := 5 * t + 1) hT hC dL_law_742 ⟨by rw [show (1 : Int32) = nI 1 from rfl, nI_add], by omega⟩ ?_
  refine f_aload_n hC dL_law_743 rfl rfl ?_
  refine f_iload_n hC dL_law_744 rfl rfl ?_
  refine f_iconst (x := 2) hC dL_law_745 (by decide) ?_
  refine f_iadd hC dL_law_746 ?_
  refine f_sld (i := 5 * t + 2) hT hC dL_law_747 ⟨by rw [show (2 : Int32) = nI 2 from rfl, nI_add], by omega⟩ ?_
  refine f_aload_n hC dL_law_748 rfl rfl ?_
  refine f_iload_n hC dL_law_749 rfl rfl ?_
  refine f_iconst (x := 3) hC dL_law_750 (by decide) ?_
  refine f_iadd hC dL_law_751 ?_
  refine f_sld (i := 5 * t + 3) hT hC dL_law_752 ⟨by rw [show (3 : Int32) = nI 3 from rfl, nI_add], by omega⟩ ?_
  refine f_aload_n hC dL_law_753 rfl rfl ?_
  refine f_iload_n hC dL_law_754 rfl rfl ?_
  refine f_iconst (x := 4) hC dL_law_755 (by decide) ?_
  refine f_iadd hC dL_law_756 ?_
  refine f_sld (i := 5 * t + 4) hT hC dL_law_757 ⟨by rw [show (4 : Int32) = nI 4 from rfl, nI_add], by omega⟩ ?_
  refine GL.sw ?_
  refine f_call (C1 := 0) (S1 := 0) [.int x] (hC.ex he2) dL_law_758 kL_96 ⟨by decide, by decide⟩ (by decide) hm.k0 rfl rfl (OkM.ofOk hO2) ⟨by omega, by omega⟩ rfl (Nat.le_of_ble_eq_true rfl) (fun r2 v1 J1 K1 hex2 hq2 => ?_)
  obtain ⟨e5, e4, ht1, h1⟩ := hq2
  subst e4; subst e5
  refine GL.sw ?_
  refine f_icmp_eq (tgt := 1064) hC dL_law_761 (by decide) ?_
  exact nx C S w1 I2 L1 v1 J1 K1 hC1 hS1 (he.tr hex) he2 e2 rfl hw1 hm ht1 h1
theorem kL_97 : LkV RL 97 mX4_forget 0 := ⟨⟨b_ml_L_97, b_inm_yX4_forget, b_se_yX4_forget, b_in_X4, b_co_yX4_forget⟩, by decide +kernel, by decide +kernel, by decide +kernel⟩
theorem kL_100 : LkV RL 100 mX5_forget 0 := ⟨⟨b_ml_L_100, b_inm_yX5_forget, b_se_yX5_forget, b_in_X5, b_co_yX5_forget⟩, by decide +kernel, by decide +kernel, by decide +kernel⟩
set_option maxHeartbeats 4000000 in
set_option maxRecDepth 100000 in
theorem case_20 {T : LT} {w0 : WG} {p : Program} {l : Launch} {e : Env} {s : State} {m : MethodId} {below : List Frame} {meth : Method} {c : Code} {b Ln : Nat} {xs : Nat → Int32} {kc ks : Nat} {w : WG} {I : SI} {L : SL} {v : WG} {J : SI} {K : SL} {a1 a2 t n d r q p0 m0 : Nat} (hT : T = (p, l, e, s, m, below, meth, c, b, Ln, xs)) (hC : LC T w0) (he : exW w0 w) (he2 : exW w0 v) (ha1 : gA w 0 = a1) (ha2 : gA v 0 = a2) (hw : XL w) (hm : ML v) (ht : TIE w I t) (h9 : t < 512) (h : RR I J K n d r q p0 m0) (hi : 5 * t + 5 ≤ Ln) (hrm : kc + 10 ≤ room_1.cells ∧ ks + 159 ≤ room_1.slots) (nx : NEXT T w0 b a1 a2 t kc ks) : GL T kc ks w I L v J K 766 (lvO [(0, .ref b), (1, .ref a1), (2, .ref a2), (3, .int (nI (5 * t)))]) [] := by
  subst ha1; subst ha2
  obtain ⟨x, C, S, Q, ⟨hC1, hS1⟩, hO, hk⟩ := st_forget (L := L) hw hm ht h
  refine f_aload_n hC dL_law_766 rfl rfl ?_
  refine f_call (C1 := C) (S1 := S) [] (hC.ex he) dL_law_767 kL_97 ⟨by decide, by decide⟩ (by decide) hw.k0 rfl rfl hO ⟨by omega, by omega⟩ rfl (Nat.le_of_ble_eq_true rfl) (fun r1 w1 I1 L1 hex hq => ?_)
  obtain ⟨e1, e2, I2, e3, hw1, hO2⟩ := hk r1 w1 I1 L1 hex hq
  subst e1
  refine GL.ws ?_ e3
  refine f_aload_n hC dL_law_770 rfl rfl ?_
  refine GL.sw ?_
  refine f_call (C1 := 0) (S1 := 0) [.int x] (hC.ex he2) dL_law_771 kL_100 ⟨by decide, by decide⟩ (by decide) hm.k0 rfl rfl (OkM.ofOk hO2) ⟨by omega, by omega⟩ rfl (Nat.le_of_ble_eq_true rfl) (fun r2 v1 J1 K1 hex2 hq2 => ?_)
  obtain ⟨e5, e4, ht1, h1⟩ := hq2
  subst e4; subst e5
  refine GL.sw ?_
  refine f_icmp_eq (tgt := 1064) hC dL_law_774 (by decide) ?_
  exact nx C S w1 I2 L1 v1 J1 K1 hC1 hS1 (he.tr hex) he2 e2 rfl hw1 hm ht1 h1
theorem kL_101 : LkV RL 101 mX4_is 1 := ⟨⟨b_ml_L_101, b_inm_yX4_is, b_se_yX4_is, b_in_X4, b_co_yX4_is⟩, by decide +kernel, by decide +kernel, by decide +kernel⟩
theorem kL_104 : LkV RL 104 mX5_is 1 := ⟨⟨b_ml_L_104, b_inm_yX5_is, b_se_yX5_is, b_in_X5, b_co_yX5_is⟩, by decide +kernel, by decide +kernel, by decide +kernel⟩
set_option maxHeartbeats 4000000 in
set_option maxRecDepth 100000 in
theorem case_21 {T : LT} {w0 : WG} {p : Program} {l : Launch} {e : Env} {s : State} {m : MethodId} {below : List Frame} {meth : Method} {c : Code} {b Ln : Nat} {xs : Nat → Int32} {kc ks : Nat} {w : WG} {I : SI} {L : SL} {v : WG} {J : SI} {K : SL} {a1 a2 t n d r q p0 m0 : Nat} (hT : T = (p, l, e, s, m, below, meth, c, b, Ln, xs)) (hC : LC T w0) (he : exW w0 w) (he2 : exW w0 v) (ha1 : gA w 0 = a1) (ha2 : gA v 0 = a2) (hw : XL w) (hm : ML v) (ht : TIE w I t) (h9 : t < 512) (h : RR I J K n d r q p0 m0) (hi : 5 * t + 5 ≤ Ln) (hrm : kc + 10 ≤ room_1.cells ∧ ks + 159 ≤ room_1.slots) (nx : NEXT T w0 b a1 a2 t kc ks) : GL T kc ks w I L v J K 779 (lvO [(0, .ref b), (1, .ref a1), (2, .ref a2), (3, .int (nI (5 * t)))]) [] := by
  subst ha1; subst ha2
  obtain ⟨x, C, S, Q, ⟨hC1, hS1⟩, hO, hk⟩ := st_is (L := L) hw hm ht h (xs (5 * t + 1))
  refine f_aload_n hC dL_law_779 rfl rfl ?_
  refine f_aload_n hC dL_law_780 rfl rfl ?_
  refine f_iload_n hC dL_law_781 rfl rfl ?_
  refine f_iconst (x := 1) hC dL_law_782 (by decide) ?_
  refine f_iadd hC dL_law_783 ?_
  refine f_sld (i := 5 * t + 1) hT hC dL_law_784 ⟨by rw [show (1 : Int32) = nI 1 from rfl, nI_add], by omega⟩ ?_
  refine f_call (C1 := C) (S1 := S) [] (hC.ex he) dL_law_785 kL_101 ⟨by decide, by decide⟩ (by decide) hw.k0 rfl rfl hO ⟨by omega, by omega⟩ rfl (Nat.le_of_ble_eq_true rfl) (fun r1 w1 I1 L1 hex hq => ?_)
  obtain ⟨e1, e2, I2, e3, hw1, hO2⟩ := hk r1 w1 I1 L1 hex hq
  subst e1
  refine GL.ws ?_ e3
  refine f_aload_n hC dL_law_788 rfl rfl ?_
  refine f_aload_n hC dL_law_789 rfl rfl ?_
  refine f_iload_n hC dL_law_790 rfl rfl ?_
  refine f_iconst (x := 1) hC dL_law_791 (by decide) ?_
  refine f_iadd hC dL_law_792 ?_
  refine f_sld (i := 5 * t + 1) hT hC dL_law_793 ⟨by rw [show (1 : Int32) = nI 1 from rfl, nI_add], by omega⟩ ?_
  refine GL.sw ?_
  refine f_call (C1 := 0) (S1 := 0) [.int x] (hC.ex he2) dL_law_794 kL_104 ⟨by decide, by decide⟩ (by decide) hm.k0 rfl rfl (OkM.ofOk hO2) ⟨by omega, by omega⟩ rfl (Nat.le_of_ble_eq_true rfl) (fun r2 v1 J1 K1 hex2 hq2 => ?_)
  obtain ⟨e5, e4, ht1, h1⟩ := hq2
  subst e4; subst e5
  refine GL.sw ?_
  refine f_icmp_eq (tgt := 1064) hC dL_law_797 (by decide) ?_
  exact nx C S w1 I2 L1 v1 J1 K1 hC1 hS1 (he.tr hex) he2 e2 rfl hw1 hm ht1 h1
theorem kL_105 : LkV RL 105 mX4_send 1 := ⟨⟨b_ml_L_105, b_inm_yX4_send, b_se_yX4_send, b_in_X4, b_co_yX4_send⟩, by decide +kernel, by decide +kernel, by decide +kernel⟩
theorem kL_108 : LkV RL 108 mX5_send 1 := ⟨⟨b_ml_L_108, b_inm_yX5_send, b_se_yX5_send, b_in_X5, b_co_yX5_send⟩, by decide +kernel, by decide +kernel, by decide +kernel⟩
set_option maxHeartbeats 4000000 in
set_option maxRecDepth 100000 in
theorem case_22 {T : LT} {w0 : WG} {p : Program} {l : Launch} {e : Env} {s : State} {m : MethodId} {below : List Frame} {meth : Method} {c : Code} {b Ln : Nat} {xs : Nat → Int32} {kc ks : Nat} {w : WG} {I : SI} {L : SL} {v : WG} {J : SI} {K : SL} {a1 a2 t n d r q p0 m0 : Nat} (hT : T = (p, l, e, s, m, below, meth, c, b, Ln, xs)) (hC : LC T w0) (he : exW w0 w) (he2 : exW w0 v) (ha1 : gA w 0 = a1) (ha2 : gA v 0 = a2) (hw : XL w) (hm : ML v) (ht : TIE w I t) (h9 : t < 512) (h : RR I J K n d r q p0 m0) (hi : 5 * t + 5 ≤ Ln) (hrm : kc + 10 ≤ room_1.cells ∧ ks + 159 ≤ room_1.slots) (nx : NEXT T w0 b a1 a2 t kc ks) : GL T kc ks w I L v J K 802 (lvO [(0, .ref b), (1, .ref a1), (2, .ref a2), (3, .int (nI (5 * t)))]) [] := by
  subst ha1; subst ha2
  obtain ⟨x, C, S, Q, ⟨hC1, hS1⟩, hO, hk⟩ := st_send (L := L) hw hm ht h (xs (5 * t + 1))
  refine f_aload_n hC dL_law_802 rfl rfl ?_
  refine f_aload_n hC dL_law_803 rfl rfl ?_
  refine f_iload_n hC dL_law_804 rfl rfl ?_
  refine f_iconst (x := 1) hC dL_law_805 (by decide) ?_
  refine f_iadd hC dL_law_806 ?_
  refine f_sld (i := 5 * t + 1) hT hC dL_law_807 ⟨by rw [show (1 : Int32) = nI 1 from rfl, nI_add], by omega⟩ ?_
  refine f_call (C1 := C) (S1 := S) [] (hC.ex he) dL_law_808 kL_105 ⟨by decide, by decide⟩ (by decide) hw.k0 rfl rfl hO ⟨by omega, by omega⟩ rfl (Nat.le_of_ble_eq_true rfl) (fun r1 w1 I1 L1 hex hq => ?_)
  obtain ⟨e1, e2, I2, e3, hw1, hO2⟩ := hk r1 w1 I1 L1 hex hq
  subst e1
  refine GL.ws ?_ e3
  refine f_aload_n hC dL_law_811 rfl rfl ?_
  refine f_aload_n hC dL_law_812 rfl rfl ?_
  refine f_iload_n hC dL_law_813 rfl rfl ?_
  refine f_iconst (x := 1) hC dL_law_814 (by decide) ?_
  refine f_iadd hC dL_law_815 ?_
  refine f_sld (i := 5 * t + 1) hT hC dL_law_816 ⟨by rw [show (1 : Int32) = nI 1 from rfl, nI_add], by omega⟩ ?_
  refine GL.sw ?_
  refine f_call (C1 := 0) (S1 := 0) [.int x] (hC.ex he2) dL_law_817 kL_108 ⟨by decide, by decide⟩ (by decide) hm.k0 rfl rfl (OkM.ofOk hO2) ⟨by omega, by omega⟩ rfl (Nat.le_of_ble_eq_true rfl) (fun r2 v1 J1 K1 hex2 hq2 => ?_)
  obtain ⟨e5, e4, ht1, h1⟩ := hq2
  subst e4; subst e5
  refine GL.sw ?_
  refine f_icmp_eq (tgt := 1064) hC dL_law_820 (by decide) ?_
  exact nx C S w1 I2 L1 v1 J1 K1 hC1 hS1 (he.tr hex) he2 e2 rfl hw1 hm ht1 h1
theorem kL_109 : LkV RL 109 mX4_two 3 := ⟨⟨b_ml_L_109, b_inm_yX4_two, b_se_yX4_two, b_in_X4, b_co_yX4_two⟩, by decide +kernel, by decide +kernel, by decide +kernel⟩
theorem kL_113 : LkV RL 113 mX5_two 3 := ⟨⟨b_ml_L_113, b_inm_yX5_two, b_se_yX5_two, b_in_X5, b_co_yX5_two⟩, by decide +kernel, by decide +kernel, by decide +kernel⟩
set_option maxHeartbeats 4000000 in
set_option maxRecDepth 100000 in
theorem case_23 {T : LT} {w0 : WG} {p : Program} {l : Launch} {e : Env} {s : State} {m : MethodId} {below : List Frame} {meth : Method} {c : Code} {b Ln : Nat} {xs : Nat → Int32} {kc ks : Nat} {w : WG} {I : SI} {L : SL} {v : WG} {J : SI} {K : SL} {a1 a2 t n d r q p0 m0 : Nat} (hT : T = (p, l, e, s, m, below, meth, c, b, Ln, xs)) (hC : LC T w0) (he : exW w0 w) (he2 : exW w0 v) (ha1 : gA w 0 = a1) (ha2 : gA v 0 = a2) (hw : XL w) (hm : ML v) (ht : TIE w I t) (h9 : t < 512) (h : RR I J K n d r q p0 m0) (hi : 5 * t + 5 ≤ Ln) (hrm : kc + 10 ≤ room_1.cells ∧ ks + 159 ≤ room_1.slots) (nx : NEXT T w0 b a1 a2 t kc ks) : GL T kc ks w I L v J K 825 (lvO [(0, .ref b), (1, .ref a1), (2, .ref a2), (3, .int (nI (5 * t)))]) [] := by
  subst ha1; subst ha2
  obtain ⟨x, C, S, Q, ⟨hC1, hS1⟩, hO, hk⟩ := st_two (L := L) hw hm ht h (xs (5 * t + 1)) (xs (5 * t + 2)) (xs (5 * t + 3))
  refine f_aload_n hC dL_law_825 rfl rfl ?_
  refine f_aload_n hC dL_law_826 rfl rfl ?_
  refine f_iload_n hC dL_law_827 rfl rfl ?_
  refine f_iconst (x := 1) hC dL_law_828 (by decide) ?_
  refine f_iadd hC dL_law_829 ?_
  refine f_sld (i := 5 * t + 1) hT hC dL_law_830 ⟨by rw [show (1 : Int32) = nI 1 from rfl, nI_add], by omega⟩ ?_
  refine f_aload_n hC dL_law_831 rfl rfl ?_
  refine f_iload_n hC dL_law_832 rfl rfl ?_
  refine f_iconst (x := 2) hC dL_law_833 (by decide) ?_
  refine f_iadd hC dL_law_834 ?_
  refine f_sld (i := 5 * t + 2) hT hC dL_law_835 ⟨by rw [show (2 : Int32) = nI 2 from rfl, nI_add], by omega⟩ ?_
  refine f_aload_n hC dL_law_836 rfl rfl ?_
  refine f_iload_n hC dL_law_837 rfl rfl ?_
  refine f_iconst (x := 3) hC dL_law_838 (by decide) ?_
  refine f_iadd hC dL_law_839 ?_
  refine f_sld (i := 5 * t + 3) hT hC dL_law_840 ⟨by rw [show (3 : Int32) = nI 3 from rfl, nI_add], by omega⟩ ?_
  refine f_call (C1 := C) (S1 := S) [] (hC.ex he) dL_law_841 kL_109 ⟨by decide, by decide⟩ (by decide) hw.k0 rfl rfl hO ⟨by omega, by omega⟩ rfl (Nat.le_of_ble_eq_true rfl) (fun r1 w1 I1 L1 hex hq => ?_)
  obtain ⟨e1, e2, I2, e3, hw1, hO2⟩ := hk r1 w1 I1 L1 hex hq
  subst e1
  refine GL.ws ?_ e3
  refine f_aload_n hC dL_law_844 rfl rfl ?_
  refine f_aload_n hC dL_law_845 rfl rfl ?_
  refine f_iload_n hC dL_law_846 rfl rfl ?_
  refine f_iconst (x := 1) hC dL_law_847 (by decide) ?_
  refine f_iadd hC dL_law_848 ?_
  refine f_sld (i := 5 * t + 1) hT hC dL_law_849 ⟨by rw [show (1 : Int32) = nI 1 from rfl, nI_add], by omega⟩ ?_
  refine f_aload_n hC dL_law_850 rfl rfl ?_
  refine f_iload_n hC dL_law_851 rfl rfl ?_
  refine f_iconst (x := 2) hC dL_law_852 (by decide) ?_
  refine f_iadd hC dL_law_853 ?_
  refine f_sld (i := 5 * t + 2) hT hC dL_law_854 ⟨by rw [show (2 : Int32) = nI 2 from rfl, nI_add], by omega⟩ ?_
  refine f_aload_n hC dL_law_855 rfl rfl ?_
  refine f_iload_n hC dL_law_856 rfl rfl ?_
  refine f_iconst (x := 3) hC dL_law_857 (by decide) ?_
  refine f_iadd hC dL_law_858 ?_
  refine f_sld (i := 5 * t + 3) hT hC dL_law_859 ⟨by rw [show (3 : Int32) = nI 3 from rfl, nI_add], by omega⟩ ?_
  refine GL.sw ?_
  refine f_call (C1 := 0) (S1 := 0) [.int x] (hC.ex he2) dL_law_860 kL_113 ⟨by decide, by decide⟩ (by decide) hm.k0 rfl rfl (OkM.ofOk hO2) ⟨by omega, by omega⟩ rfl (Nat.le_of_ble_eq_true rfl) (fun r2 v1 J1 K1 hex2 hq2 => ?_)
  obtain ⟨e5, e4, ht1, h1⟩ := hq2
  subst e4; subst e5
  refine GL.sw ?_
  refine f_icmp_eq (tgt := 1064) hC dL_law_863 (by decide) ?_
  exact nx C S w1 I2 L1 v1 J1 K1 hC1 hS1 (he.tr hex) he2 e2 rfl hw1 hm ht1 h1
theorem kL_114 : LkV RL 114 mX4_strays 2 := ⟨⟨b_ml_L_114, b_inm_yX4_strays, b_se_yX4_strays, b_in_X4, b_co_yX4_strays⟩, by decide +kernel, by decide +kernel, by decide +kernel⟩
theorem kL_117 : LkV RL 117 mX5_strays 2 := ⟨⟨b_ml_L_117, b_inm_yX5_strays, b_se_yX5_strays, b_in_X5, b_co_yX5_strays⟩, by decide +kernel, by decide +kernel, by decide +kernel⟩
set_option maxHeartbeats 4000000 in
set_option maxRecDepth 100000 in
theorem case_24 {T : LT} {w0 : WG} {p : Program} {l : Launch} {e : Env} {s : State} {m : MethodId} {below : List Frame} {meth : Method} {c : Code} {b Ln : Nat} {xs : Nat → Int32} {kc ks : Nat} {w : WG} {I : SI} {L : SL} {v : WG} {J : SI} {K : SL} {a1 a2 t n d r q p0 m0 : Nat} (hT : T = (p, l, e, s, m, below, meth, c, b, Ln, xs)) (hC : LC T w0) (he : exW w0 w) (he2 : exW w0 v) (ha1 : gA w 0 = a1) (ha2 : gA v 0 = a2) (hw : XL w) (hm : ML v) (ht : TIE w I t) (h9 : t < 512) (h : RR I J K n d r q p0 m0) (hi : 5 * t + 5 ≤ Ln) (hrm : kc + 10 ≤ room_1.cells ∧ ks + 159 ≤ room_1.slots) (nx : NEXT T w0 b a1 a2 t kc ks) : GL T kc ks w I L v J K 868 (lvO [(0, .ref b), (1, .ref a1), (2, .ref a2), (3, .int (nI (5 * t)))]) [] := by
  subst ha1; subst ha2
  obtain ⟨x, C, S, Q, ⟨hC1, hS1⟩, hO, hk⟩ := st_strays (L := L) hw hm ht h (xs (5 * t + 1)) (xs (5 * t + 2))
  refine f_aload_n hC dL_law_868 rfl rfl ?_
  refine f_aload_n hC dL_law_869 rfl rfl ?_
  refine f_iload_n hC dL_law_870 rfl rfl ?_
  refine f_iconst (x := 1) hC dL_law_871 (by decide) ?_
  refine f_iadd hC dL_law_872 ?_
  refine f_sld (i := 5 * t + 1) hT hC dL_law_873 ⟨by rw [show (1 : Int32) = nI 1 from rfl, nI_add], by omega⟩ ?_
  refine f_aload_n hC dL_law_874 rfl rfl ?_
  refine f_iload_n hC dL_law_875 rfl rfl ?_
  refine f_iconst (x := 2) hC dL_law_876 (by decide) ?_
  refine f_iadd hC dL_law_877 ?_
  refine f_sld (i := 5 * t + 2) hT hC dL_law_878 ⟨by rw [show (2 : Int32) = nI 2 from rfl, nI_add], by omega⟩ ?_
  refine f_call (C1 := C) (S1 := S) [] (hC.ex he) dL_law_879 kL_114 ⟨by decide, by decide⟩ (by decide) hw.k0 rfl rfl hO ⟨by omega, by omega⟩ rfl (Nat.le_of_ble_eq_true rfl) (fun r1 w1 I1 L1 hex hq => ?_)
  obtain ⟨e1, e2, I2, e3, hw1, hO2⟩ := hk r1 w1 I1 L1 hex hq
  subst e1
  refine GL.ws ?_ e3
  refine f_aload_n hC dL_law_882 rfl rfl ?_
  refine f_aload_n hC dL_law_883 rfl rfl ?_
  refine f_iload_n hC dL_law_884 rfl rfl ?_
  refine f_iconst (x := 1) hC dL_law_885 (by decide) ?_
  refine f_iadd hC dL_law_886 ?_
  refine f_sld (i := 5 * t + 1) hT hC dL_law_887 ⟨by rw [show (1 : Int32) = nI 1 from rfl, nI_add], by omega⟩ ?_
  refine f_aload_n hC dL_law_888 rfl rfl ?_
  refine f_iload_n hC dL_law_889 rfl rfl ?_
  refine f_iconst (x := 2) hC dL_law_890 (by decide) ?_
  refine f_iadd hC dL_law_891 ?_
  refine f_sld (i := 5 * t + 2) hT hC dL_law_892 ⟨by rw [show (2 : Int32) = nI 2 from rfl, nI_add], by omega⟩ ?_
  refine GL.sw ?_
  refine f_call (C1 := 0) (S1 := 0) [.int x] (hC.ex he2) dL_law_893 kL_117 ⟨by decide, by decide⟩ (by decide) hm.k0 rfl rfl (OkM.ofOk hO2) ⟨by omega, by omega⟩ rfl (Nat.le_of_ble_eq_true rfl) (fun r2 v1 J1 K1 hex2 hq2 => ?_)
  obtain ⟨e5, e4, ht1, h1⟩ := hq2
  subst e4; subst e5
  refine GL.sw ?_
  refine f_icmp_eq (tgt := 1064) hC dL_law_896 (by decide) ?_
  exact nx C S w1 I2 L1 v1 J1 K1 hC1 hS1 (he.tr hex) he2 e2 rfl hw1 hm ht1 h1
theorem kL_118 : LkV RL 118 mX4_villages 2 := ⟨⟨b_ml_L_118, b_inm_yX4_villages, b_se_yX4_villages, b_in_X4, b_co_yX4_villages⟩, by decide +kernel, by decide +kernel, by decide +kernel⟩
theorem kL_121 : LkV RL 121 mX5_villages 2 := ⟨⟨b_ml_L_121, b_inm_yX5_villages, b_se_yX5_villages, b_in_X5, b_co_yX5_villages⟩, by decide +kernel, by decide +kernel, by decide +kernel⟩
set_option maxHeartbeats 4000000 in
set_option maxRecDepth 100000 in
theorem case_25 {T : LT} {w0 : WG} {p : Program} {l : Launch} {e : Env} {s : State} {m : MethodId} {below : List Frame} {meth : Method} {c : Code} {b Ln : Nat} {xs : Nat → Int32} {kc ks : Nat} {w : WG} {I : SI} {L : SL} {v : WG} {J : SI} {K : SL} {a1 a2 t n d r q p0 m0 : Nat} (hT : T = (p, l, e, s, m, below, meth, c, b, Ln, xs)) (hC : LC T w0) (he : exW w0 w) (he2 : exW w0 v) (ha1 : gA w 0 = a1) (ha2 : gA v 0 = a2) (hw : XL w) (hm : ML v) (ht : TIE w I t) (h9 : t < 512) (h : RR I J K n d r q p0 m0) (hi : 5 * t + 5 ≤ Ln) (hrm : kc + 10 ≤ room_1.cells ∧ ks + 159 ≤ room_1.slots) (nx : NEXT T w0 b a1 a2 t kc ks) : GL T kc ks w I L v J K 901 (lvO [(0, .ref b), (1, .ref a1), (2, .ref a2), (3, .int (nI (5 * t)))]) [] := by
  subst ha1; subst ha2
  obtain ⟨x, C, S, Q, ⟨hC1, hS1⟩, hO, hk⟩ := st_villages (L := L) hw hm ht h (xs (5 * t + 1)) (xs (5 * t + 2))
  refine f_aload_n hC dL_law_901 rfl rfl ?_
  refine f_aload_n hC dL_law_902 rfl rfl ?_
  refine f_iload_n hC dL_law_903 rfl rfl ?_
  refine f_iconst (x := 1) hC dL_law_904 (by decide) ?_
  refine f_iadd hC dL_law_905 ?_
  refine f_sld (i := 5 * t + 1) hT hC dL_law_906 ⟨by rw [show (1 : Int32) = nI 1 from rfl, nI_add], by omega⟩ ?_
  refine f_aload_n hC dL_law_907 rfl rfl ?_
  refine f_iload_n hC dL_law_908 rfl rfl ?_
  refine f_iconst (x := 2) hC dL_law_909 (by decide) ?_
  refine f_iadd hC dL_law_910 ?_
  refine f_sld (i := 5 * t + 2) hT hC dL_law_911 ⟨by rw [show (2 : Int32) = nI 2 from rfl, nI_add], by omega⟩ ?_
  refine f_call (C1 := C) (S1 := S) [] (hC.ex he) dL_law_912 kL_118 ⟨by decide, by decide⟩ (by decide) hw.k0 rfl rfl hO ⟨by omega, by omega⟩ rfl (Nat.le_of_ble_eq_true rfl) (fun r1 w1 I1 L1 hex hq => ?_)
  obtain ⟨e1, e2, I2, e3, hw1, hO2⟩ := hk r1 w1 I1 L1 hex hq
  subst e1
  refine GL.ws ?_ e3
  refine f_aload_n hC dL_law_915 rfl rfl ?_
  refine f_aload_n hC dL_law_916 rfl rfl ?_
  refine f_iload_n hC dL_law_917 rfl rfl ?_
  refine f_iconst (x := 1) hC dL_law_918 (by decide) ?_
  refine f_iadd hC dL_law_919 ?_
  refine f_sld (i := 5 * t + 1) hT hC dL_law_920 ⟨by rw [show (1 : Int32) = nI 1 from rfl, nI_add], by omega⟩ ?_
  refine f_aload_n hC dL_law_921 rfl rfl ?_
  refine f_iload_n hC dL_law_922 rfl rfl ?_
  refine f_iconst (x := 2) hC dL_law_923 (by decide) ?_
  refine f_iadd hC dL_law_924 ?_
  refine f_sld (i := 5 * t + 2) hT hC dL_law_925 ⟨by rw [show (2 : Int32) = nI 2 from rfl, nI_add], by omega⟩ ?_
  refine GL.sw ?_
  refine f_call (C1 := 0) (S1 := 0) [.int x] (hC.ex he2) dL_law_926 kL_121 ⟨by decide, by decide⟩ (by decide) hm.k0 rfl rfl (OkM.ofOk hO2) ⟨by omega, by omega⟩ rfl (Nat.le_of_ble_eq_true rfl) (fun r2 v1 J1 K1 hex2 hq2 => ?_)
  obtain ⟨e5, e4, ht1, h1⟩ := hq2
  subst e4; subst e5
  refine GL.sw ?_
  refine f_icmp_eq (tgt := 1064) hC dL_law_929 (by decide) ?_
  exact nx C S w1 I2 L1 v1 J1 K1 hC1 hS1 (he.tr hex) he2 e2 rfl hw1 hm ht1 h1
theorem kL_122 : LkV RL 122 mX4_part 1 := ⟨⟨b_ml_L_122, b_inm_yX4_part, b_se_yX4_part, b_in_X4, b_co_yX4_part⟩, by decide +kernel, by decide +kernel, by decide +kernel⟩
theorem kL_126 : LkV RL 126 mX5_part 1 := ⟨⟨b_ml_L_126, b_inm_yX5_part, b_se_yX5_part, b_in_X5, b_co_yX5_part⟩, by decide +kernel, by decide +kernel, by decide +kernel⟩
set_option maxHeartbeats 4000000 in
set_option maxRecDepth 100000 in
theorem case_26 {T : LT} {w0 : WG} {p : Program} {l : Launch} {e : Env} {s : State} {m : MethodId} {below : List Frame} {meth : Method} {c : Code} {b Ln : Nat} {xs : Nat → Int32} {kc ks : Nat} {w : WG} {I : SI} {L : SL} {v : WG} {J : SI} {K : SL} {a1 a2 t n d r q p0 m0 : Nat} (hT : T = (p, l, e, s, m, below, meth, c, b, Ln, xs)) (hC : LC T w0) (he : exW w0 w) (he2 : exW w0 v) (ha1 : gA w 0 = a1) (ha2 : gA v 0 = a2) (hw : XL w) (hm : ML v) (ht : TIE w I t) (h9 : t < 512) (h : RR I J K n d r q p0 m0) (hi : 5 * t + 5 ≤ Ln) (hrm : kc + 10 ≤ room_1.cells ∧ ks + 159 ≤ room_1.slots) (nx : NEXT T w0 b a1 a2 t kc ks) : GL T kc ks w I L v J K 934 (lvO [(0, .ref b), (1, .ref a1), (2, .ref a2), (3, .int (nI (5 * t)))]) [] := by
  subst ha1; subst ha2
  obtain ⟨x, C, S, Q, ⟨hC1, hS1⟩, hO, hk⟩ := st_part (L := L) hw hm ht h (xs (5 * t + 1))
  refine f_aload_n hC dL_law_934 rfl rfl ?_
  refine f_aload_n hC dL_law_935 rfl rfl ?_
  refine f_iload_n hC dL_law_936 rfl rfl ?_
  refine f_iconst (x := 1) hC dL_law_937 (by decide) ?_
  refine f_iadd hC dL_law_938 ?_
  refine f_sld (i := 5 * t + 1) hT hC dL_law_939 ⟨by rw [show (1 : Int32) = nI 1 from rfl, nI_add], by omega⟩ ?_
  refine f_call (C1 := C) (S1 := S) [] (hC.ex he) dL_law_940 kL_122 ⟨by decide, by decide⟩ (by decide) hw.k0 rfl rfl hO ⟨by omega, by omega⟩ rfl (Nat.le_of_ble_eq_true rfl) (fun r1 w1 I1 L1 hex hq => ?_)
  obtain ⟨e1, e2, I2, e3, hw1, hO2⟩ := hk r1 w1 I1 L1 hex hq
  subst e1
  refine GL.ws ?_ e3
  refine f_aload_n hC dL_law_943 rfl rfl ?_
  refine f_aload_n hC dL_law_944 rfl rfl ?_
  refine f_iload_n hC dL_law_945 rfl rfl ?_
  refine f_iconst (x := 1) hC dL_law_946 (by decide) ?_
  refine f_iadd hC dL_law_947 ?_
  refine f_sld (i := 5 * t + 1) hT hC dL_law_948 ⟨by rw [show (1 : Int32) = nI 1 from rfl, nI_add], by omega⟩ ?_
  refine GL.sw ?_
  refine f_call (C1 := 0) (S1 := 0) [.long x] (hC.ex he2) dL_law_949 kL_126 ⟨by decide, by decide⟩ (by decide) hm.k0 rfl rfl (OkM.ofOk hO2) ⟨by omega, by omega⟩ rfl (Nat.le_of_ble_eq_true rfl) (fun r2 v1 J1 K1 hex2 hq2 => ?_)
  obtain ⟨e5, e4, ht1, h1⟩ := hq2
  subst e4; subst e5
  refine GL.sw ?_
  refine f_lcmp hC dL_law_952 ?_
  refine f_if_eq0 (tgt := 1064) hC dL_law_953 (by decide) (lg_cmp_self x) ?_
  exact nx C S w1 I2 L1 v1 J1 K1 hC1 hS1 (he.tr hex) he2 e2 rfl hw1 hm ht1 h1
theorem kL_127 : LkV RL 127 mX4_image 1 := ⟨⟨b_ml_L_127, b_inm_yX4_image, b_se_yX4_image, b_in_X4, b_co_yX4_image⟩, by decide +kernel, by decide +kernel, by decide +kernel⟩
theorem kL_130 : LkV RL 130 mX5_image 1 := ⟨⟨b_ml_L_130, b_inm_yX5_image, b_se_yX5_image, b_in_X5, b_co_yX5_image⟩, by decide +kernel, by decide +kernel, by decide +kernel⟩
set_option maxHeartbeats 4000000 in
set_option maxRecDepth 100000 in
theorem case_27 {T : LT} {w0 : WG} {p : Program} {l : Launch} {e : Env} {s : State} {m : MethodId} {below : List Frame} {meth : Method} {c : Code} {b Ln : Nat} {xs : Nat → Int32} {kc ks : Nat} {w : WG} {I : SI} {L : SL} {v : WG} {J : SI} {K : SL} {a1 a2 t n d r q p0 m0 : Nat} (hT : T = (p, l, e, s, m, below, meth, c, b, Ln, xs)) (hC : LC T w0) (he : exW w0 w) (he2 : exW w0 v) (ha1 : gA w 0 = a1) (ha2 : gA v 0 = a2) (hw : XL w) (hm : ML v) (ht : TIE w I t) (h9 : t < 512) (h : RR I J K n d r q p0 m0) (hi : 5 * t + 5 ≤ Ln) (hrm : kc + 10 ≤ room_1.cells ∧ ks + 159 ≤ room_1.slots) (nx : NEXT T w0 b a1 a2 t kc ks) : GL T kc ks w I L v J K 958 (lvO [(0, .ref b), (1, .ref a1), (2, .ref a2), (3, .int (nI (5 * t)))]) [] := by
  subst ha1; subst ha2
  obtain ⟨x, C, S, Q, ⟨hC1, hS1⟩, hO, hk⟩ := st_image (L := L) hw hm ht (Nat.le_of_lt h9) h (xs (5 * t + 1))
  refine f_aload_n hC dL_law_958 rfl rfl ?_
  refine f_aload_n hC dL_law_959 rfl rfl ?_
  refine f_iload_n hC dL_law_960 rfl rfl ?_
  refine f_iconst (x := 1) hC dL_law_961 (by decide) ?_
  refine f_iadd hC dL_law_962 ?_
  refine f_sld (i := 5 * t + 1) hT hC dL_law_963 ⟨by rw [show (1 : Int32) = nI 1 from rfl, nI_add], by omega⟩ ?_
  refine f_call (C1 := C) (S1 := S) [] (hC.ex he) dL_law_964 kL_127 ⟨by decide, by decide⟩ (by decide) hw.k0 rfl rfl hO ⟨by omega, by omega⟩ rfl (Nat.le_of_ble_eq_true rfl) (fun r1 w1 I1 L1 hex hq => ?_)
  obtain ⟨e1, e2, I2, e3, hw1, hO2⟩ := hk r1 w1 I1 L1 hex hq
  subst e1
  refine GL.ws ?_ e3
  refine f_aload_n hC dL_law_967 rfl rfl ?_
  refine f_aload_n hC dL_law_968 rfl rfl ?_
  refine f_iload_n hC dL_law_969 rfl rfl ?_
  refine f_iconst (x := 1) hC dL_law_970 (by decide) ?_
  refine f_iadd hC dL_law_971 ?_
  refine f_sld (i := 5 * t + 1) hT hC dL_law_972 ⟨by rw [show (1 : Int32) = nI 1 from rfl, nI_add], by omega⟩ ?_
  refine GL.sw ?_
  refine f_call (C1 := 0) (S1 := 0) [.int x] (hC.ex he2) dL_law_973 kL_130 ⟨by decide, by decide⟩ (by decide) hm.k0 rfl rfl (OkM.ofOk hO2) ⟨by omega, by omega⟩ rfl (Nat.le_of_ble_eq_true rfl) (fun r2 v1 J1 K1 hex2 hq2 => ?_)
  obtain ⟨e5, e4, ht1, h1⟩ := hq2
  subst e4; subst e5
  refine GL.sw ?_
  refine f_icmp_eq (tgt := 1064) hC dL_law_976 (by decide) ?_
  exact nx C S w1 I2 L1 v1 J1 K1 hC1 hS1 (he.tr hex) he2 e2 rfl hw1 hm ht1 h1
theorem kL_131 : LkV RL 131 mX4_from 1 := ⟨⟨b_ml_L_131, b_inm_yX4_from, b_se_yX4_from, b_in_X4, b_co_yX4_from⟩, by decide +kernel, by decide +kernel, by decide +kernel⟩
theorem kL_134 : LkV RL 134 mX5_from 1 := ⟨⟨b_ml_L_134, b_inm_yX5_from, b_se_yX5_from, b_in_X5, b_co_yX5_from⟩, by decide +kernel, by decide +kernel, by decide +kernel⟩
set_option maxHeartbeats 4000000 in
set_option maxRecDepth 100000 in
theorem case_28 {T : LT} {w0 : WG} {p : Program} {l : Launch} {e : Env} {s : State} {m : MethodId} {below : List Frame} {meth : Method} {c : Code} {b Ln : Nat} {xs : Nat → Int32} {kc ks : Nat} {w : WG} {I : SI} {L : SL} {v : WG} {J : SI} {K : SL} {a1 a2 t n d r q p0 m0 : Nat} (hT : T = (p, l, e, s, m, below, meth, c, b, Ln, xs)) (hC : LC T w0) (he : exW w0 w) (he2 : exW w0 v) (ha1 : gA w 0 = a1) (ha2 : gA v 0 = a2) (hw : XL w) (hm : ML v) (ht : TIE w I t) (h9 : t < 512) (h : RR I J K n d r q p0 m0) (hi : 5 * t + 5 ≤ Ln) (hrm : kc + 10 ≤ room_1.cells ∧ ks + 159 ≤ room_1.slots) (nx : NEXT T w0 b a1 a2 t kc ks) : GL T kc ks w I L v J K 981 (lvO [(0, .ref b), (1, .ref a1), (2, .ref a2), (3, .int (nI (5 * t)))]) [] := by
  subst ha1; subst ha2
  obtain ⟨x, C, S, Q, ⟨hC1, hS1⟩, hO, hk⟩ := st_from (L := L) hw hm ht (Nat.le_of_lt h9) h (xs (5 * t + 1))
  refine f_aload_n hC dL_law_981 rfl rfl ?_
  refine f_aload_n hC dL_law_982 rfl rfl ?_
  refine f_iload_n hC dL_law_983 rfl rfl ?_
  refine f_iconst (x := 1) hC dL_law_984 (by decide) ?_
  refine f_iadd hC dL_law_985 ?_
  refine f_sld (i := 5 * t + 1) hT hC dL_law_986 ⟨by rw [show (1 : Int32) = nI 1 from rfl, nI_add], by omega⟩ ?_
  refine f_call (C1 := C) (S1 := S) [] (hC.ex he) dL_law_987 kL_131 ⟨by decide, by decide⟩ (by decide) hw.k0 rfl rfl hO ⟨by omega, by omega⟩ rfl (Nat.le_of_ble_eq_true rfl) (fun r1 w1 I1 L1 hex hq => ?_)
  obtain ⟨e1, e2, I2, e3, hw1, hO2⟩ := hk r1 w1 I1 L1 hex hq
  subst e1
  refine GL.ws ?_ e3
  refine f_aload_n hC dL_law_990 rfl rfl ?_
  refine f_aload_n hC dL_law_991 rfl rfl ?_
  refine f_iload_n hC dL_law_992 rfl rfl ?_
  refine f_iconst (x := 1) hC dL_law_993 (by decide) ?_
  refine f_iadd hC dL_law_994 ?_
  refine f_sld (i := 5 * t + 1) hT hC dL_law_995 ⟨by rw [show (1 : Int32) = nI 1 from rfl, nI_add], by omega⟩ ?_
  refine GL.sw ?_
  refine f_call (C1 := 0) (S1 := 0) [.int x] (hC.ex he2) dL_law_996 kL_134 ⟨by decide, by decide⟩ (by decide) hm.k0 rfl rfl (OkM.ofOk hO2) ⟨by omega, by omega⟩ rfl (Nat.le_of_ble_eq_true rfl) (fun r2 v1 J1 K1 hex2 hq2 => ?_)
  obtain ⟨e5, e4, ht1, h1⟩ := hq2
  subst e4; subst e5
  refine GL.sw ?_
  refine f_icmp_eq (tgt := 1064) hC dL_law_999 (by decide) ?_
  exact nx C S w1 I2 L1 v1 J1 K1 hC1 hS1 (he.tr hex) he2 e2 rfl hw1 hm ht1 h1
theorem kL_135 : LkV RL 135 mX4_status 1 := ⟨⟨b_ml_L_135, b_inm_yX4_status, b_se_yX4_status, b_in_X4, b_co_yX4_status⟩, by decide +kernel, by decide +kernel, by decide +kernel⟩
theorem kL_138 : LkV RL 138 mX5_status 1 := ⟨⟨b_ml_L_138, b_inm_yX5_status, b_se_yX5_status, b_in_X5, b_co_yX5_status⟩, by decide +kernel, by decide +kernel, by decide +kernel⟩
set_option maxHeartbeats 4000000 in
set_option maxRecDepth 100000 in
theorem case_29 {T : LT} {w0 : WG} {p : Program} {l : Launch} {e : Env} {s : State} {m : MethodId} {below : List Frame} {meth : Method} {c : Code} {b Ln : Nat} {xs : Nat → Int32} {kc ks : Nat} {w : WG} {I : SI} {L : SL} {v : WG} {J : SI} {K : SL} {a1 a2 t n d r q p0 m0 : Nat} (hT : T = (p, l, e, s, m, below, meth, c, b, Ln, xs)) (hC : LC T w0) (he : exW w0 w) (he2 : exW w0 v) (ha1 : gA w 0 = a1) (ha2 : gA v 0 = a2) (hw : XL w) (hm : ML v) (ht : TIE w I t) (h9 : t < 512) (h : RR I J K n d r q p0 m0) (hi : 5 * t + 5 ≤ Ln) (hrm : kc + 10 ≤ room_1.cells ∧ ks + 159 ≤ room_1.slots) (nx : NEXT T w0 b a1 a2 t kc ks) : GL T kc ks w I L v J K 1004 (lvO [(0, .ref b), (1, .ref a1), (2, .ref a2), (3, .int (nI (5 * t)))]) [] := by
  subst ha1; subst ha2
  obtain ⟨x, C, S, Q, ⟨hC1, hS1⟩, hO, hk⟩ := st_status (L := L) hw hm ht h (xs (5 * t + 1))
  refine f_aload_n hC dL_law_1004 rfl rfl ?_
  refine f_aload_n hC dL_law_1005 rfl rfl ?_
  refine f_iload_n hC dL_law_1006 rfl rfl ?_
  refine f_iconst (x := 1) hC dL_law_1007 (by decide) ?_
  refine f_iadd hC dL_law_1008 ?_
  refine f_sld (i := 5 * t + 1) hT hC dL_law_1009 ⟨by rw [show (1 : Int32) = nI 1 from rfl, nI_add], by omega⟩ ?_
  refine f_call (C1 := C) (S1 := S) [] (hC.ex he) dL_law_1010 kL_135 ⟨by decide, by decide⟩ (by decide) hw.k0 rfl rfl hO ⟨by omega, by omega⟩ rfl (Nat.le_of_ble_eq_true rfl) (fun r1 w1 I1 L1 hex hq => ?_)
  obtain ⟨e1, e2, I2, e3, hw1, hO2⟩ := hk r1 w1 I1 L1 hex hq
  subst e1
  refine GL.ws ?_ e3
  refine f_aload_n hC dL_law_1013 rfl rfl ?_
  refine f_aload_n hC dL_law_1014 rfl rfl ?_
  refine f_iload_n hC dL_law_1015 rfl rfl ?_
  refine f_iconst (x := 1) hC dL_law_1016 (by decide) ?_
  refine f_iadd hC dL_law_1017 ?_
  refine f_sld (i := 5 * t + 1) hT hC dL_law_1018 ⟨by rw [show (1 : Int32) = nI 1 from rfl, nI_add], by omega⟩ ?_
  refine GL.sw ?_
  refine f_call (C1 := 0) (S1 := 0) [.int x] (hC.ex he2) dL_law_1019 kL_138 ⟨by decide, by decide⟩ (by decide) hm.k0 rfl rfl (OkM.ofOk hO2) ⟨by omega, by omega⟩ rfl (Nat.le_of_ble_eq_true rfl) (fun r2 v1 J1 K1 hex2 hq2 => ?_)
  obtain ⟨e5, e4, ht1, h1⟩ := hq2
  subst e4; subst e5
  refine GL.sw ?_
  refine f_icmp_eq (tgt := 1064) hC dL_law_1022 (by decide) ?_
  exact nx C S w1 I2 L1 v1 J1 K1 hC1 hS1 (he.tr hex) he2 e2 rfl hw1 hm ht1 h1
theorem kL_139 : LkV RL 139 mX4_count 1 := ⟨⟨b_ml_L_139, b_inm_yX4_count, b_se_yX4_count, b_in_X4, b_co_yX4_count⟩, by decide +kernel, by decide +kernel, by decide +kernel⟩
theorem kL_142 : LkV RL 142 mX5_count 1 := ⟨⟨b_ml_L_142, b_inm_yX5_count, b_se_yX5_count, b_in_X5, b_co_yX5_count⟩, by decide +kernel, by decide +kernel, by decide +kernel⟩
set_option maxHeartbeats 4000000 in
set_option maxRecDepth 100000 in
theorem case_30 {T : LT} {w0 : WG} {p : Program} {l : Launch} {e : Env} {s : State} {m : MethodId} {below : List Frame} {meth : Method} {c : Code} {b Ln : Nat} {xs : Nat → Int32} {kc ks : Nat} {w : WG} {I : SI} {L : SL} {v : WG} {J : SI} {K : SL} {a1 a2 t n d r q p0 m0 : Nat} (hT : T = (p, l, e, s, m, below, meth, c, b, Ln, xs)) (hC : LC T w0) (he : exW w0 w) (he2 : exW w0 v) (ha1 : gA w 0 = a1) (ha2 : gA v 0 = a2) (hw : XL w) (hm : ML v) (ht : TIE w I t) (h9 : t < 512) (h : RR I J K n d r q p0 m0) (hi : 5 * t + 5 ≤ Ln) (hrm : kc + 10 ≤ room_1.cells ∧ ks + 159 ≤ room_1.slots) (nx : NEXT T w0 b a1 a2 t kc ks) : GL T kc ks w I L v J K 1027 (lvO [(0, .ref b), (1, .ref a1), (2, .ref a2), (3, .int (nI (5 * t)))]) [] := by
  subst ha1; subst ha2
  obtain ⟨x, C, S, Q, ⟨hC1, hS1⟩, hO, hk⟩ := st_count (L := L) hw hm ht h (xs (5 * t + 1))
  refine f_aload_n hC dL_law_1027 rfl rfl ?_
  refine f_aload_n hC dL_law_1028 rfl rfl ?_
  refine f_iload_n hC dL_law_1029 rfl rfl ?_
  refine f_iconst (x := 1) hC dL_law_1030 (by decide) ?_
  refine f_iadd hC dL_law_1031 ?_
  refine f_sld (i := 5 * t + 1) hT hC dL_law_1032 ⟨by rw [show (1 : Int32) = nI 1 from rfl, nI_add], by omega⟩ ?_
  refine f_call (C1 := C) (S1 := S) [] (hC.ex he) dL_law_1033 kL_139 ⟨by decide, by decide⟩ (by decide) hw.k0 rfl rfl hO ⟨by omega, by omega⟩ rfl (Nat.le_of_ble_eq_true rfl) (fun r1 w1 I1 L1 hex hq => ?_)
  obtain ⟨e1, e2, I2, e3, hw1, hO2⟩ := hk r1 w1 I1 L1 hex hq
  subst e1
  refine GL.ws ?_ e3
  refine f_aload_n hC dL_law_1036 rfl rfl ?_
  refine f_aload_n hC dL_law_1037 rfl rfl ?_
  refine f_iload_n hC dL_law_1038 rfl rfl ?_
  refine f_iconst (x := 1) hC dL_law_1039 (by decide) ?_
  refine f_iadd hC dL_law_1040 ?_
  refine f_sld (i := 5 * t + 1) hT hC dL_law_1041 ⟨by rw [show (1 : Int32) = nI 1 from rfl, nI_add], by omega⟩ ?_
  refine GL.sw ?_
  refine f_call (C1 := 0) (S1 := 0) [.int x] (hC.ex he2) dL_law_1042 kL_142 ⟨by decide, by decide⟩ (by decide) hm.k0 rfl rfl (OkM.ofOk hO2) ⟨by omega, by omega⟩ rfl (Nat.le_of_ble_eq_true rfl) (fun r2 v1 J1 K1 hex2 hq2 => ?_)
  obtain ⟨e5, e4, ht1, h1⟩ := hq2
  subst e4; subst e5
  refine GL.sw ?_
  refine f_icmp_eq (tgt := 1064) hC dL_law_1045 (by decide) ?_
  exact nx C S w1 I2 L1 v1 J1 K1 hC1 hS1 (he.tr hex) he2 e2 rfl hw1 hm ht1 h1
theorem kL_143 : LkV RL 143 mX4_digest 0 := ⟨⟨b_ml_L_143, b_inm_yX4_digest, b_se_yX4_digest, b_in_X4, b_co_yX4_digest⟩, by decide +kernel, by decide +kernel, by decide +kernel⟩
theorem kL_147 : LkV RL 147 mX5_digest 0 := ⟨⟨b_ml_L_147, b_inm_yX5_digest, b_se_yX5_digest, b_in_X5, b_co_yX5_digest⟩, by decide +kernel, by decide +kernel, by decide +kernel⟩
set_option maxHeartbeats 4000000 in
set_option maxRecDepth 100000 in
theorem case_31 {T : LT} {w0 : WG} {p : Program} {l : Launch} {e : Env} {s : State} {m : MethodId} {below : List Frame} {meth : Method} {c : Code} {b Ln : Nat} {xs : Nat → Int32} {kc ks : Nat} {w : WG} {I : SI} {L : SL} {v : WG} {J : SI} {K : SL} {a1 a2 t n d r q p0 m0 : Nat} (hT : T = (p, l, e, s, m, below, meth, c, b, Ln, xs)) (hC : LC T w0) (he : exW w0 w) (he2 : exW w0 v) (ha1 : gA w 0 = a1) (ha2 : gA v 0 = a2) (hw : XL w) (hm : ML v) (ht : TIE w I t) (h9 : t < 512) (h : RR I J K n d r q p0 m0) (hi : 5 * t + 5 ≤ Ln) (hrm : kc + 10 ≤ room_1.cells ∧ ks + 159 ≤ room_1.slots) (nx : NEXT T w0 b a1 a2 t kc ks) : GL T kc ks w I L v J K 1050 (lvO [(0, .ref b), (1, .ref a1), (2, .ref a2), (3, .int (nI (5 * t)))]) [] := by
  subst ha1; subst ha2
  obtain ⟨x, C, S, Q, ⟨hC1, hS1⟩, hO, hk⟩ := st_digest (L := L) hw hm ht h
  refine f_aload_n hC dL_law_1050 rfl rfl ?_
  refine f_call (C1 := C) (S1 := S) [] (hC.ex he) dL_law_1051 kL_143 ⟨by decide, by decide⟩ (by decide) hw.k0 rfl rfl hO ⟨by omega, by omega⟩ rfl (Nat.le_of_ble_eq_true rfl) (fun r1 w1 I1 L1 hex hq => ?_)
  obtain ⟨e1, e2, I2, e3, hw1, hO2⟩ := hk r1 w1 I1 L1 hex hq
  subst e1
  refine GL.ws ?_ e3
  refine f_aload_n hC dL_law_1054 rfl rfl ?_
  refine GL.sw ?_
  refine f_call (C1 := 0) (S1 := 0) [.long x] (hC.ex he2) dL_law_1055 kL_147 ⟨by decide, by decide⟩ (by decide) hm.k0 rfl rfl (OkM.ofOk hO2) ⟨by omega, by omega⟩ rfl (Nat.le_of_ble_eq_true rfl) (fun r2 v1 J1 K1 hex2 hq2 => ?_)
  obtain ⟨e5, e4, ht1, h1⟩ := hq2
  subst e4; subst e5
  refine GL.sw ?_
  refine f_lcmp hC dL_law_1058 ?_
  refine f_if_eq0 (tgt := 1064) hC dL_law_1059 (by decide) (lg_cmp_self x) ?_
  exact nx C S w1 I2 L1 v1 J1 K1 hC1 hS1 (he.tr hex) he2 e2 rfl hw1 hm ht1 h1
