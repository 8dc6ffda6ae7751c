theorem pn2_0 : pn2 0 := ⟨rfl, by decide, by decide +kernel, by decide +kernel, .array .byte, by decide +kernel, fun v => ⟨rfl, rfl⟩⟩
theorem pn4_0 : pn4 0 := ⟨rfl, by decide, by decide +kernel, by decide +kernel, .object RX3, by decide +kernel, fun v => ⟨rfl, rfl⟩⟩
theorem pn4_1 : pn4 1 := ⟨rfl, by decide, by decide +kernel, by decide +kernel, .object RX3, by decide +kernel, fun v => ⟨rfl, rfl⟩⟩
theorem pn4_2 : pn4 2 := ⟨rfl, by decide, by decide +kernel, by decide +kernel, .array (.object RX3), by decide +kernel, fun v => ⟨rfl, rfl⟩⟩
theorem pn4_3 : pn4 3 := ⟨rfl, by decide, by decide +kernel, by decide +kernel, .object RX2, by decide +kernel, fun v => ⟨rfl, rfl⟩⟩
theorem pn4_9 : pn4 9 := ⟨rfl, by decide, by decide +kernel, by decide +kernel, .array .int, by decide +kernel, fun v => ⟨rfl, rfl⟩⟩
theorem pn4_10 : pn4 10 := ⟨rfl, by decide, by decide +kernel, by decide +kernel, .array .int, by decide +kernel, fun v => ⟨rfl, rfl⟩⟩
theorem pn4_11 : pn4 11 := ⟨rfl, by decide, by decide +kernel, by decide +kernel, .array .int, by decide +kernel, fun v => ⟨rfl, rfl⟩⟩
/-- the array class of villages is known -/
def AOX (X : CT) : Prop := match X with
  | (_, _, _, _, s, _, _, _, _, _, _, _, _, _) => va_AO RX3 s
theorem AOX.c {X : CT} {k n : Nat} (h : AOX X) : AOX (Xc X k n) := by
  obtain ⟨p, l, e, R, s, m, args, below, meth, c, A, cells, slots, Qf⟩ := X
  exact h
theorem ref_cA {w : WG} {s : State} {cA : ClassId} (hK : va_K w.1 vwCl (gT w ++ [(cA, .object RX3)]) s) : cA = w.2.1.2.2 := by
  obtain ⟨kA, comp, f2, f3, f4, f1⟩ := (hK.2 3 (cA, .object RX3) rfl).2
  obtain ⟨kB, compB, g2, g3, g4, g1⟩ := (hK.2 2 (w.2.1.2.2, .object RX3) rfl).2
  exact Option.some.inj (f1.symm.trans g1)
theorem h_anewR {X : CT} {w : WG} {M : MD} {Q : QW} {I : SI} {L : SL} {pc : Nat} {f : LV} {st : List Value} {idx : Nat} {n : Int32} (kc ks : Nat) (hX : Cy X w M Q (1 + kc) (2 + ks)) (hAO : AOX X) (hd : decode M.2.1 pc = .ok (.anewarray idx, 3)) (hw : Cond.classLink M.1.cls idx RX3 ∈ BG) (hn : n = 2) (kk : ∀ q, Cy (Xc X 1 2) (wN w (7, 2) q) M Q kc ks → G (Xc X 1 2) (wN w (7, 2) q) M (nI0 w I) (nL0 w L) (pc + 3) f (.ref q :: st)) : G X w M I L pc f (.int n :: st) := by
  obtain ⟨p, l, e, R, s, m, args, below, meth, c, A, cells, slots, Qf⟩ := X
  have hX0 := hX
  obtain ⟨hx, hb, hml, hr, hlk, ho, hts, hK, hSW, hA, hR, hc, hs, hq⟩ := hX
  intro H locs ls hP hD hS hl
  subst hn
  refine va_newq (D := w.1) (cl := vwCl) (tys := gT w) hx hb ho (hts _ hw) hAO hK hP hD hS hA (N' := 2) (by decide) (by decide) (by decide) (by have := hc.1; omega) (by have := hc.2; omega) hd (fun q cA H1 hK1 hP1 hD1 hS1 => ?_)
  have hcA := ref_cA hK1
  subst hcA
  refine kk q ((hX0.spend).ex wN.ex) H1 locs ls ?_ ?_ hS1 hl
  · rw [wsO_wN]; exact hP1
  · rw [wsO_wN]; exact hD1
def OkA (w : WG) (M : MD) (av : List Value) (I : SI) (L : SL) (Q : QW) (C S : Nat) : Prop := ∀ (l : Launch) (sz : Nat), Met l M.1 (wsM M) (rmM M.2.2.2.2 C S) (va_Pc av (fun U => PreO w I L sz U ∧ va_AO RX3 U)) (QcM w Q (va_A (wsO w I L) sz)) C S (va_A (wsO w I L) sz)
theorem OkA.of {w : WG} {M : MD} {av : List Value} {I : SI} {L : SL} {Q : QW} {C S : Nat} (hy : plainName M.1.cls = true) (hn : (lg_sl av).length ≤ M.2.2.1) (h : ∀ X : CT, Cy X w M Q C S → AOX X → G X w M I L 0 (lvO (lv_args 0 av)) []) : OkA w M av I L Q C S := by
  intro l sz
  refine Met.ofW (cc := M.2.1) (maxL := M.2.2.1) (ret := M.2.2.2.1) hy rfl ?_
  intro p e s m args below meth c s₁ B hml hv
  obtain ⟨rfl, ⟨hsz, hP, hK, hD0, hSW⟩, hAO⟩ := hv
  have hts := atoms_spec (ws := wsM M) B.pre
  subst hsz
  have hl := lv_entry av (n := M.2.2.1) hn
  rw [lg_entry_eq]
  exact h (p, l, e, (headSpec (wsM M) (rmM M.2.2.2.2 C S)).room, s, m, av.toArray, below, meth, c, va_A (wsO w I L) s.heap.size, 0, 0, MQ below (QcM w Q (va_A (wsO w I L) s.heap.size)) av.toArray s C S (va_A (wsO w I L) s.heap.size))
    ⟨B.exec, B.bytes, hml, B.returns, B.notSynchronized, findClass_of_methodNamed B.named, fun q hq => hts q (List.mem_cons_of_mem _ hq), hK, hSW, fun q h => Or.inr h, ⟨Nat.le_refl _, Nat.le_refl _⟩, ⟨by rw [Nat.zero_add]; exact Nat.le_refl _, by rw [Nat.zero_add]; exact Nat.le_refl _⟩, (name_of_methodNamed B.named B.method).1, by rw [Nat.zero_add, Nat.zero_add]⟩ hAO
    s.heap [] _ hP hD0.self va_S.rf (hasL_of hl)
theorem ok_initT {w0 : WG} {I0 : SI} {L0 : SL} {o n0 : Nat} (hk : (gK w0)[o]? = some (1, n0)) : OkM w0 mX2_init [.ref (gA w0 o)] I0 L0 (fun r w' I' L' => r = none ∧ ∃ I1, MK w0 I0 L0 o [(5, 150)] [0] w' I1 L' ∧ I' = rS I1 o (upd (I1 o) 1 0)) 1 150 := by
  have ho : o < (gK w0).length := (List.getElem?_eq_some_iff.mp hk).1
  refine OkM.of (by decide) (Nat.le_of_ble_eq_true rfl) (fun X hX => ?_)
  generalize hQ : (fun r w' I' L' => r = none ∧ ∃ I1, MK w0 I0 L0 o [(5, 150)] [0] w' I1 L' ∧ I' = rS I1 o (upd (I1 o) 1 0) : QW) = Q at hX
  have st1 : ∀ (X : CT) (w : WG) (I : SI) (L : SL), MK w0 I0 L0 o [(5, 150)] [0] w I L → Cy X w mX2_init Q 0 0 → G X w mX2_init I L 13 (lvO [(0, .ref (gA w0 o))]) [] := by
    intro X w I L hM hX
    refine h_aload_n hX dX2_init_13 rfl rfl ?_
    refine h_iconst (v := 0) hX dX2_init_14 (by decide) ?_
    rw [← hM.2.1 o ho]
    refine h_put2I hX 1 dX2_init_15 b_fl_X2_15 (hM.at hk) pf2_1 ?_
    exact h_vret hX dX2_init_18 rfl (by rw [← hQ]; exact ⟨rfl, _, hM, rfl⟩)
  have st0 : ∀ (X : CT) (w : WG) (I : SI) (L : SL), MK w0 I0 L0 o [] [] w I L → Cy X w mX2_init Q 1 150 → G X w mX2_init I L 4 (lvO [(0, .ref (gA w0 o))]) [] := by
    intro X w I L hM hX
    refine h_aload_n hX dX2_init_4 rfl rfl ?_
    refine h_sipush (v := 150) hX dX2_init_5 (by decide) ?_
    refine h_newB 0 0 150 hX dX2_init_8 b_ac_byte rfl (by decide) (fun q hX1 => ?_)
    rw [← hM.2.1 o ho, ← gA_wN_at (hM.at hk)]
    refine h_putN2 hX1 0 dX2_init_10 b_fl_X2_9 (gK_wN_at (hM.at hk)) pn2_0 ⟨rfl, rfl⟩ (fun hX2 => ?_)
    rw [gA_wN_at (hM.at hk), hM.2.1 o ho]
    exact st1 _ _ _ _ (hM.step rfl ho (by decide)) hX2
  refine h_aload_n hX dX2_init_0 rfl rfl ?_
  refine h_objInit hX dX2_init_1 b_ml_X2_3 (by decide) (Nat.le_of_ble_eq_true rfl) ?_
  exact G.at (st0 _ _ _ _ MK.start hX) ⟨rfl, trivial⟩
