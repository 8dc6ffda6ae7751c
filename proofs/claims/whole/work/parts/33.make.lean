/-! METHODS THAT MAKE: the same walk over a world that grows -/
abbrev QW : Type := Option Value → WG → SI → SL → Prop
/-- the same tables, the same literals -/
def exW (w w' : WG) : Prop := w'.1 = w.1 ∧ w'.2.1 = w.2.1 ∧ w'.2.2.2.2.2 = w.2.2.2.2.2
theorem exW.rf {w : WG} : exW w w := ⟨rfl, rfl, rfl⟩
theorem exW.tr {w w1 w2 : WG} (h : exW w w1) (h2 : exW w1 w2) : exW w w2 := ⟨h2.1.trans h.1, h2.2.1.trans h.2.1, h2.2.2.trans h.2.2⟩
theorem exW.sy {w w1 : WG} (h : exW w w1) : exW w1 w := ⟨h.1.symm, h.2.1.symm, h.2.2.symm⟩
def rmM (d c n : Nat) : Room := { frames := d, cells := c, slots := n, locals := 40 * d }
def QcM (w : WG) (Q : QW) (A : Nat → Prop) : Array Value → State → Outcome → State → Prop := fun _ st oc t =>
  (∃ (r : Option Value) (w' : WG) (I' : SI) (L' : SL), oc = .returned r ∧ exW w w' ∧ Q r w' I' L' ∧ va_P w.1 vwCl (wsO w' I' L') t.heap ∧ va_D A (wsO w' I' L')) ∧ va_F A st t
theorem QcM.ex {w w' : WG} {Q : QW} {A : Nat → Prop} (h : exW w w') : QcM w' Q A = QcM w Q A := by
  funext a st oc t
  unfold QcM
  apply propext
  constructor
  · rintro ⟨⟨r, w2, I', L', h1, h2, h3, h4, h5⟩, h6⟩
    exact ⟨⟨r, w2, I', L', h1, h.tr h2, h3, by rw [← h.1]; exact h4, h5⟩, h6⟩
  · rintro ⟨⟨r, w2, I', L', h1, h2, h3, h4, h5⟩, h6⟩
    exact ⟨⟨r, w2, I', L', h1, h.sy.tr h2, h3, by rw [h.1]; exact h4, h5⟩, h6⟩
def OkM (w : WG) (M : MD) (av : List Value) (I : SI) (L : SL) (Q : QW) (C S : Nat) : Prop := ∀ (l : Launch) (sz : Nat), Met l M.1 (wsM M) (rmM M.2.2.2.2 C S) (va_Pc av (PreO w I L sz)) (QcM w Q (va_A (wsO w I L) sz)) C S (va_A (wsO w I L) sz)
def Cy (X : CT) (w : WG) (M : MD) (Q : QW) (kc ks : Nat) : Prop := match X with
  | (p, _, _, R, s, m, args, below, meth, c, A, cells, slots, Qf) =>
    p.tables.exec = Jvm.exec ∧ c.code = M.2.1 ∧ c.maxLocals = M.2.2.1 ∧ meth.sig.returnType = M.2.2.2.1 ∧ meth.locks = false ∧ s.vm.findClass M.1.cls = some m.cls ∧ (∀ q ∈ BG, q.before args s = true) ∧ va_K w.1 vwCl (gT w) s ∧ SW w A s s.heap ∧ (∀ q : Nat, s.heap.size ≤ q → A q) ∧ (M.2.2.2.2 ≤ R.frames ∧ 40 * M.2.2.2.2 ≤ R.locals) ∧ (cells + kc ≤ R.cells ∧ slots + ks ≤ R.slots) ∧ meth.name = M.1.name ∧ Qf = MQ below (QcM w Q A) args s (cells + kc) (slots + ks) A
/-- room spent -/
def Xc (X : CT) (k n : Nat) : CT := match X with
  | (p, l, e, R, s, m, args, below, meth, c, A, cells, slots, Qf) => (p, l, e, R, s, m, args, below, meth, c, A, cells + k, slots + n, Qf)
theorem Cy.ex {X : CT} {w w' : WG} {M : MD} {Q : QW} {kc ks : Nat} (hX : Cy X w M Q kc ks) (h : exW w w') : Cy X w' M Q kc ks := by
  obtain ⟨p, l, e, R, s, m, args, below, meth, c, A, cells, slots, Qf⟩ := X
  obtain ⟨hx, hb, hml, hr, hlk, ho, hts, hK, hSW, hA, hR, hc, hs, hq⟩ := hX
  refine ⟨hx, hb, hml, hr, hlk, ho, hts, ?_, ?_, hA, hR, hc, hs, by rw [QcM.ex h]; exact hq⟩
  · rw [h.1]; unfold gT at *; rw [h.2.1]; exact hK
  · unfold SW at *; rw [h.2.2]; exact hSW
theorem Cy.spend {X : CT} {w : WG} {M : MD} {Q : QW} {kc ks k n : Nat} (hX : Cy X w M Q (k + kc) (n + ks)) : Cy (Xc X k n) w M Q kc ks := by
  obtain ⟨p, l, e, R, s, m, args, below, meth, c, A, cells, slots, Qf⟩ := X
  obtain ⟨hx, hb, hml, hr, hlk, ho, hts, hK, hSW, hA, hR, hc, hs, hq⟩ := hX
  exact ⟨hx, hb, hml, hr, hlk, ho, hts, hK, hSW, hA, hR, ⟨by rw [Nat.add_assoc]; exact hc.1, by rw [Nat.add_assoc]; exact hc.2⟩, hs, by rw [Nat.add_assoc, Nat.add_assoc]; exact hq⟩
theorem OkM.of {w : WG} {M : MD} {av : List Value} {I : SI} {L : SL} {Q : QW} {C S : Nat} (hy : plainName M.1.cls = true) (hn : (lg_sl av).length ≤ M.2.2.1) (h : ∀ X : CT, Cy X w M Q C S → G X w M I L 0 (lvO (lv_args 0 av)) []) : OkM w M av I L Q C S := by
  intro l sz
  refine Met.ofW (cc := M.2.1) (maxL := M.2.2.1) (ret := M.2.2.2.1) hy rfl ?_
  intro p e s m args below meth c s₁ B hml hv
  obtain ⟨rfl, hsz, hP, hK, hD0, hSW⟩ := hv
  have hts := atoms_spec (ws := wsM M) B.pre
  subst hsz
  have hl := lv_entry av (n := M.2.2.1) hn
  rw [lg_entry_eq]
  exact h (p, l, e, (headSpec (wsM M) (rmM M.2.2.2.2 C S)).room, s, m, av.toArray, below, meth, c, va_A (wsO w I L) s.heap.size, 0, 0, MQ below (QcM w Q (va_A (wsO w I L) s.heap.size)) av.toArray s C S (va_A (wsO w I L) s.heap.size))
    ⟨B.exec, B.bytes, hml, B.returns, B.notSynchronized, findClass_of_methodNamed B.named, fun q hq => hts q (List.mem_cons_of_mem _ hq), hK, hSW, fun q h => Or.inr h, ⟨Nat.le_refl _, Nat.le_refl _⟩, ⟨by rw [Nat.zero_add]; exact Nat.le_refl _, by rw [Nat.zero_add]; exact Nat.le_refl _⟩, (name_of_methodNamed B.named B.method).1, by rw [Nat.zero_add, Nat.zero_add]⟩
    s.heap [] _ hP hD0.self va_S.rf (hasL_of hl)
theorem h_iconst {X : CT} {w : WG} {M : MD} {Q : QW} {kc ks : Nat} {I : SI} {L : SL} {pc : Nat} {f : LV} {n : Int} {v : Int32} {st : List Value} (hX : Cy X w M Q kc ks) (hd : decode M.2.1 pc = .ok (.iconst n, 1)) (hv : Int32.ofInt n = v) (k : G X w M I L (pc + 1) (f) (.int v :: st)) : G X w M I L pc f (st) := by
  obtain ⟨p, l, e, R, s, m, args, below, meth, c, A, cells, slots, Qf⟩ := X
  obtain ⟨hx, hb, hml, hr, hlk, ho, hts, hK, hSW, hA, hR, hc, hs, hq⟩ := hX
  intro H locs ls hP hD hS hl
  exact lv_iconst hx hb hd hv (k H locs ls hP hD hS hl)
theorem h_bipush {X : CT} {w : WG} {M : MD} {Q : QW} {kc ks : Nat} {I : SI} {L : SL} {pc : Nat} {f : LV} {n : Int} {v : Int32} {st : List Value} (hX : Cy X w M Q kc ks) (hd : decode M.2.1 pc = .ok (.bipush n, 2)) (hv : (Int8.ofInt n).toInt32 = v) (k : G X w M I L (pc + 2) (f) (.int v :: st)) : G X w M I L pc f (st) := by
  obtain ⟨p, l, e, R, s, m, args, below, meth, c, A, cells, slots, Qf⟩ := X
  obtain ⟨hx, hb, hml, hr, hlk, ho, hts, hK, hSW, hA, hR, hc, hs, hq⟩ := hX
  intro H locs ls hP hD hS hl
  exact lv_bipush hx hb hd hv (k H locs ls hP hD hS hl)
theorem h_sipush {X : CT} {w : WG} {M : MD} {Q : QW} {kc ks : Nat} {I : SI} {L : SL} {pc : Nat} {f : LV} {n : Int} {v : Int32} {st : List Value} (hX : Cy X w M Q kc ks) (hd : decode M.2.1 pc = .ok (.sipush n, 3)) (hv : (Int16.ofInt n).toInt32 = v) (k : G X w M I L (pc + 3) (f) (.int v :: st)) : G X w M I L pc f (st) := by
  obtain ⟨p, l, e, R, s, m, args, below, meth, c, A, cells, slots, Qf⟩ := X
  obtain ⟨hx, hb, hml, hr, hlk, ho, hts, hK, hSW, hA, hR, hc, hs, hq⟩ := hX
  intro H locs ls hP hD hS hl
  exact lv_sipush hx hb hd hv (k H locs ls hP hD hS hl)
theorem h_lconst {X : CT} {w : WG} {M : MD} {Q : QW} {kc ks : Nat} {I : SI} {L : SL} {pc : Nat} {f : LV} {n : Fin 2} {v : Int64} {st : List Value} (hX : Cy X w M Q kc ks) (hd : decode M.2.1 pc = .ok (.lconst n, 1)) (hv : Int64.ofNat (n : Nat) = v) (k : G X w M I L (pc + 1) (f) (.long v :: st)) : G X w M I L pc f (st) := by
  obtain ⟨p, l, e, R, s, m, args, below, meth, c, A, cells, slots, Qf⟩ := X
  obtain ⟨hx, hb, hml, hr, hlk, ho, hts, hK, hSW, hA, hR, hc, hs, hq⟩ := hX
  intro H locs ls hP hD hS hl
  exact lv_lconst hx hb hd hv (k H locs ls hP hD hS hl)
theorem h_iload_n {X : CT} {w : WG} {M : MD} {Q : QW} {kc ks : Nat} {I : SI} {L : SL} {pc : Nat} {f : LV} {k : Fin 4} {i : Nat} {x : Int32} {st : List Value} (hX : Cy X w M Q kc ks) (hd : decode M.2.1 pc = .ok (.iload_n k, 1)) (hi : (k : Nat) = i) (hf : f i = some (.int x)) (kk : G X w M I L (pc + 1) (f) (.int x :: st)) : G X w M I L pc f (st) := by
  obtain ⟨p, l, e, R, s, m, args, below, meth, c, A, cells, slots, Qf⟩ := X
  obtain ⟨hx, hb, hml, hr, hlk, ho, hts, hK, hSW, hA, hR, hc, hs, hq⟩ := hX
  intro H locs ls hP hD hS hl
  exact lv_iload_n hx hb hd hi (hl.2.2 _ _ hf) (kk H locs ls hP hD hS hl)
theorem h_iload {X : CT} {w : WG} {M : MD} {Q : QW} {kc ks : Nat} {I : SI} {L : SL} {pc : Nat} {f : LV} {i : Nat} {x : Int32} {st : List Value} (hX : Cy X w M Q kc ks) (hd : decode M.2.1 pc = .ok (.iload i, 2)) (hf : f i = some (.int x)) (k : G X w M I L (pc + 2) (f) (.int x :: st)) : G X w M I L pc f (st) := by
  obtain ⟨p, l, e, R, s, m, args, below, meth, c, A, cells, slots, Qf⟩ := X
  obtain ⟨hx, hb, hml, hr, hlk, ho, hts, hK, hSW, hA, hR, hc, hs, hq⟩ := hX
  intro H locs ls hP hD hS hl
  exact lv_iload hx hb hd (hl.2.2 _ _ hf) (k H locs ls hP hD hS hl)
theorem h_aload_n {X : CT} {w : WG} {M : MD} {Q : QW} {kc ks : Nat} {I : SI} {L : SL} {pc : Nat} {f : LV} {k : Fin 4} {i : Nat} {x : Nat} {st : List Value} (hX : Cy X w M Q kc ks) (hd : decode M.2.1 pc = .ok (.aload_n k, 1)) (hi : (k : Nat) = i) (hf : f i = some (.ref x)) (kk : G X w M I L (pc + 1) (f) (.ref x :: st)) : G X w M I L pc f (st) := by
  obtain ⟨p, l, e, R, s, m, args, below, meth, c, A, cells, slots, Qf⟩ := X
  obtain ⟨hx, hb, hml, hr, hlk, ho, hts, hK, hSW, hA, hR, hc, hs, hq⟩ := hX
  intro H locs ls hP hD hS hl
  exact lv_aload_n hx hb hd hi (hl.2.2 _ _ hf) (kk H locs ls hP hD hS hl)
theorem h_aload {X : CT} {w : WG} {M : MD} {Q : QW} {kc ks : Nat} {I : SI} {L : SL} {pc : Nat} {f : LV} {i : Nat} {x : Nat} {st : List Value} (hX : Cy X w M Q kc ks) (hd : decode M.2.1 pc = .ok (.aload i, 2)) (hf : f i = some (.ref x)) (k : G X w M I L (pc + 2) (f) (.ref x :: st)) : G X w M I L pc f (st) := by
  obtain ⟨p, l, e, R, s, m, args, below, meth, c, A, cells, slots, Qf⟩ := X
  obtain ⟨hx, hb, hml, hr, hlk, ho, hts, hK, hSW, hA, hR, hc, hs, hq⟩ := hX
  intro H locs ls hP hD hS hl
  exact lv_aload hx hb hd (hl.2.2 _ _ hf) (k H locs ls hP hD hS hl)
theorem h_istore_n {X : CT} {w : WG} {M : MD} {Q : QW} {kc ks : Nat} {I : SI} {L : SL} {pc : Nat} {f : LV} {k : Fin 4} {i : Nat} {x : Int32} {st : List Value} (hX : Cy X w M Q kc ks) (hd : decode M.2.1 pc = .ok (.istore_n k, 1)) (hi : (k : Nat) = i) (hn : i < M.2.2.1) (kk : G X w M I L (pc + 1) (st1 f i (.int x)) st) : G X w M I L pc f (.int x :: st) := by
  obtain ⟨p, l, e, R, s, m, args, below, meth, c, A, cells, slots, Qf⟩ := X
  obtain ⟨hx, hb, hml, hr, hlk, ho, hts, hK, hSW, hA, hR, hc, hs, hq⟩ := hX
  intro H locs ls hP hD hS hl
  exact lv_istore_n hx hb hd hi hl.to hn rfl (fun ls' h' => kk H locs ls' hP hD hS (hl.s1 h'))
theorem h_istore {X : CT} {w : WG} {M : MD} {Q : QW} {kc ks : Nat} {I : SI} {L : SL} {pc : Nat} {f : LV} {i : Nat} {x : Int32} {st : List Value} (hX : Cy X w M Q kc ks) (hd : decode M.2.1 pc = .ok (.istore i, 2)) (hn : i < M.2.2.1) (kk : G X w M I L (pc + 2) (st1 f i (.int x)) st) : G X w M I L pc f (.int x :: st) := by
  obtain ⟨p, l, e, R, s, m, args, below, meth, c, A, cells, slots, Qf⟩ := X
  obtain ⟨hx, hb, hml, hr, hlk, ho, hts, hK, hSW, hA, hR, hc, hs, hq⟩ := hX
  intro H locs ls hP hD hS hl
  exact lv_istore hx hb hd hl.to hn rfl (fun ls' h' => kk H locs ls' hP hD hS (hl.s1 h'))
theorem h_lstore_n {X : CT} {w : WG} {M : MD} {Q : QW} {kc ks : Nat} {I : SI} {L : SL} {pc : Nat} {f : LV} {k : Fin 4} {i : Nat} {x : Int64} {st : List Value} (hX : Cy X w M Q kc ks) (hd : decode M.2.1 pc = .ok (.lstore_n k, 1)) (hi : (k : Nat) = i) (hn : i + 1 < M.2.2.1) (kk : G X w M I L (pc + 1) (st2 f i (.long x)) st) : G X w M I L pc f (.long x :: st) := by
  obtain ⟨p, l, e, R, s, m, args, below, meth, c, A, cells, slots, Qf⟩ := X
  obtain ⟨hx, hb, hml, hr, hlk, ho, hts, hK, hSW, hA, hR, hc, hs, hq⟩ := hX
  intro H locs ls hP hD hS hl
  exact lv_lstore_n hx hb hd hi hl.to hn rfl (fun ls' h' => kk H locs ls' hP hD hS (hl.s2 h'))
theorem h_astore_n {X : CT} {w : WG} {M : MD} {Q : QW} {kc ks : Nat} {I : SI} {L : SL} {pc : Nat} {f : LV} {k : Fin 4} {i : Nat} {x : Nat} {st : List Value} (hX : Cy X w M Q kc ks) (hd : decode M.2.1 pc = .ok (.astore_n k, 1)) (hi : (k : Nat) = i) (hn : i < M.2.2.1) (kk : G X w M I L (pc + 1) (st1 f i (.ref x)) st) : G X w M I L pc f (.ref x :: st) := by
  obtain ⟨p, l, e, R, s, m, args, below, meth, c, A, cells, slots, Qf⟩ := X
  obtain ⟨hx, hb, hml, hr, hlk, ho, hts, hK, hSW, hA, hR, hc, hs, hq⟩ := hX
  intro H locs ls hP hD hS hl
  exact lv_astore_n hx hb hd hi hl.to hn rfl (fun ls' h' => kk H locs ls' hP hD hS (hl.s1 h'))
theorem h_astore {X : CT} {w : WG} {M : MD} {Q : QW} {kc ks : Nat} {I : SI} {L : SL} {pc : Nat} {f : LV} {i : Nat} {x : Nat} {st : List Value} (hX : Cy X w M Q kc ks) (hd : decode M.2.1 pc = .ok (.astore i, 2)) (hn : i < M.2.2.1) (kk : G X w M I L (pc + 2) (st1 f i (.ref x)) st) : G X w M I L pc f (.ref x :: st) := by
  obtain ⟨p, l, e, R, s, m, args, below, meth, c, A, cells, slots, Qf⟩ := X
  obtain ⟨hx, hb, hml, hr, hlk, ho, hts, hK, hSW, hA, hR, hc, hs, hq⟩ := hX
  intro H locs ls hP hD hS hl
  exact lv_astore hx hb hd hl.to hn rfl (fun ls' h' => kk H locs ls' hP hD hS (hl.s1 h'))
theorem h_iinc {X : CT} {w : WG} {M : MD} {Q : QW} {kc ks : Nat} {I : SI} {L : SL} {pc : Nat} {f : LV} {i : Nat} {n : Int} {x : Int32} {st : List Value} (hX : Cy X w M Q kc ks) (hd : decode M.2.1 pc = .ok (.iinc i n, 3)) (hf : f i = some (.int x)) {d : Int32} (hv : Int32.ofInt n = d) (kk : G X w M I L (pc + 3) (st1 f i (.int (x + d))) st) : G X w M I L pc f st := by
  obtain ⟨p, l, e, R, s, m, args, below, meth, c, A, cells, slots, Qf⟩ := X
  obtain ⟨hx, hb, hml, hr, hlk, ho, hts, hK, hSW, hA, hR, hc, hs, hq⟩ := hX
  intro H locs ls hP hD hS hl
  obtain ⟨q, hq⟩ := List.getElem?_of_mem (lvL_mem.mpr ⟨hl.lt hf, hf⟩)
  subst hv
  exact lv_iinc hx hb hd hl.to hq rfl (hl.lt hf) rfl (fun ls' h' => kk H locs ls' hP hD hS (hl.s1 h'))
theorem h_iadd {X : CT} {w : WG} {M : MD} {Q : QW} {kc ks : Nat} {I : SI} {L : SL} {pc : Nat} {f : LV} {x y : Int32} {st : List Value} (hX : Cy X w M Q kc ks) (hd : decode M.2.1 pc = .ok (.iadd, 1)) (k : G X w M I L (pc + 1) (f) (.int (x + y) :: st)) : G X w M I L pc f (.int y :: .int x :: st) := by
  obtain ⟨p, l, e, R, s, m, args, below, meth, c, A, cells, slots, Qf⟩ := X
  obtain ⟨hx, hb, hml, hr, hlk, ho, hts, hK, hSW, hA, hR, hc, hs, hq⟩ := hX
  intro H locs ls hP hD hS hl
  exact lv_iadd hx hb hd (k H locs ls hP hD hS hl)
theorem h_isub {X : CT} {w : WG} {M : MD} {Q : QW} {kc ks : Nat} {I : SI} {L : SL} {pc : Nat} {f : LV} {x y : Int32} {st : List Value} (hX : Cy X w M Q kc ks) (hd : decode M.2.1 pc = .ok (.isub, 1)) (k : G X w M I L (pc + 1) (f) (.int (x - y) :: st)) : G X w M I L pc f (.int y :: .int x :: st) := by
  obtain ⟨p, l, e, R, s, m, args, below, meth, c, A, cells, slots, Qf⟩ := X
  obtain ⟨hx, hb, hml, hr, hlk, ho, hts, hK, hSW, hA, hR, hc, hs, hq⟩ := hX
  intro H locs ls hP hD hS hl
  exact lv_isub hx hb hd (k H locs ls hP hD hS hl)
theorem h_imul {X : CT} {w : WG} {M : MD} {Q : QW} {kc ks : Nat} {I : SI} {L : SL} {pc : Nat} {f : LV} {x y : Int32} {st : List Value} (hX : Cy X w M Q kc ks) (hd : decode M.2.1 pc = .ok (.imul, 1)) (k : G X w M I L (pc + 1) (f) (.int (x * y) :: st)) : G X w M I L pc f (.int y :: .int x :: st) := by
  obtain ⟨p, l, e, R, s, m, args, below, meth, c, A, cells, slots, Qf⟩ := X
  obtain ⟨hx, hb, hml, hr, hlk, ho, hts, hK, hSW, hA, hR, hc, hs, hq⟩ := hX
  intro H locs ls hP hD hS hl
  exact lv_imul hx hb hd (k H locs ls hP hD hS hl)
theorem h_dup {X : CT} {w : WG} {M : MD} {Q : QW} {kc ks : Nat} {I : SI} {L : SL} {pc : Nat} {f : LV} {a : Value} {st : List Value} (hX : Cy X w M Q kc ks) (hd : decode M.2.1 pc = .ok (.dup, 1)) (ha : a.category = 1) (k : G X w M I L (pc + 1) (f) (a :: a :: st)) : G X w M I L pc f (a :: st) := by
  obtain ⟨p, l, e, R, s, m, args, below, meth, c, A, cells, slots, Qf⟩ := X
  obtain ⟨hx, hb, hml, hr, hlk, ho, hts, hK, hSW, hA, hR, hc, hs, hq⟩ := hX
  intro H locs ls hP hD hS hl
  exact lv_dup hx hb hd ha (k H locs ls hP hD hS hl)
theorem h_pop {X : CT} {w : WG} {M : MD} {Q : QW} {kc ks : Nat} {I : SI} {L : SL} {pc : Nat} {f : LV} {a : Value} {st : List Value} (hX : Cy X w M Q kc ks) (hd : decode M.2.1 pc = .ok (.pop, 1)) (ha : a.category = 1) (k : G X w M I L (pc + 1) (f) (st)) : G X w M I L pc f (a :: st) := by
  obtain ⟨p, l, e, R, s, m, args, below, meth, c, A, cells, slots, Qf⟩ := X
  obtain ⟨hx, hb, hml, hr, hlk, ho, hts, hK, hSW, hA, hR, hc, hs, hq⟩ := hX
  intro H locs ls hP hD hS hl
  exact lv_pop hx hb hd ha (k H locs ls hP hD hS hl)
theorem h_if_eq {X : CT} {w : WG} {M : MD} {Q : QW} {kc ks : Nat} {I : SI} {L : SL} {pc : Nat} {f : LV} {x : Int32} {off : Int} {tgt : Nat} {st : List Value} (hX : Cy X w M Q kc ks) (hd : decode M.2.1 pc = .ok (.ifCond .eq off, 3)) (ht : (pc : Int) + off = (tgt : Int)) (kt : x = 0 → G X w M I L tgt f st) (kf : ¬ x = 0 → G X w M I L (pc + 3) f st) : G X w M I L pc f (.int x :: st) := by
  obtain ⟨p, l, e, R, s, m, args, below, meth, c, A, cells, slots, Qf⟩ := X
  obtain ⟨hx, hb, hml, hr, hlk, ho, hts, hK, hSW, hA, hR, hc, hs, hq⟩ := hX
  intro H locs ls hP hD hS hl
  exact lv_if_eq hx hb hd ht (fun h => kt h H locs ls hP hD hS hl) (fun h => kf h H locs ls hP hD hS hl)
theorem h_if_ne {X : CT} {w : WG} {M : MD} {Q : QW} {kc ks : Nat} {I : SI} {L : SL} {pc : Nat} {f : LV} {x : Int32} {off : Int} {tgt : Nat} {st : List Value} (hX : Cy X w M Q kc ks) (hd : decode M.2.1 pc = .ok (.ifCond .ne off, 3)) (ht : (pc : Int) + off = (tgt : Int)) (kt : ¬ x = 0 → G X w M I L tgt f st) (kf : x = 0 → G X w M I L (pc + 3) f st) : G X w M I L pc f (.int x :: st) := by
  obtain ⟨p, l, e, R, s, m, args, below, meth, c, A, cells, slots, Qf⟩ := X
  obtain ⟨hx, hb, hml, hr, hlk, ho, hts, hK, hSW, hA, hR, hc, hs, hq⟩ := hX
  intro H locs ls hP hD hS hl
  exact lv_if_ne hx hb hd ht (fun h => kt h H locs ls hP hD hS hl) (fun h => kf h H locs ls hP hD hS hl)
theorem h_if_lt {X : CT} {w : WG} {M : MD} {Q : QW} {kc ks : Nat} {I : SI} {L : SL} {pc : Nat} {f : LV} {x : Int32} {off : Int} {tgt : Nat} {st : List Value} (hX : Cy X w M Q kc ks) (hd : decode M.2.1 pc = .ok (.ifCond .lt off, 3)) (ht : (pc : Int) + off = (tgt : Int)) (kt : x < 0 → G X w M I L tgt f st) (kf : ¬ x < 0 → G X w M I L (pc + 3) f st) : G X w M I L pc f (.int x :: st) := by
  obtain ⟨p, l, e, R, s, m, args, below, meth, c, A, cells, slots, Qf⟩ := X
  obtain ⟨hx, hb, hml, hr, hlk, ho, hts, hK, hSW, hA, hR, hc, hs, hq⟩ := hX
  intro H locs ls hP hD hS hl
  exact lv_if_lt hx hb hd ht (fun h => kt h H locs ls hP hD hS hl) (fun h => kf h H locs ls hP hD hS hl)
theorem h_if_ge {X : CT} {w : WG} {M : MD} {Q : QW} {kc ks : Nat} {I : SI} {L : SL} {pc : Nat} {f : LV} {x : Int32} {off : Int} {tgt : Nat} {st : List Value} (hX : Cy X w M Q kc ks) (hd : decode M.2.1 pc = .ok (.ifCond .ge off, 3)) (ht : (pc : Int) + off = (tgt : Int)) (kt : 0 ≤ x → G X w M I L tgt f st) (kf : ¬ 0 ≤ x → G X w M I L (pc + 3) f st) : G X w M I L pc f (.int x :: st) := by
  obtain ⟨p, l, e, R, s, m, args, below, meth, c, A, cells, slots, Qf⟩ := X
  obtain ⟨hx, hb, hml, hr, hlk, ho, hts, hK, hSW, hA, hR, hc, hs, hq⟩ := hX
  intro H locs ls hP hD hS hl
  exact lv_if_ge hx hb hd ht (fun h => kt h H locs ls hP hD hS hl) (fun h => kf h H locs ls hP hD hS hl)
theorem h_icmp_eq {X : CT} {w : WG} {M : MD} {Q : QW} {kc ks : Nat} {I : SI} {L : SL} {pc : Nat} {f : LV} {x y : Int32} {off : Int} {tgt : Nat} {st : List Value} (hX : Cy X w M Q kc ks) (hd : decode M.2.1 pc = .ok (.if_icmp .eq off, 3)) (ht : (pc : Int) + off = (tgt : Int)) (kt : x = y → G X w M I L tgt f st) (kf : ¬ x = y → G X w M I L (pc + 3) f st) : G X w M I L pc f (.int y :: .int x :: st) := by
  obtain ⟨p, l, e, R, s, m, args, below, meth, c, A, cells, slots, Qf⟩ := X
  obtain ⟨hx, hb, hml, hr, hlk, ho, hts, hK, hSW, hA, hR, hc, hs, hq⟩ := hX
  intro H locs ls hP hD hS hl
  exact lv_icmp_eq hx hb hd ht (fun h => kt h H locs ls hP hD hS hl) (fun h => kf h H locs ls hP hD hS hl)
theorem h_icmp_ne {X : CT} {w : WG} {M : MD} {Q : QW} {kc ks : Nat} {I : SI} {L : SL} {pc : Nat} {f : LV} {x y : Int32} {off : Int} {tgt : Nat} {st : List Value} (hX : Cy X w M Q kc ks) (hd : decode M.2.1 pc = .ok (.if_icmp .ne off, 3)) (ht : (pc : Int) + off = (tgt : Int)) (kt : ¬ x = y → G X w M I L tgt f st) (kf : x = y → G X w M I L (pc + 3) f st) : G X w M I L pc f (.int y :: .int x :: st) := by
  obtain ⟨p, l, e, R, s, m, args, below, meth, c, A, cells, slots, Qf⟩ := X
  obtain ⟨hx, hb, hml, hr, hlk, ho, hts, hK, hSW, hA, hR, hc, hs, hq⟩ := hX
  intro H locs ls hP hD hS hl
  exact lv_icmp_ne hx hb hd ht (fun h => kt h H locs ls hP hD hS hl) (fun h => kf h H locs ls hP hD hS hl)
theorem h_icmp_lt {X : CT} {w : WG} {M : MD} {Q : QW} {kc ks : Nat} {I : SI} {L : SL} {pc : Nat} {f : LV} {x y : Int32} {off : Int} {tgt : Nat} {st : List Value} (hX : Cy X w M Q kc ks) (hd : decode M.2.1 pc = .ok (.if_icmp .lt off, 3)) (ht : (pc : Int) + off = (tgt : Int)) (kt : x < y → G X w M I L tgt f st) (kf : ¬ x < y → G X w M I L (pc + 3) f st) : G X w M I L pc f (.int y :: .int x :: st) := by
  obtain ⟨p, l, e, R, s, m, args, below, meth, c, A, cells, slots, Qf⟩ := X
  obtain ⟨hx, hb, hml, hr, hlk, ho, hts, hK, hSW, hA, hR, hc, hs, hq⟩ := hX
  intro H locs ls hP hD hS hl
  exact lv_icmp_lt hx hb hd ht (fun h => kt h H locs ls hP hD hS hl) (fun h => kf h H locs ls hP hD hS hl)
theorem h_icmp_ge {X : CT} {w : WG} {M : MD} {Q : QW} {kc ks : Nat} {I : SI} {L : SL} {pc : Nat} {f : LV} {x y : Int32} {off : Int} {tgt : Nat} {st : List Value} (hX : Cy X w M Q kc ks) (hd : decode M.2.1 pc = .ok (.if_icmp .ge off, 3)) (ht : (pc : Int) + off = (tgt : Int)) (kt : y ≤ x → G X w M I L tgt f st) (kf : ¬ y ≤ x → G X w M I L (pc + 3) f st) : G X w M I L pc f (.int y :: .int x :: st) := by
  obtain ⟨p, l, e, R, s, m, args, below, meth, c, A, cells, slots, Qf⟩ := X
  obtain ⟨hx, hb, hml, hr, hlk, ho, hts, hK, hSW, hA, hR, hc, hs, hq⟩ := hX
  intro H locs ls hP hD hS hl
  exact lv_icmp_ge hx hb hd ht (fun h => kt h H locs ls hP hD hS hl) (fun h => kf h H locs ls hP hD hS hl)
theorem h_icmp_gt {X : CT} {w : WG} {M : MD} {Q : QW} {kc ks : Nat} {I : SI} {L : SL} {pc : Nat} {f : LV} {x y : Int32} {off : Int} {tgt : Nat} {st : List Value} (hX : Cy X w M Q kc ks) (hd : decode M.2.1 pc = .ok (.if_icmp .gt off, 3)) (ht : (pc : Int) + off = (tgt : Int)) (kt : y < x → G X w M I L tgt f st) (kf : ¬ y < x → G X w M I L (pc + 3) f st) : G X w M I L pc f (.int y :: .int x :: st) := by
  obtain ⟨p, l, e, R, s, m, args, below, meth, c, A, cells, slots, Qf⟩ := X
  obtain ⟨hx, hb, hml, hr, hlk, ho, hts, hK, hSW, hA, hR, hc, hs, hq⟩ := hX
  intro H locs ls hP hD hS hl
  exact lv_icmp_gt hx hb hd ht (fun h => kt h H locs ls hP hD hS hl) (fun h => kf h H locs ls hP hD hS hl)
theorem h_icmp_le {X : CT} {w : WG} {M : MD} {Q : QW} {kc ks : Nat} {I : SI} {L : SL} {pc : Nat} {f : LV} {x y : Int32} {off : Int} {tgt : Nat} {st : List Value} (hX : Cy X w M Q kc ks) (hd : decode M.2.1 pc = .ok (.if_icmp .le off, 3)) (ht : (pc : Int) + off = (tgt : Int)) (kt : x ≤ y → G X w M I L tgt f st) (kf : ¬ x ≤ y → G X w M I L (pc + 3) f st) : G X w M I L pc f (.int y :: .int x :: st) := by
  obtain ⟨p, l, e, R, s, m, args, below, meth, c, A, cells, slots, Qf⟩ := X
  obtain ⟨hx, hb, hml, hr, hlk, ho, hts, hK, hSW, hA, hR, hc, hs, hq⟩ := hX
  intro H locs ls hP hD hS hl
  exact lv_icmp_le hx hb hd ht (fun h => kt h H locs ls hP hD hS hl) (fun h => kf h H locs ls hP hD hS hl)
theorem h_goto {X : CT} {w : WG} {M : MD} {Q : QW} {kc ks : Nat} {I : SI} {L : SL} {pc : Nat} {f : LV} {off : Int} {tgt : Nat} {st : List Value} (hX : Cy X w M Q kc ks) (hd : decode M.2.1 pc = .ok (.goto off, 3)) (ht : (pc : Int) + off = (tgt : Int)) (kk : G X w M I L tgt f st) : G X w M I L pc f st := by
  obtain ⟨p, l, e, R, s, m, args, below, meth, c, A, cells, slots, Qf⟩ := X
  obtain ⟨hx, hb, hml, hr, hlk, ho, hts, hK, hSW, hA, hR, hc, hs, hq⟩ := hX
  intro H locs ls hP hD hS hl
  exact lv_goto hx hb hd ht (kk H locs ls hP hD hS hl)
theorem h_get1I {X : CT} {w : WG} {M : MD} {Q : QW} {kc ks : Nat} {I : SI} {L : SL} {pc : Nat} {f : LV} {o n idx : Nat} {st : List Value} (hX : Cy X w M Q kc ks) (k : Nat) (hd : decode M.2.1 pc = .ok (.getfield idx, 3)) (hw : Cond.fieldLink M.1.cls idx (TX1 k).1 (TX1 k).2.1 (TX1 k).2.2.1 ∈ BG) (hk : (gK w)[o]? = some (0, n)) (hf : (ft 0)[k]? = some 0 ∧ k < 6) (kk : G X w M I L (pc + 3) f (.int (I o k) :: st)) : G X w M I L pc f (.ref (gA w o) :: st) := by
  obtain ⟨p, l, e, R, s, m, args, below, meth, c, A, cells, slots, Qf⟩ := X
  obtain ⟨hx, hb, hml, hr, hlk, ho, hts, hK, hSW, hA, hR, hc, hs, hq⟩ := hX
  intro H locs ls hP hD hS hl
  exact va_get (D := w.1) (cl := vwCl) (ci := 0) (C := RX1) (T := TX1) (N := 6) hx hb hts inB1 ho hK hP o (ob_get (by decide) hk) rfl k hf.2 (hts _ hw) (fun _ h => h) (fs_get _ _ _ hf.1) hd (kk H locs ls hP hD hS hl)
theorem h_get1R {X : CT} {w : WG} {M : MD} {Q : QW} {kc ks : Nat} {I : SI} {L : SL} {pc : Nat} {f : LV} {o n idx a : Nat} {st : List Value} (hX : Cy X w M Q kc ks) (k : Nat) (hd : decode M.2.1 pc = .ok (.getfield idx, 3)) (hw : Cond.fieldLink M.1.cls idx (TX1 k).1 (TX1 k).2.1 (TX1 k).2.2.1 ∈ BG) (hk : (gK w)[o]? = some (0, n)) (hf : (ft 0)[k]? = some 2 ∧ k < 6) (hp : gP w o k = some a) (kk : G X w M I L (pc + 3) f (.ref a :: st)) : G X w M I L pc f (.ref (gA w o) :: st) := by
  obtain ⟨p, l, e, R, s, m, args, below, meth, c, A, cells, slots, Qf⟩ := X
  obtain ⟨hx, hb, hml, hr, hlk, ho, hts, hK, hSW, hA, hR, hc, hs, hq⟩ := hX
  intro H locs ls hP hD hS hl
  refine va_get (D := w.1) (cl := vwCl) (ci := 0) (C := RX1) (T := TX1) (N := 6) (v := .ref a) hx hb hts inB1 ho hK hP o (ob_get (by decide) hk) rfl k hf.2 (hts _ hw) (fun _ h => h) ?_ hd (kk H locs ls hP hD hS hl)
  rw [fs_get _ _ _ hf.1, hp]
  rfl
theorem h_put1I {X : CT} {w : WG} {M : MD} {Q : QW} {kc ks : Nat} {I : SI} {L : SL} {pc : Nat} {f : LV} {o n idx : Nat} {x : Int32} {st : List Value} (hX : Cy X w M Q kc ks) (k : Nat) (hd : decode M.2.1 pc = .ok (.putfield idx, 3)) (hw : Cond.fieldLink M.1.cls idx (TX1 k).1 (TX1 k).2.1 (TX1 k).2.2.1 ∈ BG) (hk : (gK w)[o]? = some (0, n)) (hf : pf1 k 0 .int) (kk : G X w M (rS I o (upd (I o) k x)) L (pc + 3) f st) : G X w M I L pc f (.int x :: .ref (gA w o) :: st) := by
  obtain ⟨p, l, e, R, s, m, args, below, meth, c, A, cells, slots, Qf⟩ := X
  obtain ⟨hx, hb, hml, hr, hlk, ho, hts, hK, hSW, hA, hR, hc, hs, hq⟩ := hX
  intro H locs ls hP hD hS hl
  obtain ⟨hf0, hN, hfin, hpd⟩ := hf
  refine va_put (D := w.1) (cl := vwCl) (ci := 0) (C := RX1) (T := TX1) (N := 6) hx hb hts inB1 tyX1 tyX1_ok nmX1 ho hK hP hD hS o (ob_get (by decide) hk) rfl k hN (hts _ hw) (fun _ h => h) hfin hpd rfl rfl ?_ hd (fun H1 locs1 hP1 hD1 hS1 => kk H1 locs1 ls ?_ ?_ hS1 hl)
  · simpa using (List.getElem?_eq_some_iff.mp hf0).1
  · rw [← ob_setI (by decide) hk hf0 x]
    exact hP1
  · rw [← ob_setI (by decide) hk hf0 x]
    exact hD1
theorem h_get2I {X : CT} {w : WG} {M : MD} {Q : QW} {kc ks : Nat} {I : SI} {L : SL} {pc : Nat} {f : LV} {o n idx : Nat} {st : List Value} (hX : Cy X w M Q kc ks) (k : Nat) (hd : decode M.2.1 pc = .ok (.getfield idx, 3)) (hw : Cond.fieldLink M.1.cls idx (TX2 k).1 (TX2 k).2.1 (TX2 k).2.2.1 ∈ BG) (hk : (gK w)[o]? = some (1, n)) (hf : (ft 1)[k]? = some 0 ∧ k < 2) (kk : G X w M I L (pc + 3) f (.int (I o k) :: st)) : G X w M I L pc f (.ref (gA w o) :: st) := by
  obtain ⟨p, l, e, R, s, m, args, below, meth, c, A, cells, slots, Qf⟩ := X
  obtain ⟨hx, hb, hml, hr, hlk, ho, hts, hK, hSW, hA, hR, hc, hs, hq⟩ := hX
  intro H locs ls hP hD hS hl
  exact va_get (D := w.1) (cl := vwCl) (ci := 1) (C := RX2) (T := TX2) (N := 2) hx hb hts inB2 ho hK hP o (ob_get (by decide) hk) rfl k hf.2 (hts _ hw) (fun _ h => h) (fs_get _ _ _ hf.1) hd (kk H locs ls hP hD hS hl)
theorem h_get2R {X : CT} {w : WG} {M : MD} {Q : QW} {kc ks : Nat} {I : SI} {L : SL} {pc : Nat} {f : LV} {o n idx a : Nat} {st : List Value} (hX : Cy X w M Q kc ks) (k : Nat) (hd : decode M.2.1 pc = .ok (.getfield idx, 3)) (hw : Cond.fieldLink M.1.cls idx (TX2 k).1 (TX2 k).2.1 (TX2 k).2.2.1 ∈ BG) (hk : (gK w)[o]? = some (1, n)) (hf : (ft 1)[k]? = some 2 ∧ k < 2) (hp : gP w o k = some a) (kk : G X w M I L (pc + 3) f (.ref a :: st)) : G X w M I L pc f (.ref (gA w o) :: st) := by
  obtain ⟨p, l, e, R, s, m, args, below, meth, c, A, cells, slots, Qf⟩ := X
  obtain ⟨hx, hb, hml, hr, hlk, ho, hts, hK, hSW, hA, hR, hc, hs, hq⟩ := hX
  intro H locs ls hP hD hS hl
  refine va_get (D := w.1) (cl := vwCl) (ci := 1) (C := RX2) (T := TX2) (N := 2) (v := .ref a) hx hb hts inB2 ho hK hP o (ob_get (by decide) hk) rfl k hf.2 (hts _ hw) (fun _ h => h) ?_ hd (kk H locs ls hP hD hS hl)
  rw [fs_get _ _ _ hf.1, hp]
  rfl
theorem h_put2I {X : CT} {w : WG} {M : MD} {Q : QW} {kc ks : Nat} {I : SI} {L : SL} {pc : Nat} {f : LV} {o n idx : Nat} {x : Int32} {st : List Value} (hX : Cy X w M Q kc ks) (k : Nat) (hd : decode M.2.1 pc = .ok (.putfield idx, 3)) (hw : Cond.fieldLink M.1.cls idx (TX2 k).1 (TX2 k).2.1 (TX2 k).2.2.1 ∈ BG) (hk : (gK w)[o]? = some (1, n)) (hf : pf2 k 0 .int) (kk : G X w M (rS I o (upd (I o) k x)) L (pc + 3) f st) : G X w M I L pc f (.int x :: .ref (gA w o) :: st) := by
  obtain ⟨p, l, e, R, s, m, args, below, meth, c, A, cells, slots, Qf⟩ := X
  obtain ⟨hx, hb, hml, hr, hlk, ho, hts, hK, hSW, hA, hR, hc, hs, hq⟩ := hX
  intro H locs ls hP hD hS hl
  obtain ⟨hf0, hN, hfin, hpd⟩ := hf
  refine va_put (D := w.1) (cl := vwCl) (ci := 1) (C := RX2) (T := TX2) (N := 2) hx hb hts inB2 tyX2 tyX2_ok nmX2 ho hK hP hD hS o (ob_get (by decide) hk) rfl k hN (hts _ hw) (fun _ h => h) hfin hpd rfl rfl ?_ hd (fun H1 locs1 hP1 hD1 hS1 => kk H1 locs1 ls ?_ ?_ hS1 hl)
  · simpa using (List.getElem?_eq_some_iff.mp hf0).1
  · rw [← ob_setI (by decide) hk hf0 x]
    exact hP1
  · rw [← ob_setI (by decide) hk hf0 x]
    exact hD1
theorem h_get3I {X : CT} {w : WG} {M : MD} {Q : QW} {kc ks : Nat} {I : SI} {L : SL} {pc : Nat} {f : LV} {o n idx : Nat} {st : List Value} (hX : Cy X w M Q kc ks) (k : Nat) (hd : decode M.2.1 pc = .ok (.getfield idx, 3)) (hw : Cond.fieldLink M.1.cls idx (TX3 k).1 (TX3 k).2.1 (TX3 k).2.2.1 ∈ BG) (hk : (gK w)[o]? = some (2, n)) (hf : (ft 2)[k]? = some 0 ∧ k < 15) (kk : G X w M I L (pc + 3) f (.int (I o k) :: st)) : G X w M I L pc f (.ref (gA w o) :: st) := by
  obtain ⟨p, l, e, R, s, m, args, below, meth, c, A, cells, slots, Qf⟩ := X
  obtain ⟨hx, hb, hml, hr, hlk, ho, hts, hK, hSW, hA, hR, hc, hs, hq⟩ := hX
  intro H locs ls hP hD hS hl
  exact va_get (D := w.1) (cl := vwCl) (ci := 2) (C := RX3) (T := TX3) (N := 15) hx hb hts inB3 ho hK hP o (ob_get (by decide) hk) rfl k hf.2 (hts _ hw) (fun _ h => h) (fs_get _ _ _ hf.1) hd (kk H locs ls hP hD hS hl)
theorem h_get3R {X : CT} {w : WG} {M : MD} {Q : QW} {kc ks : Nat} {I : SI} {L : SL} {pc : Nat} {f : LV} {o n idx a : Nat} {st : List Value} (hX : Cy X w M Q kc ks) (k : Nat) (hd : decode M.2.1 pc = .ok (.getfield idx, 3)) (hw : Cond.fieldLink M.1.cls idx (TX3 k).1 (TX3 k).2.1 (TX3 k).2.2.1 ∈ BG) (hk : (gK w)[o]? = some (2, n)) (hf : (ft 2)[k]? = some 2 ∧ k < 15) (hp : gP w o k = some a) (kk : G X w M I L (pc + 3) f (.ref a :: st)) : G X w M I L pc f (.ref (gA w o) :: st) := by
  obtain ⟨p, l, e, R, s, m, args, below, meth, c, A, cells, slots, Qf⟩ := X
  obtain ⟨hx, hb, hml, hr, hlk, ho, hts, hK, hSW, hA, hR, hc, hs, hq⟩ := hX
  intro H locs ls hP hD hS hl
  refine va_get (D := w.1) (cl := vwCl) (ci := 2) (C := RX3) (T := TX3) (N := 15) (v := .ref a) hx hb hts inB3 ho hK hP o (ob_get (by decide) hk) rfl k hf.2 (hts _ hw) (fun _ h => h) ?_ hd (kk H locs ls hP hD hS hl)
  rw [fs_get _ _ _ hf.1, hp]
  rfl
theorem h_put3I {X : CT} {w : WG} {M : MD} {Q : QW} {kc ks : Nat} {I : SI} {L : SL} {pc : Nat} {f : LV} {o n idx : Nat} {x : Int32} {st : List Value} (hX : Cy X w M Q kc ks) (k : Nat) (hd : decode M.2.1 pc = .ok (.putfield idx, 3)) (hw : Cond.fieldLink M.1.cls idx (TX3 k).1 (TX3 k).2.1 (TX3 k).2.2.1 ∈ BG) (hk : (gK w)[o]? = some (2, n)) (hf : pf3 k 0 .int) (kk : G X w M (rS I o (upd (I o) k x)) L (pc + 3) f st) : G X w M I L pc f (.int x :: .ref (gA w o) :: st) := by
  obtain ⟨p, l, e, R, s, m, args, below, meth, c, A, cells, slots, Qf⟩ := X
  obtain ⟨hx, hb, hml, hr, hlk, ho, hts, hK, hSW, hA, hR, hc, hs, hq⟩ := hX
  intro H locs ls hP hD hS hl
  obtain ⟨hf0, hN, hfin, hpd⟩ := hf
  refine va_put (D := w.1) (cl := vwCl) (ci := 2) (C := RX3) (T := TX3) (N := 15) hx hb hts inB3 tyX3 tyX3_ok nmX3 ho hK hP hD hS o (ob_get (by decide) hk) rfl k hN (hts _ hw) (fun _ h => h) hfin hpd rfl rfl ?_ hd (fun H1 locs1 hP1 hD1 hS1 => kk H1 locs1 ls ?_ ?_ hS1 hl)
  · simpa using (List.getElem?_eq_some_iff.mp hf0).1
  · rw [← ob_setI (by decide) hk hf0 x]
    exact hP1
  · rw [← ob_setI (by decide) hk hf0 x]
    exact hD1
theorem h_get4I {X : CT} {w : WG} {M : MD} {Q : QW} {kc ks : Nat} {I : SI} {L : SL} {pc : Nat} {f : LV} {o n idx : Nat} {st : List Value} (hX : Cy X w M Q kc ks) (k : Nat) (hd : decode M.2.1 pc = .ok (.getfield idx, 3)) (hw : Cond.fieldLink M.1.cls idx (TX4 k).1 (TX4 k).2.1 (TX4 k).2.2.1 ∈ BG) (hk : (gK w)[o]? = some (3, n)) (hf : (ft 3)[k]? = some 0 ∧ k < 12) (kk : G X w M I L (pc + 3) f (.int (I o k) :: st)) : G X w M I L pc f (.ref (gA w o) :: st) := by
  obtain ⟨p, l, e, R, s, m, args, below, meth, c, A, cells, slots, Qf⟩ := X
  obtain ⟨hx, hb, hml, hr, hlk, ho, hts, hK, hSW, hA, hR, hc, hs, hq⟩ := hX
  intro H locs ls hP hD hS hl
  exact va_get (D := w.1) (cl := vwCl) (ci := 3) (C := RX4) (T := TX4) (N := 12) hx hb hts inB4 ho hK hP o (ob_get (by decide) hk) rfl k hf.2 (hts _ hw) (fun _ h => h) (fs_get _ _ _ hf.1) hd (kk H locs ls hP hD hS hl)
theorem h_get4R {X : CT} {w : WG} {M : MD} {Q : QW} {kc ks : Nat} {I : SI} {L : SL} {pc : Nat} {f : LV} {o n idx a : Nat} {st : List Value} (hX : Cy X w M Q kc ks) (k : Nat) (hd : decode M.2.1 pc = .ok (.getfield idx, 3)) (hw : Cond.fieldLink M.1.cls idx (TX4 k).1 (TX4 k).2.1 (TX4 k).2.2.1 ∈ BG) (hk : (gK w)[o]? = some (3, n)) (hf : (ft 3)[k]? = some 2 ∧ k < 12) (hp : gP w o k = some a) (kk : G X w M I L (pc + 3) f (.ref a :: st)) : G X w M I L pc f (.ref (gA w o) :: st) := by
  obtain ⟨p, l, e, R, s, m, args, below, meth, c, A, cells, slots, Qf⟩ := X
  obtain ⟨hx, hb, hml, hr, hlk, ho, hts, hK, hSW, hA, hR, hc, hs, hq⟩ := hX
  intro H locs ls hP hD hS hl
  refine va_get (D := w.1) (cl := vwCl) (ci := 3) (C := RX4) (T := TX4) (N := 12) (v := .ref a) hx hb hts inB4 ho hK hP o (ob_get (by decide) hk) rfl k hf.2 (hts _ hw) (fun _ h => h) ?_ hd (kk H locs ls hP hD hS hl)
  rw [fs_get _ _ _ hf.1, hp]
  rfl
theorem h_put4I {X : CT} {w : WG} {M : MD} {Q : QW} {kc ks : Nat} {I : SI} {L : SL} {pc : Nat} {f : LV} {o n idx : Nat} {x : Int32} {st : List Value} (hX : Cy X w M Q kc ks) (k : Nat) (hd : decode M.2.1 pc = .ok (.putfield idx, 3)) (hw : Cond.fieldLink M.1.cls idx (TX4 k).1 (TX4 k).2.1 (TX4 k).2.2.1 ∈ BG) (hk : (gK w)[o]? = some (3, n)) (hf : pf4 k 0 .int) (kk : G X w M (rS I o (upd (I o) k x)) L (pc + 3) f st) : G X w M I L pc f (.int x :: .ref (gA w o) :: st) := by
  obtain ⟨p, l, e, R, s, m, args, below, meth, c, A, cells, slots, Qf⟩ := X
  obtain ⟨hx, hb, hml, hr, hlk, ho, hts, hK, hSW, hA, hR, hc, hs, hq⟩ := hX
  intro H locs ls hP hD hS hl
  obtain ⟨hf0, hN, hfin, hpd⟩ := hf
  refine va_put (D := w.1) (cl := vwCl) (ci := 3) (C := RX4) (T := TX4) (N := 12) hx hb hts inB4 tyX4 tyX4_ok nmX4 ho hK hP hD hS o (ob_get (by decide) hk) rfl k hN (hts _ hw) (fun _ h => h) hfin hpd rfl rfl ?_ hd (fun H1 locs1 hP1 hD1 hS1 => kk H1 locs1 ls ?_ ?_ hS1 hl)
  · simpa using (List.getElem?_eq_some_iff.mp hf0).1
  · rw [← ob_setI (by decide) hk hf0 x]
    exact hP1
  · rw [← ob_setI (by decide) hk hf0 x]
    exact hD1
theorem h_get5I {X : CT} {w : WG} {M : MD} {Q : QW} {kc ks : Nat} {I : SI} {L : SL} {pc : Nat} {f : LV} {o n idx : Nat} {st : List Value} (hX : Cy X w M Q kc ks) (k : Nat) (hd : decode M.2.1 pc = .ok (.getfield idx, 3)) (hw : Cond.fieldLink M.1.cls idx (TX5 k).1 (TX5 k).2.1 (TX5 k).2.2.1 ∈ BG) (hk : (gK w)[o]? = some (4, n)) (hf : (ft 4)[k]? = some 0 ∧ k < 34) (kk : G X w M I L (pc + 3) f (.int (I o k) :: st)) : G X w M I L pc f (.ref (gA w o) :: st) := by
  obtain ⟨p, l, e, R, s, m, args, below, meth, c, A, cells, slots, Qf⟩ := X
  obtain ⟨hx, hb, hml, hr, hlk, ho, hts, hK, hSW, hA, hR, hc, hs, hq⟩ := hX
  intro H locs ls hP hD hS hl
  exact va_get (D := w.1) (cl := vwCl) (ci := 4) (C := RX5) (T := TX5) (N := 34) hx hb hts inB5 ho hK hP o (ob_get (by decide) hk) rfl k hf.2 (hts _ hw) (fun _ h => h) (fs_get _ _ _ hf.1) hd (kk H locs ls hP hD hS hl)
theorem h_get5L {X : CT} {w : WG} {M : MD} {Q : QW} {kc ks : Nat} {I : SI} {L : SL} {pc : Nat} {f : LV} {o n idx : Nat} {st : List Value} (hX : Cy X w M Q kc ks) (k : Nat) (hd : decode M.2.1 pc = .ok (.getfield idx, 3)) (hw : Cond.fieldLink M.1.cls idx (TX5 k).1 (TX5 k).2.1 (TX5 k).2.2.1 ∈ BG) (hk : (gK w)[o]? = some (4, n)) (hf : (ft 4)[k]? = some 1 ∧ k < 34) (kk : G X w M I L (pc + 3) f (.long (L o k) :: st)) : G X w M I L pc f (.ref (gA w o) :: st) := by
  obtain ⟨p, l, e, R, s, m, args, below, meth, c, A, cells, slots, Qf⟩ := X
  obtain ⟨hx, hb, hml, hr, hlk, ho, hts, hK, hSW, hA, hR, hc, hs, hq⟩ := hX
  intro H locs ls hP hD hS hl
  exact va_get (D := w.1) (cl := vwCl) (ci := 4) (C := RX5) (T := TX5) (N := 34) hx hb hts inB5 ho hK hP o (ob_get (by decide) hk) rfl k hf.2 (hts _ hw) (fun _ h => h) (fs_get _ _ _ hf.1) hd (kk H locs ls hP hD hS hl)
theorem h_get5R {X : CT} {w : WG} {M : MD} {Q : QW} {kc ks : Nat} {I : SI} {L : SL} {pc : Nat} {f : LV} {o n idx a : Nat} {st : List Value} (hX : Cy X w M Q kc ks) (k : Nat) (hd : decode M.2.1 pc = .ok (.getfield idx, 3)) (hw : Cond.fieldLink M.1.cls idx (TX5 k).1 (TX5 k).2.1 (TX5 k).2.2.1 ∈ BG) (hk : (gK w)[o]? = some (4, n)) (hf : (ft 4)[k]? = some 2 ∧ k < 34) (hp : gP w o k = some a) (kk : G X w M I L (pc + 3) f (.ref a :: st)) : G X w M I L pc f (.ref (gA w o) :: st) := by
  obtain ⟨p, l, e, R, s, m, args, below, meth, c, A, cells, slots, Qf⟩ := X
  obtain ⟨hx, hb, hml, hr, hlk, ho, hts, hK, hSW, hA, hR, hc, hs, hq⟩ := hX
  intro H locs ls hP hD hS hl
  refine va_get (D := w.1) (cl := vwCl) (ci := 4) (C := RX5) (T := TX5) (N := 34) (v := .ref a) hx hb hts inB5 ho hK hP o (ob_get (by decide) hk) rfl k hf.2 (hts _ hw) (fun _ h => h) ?_ hd (kk H locs ls hP hD hS hl)
  rw [fs_get _ _ _ hf.1, hp]
  rfl
theorem h_put5I {X : CT} {w : WG} {M : MD} {Q : QW} {kc ks : Nat} {I : SI} {L : SL} {pc : Nat} {f : LV} {o n idx : Nat} {x : Int32} {st : List Value} (hX : Cy X w M Q kc ks) (k : Nat) (hd : decode M.2.1 pc = .ok (.putfield idx, 3)) (hw : Cond.fieldLink M.1.cls idx (TX5 k).1 (TX5 k).2.1 (TX5 k).2.2.1 ∈ BG) (hk : (gK w)[o]? = some (4, n)) (hf : pf5 k 0 .int) (kk : G X w M (rS I o (upd (I o) k x)) L (pc + 3) f st) : G X w M I L pc f (.int x :: .ref (gA w o) :: st) := by
  obtain ⟨p, l, e, R, s, m, args, below, meth, c, A, cells, slots, Qf⟩ := X
  obtain ⟨hx, hb, hml, hr, hlk, ho, hts, hK, hSW, hA, hR, hc, hs, hq⟩ := hX
  intro H locs ls hP hD hS hl
  obtain ⟨hf0, hN, hfin, hpd⟩ := hf
  refine va_put (D := w.1) (cl := vwCl) (ci := 4) (C := RX5) (T := TX5) (N := 34) hx hb hts inB5 tyX5 tyX5_ok nmX5 ho hK hP hD hS o (ob_get (by decide) hk) rfl k hN (hts _ hw) (fun _ h => h) hfin hpd rfl rfl ?_ hd (fun H1 locs1 hP1 hD1 hS1 => kk H1 locs1 ls ?_ ?_ hS1 hl)
  · simpa using (List.getElem?_eq_some_iff.mp hf0).1
  · rw [← ob_setI (by decide) hk hf0 x]
    exact hP1
  · rw [← ob_setI (by decide) hk hf0 x]
    exact hD1
theorem h_put5L {X : CT} {w : WG} {M : MD} {Q : QW} {kc ks : Nat} {I : SI} {L : SL} {pc : Nat} {f : LV} {o n idx : Nat} {x : Int64} {st : List Value} (hX : Cy X w M Q kc ks) (k : Nat) (hd : decode M.2.1 pc = .ok (.putfield idx, 3)) (hw : Cond.fieldLink M.1.cls idx (TX5 k).1 (TX5 k).2.1 (TX5 k).2.2.1 ∈ BG) (hk : (gK w)[o]? = some (4, n)) (hf : pf5 k 1 .long) (kk : G X w M I (rS L o (vp_updL (L o) k x)) (pc + 3) f st) : G X w M I L pc f (.long x :: .ref (gA w o) :: st) := by
  obtain ⟨p, l, e, R, s, m, args, below, meth, c, A, cells, slots, Qf⟩ := X
  obtain ⟨hx, hb, hml, hr, hlk, ho, hts, hK, hSW, hA, hR, hc, hs, hq⟩ := hX
  intro H locs ls hP hD hS hl
  obtain ⟨hf0, hN, hfin, hpd⟩ := hf
  refine va_put (D := w.1) (cl := vwCl) (ci := 4) (C := RX5) (T := TX5) (N := 34) hx hb hts inB5 tyX5 tyX5_ok nmX5 ho hK hP hD hS o (ob_get (by decide) hk) rfl k hN (hts _ hw) (fun _ h => h) hfin hpd rfl rfl ?_ hd (fun H1 locs1 hP1 hD1 hS1 => kk H1 locs1 ls ?_ ?_ hS1 hl)
  · simpa using (List.getElem?_eq_some_iff.mp hf0).1
  · rw [← ob_setL (by decide) hk hf0 x]
    exact hP1
  · rw [← ob_setL (by decide) hk hf0 x]
    exact hD1
theorem h_aald {X : CT} {w : WG} {M : MD} {Q : QW} {kc ks : Nat} {I : SI} {L : SL} {pc : Nat} {f : LV} {o n : Nat} {i : Int32} {r : Option Nat} {st : List Value} (hX : Cy X w M Q kc ks) (hd : decode M.2.1 pc = .ok (.aaload, 1)) (hk : (gK w)[o]? = some (7, n)) (hin : vp_in i n) (hp : gP w o i.toNatClampNeg = r) (kk : G X w M I L (pc + 1) f (va_rf r :: st)) : G X w M I L pc f (.int i :: .ref (gA w o) :: st) := by
  obtain ⟨p, l, e, R, s, m, args, below, meth, c, A, cells, slots, Qf⟩ := X
  obtain ⟨hx, hb, hml, hr, hlk, ho, hts, hK, hSW, hA, hR, hc, hs, hq⟩ := hX
  intro H locs ls hP hD hS hl
  subst hp
  exact va_aldq hx hb hK hP o 2 (wsO_get hk) rfl hin hd (kk H locs ls hP hD hS hl)
theorem h_ifnn {X : CT} {w : WG} {M : MD} {Q : QW} {kc ks : Nat} {I : SI} {L : SL} {pc : Nat} {f : LV} {a : Nat} {off : Int} {tgt : Nat} {st : List Value} (hX : Cy X w M Q kc ks) (hd : decode M.2.1 pc = .ok (.ifnonnull off, 3)) (ht : (pc : Int) + off = (tgt : Int)) (kk : G X w M I L tgt f st) : G X w M I L pc f (.ref a :: st) := by
  obtain ⟨p, l, e, R, s, m, args, below, meth, c, A, cells, slots, Qf⟩ := X
  obtain ⟨hx, hb, hml, hr, hlk, ho, hts, hK, hSW, hA, hR, hc, hs, hq⟩ := hX
  intro H locs ls hP hD hS hl
  exact lv_ifnonnull hx hb hd ht (kk H locs ls hP hD hS hl)
theorem h_ifnnN {X : CT} {w : WG} {M : MD} {Q : QW} {kc ks : Nat} {I : SI} {L : SL} {pc : Nat} {f : LV} {off : Int} {st : List Value} (hX : Cy X w M Q kc ks) (hd : decode M.2.1 pc = .ok (.ifnonnull off, 3)) (kk : G X w M I L (pc + 3) f st) : G X w M I L pc f (.null :: st) := by
  obtain ⟨p, l, e, R, s, m, args, below, meth, c, A, cells, slots, Qf⟩ := X
  obtain ⟨hx, hb, hml, hr, hlk, ho, hts, hK, hSW, hA, hR, hc, hs, hq⟩ := hX
  intro H locs ls hP hD hS hl
  exact lv_ifnonnullN hx hb hd (kk H locs ls hP hD hS hl)
theorem h_callS {X : CT} {w : WG} {M : MD} {Q : QW} {kc ks : Nat} {I : SI} {L : SL} {pc : Nat} {f : LV} {My : MD} {idx n : Nat} {av st : List Value} {Qy : QT} (rest : List Value) (hX : Cy X w M Q kc ks) (hd : decode M.2.1 pc = .ok (.invokestatic idx, 3)) (hk : LkS M.1.cls idx My n) (hlt : My.2.2.2.2 + 1 ≤ M.2.2.2.2 ∧ My.2.2.1 ≤ 21) (hn : av.length = n) (hO : Ok w My av I L Qy) (hst : st = av.reverse ++ rest) (hW : (rest.map fun v => v.category).sum ≤ 8) (kk : ∀ (r : Option Value) (I' : SI) (L' : SL), Qy r I' L' → G X w M I' L' (pc + 3) f (r.toList ++ rest)) : G X w M I L pc f st := by
  obtain ⟨p, l, e, R, s, m, args, below, meth, c, A, cells, slots, Qf⟩ := X
  obtain ⟨hx, hb, hml, hr, hlk, ho, hts, hK, hSW, hA, hR, hc, hs, hq⟩ := hX
  intro H locs ls hP hD hS hl
  exact run_on (va_runS (p := p) (l := l) (e := e) (R := R) (below := below) (meth := meth) (locs := locs) (cells := cells) (slots := slots) (H := H) (As := av) (rest := rest) (Ts := BG) (own := M.1.cls) (nL := M.2.2.1) (cc := M.2.1) ⟨hx, hb, hml, ho, hts⟩ (hO l H.size) (va_cwS n hts hk.good rfl rfl rfl hk.2 (room_ok hR hlt)) ⟨pre_blind, fun U hU hW2 => ⟨rfl, pre_at hP hD hS hK hSW hA U hU hW2⟩⟩ rfl hn hl.1 hst (lv_room hW) hd ⟨by have := hc.1; omega, by have := hc.2; omega⟩) hD hS hA hl kk
theorem h_callV {X : CT} {w : WG} {M : MD} {Q : QW} {kc ks : Nat} {I : SI} {L : SL} {pc : Nat} {f : LV} {My : MD} {idx n o c0 n0 : Nat} {av st : List Value} {Qy : QT} (rest : List Value) (hX : Cy X w M Q kc ks) (hd : decode M.2.1 pc = .ok (.invokevirtual idx, 3)) (hk : LkV M.1.cls idx My n) (hlt : My.2.2.2.2 + 1 ≤ M.2.2.2.2 ∧ My.2.2.1 ≤ 21) (hc0 : c0 < 5) (hko : (gK w)[o]? = some (c0, n0)) (hcl : (vwCl[c0]?).map (fun q => q.1) = some My.1.cls) (hn : av.length = n) (hO : Ok w My (.ref (gA w o) :: av) I L Qy) (hst : st = av.reverse ++ .ref (gA w o) :: rest) (hW : (rest.map fun v => v.category).sum ≤ 8) (kk : ∀ (r : Option Value) (I' : SI) (L' : SL), Qy r I' L' → G X w M I' L' (pc + 3) f (r.toList ++ rest)) : G X w M I L pc f st := by
  obtain ⟨p, l, e, R, s, m, args, below, meth, c, A, cells, slots, Qf⟩ := X
  obtain ⟨hx, hb, hml, hr, hlk, ho, hts, hK, hSW, hA, hR, hc, hs, hq⟩ := hX
  intro H locs ls hP hD hS hl
  have hrec : ∃ cell : Cell, H[gA w o]? = some cell ∧ cell.vm.isStatics = false ∧ s.vm.findClass My.1.cls = some cell.cls := by
    obtain ⟨q, hq1, hq2⟩ := Option.map_eq_some_iff.mp hcl
    rw [← hq2]
    exact va_recv hK hP hq1 (ob_get hc0 hko)
  exact run_on (va_runV (p := p) (l := l) (e := e) (R := R) (below := below) (meth := meth) (locs := locs) (cells := cells) (slots := slots) (H := H) (As := av) (rest := rest) (Ts := BG) (own := M.1.cls) (C := My.1.cls) (b := gA w o) (nL := M.2.2.1) (cc := M.2.1) ⟨hx, hb, hml, ho, hts⟩ (hO l H.size) (cwV n hts hk.good rfl rfl rfl ⟨rfl, hk.2⟩ (room_ok hR hlt)) ⟨pre_blind, hrec, fun U hU hW2 => ⟨rfl, pre_at hP hD hS hK hSW hA U hU hW2⟩⟩ rfl hn hl.1 hst (lv_room hW) hd ⟨by have := hc.1; omega, by have := hc.2; omega⟩) hD hS hA hl kk
theorem h_iret {X : CT} {w : WG} {M : MD} {Q : QW} {kc ks : Nat} {I : SI} {L : SL} {pc : Nat} {f : LV} {v : Int32} (hX : Cy X w M Q kc ks) (hd : decode M.2.1 pc = .ok (.ireturn, 1)) (hr0 : M.2.2.2.1 = some .int) (hQ : Q (some (.int v)) w I L) : G X w M I L pc f [.int v] := by
  obtain ⟨p, l, e, R, s, m, args, below, meth, c, A, cells, slots, Qf⟩ := X
  obtain ⟨hx, hb, hml, hr, hlk, ho, hts, hK, hSW, hA, hR, hc, hs, hq⟩ := hX
  intro H locs ls hP hD hS hl
  subst hq
  exact W.widen (Nat.le_add_right _ _) (Nat.le_add_right _ _) (W.iret (v := v) hx hb (hr.trans hr0) (fun t ht hW => ⟨⟨_, w, I, L, rfl, exW.rf, hQ, by rw [ht]; exact hP, hD⟩, hS.F ht⟩) hS.2.2 hd hlk)
theorem h_vret {X : CT} {w : WG} {M : MD} {Q : QW} {kc ks : Nat} {I : SI} {L : SL} {pc : Nat} {f : LV} (hX : Cy X w M Q kc ks) (hd : decode M.2.1 pc = .ok (.return_, 1)) (hr0 : M.2.2.2.1 = none) (hQ : Q none w I L) : G X w M I L pc f [] := by
  obtain ⟨p, l, e, R, s, m, args, below, meth, c, A, cells, slots, Qf⟩ := X
  obtain ⟨hx, hb, hml, hr, hlk, ho, hts, hK, hSW, hA, hR, hc, hs, hq⟩ := hX
  intro H locs ls hP hD hS hl
  subst hq
  exact W.widen (Nat.le_add_right _ _) (Nat.le_add_right _ _) (W.vret hx hb (hr.trans hr0) (fun t ht hW => ⟨⟨_, w, I, L, rfl, exW.rf, hQ, by rw [ht]; exact hP, hD⟩, hS.F ht⟩) hS.2.2 hd hlk)
/-- one object more -/
def wN (w : WG) (κ : Nat × Nat) (q : Nat) : WG := (w.1, w.2.1, gK w ++ [κ], (fun o => if o = (gK w).length then q else gA w o), (fun o k => if o = (gK w).length then none else gP w o k), w.2.2.2.2.2)
theorem wN.ex {w : WG} {κ : Nat × Nat} {q : Nat} : exW w (wN w κ q) := ⟨rfl, rfl, rfl⟩
theorem gK_wN {w : WG} {κ : Nat × Nat} {q : Nat} : gK (wN w κ q) = gK w ++ [κ] := rfl
theorem gA_wN {w : WG} {κ : Nat × Nat} {q o : Nat} : gA (wN w κ q) o = if o = (gK w).length then q else gA w o := rfl
theorem gP_wN {w : WG} {κ : Nat × Nat} {q o k : Nat} : gP (wN w κ q) o k = if o = (gK w).length then none else gP w o k := rfl
/-- the rows of what is new -/
def nI0 (w : WG) (I : SI) : SI := rS I (gK w).length (fun _ => 0)
def nL0 (w : WG) (L : SL) : SL := rS L (gK w).length (fun _ => 0)
theorem wsO_wN {w : WG} {I : SI} {L : SL} {κ : Nat × Nat} {q : Nat} : wsO (wN w κ q) (nI0 w I) (nL0 w L) = wsO w I L ++ [(q, cE w κ (fun _ => 0) (fun _ => 0) (fun _ => none))] := by
  unfold wsO
  rw [gK_wN, List.mapIdx_append]
  congr 1
  · apply List.ext_getElem?
    intro k
    rw [List.getElem?_mapIdx, List.getElem?_mapIdx]
    cases h : (gK w)[k]? with
    | none => rfl
    | some κ' =>
      have hk : k ≠ (gK w).length := Nat.ne_of_lt (List.getElem?_eq_some_iff.mp h).1
      show some _ = some _
      rw [gA_wN, if_neg hk]
      unfold nI0 nL0
      rw [rS_ne _ _ _ hk, rS_ne _ _ _ hk]
      have hp : gP (wN w κ q) k = gP w k := by funext j; rw [gP_wN, if_neg hk]
      rw [hp]; rfl
  · show [_] = [_]
    have hp : gP (wN w κ q) (0 + (gK w).length) = fun _ => none := by funext j; rw [gP_wN, if_pos (Nat.zero_add _)]
    show [(gA (wN w κ q) (0 + (gK w).length), cE (wN w κ q) κ (nI0 w I (0 + (gK w).length)) (nL0 w L (0 + (gK w).length)) (gP (wN w κ q) (0 + (gK w).length)))] = [_]
    rw [gA_wN, if_pos (Nat.zero_add _), hp]
    unfold nI0 nL0
    rw [Nat.zero_add, rS_eq, rS_eq]; rfl
/-- one reference set -/
def wP (w : WG) (o k : Nat) (v : Option Nat) : WG := (w.1, w.2.1, gK w, gA w, (fun q j => if q = o ∧ j = k then v else gP w q j), w.2.2.2.2.2)
theorem wP.ex {w : WG} {o k : Nat} {v : Option Nat} : exW w (wP w o k v) := ⟨rfl, rfl, rfl⟩
theorem gP_wP {w : WG} {o k q j : Nat} {v : Option Nat} : gP (wP w o k v) q j = if q = o ∧ j = k then v else gP w q j := rfl
theorem wsO_wP {w : WG} {I : SI} {L : SL} {o k : Nat} {v : Option Nat} {κ : Nat × Nat} (h : (gK w)[o]? = some κ) : wsO (wP w o k v) I L = (wsO w I L).set o (gA w o, cE w κ (I o) (L o) (fun j => if j = k then v else gP w o j)) := by
  apply List.ext_getElem?
  intro q
  rw [List.getElem?_set]
  unfold wsO
  rw [List.getElem?_mapIdx]
  show Option.map _ ((gK w)[q]?) = _
  by_cases hq : o = q
  · subst hq
    rw [if_pos rfl, List.length_mapIdx, if_pos (List.getElem?_eq_some_iff.mp h).1, h]
    show some _ = some _
    have hp : gP (wP w o k v) o = fun j => if j = k then v else gP w o j := by funext j; rw [gP_wP]; by_cases hj : j = k <;> simp [hj]
    rw [hp]; rfl
  · rw [if_neg hq, List.getElem?_mapIdx]
    cases hz : (gK w)[q]? with
    | none => rfl
    | some κ' =>
      show some _ = some _
      have hp : gP (wP w o k v) q = gP w q := by funext j; rw [gP_wP, if_neg (fun z => hq z.1.symm)]
      rw [hp]; rfl
theorem fs_setR {c k : Nat} (i : Nat → Int32) (j : Nat → Int64) (r : Nat → Option Nat) (x : Nat) (h : (ft c)[k]? = some 2) : ((ft c).mapIdx (fun k t => fv t (i k) (j k) (r k))).set k (.ref x) = (ft c).mapIdx (fun q t => fv t (i q) (j q) (if q = k then some x else r q)) := by
  apply List.ext_getElem?
  intro q
  rw [List.getElem?_set, List.getElem?_mapIdx, List.getElem?_mapIdx]
  by_cases hq : k = q
  · subst hq
    obtain ⟨hl, he⟩ := List.getElem?_eq_some_iff.mp h
    simp [fv, hl, he, va_rf]
  · have hq2 : ¬ q = k := fun e => hq e.symm
    simp [hq, hq2]
theorem int_cA {w : WG} {s : State} {cA : ClassId} (hK : va_K w.1 vwCl (gT w) s) (h : s.vm.findClass ("[" ++ (FieldType.int).toString) = some cA) : cA = w.2.1.2.1 := by
  have h2 : s.vm.findClass ("[" ++ (FieldType.int).toString) = some w.2.1.2.1 := (hK.2 1 (w.2.1.2.1, .int) rfl).2
  exact Option.some.inj (h.symm.trans h2)
theorem byte_cA {w : WG} {s : State} {cA : ClassId} (hK : va_K w.1 vwCl (gT w) s) (h : s.vm.findClass ("[" ++ (FieldType.byte).toString) = some cA) : cA = w.2.1.1 := by
  have h2 : s.vm.findClass ("[" ++ (FieldType.byte).toString) = some w.2.1.1 := (hK.2 0 (w.2.1.1, .byte) rfl).2
  exact Option.some.inj (h.symm.trans h2)
