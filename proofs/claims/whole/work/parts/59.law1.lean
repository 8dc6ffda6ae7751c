def R_law : String := "DogsPostmanLaw"
def lw_P (b : Addr) (xs : List Int32) (args : Array Value) (s : State) : Prop := args = #[.ref b] ∧ s.IntsAt b xs ∧ xs.length ≤ 2560 ∧ (Jvm.Cond.and given_1 narrow_1).before args s = true
def lw_Q (_ : Array Value) (s : State) (o : Outcome) (t : State) : Prop := o = .returned (some (.int 1)) ∧ Framed s o t [] room_1.cells room_1.slots
def lw_Z (below : List Frame) (a : Array Value) (s : State) : State → Prop := fun t => ∃ o, t.status = .running ∧ Ended t below o ∧ lw_Q a s o t
/-- the law's own end, with 1 on the stack, nothing written that was there before, its room as the claim has it -/
theorem lw_ret {p : Program} {l : Launch} {e : Env} {s : State} {m : MethodId} {below : List Frame} {meth : Method} {c : Code} {b : Nat} (hx : p.tables.exec = Jvm.exec) (hb : c.code = code) (hr : meth.sig.returnType = ret) (hlocks : meth.locks = false) {pc : Nat} {H : Heap} {ls : Array Slot} (hdg : decode code pc = .ok (.ireturn, 1)) : W p l e room_1 s m #[Value.ref b] below meth c H [] room_1.cells room_1.slots (lw_Z below #[Value.ref b] s) (F0 m pc ls [.int 1]) := by
  intro T hT X
  obtain ⟨fs, hret, hrun, hended, hW, hframe⟩ := X.leave (v := some (.int 1)) (hlocks := hlocks) (fun h => by rw [hr] at h; cases h)
  have hmeth' : T.vm.method? m = some meth := X.method'
  refine ⟨T.setFrames fs, ?_, .returned (some (.int 1)), hrun, hended, rfl, ⟨_, rfl⟩, hW, hframe⟩
  jvm_step X.here [X.here.top, hx, hb, hdg, hmeth', hr, ret, narrow_b1]
  (try refine ⟨rfl, ?_⟩); (try refine ⟨rfl, ?_⟩)
  first | (intro acts; rw [hret _ acts rfl rfl rfl]) | rw [hret _ _ rfl rfl rfl]
  exact Steps.refl _
/-- what holds at the law's entry: the machine, the code, the tables' words (any of lw_tbl by 'hts w (by decide +kernel)'), the script of L ints xs at the cell b, what the Statement gives of the start (any of its parts by flat_of_before) -/
def lw_At (p : Program) (s : State) (m : MethodId) (meth : Method) (c : Code) (b L : Nat) (xs : Nat → Int32) : Prop :=
  p.tables.exec = Jvm.exec ∧ c.code = code ∧ meth.sig.returnType = ret ∧ c.maxLocals = 4 ∧ s.vm.findClass R_law = some m.cls ∧ (∀ w ∈ lw_tbl, w.before #[Value.ref b] s = true) ∧ va_X b L xs s s.heap ∧ b < s.heap.size ∧ meth.locks = false ∧ (Jvm.Cond.and given_1 narrow_1).before #[Value.ref b] s = true
/-! the law's walk: two worlds, the class's and the model's, apart -/
def Aa (s : State) : Nat → Prop := fun q => s.heap.size ≤ q
abbrev LT : Type := Program × Launch × Env × State × MethodId × List Frame × Method × Code × Nat × Nat × (Nat → Int32)
def DJ (X M : va_W) : Prop := ∀ (i j : Nat) (q r : Nat × va_E), X[i]? = some q → M[j]? = some r → q.1 ≠ r.1
theorem DJ.sy {X M : va_W} (h : DJ X M) : DJ M X := fun i j q r h1 h2 e => h j i r q h2 h1 e.symm
/-- what stays through the law -/
def LC (T : LT) (w0 : WG) : Prop := match T with
  | (p, _, _, s, m, _, meth, c, b, Ln, xs) => lw_At p s m meth c b Ln xs ∧ Ln ≤ 2560 ∧ va_K w0.1 vwCl (gT w0) s ∧ SW w0 (Aa s) s s.heap ∧ va_AO RX3 s
/-- a place of the law's walk -/
def GL (T : LT) (kc ks : Nat) (w : WG) (I : SI) (L : SL) (v : WG) (J : SI) (K : SL) (pc : Nat) (lv : LV) (st : List Value) : Prop := match T with
  | (p, l, e, s, m, below, meth, c, b, _, _) => ∀ (H : Heap) (locs : List Loc) (ls : Array Slot), va_P w.1 vwCl (wsO w I L) H → va_P v.1 vwCl (wsO v J K) H → va_D (Aa s) (wsO w I L) → va_D (Aa s) (wsO v J K) → DJ (wsO w I L) (wsO v J K) → va_S (Aa s) s.heap H locs → hasL ls 4 lv →
    W p l e room_1 s m #[Value.ref b] below meth c H locs kc ks (lw_Z below #[Value.ref b] s) (F0 m pc ls st)
theorem GL.sw {T : LT} {kc ks : Nat} {w : WG} {I : SI} {L : SL} {v : WG} {J : SI} {K : SL} {pc : Nat} {lv : LV} {st : List Value} (h : GL T kc ks w I L v J K pc lv st) : GL T kc ks v J K w I L pc lv st := by
  obtain ⟨p, l, e, s, m, below, meth, c, b, Ln, xs⟩ := T
  exact fun H locs ls h1 h2 h3 h4 h5 h6 h7 => h H locs ls h2 h1 h4 h3 h5.sy h6 h7
theorem GL.at {T : LT} {kc ks : Nat} {w : WG} {I : SI} {L : SL} {v : WG} {J : SI} {K : SL} {pc : Nat} {f : LV} {st : List Value} {l0 : List (Nat × Value)} (h : GL T kc ks w I L v J K pc (lvO l0) st) (hl : lvIn f l0) : GL T kc ks w I L v J K pc f st := by
  obtain ⟨p, l, e, s, m, below, meth, c, b, Ln, xs⟩ := T
  exact fun H locs ls h1 h2 h3 h4 h5 h6 h7 => h H locs ls h1 h2 h3 h4 h5 h6 (h7.mono (lvIn_ok hl))
/-- the same cells, told by other rows -/
theorem GL.ws {T : LT} {kc ks : Nat} {w : WG} {I I2 : SI} {L : SL} {v : WG} {J : SI} {K : SL} {pc : Nat} {f : LV} {st : List Value} (h : GL T kc ks w I2 L v J K pc f st) (e9 : wsO w I2 L = wsO w I L) : GL T kc ks w I L v J K pc f st := by
  obtain ⟨p, l, e, s, m, below, meth, c, b, Ln, xs⟩ := T
  unfold GL at h ⊢
  rw [e9] at h; exact h
theorem f_iconst {T : LT} {w0 : WG} {kc ks : Nat} {w : WG} {I : SI} {L : SL} {v : WG} {J : SI} {K : SL} {pc : Nat} {f : LV} {st : List Value} {n : Int} {x : Int32} (hC : LC T w0) (hd : decode cL_law pc = .ok (.iconst n, 1)) (hv : Int32.ofInt n = x) (kk : GL T kc ks w I L v J K (pc + 1) (f) (.int x :: st)) : GL T kc ks w I L v J K (pc) (f) (st) := by
  obtain ⟨p, l, e, s, m, below, meth, c, b, Ln, xs⟩ := T
  obtain ⟨⟨hx, hb, hr, hml, ho, hts, hX, hbl, hlk, hgv⟩, hLn, hK, hSW, hAO⟩ := hC
  intro H locs ls hP hP2 hD hD2 hdj hS hl
  exact lv_iconst hx hb hd hv (kk H locs ls hP hP2 hD hD2 hdj hS hl)
theorem f_bipush {T : LT} {w0 : WG} {kc ks : Nat} {w : WG} {I : SI} {L : SL} {v : WG} {J : SI} {K : SL} {pc : Nat} {f : LV} {st : List Value} {n : Int} {x : Int32} (hC : LC T w0) (hd : decode cL_law pc = .ok (.bipush n, 2)) (hv : (Int8.ofInt n).toInt32 = x) (kk : GL T kc ks w I L v J K (pc + 2) (f) (.int x :: st)) : GL T kc ks w I L v J K (pc) (f) (st) := by
  obtain ⟨p, l, e, s, m, below, meth, c, b, Ln, xs⟩ := T
  obtain ⟨⟨hx, hb, hr, hml, ho, hts, hX, hbl, hlk, hgv⟩, hLn, hK, hSW, hAO⟩ := hC
  intro H locs ls hP hP2 hD hD2 hdj hS hl
  exact lv_bipush hx hb hd hv (kk H locs ls hP hP2 hD hD2 hdj hS hl)
theorem f_iload_n {T : LT} {w0 : WG} {kc ks : Nat} {w : WG} {I : SI} {L : SL} {v : WG} {J : SI} {K : SL} {pc : Nat} {f : LV} {st : List Value} {k : Fin 4} {i : Nat} {x : Int32} (hC : LC T w0) (hd : decode cL_law pc = .ok (.iload_n k, 1)) (hi : (k : Nat) = i) (hf : f i = some (.int x)) (kk : GL T kc ks w I L v J K (pc + 1) (f) (.int x :: st)) : GL T kc ks w I L v J K (pc) (f) (st) := by
  obtain ⟨p, l, e, s, m, below, meth, c, b, Ln, xs⟩ := T
  obtain ⟨⟨hx, hb, hr, hml, ho, hts, hX, hbl, hlk, hgv⟩, hLn, hK, hSW, hAO⟩ := hC
  intro H locs ls hP hP2 hD hD2 hdj hS hl
  exact lv_iload_n hx hb hd hi (hl.2.2 _ _ hf) (kk H locs ls hP hP2 hD hD2 hdj hS hl)
theorem f_istore_n {T : LT} {w0 : WG} {kc ks : Nat} {w : WG} {I : SI} {L : SL} {v : WG} {J : SI} {K : SL} {pc : Nat} {f : LV} {st : List Value} {k : Fin 4} {i : Nat} {x : Int32} (hC : LC T w0) (hd : decode cL_law pc = .ok (.istore_n k, 1)) (hi : (k : Nat) = i) (hn : i < 4) (kk : GL T kc ks w I L v J K (pc + 1) (st1 f i (.int x)) (st)) : GL T kc ks w I L v J K (pc) (f) (.int x :: st) := by
  obtain ⟨p, l, e, s, m, below, meth, c, b, Ln, xs⟩ := T
  obtain ⟨⟨hx, hb, hr, hml, ho, hts, hX, hbl, hlk, hgv⟩, hLn, hK, hSW, hAO⟩ := hC
  intro H locs ls hP hP2 hD hD2 hdj hS hl
  exact lv_istore_n hx hb hd hi hl.to hn rfl (fun ls h' => kk H locs ls hP hP2 hD hD2 hdj hS (hl.s1 h'))
theorem f_aload_n {T : LT} {w0 : WG} {kc ks : Nat} {w : WG} {I : SI} {L : SL} {v : WG} {J : SI} {K : SL} {pc : Nat} {f : LV} {st : List Value} {k : Fin 4} {i : Nat} {x : Nat} (hC : LC T w0) (hd : decode cL_law pc = .ok (.aload_n k, 1)) (hi : (k : Nat) = i) (hf : f i = some (.ref x)) (kk : GL T kc ks w I L v J K (pc + 1) (f) (.ref x :: st)) : GL T kc ks w I L v J K (pc) (f) (st) := by
  obtain ⟨p, l, e, s, m, below, meth, c, b, Ln, xs⟩ := T
  obtain ⟨⟨hx, hb, hr, hml, ho, hts, hX, hbl, hlk, hgv⟩, hLn, hK, hSW, hAO⟩ := hC
  intro H locs ls hP hP2 hD hD2 hdj hS hl
  exact lv_aload_n hx hb hd hi (hl.2.2 _ _ hf) (kk H locs ls hP hP2 hD hD2 hdj hS hl)
theorem f_astore_n {T : LT} {w0 : WG} {kc ks : Nat} {w : WG} {I : SI} {L : SL} {v : WG} {J : SI} {K : SL} {pc : Nat} {f : LV} {st : List Value} {k : Fin 4} {i : Nat} {x : Nat} (hC : LC T w0) (hd : decode cL_law pc = .ok (.astore_n k, 1)) (hi : (k : Nat) = i) (hn : i < 4) (kk : GL T kc ks w I L v J K (pc + 1) (st1 f i (.ref x)) (st)) : GL T kc ks w I L v J K (pc) (f) (.ref x :: st) := by
  obtain ⟨p, l, e, s, m, below, meth, c, b, Ln, xs⟩ := T
  obtain ⟨⟨hx, hb, hr, hml, ho, hts, hX, hbl, hlk, hgv⟩, hLn, hK, hSW, hAO⟩ := hC
  intro H locs ls hP hP2 hD hD2 hdj hS hl
  exact lv_astore_n hx hb hd hi hl.to hn rfl (fun ls h' => kk H locs ls hP hP2 hD hD2 hdj hS (hl.s1 h'))
theorem f_iinc {T : LT} {w0 : WG} {kc ks : Nat} {w : WG} {I : SI} {L : SL} {v : WG} {J : SI} {K : SL} {pc : Nat} {f : LV} {st : List Value} {i : Nat} {n : Int} {x d : Int32} (hC : LC T w0) (hd : decode cL_law pc = .ok (.iinc i n, 3)) (hf : f i = some (.int x)) (hv : Int32.ofInt n = d) (kk : GL T kc ks w I L v J K (pc + 3) (st1 f i (.int (x + d))) (st)) : GL T kc ks w I L v J K (pc) (f) (st) := by
  obtain ⟨p, l, e, s, m, below, meth, c, b, Ln, xs⟩ := T
  obtain ⟨⟨hx, hb, hr, hml, ho, hts, hX, hbl, hlk, hgv⟩, hLn, hK, hSW, hAO⟩ := hC
  intro H locs ls hP hP2 hD hD2 hdj hS hl
  obtain ⟨q, hq⟩ := List.getElem?_of_mem (lvL_mem.mpr ⟨hl.lt hf, hf⟩)
  subst hv
  exact lv_iinc hx hb hd hl.to hq rfl (hl.lt hf) rfl (fun ls h' => kk H locs ls hP hP2 hD hD2 hdj hS (hl.s1 h'))
theorem f_iadd {T : LT} {w0 : WG} {kc ks : Nat} {w : WG} {I : SI} {L : SL} {v : WG} {J : SI} {K : SL} {pc : Nat} {f : LV} {st : List Value} {x y : Int32} (hC : LC T w0) (hd : decode cL_law pc = .ok (.iadd, 1)) (kk : GL T kc ks w I L v J K (pc + 1) (f) (.int (x + y) :: st)) : GL T kc ks w I L v J K (pc) (f) (.int y :: .int x :: st) := by
  obtain ⟨p, l, e, s, m, below, meth, c, b, Ln, xs⟩ := T
  obtain ⟨⟨hx, hb, hr, hml, ho, hts, hX, hbl, hlk, hgv⟩, hLn, hK, hSW, hAO⟩ := hC
  intro H locs ls hP hP2 hD hD2 hdj hS hl
  exact lv_iadd hx hb hd (kk H locs ls hP hP2 hD hD2 hdj hS hl)
theorem f_isub {T : LT} {w0 : WG} {kc ks : Nat} {w : WG} {I : SI} {L : SL} {v : WG} {J : SI} {K : SL} {pc : Nat} {f : LV} {st : List Value} {x y : Int32} (hC : LC T w0) (hd : decode cL_law pc = .ok (.isub, 1)) (kk : GL T kc ks w I L v J K (pc + 1) (f) (.int (x - y) :: st)) : GL T kc ks w I L v J K (pc) (f) (.int y :: .int x :: st) := by
  obtain ⟨p, l, e, s, m, below, meth, c, b, Ln, xs⟩ := T
  obtain ⟨⟨hx, hb, hr, hml, ho, hts, hX, hbl, hlk, hgv⟩, hLn, hK, hSW, hAO⟩ := hC
  intro H locs ls hP hP2 hD hD2 hdj hS hl
  exact lv_isub hx hb hd (kk H locs ls hP hP2 hD hD2 hdj hS hl)
theorem f_iand {T : LT} {w0 : WG} {kc ks : Nat} {w : WG} {I : SI} {L : SL} {v : WG} {J : SI} {K : SL} {pc : Nat} {f : LV} {st : List Value} {x y : Int32} (hC : LC T w0) (hd : decode cL_law pc = .ok (.iand, 1)) (kk : GL T kc ks w I L v J K (pc + 1) (f) (.int (x &&& y) :: st)) : GL T kc ks w I L v J K (pc) (f) (.int y :: .int x :: st) := by
  obtain ⟨p, l, e, s, m, below, meth, c, b, Ln, xs⟩ := T
  obtain ⟨⟨hx, hb, hr, hml, ho, hts, hX, hbl, hlk, hgv⟩, hLn, hK, hSW, hAO⟩ := hC
  intro H locs ls hP hP2 hD hD2 hdj hS hl
  exact lv_iand hx hb hd (kk H locs ls hP hP2 hD hD2 hdj hS hl)
theorem f_lcmp {T : LT} {w0 : WG} {kc ks : Nat} {w : WG} {I : SI} {L : SL} {v : WG} {J : SI} {K : SL} {pc : Nat} {f : LV} {st : List Value} {x y : Int64} (hC : LC T w0) (hd : decode cL_law pc = .ok (.lcmp, 1)) (kk : GL T kc ks w I L v J K (pc + 1) (f) (.int (lg_cmp x y) :: st)) : GL T kc ks w I L v J K (pc) (f) (.long y :: .long x :: st) := by
  obtain ⟨p, l, e, s, m, below, meth, c, b, Ln, xs⟩ := T
  obtain ⟨⟨hx, hb, hr, hml, ho, hts, hX, hbl, hlk, hgv⟩, hLn, hK, hSW, hAO⟩ := hC
  intro H locs ls hP hP2 hD hD2 hdj hS hl
  exact W.lcmp hx hb hd (kk H locs ls hP hP2 hD hD2 hdj hS hl)
theorem f_dup {T : LT} {w0 : WG} {kc ks : Nat} {w : WG} {I : SI} {L : SL} {v : WG} {J : SI} {K : SL} {pc : Nat} {f : LV} {st : List Value} {a : Value} (hC : LC T w0) (hd : decode cL_law pc = .ok (.dup, 1)) (ha : a.category = 1) (kk : GL T kc ks w I L v J K (pc + 1) (f) (a :: a :: st)) : GL T kc ks w I L v J K (pc) (f) (a :: st) := by
  obtain ⟨p, l, e, s, m, below, meth, c, b, Ln, xs⟩ := T
  obtain ⟨⟨hx, hb, hr, hml, ho, hts, hX, hbl, hlk, hgv⟩, hLn, hK, hSW, hAO⟩ := hC
  intro H locs ls hP hP2 hD hD2 hdj hS hl
  exact lv_dup hx hb hd ha (kk H locs ls hP hP2 hD hD2 hdj hS hl)
theorem f_goto {T : LT} {w0 : WG} {kc ks : Nat} {w : WG} {I : SI} {L : SL} {v : WG} {J : SI} {K : SL} {pc : Nat} {f : LV} {st : List Value} {off : Int} {tgt : Nat} (hC : LC T w0) (hd : decode cL_law pc = .ok (.goto off, 3)) (ht : (pc : Int) + off = (tgt : Int)) (kk : GL T kc ks w I L v J K (tgt) (f) (st)) : GL T kc ks w I L v J K (pc) (f) (st) := by
  obtain ⟨p, l, e, s, m, below, meth, c, b, Ln, xs⟩ := T
  obtain ⟨⟨hx, hb, hr, hml, ho, hts, hX, hbl, hlk, hgv⟩, hLn, hK, hSW, hAO⟩ := hC
  intro H locs ls hP hP2 hD hD2 hdj hS hl
  exact lv_goto hx hb hd ht (kk H locs ls hP hP2 hD hD2 hdj hS hl)
theorem f_icmp_eq {T : LT} {w0 : WG} {kc ks : Nat} {w : WG} {I : SI} {L : SL} {v : WG} {J : SI} {K : SL} {pc : Nat} {f : LV} {st : List Value} {x : Int32} {off : Int} {tgt : Nat} (hC : LC T w0) (hd : decode cL_law pc = .ok (.if_icmp .eq off, 3)) (ht : (pc : Int) + off = (tgt : Int)) (kk : GL T kc ks w I L v J K (tgt) (f) (st)) : GL T kc ks w I L v J K (pc) (f) (.int x :: .int x :: st) := by
  obtain ⟨p, l, e, s, m, below, meth, c, b, Ln, xs⟩ := T
  obtain ⟨⟨hx, hb, hr, hml, ho, hts, hX, hbl, hlk, hgv⟩, hLn, hK, hSW, hAO⟩ := hC
  intro H locs ls hP hP2 hD hD2 hdj hS hl
  exact lv_icmp_eq hx hb hd ht (fun _ => kk H locs ls hP hP2 hD hD2 hdj hS hl) (fun z => absurd rfl z)
theorem f_if_eq0 {T : LT} {w0 : WG} {kc ks : Nat} {w : WG} {I : SI} {L : SL} {v : WG} {J : SI} {K : SL} {pc : Nat} {f : LV} {st : List Value} {off : Int} {tgt : Nat} {x : Int32} (hC : LC T w0) (hd : decode cL_law pc = .ok (.ifCond .eq off, 3)) (ht : (pc : Int) + off = (tgt : Int)) (h0 : x = 0) (kk : GL T kc ks w I L v J K (tgt) (f) (st)) : GL T kc ks w I L v J K (pc) (f) (.int x :: st) := by
  obtain ⟨p, l, e, s, m, below, meth, c, b, Ln, xs⟩ := T
  obtain ⟨⟨hx, hb, hr, hml, ho, hts, hX, hbl, hlk, hgv⟩, hLn, hK, hSW, hAO⟩ := hC
  intro H locs ls hP hP2 hD hD2 hdj hS hl
  exact lv_if_eq hx hb hd ht (fun _ => kk H locs ls hP hP2 hD hD2 hdj hS hl) (fun z => absurd h0 z)
theorem f_icmp_gt {T : LT} {w0 : WG} {kc ks : Nat} {w : WG} {I : SI} {L : SL} {v : WG} {J : SI} {K : SL} {pc : Nat} {f : LV} {st : List Value} {x y : Int32} {off : Int} {tgt : Nat} (hC : LC T w0) (hd : decode cL_law pc = .ok (.if_icmp .gt off, 3)) (ht : (pc : Int) + off = (tgt : Int)) (kt : y < x → GL T kc ks w I L v J K (tgt) (f) (st)) (kf : ¬ y < x → GL T kc ks w I L v J K (pc + 3) (f) (st)) : GL T kc ks w I L v J K (pc) (f) (.int y :: .int x :: st) := by
  obtain ⟨p, l, e, s, m, below, meth, c, b, Ln, xs⟩ := T
  obtain ⟨⟨hx, hb, hr, hml, ho, hts, hX, hbl, hlk, hgv⟩, hLn, hK, hSW, hAO⟩ := hC
  intro H locs ls hP hP2 hD hD2 hdj hS hl
  exact lv_icmp_gt hx hb hd ht (fun h => kt h H locs ls hP hP2 hD hD2 hdj hS hl) (fun h => kf h H locs ls hP hP2 hD hD2 hdj hS hl)
theorem f_tabIn {T : LT} {w0 : WG} {kc ks : Nat} {w : WG} {I : SI} {L : SL} {v : WG} {J : SI} {K : SL} {pc : Nat} {f : LV} {st : List Value} {dflt lo hi : Int} {offs : Array Int} {len : Nat} {x : Int32} {off : Int} {tgt : Nat} (hC : LC T w0) (hd : decode cL_law pc = .ok (.tableswitch dflt lo hi offs, len)) (h1 : ¬ x.toInt < lo) (h2 : ¬ hi < x.toInt) (ho2 : offs[(x.toInt - lo).toNat]? = some off) (ht : (pc : Int) + off = (tgt : Int)) (kk : GL T kc ks w I L v J K (tgt) (f) (st)) : GL T kc ks w I L v J K (pc) (f) (.int x :: st) := by
  obtain ⟨p, l, e, s, m, below, meth, c, b, Ln, xs⟩ := T
  obtain ⟨⟨hx, hb, hr, hml, ho, hts, hX, hbl, hlk, hgv⟩, hLn, hK, hSW, hAO⟩ := hC
  intro H locs ls hP hP2 hD hD2 hdj hS hl
  exact lv_tableIn hx hb hd h1 h2 ho2 ht (kk H locs ls hP hP2 hD hD2 hdj hS hl)
theorem f_slen {T : LT} {w0 : WG} {kc ks : Nat} {w : WG} {I : SI} {L : SL} {v : WG} {J : SI} {K : SL} {pc : Nat} {f : LV} {st : List Value} {p : Program} {l : Launch} {e : Env} {s : State} {m : MethodId} {below : List Frame} {meth : Method} {c : Code} {b Ln : Nat} {xs : Nat → Int32} (hT : T = (p, l, e, s, m, below, meth, c, b, Ln, xs)) (hC : LC T w0) (hd : decode cL_law pc = .ok (.arraylength, 1)) (kk : GL T kc ks w I L v J K (pc + 1) (f) (.int (nI Ln) :: st)) : GL T kc ks w I L v J K (pc) (f) (.ref b :: st) := by
  subst hT
  obtain ⟨⟨hx, hb, hr, hml, ho, hts, hX, hbl, hlk, hgv⟩, hLn, hK, hSW, hAO⟩ := hC
  intro H locs ls hP hP2 hD hD2 hdj hS hl
  exact va_slen hx hb hX hbl (Nat.not_le.mpr hbl) hS hd (kk H locs ls hP hP2 hD hD2 hdj hS hl)
theorem f_sld {T : LT} {w0 : WG} {kc ks : Nat} {w : WG} {I : SI} {L : SL} {v : WG} {J : SI} {K : SL} {pc : Nat} {f : LV} {st : List Value} {p : Program} {l : Launch} {e : Env} {s : State} {m : MethodId} {below : List Frame} {meth : Method} {c : Code} {b Ln : Nat} {xs : Nat → Int32} {x : Int32} {i : Nat} (hT : T = (p, l, e, s, m, below, meth, c, b, Ln, xs)) (hC : LC T w0) (hd : decode cL_law pc = .ok (.iaload, 1)) (hi : x = nI i ∧ i < Ln) (kk : GL T kc ks w I L v J K (pc + 1) (f) (.int (xs i) :: st)) : GL T kc ks w I L v J K (pc) (f) (.int x :: .ref b :: st) := by
  subst hT
  obtain ⟨⟨hx, hb, hr, hml, ho, hts, hX, hbl, hlk, hgv⟩, hLn, hK, hSW, hAO⟩ := hC
  obtain ⟨rfl, hi⟩ := hi
  intro H locs ls hP hP2 hD hD2 hdj hS hl
  refine va_sld hx hb hX hbl (Nat.not_le.mpr hbl) hS (vp_in_nI hi (by omega)) hd ?_
  rw [nI_clamp (by omega)]
  exact kk H locs ls hP hP2 hD hD2 hdj hS hl
/-- the law's end -/
theorem f_end {T : LT} {w0 : WG} {kc ks : Nat} {w : WG} {I : SI} {L : SL} {v : WG} {J : SI} {K : SL} {pc : Nat} {f : LV} {st : List Value} (hC : LC T w0) (hd : decode cL_law pc = .ok (.ireturn, 1)) (hr9 : kc ≤ room_1.cells ∧ ks ≤ room_1.slots) : GL T kc ks w I L v J K (pc) (f) ([.int 1]) := by
  obtain ⟨p, l, e, s, m, below, meth, c, b, Ln, xs⟩ := T
  obtain ⟨⟨hx, hb, hr, hml, ho, hts, hX, hbl, hlk, hgv⟩, hLn, hK, hSW, hAO⟩ := hC
  intro H locs ls hP hP2 hD hD2 hdj hS hl
  refine va_forget (fun q hq => hS.2.2 q hq) ?_
  refine W.widen hr9.1 hr9.2 ?_
  exact lw_ret hx hb hr hlk hd
theorem pre_blindA {w : WG} {av : List Value} {I : SI} {L : SL} {sz : Nat} : FrameBlind (va_Pc av (fun U => PreO w I L sz U ∧ va_AO RX3 U)) := by
  intro a U g mk q
  obtain ⟨q0, ⟨q1, qP, qK, qD, qS⟩, qA⟩ := q
  exact ⟨q0, ⟨q1, qP, va_K.moved (u := U) (U := U.calling g mk a) (Vm.Alike.refl U.vm) qK, qD, SW.same (u := U) rfl qS⟩, va_AO.moved (u := U) (U := U.calling g mk a) (Vm.Alike.refl U.vm) qA⟩
/-- the other world, behind a call -/
theorem lw_keep {s : State} {D : va_G} {X M X1 : va_W} {H H1 : Heap} (hP2 : va_P D vwCl M H) (hdj : DJ X M) (hk : ∀ q : Nat, q < H.size → ¬ va_A X H.size q → H1[q]? = H[q]?) (hD1 : va_D (va_A X H.size) X1) : va_P D vwCl M H1 ∧ DJ X1 M := by
  have hno : ∀ (j : Nat) (r : Nat × va_E), M[j]? = some r → r.1 < H.size ∧ ¬ va_A X H.size r.1 := fun j r hr => by
    have hlt := (hP2 j r hr).lt
    refine ⟨hlt, fun h => ?_⟩
    rcases h with ⟨k, e, h⟩ | h
    · exact hdj k j _ r h hr rfl
    · omega
  refine ⟨hP2.kept (fun k x hx => hk _ (hno k x hx).1 (hno k x hx).2), fun i j q r hq hr e => ?_⟩
  have := hD1.2 i q hq
  rw [e] at this
  exact (hno j r hr).2 this
theorem OkM.ofOk {w : WG} {M : MD} {av : List Value} {I : SI} {L : SL} {Q : QT} (h : Ok w M av I L Q) : OkM w M av I L (fun r w' I' L' => w' = w ∧ Q r I' L') 0 0 := by
  intro l sz p e ha hc hk s m args below hf happ hP hK
  obtain ⟨k, o, h1, h2, h3, ⟨⟨r, I', L', q1, q2, q3, q4⟩, q5⟩, q6⟩ := h l sz p e ha hc hk s m args below hf happ hP hK
  exact ⟨k, o, h1, h2, h3, ⟨⟨r, w, I', L', q1, exW.rf, ⟨rfl, q2⟩, q3, q4⟩, q5⟩, q6⟩
theorem lw_on {T : LT} {kc ks : Nat} {w : WG} {I : SI} {L : SL} {v : WG} {J : SI} {K : SL} {pc : Nat} {f : LV} {st : List Value} {p : Program} {l : Launch} {e : Env} {s : State} {m : MethodId} {below : List Frame} {meth : Method} {c : Code} {b Ln : Nat} {xs : Nat → Int32} {C1 S1 : Nat} {rest : List Value} {Qy : QW} {aa : Array Value} {H : Heap} {locs : List Loc} {ls : Array Slot} (hT : T = (p, l, e, s, m, below, meth, c, b, Ln, xs))
    (hr : va_Run p l e room_1 s m #[Value.ref b] below meth c H locs kc ks C1 S1 (F0 m pc ls st) rest (QcM w Qy (va_A (wsO w I L) H.size) aa) (va_A (wsO w I L) H.size)) (hP2 : va_P v.1 vwCl (wsO v J K) H) (hD : va_D (Aa s) (wsO w I L)) (hD2 : va_D (Aa s) (wsO v J K)) (hdj : DJ (wsO w I L) (wsO v J K)) (hS : va_S (Aa s) s.heap H locs) (hl : hasL ls 4 f)
    (kk : ∀ (r : Option Value) (w' : WG) (I' : SI) (L' : SL), exW w w' → Qy r w' I' L' → GL T (kc + C1) (ks + S1) w' I' L' v J K (pc + 3) f (r.toList ++ rest)) : W p l e room_1 s m #[Value.ref b] below meth c H locs kc ks (lw_Z below #[Value.ref b] s) (F0 m pc ls st) := by
  subst hT
  have hF : ∀ q, va_A (wsO w I L) H.size q → Aa s q := fun q h => by
    rcases h with ⟨k, e, h⟩ | h
    · exact hD.2 k (q, e) h
    · exact Nat.le_trans hS.1 h
  intro T hT X0
  obtain ⟨v0, st₀, t, T', Ls, h0, X', hL, e1, e2, ⟨⟨r, w', I', L', hv, hex, hQ, hP1, hD1⟩, hz, hk1⟩, stp⟩ := hr T hT X0
  cases hv
  rw [h0] at hz hk1
  obtain ⟨g1, g2⟩ := lw_keep (s := s) (X := wsO w I L) (M := wsO v J K) (H := H) (H1 := t.heap) hP2 hdj hk1 hD1
  obtain ⟨t2, a1, b1⟩ := kk v0 w' I' L' hex hQ T'.heap (locs ++ Ls) ls (by rw [e1, hex.1]; exact hP1) (by rw [e1]; exact g1) (hD1.weaken (fun _ q _ h => hF q.1 h)) hD2 g2
    ⟨Nat.le_trans hS.1 (by rw [e1]; exact hz), fun q h1 h2 => by rw [e1, hk1 q (Nat.lt_of_lt_of_le h1 hS.1) (fun z => h2 (hF q z))]; exact hS.2.1 q h1 h2, fun q hq => by
      rcases List.mem_append.mp hq with h | h
      · exact hS.2.2 q h
      · exact hF _ (hL q h)⟩ hl T' rfl X'
  exact ⟨t2, stp t2 a1, b1⟩
theorem lw_rm {My : MD} {C S : Nat} (hlt : My.2.2.2.2 ≤ 8 ∧ My.2.2.1 ≤ 21) : (rmM My.2.2.2.2 C S).frames + 1 ≤ room_1.frames ∧ 8 + (My.2.2.1 + 11) + (rmM My.2.2.2.2 C S).locals ≤ room_1.locals := by
  constructor
  · show My.2.2.2.2 + 1 ≤ 11; omega
  · show 8 + (My.2.2.1 + 11) + 40 * My.2.2.2.2 ≤ 384; omega
theorem LC.ex {T : LT} {w0 w : WG} (h : LC T w0) (he : exW w0 w) : LC T w := by
  obtain ⟨p, l, e, s, m, below, meth, c, b, Ln, xs⟩ := T
  obtain ⟨h1, h2, h3, h4, h5⟩ := h
  refine ⟨h1, h2, ?_, ?_, h5⟩
  · rw [he.1]; unfold gT at *; rw [he.2.1]; exact h3
  · unfold SW at *; rw [he.2.2]; exact h4
theorem f_call {T : LT} {kc ks : Nat} {w : WG} {I : SI} {L : SL} {v : WG} {J : SI} {K : SL} {pc : Nat} {f : LV} {st : List Value} {My : MD} {idx n c0 n0 C1 S1 : Nat} {av : List Value} {Qy : QW} (rest : List Value) (hC : LC T w) (hd : decode cL_law pc = .ok (.invokevirtual idx, 3)) (hk : LkV RL idx My n) (hlt : My.2.2.2.2 ≤ 8 ∧ My.2.2.1 ≤ 21) (hc0 : c0 < 5) (hko : (gK w)[0]? = some (c0, n0)) (hcl : (vwCl[c0]?).map (fun q => q.1) = some My.1.cls) (hn : av.length = n) (hO : OkM w My (.ref (gA w 0) :: av) I L Qy C1 S1) (hroom : kc + C1 ≤ room_1.cells ∧ ks + S1 ≤ room_1.slots) (hst : st = av.reverse ++ .ref (gA w 0) :: rest) (hW : (rest.map fun v => v.category).sum ≤ 8) (kk : ∀ (r : Option Value) (w' : WG) (I' : SI) (L' : SL), exW w w' → Qy r w' I' L' → GL T (kc + C1) (ks + S1) w' I' L' v J K (pc + 3) f (r.toList ++ rest)) : GL T kc ks w I L v J K (pc) (f) (st) := by
  obtain ⟨p, l, e, s, m, below, meth, c, b, Ln, xs⟩ := T
  obtain ⟨⟨hx, hb, hr, hml, ho, hts, hX, hbl, hlk, hgv⟩, hLn, hK, hSW, hAO⟩ := hC
  intro H locs ls hP hP2 hD hD2 hdj hS hl
  have hrec : ∃ cell : Cell, H[gA w 0]? = some cell ∧ cell.vm.isStatics = false ∧ s.vm.findClass My.1.cls = some cell.cls := by
    obtain ⟨q, hq1, hq2⟩ := Option.map_eq_some_iff.mp hcl
    rw [← hq2]
    exact va_recv hK hP hq1 (ob_get hc0 hko)
  have hts' : ∀ q ∈ BG, q.before #[Value.ref b] s = true := fun q hq => hts q (bg_in hq)
  exact lw_on rfl (va_runV (p := p) (l := l) (e := e) (R := room_1) (below := below) (meth := meth) (locs := locs) (cells := kc) (slots := ks) (H := H) (As := av) (rest := rest) (Ts := BG) (own := RL) (C := My.1.cls) (b := gA w 0) (nL := 4) (cc := cL_law) ⟨hx, hb, hml, ho, hts'⟩ (hO l H.size) (cwV n hts' hk.good rfl rfl rfl ⟨rfl, hk.2⟩ (lw_rm hlt)) ⟨pre_blind, hrec, fun U hU hW2 => ⟨rfl, pre_at hP hD hS hK hSW (fun _ h => h) U hU hW2⟩⟩ rfl hn hl.1 hst (lv_room hW) hd hroom) hP2 hD hD2 hdj hS hl kk
theorem f_callI {T : LT} {kc ks : Nat} {w : WG} {I : SI} {L : SL} {v : WG} {J : SI} {K : SL} {pc : Nat} {f : LV} {st : List Value} {My : MD} {idx n a C1 S1 : Nat} {av : List Value} {Qy : QW} (rest : List Value) (hC : LC T w) (hd : decode cL_law pc = .ok (.invokespecial idx, 3)) (hk : LkI RL idx My n) (hlt : My.2.2.2.2 ≤ 8 ∧ My.2.2.1 ≤ 21) (hn : av.length = n) (hO : OkA w My (.ref a :: av) I L Qy C1 S1) (hroom : kc + C1 ≤ room_1.cells ∧ ks + S1 ≤ room_1.slots) (hst : st = av.reverse ++ .ref a :: rest) (hW : (rest.map fun v => v.category).sum ≤ 8) (kk : ∀ (r : Option Value) (w' : WG) (I' : SI) (L' : SL), exW w w' → Qy r w' I' L' → GL T (kc + C1) (ks + S1) w' I' L' v J K (pc + 3) f (r.toList ++ rest)) : GL T kc ks w I L v J K (pc) (f) (st) := by
  obtain ⟨p, l, e, s, m, below, meth, c, b, Ln, xs⟩ := T
  obtain ⟨⟨hx, hb, hr, hml, ho, hts, hX, hbl, hlk, hgv⟩, hLn, hK, hSW, hAO⟩ := hC
  intro H locs ls hP hP2 hD hD2 hdj hS hl
  obtain ⟨⟨k1, k2, k3, k4⟩, k5, k6, k7, k8, k9⟩ := hk
  have hG : GoodIn BG (wsM My) := good_bg (fun q hq => by
    rcases List.mem_cons.mp hq with rfl | hq
    · exact k4
    · exact hq)
  have hts' : ∀ q ∈ BG, q.before #[Value.ref b] s = true := fun q hq => hts q (bg_in hq)
  exact lw_on rfl (va_runI (p := p) (l := l) (e := e) (R := room_1) (below := below) (meth := meth) (locs := locs) (cells := kc) (slots := ks) (H := H) (As := av) (rest := rest) (Ts := BG) (own := RL) (b := a) (nL := 4) (cc := cL_law) (bytes := My.2.1) (maxL := My.2.2.1) ⟨hx, hb, hml, ho, hts'⟩ (hO l H.size) (cwI n hts' hG (by unfold wsM; rw [k6]) rfl rfl (hts' _ k3) (hts' _ k1) (hts' _ k2) k5 ⟨k7, k8, k9⟩ (lw_rm hlt)) ⟨pre_blindA, fun U hU hW2 => ⟨rfl, pre_at hP hD hS hK hSW (fun _ h => h) U hU hW2, va_AO.moved hW2.alike hAO⟩⟩ rfl hn hl.1 hst (lv_room hW) hd hroom) hP2 hD hD2 hdj hS hl kk
theorem OkA.ofM {w : WG} {M : MD} {av : List Value} {I : SI} {L : SL} {Q : QW} {C S : Nat} (h : OkM w M av I L Q C S) : OkA w M av I L Q C S := by
  intro l sz p e ha hc hk s m args below hf happ hP hK
  exact h l sz p e ha hc hk s m args below hf happ ⟨hP.1, hP.2.1⟩ hK
