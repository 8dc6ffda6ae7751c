/-! THE FRAME: an abstract store (objects by their numbers: rows of ints, of longs; kinds, addresses and references stay), what a method does to it (Ok), a place of a walk over it (G), a row an instruction (g_) -/
abbrev WG : Type := va_G × (ClassId × ClassId × ClassId) × List (Nat × Nat) × (Nat → Nat) × (Nat → Nat → Option Nat) × (Nat → Nat) × (Nat → Nat)
def gK (w : WG) : List (Nat × Nat) := w.2.2.1
def gA (w : WG) : Nat → Nat := w.2.2.2.1
def gP (w : WG) : Nat → Nat → Option Nat := w.2.2.2.2.1
abbrev SI : Type := Nat → Nat → Int32
abbrev SL : Type := Nat → Nat → Int64
abbrev QT : Type := Option Value → SI → SL → Prop
def ft (c : Nat) : List Nat :=
  match c with
  | 0 => [2, 2, 0, 0, 0, 0]
  | 1 => [2, 0]
  | 2 => [0, 0, 0, 0, 0, 0, 2, 2, 2, 2, 2, 2, 2, 2, 2]
  | 3 => [2, 2, 2, 2, 0, 0, 0, 0, 0, 2, 2, 2]
  | _ => [2, 0, 0, 0, 0, 0, 2, 2, 2, 2, 2, 2, 2, 2, 2, 2, 2, 2, 0, 0, 0, 0, 0, 2, 2, 0, 2, 0, 2, 1, 1, 2, 2, 1]
def fv (t : Nat) (x : Int32) (y : Int64) (z : Option Nat) : Value := if t = 0 then .int x else if t = 1 then .long y else va_rf z
def cE (w : WG) (κ : Nat × Nat) (i : Nat → Int32) (j : Nat → Int64) (r : Nat → Option Nat) : va_E :=
  if κ.1 < 5 then .inr (κ.1, (ft κ.1).mapIdx (fun k t => fv t (i k) (j k) (r k)))
  else if κ.1 = 5 then .inl (w.2.1.1, κ.2, .inl i)
  else if κ.1 = 6 then .inl (w.2.1.2.1, κ.2, .inl i)
  else .inl (w.2.1.2.2, κ.2, .inr (.inr (.inr (.inr r))))
def gT (w : WG) : List (ClassId × FieldType) := [(w.2.1.1, .byte), (w.2.1.2.1, .int), (w.2.1.2.2, .object RX3)]
def wsO (w : WG) (I : SI) (L : SL) : va_W := (gK w).mapIdx (fun o κ => (gA w o, cE w κ (I o) (L o) (gP w o)))
theorem wsO_get {w : WG} {I : SI} {L : SL} {o : Nat} {κ : Nat × Nat} (h : (gK w)[o]? = some κ) : (wsO w I L)[o]? = some (gA w o, cE w κ (I o) (L o) (gP w o)) := by
  simp [wsO, List.getElem?_mapIdx, h]
def rS {α : Type} (I : Nat → α) (o : Nat) (f : α) : Nat → α := fun q => if q = o then f else I q
theorem rS_eq {α : Type} (I : Nat → α) (o : Nat) (f : α) : rS I o f o = f := by simp [rS]
theorem rS_ne {α : Type} (I : Nat → α) (o : Nat) (f : α) {q : Nat} (h : q ≠ o) : rS I o f q = I q := by simp [rS, h]
theorem wsO_setI {w : WG} {I : SI} {L : SL} {o : Nat} {κ : Nat × Nat} {f : Nat → Int32} (h : (gK w)[o]? = some κ) : (wsO w I L).set o (gA w o, cE w κ f (L o) (gP w o)) = wsO w (rS I o f) L := by
  apply List.ext_getElem?
  intro k
  rw [List.getElem?_set]
  by_cases hk : o = k
  · subst hk
    rw [if_pos rfl, wsO_get h, rS_eq, if_pos]
    rw [wsO, List.length_mapIdx]
    exact (List.getElem?_eq_some_iff.mp h).1
  · rw [if_neg hk]
    simp only [wsO, List.getElem?_mapIdx]
    rw [rS_ne _ _ _ (fun e => hk e.symm)]
theorem wsO_setL {w : WG} {I : SI} {L : SL} {o : Nat} {κ : Nat × Nat} {f : Nat → Int64} (h : (gK w)[o]? = some κ) : (wsO w I L).set o (gA w o, cE w κ (I o) f (gP w o)) = wsO w I (rS L o f) := by
  apply List.ext_getElem?
  intro k
  rw [List.getElem?_set]
  by_cases hk : o = k
  · subst hk
    rw [if_pos rfl, wsO_get h, rS_eq, if_pos]
    rw [wsO, List.length_mapIdx]
    exact (List.getElem?_eq_some_iff.mp h).1
  · rw [if_neg hk]
    simp only [wsO, List.getElem?_mapIdx]
    rw [rS_ne _ _ _ (fun e => hk e.symm)]
theorem fs_get {c k t : Nat} (i : Nat → Int32) (j : Nat → Int64) (r : Nat → Option Nat) (h : (ft c)[k]? = some t) : ((ft c).mapIdx (fun k t => fv t (i k) (j k) (r k)))[k]? = some (fv t (i k) (j k) (r k)) := by
  simp [List.getElem?_mapIdx, h]
theorem fs_setI {c k : Nat} (i : Nat → Int32) (j : Nat → Int64) (r : Nat → Option Nat) (x : Int32) (h : (ft c)[k]? = some 0) : ((ft c).mapIdx (fun k t => fv t (i k) (j k) (r k))).set k (.int x) = (ft c).mapIdx (fun q t => fv t (upd i k x q) (j q) (r q)) := by
  apply List.ext_getElem?
  intro q
  rw [List.getElem?_set, List.getElem?_mapIdx, List.getElem?_mapIdx]
  by_cases hq : k = q
  · subst hq
    obtain ⟨hl, he⟩ := List.getElem?_eq_some_iff.mp h
    simp [fv, upd, hl, he]
  · have hq2 : ¬ q = k := fun e => hq e.symm
    simp [hq, hq2, upd]

theorem fs_setL {c k : Nat} (i : Nat → Int32) (j : Nat → Int64) (r : Nat → Option Nat) (x : Int64) (h : (ft c)[k]? = some 1) : ((ft c).mapIdx (fun k t => fv t (i k) (j k) (r k))).set k (.long x) = (ft c).mapIdx (fun q t => fv t (i q) (vp_updL j k x q) (r q)) := by
  apply List.ext_getElem?
  intro q
  rw [List.getElem?_set, List.getElem?_mapIdx, List.getElem?_mapIdx]
  by_cases hq : k = q
  · subst hq
    obtain ⟨hl, he⟩ := List.getElem?_eq_some_iff.mp h
    simp [fv, vp_updL, hl, he]
  · have hq2 : ¬ q = k := fun e => hq e.symm
    simp [hq, hq2, vp_updL]
/-- the literals and the statics, outside of what a method may change -/
def SW (w : WG) (A : Nat → Prop) (U : State) (H : Heap) : Prop :=
  vk_S 4 [7, 3, 3, 5] [[118, 105, 108, 108, 97, 103, 101], [109, 97, 110], [100, 111, 103], [98, 114, 105, 98, 101]] w.2.2.2.2.2.1 w.2.2.2.2.2.2 A U H ∧
  vk_R RX1 27 "village" (w.2.2.2.2.2.1 0) U ∧ vk_R RX1 44 "man" (w.2.2.2.2.2.1 1) U ∧ vk_R RX1 49 "dog" (w.2.2.2.2.2.1 2) U ∧ vk_R RX1 54 "bribe" (w.2.2.2.2.2.1 3) U ∧
  va_Z "java/lang/String" "COMPACT_STRINGS" "Z" (.int 1) A U H ∧ va_Zq "jdk/internal/util/Preconditions" "SIOOBE_FORMATTER" "Ljava/util/function/BiFunction;" A U H
theorem SW.same {w : WG} {A : Nat → Prop} {u U : State} {H : Heap} (hvm : U.vm = u.vm) (h : SW w A u H) : SW w A U H := by
  obtain ⟨h1, h2, h3, h4, h5, h6, h7⟩ := h
  have ha : u.vm.Alike U.vm := by rw [hvm]; exact Vm.Alike.refl u.vm
  exact ⟨vk_S.moved ha h1, vk_R.same hvm h2, vk_R.same hvm h3, vk_R.same hvm h4, vk_R.same hvm h5, va_Z.moved ha h6, va_Zq.moved ha h7⟩
theorem SW.warm {w : WG} {A : Nat → Prop} {u U : State} {H : Heap} (hW : u.WarmedH U.vm) (h : SW w A u H) : SW w A U H := by
  obtain ⟨h1, h2, h3, h4, h5, h6, h7⟩ := h
  exact ⟨vk_S.moved hW.alike h1, vk_R.warm hW h2, vk_R.warm hW h3, vk_R.warm hW h4, vk_R.warm hW h5, va_Z.moved hW.alike h6, va_Zq.moved hW.alike h7⟩
theorem SW.kept {w : WG} {A : Nat → Prop} {U : State} {H H1 : Heap} (h : SW w A U H) (hq : ∀ a : Nat, a < H.size → ¬ A a → H1[a]? = H[a]?) : SW w A U H1 := by
  obtain ⟨h1, h2, h3, h4, h5, h6, h7⟩ := h
  exact ⟨h1.kept hq, h2, h3, h4, h5, h6.kept hq, h7.kept hq⟩
theorem SW.narrow {w : WG} {A B : Nat → Prop} {U : State} {H : Heap} (h : SW w A U H) (hAB : ∀ q, B q → A q) : SW w B U H := by
  obtain ⟨h1, h2, h3, h4, h5, h6, h7⟩ := h
  exact ⟨h1.narrow hAB, h2, h3, h4, h5, h6.narrow hAB, h7.narrow hAB⟩
/-- what a method finds -/
def PreO (w : WG) (I : SI) (L : SL) (sz : Nat) (U : State) : Prop :=
  U.heap.size = sz ∧ va_P w.1 vwCl (wsO w I L) U.heap ∧ va_K w.1 vwCl (gT w) U ∧ va_D (fun _ => True) (wsO w I L) ∧ SW w (va_A (wsO w I L) sz) U U.heap
/-- what it leaves -/
def QcO (w : WG) (Q : QT) (A : Nat → Prop) : Array Value → State → Outcome → State → Prop := fun _ st oc t =>
  (∃ (r : Option Value) (I' : SI) (L' : SL), oc = .returned r ∧ Q r I' L' ∧ va_P w.1 vwCl (wsO w I' L') t.heap ∧ va_D A (wsO w I' L')) ∧ va_F A st t
abbrev MD : Type := MethodName × ByteArray × Nat × Option FieldType × Nat
def rmO (d : Nat) : Room := { frames := d, cells := 0, slots := 0, locals := 40 * d }
def wsM (M : MD) : List Cond := Cond.code M.1 M.2.1 M.2.2.1 M.2.2.2.1 :: BG
/-- the method's contract, over the whole store -/
def Ok (w : WG) (M : MD) (av : List Value) (I : SI) (L : SL) (Q : QT) : Prop := ∀ (l : Launch) (sz : Nat), Met l M.1 (wsM M) (rmO M.2.2.2.2) (va_Pc av (PreO w I L sz)) (QcO w Q (va_A (wsO w I L) sz)) 0 0 (va_A (wsO w I L) sz)
abbrev LV : Type := Nat → Option Value
def noL : Option Value → Option Value
  | some (.int x) => some (.int x)
  | some (.ref x) => some (.ref x)
  | some .null => some .null
  | _ => none
def st1 (f : LV) (i : Nat) (v : Value) : LV := fun j => bif Nat.beq j i then some v else bif Nat.beq (j + 1) i then noL (f j) else f j
def st2 (f : LV) (i : Nat) (v : Value) : LV := fun j => bif Nat.beq j i then some v else bif Nat.beq j (i + 1) then none else bif Nat.beq (j + 1) i then noL (f j) else f j
def lvO : List (Nat × Value) → LV
  | [] => fun _ => none
  | (i, v) :: r => fun j => bif Nat.beq j i then some v else lvO r j
def hasL (ls : Array Slot) (nL : Nat) (f : LV) : Prop := ls.size = nL ∧ lv_wf ls ∧ ∀ (i : Nat) (v : Value), f i = some v → ls[i]? = some (.val v)
theorem lvO_mem {l : List (Nat × Value)} {i : Nat} {v : Value} (h : lvO l i = some v) : (i, v) ∈ l := by
  induction l with
  | nil => simp [lvO] at h
  | cons q r ih =>
    obtain ⟨j, u⟩ := q
    simp only [lvO] at h
    by_cases hj : i = j
    · subst hj
      simp at h
      subst h
      exact List.mem_cons_self
    · have hb : Nat.beq i j = false := by
        cases hq : Nat.beq i j with
        | false => rfl
        | true => exact absurd (Nat.eq_of_beq_eq_true hq) hj
      rw [hb] at h
      exact List.mem_cons_of_mem _ (ih h)
theorem hasL_of {ls : Array Slot} {nL : Nat} {l : List (Nat × Value)} (h : lv_has ls nL l) : hasL ls nL (lvO l) := ⟨h.1, h.2.1, fun _ _ hi => h.2.2 _ (lvO_mem hi)⟩
def lvL (nL : Nat) (f : LV) : List (Nat × Value) := (List.range nL).filterMap (fun i => (f i).map (fun v => (i, v)))
theorem lvL_mem {nL : Nat} {f : LV} {i : Nat} {v : Value} : (i, v) ∈ lvL nL f ↔ i < nL ∧ f i = some v := by
  simp only [lvL, List.mem_filterMap, List.mem_range, Option.map_eq_some_iff]
  constructor
  · rintro ⟨a, ha, u, hu, he⟩
    cases he
    exact ⟨ha, hu⟩
  · rintro ⟨h1, h2⟩
    exact ⟨i, h1, v, h2, rfl⟩
theorem hasL.to {ls : Array Slot} {nL : Nat} {f : LV} (h : hasL ls nL f) : lv_has ls nL (lvL nL f) := ⟨h.1, h.2.1, fun q hq => h.2.2 q.1 q.2 (lvL_mem.mp hq).2⟩
theorem hasL.lt {ls : Array Slot} {nL : Nat} {f : LV} (h : hasL ls nL f) {i : Nat} {v : Value} (hi : f i = some v) : i < nL := by
  have := (Array.getElem?_eq_some_iff.mp (h.2.2 i v hi)).1
  rw [h.1] at this
  exact this
theorem hasL.mono {ls : Array Slot} {nL : Nat} {f g : LV} (h : hasL ls nL f) (hg : ∀ i v, g i = some v → f i = some v) : hasL ls nL g := ⟨h.1, h.2.1, fun i v hi => h.2.2 i v (hg i v hi)⟩
theorem beq_ff {i j : Nat} (h : i ≠ j) : Nat.beq i j = false := by
  cases hq : Nat.beq i j with
  | false => rfl
  | true => exact absurd (Nat.eq_of_beq_eq_true hq) h
theorem beq_tt (i : Nat) : Nat.beq i i = true := Nat.beq_refl i
theorem noL_spec {x : Option Value} {v : Value} (h : noL x = some v) : x = some v ∧ v.category = 1 := by
  cases x with
  | none => simp [noL] at h
  | some y => cases y <;> simp [noL] at h <;> (subst h; exact ⟨rfl, rfl⟩)
theorem st1_mem {nL : Nat} {f : LV} {i j : Nat} {v u : Value} (hf : ∀ j u, f j = some u → j < nL) (h : st1 f i v j = some u) : (j, u) ∈ ((i, v) :: (lvL nL f).filter (fun q => !(q.1 == i) && !(q.1 + 1 == i && q.2.category == 2))) := by
  unfold st1 at h
  by_cases hj : j = i
  · subst hj
    rw [beq_tt] at h
    cases h
    exact List.mem_cons_self
  · rw [beq_ff hj] at h
    refine List.mem_cons_of_mem _ (List.mem_filter.mpr ?_)
    by_cases hk : j + 1 = i
    · rw [hk, beq_tt] at h
      obtain ⟨h1, h2⟩ := noL_spec h
      exact ⟨lvL_mem.mpr ⟨hf _ _ h1, h1⟩, by simp [hj, h2]⟩
    · rw [beq_ff hk] at h
      exact ⟨lvL_mem.mpr ⟨hf _ _ h, h⟩, by simp [hj, hk]⟩
theorem st2_mem {nL : Nat} {f : LV} {i j : Nat} {v u : Value} (hf : ∀ j u, f j = some u → j < nL) (h : st2 f i v j = some u) : (j, u) ∈ ((i, v) :: (lvL nL f).filter (fun q => !(q.1 == i) && (!(q.1 == i + 1) && !(q.1 + 1 == i && q.2.category == 2)))) := by
  unfold st2 at h
  by_cases hj : j = i
  · subst hj
    rw [beq_tt] at h
    cases h
    exact List.mem_cons_self
  · rw [beq_ff hj] at h
    refine List.mem_cons_of_mem _ (List.mem_filter.mpr ?_)
    by_cases hm : j = i + 1
    · rw [hm, beq_tt] at h
      cases h
    · rw [beq_ff hm] at h
      by_cases hk : j + 1 = i
      · rw [hk, beq_tt] at h
        obtain ⟨h1, h2⟩ := noL_spec h
        exact ⟨lvL_mem.mpr ⟨hf _ _ h1, h1⟩, by simp [hj, hm, h2]⟩
      · rw [beq_ff hk] at h
        exact ⟨lvL_mem.mpr ⟨hf _ _ h, h⟩, by simp [hj, hm, hk]⟩
theorem hasL.s1 {ls ls' : Array Slot} {nL : Nat} {f : LV} {i : Nat} {v : Value} (h : hasL ls nL f) (h' : lv_has ls' nL ((i, v) :: (lvL nL f).filter (fun q => !(q.1 == i) && !(q.1 + 1 == i && q.2.category == 2)))) : hasL ls' nL (st1 f i v) :=
  ⟨h'.1, h'.2.1, fun j u hj => h'.2.2 (j, u) (st1_mem (fun _ _ => h.lt) hj)⟩
theorem hasL.s2 {ls ls' : Array Slot} {nL : Nat} {f : LV} {i : Nat} {v : Value} (h : hasL ls nL f) (h' : lv_has ls' nL ((i, v) :: (lvL nL f).filter (fun q => !(q.1 == i) && (!(q.1 == i + 1) && !(q.1 + 1 == i && q.2.category == 2))))) : hasL ls' nL (st2 f i v) :=
  ⟨h'.1, h'.2.1, fun j u hj => h'.2.2 (j, u) (st2_mem (fun _ _ => h.lt) hj)⟩
/-- a walk's place -/
abbrev CT : Type := Program × Launch × Env × Room × State × MethodId × Array Value × List Frame × Method × Code × (Nat → Prop) × Nat × Nat × (State → Prop)
def Cx (X : CT) (w : WG) (M : MD) (Q : QT) : Prop := match X with
  | (p, _, _, R, s, m, args, below, meth, c, A, cells, slots, Qf) =>
    p.tables.exec = Jvm.exec ∧ c.code = M.2.1 ∧ c.maxLocals = M.2.2.1 ∧ meth.sig.returnType = M.2.2.2.1 ∧ meth.locks = false ∧ s.vm.findClass M.1.cls = some m.cls ∧ (∀ q ∈ BG, q.before args s = true) ∧ va_K w.1 vwCl (gT w) s ∧ SW w A s s.heap ∧ (∀ q : Nat, s.heap.size ≤ q → A q) ∧ (M.2.2.2.2 ≤ R.frames ∧ 40 * M.2.2.2.2 ≤ R.locals) ∧ cells = 0 ∧ slots = 0 ∧ Qf = MQ below (QcO w Q A) args s 0 0 A
def G (X : CT) (w : WG) (M : MD) (I : SI) (L : SL) (pc : Nat) (lv : LV) (st : List Value) : Prop := match X with
  | (p, l, e, R, s, m, args, below, meth, c, A, cells, slots, Qf) =>
    ∀ (H : Heap) (locs : List Loc) (ls : Array Slot), va_P w.1 vwCl (wsO w I L) H → va_D A (wsO w I L) → va_S A s.heap H locs → hasL ls M.2.2.1 lv → W p l e R s m args below meth c H locs cells slots Qf (F0 m pc ls st)
theorem Ok.of {w : WG} {M : MD} {av : List Value} {I : SI} {L : SL} {Q : QT} (hy : plainName M.1.cls = true) (hn : (lg_sl av).length ≤ M.2.2.1) (h : ∀ X : CT, Cx X w M Q → G X w M I L 0 (lvO (lv_args 0 av)) []) : Ok w M av I L Q := by
  intro l sz
  refine Met.ofW (cc := M.2.1) (maxL := M.2.2.1) (ret := M.2.2.2.1) hy rfl ?_
  intro p e s m args below meth c s₁ B hml hv
  obtain ⟨rfl, hsz, hP, hK, hD0, hSW⟩ := hv
  have hts := atoms_spec (ws := wsM M) B.pre
  subst hsz
  have hl := lv_entry av (n := M.2.2.1) hn
  rw [lg_entry_eq]
  exact h (p, l, e, (headSpec (wsM M) (rmO M.2.2.2.2)).room, s, m, av.toArray, below, meth, c, va_A (wsO w I L) s.heap.size, 0, 0, MQ below (QcO w Q (va_A (wsO w I L) s.heap.size)) av.toArray s 0 0 (va_A (wsO w I L) s.heap.size))
    ⟨B.exec, B.bytes, hml, B.returns, B.notSynchronized, findClass_of_methodNamed B.named, fun q hq => hts q (List.mem_cons_of_mem _ hq), hK, hSW, fun q h => Or.inr h, ⟨Nat.le_refl _, Nat.le_refl _⟩, rfl, rfl, rfl⟩
    s.heap [] _ hP hD0.self va_S.rf (hasL_of hl)
theorem G.lv {X : CT} {w : WG} {M : MD} {I : SI} {L : SL} {pc : Nat} {f g : LV} {st : List Value} (hg : ∀ i v, g i = some v → f i = some v) (h : G X w M I L pc g st) : G X w M I L pc f st := by
  obtain ⟨p, l, e, R, s, m, args, below, meth, c, A, cells, slots, Qf⟩ := X
  exact fun H locs ls hP hD hS hl => h H locs ls hP hD hS (hl.mono hg)
def lvIn (f : LV) : List (Nat × Value) → Prop
  | [] => True
  | (i, v) :: r => f i = some v ∧ lvIn f r
theorem lvIn_ok {f : LV} : ∀ {l : List (Nat × Value)}, lvIn f l → ∀ i v, lvO l i = some v → f i = some v := by
  intro l
  induction l with
  | nil => intro _ i v h; simp [lvO] at h
  | cons q r ih =>
    obtain ⟨j, u⟩ := q
    intro h i v hi
    simp only [lvO] at hi
    by_cases hj : i = j
    · subst hj
      rw [beq_tt] at hi
      cases hi
      exact h.1
    · rw [beq_ff hj] at hi
      exact ih h.2 i v hi
/-- a place by a list of its locals -/
theorem G.at {X : CT} {w : WG} {M : MD} {I : SI} {L : SL} {pc : Nat} {f : LV} {st : List Value} {l : List (Nat × Value)} (h : G X w M I L pc (lvO l) st) (hl : lvIn f l) : G X w M I L pc f st := h.lv (lvIn_ok hl)

theorem g_iconst {X : CT} {w : WG} {M : MD} {Q : QT} {I : SI} {L : SL} {pc : Nat} {f : LV} {n : Int} {v : Int32} {st : List Value} (hX : Cx X w M Q) (hd : decode M.2.1 pc = .ok (.iconst n, 1)) (hv : Int32.ofInt n = v) (k : G X w M I L (pc + 1) (f) (.int v :: st)) : G X w M I L pc f (st) := by
  obtain ⟨p, l, e, R, s, m, args, below, meth, c, A, cells, slots, Qf⟩ := X
  obtain ⟨hx, hb, hml, hr, hlk, ho, hts, hK, hSW, hA, hR, hc, hs, hq⟩ := hX
  intro H locs ls hP hD hS hl
  exact lv_iconst hx hb hd hv (k H locs ls hP hD hS hl)
theorem g_bipush {X : CT} {w : WG} {M : MD} {Q : QT} {I : SI} {L : SL} {pc : Nat} {f : LV} {n : Int} {v : Int32} {st : List Value} (hX : Cx X w M Q) (hd : decode M.2.1 pc = .ok (.bipush n, 2)) (hv : (Int8.ofInt n).toInt32 = v) (k : G X w M I L (pc + 2) (f) (.int v :: st)) : G X w M I L pc f (st) := by
  obtain ⟨p, l, e, R, s, m, args, below, meth, c, A, cells, slots, Qf⟩ := X
  obtain ⟨hx, hb, hml, hr, hlk, ho, hts, hK, hSW, hA, hR, hc, hs, hq⟩ := hX
  intro H locs ls hP hD hS hl
  exact lv_bipush hx hb hd hv (k H locs ls hP hD hS hl)
theorem g_sipush {X : CT} {w : WG} {M : MD} {Q : QT} {I : SI} {L : SL} {pc : Nat} {f : LV} {n : Int} {v : Int32} {st : List Value} (hX : Cx X w M Q) (hd : decode M.2.1 pc = .ok (.sipush n, 3)) (hv : (Int16.ofInt n).toInt32 = v) (k : G X w M I L (pc + 3) (f) (.int v :: st)) : G X w M I L pc f (st) := by
  obtain ⟨p, l, e, R, s, m, args, below, meth, c, A, cells, slots, Qf⟩ := X
  obtain ⟨hx, hb, hml, hr, hlk, ho, hts, hK, hSW, hA, hR, hc, hs, hq⟩ := hX
  intro H locs ls hP hD hS hl
  exact lv_sipush hx hb hd hv (k H locs ls hP hD hS hl)
theorem g_lconst {X : CT} {w : WG} {M : MD} {Q : QT} {I : SI} {L : SL} {pc : Nat} {f : LV} {n : Fin 2} {v : Int64} {st : List Value} (hX : Cx X w M Q) (hd : decode M.2.1 pc = .ok (.lconst n, 1)) (hv : Int64.ofNat (n : Nat) = v) (k : G X w M I L (pc + 1) (f) (.long v :: st)) : G X w M I L pc f (st) := by
  obtain ⟨p, l, e, R, s, m, args, below, meth, c, A, cells, slots, Qf⟩ := X
  obtain ⟨hx, hb, hml, hr, hlk, ho, hts, hK, hSW, hA, hR, hc, hs, hq⟩ := hX
  intro H locs ls hP hD hS hl
  exact lv_lconst hx hb hd hv (k H locs ls hP hD hS hl)
theorem g_ldc {X : CT} {w : WG} {M : MD} {Q : QT} {I : SI} {L : SL} {pc : Nat} {f : LV} {i : Nat} {v : Int32} {st : List Value} (hX : Cx X w M Q) (hd : decode M.2.1 pc = .ok (.ldc i, 2)) (hw : Cond.constant M.1.cls i v ∈ BG) (k : G X w M I L (pc + 2) (f) (.int v :: st)) : G X w M I L pc f (st) := by
  obtain ⟨p, l, e, R, s, m, args, below, meth, c, A, cells, slots, Qf⟩ := X
  obtain ⟨hx, hb, hml, hr, hlk, ho, hts, hK, hSW, hA, hR, hc, hs, hq⟩ := hX
  intro H locs ls hP hD hS hl
  exact lv_ldc hx hb ho (hts _ hw) hd (k H locs ls hP hD hS hl)
theorem g_ldcw {X : CT} {w : WG} {M : MD} {Q : QT} {I : SI} {L : SL} {pc : Nat} {f : LV} {i : Nat} {v : Int32} {st : List Value} (hX : Cx X w M Q) (hd : decode M.2.1 pc = .ok (.ldc_w i, 3)) (hw : Cond.constant M.1.cls i v ∈ BG) (k : G X w M I L (pc + 3) (f) (.int v :: st)) : G X w M I L pc f (st) := by
  obtain ⟨p, l, e, R, s, m, args, below, meth, c, A, cells, slots, Qf⟩ := X
  obtain ⟨hx, hb, hml, hr, hlk, ho, hts, hK, hSW, hA, hR, hc, hs, hq⟩ := hX
  intro H locs ls hP hD hS hl
  exact lv_ldcw hx hb ho (hts _ hw) hd (k H locs ls hP hD hS hl)
theorem g_ldc2 {X : CT} {w : WG} {M : MD} {Q : QT} {I : SI} {L : SL} {pc : Nat} {f : LV} {i : Nat} {v : Int64} {st : List Value} (hX : Cx X w M Q) (hd : decode M.2.1 pc = .ok (.ldc2_w i, 3)) (hw : Cond.constantLong M.1.cls i v ∈ BG) (k : G X w M I L (pc + 3) (f) (.long v :: st)) : G X w M I L pc f (st) := by
  obtain ⟨p, l, e, R, s, m, args, below, meth, c, A, cells, slots, Qf⟩ := X
  obtain ⟨hx, hb, hml, hr, hlk, ho, hts, hK, hSW, hA, hR, hc, hs, hq⟩ := hX
  intro H locs ls hP hD hS hl
  exact lv_ldc2 hx hb ho (hts _ hw) hd (k H locs ls hP hD hS hl)
theorem g_iload_n {X : CT} {w : WG} {M : MD} {Q : QT} {I : SI} {L : SL} {pc : Nat} {f : LV} {k : Fin 4} {i : Nat} {x : Int32} {st : List Value} (hX : Cx X w M Q) (hd : decode M.2.1 pc = .ok (.iload_n k, 1)) (hi : (k : Nat) = i) (hf : f i = some (.int x)) (kk : G X w M I L (pc + 1) (f) (.int x :: st)) : G X w M I L pc f (st) := by
  obtain ⟨p, l, e, R, s, m, args, below, meth, c, A, cells, slots, Qf⟩ := X
  obtain ⟨hx, hb, hml, hr, hlk, ho, hts, hK, hSW, hA, hR, hc, hs, hq⟩ := hX
  intro H locs ls hP hD hS hl
  exact lv_iload_n hx hb hd hi (hl.2.2 _ _ hf) (kk H locs ls hP hD hS hl)
theorem g_iload {X : CT} {w : WG} {M : MD} {Q : QT} {I : SI} {L : SL} {pc : Nat} {f : LV} {i : Nat} {x : Int32} {st : List Value} (hX : Cx X w M Q) (hd : decode M.2.1 pc = .ok (.iload i, 2)) (hf : f i = some (.int x)) (k : G X w M I L (pc + 2) (f) (.int x :: st)) : G X w M I L pc f (st) := by
  obtain ⟨p, l, e, R, s, m, args, below, meth, c, A, cells, slots, Qf⟩ := X
  obtain ⟨hx, hb, hml, hr, hlk, ho, hts, hK, hSW, hA, hR, hc, hs, hq⟩ := hX
  intro H locs ls hP hD hS hl
  exact lv_iload hx hb hd (hl.2.2 _ _ hf) (k H locs ls hP hD hS hl)
theorem g_lload_n {X : CT} {w : WG} {M : MD} {Q : QT} {I : SI} {L : SL} {pc : Nat} {f : LV} {k : Fin 4} {i : Nat} {x : Int64} {st : List Value} (hX : Cx X w M Q) (hd : decode M.2.1 pc = .ok (.lload_n k, 1)) (hi : (k : Nat) = i) (hf : f i = some (.long x)) (kk : G X w M I L (pc + 1) (f) (.long x :: st)) : G X w M I L pc f (st) := by
  obtain ⟨p, l, e, R, s, m, args, below, meth, c, A, cells, slots, Qf⟩ := X
  obtain ⟨hx, hb, hml, hr, hlk, ho, hts, hK, hSW, hA, hR, hc, hs, hq⟩ := hX
  intro H locs ls hP hD hS hl
  exact lv_lload_n hx hb hd hi (hl.2.2 _ _ hf) (kk H locs ls hP hD hS hl)
theorem g_lload {X : CT} {w : WG} {M : MD} {Q : QT} {I : SI} {L : SL} {pc : Nat} {f : LV} {i : Nat} {x : Int64} {st : List Value} (hX : Cx X w M Q) (hd : decode M.2.1 pc = .ok (.lload i, 2)) (hf : f i = some (.long x)) (k : G X w M I L (pc + 2) (f) (.long x :: st)) : G X w M I L pc f (st) := by
  obtain ⟨p, l, e, R, s, m, args, below, meth, c, A, cells, slots, Qf⟩ := X
  obtain ⟨hx, hb, hml, hr, hlk, ho, hts, hK, hSW, hA, hR, hc, hs, hq⟩ := hX
  intro H locs ls hP hD hS hl
  exact lv_lload hx hb hd (hl.2.2 _ _ hf) (k H locs ls hP hD hS hl)
theorem g_aload_n {X : CT} {w : WG} {M : MD} {Q : QT} {I : SI} {L : SL} {pc : Nat} {f : LV} {k : Fin 4} {i : Nat} {x : Nat} {st : List Value} (hX : Cx X w M Q) (hd : decode M.2.1 pc = .ok (.aload_n k, 1)) (hi : (k : Nat) = i) (hf : f i = some (.ref x)) (kk : G X w M I L (pc + 1) (f) (.ref x :: st)) : G X w M I L pc f (st) := by
  obtain ⟨p, l, e, R, s, m, args, below, meth, c, A, cells, slots, Qf⟩ := X
  obtain ⟨hx, hb, hml, hr, hlk, ho, hts, hK, hSW, hA, hR, hc, hs, hq⟩ := hX
  intro H locs ls hP hD hS hl
  exact lv_aload_n hx hb hd hi (hl.2.2 _ _ hf) (kk H locs ls hP hD hS hl)
theorem g_aload {X : CT} {w : WG} {M : MD} {Q : QT} {I : SI} {L : SL} {pc : Nat} {f : LV} {i : Nat} {x : Nat} {st : List Value} (hX : Cx X w M Q) (hd : decode M.2.1 pc = .ok (.aload i, 2)) (hf : f i = some (.ref x)) (k : G X w M I L (pc + 2) (f) (.ref x :: st)) : G X w M I L pc f (st) := by
  obtain ⟨p, l, e, R, s, m, args, below, meth, c, A, cells, slots, Qf⟩ := X
  obtain ⟨hx, hb, hml, hr, hlk, ho, hts, hK, hSW, hA, hR, hc, hs, hq⟩ := hX
  intro H locs ls hP hD hS hl
  exact lv_aload hx hb hd (hl.2.2 _ _ hf) (k H locs ls hP hD hS hl)
theorem g_istore_n {X : CT} {w : WG} {M : MD} {Q : QT} {I : SI} {L : SL} {pc : Nat} {f : LV} {k : Fin 4} {i : Nat} {x : Int32} {st : List Value} (hX : Cx X w M Q) (hd : decode M.2.1 pc = .ok (.istore_n k, 1)) (hi : (k : Nat) = i) (hn : i < M.2.2.1) (kk : G X w M I L (pc + 1) (st1 f i (.int x)) st) : G X w M I L pc f (.int x :: st) := by
  obtain ⟨p, l, e, R, s, m, args, below, meth, c, A, cells, slots, Qf⟩ := X
  obtain ⟨hx, hb, hml, hr, hlk, ho, hts, hK, hSW, hA, hR, hc, hs, hq⟩ := hX
  intro H locs ls hP hD hS hl
  exact lv_istore_n hx hb hd hi hl.to hn rfl (fun ls' h' => kk H locs ls' hP hD hS (hl.s1 h'))
theorem g_istore {X : CT} {w : WG} {M : MD} {Q : QT} {I : SI} {L : SL} {pc : Nat} {f : LV} {i : Nat} {x : Int32} {st : List Value} (hX : Cx X w M Q) (hd : decode M.2.1 pc = .ok (.istore i, 2)) (hn : i < M.2.2.1) (kk : G X w M I L (pc + 2) (st1 f i (.int x)) st) : G X w M I L pc f (.int x :: st) := by
  obtain ⟨p, l, e, R, s, m, args, below, meth, c, A, cells, slots, Qf⟩ := X
  obtain ⟨hx, hb, hml, hr, hlk, ho, hts, hK, hSW, hA, hR, hc, hs, hq⟩ := hX
  intro H locs ls hP hD hS hl
  exact lv_istore hx hb hd hl.to hn rfl (fun ls' h' => kk H locs ls' hP hD hS (hl.s1 h'))
theorem g_lstore_n {X : CT} {w : WG} {M : MD} {Q : QT} {I : SI} {L : SL} {pc : Nat} {f : LV} {k : Fin 4} {i : Nat} {x : Int64} {st : List Value} (hX : Cx X w M Q) (hd : decode M.2.1 pc = .ok (.lstore_n k, 1)) (hi : (k : Nat) = i) (hn : i + 1 < M.2.2.1) (kk : G X w M I L (pc + 1) (st2 f i (.long x)) st) : G X w M I L pc f (.long x :: st) := by
  obtain ⟨p, l, e, R, s, m, args, below, meth, c, A, cells, slots, Qf⟩ := X
  obtain ⟨hx, hb, hml, hr, hlk, ho, hts, hK, hSW, hA, hR, hc, hs, hq⟩ := hX
  intro H locs ls hP hD hS hl
  exact lv_lstore_n hx hb hd hi hl.to hn rfl (fun ls' h' => kk H locs ls' hP hD hS (hl.s2 h'))
theorem g_lstore {X : CT} {w : WG} {M : MD} {Q : QT} {I : SI} {L : SL} {pc : Nat} {f : LV} {i : Nat} {x : Int64} {st : List Value} (hX : Cx X w M Q) (hd : decode M.2.1 pc = .ok (.lstore i, 2)) (hn : i + 1 < M.2.2.1) (kk : G X w M I L (pc + 2) (st2 f i (.long x)) st) : G X w M I L pc f (.long x :: st) := by
  obtain ⟨p, l, e, R, s, m, args, below, meth, c, A, cells, slots, Qf⟩ := X
  obtain ⟨hx, hb, hml, hr, hlk, ho, hts, hK, hSW, hA, hR, hc, hs, hq⟩ := hX
  intro H locs ls hP hD hS hl
  exact lv_lstore hx hb hd hl.to hn rfl (fun ls' h' => kk H locs ls' hP hD hS (hl.s2 h'))
theorem g_astore_n {X : CT} {w : WG} {M : MD} {Q : QT} {I : SI} {L : SL} {pc : Nat} {f : LV} {k : Fin 4} {i : Nat} {x : Nat} {st : List Value} (hX : Cx X w M Q) (hd : decode M.2.1 pc = .ok (.astore_n k, 1)) (hi : (k : Nat) = i) (hn : i < M.2.2.1) (kk : G X w M I L (pc + 1) (st1 f i (.ref x)) st) : G X w M I L pc f (.ref x :: st) := by
  obtain ⟨p, l, e, R, s, m, args, below, meth, c, A, cells, slots, Qf⟩ := X
  obtain ⟨hx, hb, hml, hr, hlk, ho, hts, hK, hSW, hA, hR, hc, hs, hq⟩ := hX
  intro H locs ls hP hD hS hl
  exact lv_astore_n hx hb hd hi hl.to hn rfl (fun ls' h' => kk H locs ls' hP hD hS (hl.s1 h'))
theorem g_astore {X : CT} {w : WG} {M : MD} {Q : QT} {I : SI} {L : SL} {pc : Nat} {f : LV} {i : Nat} {x : Nat} {st : List Value} (hX : Cx X w M Q) (hd : decode M.2.1 pc = .ok (.astore i, 2)) (hn : i < M.2.2.1) (kk : G X w M I L (pc + 2) (st1 f i (.ref x)) st) : G X w M I L pc f (.ref x :: st) := by
  obtain ⟨p, l, e, R, s, m, args, below, meth, c, A, cells, slots, Qf⟩ := X
  obtain ⟨hx, hb, hml, hr, hlk, ho, hts, hK, hSW, hA, hR, hc, hs, hq⟩ := hX
  intro H locs ls hP hD hS hl
  exact lv_astore hx hb hd hl.to hn rfl (fun ls' h' => kk H locs ls' hP hD hS (hl.s1 h'))
theorem g_iinc {X : CT} {w : WG} {M : MD} {Q : QT} {I : SI} {L : SL} {pc : Nat} {f : LV} {i : Nat} {n : Int} {x : Int32} {st : List Value} (hX : Cx X w M Q) (hd : decode M.2.1 pc = .ok (.iinc i n, 3)) (hf : f i = some (.int x)) {d : Int32} (hv : Int32.ofInt n = d) (kk : G X w M I L (pc + 3) (st1 f i (.int (x + d))) st) : G X w M I L pc f st := by
  obtain ⟨p, l, e, R, s, m, args, below, meth, c, A, cells, slots, Qf⟩ := X
  obtain ⟨hx, hb, hml, hr, hlk, ho, hts, hK, hSW, hA, hR, hc, hs, hq⟩ := hX
  intro H locs ls hP hD hS hl
  obtain ⟨q, hq⟩ := List.getElem?_of_mem (lvL_mem.mpr ⟨hl.lt hf, hf⟩)
  subst hv
  exact lv_iinc hx hb hd hl.to hq rfl (hl.lt hf) rfl (fun ls' h' => kk H locs ls' hP hD hS (hl.s1 h'))
theorem g_iadd {X : CT} {w : WG} {M : MD} {Q : QT} {I : SI} {L : SL} {pc : Nat} {f : LV} {x y : Int32} {st : List Value} (hX : Cx X w M Q) (hd : decode M.2.1 pc = .ok (.iadd, 1)) (k : G X w M I L (pc + 1) (f) (.int (x + y) :: st)) : G X w M I L pc f (.int y :: .int x :: st) := by
  obtain ⟨p, l, e, R, s, m, args, below, meth, c, A, cells, slots, Qf⟩ := X
  obtain ⟨hx, hb, hml, hr, hlk, ho, hts, hK, hSW, hA, hR, hc, hs, hq⟩ := hX
  intro H locs ls hP hD hS hl
  exact lv_iadd hx hb hd (k H locs ls hP hD hS hl)
theorem g_isub {X : CT} {w : WG} {M : MD} {Q : QT} {I : SI} {L : SL} {pc : Nat} {f : LV} {x y : Int32} {st : List Value} (hX : Cx X w M Q) (hd : decode M.2.1 pc = .ok (.isub, 1)) (k : G X w M I L (pc + 1) (f) (.int (x - y) :: st)) : G X w M I L pc f (.int y :: .int x :: st) := by
  obtain ⟨p, l, e, R, s, m, args, below, meth, c, A, cells, slots, Qf⟩ := X
  obtain ⟨hx, hb, hml, hr, hlk, ho, hts, hK, hSW, hA, hR, hc, hs, hq⟩ := hX
  intro H locs ls hP hD hS hl
  exact lv_isub hx hb hd (k H locs ls hP hD hS hl)
theorem g_imul {X : CT} {w : WG} {M : MD} {Q : QT} {I : SI} {L : SL} {pc : Nat} {f : LV} {x y : Int32} {st : List Value} (hX : Cx X w M Q) (hd : decode M.2.1 pc = .ok (.imul, 1)) (k : G X w M I L (pc + 1) (f) (.int (x * y) :: st)) : G X w M I L pc f (.int y :: .int x :: st) := by
  obtain ⟨p, l, e, R, s, m, args, below, meth, c, A, cells, slots, Qf⟩ := X
  obtain ⟨hx, hb, hml, hr, hlk, ho, hts, hK, hSW, hA, hR, hc, hs, hq⟩ := hX
  intro H locs ls hP hD hS hl
  exact lv_imul hx hb hd (k H locs ls hP hD hS hl)
theorem g_iand {X : CT} {w : WG} {M : MD} {Q : QT} {I : SI} {L : SL} {pc : Nat} {f : LV} {x y : Int32} {st : List Value} (hX : Cx X w M Q) (hd : decode M.2.1 pc = .ok (.iand, 1)) (k : G X w M I L (pc + 1) (f) (.int (x &&& y) :: st)) : G X w M I L pc f (.int y :: .int x :: st) := by
  obtain ⟨p, l, e, R, s, m, args, below, meth, c, A, cells, slots, Qf⟩ := X
  obtain ⟨hx, hb, hml, hr, hlk, ho, hts, hK, hSW, hA, hR, hc, hs, hq⟩ := hX
  intro H locs ls hP hD hS hl
  exact lv_iand hx hb hd (k H locs ls hP hD hS hl)
theorem g_ior {X : CT} {w : WG} {M : MD} {Q : QT} {I : SI} {L : SL} {pc : Nat} {f : LV} {x y : Int32} {st : List Value} (hX : Cx X w M Q) (hd : decode M.2.1 pc = .ok (.ior, 1)) (k : G X w M I L (pc + 1) (f) (.int (x ||| y) :: st)) : G X w M I L pc f (.int y :: .int x :: st) := by
  obtain ⟨p, l, e, R, s, m, args, below, meth, c, A, cells, slots, Qf⟩ := X
  obtain ⟨hx, hb, hml, hr, hlk, ho, hts, hK, hSW, hA, hR, hc, hs, hq⟩ := hX
  intro H locs ls hP hD hS hl
  exact lv_ior hx hb hd (k H locs ls hP hD hS hl)
theorem g_ixor {X : CT} {w : WG} {M : MD} {Q : QT} {I : SI} {L : SL} {pc : Nat} {f : LV} {x y : Int32} {st : List Value} (hX : Cx X w M Q) (hd : decode M.2.1 pc = .ok (.ixor, 1)) (k : G X w M I L (pc + 1) (f) (.int (x ^^^ y) :: st)) : G X w M I L pc f (.int y :: .int x :: st) := by
  obtain ⟨p, l, e, R, s, m, args, below, meth, c, A, cells, slots, Qf⟩ := X
  obtain ⟨hx, hb, hml, hr, hlk, ho, hts, hK, hSW, hA, hR, hc, hs, hq⟩ := hX
  intro H locs ls hP hD hS hl
  exact lv_ixor hx hb hd (k H locs ls hP hD hS hl)
theorem g_ishl {X : CT} {w : WG} {M : MD} {Q : QT} {I : SI} {L : SL} {pc : Nat} {f : LV} {x y : Int32} {st : List Value} (hX : Cx X w M Q) (hd : decode M.2.1 pc = .ok (.ishl, 1)) (k : G X w M I L (pc + 1) (f) (.int (x <<< (y &&& 31)) :: st)) : G X w M I L pc f (.int y :: .int x :: st) := by
  obtain ⟨p, l, e, R, s, m, args, below, meth, c, A, cells, slots, Qf⟩ := X
  obtain ⟨hx, hb, hml, hr, hlk, ho, hts, hK, hSW, hA, hR, hc, hs, hq⟩ := hX
  intro H locs ls hP hD hS hl
  exact lv_ishl hx hb hd (k H locs ls hP hD hS hl)
theorem g_ishr {X : CT} {w : WG} {M : MD} {Q : QT} {I : SI} {L : SL} {pc : Nat} {f : LV} {x y : Int32} {st : List Value} (hX : Cx X w M Q) (hd : decode M.2.1 pc = .ok (.ishr, 1)) (k : G X w M I L (pc + 1) (f) (.int (x >>> (y &&& 31)) :: st)) : G X w M I L pc f (.int y :: .int x :: st) := by
  obtain ⟨p, l, e, R, s, m, args, below, meth, c, A, cells, slots, Qf⟩ := X
  obtain ⟨hx, hb, hml, hr, hlk, ho, hts, hK, hSW, hA, hR, hc, hs, hq⟩ := hX
  intro H locs ls hP hD hS hl
  exact lv_ishr hx hb hd (k H locs ls hP hD hS hl)
theorem g_ladd {X : CT} {w : WG} {M : MD} {Q : QT} {I : SI} {L : SL} {pc : Nat} {f : LV} {x y : Int64} {st : List Value} (hX : Cx X w M Q) (hd : decode M.2.1 pc = .ok (.ladd, 1)) (k : G X w M I L (pc + 1) (f) (.long (x + y) :: st)) : G X w M I L pc f (.long y :: .long x :: st) := by
  obtain ⟨p, l, e, R, s, m, args, below, meth, c, A, cells, slots, Qf⟩ := X
  obtain ⟨hx, hb, hml, hr, hlk, ho, hts, hK, hSW, hA, hR, hc, hs, hq⟩ := hX
  intro H locs ls hP hD hS hl
  exact lv_ladd hx hb hd (k H locs ls hP hD hS hl)
theorem g_lsub {X : CT} {w : WG} {M : MD} {Q : QT} {I : SI} {L : SL} {pc : Nat} {f : LV} {x y : Int64} {st : List Value} (hX : Cx X w M Q) (hd : decode M.2.1 pc = .ok (.lsub, 1)) (k : G X w M I L (pc + 1) (f) (.long (x - y) :: st)) : G X w M I L pc f (.long y :: .long x :: st) := by
  obtain ⟨p, l, e, R, s, m, args, below, meth, c, A, cells, slots, Qf⟩ := X
  obtain ⟨hx, hb, hml, hr, hlk, ho, hts, hK, hSW, hA, hR, hc, hs, hq⟩ := hX
  intro H locs ls hP hD hS hl
  exact lv_lsub hx hb hd (k H locs ls hP hD hS hl)
theorem g_lmul {X : CT} {w : WG} {M : MD} {Q : QT} {I : SI} {L : SL} {pc : Nat} {f : LV} {x y : Int64} {st : List Value} (hX : Cx X w M Q) (hd : decode M.2.1 pc = .ok (.lmul, 1)) (k : G X w M I L (pc + 1) (f) (.long (x * y) :: st)) : G X w M I L pc f (.long y :: .long x :: st) := by
  obtain ⟨p, l, e, R, s, m, args, below, meth, c, A, cells, slots, Qf⟩ := X
  obtain ⟨hx, hb, hml, hr, hlk, ho, hts, hK, hSW, hA, hR, hc, hs, hq⟩ := hX
  intro H locs ls hP hD hS hl
  exact lv_lmul hx hb hd (k H locs ls hP hD hS hl)
theorem g_idiv {X : CT} {w : WG} {M : MD} {Q : QT} {I : SI} {L : SL} {pc : Nat} {f : LV} {x y : Int32} {st : List Value} (hX : Cx X w M Q) (hd : decode M.2.1 pc = .ok (.idiv, 1)) (hne : ¬ y = 0) (k : G X w M I L (pc + 1) (f) (.int (x / y) :: st)) : G X w M I L pc f (.int y :: .int x :: st) := by
  obtain ⟨p, l, e, R, s, m, args, below, meth, c, A, cells, slots, Qf⟩ := X
  obtain ⟨hx, hb, hml, hr, hlk, ho, hts, hK, hSW, hA, hR, hc, hs, hq⟩ := hX
  intro H locs ls hP hD hS hl
  exact lv_idiv hx hb hd hne (k H locs ls hP hD hS hl)
theorem g_irem {X : CT} {w : WG} {M : MD} {Q : QT} {I : SI} {L : SL} {pc : Nat} {f : LV} {x y : Int32} {st : List Value} (hX : Cx X w M Q) (hd : decode M.2.1 pc = .ok (.irem, 1)) (hne : ¬ y = 0) (k : G X w M I L (pc + 1) (f) (.int (x - x / y * y) :: st)) : G X w M I L pc f (.int y :: .int x :: st) := by
  obtain ⟨p, l, e, R, s, m, args, below, meth, c, A, cells, slots, Qf⟩ := X
  obtain ⟨hx, hb, hml, hr, hlk, ho, hts, hK, hSW, hA, hR, hc, hs, hq⟩ := hX
  intro H locs ls hP hD hS hl
  exact lv_irem hx hb hd hne (k H locs ls hP hD hS hl)
theorem g_ldiv {X : CT} {w : WG} {M : MD} {Q : QT} {I : SI} {L : SL} {pc : Nat} {f : LV} {x y : Int64} {st : List Value} (hX : Cx X w M Q) (hd : decode M.2.1 pc = .ok (.ldiv, 1)) (hne : ¬ y = 0) (k : G X w M I L (pc + 1) (f) (.long (x / y) :: st)) : G X w M I L pc f (.long y :: .long x :: st) := by
  obtain ⟨p, l, e, R, s, m, args, below, meth, c, A, cells, slots, Qf⟩ := X
  obtain ⟨hx, hb, hml, hr, hlk, ho, hts, hK, hSW, hA, hR, hc, hs, hq⟩ := hX
  intro H locs ls hP hD hS hl
  exact lv_ldiv hx hb hd hne (k H locs ls hP hD hS hl)
theorem g_lrem {X : CT} {w : WG} {M : MD} {Q : QT} {I : SI} {L : SL} {pc : Nat} {f : LV} {x y : Int64} {st : List Value} (hX : Cx X w M Q) (hd : decode M.2.1 pc = .ok (.lrem, 1)) (hne : ¬ y = 0) (k : G X w M I L (pc + 1) (f) (.long (x - x / y * y) :: st)) : G X w M I L pc f (.long y :: .long x :: st) := by
  obtain ⟨p, l, e, R, s, m, args, below, meth, c, A, cells, slots, Qf⟩ := X
  obtain ⟨hx, hb, hml, hr, hlk, ho, hts, hK, hSW, hA, hR, hc, hs, hq⟩ := hX
  intro H locs ls hP hD hS hl
  exact lv_lrem hx hb hd hne (k H locs ls hP hD hS hl)
theorem g_ineg {X : CT} {w : WG} {M : MD} {Q : QT} {I : SI} {L : SL} {pc : Nat} {f : LV} {x : Int32} {st : List Value} (hX : Cx X w M Q) (hd : decode M.2.1 pc = .ok (.ineg, 1)) (k : G X w M I L (pc + 1) (f) (.int (-x) :: st)) : G X w M I L pc f (.int x :: st) := by
  obtain ⟨p, l, e, R, s, m, args, below, meth, c, A, cells, slots, Qf⟩ := X
  obtain ⟨hx, hb, hml, hr, hlk, ho, hts, hK, hSW, hA, hR, hc, hs, hq⟩ := hX
  intro H locs ls hP hD hS hl
  exact lv_ineg hx hb hd (k H locs ls hP hD hS hl)
theorem g_iushr {X : CT} {w : WG} {M : MD} {Q : QT} {I : SI} {L : SL} {pc : Nat} {f : LV} {x y : Int32} {st : List Value} (hX : Cx X w M Q) (hd : decode M.2.1 pc = .ok (.iushr, 1)) (k : G X w M I L (pc + 1) (f) (.int ((x.toUInt32 >>> (y.toUInt32 &&& Int32.toUInt32 31)).toInt32) :: st)) : G X w M I L pc f (.int y :: .int x :: st) := by
  obtain ⟨p, l, e, R, s, m, args, below, meth, c, A, cells, slots, Qf⟩ := X
  obtain ⟨hx, hb, hml, hr, hlk, ho, hts, hK, hSW, hA, hR, hc, hs, hq⟩ := hX
  intro H locs ls hP hD hS hl
  exact lv_iushr hx hb hd rfl (k H locs ls hP hD hS hl)
theorem g_i2l {X : CT} {w : WG} {M : MD} {Q : QT} {I : SI} {L : SL} {pc : Nat} {f : LV} {x : Int32} {st : List Value} (hX : Cx X w M Q) (hd : decode M.2.1 pc = .ok (.i2l, 1)) (k : G X w M I L (pc + 1) (f) (.long (x.toInt64) :: st)) : G X w M I L pc f (.int x :: st) := by
  obtain ⟨p, l, e, R, s, m, args, below, meth, c, A, cells, slots, Qf⟩ := X
  obtain ⟨hx, hb, hml, hr, hlk, ho, hts, hK, hSW, hA, hR, hc, hs, hq⟩ := hX
  intro H locs ls hP hD hS hl
  exact lv_i2l hx hb hd rfl (k H locs ls hP hD hS hl)
theorem g_l2i {X : CT} {w : WG} {M : MD} {Q : QT} {I : SI} {L : SL} {pc : Nat} {f : LV} {x : Int64} {st : List Value} (hX : Cx X w M Q) (hd : decode M.2.1 pc = .ok (.l2i, 1)) (k : G X w M I L (pc + 1) (f) (.int (x.toInt32) :: st)) : G X w M I L pc f (.long x :: st) := by
  obtain ⟨p, l, e, R, s, m, args, below, meth, c, A, cells, slots, Qf⟩ := X
  obtain ⟨hx, hb, hml, hr, hlk, ho, hts, hK, hSW, hA, hR, hc, hs, hq⟩ := hX
  intro H locs ls hP hD hS hl
  exact lv_l2i hx hb hd rfl (k H locs ls hP hD hS hl)
theorem g_i2b {X : CT} {w : WG} {M : MD} {Q : QT} {I : SI} {L : SL} {pc : Nat} {f : LV} {x : Int32} {st : List Value} (hX : Cx X w M Q) (hd : decode M.2.1 pc = .ok (.i2b, 1)) (k : G X w M I L (pc + 1) (f) (.int (x.toInt8.toInt32) :: st)) : G X w M I L pc f (.int x :: st) := by
  obtain ⟨p, l, e, R, s, m, args, below, meth, c, A, cells, slots, Qf⟩ := X
  obtain ⟨hx, hb, hml, hr, hlk, ho, hts, hK, hSW, hA, hR, hc, hs, hq⟩ := hX
  intro H locs ls hP hD hS hl
  exact lv_i2b hx hb hd rfl (k H locs ls hP hD hS hl)
theorem g_i2c {X : CT} {w : WG} {M : MD} {Q : QT} {I : SI} {L : SL} {pc : Nat} {f : LV} {x : Int32} {st : List Value} (hX : Cx X w M Q) (hd : decode M.2.1 pc = .ok (.i2c, 1)) (k : G X w M I L (pc + 1) (f) (.int ((x.toUInt32 % 65536).toInt32) :: st)) : G X w M I L pc f (.int x :: st) := by
  obtain ⟨p, l, e, R, s, m, args, below, meth, c, A, cells, slots, Qf⟩ := X
  obtain ⟨hx, hb, hml, hr, hlk, ho, hts, hK, hSW, hA, hR, hc, hs, hq⟩ := hX
  intro H locs ls hP hD hS hl
  exact lv_i2c hx hb hd rfl (k H locs ls hP hD hS hl)
theorem g_lcmp {X : CT} {w : WG} {M : MD} {Q : QT} {I : SI} {L : SL} {pc : Nat} {f : LV} {x y : Int64} {st : List Value} (hX : Cx X w M Q) (hd : decode M.2.1 pc = .ok (.lcmp, 1)) (k : G X w M I L (pc + 1) (f) (.int (lg_cmp x y) :: st)) : G X w M I L pc f (.long y :: .long x :: st) := by
  obtain ⟨p, l, e, R, s, m, args, below, meth, c, A, cells, slots, Qf⟩ := X
  obtain ⟨hx, hb, hml, hr, hlk, ho, hts, hK, hSW, hA, hR, hc, hs, hq⟩ := hX
  intro H locs ls hP hD hS hl
  exact W.lcmp hx hb hd (k H locs ls hP hD hS hl)
theorem g_dup {X : CT} {w : WG} {M : MD} {Q : QT} {I : SI} {L : SL} {pc : Nat} {f : LV} {a : Value} {st : List Value} (hX : Cx X w M Q) (hd : decode M.2.1 pc = .ok (.dup, 1)) (ha : a.category = 1) (k : G X w M I L (pc + 1) (f) (a :: a :: st)) : G X w M I L pc f (a :: st) := by
  obtain ⟨p, l, e, R, s, m, args, below, meth, c, A, cells, slots, Qf⟩ := X
  obtain ⟨hx, hb, hml, hr, hlk, ho, hts, hK, hSW, hA, hR, hc, hs, hq⟩ := hX
  intro H locs ls hP hD hS hl
  exact lv_dup hx hb hd ha (k H locs ls hP hD hS hl)
theorem g_pop {X : CT} {w : WG} {M : MD} {Q : QT} {I : SI} {L : SL} {pc : Nat} {f : LV} {a : Value} {st : List Value} (hX : Cx X w M Q) (hd : decode M.2.1 pc = .ok (.pop, 1)) (ha : a.category = 1) (k : G X w M I L (pc + 1) (f) (st)) : G X w M I L pc f (a :: st) := by
  obtain ⟨p, l, e, R, s, m, args, below, meth, c, A, cells, slots, Qf⟩ := X
  obtain ⟨hx, hb, hml, hr, hlk, ho, hts, hK, hSW, hA, hR, hc, hs, hq⟩ := hX
  intro H locs ls hP hD hS hl
  exact lv_pop hx hb hd ha (k H locs ls hP hD hS hl)
theorem g_dup_x1 {X : CT} {w : WG} {M : MD} {Q : QT} {I : SI} {L : SL} {pc : Nat} {f : LV} {a b : Value} {st : List Value} (hX : Cx X w M Q) (hd : decode M.2.1 pc = .ok (.dup_x1, 1)) (ha : a.category = 1) (hb2 : b.category = 1) (k : G X w M I L (pc + 1) (f) (a :: b :: a :: st)) : G X w M I L pc f (a :: b :: st) := by
  obtain ⟨p, l, e, R, s, m, args, below, meth, c, A, cells, slots, Qf⟩ := X
  obtain ⟨hx, hb, hml, hr, hlk, ho, hts, hK, hSW, hA, hR, hc, hs, hq⟩ := hX
  intro H locs ls hP hD hS hl
  exact lv_dup_x1 hx hb hd ha hb2 (k H locs ls hP hD hS hl)
theorem g_dup2 {X : CT} {w : WG} {M : MD} {Q : QT} {I : SI} {L : SL} {pc : Nat} {f : LV} {a b : Value} {st : List Value} (hX : Cx X w M Q) (hd : decode M.2.1 pc = .ok (.dup2, 1)) (ha : a.category = 1) (hb2 : b.category = 1) (k : G X w M I L (pc + 1) (f) (a :: b :: a :: b :: st)) : G X w M I L pc f (a :: b :: st) := by
  obtain ⟨p, l, e, R, s, m, args, below, meth, c, A, cells, slots, Qf⟩ := X
  obtain ⟨hx, hb, hml, hr, hlk, ho, hts, hK, hSW, hA, hR, hc, hs, hq⟩ := hX
  intro H locs ls hP hD hS hl
  exact lv_dup2_11 hx hb hd ha hb2 (k H locs ls hP hD hS hl)
theorem g_dup2l {X : CT} {w : WG} {M : MD} {Q : QT} {I : SI} {L : SL} {pc : Nat} {f : LV} {a : Value} {st : List Value} (hX : Cx X w M Q) (hd : decode M.2.1 pc = .ok (.dup2, 1)) (ha : a.category = 2) (k : G X w M I L (pc + 1) (f) (a :: a :: st)) : G X w M I L pc f (a :: st) := by
  obtain ⟨p, l, e, R, s, m, args, below, meth, c, A, cells, slots, Qf⟩ := X
  obtain ⟨hx, hb, hml, hr, hlk, ho, hts, hK, hSW, hA, hR, hc, hs, hq⟩ := hX
  intro H locs ls hP hD hS hl
  exact lv_dup2_2 hx hb hd ha (k H locs ls hP hD hS hl)
theorem g_if_eq {X : CT} {w : WG} {M : MD} {Q : QT} {I : SI} {L : SL} {pc : Nat} {f : LV} {x : Int32} {off : Int} {tgt : Nat} {st : List Value} (hX : Cx X w M Q) (hd : decode M.2.1 pc = .ok (.ifCond .eq off, 3)) (ht : (pc : Int) + off = (tgt : Int)) (kt : x = 0 → G X w M I L tgt f st) (kf : ¬ x = 0 → G X w M I L (pc + 3) f st) : G X w M I L pc f (.int x :: st) := by
  obtain ⟨p, l, e, R, s, m, args, below, meth, c, A, cells, slots, Qf⟩ := X
  obtain ⟨hx, hb, hml, hr, hlk, ho, hts, hK, hSW, hA, hR, hc, hs, hq⟩ := hX
  intro H locs ls hP hD hS hl
  exact lv_if_eq hx hb hd ht (fun h => kt h H locs ls hP hD hS hl) (fun h => kf h H locs ls hP hD hS hl)
theorem g_icmp_eq {X : CT} {w : WG} {M : MD} {Q : QT} {I : SI} {L : SL} {pc : Nat} {f : LV} {x y : Int32} {off : Int} {tgt : Nat} {st : List Value} (hX : Cx X w M Q) (hd : decode M.2.1 pc = .ok (.if_icmp .eq off, 3)) (ht : (pc : Int) + off = (tgt : Int)) (kt : x = y → G X w M I L tgt f st) (kf : ¬ x = y → G X w M I L (pc + 3) f st) : G X w M I L pc f (.int y :: .int x :: st) := by
  obtain ⟨p, l, e, R, s, m, args, below, meth, c, A, cells, slots, Qf⟩ := X
  obtain ⟨hx, hb, hml, hr, hlk, ho, hts, hK, hSW, hA, hR, hc, hs, hq⟩ := hX
  intro H locs ls hP hD hS hl
  exact lv_icmp_eq hx hb hd ht (fun h => kt h H locs ls hP hD hS hl) (fun h => kf h H locs ls hP hD hS hl)
theorem g_if_ne {X : CT} {w : WG} {M : MD} {Q : QT} {I : SI} {L : SL} {pc : Nat} {f : LV} {x : Int32} {off : Int} {tgt : Nat} {st : List Value} (hX : Cx X w M Q) (hd : decode M.2.1 pc = .ok (.ifCond .ne off, 3)) (ht : (pc : Int) + off = (tgt : Int)) (kt : ¬ x = 0 → G X w M I L tgt f st) (kf : x = 0 → G X w M I L (pc + 3) f st) : G X w M I L pc f (.int x :: st) := by
  obtain ⟨p, l, e, R, s, m, args, below, meth, c, A, cells, slots, Qf⟩ := X
  obtain ⟨hx, hb, hml, hr, hlk, ho, hts, hK, hSW, hA, hR, hc, hs, hq⟩ := hX
  intro H locs ls hP hD hS hl
  exact lv_if_ne hx hb hd ht (fun h => kt h H locs ls hP hD hS hl) (fun h => kf h H locs ls hP hD hS hl)
theorem g_icmp_ne {X : CT} {w : WG} {M : MD} {Q : QT} {I : SI} {L : SL} {pc : Nat} {f : LV} {x y : Int32} {off : Int} {tgt : Nat} {st : List Value} (hX : Cx X w M Q) (hd : decode M.2.1 pc = .ok (.if_icmp .ne off, 3)) (ht : (pc : Int) + off = (tgt : Int)) (kt : ¬ x = y → G X w M I L tgt f st) (kf : x = y → G X w M I L (pc + 3) f st) : G X w M I L pc f (.int y :: .int x :: st) := by
  obtain ⟨p, l, e, R, s, m, args, below, meth, c, A, cells, slots, Qf⟩ := X
  obtain ⟨hx, hb, hml, hr, hlk, ho, hts, hK, hSW, hA, hR, hc, hs, hq⟩ := hX
  intro H locs ls hP hD hS hl
  exact lv_icmp_ne hx hb hd ht (fun h => kt h H locs ls hP hD hS hl) (fun h => kf h H locs ls hP hD hS hl)
theorem g_if_lt {X : CT} {w : WG} {M : MD} {Q : QT} {I : SI} {L : SL} {pc : Nat} {f : LV} {x : Int32} {off : Int} {tgt : Nat} {st : List Value} (hX : Cx X w M Q) (hd : decode M.2.1 pc = .ok (.ifCond .lt off, 3)) (ht : (pc : Int) + off = (tgt : Int)) (kt : x < 0 → G X w M I L tgt f st) (kf : ¬ x < 0 → G X w M I L (pc + 3) f st) : G X w M I L pc f (.int x :: st) := by
  obtain ⟨p, l, e, R, s, m, args, below, meth, c, A, cells, slots, Qf⟩ := X
  obtain ⟨hx, hb, hml, hr, hlk, ho, hts, hK, hSW, hA, hR, hc, hs, hq⟩ := hX
  intro H locs ls hP hD hS hl
  exact lv_if_lt hx hb hd ht (fun h => kt h H locs ls hP hD hS hl) (fun h => kf h H locs ls hP hD hS hl)
theorem g_icmp_lt {X : CT} {w : WG} {M : MD} {Q : QT} {I : SI} {L : SL} {pc : Nat} {f : LV} {x y : Int32} {off : Int} {tgt : Nat} {st : List Value} (hX : Cx X w M Q) (hd : decode M.2.1 pc = .ok (.if_icmp .lt off, 3)) (ht : (pc : Int) + off = (tgt : Int)) (kt : x < y → G X w M I L tgt f st) (kf : ¬ x < y → G X w M I L (pc + 3) f st) : G X w M I L pc f (.int y :: .int x :: st) := by
  obtain ⟨p, l, e, R, s, m, args, below, meth, c, A, cells, slots, Qf⟩ := X
  obtain ⟨hx, hb, hml, hr, hlk, ho, hts, hK, hSW, hA, hR, hc, hs, hq⟩ := hX
  intro H locs ls hP hD hS hl
  exact lv_icmp_lt hx hb hd ht (fun h => kt h H locs ls hP hD hS hl) (fun h => kf h H locs ls hP hD hS hl)
theorem g_if_ge {X : CT} {w : WG} {M : MD} {Q : QT} {I : SI} {L : SL} {pc : Nat} {f : LV} {x : Int32} {off : Int} {tgt : Nat} {st : List Value} (hX : Cx X w M Q) (hd : decode M.2.1 pc = .ok (.ifCond .ge off, 3)) (ht : (pc : Int) + off = (tgt : Int)) (kt : 0 ≤ x → G X w M I L tgt f st) (kf : ¬ 0 ≤ x → G X w M I L (pc + 3) f st) : G X w M I L pc f (.int x :: st) := by
  obtain ⟨p, l, e, R, s, m, args, below, meth, c, A, cells, slots, Qf⟩ := X
  obtain ⟨hx, hb, hml, hr, hlk, ho, hts, hK, hSW, hA, hR, hc, hs, hq⟩ := hX
  intro H locs ls hP hD hS hl
  exact lv_if_ge hx hb hd ht (fun h => kt h H locs ls hP hD hS hl) (fun h => kf h H locs ls hP hD hS hl)
theorem g_icmp_ge {X : CT} {w : WG} {M : MD} {Q : QT} {I : SI} {L : SL} {pc : Nat} {f : LV} {x y : Int32} {off : Int} {tgt : Nat} {st : List Value} (hX : Cx X w M Q) (hd : decode M.2.1 pc = .ok (.if_icmp .ge off, 3)) (ht : (pc : Int) + off = (tgt : Int)) (kt : y ≤ x → G X w M I L tgt f st) (kf : ¬ y ≤ x → G X w M I L (pc + 3) f st) : G X w M I L pc f (.int y :: .int x :: st) := by
  obtain ⟨p, l, e, R, s, m, args, below, meth, c, A, cells, slots, Qf⟩ := X
  obtain ⟨hx, hb, hml, hr, hlk, ho, hts, hK, hSW, hA, hR, hc, hs, hq⟩ := hX
  intro H locs ls hP hD hS hl
  exact lv_icmp_ge hx hb hd ht (fun h => kt h H locs ls hP hD hS hl) (fun h => kf h H locs ls hP hD hS hl)
theorem g_if_gt {X : CT} {w : WG} {M : MD} {Q : QT} {I : SI} {L : SL} {pc : Nat} {f : LV} {x : Int32} {off : Int} {tgt : Nat} {st : List Value} (hX : Cx X w M Q) (hd : decode M.2.1 pc = .ok (.ifCond .gt off, 3)) (ht : (pc : Int) + off = (tgt : Int)) (kt : 0 < x → G X w M I L tgt f st) (kf : ¬ 0 < x → G X w M I L (pc + 3) f st) : G X w M I L pc f (.int x :: st) := by
  obtain ⟨p, l, e, R, s, m, args, below, meth, c, A, cells, slots, Qf⟩ := X
  obtain ⟨hx, hb, hml, hr, hlk, ho, hts, hK, hSW, hA, hR, hc, hs, hq⟩ := hX
  intro H locs ls hP hD hS hl
  exact lv_if_gt hx hb hd ht (fun h => kt h H locs ls hP hD hS hl) (fun h => kf h H locs ls hP hD hS hl)
theorem g_icmp_gt {X : CT} {w : WG} {M : MD} {Q : QT} {I : SI} {L : SL} {pc : Nat} {f : LV} {x y : Int32} {off : Int} {tgt : Nat} {st : List Value} (hX : Cx X w M Q) (hd : decode M.2.1 pc = .ok (.if_icmp .gt off, 3)) (ht : (pc : Int) + off = (tgt : Int)) (kt : y < x → G X w M I L tgt f st) (kf : ¬ y < x → G X w M I L (pc + 3) f st) : G X w M I L pc f (.int y :: .int x :: st) := by
  obtain ⟨p, l, e, R, s, m, args, below, meth, c, A, cells, slots, Qf⟩ := X
  obtain ⟨hx, hb, hml, hr, hlk, ho, hts, hK, hSW, hA, hR, hc, hs, hq⟩ := hX
  intro H locs ls hP hD hS hl
  exact lv_icmp_gt hx hb hd ht (fun h => kt h H locs ls hP hD hS hl) (fun h => kf h H locs ls hP hD hS hl)
theorem g_if_le {X : CT} {w : WG} {M : MD} {Q : QT} {I : SI} {L : SL} {pc : Nat} {f : LV} {x : Int32} {off : Int} {tgt : Nat} {st : List Value} (hX : Cx X w M Q) (hd : decode M.2.1 pc = .ok (.ifCond .le off, 3)) (ht : (pc : Int) + off = (tgt : Int)) (kt : x ≤ 0 → G X w M I L tgt f st) (kf : ¬ x ≤ 0 → G X w M I L (pc + 3) f st) : G X w M I L pc f (.int x :: st) := by
  obtain ⟨p, l, e, R, s, m, args, below, meth, c, A, cells, slots, Qf⟩ := X
  obtain ⟨hx, hb, hml, hr, hlk, ho, hts, hK, hSW, hA, hR, hc, hs, hq⟩ := hX
  intro H locs ls hP hD hS hl
  exact lv_if_le hx hb hd ht (fun h => kt h H locs ls hP hD hS hl) (fun h => kf h H locs ls hP hD hS hl)
theorem g_icmp_le {X : CT} {w : WG} {M : MD} {Q : QT} {I : SI} {L : SL} {pc : Nat} {f : LV} {x y : Int32} {off : Int} {tgt : Nat} {st : List Value} (hX : Cx X w M Q) (hd : decode M.2.1 pc = .ok (.if_icmp .le off, 3)) (ht : (pc : Int) + off = (tgt : Int)) (kt : x ≤ y → G X w M I L tgt f st) (kf : ¬ x ≤ y → G X w M I L (pc + 3) f st) : G X w M I L pc f (.int y :: .int x :: st) := by
  obtain ⟨p, l, e, R, s, m, args, below, meth, c, A, cells, slots, Qf⟩ := X
  obtain ⟨hx, hb, hml, hr, hlk, ho, hts, hK, hSW, hA, hR, hc, hs, hq⟩ := hX
  intro H locs ls hP hD hS hl
  exact lv_icmp_le hx hb hd ht (fun h => kt h H locs ls hP hD hS hl) (fun h => kf h H locs ls hP hD hS hl)
theorem g_goto {X : CT} {w : WG} {M : MD} {Q : QT} {I : SI} {L : SL} {pc : Nat} {f : LV} {off : Int} {tgt : Nat} {st : List Value} (hX : Cx X w M Q) (hd : decode M.2.1 pc = .ok (.goto off, 3)) (ht : (pc : Int) + off = (tgt : Int)) (kk : G X w M I L tgt f st) : G X w M I L pc f st := by
  obtain ⟨p, l, e, R, s, m, args, below, meth, c, A, cells, slots, Qf⟩ := X
  obtain ⟨hx, hb, hml, hr, hlk, ho, hts, hK, hSW, hA, hR, hc, hs, hq⟩ := hX
  intro H locs ls hP hD hS hl
  exact lv_goto hx hb hd ht (kk H locs ls hP hD hS hl)
theorem g_tabOut {X : CT} {w : WG} {M : MD} {Q : QT} {I : SI} {L : SL} {pc : Nat} {f : LV} {dflt lo hi : Int} {offs : Array Int} {len : Nat} {x : Int32} {tgt : Nat} {st : List Value} (hX : Cx X w M Q) (hd : decode M.2.1 pc = .ok (.tableswitch dflt lo hi offs, len)) (h : x.toInt < lo ∨ hi < x.toInt) (ht : (pc : Int) + dflt = (tgt : Int)) (kk : G X w M I L tgt f st) : G X w M I L pc f (.int x :: st) := by
  obtain ⟨p, l, e, R, s, m, args, below, meth, c, A, cells, slots, Qf⟩ := X
  obtain ⟨hx, hb, hml, hr, hlk, ho, hts, hK, hSW, hA, hR, hc, hs, hq⟩ := hX
  intro H locs ls hP hD hS hl
  exact lv_tableOut hx hb hd h ht (kk H locs ls hP hD hS hl)
theorem g_tabIn {X : CT} {w : WG} {M : MD} {Q : QT} {I : SI} {L : SL} {pc : Nat} {f : LV} {dflt lo hi : Int} {offs : Array Int} {len : Nat} {x : Int32} {off : Int} {tgt : Nat} {st : List Value} (hX : Cx X w M Q) (hd : decode M.2.1 pc = .ok (.tableswitch dflt lo hi offs, len)) (h1 : ¬ x.toInt < lo) (h2 : ¬ hi < x.toInt) (ho2 : offs[(x.toInt - lo).toNat]? = some off) (ht : (pc : Int) + off = (tgt : Int)) (kk : G X w M I L tgt f st) : G X w M I L pc f (.int x :: st) := by
  obtain ⟨p, l, e, R, s, m, args, below, meth, c, A, cells, slots, Qf⟩ := X
  obtain ⟨hx, hb, hml, hr, hlk, ho, hts, hK, hSW, hA, hR, hc, hs, hq⟩ := hX
  intro H locs ls hP hD hS hl
  exact lv_tableIn hx hb hd h1 h2 ho2 ht (kk H locs ls hP hD hS hl)
theorem g_lookup {X : CT} {w : WG} {M : MD} {Q : QT} {I : SI} {L : SL} {pc : Nat} {f : LV} {dflt : Int} {ps : Array (Int × Int)} {len : Nat} {x : Int32} {off : Int} {tgt : Nat} {st : List Value} (hX : Cx X w M Q) (hd : decode M.2.1 pc = .ok (.lookupswitch dflt ps, len)) (hp : (ps.toList.zip (ps.toList.drop 1)).all (fun (a, next) => a.1 < next.1) = true) (ho2 : Op.lookupswitch.offset ps.toList dflt x.toInt = off) (ht : (pc : Int) + off = (tgt : Int)) (kk : G X w M I L tgt f st) : G X w M I L pc f (.int x :: st) := by
  obtain ⟨p, l, e, R, s, m, args, below, meth, c, A, cells, slots, Qf⟩ := X
  obtain ⟨hx, hb, hml, hr, hlk, ho, hts, hK, hSW, hA, hR, hc, hs, hq⟩ := hX
  intro H locs ls hP hD hS hl
  exact lv_lookup hx hb hd hp ho2 ht (kk H locs ls hP hD hS hl)
theorem cE_obj (w : WG) {c n : Nat} (h : c < 5) (i : Nat → Int32) (j : Nat → Int64) (r : Nat → Option Nat) : cE w (c, n) i j r = .inr (c, (ft c).mapIdx (fun k t => fv t (i k) (j k) (r k))) := by
  simp [cE, h]
theorem cE_byte (w : WG) (n : Nat) (i : Nat → Int32) (j : Nat → Int64) (r : Nat → Option Nat) : cE w (5, n) i j r = .inl (w.2.1.1, n, .inl i) := rfl
theorem cE_int (w : WG) (n : Nat) (i : Nat → Int32) (j : Nat → Int64) (r : Nat → Option Nat) : cE w (6, n) i j r = .inl (w.2.1.2.1, n, .inl i) := rfl
theorem cE_ref (w : WG) (n : Nat) (i : Nat → Int32) (j : Nat → Int64) (r : Nat → Option Nat) : cE w (7, n) i j r = .inl (w.2.1.2.2, n, .inr (.inr (.inr (.inr r)))) := rfl
theorem ob_get {w : WG} {I : SI} {L : SL} {o c n : Nat} (hc : c < 5) (h : (gK w)[o]? = some (c, n)) : (wsO w I L)[o]? = some (gA w o, .inr (c, (ft c).mapIdx (fun k t => fv t (I o k) (L o k) (gP w o k)))) := by
  rw [wsO_get h, cE_obj w hc]
theorem ob_setI {w : WG} {I : SI} {L : SL} {o c n k : Nat} (hc : c < 5) (h : (gK w)[o]? = some (c, n)) (hf : (ft c)[k]? = some 0) (x : Int32) : (wsO w I L).set o (gA w o, .inr (c, ((ft c).mapIdx (fun k t => fv t (I o k) (L o k) (gP w o k))).set k (.int x))) = wsO w (rS I o (upd (I o) k x)) L := by
  rw [fs_setI _ _ _ x hf, ← cE_obj w (n := n) hc]
  exact wsO_setI h
theorem ob_setL {w : WG} {I : SI} {L : SL} {o c n k : Nat} (hc : c < 5) (h : (gK w)[o]? = some (c, n)) (hf : (ft c)[k]? = some 1) (x : Int64) : (wsO w I L).set o (gA w o, .inr (c, ((ft c).mapIdx (fun k t => fv t (I o k) (L o k) (gP w o k))).set k (.long x))) = wsO w I (rS L o (vp_updL (L o) k x)) := by
  rw [fs_setL _ _ _ x hf, ← cE_obj w (n := n) hc]
  exact wsO_setL h
/-- what a program decides of a field -/
def pf1 (k t : Nat) (ty : FieldType) : Prop := (ft 0)[k]? = some t ∧ k < 6 ∧ (TX1 k).2.2.2 = false ∧ parseFieldDescriptor (TX1 k).2.2.1 = some ty
theorem g_get1I {X : CT} {w : WG} {M : MD} {Q : QT} {I : SI} {L : SL} {pc : Nat} {f : LV} {o n idx : Nat} {st : List Value} (hX : Cx X w M Q) (k : Nat) (hd : decode M.2.1 pc = .ok (.getfield idx, 3)) (hw : Cond.fieldLink M.1.cls idx (TX1 k).1 (TX1 k).2.1 (TX1 k).2.2.1 ∈ BG) (hk : (gK w)[o]? = some (0, n)) (hf : (ft 0)[k]? = some 0 ∧ k < 6) (kk : G X w M I L (pc + 3) f (.int (I o k) :: st)) : G X w M I L pc f (.ref (gA w o) :: st) := by
  obtain ⟨p, l, e, R, s, m, args, below, meth, c, A, cells, slots, Qf⟩ := X
  obtain ⟨hx, hb, hml, hr, hlk, ho, hts, hK, hSW, hA, hR, hc, hs, hq⟩ := hX
  intro H locs ls hP hD hS hl
  exact va_get (D := w.1) (cl := vwCl) (ci := 0) (C := RX1) (T := TX1) (N := 6) hx hb hts inB1 ho hK hP o (ob_get (by decide) hk) rfl k hf.2 (hts _ hw) (fun _ h => h) (fs_get _ _ _ hf.1) hd (kk H locs ls hP hD hS hl)
theorem g_get1R {X : CT} {w : WG} {M : MD} {Q : QT} {I : SI} {L : SL} {pc : Nat} {f : LV} {o n idx a : Nat} {st : List Value} (hX : Cx X w M Q) (k : Nat) (hd : decode M.2.1 pc = .ok (.getfield idx, 3)) (hw : Cond.fieldLink M.1.cls idx (TX1 k).1 (TX1 k).2.1 (TX1 k).2.2.1 ∈ BG) (hk : (gK w)[o]? = some (0, n)) (hf : (ft 0)[k]? = some 2 ∧ k < 6) (hp : gP w o k = some a) (kk : G X w M I L (pc + 3) f (.ref a :: st)) : G X w M I L pc f (.ref (gA w o) :: st) := by
  obtain ⟨p, l, e, R, s, m, args, below, meth, c, A, cells, slots, Qf⟩ := X
  obtain ⟨hx, hb, hml, hr, hlk, ho, hts, hK, hSW, hA, hR, hc, hs, hq⟩ := hX
  intro H locs ls hP hD hS hl
  refine va_get (D := w.1) (cl := vwCl) (ci := 0) (C := RX1) (T := TX1) (N := 6) (v := .ref a) hx hb hts inB1 ho hK hP o (ob_get (by decide) hk) rfl k hf.2 (hts _ hw) (fun _ h => h) ?_ hd (kk H locs ls hP hD hS hl)
  rw [fs_get _ _ _ hf.1, hp]
  rfl
theorem g_put1I {X : CT} {w : WG} {M : MD} {Q : QT} {I : SI} {L : SL} {pc : Nat} {f : LV} {o n idx : Nat} {x : Int32} {st : List Value} (hX : Cx X w M Q) (k : Nat) (hd : decode M.2.1 pc = .ok (.putfield idx, 3)) (hw : Cond.fieldLink M.1.cls idx (TX1 k).1 (TX1 k).2.1 (TX1 k).2.2.1 ∈ BG) (hk : (gK w)[o]? = some (0, n)) (hf : pf1 k 0 .int) (kk : G X w M (rS I o (upd (I o) k x)) L (pc + 3) f st) : G X w M I L pc f (.int x :: .ref (gA w o) :: st) := by
  obtain ⟨p, l, e, R, s, m, args, below, meth, c, A, cells, slots, Qf⟩ := X
  obtain ⟨hx, hb, hml, hr, hlk, ho, hts, hK, hSW, hA, hR, hc, hs, hq⟩ := hX
  intro H locs ls hP hD hS hl
  obtain ⟨hf0, hN, hfin, hpd⟩ := hf
  refine va_put (D := w.1) (cl := vwCl) (ci := 0) (C := RX1) (T := TX1) (N := 6) hx hb hts inB1 tyX1 tyX1_ok nmX1 ho hK hP hD hS o (ob_get (by decide) hk) rfl k hN (hts _ hw) (fun _ h => h) hfin hpd rfl rfl ?_ hd (fun H1 locs1 hP1 hD1 hS1 => kk H1 locs1 ls ?_ ?_ hS1 hl)
  · simpa using (List.getElem?_eq_some_iff.mp hf0).1
  · rw [← ob_setI (by decide) hk hf0 x]
    exact hP1
  · rw [← ob_setI (by decide) hk hf0 x]
    exact hD1
/-- what a program decides of a field -/
def pf2 (k t : Nat) (ty : FieldType) : Prop := (ft 1)[k]? = some t ∧ k < 2 ∧ (TX2 k).2.2.2 = false ∧ parseFieldDescriptor (TX2 k).2.2.1 = some ty
theorem g_get2I {X : CT} {w : WG} {M : MD} {Q : QT} {I : SI} {L : SL} {pc : Nat} {f : LV} {o n idx : Nat} {st : List Value} (hX : Cx X w M Q) (k : Nat) (hd : decode M.2.1 pc = .ok (.getfield idx, 3)) (hw : Cond.fieldLink M.1.cls idx (TX2 k).1 (TX2 k).2.1 (TX2 k).2.2.1 ∈ BG) (hk : (gK w)[o]? = some (1, n)) (hf : (ft 1)[k]? = some 0 ∧ k < 2) (kk : G X w M I L (pc + 3) f (.int (I o k) :: st)) : G X w M I L pc f (.ref (gA w o) :: st) := by
  obtain ⟨p, l, e, R, s, m, args, below, meth, c, A, cells, slots, Qf⟩ := X
  obtain ⟨hx, hb, hml, hr, hlk, ho, hts, hK, hSW, hA, hR, hc, hs, hq⟩ := hX
  intro H locs ls hP hD hS hl
  exact va_get (D := w.1) (cl := vwCl) (ci := 1) (C := RX2) (T := TX2) (N := 2) hx hb hts inB2 ho hK hP o (ob_get (by decide) hk) rfl k hf.2 (hts _ hw) (fun _ h => h) (fs_get _ _ _ hf.1) hd (kk H locs ls hP hD hS hl)
theorem g_get2R {X : CT} {w : WG} {M : MD} {Q : QT} {I : SI} {L : SL} {pc : Nat} {f : LV} {o n idx a : Nat} {st : List Value} (hX : Cx X w M Q) (k : Nat) (hd : decode M.2.1 pc = .ok (.getfield idx, 3)) (hw : Cond.fieldLink M.1.cls idx (TX2 k).1 (TX2 k).2.1 (TX2 k).2.2.1 ∈ BG) (hk : (gK w)[o]? = some (1, n)) (hf : (ft 1)[k]? = some 2 ∧ k < 2) (hp : gP w o k = some a) (kk : G X w M I L (pc + 3) f (.ref a :: st)) : G X w M I L pc f (.ref (gA w o) :: st) := by
  obtain ⟨p, l, e, R, s, m, args, below, meth, c, A, cells, slots, Qf⟩ := X
  obtain ⟨hx, hb, hml, hr, hlk, ho, hts, hK, hSW, hA, hR, hc, hs, hq⟩ := hX
  intro H locs ls hP hD hS hl
  refine va_get (D := w.1) (cl := vwCl) (ci := 1) (C := RX2) (T := TX2) (N := 2) (v := .ref a) hx hb hts inB2 ho hK hP o (ob_get (by decide) hk) rfl k hf.2 (hts _ hw) (fun _ h => h) ?_ hd (kk H locs ls hP hD hS hl)
  rw [fs_get _ _ _ hf.1, hp]
  rfl
theorem g_put2I {X : CT} {w : WG} {M : MD} {Q : QT} {I : SI} {L : SL} {pc : Nat} {f : LV} {o n idx : Nat} {x : Int32} {st : List Value} (hX : Cx X w M Q) (k : Nat) (hd : decode M.2.1 pc = .ok (.putfield idx, 3)) (hw : Cond.fieldLink M.1.cls idx (TX2 k).1 (TX2 k).2.1 (TX2 k).2.2.1 ∈ BG) (hk : (gK w)[o]? = some (1, n)) (hf : pf2 k 0 .int) (kk : G X w M (rS I o (upd (I o) k x)) L (pc + 3) f st) : G X w M I L pc f (.int x :: .ref (gA w o) :: st) := by
  obtain ⟨p, l, e, R, s, m, args, below, meth, c, A, cells, slots, Qf⟩ := X
  obtain ⟨hx, hb, hml, hr, hlk, ho, hts, hK, hSW, hA, hR, hc, hs, hq⟩ := hX
  intro H locs ls hP hD hS hl
  obtain ⟨hf0, hN, hfin, hpd⟩ := hf
  refine va_put (D := w.1) (cl := vwCl) (ci := 1) (C := RX2) (T := TX2) (N := 2) hx hb hts inB2 tyX2 tyX2_ok nmX2 ho hK hP hD hS o (ob_get (by decide) hk) rfl k hN (hts _ hw) (fun _ h => h) hfin hpd rfl rfl ?_ hd (fun H1 locs1 hP1 hD1 hS1 => kk H1 locs1 ls ?_ ?_ hS1 hl)
  · simpa using (List.getElem?_eq_some_iff.mp hf0).1
  · rw [← ob_setI (by decide) hk hf0 x]
    exact hP1
  · rw [← ob_setI (by decide) hk hf0 x]
    exact hD1
/-- what a program decides of a field -/
def pf3 (k t : Nat) (ty : FieldType) : Prop := (ft 2)[k]? = some t ∧ k < 15 ∧ (TX3 k).2.2.2 = false ∧ parseFieldDescriptor (TX3 k).2.2.1 = some ty
theorem g_get3I {X : CT} {w : WG} {M : MD} {Q : QT} {I : SI} {L : SL} {pc : Nat} {f : LV} {o n idx : Nat} {st : List Value} (hX : Cx X w M Q) (k : Nat) (hd : decode M.2.1 pc = .ok (.getfield idx, 3)) (hw : Cond.fieldLink M.1.cls idx (TX3 k).1 (TX3 k).2.1 (TX3 k).2.2.1 ∈ BG) (hk : (gK w)[o]? = some (2, n)) (hf : (ft 2)[k]? = some 0 ∧ k < 15) (kk : G X w M I L (pc + 3) f (.int (I o k) :: st)) : G X w M I L pc f (.ref (gA w o) :: st) := by
  obtain ⟨p, l, e, R, s, m, args, below, meth, c, A, cells, slots, Qf⟩ := X
  obtain ⟨hx, hb, hml, hr, hlk, ho, hts, hK, hSW, hA, hR, hc, hs, hq⟩ := hX
  intro H locs ls hP hD hS hl
  exact va_get (D := w.1) (cl := vwCl) (ci := 2) (C := RX3) (T := TX3) (N := 15) hx hb hts inB3 ho hK hP o (ob_get (by decide) hk) rfl k hf.2 (hts _ hw) (fun _ h => h) (fs_get _ _ _ hf.1) hd (kk H locs ls hP hD hS hl)
theorem g_get3R {X : CT} {w : WG} {M : MD} {Q : QT} {I : SI} {L : SL} {pc : Nat} {f : LV} {o n idx a : Nat} {st : List Value} (hX : Cx X w M Q) (k : Nat) (hd : decode M.2.1 pc = .ok (.getfield idx, 3)) (hw : Cond.fieldLink M.1.cls idx (TX3 k).1 (TX3 k).2.1 (TX3 k).2.2.1 ∈ BG) (hk : (gK w)[o]? = some (2, n)) (hf : (ft 2)[k]? = some 2 ∧ k < 15) (hp : gP w o k = some a) (kk : G X w M I L (pc + 3) f (.ref a :: st)) : G X w M I L pc f (.ref (gA w o) :: st) := by
  obtain ⟨p, l, e, R, s, m, args, below, meth, c, A, cells, slots, Qf⟩ := X
  obtain ⟨hx, hb, hml, hr, hlk, ho, hts, hK, hSW, hA, hR, hc, hs, hq⟩ := hX
  intro H locs ls hP hD hS hl
  refine va_get (D := w.1) (cl := vwCl) (ci := 2) (C := RX3) (T := TX3) (N := 15) (v := .ref a) hx hb hts inB3 ho hK hP o (ob_get (by decide) hk) rfl k hf.2 (hts _ hw) (fun _ h => h) ?_ hd (kk H locs ls hP hD hS hl)
  rw [fs_get _ _ _ hf.1, hp]
  rfl
theorem g_put3I {X : CT} {w : WG} {M : MD} {Q : QT} {I : SI} {L : SL} {pc : Nat} {f : LV} {o n idx : Nat} {x : Int32} {st : List Value} (hX : Cx X w M Q) (k : Nat) (hd : decode M.2.1 pc = .ok (.putfield idx, 3)) (hw : Cond.fieldLink M.1.cls idx (TX3 k).1 (TX3 k).2.1 (TX3 k).2.2.1 ∈ BG) (hk : (gK w)[o]? = some (2, n)) (hf : pf3 k 0 .int) (kk : G X w M (rS I o (upd (I o) k x)) L (pc + 3) f st) : G X w M I L pc f (.int x :: .ref (gA w o) :: st) := by
  obtain ⟨p, l, e, R, s, m, args, below, meth, c, A, cells, slots, Qf⟩ := X
  obtain ⟨hx, hb, hml, hr, hlk, ho, hts, hK, hSW, hA, hR, hc, hs, hq⟩ := hX
  intro H locs ls hP hD hS hl
  obtain ⟨hf0, hN, hfin, hpd⟩ := hf
  refine va_put (D := w.1) (cl := vwCl) (ci := 2) (C := RX3) (T := TX3) (N := 15) hx hb hts inB3 tyX3 tyX3_ok nmX3 ho hK hP hD hS o (ob_get (by decide) hk) rfl k hN (hts _ hw) (fun _ h => h) hfin hpd rfl rfl ?_ hd (fun H1 locs1 hP1 hD1 hS1 => kk H1 locs1 ls ?_ ?_ hS1 hl)
  · simpa using (List.getElem?_eq_some_iff.mp hf0).1
  · rw [← ob_setI (by decide) hk hf0 x]
    exact hP1
  · rw [← ob_setI (by decide) hk hf0 x]
    exact hD1
/-- what a program decides of a field -/
def pf4 (k t : Nat) (ty : FieldType) : Prop := (ft 3)[k]? = some t ∧ k < 12 ∧ (TX4 k).2.2.2 = false ∧ parseFieldDescriptor (TX4 k).2.2.1 = some ty
theorem g_get4I {X : CT} {w : WG} {M : MD} {Q : QT} {I : SI} {L : SL} {pc : Nat} {f : LV} {o n idx : Nat} {st : List Value} (hX : Cx X w M Q) (k : Nat) (hd : decode M.2.1 pc = .ok (.getfield idx, 3)) (hw : Cond.fieldLink M.1.cls idx (TX4 k).1 (TX4 k).2.1 (TX4 k).2.2.1 ∈ BG) (hk : (gK w)[o]? = some (3, n)) (hf : (ft 3)[k]? = some 0 ∧ k < 12) (kk : G X w M I L (pc + 3) f (.int (I o k) :: st)) : G X w M I L pc f (.ref (gA w o) :: st) := by
  obtain ⟨p, l, e, R, s, m, args, below, meth, c, A, cells, slots, Qf⟩ := X
  obtain ⟨hx, hb, hml, hr, hlk, ho, hts, hK, hSW, hA, hR, hc, hs, hq⟩ := hX
  intro H locs ls hP hD hS hl
  exact va_get (D := w.1) (cl := vwCl) (ci := 3) (C := RX4) (T := TX4) (N := 12) hx hb hts inB4 ho hK hP o (ob_get (by decide) hk) rfl k hf.2 (hts _ hw) (fun _ h => h) (fs_get _ _ _ hf.1) hd (kk H locs ls hP hD hS hl)
theorem g_get4R {X : CT} {w : WG} {M : MD} {Q : QT} {I : SI} {L : SL} {pc : Nat} {f : LV} {o n idx a : Nat} {st : List Value} (hX : Cx X w M Q) (k : Nat) (hd : decode M.2.1 pc = .ok (.getfield idx, 3)) (hw : Cond.fieldLink M.1.cls idx (TX4 k).1 (TX4 k).2.1 (TX4 k).2.2.1 ∈ BG) (hk : (gK w)[o]? = some (3, n)) (hf : (ft 3)[k]? = some 2 ∧ k < 12) (hp : gP w o k = some a) (kk : G X w M I L (pc + 3) f (.ref a :: st)) : G X w M I L pc f (.ref (gA w o) :: st) := by
  obtain ⟨p, l, e, R, s, m, args, below, meth, c, A, cells, slots, Qf⟩ := X
  obtain ⟨hx, hb, hml, hr, hlk, ho, hts, hK, hSW, hA, hR, hc, hs, hq⟩ := hX
  intro H locs ls hP hD hS hl
  refine va_get (D := w.1) (cl := vwCl) (ci := 3) (C := RX4) (T := TX4) (N := 12) (v := .ref a) hx hb hts inB4 ho hK hP o (ob_get (by decide) hk) rfl k hf.2 (hts _ hw) (fun _ h => h) ?_ hd (kk H locs ls hP hD hS hl)
  rw [fs_get _ _ _ hf.1, hp]
  rfl
theorem g_put4I {X : CT} {w : WG} {M : MD} {Q : QT} {I : SI} {L : SL} {pc : Nat} {f : LV} {o n idx : Nat} {x : Int32} {st : List Value} (hX : Cx X w M Q) (k : Nat) (hd : decode M.2.1 pc = .ok (.putfield idx, 3)) (hw : Cond.fieldLink M.1.cls idx (TX4 k).1 (TX4 k).2.1 (TX4 k).2.2.1 ∈ BG) (hk : (gK w)[o]? = some (3, n)) (hf : pf4 k 0 .int) (kk : G X w M (rS I o (upd (I o) k x)) L (pc + 3) f st) : G X w M I L pc f (.int x :: .ref (gA w o) :: st) := by
  obtain ⟨p, l, e, R, s, m, args, below, meth, c, A, cells, slots, Qf⟩ := X
  obtain ⟨hx, hb, hml, hr, hlk, ho, hts, hK, hSW, hA, hR, hc, hs, hq⟩ := hX
  intro H locs ls hP hD hS hl
  obtain ⟨hf0, hN, hfin, hpd⟩ := hf
  refine va_put (D := w.1) (cl := vwCl) (ci := 3) (C := RX4) (T := TX4) (N := 12) hx hb hts inB4 tyX4 tyX4_ok nmX4 ho hK hP hD hS o (ob_get (by decide) hk) rfl k hN (hts _ hw) (fun _ h => h) hfin hpd rfl rfl ?_ hd (fun H1 locs1 hP1 hD1 hS1 => kk H1 locs1 ls ?_ ?_ hS1 hl)
  · simpa using (List.getElem?_eq_some_iff.mp hf0).1
  · rw [← ob_setI (by decide) hk hf0 x]
    exact hP1
  · rw [← ob_setI (by decide) hk hf0 x]
    exact hD1
/-- what a program decides of a field -/
def pf5 (k t : Nat) (ty : FieldType) : Prop := (ft 4)[k]? = some t ∧ k < 34 ∧ (TX5 k).2.2.2 = false ∧ parseFieldDescriptor (TX5 k).2.2.1 = some ty
theorem g_get5I {X : CT} {w : WG} {M : MD} {Q : QT} {I : SI} {L : SL} {pc : Nat} {f : LV} {o n idx : Nat} {st : List Value} (hX : Cx X w M Q) (k : Nat) (hd : decode M.2.1 pc = .ok (.getfield idx, 3)) (hw : Cond.fieldLink M.1.cls idx (TX5 k).1 (TX5 k).2.1 (TX5 k).2.2.1 ∈ BG) (hk : (gK w)[o]? = some (4, n)) (hf : (ft 4)[k]? = some 0 ∧ k < 34) (kk : G X w M I L (pc + 3) f (.int (I o k) :: st)) : G X w M I L pc f (.ref (gA w o) :: st) := by
  obtain ⟨p, l, e, R, s, m, args, below, meth, c, A, cells, slots, Qf⟩ := X
  obtain ⟨hx, hb, hml, hr, hlk, ho, hts, hK, hSW, hA, hR, hc, hs, hq⟩ := hX
  intro H locs ls hP hD hS hl
  exact va_get (D := w.1) (cl := vwCl) (ci := 4) (C := RX5) (T := TX5) (N := 34) hx hb hts inB5 ho hK hP o (ob_get (by decide) hk) rfl k hf.2 (hts _ hw) (fun _ h => h) (fs_get _ _ _ hf.1) hd (kk H locs ls hP hD hS hl)
theorem g_get5L {X : CT} {w : WG} {M : MD} {Q : QT} {I : SI} {L : SL} {pc : Nat} {f : LV} {o n idx : Nat} {st : List Value} (hX : Cx X w M Q) (k : Nat) (hd : decode M.2.1 pc = .ok (.getfield idx, 3)) (hw : Cond.fieldLink M.1.cls idx (TX5 k).1 (TX5 k).2.1 (TX5 k).2.2.1 ∈ BG) (hk : (gK w)[o]? = some (4, n)) (hf : (ft 4)[k]? = some 1 ∧ k < 34) (kk : G X w M I L (pc + 3) f (.long (L o k) :: st)) : G X w M I L pc f (.ref (gA w o) :: st) := by
  obtain ⟨p, l, e, R, s, m, args, below, meth, c, A, cells, slots, Qf⟩ := X
  obtain ⟨hx, hb, hml, hr, hlk, ho, hts, hK, hSW, hA, hR, hc, hs, hq⟩ := hX
  intro H locs ls hP hD hS hl
  exact va_get (D := w.1) (cl := vwCl) (ci := 4) (C := RX5) (T := TX5) (N := 34) hx hb hts inB5 ho hK hP o (ob_get (by decide) hk) rfl k hf.2 (hts _ hw) (fun _ h => h) (fs_get _ _ _ hf.1) hd (kk H locs ls hP hD hS hl)
theorem g_get5R {X : CT} {w : WG} {M : MD} {Q : QT} {I : SI} {L : SL} {pc : Nat} {f : LV} {o n idx a : Nat} {st : List Value} (hX : Cx X w M Q) (k : Nat) (hd : decode M.2.1 pc = .ok (.getfield idx, 3)) (hw : Cond.fieldLink M.1.cls idx (TX5 k).1 (TX5 k).2.1 (TX5 k).2.2.1 ∈ BG) (hk : (gK w)[o]? = some (4, n)) (hf : (ft 4)[k]? = some 2 ∧ k < 34) (hp : gP w o k = some a) (kk : G X w M I L (pc + 3) f (.ref a :: st)) : G X w M I L pc f (.ref (gA w o) :: st) := by
  obtain ⟨p, l, e, R, s, m, args, below, meth, c, A, cells, slots, Qf⟩ := X
  obtain ⟨hx, hb, hml, hr, hlk, ho, hts, hK, hSW, hA, hR, hc, hs, hq⟩ := hX
  intro H locs ls hP hD hS hl
  refine va_get (D := w.1) (cl := vwCl) (ci := 4) (C := RX5) (T := TX5) (N := 34) (v := .ref a) hx hb hts inB5 ho hK hP o (ob_get (by decide) hk) rfl k hf.2 (hts _ hw) (fun _ h => h) ?_ hd (kk H locs ls hP hD hS hl)
  rw [fs_get _ _ _ hf.1, hp]
  rfl
theorem g_put5I {X : CT} {w : WG} {M : MD} {Q : QT} {I : SI} {L : SL} {pc : Nat} {f : LV} {o n idx : Nat} {x : Int32} {st : List Value} (hX : Cx X w M Q) (k : Nat) (hd : decode M.2.1 pc = .ok (.putfield idx, 3)) (hw : Cond.fieldLink M.1.cls idx (TX5 k).1 (TX5 k).2.1 (TX5 k).2.2.1 ∈ BG) (hk : (gK w)[o]? = some (4, n)) (hf : pf5 k 0 .int) (kk : G X w M (rS I o (upd (I o) k x)) L (pc + 3) f st) : G X w M I L pc f (.int x :: .ref (gA w o) :: st) := by
  obtain ⟨p, l, e, R, s, m, args, below, meth, c, A, cells, slots, Qf⟩ := X
  obtain ⟨hx, hb, hml, hr, hlk, ho, hts, hK, hSW, hA, hR, hc, hs, hq⟩ := hX
  intro H locs ls hP hD hS hl
  obtain ⟨hf0, hN, hfin, hpd⟩ := hf
  refine va_put (D := w.1) (cl := vwCl) (ci := 4) (C := RX5) (T := TX5) (N := 34) hx hb hts inB5 tyX5 tyX5_ok nmX5 ho hK hP hD hS o (ob_get (by decide) hk) rfl k hN (hts _ hw) (fun _ h => h) hfin hpd rfl rfl ?_ hd (fun H1 locs1 hP1 hD1 hS1 => kk H1 locs1 ls ?_ ?_ hS1 hl)
  · simpa using (List.getElem?_eq_some_iff.mp hf0).1
  · rw [← ob_setI (by decide) hk hf0 x]
    exact hP1
  · rw [← ob_setI (by decide) hk hf0 x]
    exact hD1
theorem g_put5L {X : CT} {w : WG} {M : MD} {Q : QT} {I : SI} {L : SL} {pc : Nat} {f : LV} {o n idx : Nat} {x : Int64} {st : List Value} (hX : Cx X w M Q) (k : Nat) (hd : decode M.2.1 pc = .ok (.putfield idx, 3)) (hw : Cond.fieldLink M.1.cls idx (TX5 k).1 (TX5 k).2.1 (TX5 k).2.2.1 ∈ BG) (hk : (gK w)[o]? = some (4, n)) (hf : pf5 k 1 .long) (kk : G X w M I (rS L o (vp_updL (L o) k x)) (pc + 3) f st) : G X w M I L pc f (.long x :: .ref (gA w o) :: st) := by
  obtain ⟨p, l, e, R, s, m, args, below, meth, c, A, cells, slots, Qf⟩ := X
  obtain ⟨hx, hb, hml, hr, hlk, ho, hts, hK, hSW, hA, hR, hc, hs, hq⟩ := hX
  intro H locs ls hP hD hS hl
  obtain ⟨hf0, hN, hfin, hpd⟩ := hf
  refine va_put (D := w.1) (cl := vwCl) (ci := 4) (C := RX5) (T := TX5) (N := 34) hx hb hts inB5 tyX5 tyX5_ok nmX5 ho hK hP hD hS o (ob_get (by decide) hk) rfl k hN (hts _ hw) (fun _ h => h) hfin hpd rfl rfl ?_ hd (fun H1 locs1 hP1 hD1 hS1 => kk H1 locs1 ls ?_ ?_ hS1 hl)
  · simpa using (List.getElem?_eq_some_iff.mp hf0).1
  · rw [← ob_setL (by decide) hk hf0 x]
    exact hP1
  · rw [← ob_setL (by decide) hk hf0 x]
    exact hD1
theorem g_iald {X : CT} {w : WG} {M : MD} {Q : QT} {I : SI} {L : SL} {pc : Nat} {f : LV} {o n : Nat} {i : Int32} {st : List Value} (hX : Cx X w M Q) (hd : decode M.2.1 pc = .ok (.iaload, 1)) (hk : (gK w)[o]? = some (6, n)) (hin : vp_in i n) (kk : G X w M I L (pc + 1) f (.int (I o i.toNatClampNeg) :: st)) : G X w M I L pc f (.int i :: .ref (gA w o) :: st) := by
  obtain ⟨p, l, e, R, s, m, args, below, meth, c, A, cells, slots, Qf⟩ := X
  obtain ⟨hx, hb, hml, hr, hlk, ho, hts, hK, hSW, hA, hR, hc, hs, hq⟩ := hX
  intro H locs ls hP hD hS hl
  exact va_iald hx hb hK hP o 1 (wsO_get hk) rfl hin hd (kk H locs ls hP hD hS hl)
theorem g_iast {X : CT} {w : WG} {M : MD} {Q : QT} {I : SI} {L : SL} {pc : Nat} {f : LV} {o n : Nat} {i x : Int32} {st : List Value} (hX : Cx X w M Q) (hd : decode M.2.1 pc = .ok (.iastore, 1)) (hk : (gK w)[o]? = some (6, n)) (hin : vp_in i n) (kk : G X w M (rS I o (upd (I o) i.toNatClampNeg (x))) L (pc + 1) f st) : G X w M I L pc f (.int x :: .int i :: .ref (gA w o) :: st) := by
  obtain ⟨p, l, e, R, s, m, args, below, meth, c, A, cells, slots, Qf⟩ := X
  obtain ⟨hx, hb, hml, hr, hlk, ho, hts, hK, hSW, hA, hR, hc, hs, hq⟩ := hX
  intro H locs ls hP hD hS hl
  refine va_iast hx hb hK hP hD hS o 1 (wsO_get hk) rfl hin hd (fun H1 locs1 hP1 hD1 hS1 => kk H1 locs1 ls ?_ ?_ hS1 hl)
  · rw [← wsO_setI hk]
    exact hP1
  · rw [← wsO_setI hk]
    exact hD1
theorem g_bald {X : CT} {w : WG} {M : MD} {Q : QT} {I : SI} {L : SL} {pc : Nat} {f : LV} {o n : Nat} {i : Int32} {st : List Value} (hX : Cx X w M Q) (hd : decode M.2.1 pc = .ok (.baload, 1)) (hk : (gK w)[o]? = some (5, n)) (hin : vp_in i n) (kk : G X w M I L (pc + 1) f (.int (I o i.toNatClampNeg) :: st)) : G X w M I L pc f (.int i :: .ref (gA w o) :: st) := by
  obtain ⟨p, l, e, R, s, m, args, below, meth, c, A, cells, slots, Qf⟩ := X
  obtain ⟨hx, hb, hml, hr, hlk, ho, hts, hK, hSW, hA, hR, hc, hs, hq⟩ := hX
  intro H locs ls hP hD hS hl
  exact va_bald hx hb hK hP o 0 (wsO_get hk) rfl hin hd (kk H locs ls hP hD hS hl)
theorem g_bast {X : CT} {w : WG} {M : MD} {Q : QT} {I : SI} {L : SL} {pc : Nat} {f : LV} {o n : Nat} {i x : Int32} {st : List Value} (hX : Cx X w M Q) (hd : decode M.2.1 pc = .ok (.bastore, 1)) (hk : (gK w)[o]? = some (5, n)) (hin : vp_in i n) (kk : G X w M (rS I o (upd (I o) i.toNatClampNeg (vp_nar .byte x))) L (pc + 1) f st) : G X w M I L pc f (.int x :: .int i :: .ref (gA w o) :: st) := by
  obtain ⟨p, l, e, R, s, m, args, below, meth, c, A, cells, slots, Qf⟩ := X
  obtain ⟨hx, hb, hml, hr, hlk, ho, hts, hK, hSW, hA, hR, hc, hs, hq⟩ := hX
  intro H locs ls hP hD hS hl
  refine va_bast hx hb hK hP hD hS o 0 (wsO_get hk) rfl hin hd (fun H1 locs1 hP1 hD1 hS1 => kk H1 locs1 ls ?_ ?_ hS1 hl)
  · rw [← wsO_setI hk]
    exact hP1
  · rw [← wsO_setI hk]
    exact hD1
theorem g_aald {X : CT} {w : WG} {M : MD} {Q : QT} {I : SI} {L : SL} {pc : Nat} {f : LV} {o n : Nat} {i : Int32} {r : Option Nat} {st : List Value} (hX : Cx X w M Q) (hd : decode M.2.1 pc = .ok (.aaload, 1)) (hk : (gK w)[o]? = some (7, n)) (hin : vp_in i n) (hp : gP w o i.toNatClampNeg = r) (kk : G X w M I L (pc + 1) f (va_rf r :: st)) : G X w M I L pc f (.int i :: .ref (gA w o) :: st) := by
  obtain ⟨p, l, e, R, s, m, args, below, meth, c, A, cells, slots, Qf⟩ := X
  obtain ⟨hx, hb, hml, hr, hlk, ho, hts, hK, hSW, hA, hR, hc, hs, hq⟩ := hX
  intro H locs ls hP hD hS hl
  subst hp
  exact va_aldq hx hb hK hP o 2 (wsO_get hk) rfl hin hd (kk H locs ls hP hD hS hl)
theorem g_ifnn {X : CT} {w : WG} {M : MD} {Q : QT} {I : SI} {L : SL} {pc : Nat} {f : LV} {a : Nat} {off : Int} {tgt : Nat} {st : List Value} (hX : Cx X w M Q) (hd : decode M.2.1 pc = .ok (.ifnonnull off, 3)) (ht : (pc : Int) + off = (tgt : Int)) (kk : G X w M I L tgt f st) : G X w M I L pc f (.ref a :: st) := by
  obtain ⟨p, l, e, R, s, m, args, below, meth, c, A, cells, slots, Qf⟩ := X
  obtain ⟨hx, hb, hml, hr, hlk, ho, hts, hK, hSW, hA, hR, hc, hs, hq⟩ := hX
  intro H locs ls hP hD hS hl
  exact lv_ifnonnull hx hb hd ht (kk H locs ls hP hD hS hl)
theorem g_ifnnN {X : CT} {w : WG} {M : MD} {Q : QT} {I : SI} {L : SL} {pc : Nat} {f : LV} {off : Int} {st : List Value} (hX : Cx X w M Q) (hd : decode M.2.1 pc = .ok (.ifnonnull off, 3)) (kk : G X w M I L (pc + 3) f st) : G X w M I L pc f (.null :: st) := by
  obtain ⟨p, l, e, R, s, m, args, below, meth, c, A, cells, slots, Qf⟩ := X
  obtain ⟨hx, hb, hml, hr, hlk, ho, hts, hK, hSW, hA, hR, hc, hs, hq⟩ := hX
  intro H locs ls hP hD hS hl
  exact lv_ifnonnullN hx hb hd (kk H locs ls hP hD hS hl)
theorem g_iret {X : CT} {w : WG} {M : MD} {Q : QT} {I : SI} {L : SL} {pc : Nat} {f : LV} {v : Int32} (hX : Cx X w M Q) (hd : decode M.2.1 pc = .ok (.ireturn, 1)) (hr0 : M.2.2.2.1 = some .int) (hQ : Q (some (.int v)) I L) : G X w M I L pc f [.int v] := by
  obtain ⟨p, l, e, R, s, m, args, below, meth, c, A, cells, slots, Qf⟩ := X
  obtain ⟨hx, hb, hml, hr, hlk, ho, hts, hK, hSW, hA, hR, hc, hs, hq⟩ := hX
  intro H locs ls hP hD hS hl
  subst hc; subst hs; subst hq
  exact W.iret (v := v) hx hb (hr.trans hr0) (fun t ht hW => ⟨⟨_, I, L, rfl, hQ, by rw [ht]; exact hP, hD⟩, hS.F ht⟩) hS.2.2 hd hlk
theorem g_zret {X : CT} {w : WG} {M : MD} {Q : QT} {I : SI} {L : SL} {pc : Nat} {f : LV} {v : Int32} {ty : FieldType} (hX : Cx X w M Q) (hd : decode M.2.1 pc = .ok (.ireturn, 1)) (hr0 : M.2.2.2.1 = some ty) (hn : narrow ty (.int v) = .int v) (hQ : Q (some (.int v)) I L) : G X w M I L pc f [.int v] := by
  obtain ⟨p, l, e, R, s, m, args, below, meth, c, A, cells, slots, Qf⟩ := X
  obtain ⟨hx, hb, hml, hr, hlk, ho, hts, hK, hSW, hA, hR, hc, hs, hq⟩ := hX
  intro H locs ls hP hD hS hl
  subst hc; subst hs; subst hq
  exact W.zret (v := v) hx hb (hr.trans hr0) hn (fun t ht hW => ⟨⟨_, I, L, rfl, hQ, by rw [ht]; exact hP, hD⟩, hS.F ht⟩) hS.2.2 hd hlk
theorem g_lret {X : CT} {w : WG} {M : MD} {Q : QT} {I : SI} {L : SL} {pc : Nat} {f : LV} {v : Int64} (hX : Cx X w M Q) (hd : decode M.2.1 pc = .ok (.lreturn, 1)) (hr0 : M.2.2.2.1 = some .long) (hQ : Q (some (.long v)) I L) : G X w M I L pc f [.long v] := by
  obtain ⟨p, l, e, R, s, m, args, below, meth, c, A, cells, slots, Qf⟩ := X
  obtain ⟨hx, hb, hml, hr, hlk, ho, hts, hK, hSW, hA, hR, hc, hs, hq⟩ := hX
  intro H locs ls hP hD hS hl
  subst hc; subst hs; subst hq
  exact W.lret (v := v) hx hb (hr.trans hr0) (fun t ht hW => ⟨⟨_, I, L, rfl, hQ, by rw [ht]; exact hP, hD⟩, hS.F ht⟩) hS.2.2 hd hlk
theorem g_vret {X : CT} {w : WG} {M : MD} {Q : QT} {I : SI} {L : SL} {pc : Nat} {f : LV}  (hX : Cx X w M Q) (hd : decode M.2.1 pc = .ok (.return_, 1)) (hr0 : M.2.2.2.1 = none) (hQ : Q (none) I L) : G X w M I L pc f [] := by
  obtain ⟨p, l, e, R, s, m, args, below, meth, c, A, cells, slots, Qf⟩ := X
  obtain ⟨hx, hb, hml, hr, hlk, ho, hts, hK, hSW, hA, hR, hc, hs, hq⟩ := hX
  intro H locs ls hP hD hS hl
  subst hc; subst hs; subst hq
  exact W.vret hx hb (hr.trans hr0) (fun t ht hW => ⟨⟨_, I, L, rfl, hQ, by rw [ht]; exact hP, hD⟩, hS.F ht⟩) hS.2.2 hd hlk
/-- a call's words, by a program -/
def LkS (own : String) (idx : Nat) (M : MD) (n : Nat) : Prop := (Cond.methodLink own idx M.1 ∈ BG ∧ Cond.static M.1 ∈ BG ∧ Cond.initialized M.1.cls ∈ BG ∧ Cond.code M.1 M.2.1 M.2.2.1 M.2.2.2.1 ∈ BG) ∧ M.1.cls ≠ "java/lang/invoke/MethodHandle" ∧ M.1.cls ≠ "java/lang/invoke/VarHandle" ∧ (parseMethodDescriptor M.1.desc).map (fun d => d.parameters.length) = some n
def LkV (own : String) (idx : Nat) (M : MD) (n : Nat) : Prop := (Cond.methodLink own idx M.1 ∈ BG ∧ Cond.instanceMethod M.1 ∈ BG ∧ Cond.selects M.1.cls M.1 M.1 ∈ BG ∧ Cond.initialized M.1.cls ∈ BG ∧ Cond.code M.1 M.2.1 M.2.2.1 M.2.2.2.1 ∈ BG) ∧ M.1.cls ≠ "java/lang/invoke/MethodHandle" ∧ M.1.cls ≠ "java/lang/invoke/VarHandle" ∧ (parseMethodDescriptor M.1.desc).map (fun d => d.parameters.length) = some n
theorem good_bg {ws : List Cond} (h : ∀ w ∈ ws, w ∈ BG) : GoodIn BG ws := fun w hw => ⟨h w hw, bg_good (h w hw)⟩
theorem LkS.good {own : String} {idx : Nat} {M : MD} {n : Nat} (h : LkS own idx M n) : GoodIn BG (va_wsS own idx M.1 (wsM M)) := by
  refine good_bg (fun w hw => ?_)
  obtain ⟨⟨h1, h2, h3, h4⟩, -⟩ := h
  simp only [va_wsS, wsM, List.cons_append, List.nil_append, List.mem_cons] at hw
  rcases hw with rfl | rfl | rfl | rfl | hw
  · exact h1
  · exact h2
  · exact h3
  · exact h4
  · exact hw
theorem LkV.good {own : String} {idx : Nat} {M : MD} {n : Nat} (h : LkV own idx M n) : GoodIn BG (wsV own idx M.1.cls M.1 (wsM M)) := by
  refine good_bg (fun w hw => ?_)
  obtain ⟨⟨h1, h2, h3, h4, h5⟩, -⟩ := h
  simp only [wsV, wsM, List.cons_append, List.nil_append, List.mem_cons] at hw
  rcases hw with rfl | rfl | rfl | rfl | rfl | hw
  · exact h1
  · exact h2
  · exact h3
  · exact h4
  · exact h5
  · exact hw
theorem pre_blind {w : WG} {av : List Value} {I : SI} {L : SL} {sz : Nat} : FrameBlind (va_Pc av (PreO w I L sz)) := by
  intro a U g mk q
  obtain ⟨q0, q1, qP, qK, qD, qS⟩ := q
  exact ⟨q0, q1, qP, va_K.moved (u := U) (U := U.calling g mk a) (Vm.Alike.refl U.vm) qK, qD, SW.same (u := U) rfl qS⟩
theorem pre_at {w : WG} {I : SI} {L : SL} {s : State} {A : Nat → Prop} {H : Heap} {locs : List Loc} (hP : va_P w.1 vwCl (wsO w I L) H) (hD : va_D A (wsO w I L)) (hS : va_S A s.heap H locs) (hK : va_K w.1 vwCl (gT w) s) (hSW : SW w A s s.heap) (hA : ∀ q : Nat, s.heap.size ≤ q → A q) : ∀ U : State, U.heap = H → s.WarmedH U.vm → PreO w I L H.size U := by
  intro U hU hW
  have hF : ∀ q, va_A (wsO w I L) H.size q → A q := fun q h => by
    rcases h with ⟨k, e, h⟩ | h
    · exact hD.2 k (q, e) h
    · exact hA q (Nat.le_trans hS.1 h)
  refine ⟨by rw [hU], by rw [hU]; exact hP, va_K.moved hW.alike hK, hD.weaken (fun _ _ _ _ => trivial), ?_⟩
  rw [hU]
  exact ((hSW.kept (fun a h1 h2 => hS.2.1 a h1 h2)).narrow hF).warm hW
/-- behind a call -/
theorem run_on {p : Program} {l : Launch} {e : Env} {R : Room} {s : State} {m : MethodId} {args : Array Value} {below : List Frame} {meth : Method} {c : Code} {A : Nat → Prop} {cells slots : Nat} {Qf : State → Prop} {w : WG} {M : MD} {I : SI} {L : SL} {pc : Nat} {f : LV} {st rest : List Value} {Qy : QT} {aa : Array Value} {H : Heap} {locs : List Loc} {ls : Array Slot}
    (hr : va_Run p l e R s m args below meth c H locs cells slots 0 0 (F0 m pc ls st) rest (QcO w Qy (va_A (wsO w I L) H.size) aa) (va_A (wsO w I L) H.size)) (hD : va_D A (wsO w I L)) (hS : va_S A s.heap H locs) (hA : ∀ q : Nat, s.heap.size ≤ q → A q) (hl : hasL ls M.2.2.1 f)
    (kk : ∀ (r : Option Value) (I' : SI) (L' : SL), Qy r I' L' → G (p, l, e, R, s, m, args, below, meth, c, A, cells, slots, Qf) w M I' L' (pc + 3) f (r.toList ++ rest)) : W p l e R s m args below meth c H locs cells slots Qf (F0 m pc ls st) := by
  have hF : ∀ q, va_A (wsO w I L) H.size q → A q := fun q h => by
    rcases h with ⟨k, e, h⟩ | h
    · exact hD.2 k (q, e) h
    · exact hA q (Nat.le_trans hS.1 h)
  intro T hT X0
  obtain ⟨v, st₀, t, T', Ls, h0, X', hL, e1, e2, ⟨⟨r, I', L', hv, hQ, hP1, hD1⟩, hz, hk1⟩, stp⟩ := hr T hT X0
  cases hv
  rw [h0] at hz hk1
  obtain ⟨t2, a1, b1⟩ := kk v I' L' hQ T'.heap (locs ++ Ls) ls (by rw [e1]; exact hP1) (hD1.weaken (fun _ q _ h => hF q.1 h))
    ⟨Nat.le_trans hS.1 (by rw [e1]; exact hz), fun q h1 h2 => by rw [e1, hk1 q (Nat.lt_of_lt_of_le h1 hS.1) (fun z => h2 (hF q z))]; exact hS.2.1 q h1 h2, fun q hq => by
      rcases List.mem_append.mp hq with h | h
      · exact hS.2.2 q h
      · exact hF _ (hL q h)⟩ hl T' rfl X'
  exact ⟨t2, stp t2 a1, b1⟩
theorem room_ok {R : Room} {d : Nat} {My : MD} (hR : d ≤ R.frames ∧ 40 * d ≤ R.locals) (hlt : My.2.2.2.2 + 1 ≤ d ∧ My.2.2.1 ≤ 21) : (rmO My.2.2.2.2).frames + 1 ≤ R.frames ∧ 8 + (My.2.2.1 + 11) + (rmO My.2.2.2.2).locals ≤ R.locals := by
  obtain ⟨h1, h2⟩ := hR
  obtain ⟨h3, h4⟩ := hlt
  constructor
  · show My.2.2.2.2 + 1 ≤ R.frames
    omega
  · show 8 + (My.2.2.1 + 11) + 40 * My.2.2.2.2 ≤ R.locals
    omega
theorem g_callS {X : CT} {w : WG} {M : MD} {Q : QT} {I : SI} {L : SL} {pc : Nat} {f : LV} {My : MD} {idx n : Nat} {av st : List Value} {Qy : QT} (rest : List Value) (hX : Cx X w M Q) (hd : decode M.2.1 pc = .ok (.invokestatic idx, 3)) (hk : LkS M.1.cls idx My n) (hlt : My.2.2.2.2 + 1 ≤ M.2.2.2.2 ∧ My.2.2.1 ≤ 21) (hn : av.length = n) (hO : Ok w My av I L Qy) (hst : st = av.reverse ++ rest) (hW : (rest.map fun v => v.category).sum ≤ 8) (kk : ∀ (r : Option Value) (I' : SI) (L' : SL), Qy r I' L' → G X w M I' L' (pc + 3) f (r.toList ++ rest)) : G X w M I L pc f st := by
  obtain ⟨p, l, e, R, s, m, args, below, meth, c, A, cells, slots, Qf⟩ := X
  obtain ⟨hx, hb, hml, hr, hlk, ho, hts, hK, hSW, hA, hR, hc, hs, hq⟩ := hX
  intro H locs ls hP hD hS hl
  exact run_on (va_runS (p := p) (l := l) (e := e) (R := R) (below := below) (meth := meth) (locs := locs) (cells := cells) (slots := slots) (H := H) (As := av) (rest := rest) (Ts := BG) (own := M.1.cls) (nL := M.2.2.1) (cc := M.2.1) ⟨hx, hb, hml, ho, hts⟩ (hO l H.size) (va_cwS n hts hk.good rfl rfl rfl hk.2 (room_ok hR hlt)) ⟨pre_blind, fun U hU hW2 => ⟨rfl, pre_at hP hD hS hK hSW hA U hU hW2⟩⟩ rfl hn hl.1 hst (lv_room hW) hd ⟨by subst hc; exact Nat.zero_le _, by subst hs; exact Nat.zero_le _⟩) hD hS hA hl kk
theorem g_callV {X : CT} {w : WG} {M : MD} {Q : QT} {I : SI} {L : SL} {pc : Nat} {f : LV} {My : MD} {idx n o c0 n0 : Nat} {av st : List Value} {Qy : QT} (rest : List Value) (hX : Cx X w M Q) (hd : decode M.2.1 pc = .ok (.invokevirtual idx, 3)) (hk : LkV M.1.cls idx My n) (hlt : My.2.2.2.2 + 1 ≤ M.2.2.2.2 ∧ My.2.2.1 ≤ 21) (hc0 : c0 < 5) (hko : (gK w)[o]? = some (c0, n0)) (hcl : (vwCl[c0]?).map (fun q => q.1) = some My.1.cls) (hn : av.length = n) (hO : Ok w My (.ref (gA w o) :: av) I L Qy) (hst : st = av.reverse ++ .ref (gA w o) :: rest) (hW : (rest.map fun v => v.category).sum ≤ 8) (kk : ∀ (r : Option Value) (I' : SI) (L' : SL), Qy r I' L' → G X w M I' L' (pc + 3) f (r.toList ++ rest)) : G X w M I L pc f st := by
  obtain ⟨p, l, e, R, s, m, args, below, meth, c, A, cells, slots, Qf⟩ := X
  obtain ⟨hx, hb, hml, hr, hlk, ho, hts, hK, hSW, hA, hR, hc, hs, hq⟩ := hX
  intro H locs ls hP hD hS hl
  have hrec : ∃ cell : Cell, H[gA w o]? = some cell ∧ cell.vm.isStatics = false ∧ s.vm.findClass My.1.cls = some cell.cls := by
    obtain ⟨q, hq1, hq2⟩ := Option.map_eq_some_iff.mp hcl
    rw [← hq2]
    exact va_recv hK hP hq1 (ob_get hc0 hko)
  exact run_on (va_runV (p := p) (l := l) (e := e) (R := R) (below := below) (meth := meth) (locs := locs) (cells := cells) (slots := slots) (H := H) (As := av) (rest := rest) (Ts := BG) (own := M.1.cls) (C := My.1.cls) (b := gA w o) (nL := M.2.2.1) (cc := M.2.1) ⟨hx, hb, hml, ho, hts⟩ (hO l H.size) (cwV n hts hk.good rfl rfl rfl ⟨rfl, hk.2⟩ (room_ok hR hlt)) ⟨pre_blind, hrec, fun U hU hW2 => ⟨rfl, pre_at hP hD hS hK hSW hA U hU hW2⟩⟩ rfl hn hl.1 hst (lv_room hW) hd ⟨by subst hc; exact Nat.zero_le _, by subst hs; exact Nat.zero_le _⟩) hD hS hA hl kk
/-- a method that only answers -/
def Pr (v : Value) (I : SI) (L : SL) : QT := fun r I' L' => r = some v ∧ I' = I ∧ L' = L
theorem g_callSp {X : CT} {w : WG} {M : MD} {Q : QT} {I : SI} {L : SL} {pc : Nat} {f : LV} {My : MD} {idx n : Nat} {av st : List Value} {v : Value} (rest : List Value) (hX : Cx X w M Q) (hd : decode M.2.1 pc = .ok (.invokestatic idx, 3)) (hk : LkS M.1.cls idx My n) (hlt : My.2.2.2.2 + 1 ≤ M.2.2.2.2 ∧ My.2.2.1 ≤ 21) (hn : av.length = n) (hO : Ok w My av I L (Pr v I L)) (hst : st = av.reverse ++ rest) (hW : (rest.map fun v => v.category).sum ≤ 8) (kk : G X w M I L (pc + 3) f (v :: rest)) : G X w M I L pc f st :=
  g_callS rest hX hd hk hlt hn hO hst hW (fun r I' L' h => by obtain ⟨rfl, rfl, rfl⟩ := h; exact kk)
theorem g_callVp {X : CT} {w : WG} {M : MD} {Q : QT} {I : SI} {L : SL} {pc : Nat} {f : LV} {My : MD} {idx n o c0 n0 : Nat} {av st : List Value} {v : Value} (rest : List Value) (hX : Cx X w M Q) (hd : decode M.2.1 pc = .ok (.invokevirtual idx, 3)) (hk : LkV M.1.cls idx My n) (hlt : My.2.2.2.2 + 1 ≤ M.2.2.2.2 ∧ My.2.2.1 ≤ 21) (hc0 : c0 < 5) (hko : (gK w)[o]? = some (c0, n0)) (hcl : (vwCl[c0]?).map (fun q => q.1) = some My.1.cls) (hn : av.length = n) (hO : Ok w My (.ref (gA w o) :: av) I L (Pr v I L)) (hst : st = av.reverse ++ .ref (gA w o) :: rest) (hW : (rest.map fun v => v.category).sum ≤ 8) (kk : G X w M I L (pc + 3) f (v :: rest)) : G X w M I L pc f st :=
  g_callV rest hX hd hk hlt hc0 hko hcl hn hO hst hW (fun r I' L' h => by obtain ⟨rfl, rfl, rfl⟩ := h; exact kk)
theorem Ok.mono {w : WG} {M : MD} {av : List Value} {I : SI} {L : SL} {Q Q' : QT} (h : Ok w M av I L Q) (hQ : ∀ r I' L', Q r I' L' → Q' r I' L') : Ok w M av I L Q' := by
  intro l sz p e ha hc hk s m args below hf happ hP hK
  obtain ⟨k, o, h1, h2, h3, ⟨⟨r, I', L', q1, q2, q3⟩, q4⟩, q5⟩ := h l sz p e ha hc hk s m args below hf happ hP hK
  exact ⟨k, o, h1, h2, h3, ⟨⟨r, I', L', q1, hQ _ _ _ q2, q3⟩, q4⟩, q5⟩
/-- what is said of one row only -/
theorem g_copy {X : CT} {w : WG} {M : MD} {Q : QT} {I : SI} {L : SL} {pc : Nat} {f : LV} {o1 o2 n1 n2 idx : Nat} {sp dp n : Int32} {st : List Value} (hX : Cx X w M Q) (hd : decode M.2.1 pc = .ok (.invokestatic idx, 3)) (hw : Cond.methodLink M.1.cls idx arraycopyName ∈ BG) (hd2 : 2 ≤ M.2.2.2.2) (hk1 : (gK w)[o1]? = some (6, n1)) (hk2 : (gK w)[o2]? = some (6, n2)) (h1 : ¬ sp < 0) (h2 : ¬ dp < 0) (h3 : ¬ n < 0) (h4 : sp.toNatClampNeg + n.toNatClampNeg ≤ n1) (h5 : dp.toNatClampNeg + n.toNatClampNeg ≤ n2) (hst : (st.map fun v => v.category).sum ≤ 8)
    (kk : G X w M (rS I o2 (va_cpy (I o1) (I o2) sp.toNatClampNeg dp.toNatClampNeg n.toNatClampNeg)) L (pc + 3) f st) : G X w M I L pc f (.int n :: .int dp :: .ref (gA w o2) :: .int sp :: .ref (gA w o1) :: st) := by
  obtain ⟨p, l, e, R, s, m, args, below, meth, c, A, cells, slots, Qf⟩ := X
  obtain ⟨hx, hb, hml, hr, hlk, ho, hts, hK, hSW, hA, hR, hc, hs, hq⟩ := hX
  intro H locs ls hP hD hS hl
  have hw2 : (st.map fun v => v.category).sum + (nativeFrameWords "java/lang/System" "arraycopy" 5 + 11) ≤ R.locals := by
    have : nativeFrameWords "java/lang/System" "arraycopy" 5 ≤ 40 := by decide +kernel
    have h7 := hR.2
    omega
  refine va_copyi hx hb (hml.trans hl.1.symm) ho (hts _ hw) (hts _ b_nam_arraycopyName) (hts _ b_stm_arraycopyName) (hts _ b_in_J10) hK hP hD hS o1 o2 1 1 (wsO_get hk1) (wsO_get hk2) rfl rfl rfl h1 h2 h3 h4 h5 (fun _ _ => rfl) (by have := hR.1; omega) hw2 hd (fun H1 locs1 hP1 hD1 hS1 => kk H1 locs1 ls ?_ ?_ hS1 hl)
  · rw [← wsO_setI hk2]
    exact hP1
  · rw [← wsO_setI hk2]
    exact hD1
theorem g_ialdN {X : CT} {w : WG} {M : MD} {Q : QT} {I : SI} {L : SL} {pc : Nat} {f : LV} {o n j : Nat} {i : Int32} {st : List Value} (hX : Cx X w M Q) (hd : decode M.2.1 pc = .ok (.iaload, 1)) (hk : (gK w)[o]? = some (6, n)) (hj : i = nI j ∧ j < n) (hn : n < 2 ^ 31) (kk : G X w M I L (pc + 1) f (.int (I o j) :: st)) : G X w M I L pc f (.int i :: .ref (gA w o) :: st) := by
  obtain ⟨rfl, hj⟩ := hj
  refine g_iald hX hd hk (vp_in_nI hj hn) ?_
  rw [nI_clamp (by omega)]
  exact kk
theorem g_iastN {X : CT} {w : WG} {M : MD} {Q : QT} {I : SI} {L : SL} {pc : Nat} {f : LV} {o n j : Nat} {i x : Int32} {st : List Value} (hX : Cx X w M Q) (hd : decode M.2.1 pc = .ok (.iastore, 1)) (hk : (gK w)[o]? = some (6, n)) (hj : i = nI j ∧ j < n) (hn : n < 2 ^ 31) (kk : G X w M (rS I o (upd (I o) j (x))) L (pc + 1) f st) : G X w M I L pc f (.int x :: .int i :: .ref (gA w o) :: st) := by
  obtain ⟨rfl, hj⟩ := hj
  refine g_iast hX hd hk (vp_in_nI hj hn) ?_
  rw [nI_clamp (by omega)]
  exact kk
theorem g_baldN {X : CT} {w : WG} {M : MD} {Q : QT} {I : SI} {L : SL} {pc : Nat} {f : LV} {o n j : Nat} {i : Int32} {st : List Value} (hX : Cx X w M Q) (hd : decode M.2.1 pc = .ok (.baload, 1)) (hk : (gK w)[o]? = some (5, n)) (hj : i = nI j ∧ j < n) (hn : n < 2 ^ 31) (kk : G X w M I L (pc + 1) f (.int (I o j) :: st)) : G X w M I L pc f (.int i :: .ref (gA w o) :: st) := by
  obtain ⟨rfl, hj⟩ := hj
  refine g_bald hX hd hk (vp_in_nI hj hn) ?_
  rw [nI_clamp (by omega)]
  exact kk
theorem g_bastN {X : CT} {w : WG} {M : MD} {Q : QT} {I : SI} {L : SL} {pc : Nat} {f : LV} {o n j : Nat} {i x : Int32} {st : List Value} (hX : Cx X w M Q) (hd : decode M.2.1 pc = .ok (.bastore, 1)) (hk : (gK w)[o]? = some (5, n)) (hj : i = nI j ∧ j < n) (hn : n < 2 ^ 31) (kk : G X w M (rS I o (upd (I o) j (vp_nar .byte x))) L (pc + 1) f st) : G X w M I L pc f (.int x :: .int i :: .ref (gA w o) :: st) := by
  obtain ⟨rfl, hj⟩ := hj
  refine g_bast hX hd hk (vp_in_nI hj hn) ?_
  rw [nI_clamp (by omega)]
  exact kk
theorem nI_nneg {a : Nat} (h : a < 2 ^ 31) : ¬ nI a < 0 := nI_pos h
theorem g_copyN {X : CT} {w : WG} {M : MD} {Q : QT} {I : SI} {L : SL} {pc : Nat} {f : LV} {o1 o2 n1 n2 idx a b m : Nat} {sp dp n : Int32} {st : List Value} (hX : Cx X w M Q) (hd : decode M.2.1 pc = .ok (.invokestatic idx, 3)) (hw : Cond.methodLink M.1.cls idx arraycopyName ∈ BG) (hd2 : 2 ≤ M.2.2.2.2) (hk1 : (gK w)[o1]? = some (6, n1)) (hk2 : (gK w)[o2]? = some (6, n2)) (hs : sp = nI a ∧ dp = nI b ∧ n = nI m) (h4 : a + m ≤ n1 ∧ b + m ≤ n2) (h5 : n1 < 2 ^ 31 ∧ n2 < 2 ^ 31) (hst : (st.map fun v => v.category).sum ≤ 8)
    (kk : G X w M (rS I o2 (va_cpy (I o1) (I o2) a b m)) L (pc + 3) f st) : G X w M I L pc f (.int n :: .int dp :: .ref (gA w o2) :: .int sp :: .ref (gA w o1) :: st) := by
  obtain ⟨rfl, rfl, rfl⟩ := hs
  have ha : (nI a).toNatClampNeg = a := nI_clamp (by omega)
  have hb2 : (nI b).toNatClampNeg = b := nI_clamp (by omega)
  have hm : (nI m).toNatClampNeg = m := nI_clamp (by omega)
  refine g_copy hX hd hw hd2 hk1 hk2 (nI_pos (by omega)) (nI_pos (by omega)) (nI_pos (by omega)) (by rw [ha, hm]; exact h4.1) (by rw [hb2, hm]; exact h4.2) hst ?_
  rw [ha, hb2, hm]
  exact kk