theorem h_objInit {X : CT} {w : WG} {M : MD} {Q : QW} {I : SI} {L : SL} {pc : Nat} {f : LV} {st : List Value} {kc ks idx a : Nat} (hX : Cy X w M Q kc ks) (hd : decode M.2.1 pc = .ok (.invokespecial idx, 3)) (hw : Cond.methodLink M.1.cls idx objectInit ∈ BG) (hd1 : 1 ≤ M.2.2.2.2) (hW : (st.map fun v => v.category).sum ≤ 8) (kk : G X w M I L (pc + 3) f st) : G X w M I L pc f (.ref a :: st) := by
  obtain ⟨p, l, e, R, s, m, args, below, meth, c, A, cells, slots, Qf⟩ := X
  have hX0 := hX
  obtain ⟨hx, hb, hml, hr, hlk, ho, hts, hK, hSW, hA, hR, hc, hs, hq⟩ := hX
  intro H locs ls hP hD hS hl
  exact W.objInit hx hb ho (hts _ hw) (hts _ b_inm_objectInit) (hts _ b_co_objectInit) rfl (hl.1.trans hml.symm) rfl hd (Nat.le_trans hd1 hR.1) (Nat.le_trans (Nat.add_le_add_right (lv_room hW) 12) (by have := hR.2; omega)) (kk H locs ls hP hD hS hl)
theorem h_newI {X : CT} {w : WG} {M : MD} {Q : QW} {I : SI} {L : SL} {pc : Nat} {f : LV} {st : List Value} {n : Int32} (kc ks N : Nat) (hX : Cy X w M Q (1 + kc) (N + ks)) (hd : decode M.2.1 pc = .ok (.newarray .int, 2)) (hw : Cond.arrayClass (newarray.typeOf .int) ∈ BG) (hn : n = nI N) (hN : N < 1000) (kk : ∀ q, Cy (Xc X 1 N) (wN w (6, N) q) M Q kc ks → G (Xc X 1 N) (wN w (6, N) q) M (nI0 w I) (nL0 w L) (pc + 2) f (.ref q :: st)) : G X w M I L pc f (.int n :: st) := by
  obtain ⟨p, l, e, R, s, m, args, below, meth, c, A, cells, slots, Qf⟩ := X
  have hX0 := hX
  obtain ⟨hx, hb, hml, hr, hlk, ho, hts, hK, hSW, hA, hR, hc, hs, hq⟩ := hX
  intro H locs ls hP hD hS hl
  subst hn
  have hn0 : ¬ nI N < 0 := by
    have := nI_ltI (a := N) (b := 0) (by omega) (by decide)
    rw [nI_0] at this
    intro z; exact absurd (this.mp z) (Nat.not_lt_zero N)
  refine va_newaK hx hb (hts _ hw) rfl hd rfl hn0 (nI_clamp (by omega)) (Nat.le_trans (Nat.mul_le_mul_right _ (Nat.le_of_lt hN)) (by decide)) (by have := hc.1; omega) (by have := hc.2; omega) rfl (fun H1 cA e1 z1 o1 hAr hNm => ?_)
  have hk : ∀ (k : Nat) (x : Nat × va_E), (wsO w I L)[k]? = some x → H1[x.1]? = H[x.1]? := fun k x hx => o1 x.1 ((hP k x hx).lt)
  have hcA := int_cA hK hNm
  subst hcA
  have hP1 : va_P w.1 vwCl (wsO w I L ++ [(H.size, cE w (6, N) (fun _ => 0) (fun _ => 0) (fun _ => none))]) H1 := (hP.kept hk).app (fun k x hx => by
    have hz : k < 1 := (List.getElem?_eq_some_iff.mp hx).1
    rw [show k = 0 by omega] at hx
    cases hx
    exact e1)
  refine kk H.size ((hX0.spend).ex wN.ex) H1 locs ls ?_ ?_ ⟨Nat.le_trans hS.1 (by omega), fun x h1 h2 => (o1 x (Nat.lt_of_lt_of_le h1 hS.1)).trans (hS.2.1 x h1 h2), hS.2.2⟩ hl
  · rw [wsO_wN]; exact hP1
  · rw [wsO_wN]; exact hD.push hP rfl (hA _ hS.1)
theorem h_newB {X : CT} {w : WG} {M : MD} {Q : QW} {I : SI} {L : SL} {pc : Nat} {f : LV} {st : List Value} {n : Int32} (kc ks N : Nat) (hX : Cy X w M Q (1 + kc) (N + ks)) (hd : decode M.2.1 pc = .ok (.newarray .byte, 2)) (hw : Cond.arrayClass (newarray.typeOf .byte) ∈ BG) (hn : n = nI N) (hN : N < 1000) (kk : ∀ q, Cy (Xc X 1 N) (wN w (5, N) q) M Q kc ks → G (Xc X 1 N) (wN w (5, N) q) M (nI0 w I) (nL0 w L) (pc + 2) f (.ref q :: st)) : G X w M I L pc f (.int n :: st) := by
  obtain ⟨p, l, e, R, s, m, args, below, meth, c, A, cells, slots, Qf⟩ := X
  have hX0 := hX
  obtain ⟨hx, hb, hml, hr, hlk, ho, hts, hK, hSW, hA, hR, hc, hs, hq⟩ := hX
  intro H locs ls hP hD hS hl
  subst hn
  have hn0 : ¬ nI N < 0 := by
    have := nI_ltI (a := N) (b := 0) (by omega) (by decide)
    rw [nI_0] at this
    intro z; exact absurd (this.mp z) (Nat.not_lt_zero N)
  refine va_newaK hx hb (hts _ hw) rfl hd rfl hn0 (nI_clamp (by omega)) (Nat.le_trans (Nat.mul_le_mul_right _ (Nat.le_of_lt hN)) (by decide)) (by have := hc.1; omega) (by have := hc.2; omega) rfl (fun H1 cA e1 z1 o1 hAr hNm => ?_)
  have hk : ∀ (k : Nat) (x : Nat × va_E), (wsO w I L)[k]? = some x → H1[x.1]? = H[x.1]? := fun k x hx => o1 x.1 ((hP k x hx).lt)
  have hcA := byte_cA hK hNm
  subst hcA
  have hP1 : va_P w.1 vwCl (wsO w I L ++ [(H.size, cE w (5, N) (fun _ => 0) (fun _ => 0) (fun _ => none))]) H1 := (hP.kept hk).app (fun k x hx => by
    have hz : k < 1 := (List.getElem?_eq_some_iff.mp hx).1
    rw [show k = 0 by omega] at hx
    cases hx
    exact e1)
  refine kk H.size ((hX0.spend).ex wN.ex) H1 locs ls ?_ ?_ ⟨Nat.le_trans hS.1 (by omega), fun x h1 h2 => (o1 x (Nat.lt_of_lt_of_le h1 hS.1)).trans (hS.2.1 x h1 h2), hS.2.2⟩ hl
  · rw [wsO_wN]; exact hP1
  · rw [wsO_wN]; exact hD.push hP rfl (hA _ hS.1)
theorem h_new3 {X : CT} {w : WG} {M : MD} {Q : QW} {I : SI} {L : SL} {pc : Nat} {f : LV} {st : List Value} {idx : Nat} (kc ks : Nat) (hX : Cy X w M Q (1 + kc) (15 + ks)) (hd : decode M.2.1 pc = .ok (.new idx, 3)) (hw : Cond.classLink M.1.cls idx RX3 ∈ BG) (kk : ∀ q, Cy (Xc X 1 15) (wN w (2, 0) q) M Q kc ks → G (Xc X 1 15) (wN w (2, 0) q) M (nI0 w I) (nL0 w L) (pc + 3) f (.ref q :: st)) : G X w M I L pc f st := by
  obtain ⟨p, l, e, R, s, m, args, below, meth, c, A, cells, slots, Qf⟩ := X
  have hX0 := hX
  obtain ⟨hx, hb, hml, hr, hlk, ho, hts, hK, hSW, hA, hR, hc, hs, hq⟩ := hX
  intro H locs ls hP hD hS hl
  refine va_new (D := w.1) (cl := vwCl) (tys := gT w) (ci := 2) (C := RX3) (T := TX3) (N := 15) (fs := (ft 2).mapIdx (fun k t => fv t 0 0 none)) hx hb hts inB3 tyX3 tyX3_ok ho (hts _ hw) (hts _ b_is_X3) (hts _ b_in_X3) hK hP hD hS hA rfl (fun j hj => by rcases (show j = 0 ∨ j = 1 ∨ j = 2 ∨ j = 3 ∨ j = 4 ∨ j = 5 ∨ j = 6 ∨ j = 7 ∨ j = 8 ∨ j = 9 ∨ j = 10 ∨ j = 11 ∨ j = 12 ∨ j = 13 ∨ j = 14 by omega) with rfl | rfl | rfl | rfl | rfl | rfl | rfl | rfl | rfl | rfl | rfl | rfl | rfl | rfl | rfl <;> rfl) (by have := hc.1; omega) (by have := hc.2; omega) hd (fun q H1 hP1 hD1 hS1 => ?_)
  refine kk q ((hX0.spend).ex wN.ex) H1 locs ls ?_ ?_ hS1 hl
  · rw [wsO_wN]; exact hP1
  · rw [wsO_wN]; exact hD1
theorem h_new2 {X : CT} {w : WG} {M : MD} {Q : QW} {I : SI} {L : SL} {pc : Nat} {f : LV} {st : List Value} {idx : Nat} (kc ks : Nat) (hX : Cy X w M Q (1 + kc) (2 + ks)) (hd : decode M.2.1 pc = .ok (.new idx, 3)) (hw : Cond.classLink M.1.cls idx RX2 ∈ BG) (kk : ∀ q, Cy (Xc X 1 2) (wN w (1, 0) q) M Q kc ks → G (Xc X 1 2) (wN w (1, 0) q) M (nI0 w I) (nL0 w L) (pc + 3) f (.ref q :: st)) : G X w M I L pc f st := by
  obtain ⟨p, l, e, R, s, m, args, below, meth, c, A, cells, slots, Qf⟩ := X
  have hX0 := hX
  obtain ⟨hx, hb, hml, hr, hlk, ho, hts, hK, hSW, hA, hR, hc, hs, hq⟩ := hX
  intro H locs ls hP hD hS hl
  refine va_new (D := w.1) (cl := vwCl) (tys := gT w) (ci := 1) (C := RX2) (T := TX2) (N := 2) (fs := (ft 1).mapIdx (fun k t => fv t 0 0 none)) hx hb hts inB2 tyX2 tyX2_ok ho (hts _ hw) (hts _ b_is_X2) (hts _ b_in_X2) hK hP hD hS hA rfl (fun j hj => by rcases (show j = 0 ∨ j = 1 by omega) with rfl | rfl <;> rfl) (by have := hc.1; omega) (by have := hc.2; omega) hd (fun q H1 hP1 hD1 hS1 => ?_)
  refine kk q ((hX0.spend).ex wN.ex) H1 locs ls ?_ ?_ hS1 hl
  · rw [wsO_wN]; exact hP1
  · rw [wsO_wN]; exact hD1
theorem h_new1 {X : CT} {w : WG} {M : MD} {Q : QW} {I : SI} {L : SL} {pc : Nat} {f : LV} {st : List Value} {idx : Nat} (kc ks : Nat) (hX : Cy X w M Q (1 + kc) (6 + ks)) (hd : decode M.2.1 pc = .ok (.new idx, 3)) (hw : Cond.classLink M.1.cls idx RX1 ∈ BG) (kk : ∀ q, Cy (Xc X 1 6) (wN w (0, 0) q) M Q kc ks → G (Xc X 1 6) (wN w (0, 0) q) M (nI0 w I) (nL0 w L) (pc + 3) f (.ref q :: st)) : G X w M I L pc f st := by
  obtain ⟨p, l, e, R, s, m, args, below, meth, c, A, cells, slots, Qf⟩ := X
  have hX0 := hX
  obtain ⟨hx, hb, hml, hr, hlk, ho, hts, hK, hSW, hA, hR, hc, hs, hq⟩ := hX
  intro H locs ls hP hD hS hl
  refine va_new (D := w.1) (cl := vwCl) (tys := gT w) (ci := 0) (C := RX1) (T := TX1) (N := 6) (fs := (ft 0).mapIdx (fun k t => fv t 0 0 none)) hx hb hts inB1 tyX1 tyX1_ok ho (hts _ hw) (hts _ b_is_X1) (hts _ b_in_X1) hK hP hD hS hA rfl (fun j hj => by rcases (show j = 0 ∨ j = 1 ∨ j = 2 ∨ j = 3 ∨ j = 4 ∨ j = 5 by omega) with rfl | rfl | rfl | rfl | rfl | rfl <;> rfl) (by have := hc.1; omega) (by have := hc.2; omega) hd (fun q H1 hP1 hD1 hS1 => ?_)
  refine kk q ((hX0.spend).ex wN.ex) H1 locs ls ?_ ?_ hS1 hl
  · rw [wsO_wN]; exact hP1
  · rw [wsO_wN]; exact hD1
def pn3 (k : Nat) : Prop := (ft 2)[k]? = some 2 ∧ k < 15 ∧ (TX3 k).2.2.2 = true ∧ (TX3 k).1 = RX3 ∧ ∃ ty, parseFieldDescriptor (TX3 k).2.2.1 = some ty ∧ ∀ v, narrow ty (.ref v) = .ref v ∧ fits ty (.ref v) = true
theorem h_putN3 {X : CT} {w : WG} {M : MD} {Q : QW} {I : SI} {L : SL} {pc : Nat} {f : LV} {st : List Value} {kc ks o n idx v : Nat} (hX : Cy X w M Q kc ks) (k : Nat) (hd : decode M.2.1 pc = .ok (.putfield idx, 3)) (hw : Cond.fieldLink M.1.cls idx (TX3 k).1 (TX3 k).2.1 (TX3 k).2.2.1 ∈ BG) (hk : (gK w)[o]? = some (2, n)) (hf : pn3 k) (hin : M.1.name = "<init>" ∧ M.1.cls = RX3) (kk : Cy X (wP w o k (some v)) M Q kc ks → G X (wP w o k (some v)) M I L (pc + 3) f st) : G X w M I L pc f (.ref v :: .ref (gA w o) :: st) := by
  obtain ⟨p, l, e, R, s, m, args, below, meth, c, A, cells, slots, Qf⟩ := X
  have hX0 := hX
  obtain ⟨hx, hb, hml, hr, hlk, ho, hts, hK, hSW, hA, hR, hc, hs, hq⟩ := hX
  intro H locs ls hP hD hS hl
  obtain ⟨hf0, hN, hfin, hdc, ty, hpd, hnf⟩ := hf
  refine va_putF (D := w.1) (cl := vwCl) (ci := 2) (C := RX3) (T := TX3) (N := 15) hx hb hts inB3 tyX3 tyX3_ok nmX3 ho hK hP hD hS o (ob_get (by decide) hk) rfl k hN (hts _ hw) (fun _ h => h) hfin (hs.trans hin.1) (hdc.trans hin.2.symm) hpd (hnf v).1 (hnf v).2 ?_ hd (fun H1 locs1 hP1 hD1 hS1 => kk (hX0.ex wP.ex) H1 locs1 ls ?_ ?_ hS1 hl)
  · simpa using (List.getElem?_eq_some_iff.mp hf0).1
  · rw [fs_setR _ _ _ _ hf0] at hP1
    rw [wsO_wP hk]
    exact hP1
  · rw [fs_setR _ _ _ _ hf0] at hD1
    rw [wsO_wP hk]
    exact hD1
def pn2 (k : Nat) : Prop := (ft 1)[k]? = some 2 ∧ k < 2 ∧ (TX2 k).2.2.2 = true ∧ (TX2 k).1 = RX2 ∧ ∃ ty, parseFieldDescriptor (TX2 k).2.2.1 = some ty ∧ ∀ v, narrow ty (.ref v) = .ref v ∧ fits ty (.ref v) = true
theorem h_putN2 {X : CT} {w : WG} {M : MD} {Q : QW} {I : SI} {L : SL} {pc : Nat} {f : LV} {st : List Value} {kc ks o n idx v : Nat} (hX : Cy X w M Q kc ks) (k : Nat) (hd : decode M.2.1 pc = .ok (.putfield idx, 3)) (hw : Cond.fieldLink M.1.cls idx (TX2 k).1 (TX2 k).2.1 (TX2 k).2.2.1 ∈ BG) (hk : (gK w)[o]? = some (1, n)) (hf : pn2 k) (hin : M.1.name = "<init>" ∧ M.1.cls = RX2) (kk : Cy X (wP w o k (some v)) M Q kc ks → G X (wP w o k (some v)) M I L (pc + 3) f st) : G X w M I L pc f (.ref v :: .ref (gA w o) :: st) := by
  obtain ⟨p, l, e, R, s, m, args, below, meth, c, A, cells, slots, Qf⟩ := X
  have hX0 := hX
  obtain ⟨hx, hb, hml, hr, hlk, ho, hts, hK, hSW, hA, hR, hc, hs, hq⟩ := hX
  intro H locs ls hP hD hS hl
  obtain ⟨hf0, hN, hfin, hdc, ty, hpd, hnf⟩ := hf
  refine va_putF (D := w.1) (cl := vwCl) (ci := 1) (C := RX2) (T := TX2) (N := 2) hx hb hts inB2 tyX2 tyX2_ok nmX2 ho hK hP hD hS o (ob_get (by decide) hk) rfl k hN (hts _ hw) (fun _ h => h) hfin (hs.trans hin.1) (hdc.trans hin.2.symm) hpd (hnf v).1 (hnf v).2 ?_ hd (fun H1 locs1 hP1 hD1 hS1 => kk (hX0.ex wP.ex) H1 locs1 ls ?_ ?_ hS1 hl)
  · simpa using (List.getElem?_eq_some_iff.mp hf0).1
  · rw [fs_setR _ _ _ _ hf0] at hP1
    rw [wsO_wP hk]
    exact hP1
  · rw [fs_setR _ _ _ _ hf0] at hD1
    rw [wsO_wP hk]
    exact hD1
def pn1 (k : Nat) : Prop := (ft 0)[k]? = some 2 ∧ k < 6 ∧ (TX1 k).2.2.2 = true ∧ (TX1 k).1 = RX1 ∧ ∃ ty, parseFieldDescriptor (TX1 k).2.2.1 = some ty ∧ ∀ v, narrow ty (.ref v) = .ref v ∧ fits ty (.ref v) = true
theorem h_putN1 {X : CT} {w : WG} {M : MD} {Q : QW} {I : SI} {L : SL} {pc : Nat} {f : LV} {st : List Value} {kc ks o n idx v : Nat} (hX : Cy X w M Q kc ks) (k : Nat) (hd : decode M.2.1 pc = .ok (.putfield idx, 3)) (hw : Cond.fieldLink M.1.cls idx (TX1 k).1 (TX1 k).2.1 (TX1 k).2.2.1 ∈ BG) (hk : (gK w)[o]? = some (0, n)) (hf : pn1 k) (hin : M.1.name = "<init>" ∧ M.1.cls = RX1) (kk : Cy X (wP w o k (some v)) M Q kc ks → G X (wP w o k (some v)) M I L (pc + 3) f st) : G X w M I L pc f (.ref v :: .ref (gA w o) :: st) := by
  obtain ⟨p, l, e, R, s, m, args, below, meth, c, A, cells, slots, Qf⟩ := X
  have hX0 := hX
  obtain ⟨hx, hb, hml, hr, hlk, ho, hts, hK, hSW, hA, hR, hc, hs, hq⟩ := hX
  intro H locs ls hP hD hS hl
  obtain ⟨hf0, hN, hfin, hdc, ty, hpd, hnf⟩ := hf
  refine va_putF (D := w.1) (cl := vwCl) (ci := 0) (C := RX1) (T := TX1) (N := 6) hx hb hts inB1 tyX1 tyX1_ok nmX1 ho hK hP hD hS o (ob_get (by decide) hk) rfl k hN (hts _ hw) (fun _ h => h) hfin (hs.trans hin.1) (hdc.trans hin.2.symm) hpd (hnf v).1 (hnf v).2 ?_ hd (fun H1 locs1 hP1 hD1 hS1 => kk (hX0.ex wP.ex) H1 locs1 ls ?_ ?_ hS1 hl)
  · simpa using (List.getElem?_eq_some_iff.mp hf0).1
  · rw [fs_setR _ _ _ _ hf0] at hP1
    rw [wsO_wP hk]
    exact hP1
  · rw [fs_setR _ _ _ _ hf0] at hD1
    rw [wsO_wP hk]
    exact hD1
def pn4 (k : Nat) : Prop := (ft 3)[k]? = some 2 ∧ k < 12 ∧ (TX4 k).2.2.2 = true ∧ (TX4 k).1 = RX4 ∧ ∃ ty, parseFieldDescriptor (TX4 k).2.2.1 = some ty ∧ ∀ v, narrow ty (.ref v) = .ref v ∧ fits ty (.ref v) = true
theorem h_putN4 {X : CT} {w : WG} {M : MD} {Q : QW} {I : SI} {L : SL} {pc : Nat} {f : LV} {st : List Value} {kc ks o n idx v : Nat} (hX : Cy X w M Q kc ks) (k : Nat) (hd : decode M.2.1 pc = .ok (.putfield idx, 3)) (hw : Cond.fieldLink M.1.cls idx (TX4 k).1 (TX4 k).2.1 (TX4 k).2.2.1 ∈ BG) (hk : (gK w)[o]? = some (3, n)) (hf : pn4 k) (hin : M.1.name = "<init>" ∧ M.1.cls = RX4) (kk : Cy X (wP w o k (some v)) M Q kc ks → G X (wP w o k (some v)) M I L (pc + 3) f st) : G X w M I L pc f (.ref v :: .ref (gA w o) :: st) := by
  obtain ⟨p, l, e, R, s, m, args, below, meth, c, A, cells, slots, Qf⟩ := X
  have hX0 := hX
  obtain ⟨hx, hb, hml, hr, hlk, ho, hts, hK, hSW, hA, hR, hc, hs, hq⟩ := hX
  intro H locs ls hP hD hS hl
  obtain ⟨hf0, hN, hfin, hdc, ty, hpd, hnf⟩ := hf
  refine va_putF (D := w.1) (cl := vwCl) (ci := 3) (C := RX4) (T := TX4) (N := 12) hx hb hts inB4 tyX4 tyX4_ok nmX4 ho hK hP hD hS o (ob_get (by decide) hk) rfl k hN (hts _ hw) (fun _ h => h) hfin (hs.trans hin.1) (hdc.trans hin.2.symm) hpd (hnf v).1 (hnf v).2 ?_ hd (fun H1 locs1 hP1 hD1 hS1 => kk (hX0.ex wP.ex) H1 locs1 ls ?_ ?_ hS1 hl)
  · simpa using (List.getElem?_eq_some_iff.mp hf0).1
  · rw [fs_setR _ _ _ _ hf0] at hP1
    rw [wsO_wP hk]
    exact hP1
  · rw [fs_setR _ _ _ _ hf0] at hD1
    rw [wsO_wP hk]
    exact hD1
def pn5 (k : Nat) : Prop := (ft 4)[k]? = some 2 ∧ k < 34 ∧ (TX5 k).2.2.2 = true ∧ (TX5 k).1 = RX5 ∧ ∃ ty, parseFieldDescriptor (TX5 k).2.2.1 = some ty ∧ ∀ v, narrow ty (.ref v) = .ref v ∧ fits ty (.ref v) = true
theorem h_putN5 {X : CT} {w : WG} {M : MD} {Q : QW} {I : SI} {L : SL} {pc : Nat} {f : LV} {st : List Value} {kc ks o n idx v : Nat} (hX : Cy X w M Q kc ks) (k : Nat) (hd : decode M.2.1 pc = .ok (.putfield idx, 3)) (hw : Cond.fieldLink M.1.cls idx (TX5 k).1 (TX5 k).2.1 (TX5 k).2.2.1 ∈ BG) (hk : (gK w)[o]? = some (4, n)) (hf : pn5 k) (hin : M.1.name = "<init>" ∧ M.1.cls = RX5) (kk : Cy X (wP w o k (some v)) M Q kc ks → G X (wP w o k (some v)) M I L (pc + 3) f st) : G X w M I L pc f (.ref v :: .ref (gA w o) :: st) := by
  obtain ⟨p, l, e, R, s, m, args, below, meth, c, A, cells, slots, Qf⟩ := X
  have hX0 := hX
  obtain ⟨hx, hb, hml, hr, hlk, ho, hts, hK, hSW, hA, hR, hc, hs, hq⟩ := hX
  intro H locs ls hP hD hS hl
  obtain ⟨hf0, hN, hfin, hdc, ty, hpd, hnf⟩ := hf
  refine va_putF (D := w.1) (cl := vwCl) (ci := 4) (C := RX5) (T := TX5) (N := 34) hx hb hts inB5 tyX5 tyX5_ok nmX5 ho hK hP hD hS o (ob_get (by decide) hk) rfl k hN (hts _ hw) (fun _ h => h) hfin (hs.trans hin.1) (hdc.trans hin.2.symm) hpd (hnf v).1 (hnf v).2 ?_ hd (fun H1 locs1 hP1 hD1 hS1 => kk (hX0.ex wP.ex) H1 locs1 ls ?_ ?_ hS1 hl)
  · simpa using (List.getElem?_eq_some_iff.mp hf0).1
  · rw [fs_setR _ _ _ _ hf0] at hP1
    rw [wsO_wP hk]
    exact hP1
  · rw [fs_setR _ _ _ _ hf0] at hD1
    rw [wsO_wP hk]
    exact hD1
theorem h_aast {X : CT} {w : WG} {M : MD} {Q : QW} {I : SI} {L : SL} {pc : Nat} {f : LV} {st : List Value} {kc ks o o2 n n2 : Nat} {i : Int32} (hX : Cy X w M Q kc ks) (hd : decode M.2.1 pc = .ok (.aastore, 1)) (hk : (gK w)[o]? = some (7, n)) (hk2 : (gK w)[o2]? = some (2, n2)) (hin : vp_in i n) (kk : Cy X (wP w o i.toNatClampNeg (some (gA w o2))) M Q kc ks → G X (wP w o i.toNatClampNeg (some (gA w o2))) M I L (pc + 1) f st) : G X w M I L pc f (.ref (gA w o2) :: .int i :: .ref (gA w o) :: st) := by
  obtain ⟨p, l, e, R, s, m, args, below, meth, c, A, cells, slots, Qf⟩ := X
  have hX0 := hX
  obtain ⟨hx, hb, hml, hr, hlk, ho, hts, hK, hSW, hA, hR, hc, hs, hq⟩ := hX
  intro H locs ls hP hD hS hl
  have hup : va_up (gP w o) i.toNatClampNeg (some (gA w o2)) = fun j => if j = i.toNatClampNeg then some (gA w o2) else gP w o j := rfl
  refine va_astq (D := w.1) (cl := vwCl) (tys := gT w) (r := (RX3, TX3, 15)) hx hb hK hP hD hS o 2 o2 2 (wsO_get hk) rfl (ob_get (by decide) hk2) rfl hin hd (fun H1 locs1 hP1 hD1 hS1 => kk (hX0.ex wP.ex) H1 locs1 ls ?_ ?_ hS1 hl)
  · rw [wsO_wP hk]; exact hP1
  · rw [wsO_wP hk]; exact hD1
def LkI (own : String) (idx : Nat) (M : MD) (n : Nat) : Prop := (Cond.methodLink own idx M.1 ∈ BG ∧ Cond.instanceMethod M.1 ∈ BG ∧ Cond.initialized M.1.cls ∈ BG ∧ Cond.code M.1 M.2.1 M.2.2.1 M.2.2.2.1 ∈ BG) ∧ M.1.name = "<init>" ∧ M.2.2.2.1 = none ∧ M.1.cls ≠ "java/lang/invoke/MethodHandle" ∧ M.1.cls ≠ "java/lang/invoke/VarHandle" ∧ (parseMethodDescriptor M.1.desc).map (fun d => d.parameters.length) = some n
theorem run_onM {p : Program} {l : Launch} {e : Env} {R : Room} {s : State} {m : MethodId} {args : Array Value} {below : List Frame} {meth : Method} {c : Code} {A : Nat → Prop} {cells slots C1 S1 : Nat} {Qf : State → Prop} {w : WG} {M : MD} {I : SI} {L : SL} {pc : Nat} {f : LV} {st rest : List Value} {Qy : QW} {aa : Array Value} {H : Heap} {locs : List Loc} {ls : Array Slot}
    (hr : va_Run p l e R s m args below meth c H locs cells slots C1 S1 (F0 m pc ls st) rest (QcM w Qy (va_A (wsO w I L) H.size) aa) (va_A (wsO w I L) H.size)) (hD : va_D A (wsO w I L)) (hS : va_S A s.heap H locs) (hA : ∀ q : Nat, s.heap.size ≤ q → A q) (hl : hasL ls M.2.2.1 f)
    (kk : ∀ (r : Option Value) (w' : WG) (I' : SI) (L' : SL), exW w w' → Qy r w' I' L' → G (p, l, e, R, s, m, args, below, meth, c, A, cells + C1, slots + S1, Qf) w' M I' L' (pc + 3) f (r.toList ++ rest)) : W p l e R s m args below meth c H locs cells slots Qf (F0 m pc ls st) := by
  have hF : ∀ q, va_A (wsO w I L) H.size q → A q := fun q h => by
    rcases h with ⟨k, e, h⟩ | h
    · exact hD.2 k (q, e) h
    · exact hA q (Nat.le_trans hS.1 h)
  intro T hT X0
  obtain ⟨v, st₀, t, T', Ls, h0, X', hL, e1, e2, ⟨⟨r, w', I', L', hv, hex, hQ, hP1, hD1⟩, hz, hk1⟩, stp⟩ := hr T hT X0
  cases hv
  rw [h0] at hz hk1
  obtain ⟨t2, a1, b1⟩ := kk v w' I' L' hex hQ T'.heap (locs ++ Ls) ls (by rw [e1, hex.1]; exact hP1) (hD1.weaken (fun _ q _ h => hF q.1 h))
    ⟨Nat.le_trans hS.1 (by rw [e1]; exact hz), fun q h1 h2 => by rw [e1, hk1 q (Nat.lt_of_lt_of_le h1 hS.1) (fun z => h2 (hF q z))]; exact hS.2.1 q h1 h2, fun q hq => by
      rcases List.mem_append.mp hq with h | h
      · exact hS.2.2 q h
      · exact hF _ (hL q h)⟩ hl T' rfl X'
  exact ⟨t2, stp t2 a1, b1⟩
theorem h_callI {X : CT} {w : WG} {M : MD} {Q : QW} {I : SI} {L : SL} {pc : Nat} {f : LV} {st : List Value} {My : MD} {idx n a : Nat} {av : List Value} {Qy : QW} {C1 S1 : Nat} (rest : List Value) (kc ks : Nat) (hX : Cy X w M Q (C1 + kc) (S1 + ks)) (hd : decode M.2.1 pc = .ok (.invokespecial idx, 3)) (hk : LkI M.1.cls idx My n) (hlt : My.2.2.2.2 + 1 ≤ M.2.2.2.2 ∧ My.2.2.1 ≤ 21) (hn : av.length = n) (hO : OkM w My (.ref a :: av) I L Qy C1 S1) (hst : st = av.reverse ++ .ref a :: rest) (hW : (rest.map fun v => v.category).sum ≤ 8) (kk : ∀ (r : Option Value) (w' : WG) (I' : SI) (L' : SL), Qy r w' I' L' → Cy (Xc X C1 S1) w' M Q kc ks → G (Xc X C1 S1) w' M I' L' (pc + 3) f (r.toList ++ rest)) : G X w M I L pc f st := by
  obtain ⟨p, l, e, R, s, m, args, below, meth, c, A, cells, slots, Qf⟩ := X
  have hX0 := hX
  obtain ⟨hx, hb, hml, hr, hlk, ho, hts, hK, hSW, hA, hR, hc, hs, hq⟩ := hX
  intro H locs ls hP hD hS hl
  obtain ⟨⟨k1, k2, k3, k4⟩, k5, k6, k7, k8, k9⟩ := hk
  have hG : GoodIn BG (wsM My) := good_bg (fun q hq => by
    rcases List.mem_cons.mp hq with rfl | hq
    · exact k4
    · exact hq)
  exact run_onM (va_runI (p := p) (l := l) (e := e) (R := R) (below := below) (meth := meth) (locs := locs) (cells := cells) (slots := slots) (H := H) (As := av) (rest := rest) (Ts := BG) (own := M.1.cls) (b := a) (nL := M.2.2.1) (cc := M.2.1) (bytes := My.2.1) (maxL := My.2.2.1) ⟨hx, hb, hml, ho, hts⟩ (hO l H.size) (cwI n hts hG (by unfold wsM; rw [k6]) rfl rfl (hts _ k3) (hts _ k1) (hts _ k2) k5 ⟨k7, k8, k9⟩ (room_ok hR hlt)) ⟨pre_blind, fun U hU hW2 => ⟨rfl, pre_at hP hD hS hK hSW hA U hU hW2⟩⟩ rfl hn hl.1 hst (lv_room hW) hd ⟨by have := hc.1; omega, by have := hc.2; omega⟩) hD hS hA hl (fun r w' I' L' hex hq => kk r w' I' L' hq ((hX0.spend).ex hex))
