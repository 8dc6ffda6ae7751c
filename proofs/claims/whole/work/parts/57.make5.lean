def KP (w w' : WG) (n : Nat) (S : List Nat) : Prop := (∀ (k : Nat) (κ : Nat × Nat), (gK w)[k]? = some κ → (gK w')[k]? = some κ) ∧ (∀ k, k < n → gA w' k = gA w k) ∧ ∀ k j, k < n → (k = 0 → j ∉ S) → gP w' k j = gP w k j
theorem gA_wP {w : WG} {o k : Nat} {v : Option Nat} {j : Nat} : gA (wP w o k v) j = gA w j := rfl
theorem gK_wP {w : WG} {o k : Nat} {v : Option Nat} : gK (wP w o k v) = gK w := rfl
theorem KP.rf {w : WG} {n : Nat} : KP w w n [] := ⟨fun _ _ h => h, fun _ _ => rfl, fun _ _ _ _ => rfl⟩
theorem KP.tr {w w1 w2 : WG} {n n1 : Nat} {S S1 : List Nat} (h : KP w w1 n S) (h1 : KP w1 w2 n1 S1) (hn : n ≤ n1) : KP w w2 n (S ++ S1) := by
  obtain ⟨a, b, c⟩ := h
  obtain ⟨a1, b1, c1⟩ := h1
  exact ⟨fun k κ h => a1 k κ (a k κ h), fun k hk => (b1 k (by omega)).trans (b k hk), fun k j hk hj => (c1 k j (by omega) (fun e z => hj e (List.mem_append_right _ z))).trans (c k j hk (fun e z => hj e (List.mem_append_left _ z)))⟩
def ZR (I : SI) (n : Nat) : Prop := ∀ o, 1 ≤ o → o < n → I o = fun _ => 0
theorem KP.wp {w : WG} {n sl : Nat} {v : Option Nat} : KP w (wP w 0 sl v) n [sl] := ⟨fun _ _ h => h, fun _ _ => rfl, fun k j _ hj => by rw [gP_wP, if_neg (fun z => hj z.1 (by rw [z.2]; exact List.mem_singleton.mpr rfl))]⟩
theorem KP.wn {w : WG} {κ : Nat × Nat} {q n : Nat} (hl : (gK w).length = n) : KP w (wN w κ q) n [] := ⟨fun _ _ h => gK_wN_at h, fun k hk => by rw [gA_wN, if_neg (by omega)], fun k j hk _ => by rw [gP_wN, if_neg (by omega)]⟩
theorem KP.mk {w0 w : WG} {I0 I : SI} {L0 L : SL} {o n : Nat} {κs : List (Nat × Nat)} {rs : List Nat} (h : MK w0 I0 L0 o κs rs w I L) (hl : n ≤ o) (hl2 : o < (gK w0).length) : KP w0 w n [] := ⟨fun k κ hk => by rw [h.1, List.getElem?_append_left (List.getElem?_eq_some_iff.mp hk).1]; exact hk, fun k hk => h.2.1 k (by omega), fun k j hk _ => h.2.2.1 k j (by omega) (fun z => absurd z (by omega))⟩
theorem ZR.new {w : WG} {I : SI} {n : Nat} (h : ZR I n) (hl : (gK w).length = n) : ZR (nI0 w I) (n + 1) := by
  intro o h1 h2
  unfold nI0
  by_cases e : o = n
  · subst e; rw [hl, rS_eq]
  · rw [rS_ne _ _ _ (by omega)]; exact h o h1 (by omega)
theorem nI0_0 {w : WG} {I : SI} {n : Nat} (hl : (gK w).length = n) (hn : 0 < n) : nI0 w I 0 = I 0 := by unfold nI0; rw [rS_ne _ _ _ (by omega)]
theorem ZR.mk {w0 w : WG} {I0 I : SI} {L0 L : SL} {o n : Nat} {κs : List (Nat × Nat)} {rs : List Nat} (h : MK w0 I0 L0 o κs rs w I L) (hz : ZR I0 n) (hl : (gK w0).length = n) : ZR I (n + κs.length) := by
  intro o h1 h2
  rcases Nat.lt_or_ge o n with g | g
  · rw [(h.2.2.2.2.1 o (by omega)).1]; exact hz o h1 g
  · have := h.2.2.2.2.2 (o - n) (by omega)
    rw [hl, show n + (o - n) = o by omega] at this; exact this
theorem gK_end {w : WG} {κ : Nat × Nat} {q n : Nat} (hl : (gK w).length = n) : (gK (wN w κ q))[n]? = some κ ∧ (gK (wN w κ q)).length = n + 1 ∧ gA (wN w κ q) n = q := ⟨by rw [gK_wN, List.getElem?_append_right (by omega), hl, Nat.sub_self]; rfl, by rw [gK_wN, List.length_append, hl]; rfl, by rw [gA_wN, if_pos hl.symm]⟩
theorem VL.kp {w w' : WG} {v n : Nat} {S : List Nat} (h : VL w v) (hk : KP w w' n S) (hv : 0 < v ∧ v + 10 ≤ n) : VL w' v := h.of hk.1 (fun j hj => hk.2.1 _ (by omega)) (fun j => hk.2.2 _ _ (by omega) (fun z => absurd z (by omega)))
theorem TL.kp {w w' : WG} {v n : Nat} {S : List Nat} (h : TL w v) (hk : KP w w' n S) (hv : 0 < v ∧ v + 2 ≤ n) : TL w' v := by
  obtain ⟨h0, h1, h2⟩ := h
  exact ⟨hk.1 _ _ h0, hk.1 _ _ h1, by rw [hk.2.2 _ _ (by omega) (fun z => absurd z (by omega)), hk.2.1 _ (by omega)]; exact h2⟩
theorem kI_X4_25 : LkI RX4 25 mX2_init 0 := ⟨⟨b_ml_X4_25, b_inm_yX2_init, b_in_X2, b_co_yX2_init⟩, by decide +kernel, rfl, by decide +kernel, by decide +kernel, by decide +kernel⟩
/-- what the class's constructor leaves -/
def QIX (w : WG) : QW := fun r w' I' _ => r = none ∧ XL w' ∧ (gK w').length = 27 ∧ gA w' 0 = gA w 0 ∧ (∀ j, gP w' 21 j = none) ∧ I' 0 = upd (upd (fun _ => 0) 4 0) 5 1 ∧ ZR I' 27
set_option maxHeartbeats 4000000 in
set_option maxRecDepth 100000 in
theorem ok_initX {w0 : WG} {I0 : SI} {L0 : SL} (hl0 : (gK w0).length = 1) (hk0 : (gK w0)[0]? = some (3, 0)) (h00 : I0 0 = fun _ => 0) : OkA w0 mX4_init [.ref (gA w0 0)] I0 L0 (QIX w0) 26 604 := by
  have hz0 : ZR I0 1 := fun o h1 h2 => absurd h2 (by omega)
  obtain ⟨a0, ha0⟩ : ∃ a, a = gA w0 0 := ⟨_, rfl⟩
  rw [← ha0]
  refine OkA.of (by decide) (Nat.le_of_ble_eq_true rfl) (fun X hX0 hAO => ?_)
  refine h_aload_n hX0 dX4_init_0 rfl rfl ?_
  refine h_objInit hX0 dX4_init_1 b_ml_X4_1 (by decide) (Nat.le_of_ble_eq_true rfl) ?_
  refine G.at (l := [(0, .ref a0)]) ?_ ⟨rfl, trivial⟩
  refine h_aload_n hX0 dX4_init_4 rfl rfl ?_
  refine h_new3 25 589 hX0 dX4_init_5 b_cl_X4_7 (fun q hXa => ?_)
  refine h_dup hXa dX4_init_8 rfl ?_
  obtain ⟨hkN, hlN, hqN⟩ := gK_end (w := w0) (κ := (2, 0)) (q := q) hl0
  refine h_callI (My := mX3_init) (a := q) (av := []) (C1 := 9) (S1 := 144) [.ref q, .ref a0] 16 445 hXa dX4_init_9 kI_X4_9 ⟨by decide, by decide⟩ rfl (by have z := ok_initV (I0 := nI0 w0 I0) (L0 := nL0 w0 L0) hkN; rw [hqN] at z; exact z) rfl (Nat.le_of_ble_eq_true rfl) (fun r2 v1 I1 L1 hq2 hXb => ?_)
  obtain ⟨e2, hM⟩ := hq2
  subst e2
  have hV1 := hM.vl hkN hlN
  have kpN := (KP.wn (κ := (2, 0)) (q := q) hl0).tr (KP.mk hM (Nat.le_refl 1) (by omega)) (Nat.le_refl _)
  have hz1 : ZR I1 11 := ZR.mk hM (hz0.new hl0) hlN
  have h01 : I1 0 = fun _ => 0 := ((hM.2.2.2.2.1 0 (by omega)).1.trans (nI0_0 hl0 (by decide))).trans h00
  have ha1 : a0 = gA v1 0 := by rw [kpN.2.1 0 (by decide)]; exact ha0
  have hk1 := kpN.1 _ _ hk0
  have hqv : gA v1 1 = q := by rw [hM.2.1 1 (by omega), hqN]
  have hlv : (gK v1).length = 11 := by rw [hM.1, List.length_append, hlN]; rfl
  rw [ha1]
  refine h_putN4 hXb 0 dX4_init_12 b_fl_X4_10 hk1 pn4_0 ⟨rfl, rfl⟩ (fun hX1 => ?_)
  rw [← ha1]
  have hV1 : VL (wP v1 0 0 (some q)) 1 := hV1.kp (n := 11) KP.wp (by decide)
  have kp1 := kpN.tr (KP.wp (w := v1) (n := 1) (sl := 0) (v := some q)) (Nat.le_refl _)
  have hp1 : gP (wP v1 0 0 (some q)) 0 0 = some (gA (wP v1 0 0 (some q)) 1) := by rw [gP_wP, if_pos ⟨rfl, rfl⟩, gA_wP, hqv]
  have hl1 : (gK (wP v1 0 0 (some q))).length = 11 := by rw [gK_wP]; exact hlv
  have ha1 : a0 = gA (wP v1 0 0 (some q)) 0 := by rw [gA_wP]; exact ha1
  have hk1 : (gK (wP v1 0 0 (some q)))[0]? = some (3, 0) := by rw [gK_wP]; exact hk1
  generalize wP v1 0 0 (some q) = w1 at hX1 hV1 kp1 hp1 hl1 ha1 hk1 ⊢
  clear hM kpN hXa hXb hkN hlN hqN hqv hlv hX0
  refine h_aload_n hX1 dX4_init_15 rfl rfl ?_
  refine h_new3 15 430 hX1 dX4_init_16 b_cl_X4_7 (fun q hXa => ?_)
  refine h_dup hXa dX4_init_19 rfl ?_
  obtain ⟨hkN, hlN, hqN⟩ := gK_end (w := w1) (κ := (2, 0)) (q := q) hl1
  refine h_callI (My := mX3_init) (a := q) (av := []) (C1 := 9) (S1 := 144) [.ref q, .ref a0] 6 286 hXa dX4_init_20 kI_X4_9 ⟨by decide, by decide⟩ rfl (by have z := ok_initV (I0 := nI0 w1 I1) (L0 := nL0 w1 L1) hkN; rw [hqN] at z; exact z) rfl (Nat.le_of_ble_eq_true rfl) (fun r2 v2 I2 L2 hq2 hXb => ?_)
  obtain ⟨e2, hM⟩ := hq2
  subst e2
  have hV2 := hM.vl hkN hlN
  have kpN := (KP.wn (κ := (2, 0)) (q := q) hl1).tr (KP.mk hM (Nat.le_refl 11) (by omega)) (Nat.le_refl _)
  have hz2 : ZR I2 21 := ZR.mk hM (hz1.new hl1) hlN
  have h02 : I2 0 = fun _ => 0 := ((hM.2.2.2.2.1 0 (by omega)).1.trans (nI0_0 hl1 (by decide))).trans h01
  have ha2 : a0 = gA v2 0 := by rw [kpN.2.1 0 (by decide)]; exact ha1
  have hk2 := kpN.1 _ _ hk1
  have hqv : gA v2 11 = q := by rw [hM.2.1 11 (by omega), hqN]
  have hlv : (gK v2).length = 21 := by rw [hM.1, List.length_append, hlN]; rfl
  rw [ha2]
  refine h_putN4 hXb 1 dX4_init_23 b_fl_X4_16 hk2 pn4_1 ⟨rfl, rfl⟩ (fun hX2 => ?_)
  rw [← ha2]
  have hV2 : VL (wP v2 0 1 (some q)) 11 := hV2.kp (n := 21) KP.wp (by decide)
  have kp2 := kpN.tr (KP.wp (w := v2) (n := 11) (sl := 1) (v := some q)) (Nat.le_refl _)
  have hp2 : gP (wP v2 0 1 (some q)) 0 1 = some (gA (wP v2 0 1 (some q)) 11) := by rw [gP_wP, if_pos ⟨rfl, rfl⟩, gA_wP, hqv]
  have hl2 : (gK (wP v2 0 1 (some q))).length = 21 := by rw [gK_wP]; exact hlv
  have ha2 : a0 = gA (wP v2 0 1 (some q)) 0 := by rw [gA_wP]; exact ha2
  have hk2 : (gK (wP v2 0 1 (some q)))[0]? = some (3, 0) := by rw [gK_wP]; exact hk2
  generalize wP v2 0 1 (some q) = w2 at hX2 hV2 kp2 hp2 hl2 ha2 hk2 ⊢
  clear hM kpN hXa hXb hkN hlN hqN hqv hlv hX1
  refine h_aload_n hX2 dX4_init_26 rfl rfl ?_
  refine h_iconst (v := 2) hX2 dX4_init_27 (by decide) ?_
  refine h_anewR 5 284 hX2 hAO.c.c.c.c dX4_init_28 b_cl_X4_7 rfl (fun q hXa => ?_)
  obtain ⟨hkN, hlN, hqN⟩ := gK_end (w := w2) (κ := (7, 2)) (q := q) hl2
  have kpN := KP.wn (w := w2) (κ := (7, 2)) (q := q) hl2
  have hz3 := hz2.new hl2
  have h03 := (nI0_0 (I := I2) hl2 (by decide)).trans h02
  have ha3 : a0 = gA (wN w2 (7, 2) q) 0 := by rw [kpN.2.1 0 (by decide)]; exact ha2
  have hk3 := kpN.1 _ _ hk2
  have hn3 : ∀ j, gP (wN w2 (7, 2) q) 21 j = none := fun j => by rw [gP_wN, if_pos hl2.symm]
  rw [ha3]
  refine h_putN4 hXa 2 dX4_init_31 b_fl_X4_19 hk3 pn4_2 ⟨rfl, rfl⟩ (fun hX3 => ?_)
  rw [← ha3]
  have kp3 := kpN.tr (KP.wp (w := wN w2 (7, 2) q) (n := 21) (sl := 2) (v := some q)) (Nat.le_refl _)
  have hp3 : gP (wP (wN w2 (7, 2) q) 0 2 (some q)) 0 2 = some (gA (wP (wN w2 (7, 2) q) 0 2 (some q)) 21) := by rw [gP_wP, if_pos ⟨rfl, rfl⟩, gA_wP, hqN]
  have hn3 : ∀ j, gP (wP (wN w2 (7, 2) q) 0 2 (some q)) 21 j = none := fun j => by rw [gP_wP, if_neg (by omega)]; exact hn3 j
  have hK3 : (gK (wP (wN w2 (7, 2) q) 0 2 (some q)))[21]? = some (7, 2) := by rw [gK_wP]; exact hkN
  have hl3 : (gK (wP (wN w2 (7, 2) q) 0 2 (some q))).length = 22 := by rw [gK_wP]; exact hlN
  have ha3 : a0 = gA (wP (wN w2 (7, 2) q) 0 2 (some q)) 0 := by rw [gA_wP]; exact ha3
  have hk3 : (gK (wP (wN w2 (7, 2) q) 0 2 (some q)))[0]? = some (3, 0) := by rw [gK_wP]; exact hk3
  generalize wP (wN w2 (7, 2) q) 0 2 (some q) = w3 at hX3 kp3 hp3 hl3 ha3 hk3 hK3 hn3 ⊢
  generalize nI0 w2 I2 = I3 at hz3 h03 ⊢
  generalize nL0 w2 L2 = L3
  clear kpN hXa hkN hlN hqN hX2
  refine h_aload_n hX3 dX4_init_34 rfl rfl ?_
  refine h_new2 4 282 hX3 dX4_init_35 b_cl_X4_23 (fun q hXa => ?_)
  refine h_dup hXa dX4_init_38 rfl ?_
  obtain ⟨hkN, hlN, hqN⟩ := gK_end (w := w3) (κ := (1, 0)) (q := q) hl3
  refine h_callI (My := mX2_init) (a := q) (av := []) (C1 := 1) (S1 := 150) [.ref q, .ref a0] 3 132 hXa dX4_init_39 kI_X4_25 ⟨by decide, by decide⟩ rfl (by have z := ok_initT (I0 := nI0 w3 I3) (L0 := nL0 w3 L3) hkN; rw [hqN] at z; exact z) rfl (Nat.le_of_ble_eq_true rfl) (fun r2 v4 I4 L4 hq2 hXb => ?_)
  obtain ⟨e2, I9, hM, eI⟩ := hq2
  subst e2
  have hT4 : TL v4 22 := ⟨hM.at hkN, by rw [hM.1, List.getElem?_append_right (by omega), hlN]; rfl, by have z := hM.2.2.2.1 0 0 rfl; rw [hlN] at z; exact z⟩
  have kpN := (KP.wn (κ := (1, 0)) (q := q) hl3).tr (KP.mk hM (Nat.le_refl 22) (by omega)) (Nat.le_refl _)
  have hz9 : ZR I9 24 := ZR.mk hM (hz3.new hl3) hlN
  have hz4 : ZR I4 24 := by
    intro o h1 h2
    rw [eI]
    by_cases e : o = 22
    · subst e; rw [rS_eq, hz9 22 (by decide) (by decide)]; exact upd_id rfl
    · rw [rS_ne _ _ _ e]; exact hz9 o h1 h2
  have h04 : I4 0 = fun _ => 0 := by rw [eI, rS_ne _ _ _ (by decide)]; exact ((hM.2.2.2.2.1 0 (by omega)).1.trans (nI0_0 hl3 (by decide))).trans h03
  have ha4 : a0 = gA v4 0 := by rw [kpN.2.1 0 (by decide)]; exact ha3
  have hk4 := kpN.1 _ _ hk3
  have hqv : gA v4 22 = q := by rw [hM.2.1 22 (by omega), hqN]
  have hlv : (gK v4).length = 24 := by rw [hM.1, List.length_append, hlN]; rfl
  rw [ha4]
  refine h_putN4 hXb 3 dX4_init_42 b_fl_X4_26 hk4 pn4_3 ⟨rfl, rfl⟩ (fun hX4 => ?_)
  rw [← ha4]
  have hT4 : TL (wP v4 0 3 (some q)) 22 := hT4.kp (n := 24) KP.wp (by decide)
  have kp4 := kpN.tr (KP.wp (w := v4) (n := 22) (sl := 3) (v := some q)) (Nat.le_refl _)
  have hp4 : gP (wP v4 0 3 (some q)) 0 3 = some (gA (wP v4 0 3 (some q)) 22) := by rw [gP_wP, if_pos ⟨rfl, rfl⟩, gA_wP, hqv]
  have hl4 : (gK (wP v4 0 3 (some q))).length = 24 := by rw [gK_wP]; exact hlv
  have ha4 : a0 = gA (wP v4 0 3 (some q)) 0 := by rw [gA_wP]; exact ha4
  have hk4 : (gK (wP v4 0 3 (some q)))[0]? = some (3, 0) := by rw [gK_wP]; exact hk4
  generalize wP v4 0 3 (some q) = w4 at hX4 hT4 kp4 hp4 hl4 ha4 hk4 ⊢
  clear hM kpN hXa hXb hkN hlN hqN hqv hlv hX3 hz9 eI
  rw [ha4]
  refine h_aload_n hX4 dX4_init_45 rfl rfl ?_
  refine h_iconst (v := 0) hX4 dX4_init_46 (by decide) ?_
  refine h_put4I hX4 4 dX4_init_47 b_fl_X4_30 hk4 pf4_4 ?_
  refine h_aload_n hX4 dX4_init_50 rfl rfl ?_
  refine h_iconst (v := 1) hX4 dX4_init_51 (by decide) ?_
  refine h_put4I hX4 5 dX4_init_52 b_fl_X4_34 hk4 pf4_5 ?_
  rw [← ha4]
  rw [rS_eq, rS_rS, h04]
  obtain ⟨I4b, eI4⟩ : ∃ J, J = rS I4 0 (upd (upd (fun _ => 0) 4 0) 5 1) := ⟨_, rfl⟩
  rw [← eI4]
  have hz4 : ZR I4b 24 := fun o h1 h2 => by rw [eI4, rS_ne _ _ _ (by omega)]; exact hz4 o h1 h2
  have h04 : I4b 0 = upd (upd (fun _ => 0) 4 0) 5 1 := by rw [eI4, rS_eq]
  clear eI4
  refine h_aload_n hX4 dX4_init_55 rfl rfl ?_
  refine h_iconst (v := 4) hX4 dX4_init_56 (by decide) ?_
  refine h_newI 2 128 4 hX4 dX4_init_57 b_ac_int rfl (by decide) (fun q hXa => ?_)
  obtain ⟨hkN, hlN, hqN⟩ := gK_end (w := w4) (κ := (6, 4)) (q := q) hl4
  have kpN := KP.wn (w := w4) (κ := (6, 4)) (q := q) hl4
  have hz5 := hz4.new hl4
  have h05 := (nI0_0 (I := I4b) hl4 (by decide)).trans h04
  have ha5 : a0 = gA (wN w4 (6, 4) q) 0 := by rw [kpN.2.1 0 (by decide)]; exact ha4
  have hk5 := kpN.1 _ _ hk4
  have hn5 : ∀ j, gP (wN w4 (6, 4) q) 24 j = none := fun j => by rw [gP_wN, if_pos hl4.symm]
  rw [ha5]
  refine h_putN4 hXa 9 dX4_init_59 b_fl_X4_37 hk5 pn4_9 ⟨rfl, rfl⟩ (fun hX5 => ?_)
  rw [← ha5]
  have kp5 := kpN.tr (KP.wp (w := wN w4 (6, 4) q) (n := 24) (sl := 9) (v := some q)) (Nat.le_refl _)
  have hp5 : gP (wP (wN w4 (6, 4) q) 0 9 (some q)) 0 9 = some (gA (wP (wN w4 (6, 4) q) 0 9 (some q)) 24) := by rw [gP_wP, if_pos ⟨rfl, rfl⟩, gA_wP, hqN]
  have hn5 : ∀ j, gP (wP (wN w4 (6, 4) q) 0 9 (some q)) 24 j = none := fun j => by rw [gP_wP, if_neg (by omega)]; exact hn5 j
  have hK5 : (gK (wP (wN w4 (6, 4) q) 0 9 (some q)))[24]? = some (6, 4) := by rw [gK_wP]; exact hkN
  have hl5 : (gK (wP (wN w4 (6, 4) q) 0 9 (some q))).length = 25 := by rw [gK_wP]; exact hlN
  have ha5 : a0 = gA (wP (wN w4 (6, 4) q) 0 9 (some q)) 0 := by rw [gA_wP]; exact ha5
  have hk5 : (gK (wP (wN w4 (6, 4) q) 0 9 (some q)))[0]? = some (3, 0) := by rw [gK_wP]; exact hk5
  generalize wP (wN w4 (6, 4) q) 0 9 (some q) = w5 at hX5 kp5 hp5 hl5 ha5 hk5 hK5 hn5 ⊢
  generalize nI0 w4 I4b = I5 at hz5 h05 ⊢
  generalize nL0 w4 L4 = L5
  clear kpN hXa hkN hlN hqN hX4
  refine h_aload_n hX5 dX4_init_62 rfl rfl ?_
  refine h_bipush (v := 64) hX5 dX4_init_63 (by decide) ?_
  refine h_newI 1 64 64 hX5 dX4_init_65 b_ac_int rfl (by decide) (fun q hXa => ?_)
  obtain ⟨hkN, hlN, hqN⟩ := gK_end (w := w5) (κ := (6, 64)) (q := q) hl5
  have kpN := KP.wn (w := w5) (κ := (6, 64)) (q := q) hl5
  have hz6 := hz5.new hl5
  have h06 := (nI0_0 (I := I5) hl5 (by decide)).trans h05
  have ha6 : a0 = gA (wN w5 (6, 64) q) 0 := by rw [kpN.2.1 0 (by decide)]; exact ha5
  have hk6 := kpN.1 _ _ hk5
  have hn6 : ∀ j, gP (wN w5 (6, 64) q) 25 j = none := fun j => by rw [gP_wN, if_pos hl5.symm]
  rw [ha6]
  refine h_putN4 hXa 10 dX4_init_67 b_fl_X4_41 hk6 pn4_10 ⟨rfl, rfl⟩ (fun hX6 => ?_)
  rw [← ha6]
  have kp6 := kpN.tr (KP.wp (w := wN w5 (6, 64) q) (n := 25) (sl := 10) (v := some q)) (Nat.le_refl _)
  have hp6 : gP (wP (wN w5 (6, 64) q) 0 10 (some q)) 0 10 = some (gA (wP (wN w5 (6, 64) q) 0 10 (some q)) 25) := by rw [gP_wP, if_pos ⟨rfl, rfl⟩, gA_wP, hqN]
  have hn6 : ∀ j, gP (wP (wN w5 (6, 64) q) 0 10 (some q)) 25 j = none := fun j => by rw [gP_wP, if_neg (by omega)]; exact hn6 j
  have hK6 : (gK (wP (wN w5 (6, 64) q) 0 10 (some q)))[25]? = some (6, 64) := by rw [gK_wP]; exact hkN
  have hl6 : (gK (wP (wN w5 (6, 64) q) 0 10 (some q))).length = 26 := by rw [gK_wP]; exact hlN
  have ha6 : a0 = gA (wP (wN w5 (6, 64) q) 0 10 (some q)) 0 := by rw [gA_wP]; exact ha6
  have hk6 : (gK (wP (wN w5 (6, 64) q) 0 10 (some q)))[0]? = some (3, 0) := by rw [gK_wP]; exact hk6
  generalize wP (wN w5 (6, 64) q) 0 10 (some q) = w6 at hX6 kp6 hp6 hl6 ha6 hk6 hK6 hn6 ⊢
  generalize nI0 w5 I5 = I6 at hz6 h06 ⊢
  generalize nL0 w5 L5 = L6
  clear kpN hXa hkN hlN hqN hX5
  refine h_aload_n hX6 dX4_init_70 rfl rfl ?_
  refine h_bipush (v := 64) hX6 dX4_init_71 (by decide) ?_
  refine h_newI 0 0 64 hX6 dX4_init_73 b_ac_int rfl (by decide) (fun q hXa => ?_)
  obtain ⟨hkN, hlN, hqN⟩ := gK_end (w := w6) (κ := (6, 64)) (q := q) hl6
  have kpN := KP.wn (w := w6) (κ := (6, 64)) (q := q) hl6
  have hz7 := hz6.new hl6
  have h07 := (nI0_0 (I := I6) hl6 (by decide)).trans h06
  have ha7 : a0 = gA (wN w6 (6, 64) q) 0 := by rw [kpN.2.1 0 (by decide)]; exact ha6
  have hk7 := kpN.1 _ _ hk6
  have hn7 : ∀ j, gP (wN w6 (6, 64) q) 26 j = none := fun j => by rw [gP_wN, if_pos hl6.symm]
  rw [ha7]
  refine h_putN4 hXa 11 dX4_init_75 b_fl_X4_44 hk7 pn4_11 ⟨rfl, rfl⟩ (fun hX7 => ?_)
  rw [← ha7]
  have kp7 := kpN.tr (KP.wp (w := wN w6 (6, 64) q) (n := 26) (sl := 11) (v := some q)) (Nat.le_refl _)
  have hp7 : gP (wP (wN w6 (6, 64) q) 0 11 (some q)) 0 11 = some (gA (wP (wN w6 (6, 64) q) 0 11 (some q)) 26) := by rw [gP_wP, if_pos ⟨rfl, rfl⟩, gA_wP, hqN]
  have hn7 : ∀ j, gP (wP (wN w6 (6, 64) q) 0 11 (some q)) 26 j = none := fun j => by rw [gP_wP, if_neg (by omega)]; exact hn7 j
  have hK7 : (gK (wP (wN w6 (6, 64) q) 0 11 (some q)))[26]? = some (6, 64) := by rw [gK_wP]; exact hkN
  have hl7 : (gK (wP (wN w6 (6, 64) q) 0 11 (some q))).length = 27 := by rw [gK_wP]; exact hlN
  have ha7 : a0 = gA (wP (wN w6 (6, 64) q) 0 11 (some q)) 0 := by rw [gA_wP]; exact ha7
  have hk7 : (gK (wP (wN w6 (6, 64) q) 0 11 (some q)))[0]? = some (3, 0) := by rw [gK_wP]; exact hk7
  generalize wP (wN w6 (6, 64) q) 0 11 (some q) = w7 at hX7 kp7 hp7 hl7 ha7 hk7 hK7 hn7 ⊢
  generalize nI0 w6 I6 = I7 at hz7 h07 ⊢
  generalize nL0 w6 L6 = L7
  clear kpN hXa hkN hlN hqN hX6
  have t7 := KP.rf (w := w7) (n := 27)
  have t6 := kp7.tr t7 (by decide)
  have t5 := kp6.tr t6 (by decide)
  have t4 := kp5.tr t5 (by decide)
  have t3 := kp4.tr t4 (by decide)
  have t2 := kp3.tr t3 (by decide)
  have t1 := kp2.tr t2 (by decide)
  refine h_vret hX7 dX4_init_78 rfl ⟨rfl, ?_, hl7, ?_, ?_, h07, hz7⟩
  · exact ⟨hk7, hV1.kp t1 (by decide), hV2.kp t2 (by decide), t3.1 _ _ hK3, hT4.kp t4 (by decide), t5.1 _ _ hK5, t6.1 _ _ hK6, hK7, by rw [t1.2.2 0 0 (by decide) (fun _ => by decide), t1.2.1 _ (by decide)]; exact hp1, by rw [t2.2.2 0 1 (by decide) (fun _ => by decide), t2.2.1 _ (by decide)]; exact hp2, by rw [t3.2.2 0 2 (by decide) (fun _ => by decide), t3.2.1 _ (by decide)]; exact hp3, by rw [t4.2.2 0 3 (by decide) (fun _ => by decide), t4.2.1 _ (by decide)]; exact hp4, by rw [t5.2.2 0 9 (by decide) (fun _ => by decide), t5.2.1 _ (by decide)]; exact hp5, by rw [t6.2.2 0 10 (by decide) (fun _ => by decide), t6.2.1 _ (by decide)]; exact hp6, by rw [t7.2.2 0 11 (by decide) (fun _ => by decide), t7.2.1 _ (by decide)]; exact hp7⟩
  · rw [← ha7]; exact ha0
  · intro j; rw [t3.2.2 21 j (by decide) (fun z => absurd z (by decide))]; exact hn3 j
