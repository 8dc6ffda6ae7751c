/-- what a constructor has made: arrays behind the old objects, in the fields rs of the object o -/
def MK (w0 : WG) (I0 : SI) (L0 : SL) (o : Nat) (κs : List (Nat × Nat)) (rs : List Nat) (w : WG) (I : SI) (L : SL) : Prop :=
  gK w = gK w0 ++ κs ∧ (∀ k, k < (gK w0).length → gA w k = gA w0 k) ∧ (∀ k j, k < (gK w0).length → (k = o → j ∉ rs) → gP w k j = gP w0 k j) ∧ (∀ i k, rs[i]? = some k → gP w o k = some (gA w ((gK w0).length + i))) ∧ (∀ k, k < (gK w0).length → I k = I0 k ∧ L k = L0 k) ∧ ∀ i, i < κs.length → I ((gK w0).length + i) = fun _ => 0
theorem MK.start {w0 : WG} {I0 : SI} {L0 : SL} {o : Nat} : MK w0 I0 L0 o [] [] w0 I0 L0 :=
  ⟨(List.append_nil _).symm, fun _ _ => rfl, fun _ _ _ _ => rfl, fun i k h => by simp at h, fun _ _ => ⟨rfl, rfl⟩, fun i h => absurd h (Nat.not_lt_zero i)⟩
theorem MK.step {w0 w : WG} {I0 I : SI} {L0 L : SL} {o q k : Nat} {κ : Nat × Nat} {κs : List (Nat × Nat)} {rs : List Nat} (h : MK w0 I0 L0 o κs rs w I L) (hl : κs.length = rs.length) (ho : o < (gK w0).length) (hk : k ∉ rs) : MK w0 I0 L0 o (κs ++ [κ]) (rs ++ [k]) (wP (wN w κ q) o k (some q)) (nI0 w I) (nL0 w L) := by
  obtain ⟨h1, h2, h3, h4, h5, h6⟩ := h
  have hlen : (gK w).length = (gK w0).length + κs.length := by rw [h1, List.length_append]
  have hA : ∀ j, gA (wP (wN w κ q) o k (some q)) j = if j = (gK w).length then q else gA w j := fun _ => rfl
  refine ⟨?_, ?_, ?_, ?_, ?_, ?_⟩
  · show gK w ++ [κ] = _
    rw [h1, List.append_assoc]
  · intro j hj
    rw [hA, if_neg (by omega)]; exact h2 j hj
  · intro j i hj hi
    rw [gP_wP, if_neg (fun z => hi z.1 (by rw [z.2]; exact List.mem_append_right _ (List.mem_singleton.mpr rfl))), gP_wN, if_neg (by omega)]
    exact h3 j i hj (fun e z => hi e (List.mem_append_left _ z))
  · intro i j hi
    rcases Nat.lt_or_ge i rs.length with g | g
    · rw [List.getElem?_append_left g] at hi
      have hne : j ≠ k := fun e => hk (e ▸ List.mem_of_getElem? hi)
      rw [gP_wP, if_neg (fun z => hne z.2), gP_wN, if_neg (by omega), hA, if_neg (by omega)]
      exact h4 i j hi
    · rw [List.getElem?_append_right g] at hi
      have hz : i - rs.length < 1 := (List.getElem?_eq_some_iff.mp hi).1
      rw [show i - rs.length = 0 by omega] at hi
      cases hi
      rw [gP_wP, if_pos ⟨rfl, rfl⟩, hA, if_pos (by omega)]
  · intro j hj
    unfold nI0 nL0
    rw [rS_ne _ _ _ (by omega), rS_ne _ _ _ (by omega)]; exact h5 j hj
  · intro i hi
    rw [List.length_append, List.length_singleton] at hi
    unfold nI0
    by_cases e : i = κs.length
    · rw [show (gK w0).length + i = (gK w).length by omega, rS_eq]
    · rw [rS_ne _ _ _ (by omega)]; exact h6 i (by omega)
theorem MK.at {w0 w : WG} {I0 I : SI} {L0 L : SL} {o : Nat} {κ : Nat × Nat} {κs : List (Nat × Nat)} {rs : List Nat} (h : MK w0 I0 L0 o κs rs w I L) (hk : (gK w0)[o]? = some κ) : (gK w)[o]? = some κ := by
  rw [h.1, List.getElem?_append_left (List.getElem?_eq_some_iff.mp hk).1]; exact hk
theorem gK_wN_at {w : WG} {κ κ2 : Nat × Nat} {q o : Nat} (hk : (gK w)[o]? = some κ) : (gK (wN w κ2 q))[o]? = some κ := by
  rw [gK_wN, List.getElem?_append_left (List.getElem?_eq_some_iff.mp hk).1]; exact hk
theorem gA_wN_at {w : WG} {κ κ2 : Nat × Nat} {q o : Nat} (hk : (gK w)[o]? = some κ) : gA (wN w κ2 q) o = gA w o := by
  rw [gA_wN, if_neg (Nat.ne_of_lt (List.getElem?_eq_some_iff.mp hk).1)]
theorem pn3_6 : pn3 6 := ⟨rfl, by decide, by decide +kernel, by decide +kernel, .array .int, by decide +kernel, fun v => ⟨rfl, rfl⟩⟩
theorem pn3_7 : pn3 7 := ⟨rfl, by decide, by decide +kernel, by decide +kernel, .array .int, by decide +kernel, fun v => ⟨rfl, rfl⟩⟩
theorem pn3_8 : pn3 8 := ⟨rfl, by decide, by decide +kernel, by decide +kernel, .array .int, by decide +kernel, fun v => ⟨rfl, rfl⟩⟩
theorem pn3_9 : pn3 9 := ⟨rfl, by decide, by decide +kernel, by decide +kernel, .array .int, by decide +kernel, fun v => ⟨rfl, rfl⟩⟩
theorem pn3_10 : pn3 10 := ⟨rfl, by decide, by decide +kernel, by decide +kernel, .array .int, by decide +kernel, fun v => ⟨rfl, rfl⟩⟩
theorem pn3_11 : pn3 11 := ⟨rfl, by decide, by decide +kernel, by decide +kernel, .array .int, by decide +kernel, fun v => ⟨rfl, rfl⟩⟩
theorem pn3_12 : pn3 12 := ⟨rfl, by decide, by decide +kernel, by decide +kernel, .array .int, by decide +kernel, fun v => ⟨rfl, rfl⟩⟩
theorem pn3_13 : pn3 13 := ⟨rfl, by decide, by decide +kernel, by decide +kernel, .array .int, by decide +kernel, fun v => ⟨rfl, rfl⟩⟩
theorem pn3_14 : pn3 14 := ⟨rfl, by decide, by decide +kernel, by decide +kernel, .array .int, by decide +kernel, fun v => ⟨rfl, rfl⟩⟩
theorem ok_initV {w0 : WG} {I0 : SI} {L0 : SL} {o n0 : Nat} (hk : (gK w0)[o]? = some (2, n0)) : OkM w0 mX3_init [.ref (gA w0 o)] I0 L0 (fun r w' I' L' => r = none ∧ MK w0 I0 L0 o [(6, 4), (6, 4), (6, 4), (6, 7), (6, 7), (6, 7), (6, 7), (6, 24), (6, 80)] [6, 7, 8, 9, 10, 11, 12, 13, 14] w' I' L') 9 144 := by
  have ho : o < (gK w0).length := (List.getElem?_eq_some_iff.mp hk).1
  refine OkM.of (by decide) (Nat.le_of_ble_eq_true rfl) (fun X hX => ?_)
  generalize hQ : (fun r w' I' L' => r = none ∧ MK w0 I0 L0 o [(6, 4), (6, 4), (6, 4), (6, 7), (6, 7), (6, 7), (6, 7), (6, 24), (6, 80)] [6, 7, 8, 9, 10, 11, 12, 13, 14] w' I' L' : QW) = Q at hX
  have st9 : ∀ (X : CT) (w : WG) (I : SI) (L : SL), MK w0 I0 L0 o [(6, 4), (6, 4), (6, 4), (6, 7), (6, 7), (6, 7), (6, 7), (6, 24), (6, 80)] [6, 7, 8, 9, 10, 11, 12, 13, 14] w I L → Cy X w mX3_init Q 0 0 → G X w mX3_init I L 73 (lvO [(0, .ref (gA w0 o))]) [] := by
    intro X w I L hM hX
    exact h_vret hX dX3_init_73 rfl (by rw [← hQ]; exact ⟨rfl, hM⟩)
  have st8 : ∀ (X : CT) (w : WG) (I : SI) (L : SL), MK w0 I0 L0 o [(6, 4), (6, 4), (6, 4), (6, 7), (6, 7), (6, 7), (6, 7), (6, 24)] [6, 7, 8, 9, 10, 11, 12, 13] w I L → Cy X w mX3_init Q 1 80 → G X w mX3_init I L 65 (lvO [(0, .ref (gA w0 o))]) [] := by
    intro X w I L hM hX
    refine h_aload_n hX dX3_init_65 rfl rfl ?_
    refine h_bipush (v := 80) hX dX3_init_66 (by decide) ?_
    refine h_newI 0 0 80 hX dX3_init_68 b_ac_int rfl (by decide) (fun q hX1 => ?_)
    rw [← hM.2.1 o ho, ← gA_wN_at (hM.at hk)]
    refine h_putN3 hX1 14 dX3_init_70 b_fl_X3_36 (gK_wN_at (hM.at hk)) pn3_14 ⟨rfl, rfl⟩ (fun hX2 => ?_)
    rw [gA_wN_at (hM.at hk), hM.2.1 o ho]
    exact st9 _ _ _ _ (hM.step rfl ho (by decide)) hX2
  have st7 : ∀ (X : CT) (w : WG) (I : SI) (L : SL), MK w0 I0 L0 o [(6, 4), (6, 4), (6, 4), (6, 7), (6, 7), (6, 7), (6, 7)] [6, 7, 8, 9, 10, 11, 12] w I L → Cy X w mX3_init Q 2 104 → G X w mX3_init I L 57 (lvO [(0, .ref (gA w0 o))]) [] := by
    intro X w I L hM hX
    refine h_aload_n hX dX3_init_57 rfl rfl ?_
    refine h_bipush (v := 24) hX dX3_init_58 (by decide) ?_
    refine h_newI 1 80 24 hX dX3_init_60 b_ac_int rfl (by decide) (fun q hX1 => ?_)
    rw [← hM.2.1 o ho, ← gA_wN_at (hM.at hk)]
    refine h_putN3 hX1 13 dX3_init_62 b_fl_X3_33 (gK_wN_at (hM.at hk)) pn3_13 ⟨rfl, rfl⟩ (fun hX2 => ?_)
    rw [gA_wN_at (hM.at hk), hM.2.1 o ho]
    exact st8 _ _ _ _ (hM.step rfl ho (by decide)) hX2
  have st6 : ∀ (X : CT) (w : WG) (I : SI) (L : SL), MK w0 I0 L0 o [(6, 4), (6, 4), (6, 4), (6, 7), (6, 7), (6, 7)] [6, 7, 8, 9, 10, 11] w I L → Cy X w mX3_init Q 3 111 → G X w mX3_init I L 49 (lvO [(0, .ref (gA w0 o))]) [] := by
    intro X w I L hM hX
    refine h_aload_n hX dX3_init_49 rfl rfl ?_
    refine h_bipush (v := 7) hX dX3_init_50 (by decide) ?_
    refine h_newI 2 104 7 hX dX3_init_52 b_ac_int rfl (by decide) (fun q hX1 => ?_)
    rw [← hM.2.1 o ho, ← gA_wN_at (hM.at hk)]
    refine h_putN3 hX1 12 dX3_init_54 b_fl_X3_30 (gK_wN_at (hM.at hk)) pn3_12 ⟨rfl, rfl⟩ (fun hX2 => ?_)
    rw [gA_wN_at (hM.at hk), hM.2.1 o ho]
    exact st7 _ _ _ _ (hM.step rfl ho (by decide)) hX2
  have st5 : ∀ (X : CT) (w : WG) (I : SI) (L : SL), MK w0 I0 L0 o [(6, 4), (6, 4), (6, 4), (6, 7), (6, 7)] [6, 7, 8, 9, 10] w I L → Cy X w mX3_init Q 4 118 → G X w mX3_init I L 41 (lvO [(0, .ref (gA w0 o))]) [] := by
    intro X w I L hM hX
    refine h_aload_n hX dX3_init_41 rfl rfl ?_
    refine h_bipush (v := 7) hX dX3_init_42 (by decide) ?_
    refine h_newI 3 111 7 hX dX3_init_44 b_ac_int rfl (by decide) (fun q hX1 => ?_)
    rw [← hM.2.1 o ho, ← gA_wN_at (hM.at hk)]
    refine h_putN3 hX1 11 dX3_init_46 b_fl_X3_27 (gK_wN_at (hM.at hk)) pn3_11 ⟨rfl, rfl⟩ (fun hX2 => ?_)
    rw [gA_wN_at (hM.at hk), hM.2.1 o ho]
    exact st6 _ _ _ _ (hM.step rfl ho (by decide)) hX2
  have st4 : ∀ (X : CT) (w : WG) (I : SI) (L : SL), MK w0 I0 L0 o [(6, 4), (6, 4), (6, 4), (6, 7)] [6, 7, 8, 9] w I L → Cy X w mX3_init Q 5 125 → G X w mX3_init I L 33 (lvO [(0, .ref (gA w0 o))]) [] := by
    intro X w I L hM hX
    refine h_aload_n hX dX3_init_33 rfl rfl ?_
    refine h_bipush (v := 7) hX dX3_init_34 (by decide) ?_
    refine h_newI 4 118 7 hX dX3_init_36 b_ac_int rfl (by decide) (fun q hX1 => ?_)
    rw [← hM.2.1 o ho, ← gA_wN_at (hM.at hk)]
    refine h_putN3 hX1 10 dX3_init_38 b_fl_X3_24 (gK_wN_at (hM.at hk)) pn3_10 ⟨rfl, rfl⟩ (fun hX2 => ?_)
    rw [gA_wN_at (hM.at hk), hM.2.1 o ho]
    exact st5 _ _ _ _ (hM.step rfl ho (by decide)) hX2
  have st3 : ∀ (X : CT) (w : WG) (I : SI) (L : SL), MK w0 I0 L0 o [(6, 4), (6, 4), (6, 4)] [6, 7, 8] w I L → Cy X w mX3_init Q 6 132 → G X w mX3_init I L 25 (lvO [(0, .ref (gA w0 o))]) [] := by
    intro X w I L hM hX
    refine h_aload_n hX dX3_init_25 rfl rfl ?_
    refine h_bipush (v := 7) hX dX3_init_26 (by decide) ?_
    refine h_newI 5 125 7 hX dX3_init_28 b_ac_int rfl (by decide) (fun q hX1 => ?_)
    rw [← hM.2.1 o ho, ← gA_wN_at (hM.at hk)]
    refine h_putN3 hX1 9 dX3_init_30 b_fl_X3_21 (gK_wN_at (hM.at hk)) pn3_9 ⟨rfl, rfl⟩ (fun hX2 => ?_)
    rw [gA_wN_at (hM.at hk), hM.2.1 o ho]
    exact st4 _ _ _ _ (hM.step rfl ho (by decide)) hX2
  have st2 : ∀ (X : CT) (w : WG) (I : SI) (L : SL), MK w0 I0 L0 o [(6, 4), (6, 4)] [6, 7] w I L → Cy X w mX3_init Q 7 136 → G X w mX3_init I L 18 (lvO [(0, .ref (gA w0 o))]) [] := by
    intro X w I L hM hX
    refine h_aload_n hX dX3_init_18 rfl rfl ?_
    refine h_iconst (v := 4) hX dX3_init_19 (by decide) ?_
    refine h_newI 6 132 4 hX dX3_init_20 b_ac_int rfl (by decide) (fun q hX1 => ?_)
    rw [← hM.2.1 o ho, ← gA_wN_at (hM.at hk)]
    refine h_putN3 hX1 8 dX3_init_22 b_fl_X3_18 (gK_wN_at (hM.at hk)) pn3_8 ⟨rfl, rfl⟩ (fun hX2 => ?_)
    rw [gA_wN_at (hM.at hk), hM.2.1 o ho]
    exact st3 _ _ _ _ (hM.step rfl ho (by decide)) hX2
  have st1 : ∀ (X : CT) (w : WG) (I : SI) (L : SL), MK w0 I0 L0 o [(6, 4)] [6] w I L → Cy X w mX3_init Q 8 140 → G X w mX3_init I L 11 (lvO [(0, .ref (gA w0 o))]) [] := by
    intro X w I L hM hX
    refine h_aload_n hX dX3_init_11 rfl rfl ?_
    refine h_iconst (v := 4) hX dX3_init_12 (by decide) ?_
    refine h_newI 7 136 4 hX dX3_init_13 b_ac_int rfl (by decide) (fun q hX1 => ?_)
    rw [← hM.2.1 o ho, ← gA_wN_at (hM.at hk)]
    refine h_putN3 hX1 7 dX3_init_15 b_fl_X3_15 (gK_wN_at (hM.at hk)) pn3_7 ⟨rfl, rfl⟩ (fun hX2 => ?_)
    rw [gA_wN_at (hM.at hk), hM.2.1 o ho]
    exact st2 _ _ _ _ (hM.step rfl ho (by decide)) hX2
  have st0 : ∀ (X : CT) (w : WG) (I : SI) (L : SL), MK w0 I0 L0 o [] [] w I L → Cy X w mX3_init Q 9 144 → G X w mX3_init I L 4 (lvO [(0, .ref (gA w0 o))]) [] := by
    intro X w I L hM hX
    refine h_aload_n hX dX3_init_4 rfl rfl ?_
    refine h_iconst (v := 4) hX dX3_init_5 (by decide) ?_
    refine h_newI 8 140 4 hX dX3_init_6 b_ac_int rfl (by decide) (fun q hX1 => ?_)
    rw [← hM.2.1 o ho, ← gA_wN_at (hM.at hk)]
    refine h_putN3 hX1 6 dX3_init_8 b_fl_X3_9 (gK_wN_at (hM.at hk)) pn3_6 ⟨rfl, rfl⟩ (fun hX2 => ?_)
    rw [gA_wN_at (hM.at hk), hM.2.1 o ho]
    exact st1 _ _ _ _ (hM.step rfl ho (by decide)) hX2
  refine h_aload_n hX dX3_init_0 rfl rfl ?_
  refine h_objInit hX dX3_init_1 b_ml_X3_3 (by decide) (Nat.le_of_ble_eq_true rfl) ?_
  exact G.at (st0 _ _ _ _ MK.start hX) ⟨rfl, trivial⟩
