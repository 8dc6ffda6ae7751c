/-! the literals -/
def sA (w : WG) (k : Nat) : Nat := w.2.2.2.2.2.1 k
def sV (w : WG) (k : Nat) : Nat := w.2.2.2.2.2.2 k
def sL (k : Nat) : Nat := ([7, 3, 3, 5] : List Nat).getD k 0
def sB (k j : Nat) : Int32 := (([[118, 105, 108, 108, 97, 103, 101], [109, 97, 110], [100, 111, 103], [98, 114, 105, 98, 101]] : List (List Int32)).getD k []).getD j 0
def Pn (I : SI) (L : SL) : QT := fun r I' L' => r = none ∧ I' = I ∧ L' = L
theorem g_ldcS0 {X : CT} {w : WG} {M : MD} {Q : QT} {I : SI} {L : SL} {pc : Nat} {f : LV} {st : List Value} (hX : Cx X w M Q) (hcl : M.1.cls = RX1) (hd : decode M.2.1 pc = .ok (.ldc 27, 2)) (kk : G X w M I L (pc + 2) f (.ref (sA w 0) :: st)) : G X w M I L pc f st := by
  obtain ⟨p, l, e, R, s, m, args, below, meth, c, A, cells, slots, Qf⟩ := X
  obtain ⟨hx, hb, hml, hr, hlk, ho, hts, hK, hSW, hA, hR, hc, hs, hq⟩ := hX
  intro H locs ls hP hD hS hl
  exact va_ldcS hx hb (own := RX1) (tx := "village") (by rw [← hcl]; exact ho) hSW.2.1 hd (kk H locs ls hP hD hS hl)
theorem g_ldcS1 {X : CT} {w : WG} {M : MD} {Q : QT} {I : SI} {L : SL} {pc : Nat} {f : LV} {st : List Value} (hX : Cx X w M Q) (hcl : M.1.cls = RX1) (hd : decode M.2.1 pc = .ok (.ldc 44, 2)) (kk : G X w M I L (pc + 2) f (.ref (sA w 1) :: st)) : G X w M I L pc f st := by
  obtain ⟨p, l, e, R, s, m, args, below, meth, c, A, cells, slots, Qf⟩ := X
  obtain ⟨hx, hb, hml, hr, hlk, ho, hts, hK, hSW, hA, hR, hc, hs, hq⟩ := hX
  intro H locs ls hP hD hS hl
  exact va_ldcS hx hb (own := RX1) (tx := "man") (by rw [← hcl]; exact ho) hSW.2.2.1 hd (kk H locs ls hP hD hS hl)
theorem g_ldcS2 {X : CT} {w : WG} {M : MD} {Q : QT} {I : SI} {L : SL} {pc : Nat} {f : LV} {st : List Value} (hX : Cx X w M Q) (hcl : M.1.cls = RX1) (hd : decode M.2.1 pc = .ok (.ldc 49, 2)) (kk : G X w M I L (pc + 2) f (.ref (sA w 2) :: st)) : G X w M I L pc f st := by
  obtain ⟨p, l, e, R, s, m, args, below, meth, c, A, cells, slots, Qf⟩ := X
  obtain ⟨hx, hb, hml, hr, hlk, ho, hts, hK, hSW, hA, hR, hc, hs, hq⟩ := hX
  intro H locs ls hP hD hS hl
  exact va_ldcS hx hb (own := RX1) (tx := "dog") (by rw [← hcl]; exact ho) hSW.2.2.2.1 hd (kk H locs ls hP hD hS hl)
theorem g_ldcS3 {X : CT} {w : WG} {M : MD} {Q : QT} {I : SI} {L : SL} {pc : Nat} {f : LV} {st : List Value} (hX : Cx X w M Q) (hcl : M.1.cls = RX1) (hd : decode M.2.1 pc = .ok (.ldc 54, 2)) (kk : G X w M I L (pc + 2) f (.ref (sA w 3) :: st)) : G X w M I L pc f st := by
  obtain ⟨p, l, e, R, s, m, args, below, meth, c, A, cells, slots, Qf⟩ := X
  obtain ⟨hx, hb, hml, hr, hlk, ho, hts, hK, hSW, hA, hR, hc, hs, hq⟩ := hX
  intro H locs ls hP hD hS hl
  exact va_ldcS hx hb (own := RX1) (tx := "bribe") (by rw [← hcl]; exact ho) hSW.2.2.2.2.1 hd (kk H locs ls hP hD hS hl)
theorem g_getSV {X : CT} {w : WG} {M : MD} {Q : QT} {I : SI} {L : SL} {pc : Nat} {f : LV} {st : List Value} {k idx : Nat} (hk : k < 4) (hX : Cx X w M Q) (hd : decode M.2.1 pc = .ok (.getfield idx, 3)) (hw : Cond.fieldLink M.1.cls idx "java/lang/String" "value" "[B" ∈ BG) (kk : G X w M I L (pc + 3) f (.ref (sV w k) :: st)) : G X w M I L pc f (.ref (sA w k) :: st) := by
  obtain ⟨p, l, e, R, s, m, args, below, meth, c, A, cells, slots, Qf⟩ := X
  obtain ⟨hx, hb, hml, hr, hlk, ho, hts, hK, hSW, hA, hR, hc, hs, hq⟩ := hX
  intro H locs ls hP hD hS hl
  exact vk_getf hx hb (hSW.1.1 k hk).2.2.1 hS ho (hts _ hw) (fun _ h => h) hd (kk H locs ls hP hD hS hl)
theorem g_getSC {X : CT} {w : WG} {M : MD} {Q : QT} {I : SI} {L : SL} {pc : Nat} {f : LV} {st : List Value} {k idx : Nat} (hk : k < 4) (hX : Cx X w M Q) (hd : decode M.2.1 pc = .ok (.getfield idx, 3)) (hw : Cond.fieldLink M.1.cls idx "java/lang/String" "coder" "B" ∈ BG) (kk : G X w M I L (pc + 3) f (.int 0 :: st)) : G X w M I L pc f (.ref (sA w k) :: st) := by
  obtain ⟨p, l, e, R, s, m, args, below, meth, c, A, cells, slots, Qf⟩ := X
  obtain ⟨hx, hb, hml, hr, hlk, ho, hts, hK, hSW, hA, hR, hc, hs, hq⟩ := hX
  intro H locs ls hP hD hS hl
  exact vk_getf hx hb (hSW.1.1 k hk).2.1 hS ho (hts _ hw) (fun _ h => h) hd (kk H locs ls hP hD hS hl)
theorem g_getCS {X : CT} {w : WG} {M : MD} {Q : QT} {I : SI} {L : SL} {pc : Nat} {f : LV} {st : List Value} {idx : Nat} (hX : Cx X w M Q) (hd : decode M.2.1 pc = .ok (.getstatic idx, 3)) (hw : Cond.fieldLink M.1.cls idx "java/lang/String" "COMPACT_STRINGS" "Z" ∈ BG) (kk : G X w M I L (pc + 3) f (.int 1 :: st)) : G X w M I L pc f st := by
  obtain ⟨p, l, e, R, s, m, args, below, meth, c, A, cells, slots, Qf⟩ := X
  obtain ⟨hx, hb, hml, hr, hlk, ho, hts, hK, hSW, hA, hR, hc, hs, hq⟩ := hX
  intro H locs ls hP hD hS hl
  exact va_gets hx hb hSW.2.2.2.2.2.1 hS ho (hts _ hw) (fun _ h => h) hd (kk H locs ls hP hD hS hl)
theorem g_getSI {X : CT} {w : WG} {M : MD} {Q : QT} {I : SI} {L : SL} {pc : Nat} {f : LV} {st : List Value} {idx : Nat} (hX : Cx X w M Q) (hd : decode M.2.1 pc = .ok (.getstatic idx, 3)) (hw : Cond.fieldLink M.1.cls idx "jdk/internal/util/Preconditions" "SIOOBE_FORMATTER" "Ljava/util/function/BiFunction;" ∈ BG) (kk : ∀ v : Value, (v = .null ∨ ∃ t, v = .ref t) → G X w M I L (pc + 3) f (v :: st)) : G X w M I L pc f st := by
  obtain ⟨p, l, e, R, s, m, args, below, meth, c, A, cells, slots, Qf⟩ := X
  obtain ⟨hx, hb, hml, hr, hlk, ho, hts, hK, hSW, hA, hR, hc, hs, hq⟩ := hX
  intro H locs ls hP hD hS hl
  rcases hSW.2.2.2.2.2.2 with hz | ⟨t, hz⟩
  · exact va_gets hx hb hz hS ho (hts _ hw) (fun _ h => h) hd (kk _ (Or.inl rfl) H locs ls hP hD hS hl)
  · exact va_gets hx hb hz hS ho (hts _ hw) (fun _ h => h) hd (kk _ (Or.inr ⟨t, rfl⟩) H locs ls hP hD hS hl)
theorem g_alenS {X : CT} {w : WG} {M : MD} {Q : QT} {I : SI} {L : SL} {pc : Nat} {f : LV} {st : List Value} {k : Nat} (hk : k < 4) (hX : Cx X w M Q) (hd : decode M.2.1 pc = .ok (.arraylength, 1)) (kk : G X w M I L (pc + 1) f (.int (nI (sL k)) :: st)) : G X w M I L pc f (.ref (sV w k) :: st) := by
  obtain ⟨p, l, e, R, s, m, args, below, meth, c, A, cells, slots, Qf⟩ := X
  obtain ⟨hx, hb, hml, hr, hlk, ho, hts, hK, hSW, hA, hR, hc, hs, hq⟩ := hX
  intro H locs ls hP hD hS hl
  exact va_tlen hx hb (hSW.1.1 k hk).2.2.2 hS rfl hd (kk H locs ls hP hD hS hl)
theorem g_baldS {X : CT} {w : WG} {M : MD} {Q : QT} {I : SI} {L : SL} {pc : Nat} {f : LV} {st : List Value} {k j : Nat} (hk : k < 4) (hX : Cx X w M Q) (hd : decode M.2.1 pc = .ok (.baload, 1)) (hj : j < sL k) (hj9 : sL k < 2 ^ 31) (kk : G X w M I L (pc + 1) f (.int (sB k j) :: st)) : G X w M I L pc f (.int (nI j) :: .ref (sV w k) :: st) := by
  obtain ⟨p, l, e, R, s, m, args, below, meth, c, A, cells, slots, Qf⟩ := X
  obtain ⟨hx, hb, hml, hr, hlk, ho, hts, hK, hSW, hA, hR, hc, hs, hq⟩ := hX
  intro H locs ls hP hD hS hl
  exact va_tb hx hb (hSW.1.1 k hk).2.2.2 hS (vp_in_nI hj hj9) (v := .int (sB k j)) (by rw [nI_clamp (by omega)]; rfl) hd (kk H locs ls hP hD hS hl)
theorem g_callT {X : CT} {w : WG} {M : MD} {Q : QT} {I : SI} {L : SL} {pc : Nat} {f : LV} {st : List Value} {My : MD} {idx n k : Nat} {av : List Value} {Qy : QT} (rest : List Value) (hX : Cx X w M Q) (hd : decode M.2.1 pc = .ok (.invokevirtual idx, 3)) (hk : LkV M.1.cls idx My n) (hlt : My.2.2.2.2 + 1 ≤ M.2.2.2.2 ∧ My.2.2.1 ≤ 21) (hko : k < 4) (hcl : My.1.cls = RJ0) (hn : av.length = n) (hO : Ok w My (.ref (sA w k) :: av) I L Qy) (hst : st = av.reverse ++ .ref (sA w k) :: rest) (hW : (rest.map fun v => v.category).sum ≤ 8) (kk : ∀ (r : Option Value) (I' : SI) (L' : SL), Qy r I' L' → G X w M I' L' (pc + 3) f (r.toList ++ rest)) : G X w M I L pc f st := by
  obtain ⟨p, l, e, R, s, m, args, below, meth, c, A, cells, slots, Qf⟩ := X
  obtain ⟨hx, hb, hml, hr, hlk, ho, hts, hK, hSW, hA, hR, hc, hs, hq⟩ := hX
  intro H locs ls hP hD hS hl
  have hrec : ∃ cell : Cell, H[sA w k]? = some cell ∧ cell.vm.isStatics = false ∧ s.vm.findClass My.1.cls = some cell.cls := by
    rw [hcl]
    exact vk_recv hSW.1 hko hS
  exact run_on (va_runV (p := p) (l := l) (e := e) (R := R) (below := below) (meth := meth) (locs := locs) (cells := cells) (slots := slots) (H := H) (As := av) (rest := rest) (Ts := BG) (own := M.1.cls) (C := My.1.cls) (b := sA w k) (nL := M.2.2.1) (cc := M.2.1) ⟨hx, hb, hml, ho, hts⟩ (hO l H.size) (cwV n hts hk.good rfl rfl rfl ⟨rfl, hk.2⟩ (room_ok hR hlt)) ⟨pre_blind, hrec, fun U hU hW2 => ⟨rfl, pre_at hP hD hS hK hSW hA U hU hW2⟩⟩ rfl hn hl.1 hst (lv_room hW) hd ⟨by subst hc; exact Nat.zero_le _, by subst hs; exact Nat.zero_le _⟩) hD hS hA hl kk
theorem g_callTp {X : CT} {w : WG} {M : MD} {Q : QT} {I : SI} {L : SL} {pc : Nat} {f : LV} {st : List Value} {My : MD} {idx n k : Nat} {av : List Value} {v : Value} (rest : List Value) (hX : Cx X w M Q) (hd : decode M.2.1 pc = .ok (.invokevirtual idx, 3)) (hk : LkV M.1.cls idx My n) (hlt : My.2.2.2.2 + 1 ≤ M.2.2.2.2 ∧ My.2.2.1 ≤ 21) (hko : k < 4) (hcl : My.1.cls = RJ0) (hn : av.length = n) (hO : Ok w My (.ref (sA w k) :: av) I L (Pr v I L)) (hst : st = av.reverse ++ .ref (sA w k) :: rest) (hW : (rest.map fun v => v.category).sum ≤ 8) (kk : G X w M I L (pc + 3) f (v :: rest)) : G X w M I L pc f st :=
  g_callT rest hX hd hk hlt hko hcl hn hO hst hW (fun r I' L' h => by obtain ⟨rfl, rfl, rfl⟩ := h; exact kk)
theorem g_aload_nV {X : CT} {w : WG} {M : MD} {Q : QT} {I : SI} {L : SL} {pc : Nat} {f : LV} {st : List Value} {k : Fin 4} {i : Nat} {v : Value} (hv : v = .null ∨ ∃ t, v = .ref t) (hX : Cx X w M Q) (hd : decode M.2.1 pc = .ok (.aload_n k, 1)) (hi : (k : Nat) = i) (hf : f i = some v) (kk : G X w M I L (pc + 1) f (v :: st)) : G X w M I L pc f st := by
  rcases hv with rfl | ⟨t, rfl⟩
  · exact g_aload_nN hX hd hi hf kk
  · exact g_aload_n hX hd hi hf kk
theorem sL_le {k : Nat} (hk : k < 4) : sL k ≤ 7 := by
  rcases (show k = 0 ∨ k = 1 ∨ k = 2 ∨ k = 3 by omega) with rfl | rfl | rfl | rfl <;> decide
theorem sB_c {k j : Nat} (hk : k < 4) (hj : j < sL k) : (((sB k j) &&& 255).toUInt32 % 65536).toInt32 = sB k j ∧ narrow .char (.int (sB k j)) = .int (sB k j) := by
  have h : ∀ k : Fin 4, ∀ j : Fin 7, j.1 < sL k.1 → (((sB k.1 j.1) &&& 255).toUInt32 % 65536).toInt32 = sB k.1 j.1 ∧ narrow .char (.int (sB k.1 j.1)) = .int (sB k.1 j.1) := by decide
  exact h ⟨k, hk⟩ ⟨j, Nat.lt_of_lt_of_le hj (sL_le hk)⟩ hj
set_option maxHeartbeats 4000000 in
set_option maxRecDepth 100000 in
theorem ok_coder {w : WG} {I : SI} {L : SL} {k : Nat} (hk : k < 4) : Ok w mJ0_coder_7d493 [.ref (sA w k)] I L (Pr (.int 0) I L) := by
  refine Ok.of (by decide) (Nat.le_of_ble_eq_true rfl) (fun X hX => ?_)
  refine g_getCS hX dJ0_coder_7d493_0 b_fl_J0_38 ?_
  refine g_if_eq (tgt := 13) hX dJ0_coder_7d493_3 (by decide) (fun z => absurd z (by decide)) (fun _ => ?_)
  refine g_aload_n hX dJ0_coder_7d493_6 rfl rfl ?_
  refine g_getSC hk hX dJ0_coder_7d493_7 b_fl_J0_15 ?_
  refine g_goto (tgt := 14) hX dJ0_coder_7d493_10 (by decide) ?_
  exact g_zret hX dJ0_coder_7d493_14 rfl rfl ⟨rfl, rfl, rfl⟩
set_option maxHeartbeats 4000000 in
set_option maxRecDepth 100000 in
theorem ok_strlen {w : WG} {I : SI} {L : SL} {k : Nat} (hk : k < 4) : Ok w mJ0_length_8abf5 [.ref (sA w k)] I L (Pr (.int (nI (sL k))) I L) := by
  refine Ok.of (by decide) (Nat.le_of_ble_eq_true rfl) (fun X hX => ?_)
  refine g_aload_n hX dJ0_length_8abf5_0 rfl rfl ?_
  refine g_getSV hk hX dJ0_length_8abf5_1 b_fl_J0_9 ?_
  refine g_alenS hk hX dJ0_length_8abf5_4 ?_
  refine g_aload_n hX dJ0_length_8abf5_5 rfl rfl ?_
  refine g_callTp _ hX dJ0_length_8abf5_6 k_J0_335 ⟨by decide, by decide⟩ hk rfl rfl (ok_coder hk) rfl (Nat.le_of_ble_eq_true rfl) ?_
  refine g_ishr hX dJ0_length_8abf5_9 ?_
  refine g_iret hX dJ0_length_8abf5_10 rfl ⟨?_, rfl, rfl⟩
  rcases (show k = 0 ∨ k = 1 ∨ k = 2 ∨ k = 3 by omega) with rfl | rfl | rfl | rfl <;> rfl
set_option maxHeartbeats 4000000 in
set_option maxRecDepth 100000 in
theorem ok_latin {w : WG} {I : SI} {L : SL} {k : Nat} (hk : k < 4) : Ok w mJ0_isLatin1_aae02 [.ref (sA w k)] I L (Pr (.int 1) I L) := by
  refine Ok.of (by decide) (Nat.le_of_ble_eq_true rfl) (fun X hX => ?_)
  refine g_getCS hX dJ0_isLatin1_aae02_0 b_fl_J0_38 ?_
  refine g_if_eq (tgt := 17) hX dJ0_isLatin1_aae02_3 (by decide) (fun z => absurd z (by decide)) (fun _ => ?_)
  refine g_aload_n hX dJ0_isLatin1_aae02_6 rfl rfl ?_
  refine g_getSC hk hX dJ0_isLatin1_aae02_7 b_fl_J0_15 ?_
  refine g_if_ne (tgt := 17) hX dJ0_isLatin1_aae02_10 (by decide) (fun z => absurd rfl z) (fun _ => ?_)
  refine g_iconst (v := 1) hX dJ0_isLatin1_aae02_13 (by decide) ?_
  refine g_goto (tgt := 18) hX dJ0_isLatin1_aae02_14 (by decide) ?_
  exact g_zret hX dJ0_isLatin1_aae02_18 rfl rfl ⟨rfl, rfl, rfl⟩
set_option maxHeartbeats 4000000 in
set_option maxRecDepth 100000 in
theorem ok_ckI3 {w : WG} {I : SI} {L : SL} {j n : Nat} {v : Value} (hv : v = .null ∨ ∃ t, v = .ref t) (hj : j < n) (hn : n < 2 ^ 31) : Ok w mJ3_checkIndex_8e157 [.int (nI j), .int (nI n), v] I L (Pr (.int (nI j)) I L) := by
  rcases hv with rfl | ⟨t, rfl⟩
  · refine Ok.of (by decide) (Nat.le_of_ble_eq_true rfl) (fun X hX => ?_)
    refine g_iload_n hX dJ3_checkIndex_8e157_0 rfl rfl ?_
    refine g_if_lt (tgt := 9) hX dJ3_checkIndex_8e157_1 (by decide) (fun z => absurd z (nI_pos (by omega))) (fun _ => ?_)
    refine g_iload_n hX dJ3_checkIndex_8e157_4 rfl rfl ?_
    refine g_iload_n hX dJ3_checkIndex_8e157_5 rfl rfl ?_
    refine g_icmp_lt (tgt := 16) hX dJ3_checkIndex_8e157_6 (by decide) (fun _ => ?_) (fun z => absurd ((nI_ltI (by omega) (by omega)).mpr hj) z)
    refine g_iload_n hX dJ3_checkIndex_8e157_16 rfl rfl ?_
    exact g_iret hX dJ3_checkIndex_8e157_17 rfl ⟨rfl, rfl, rfl⟩
  · refine Ok.of (by decide) (Nat.le_of_ble_eq_true rfl) (fun X hX => ?_)
    refine g_iload_n hX dJ3_checkIndex_8e157_0 rfl rfl ?_
    refine g_if_lt (tgt := 9) hX dJ3_checkIndex_8e157_1 (by decide) (fun z => absurd z (nI_pos (by omega))) (fun _ => ?_)
    refine g_iload_n hX dJ3_checkIndex_8e157_4 rfl rfl ?_
    refine g_iload_n hX dJ3_checkIndex_8e157_5 rfl rfl ?_
    refine g_icmp_lt (tgt := 16) hX dJ3_checkIndex_8e157_6 (by decide) (fun _ => ?_) (fun z => absurd ((nI_ltI (by omega) (by omega)).mpr hj) z)
    refine g_iload_n hX dJ3_checkIndex_8e157_16 rfl rfl ?_
    exact g_iret hX dJ3_checkIndex_8e157_17 rfl ⟨rfl, rfl, rfl⟩
set_option maxHeartbeats 4000000 in
set_option maxRecDepth 100000 in
theorem ok_ckI {w : WG} {I : SI} {L : SL} {j n : Nat} (hj : j < n) (hn : n < 2 ^ 31) : Ok w mJ0_checkIndex_df160 [.int (nI j), .int (nI n)] I L (Pn I L) := by
  refine Ok.of (by decide) (Nat.le_of_ble_eq_true rfl) (fun X hX => ?_)
  refine g_iload_n hX dJ0_checkIndex_df160_0 rfl rfl ?_
  refine g_iload_n hX dJ0_checkIndex_df160_1 rfl rfl ?_
  refine g_getSI hX dJ0_checkIndex_df160_2 b_fl_J0_1053 (fun v hv => ?_)
  refine g_callSp _ hX dJ0_checkIndex_df160_5 k_J0_1059 ⟨by decide, by decide⟩ rfl (ok_ckI3 hv hj hn) rfl (Nat.le_of_ble_eq_true rfl) ?_
  refine g_pop hX dJ0_checkIndex_df160_8 rfl ?_
  exact g_vret hX dJ0_checkIndex_df160_9 rfl ⟨rfl, rfl, rfl⟩
set_option maxHeartbeats 4000000 in
set_option maxRecDepth 100000 in
theorem ok_lchar {w : WG} {I : SI} {L : SL} {k j : Nat} (hk : k < 4) (hj : j < sL k) : Ok w mJ1_charAt_3b067 [.ref (sV w k), .int (nI j)] I L (Pr (.int (sB k j)) I L) := by
  refine Ok.of (by decide) (Nat.le_of_ble_eq_true rfl) (fun X hX => ?_)
  have h7 := sL_le hk
  refine g_iload_n hX dJ1_charAt_3b067_0 rfl rfl ?_
  refine g_aload_n hX dJ1_charAt_3b067_1 rfl rfl ?_
  refine g_alenS hk hX dJ1_charAt_3b067_2 ?_
  refine g_callS _ hX dJ1_charAt_3b067_3 k_J1_9 ⟨by decide, by decide⟩ rfl (ok_ckI hj (by omega)) rfl (Nat.le_of_ble_eq_true rfl) (fun r1 I1 L1 hq => ?_)
  obtain ⟨rfl, rfl, rfl⟩ := hq
  refine g_aload_n hX dJ1_charAt_3b067_6 rfl rfl ?_
  refine g_iload_n hX dJ1_charAt_3b067_7 rfl rfl ?_
  refine g_baldS hk hX dJ1_charAt_3b067_8 hj (by omega) ?_
  refine g_sipush (v := 255) hX dJ1_charAt_3b067_9 (by decide) ?_
  refine g_iand hX dJ1_charAt_3b067_12 ?_
  refine g_i2c hX dJ1_charAt_3b067_13 ?_
  rw [(sB_c hk hj).1]
  exact g_zret hX dJ1_charAt_3b067_14 rfl (sB_c hk hj).2 ⟨rfl, rfl, rfl⟩
set_option maxHeartbeats 4000000 in
set_option maxRecDepth 100000 in
theorem ok_strchar {w : WG} {I : SI} {L : SL} {k j : Nat} (hk : k < 4) (hj : j < sL k) : Ok w mJ0_charAt_5068e [.ref (sA w k), .int (nI j)] I L (Pr (.int (sB k j)) I L) := by
  refine Ok.of (by decide) (Nat.le_of_ble_eq_true rfl) (fun X hX => ?_)
  refine g_aload_n hX dJ0_charAt_5068e_0 rfl rfl ?_
  refine g_callTp _ hX dJ0_charAt_5068e_1 k_J0_492 ⟨by decide, by decide⟩ hk rfl rfl (ok_latin hk) rfl (Nat.le_of_ble_eq_true rfl) ?_
  refine g_if_eq (tgt := 16) hX dJ0_charAt_5068e_4 (by decide) (fun z => absurd z (by decide)) (fun _ => ?_)
  refine g_aload_n hX dJ0_charAt_5068e_7 rfl rfl ?_
  refine g_getSV hk hX dJ0_charAt_5068e_8 b_fl_J0_9 ?_
  refine g_iload_n hX dJ0_charAt_5068e_11 rfl rfl ?_
  refine g_callSp _ hX dJ0_charAt_5068e_12 k_J0_495 ⟨by decide, by decide⟩ rfl (ok_lchar hk hj) rfl (Nat.le_of_ble_eq_true rfl) ?_
  exact g_zret hX dJ0_charAt_5068e_15 rfl (sB_c hk hj).2 ⟨rfl, rfl, rfl⟩
