/-- the class's own state is as it should be -/
def RX (I : SI) (n d r q p m : Nat) : Prop := XV I n d r ∧ (I 1 4 = nI q ∧ q ≤ 6) ∧ (I 1 5 = nI p ∧ p ≤ 8) ∧ (I 22 1 = nI m ∧ m ≤ 150) ∧ (∃ s, I 1 2 = nI s ∧ s < 128) ∧ (∀ c, c < n → ∃ a, I 3 c = nI a ∧ a ≤ 30) ∧
  (∀ k, k < d → (∃ a, I 5 k = nI a ∧ a ≤ 5) ∧ (∃ a, I 6 k = nI a ∧ a ≤ 5) ∧ (∃ a, I 7 k = nI a ∧ a ≤ 9) ∧ (∃ a, I 8 k = nI a ∧ a ≤ 3)) ∧
  (∀ t, t < p → (∃ a, I 10 (t * 10 + 9) = nI a ∧ a ≤ 999) ∧ (∃ a, I 10 (t * 10 + 8) = nI a ∧ a < 128) ∧ ∀ c, c < n → ∃ a, I 10 (t * 10 + c) = nI a ∧ a ≤ 30) ∧ ∀ t, t < m → ∃ a, I 23 t = nI a ∧ a ≤ 127
/-- the model's state is the class's -/
def RJ (I J : SI) (n d r q p m : Nat) : Prop := RV (vx I 1) J n d ∧ J 0 3 = nI r ∧ J 0 4 = I 1 2 ∧ J 0 5 = nI q ∧ J 0 27 = nI p ∧ J 0 18 = nI m ∧ (∀ c, c < n → J 3 c = I 3 c ∧ J 4 c = I 4 c) ∧
  (∀ i, i < q → J 9 i = I 9 (i * 4) ∧ J 10 i = I 9 (i * 4 + 1) ∧ J 11 i = I 9 (i * 4 + 2) ∧ J 12 i = I 9 (i * 4 + 3)) ∧
  (∀ t, t < p → J 16 (t * 10) = I 10 (t * 10 + 9) ∧ J 16 (t * 10 + 1) = I 10 (t * 10 + 8) ∧ ∀ c, c < n → J 16 (t * 10 + 2 + c) = I 10 (t * 10 + c) ∧ J 16 (t * 10 + 6 + c) = I 10 (t * 10 + 4 + c)) ∧ ∀ t, t < m → J 13 t = I 23 t
/-- a village's rows, as they may be -/
def VX (V : VS) (n d r q p : Nat) : Prop := (V 0 0 = nI n ∧ n ≤ 4 ∧ V 0 1 = nI d ∧ d ≤ 7 ∧ V 0 3 = nI r ∧ r ≤ 999) ∧ (V 0 4 = nI q ∧ q ≤ 6) ∧ (V 0 5 = nI p ∧ p ≤ 8) ∧ (∃ s, V 0 2 = nI s ∧ s < 128) ∧ (∀ c, c < n → ∃ a, V 2 c = nI a ∧ a ≤ 30) ∧
  (∀ k, k < d → (∃ a, V 4 k = nI a ∧ a ≤ 5) ∧ (∃ a, V 5 k = nI a ∧ a ≤ 5) ∧ (∃ a, V 6 k = nI a ∧ a ≤ 9) ∧ (∃ a, V 7 k = nI a ∧ a ≤ 3)) ∧
  ∀ t, t < p → (∃ a, V 9 (t * 10 + 9) = nI a ∧ a ≤ 999) ∧ (∃ a, V 9 (t * 10 + 8) = nI a ∧ a < 128) ∧ ∀ c, c < n → ∃ a, V 9 (t * 10 + c) = nI a ∧ a ≤ 30
/-- the model's rows, as the village's are -/
def VM (V : VS) (J : SI) (n d r q p : Nat) : Prop := (J 0 1 = nI n ∧ J 0 2 = nI d ∧ (∀ c, c < n → J 2 c = V 1 c) ∧ ∀ k, k < d → J 5 k = V 4 k ∧ J 6 k = V 5 k ∧ J 7 k = V 6 k ∧ J 8 k = V 7 k) ∧ J 0 3 = nI r ∧ J 0 4 = V 0 2 ∧ J 0 5 = nI q ∧ J 0 27 = nI p ∧ (∀ c, c < n → J 3 c = V 2 c ∧ J 4 c = V 3 c) ∧
  (∀ i, i < q → J 9 i = V 8 (i * 4) ∧ J 10 i = V 8 (i * 4 + 1) ∧ J 11 i = V 8 (i * 4 + 2) ∧ J 12 i = V 8 (i * 4 + 3)) ∧
  ∀ t, t < p → J 16 (t * 10) = V 9 (t * 10 + 9) ∧ J 16 (t * 10 + 1) = V 9 (t * 10 + 8) ∧ ∀ c, c < n → J 16 (t * 10 + 2 + c) = V 9 (t * 10 + c) ∧ J 16 (t * 10 + 6 + c) = V 9 (t * 10 + 4 + c)
/-- an image's row, read as the model's rows -/
def imJ (R : Nat → Int32) (a : Nat) : SI := fun o k => match o with
  | 0 => if k = 1 then R a else if k = 2 then R (a + 1) else if k = 5 then R (a + 2) else if k = 27 then R (a + 3) else if k = 3 then R (a + 4) else if k = 4 then R (a + 5) else 0
  | 2 => R (a + 14 + k)
  | 3 => R (a + 6 + k)
  | 4 => R (a + 10 + k)
  | 5 => R (a + 18 + k)
  | 6 => R (a + 25 + k)
  | 7 => R (a + 32 + k)
  | 8 => R (a + 39 + k)
  | 9 => R (a + 46 + k)
  | 10 => R (a + 52 + k)
  | 11 => R (a + 58 + k)
  | 12 => R (a + 64 + k)
  | 16 => R (a + 70 + k)
  | _ => 0
/-- the rows behind the class's own: its images; row 1000 tells (for the proof alone) where each lies, -1: nowhere -/
def X27 (I : SI) : SI := fun o => I (27 + o)
theorem X27_rS {I : SI} {o : Nat} {f : Nat → Int32} (h : o < 27) : X27 (rS I o f) = X27 I := by
  funext q; unfold X27; exact rS_ne _ _ _ (by omega)
theorem X27_wV {I : SI} {V : VS} : X27 (wV I 1 V) = X27 I := by
  funext q; unfold X27; exact wV_out _ _ _ (by omega)
def IMP (Y : SI) (R K : Nat → Int32) : Prop := ∀ i, i < 2 → (Y 1000 i = -1 ∧ K i = 0) ∨ (K i = 1 ∧ ∃ v, Y 1000 i = nI v ∧ v < 900 ∧ ∃ n d r q p, VX (vx Y v) n d r q p ∧ VM (vx Y v) (imJ R (150 * i)) n d r q p)
/-- what was refused, the fraction, the images -/
def RF (I J : SI) (L : SL) : Prop := J 1 0 = I 0 6 ∧ J 1 1 = I 0 7 ∧ J 1 2 = I 0 8 ∧ L 0 29 = (I 0 4).toInt64 ∧ L 0 30 = (I 0 5).toInt64 ∧ IMP (X27 I) (J 18) (J 19)
def RR (I J : SI) (L : SL) (n d r q p m : Nat) : Prop := RX I n d r q p m ∧ RJ I J n d r q p m ∧ RF I J L
def QM (sp : Value × SI) : QT := fun r1 J' L' => r1 = some sp.1 ∧ ∃ n d r q p m, RR sp.2 J' L' n d r q p m
theorem RX.o0 {I : SI} {f : Nat → Int32} {n d r q p m : Nat} (h : RX I n d r q p m) : RX (rS I 0 f) n d r q p m := by
  unfold RX XV at *; simp (disch := decide) only [rS_ne]; exact h
theorem vx_o0 {I : SI} {f : Nat → Int32} : vx (rS I 0 f) 1 = vx I 1 := by
  funext j; unfold vx; exact rS_ne _ _ _ (by omega)
theorem RJ.o0 {I J : SI} {f : Nat → Int32} {n d r q p m : Nat} (h : RJ I J n d r q p m) : RJ (rS I 0 f) J n d r q p m := by
  unfold RJ at *; rw [vx_o0]; simp (disch := decide) only [rS_ne]; exact h
theorem RJ.j1 {I J : SI} {f : Nat → Int32} {n d r q p m : Nat} (h : RJ I J n d r q p m) : RJ I (rS J 1 f) n d r q p m := by
  unfold RJ RV at *; simp (disch := decide) only [rS_ne]; exact h
theorem RR.bad {I J : SI} {L : SL} {n d r q p m : Nat} (h : RR I J L n d r q p m) : RR (rfX I 6) (rS J 1 (upd (J 1) 0 (J 1 0 + 1))) L n d r q p m := by
  obtain ⟨h1, h2, a, b, c, e, f⟩ := h
  refine ⟨h1.o0, h2.o0.j1, ?_⟩
  unfold RF rfX; simp (disch := decide) only [rS_eq, rS_ne, pk_us, pk_un, X27_rS]
  exact ⟨by rw [a], b, c, e, f⟩
theorem RR.no {I J : SI} {L : SL} {n d r q p m : Nat} (h : RR I J L n d r q p m) : RR (rfX I 7) (rS J 1 (upd (J 1) 1 (J 1 1 + 1))) L n d r q p m := by
  obtain ⟨h1, h2, a, b, c, e, f⟩ := h
  refine ⟨h1.o0, h2.o0.j1, ?_⟩
  unfold RF rfX; simp (disch := decide) only [rS_eq, rS_ne, pk_us, pk_un, X27_rS]
  exact ⟨a, by rw [b], c, e, f⟩
theorem RR.full {I J : SI} {L : SL} {n d r q p m : Nat} (h : RR I J L n d r q p m) : RR (rfX I 8) (rS J 1 (upd (J 1) 2 (J 1 2 + 1))) L n d r q p m := by
  obtain ⟨h1, h2, a, b, c, e, f⟩ := h
  refine ⟨h1.o0, h2.o0.j1, ?_⟩
  unfold RF rfX; simp (disch := decide) only [rS_eq, rS_ne, pk_us, pk_un, X27_rS]
  exact ⟨a, b, by rw [c], e, f⟩
/-- the model's state but for what is only for the answers -/
def S17 (J J' : SI) : Prop := (∀ o, o ≠ 17 → o ≠ 4 → J' o = J o) ∧ ∀ c, c < 4 → J' 4 c = J 4 c
theorem S17.rf {J : SI} : S17 J J := ⟨fun _ _ _ => rfl, fun _ _ => rfl⟩
theorem RR.s17 {I J J' : SI} {L : SL} {n d r q p m : Nat} (h : RR I J L n d r q p m) (hs : S17 J J') : RR I J' L n d r q p m := by
  obtain ⟨h1, h2, h3⟩ := h
  have hn4 := h1.1.2.1
  refine ⟨h1, ?_, ?_⟩
  · unfold RJ RV at *
    rw [hs.1 0 (by decide) (by decide), hs.1 2 (by decide) (by decide), hs.1 3 (by decide) (by decide), hs.1 5 (by decide) (by decide), hs.1 6 (by decide) (by decide), hs.1 7 (by decide) (by decide), hs.1 8 (by decide) (by decide), hs.1 9 (by decide) (by decide), hs.1 10 (by decide) (by decide), hs.1 11 (by decide) (by decide), hs.1 12 (by decide) (by decide), hs.1 13 (by decide) (by decide), hs.1 16 (by decide) (by decide)]
    obtain ⟨a, b, c, e, f, g, i, k⟩ := h2
    exact ⟨a, b, c, e, f, g, fun x hx => ⟨(i x hx).1, (hs.2 x (by omega)).trans (i x hx).2⟩, k⟩
  · unfold RF at *
    rw [hs.1 1 (by decide) (by decide), hs.1 18 (by decide) (by decide), hs.1 19 (by decide) (by decide)]
    exact h3
theorem RR.ms {I J : SI} {L : SL} {n d r q p m : Nat} (h : RR I J L n d r q p m) : MS (vx I 1) J n d (vx I 1 3) (I 1 2) r := ⟨h.2.1.1, h.2.1.2.1, h.2.1.2.2.1, fun c hc => (h.2.1.2.2.2.2.2.2.1 c hc).2⟩
theorem back_lem {J J2 : SI} (h : Fr (rS J 17 (layC J 0 4 (J 17))) J2) : S17 J (tkJ J2 (J2 17) 0 4) := by
  obtain ⟨h1, h2⟩ := h
  have e17 : J2 17 = layC J 0 4 (J 17) := by rw [h1 17 (by decide) (by decide), rS_eq]
  have e3 : J2 3 = J 3 := by rw [h1 3 (by decide) (by decide), rS_ne _ _ _ (by decide)]
  have t3 : ∀ k, k < 4 → layC J 0 4 (J 17) (0 + 2 + k) = J 3 k := fun k hk => by
    unfold layC; rw [if_neg (by omega), if_neg (by omega), if_pos (by omega)]; congr 1; omega
  have t4 : ∀ k, k < 4 → layC J 0 4 (J 17) (0 + 6 + k) = J 4 k := fun k hk => by
    unfold layC; rw [if_neg (by omega), if_neg (by omega), if_neg (by omega), if_pos (by omega)]; congr 1; omega
  have u0 : layC J 0 4 (J 17) 0 = J 0 3 := by simp [layC]
  have u1 : layC J 0 4 (J 17) (0 + 1) = J 0 4 := by simp [layC]
  refine ⟨fun o ho h4 => ?_, fun c hc => ?_⟩
  · unfold tkJ
    rw [rS_ne _ _ _ h4]
    by_cases o3 : o = 3
    · subst o3
      rw [rS_eq, e17, e3]
      funext k; unfold tkC; by_cases hk : k < 4
      · rw [if_pos hk, t3 k hk]
      · rw [if_neg hk]
    · rw [rS_ne _ _ _ o3]
      by_cases o0 : o = 0
      · subst o0
        rw [rS_eq, e17, u0, u1]
        funext k
        by_cases k4 : k = 4
        · subst k4; rw [pk_us]
        · rw [pk_un k4]
          by_cases k3 : k = 3
          · subst k3; rw [pk_us]
          · rw [pk_un k3, h2 k k3 k4, rS_ne _ _ _ (by decide)]
      · rw [rS_ne _ _ _ o0, h1 o o0 h4, rS_ne _ _ _ ho]
  · unfold tkJ
    rw [rS_eq, e17]; unfold tkC; rw [if_pos hc, t4 c hc]
theorem MS.p17 {V : VS} {J : SI} {n d t : Nat} {h : Nat → Int32} {s : Int32} {f : Nat → Int32} (hS : MS V J n d h s t) : MS V (rS J 17 f) n d h s t := by
  unfold MS RV at *; simp (disch := decide) only [rS_ne]; exact hS
/-- rows of holes behind rounds, from any start -/
def ahG (V : VS) (n d r : Nat) (s : Int32) (h : Nat → Int32) : Nat → (Nat → Int32)
  | 0 => h
  | i + 1 => rndF V n d (r + i) (if i = 0 then s else 0) (ahG V n d r s h i)
theorem ahG_F {V : VS} {n d r : Nat} : ∀ i, ahG V n d r (V 0 2) (V 3) i = ahF V n d r i := by
  intro i; induction i with
  | zero => rfl
  | succ i ih => rw [ahG, ahF, ih]
set_option maxHeartbeats 4000000 in
set_option maxRecDepth 100000 in
theorem m_puts {w : WG} {I : SI} {L : SL} (hm : ML w)  : Ok w mX5_puts [.ref (gA w 0)] I L (fun r1 I1 L1 => r1 = none ∧ I1 = rS I 17 (layC I 0 4 (I 17)) ∧ L1 = L) := by
  refine Ok.of (by decide) (Nat.le_of_ble_eq_true rfl) (fun X hX => ?_)
  refine g_aload_n hX dX5_puts_0 rfl rfl ?_
  refine g_aload_n hX dX5_puts_1 rfl rfl ?_
  refine g_get5R hX 28 dX5_puts_2 b_fl_X5_58 hm.k0 (by decide) hm.q17 ?_
  refine g_iconst (v := 0) hX dX5_puts_5 (by decide) ?_
  refine g_callV _ hX dX5_puts_6 k_X5_199 ⟨by decide, by decide⟩ (by decide) hm.k0 rfl rfl (m_lays (a := 0) hm hm.k17 (by decide) (by decide) ⟨by decide, by decide, by decide⟩) rfl (Nat.le_of_ble_eq_true rfl) (fun r1 I1 L1 hq => ?_)
  obtain ⟨rfl, rfl, rfl⟩ := hq
  exact g_vret hX dX5_puts_9 rfl (⟨rfl, rfl, rfl⟩)
set_option maxHeartbeats 4000000 in
set_option maxRecDepth 100000 in
theorem m_back {w : WG} {I : SI} {L : SL} (hm : ML w)  : Ok w mX5_back [.ref (gA w 0)] I L (fun r1 I1 L1 => r1 = none ∧ I1 = tkJ I (I 17) 0 4 ∧ L1 = L) := by
  refine Ok.of (by decide) (Nat.le_of_ble_eq_true rfl) (fun X hX => ?_)
  refine g_aload_n hX dX5_back_0 rfl rfl ?_
  refine g_aload_n hX dX5_back_1 rfl rfl ?_
  refine g_get5R hX 28 dX5_back_2 b_fl_X5_58 hm.k0 (by decide) hm.q17 ?_
  refine g_iconst (v := 0) hX dX5_back_5 (by decide) ?_
  refine g_callV _ hX dX5_back_6 k_X5_203 ⟨by decide, by decide⟩ (by decide) hm.k0 rfl rfl (m_takes (a := 0) hm hm.k17 (by decide) (by decide) ⟨by decide, by decide, by decide⟩) rfl (Nat.le_of_ble_eq_true rfl) (fun r1 I1 L1 hq => ?_)
  obtain ⟨rfl, rfl, rfl⟩ := hq
  exact g_vret hX dX5_back_9 rfl (⟨rfl, rfl, rfl⟩)
set_option maxHeartbeats 4000000 in
set_option maxRecDepth 100000 in
theorem m_wonIn {w : WG} {I : SI} {L : SL} (hm : ML w) {V : VS} {n d t m : Nat} {h : Nat → Int32} {s : Int32} (hS : MS V I n d h s t) (ht9 : t ≤ 999) (hm9 : m ≤ 60) (a : Int32) : Ok w mX5_wonIn [.ref (gA w 0), .int (nI m), .int a] I L (fun r1 I1 L1 => r1 = some (.int (if a = 0 then pmF (ahG V n d t s h m) n else lvF (ahG V n d t s h m) n)) ∧ L1 = L ∧ S17 I I1) := by
  refine Ok.of (by decide) (Nat.le_of_ble_eq_true rfl) (fun X hX => ?_)
  have loop := loop_up (n := m) (P := fun i => ∀ J : SI, MS V J n d (ahG V n d t s h i) (if i = 0 then s else 0) (t + i) → Fr (rS I 17 (layC I 0 4 (I 17))) J → G X w mX5_wonIn J L 6 (lvO [(0, .ref (gA w 0)), (1, .int (nI m)), (2, .int a), (3, .int (nI i))]) []) (fun i him ih J hs hf => by
    refine g_iload_n hX dX5_wonIn_6 rfl rfl ?_
    refine g_iload_n hX dX5_wonIn_7 rfl rfl ?_
    refine g_icmp_ge (tgt := 21) hX dX5_wonIn_8 (by decide) (fun c_8 => ?_) (fun c_8 => ?_)
    · refine g_iload_n hX dX5_wonIn_21 rfl rfl ?_
      refine g_if_ne (tgt := 32) hX dX5_wonIn_22 (by decide) (fun c_22 => ?_) (fun c_22 => ?_)
      · refine g_aload_n hX dX5_wonIn_32 rfl rfl ?_
        refine g_callVp _ hX dX5_wonIn_33 k_X5_230 ⟨by decide, by decide⟩ (by decide) hm.k0 rfl rfl (m_nextVillage hm hs.1.1 hs.1.2.1) rfl (Nat.le_of_ble_eq_true rfl) ?_
        refine g_istore_n hX dX5_wonIn_36 rfl (by decide) ?_
        refine g_aload_n hX dX5_wonIn_37 rfl rfl ?_
        refine g_callV _ hX dX5_wonIn_38 k_X5_227 ⟨by decide, by decide⟩ (by decide) hm.k0 rfl rfl (m_back hm) rfl (Nat.le_of_ble_eq_true rfl) (fun r1 I1 L1 hq => ?_)
        obtain ⟨rfl, rfl, rfl⟩ := hq
        refine g_iload_n hX dX5_wonIn_41 rfl rfl ?_
        exact g_iret hX dX5_wonIn_42 rfl (⟨by rw [show i = m from Nat.le_antisymm him (nle c_8 (by omega) (by omega))] at hs; rw [if_neg c_22, lvF_congr n (by have := hs.1.2.1; omega) (fun c hc => hs.2.2.2 c hc)], rfl, back_lem hf⟩)
      · refine g_aload_n hX dX5_wonIn_25 rfl rfl ?_
        refine g_callVp _ hX dX5_wonIn_26 k_X5_221 ⟨by decide, by decide⟩ (by decide) hm.k0 rfl rfl (m_postman hm hs.1.1 hs.1.2.1) rfl (Nat.le_of_ble_eq_true rfl) ?_
        refine g_goto (tgt := 36) hX dX5_wonIn_29 (by decide) ?_
        refine g_istore_n hX dX5_wonIn_36 rfl (by decide) ?_
        refine g_aload_n hX dX5_wonIn_37 rfl rfl ?_
        refine g_callV _ hX dX5_wonIn_38 k_X5_227 ⟨by decide, by decide⟩ (by decide) hm.k0 rfl rfl (m_back hm) rfl (Nat.le_of_ble_eq_true rfl) (fun r1 I1 L1 hq => ?_)
        obtain ⟨rfl, rfl, rfl⟩ := hq
        refine g_iload_n hX dX5_wonIn_41 rfl rfl ?_
        exact g_iret hX dX5_wonIn_42 rfl (⟨by rw [show i = m from Nat.le_antisymm him (nle c_8 (by omega) (by omega))] at hs; rw [if_pos c_22, pmF_congr n (by have := hs.1.2.1; omega) (fun c hc => hs.2.2.2 c hc)], rfl, back_lem hf⟩)
    · have hlt := nnle c_8 (by omega) (by omega)
      refine g_aload_n hX dX5_wonIn_11 rfl rfl ?_
      refine g_callV _ hX dX5_wonIn_12 k_X5_218 ⟨by decide, by decide⟩ (by decide) hm.k0 rfl rfl (m_pass hm hs (by omega)) rfl (Nat.le_of_ble_eq_true rfl) (fun r1 J1 L1 hq => ?_)
      obtain ⟨rfl, rfl, hs1, hf1⟩ := hq
      refine g_iinc hX dX5_wonIn_15 rfl (d := 1) (by decide) ?_
      refine g_goto (tgt := 6) hX dX5_wonIn_18 (by decide) ?_
      exact G.at (ih hlt J1 (by rw [ahG]; exact hs1) (hf.tr hf1)) ⟨rfl, rfl, rfl, vI (nI_1 i), trivial⟩
    )
  refine g_aload_n hX dX5_wonIn_0 rfl rfl ?_
  refine g_callV _ hX dX5_wonIn_1 k_X5_224 ⟨by decide, by decide⟩ (by decide) hm.k0 rfl rfl (m_puts hm) rfl (Nat.le_of_ble_eq_true rfl) (fun r1 I1 L1 hq => ?_)
  obtain ⟨rfl, rfl, rfl⟩ := hq
  refine g_iconst (v := 0) hX dX5_wonIn_4 (by decide) ?_
  refine g_istore_n hX dX5_wonIn_5 rfl (by decide) ?_
  exact G.at (loop 0 (Nat.zero_le _) _ hS.p17 Fr.rf) ⟨rfl, rfl, rfl, rfl, trivial⟩
