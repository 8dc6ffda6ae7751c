set_option maxHeartbeats 4000000 in
set_option maxRecDepth 100000 in
theorem n_still {w : WG} {I : SI} {L : SL} {XI : SI} {n d r q p m : Nat} (hm : ML w) (h : RR XI I L n d r q p m) (c : Int32) : Ok w mX5_still [.ref (gA w 0), .int c] I L (QM (spStill XI n d r c)) := by
  obtain ⟨hRX, hRJ, hRF⟩ := id h
  obtain ⟨⟨xn, xn4, xd, xd7, xr, xr9⟩, ⟨xq, xq6⟩, ⟨xp, xp8⟩, ⟨xm, xm150⟩, xA, xH, xD, xP, xT⟩ := id hRX
  obtain ⟨⟨jn, -, jd, -, jB, jK⟩, jr, ja, jq, jp, jm, jH, jN, jP, jT⟩ := RJ_v hRJ
  have hRV : RV (vx XI 1) I n d := hRJ.1
  have hMS := h.ms
  refine Ok.of (by decide) (Nat.le_of_ble_eq_true rfl) (fun X hX => ?_)
  refine g_aload_n hX dX5_still_0 rfl rfl ?_
  refine g_iload_n hX dX5_still_1 rfl rfl ?_
  refine g_callVp _ hX dX5_still_2 k_X5_206 ⟨by decide, by decide⟩ (by decide) hm.k0 rfl rfl (m_isMan hm jn (by omega) _) rfl (Nat.le_of_ble_eq_true rfl) ?_
  refine g_if_ne (tgt := 13) hX dX5_still_5 (by decide) (fun c_5 => ?_) (fun c_5 => ?_)
  · have fin : ∀ (i : Nat) (J : SI), i ≤ 30 → Fr (rS I 17 (layC I 0 4 (I 17))) J → (spStill XI n d r c) = (.int (nI i), XI) → G X w mX5_still J L 21 (lvO [(0, .ref (gA w 0)), (1, .int c), (2, .int (nI i)), (3, .int 1)]) [] := by
      intro i J hi hf hres
      refine g_iload_n hX dX5_still_21 rfl rfl ?_
      refine g_bipush (v := 30) hX dX5_still_22 (by decide) ?_
      rw [show (30 : Int32) = nI 30 from rfl]
      refine g_icmp_ge (tgt := 55) hX dX5_still_24 (by decide) (fun c_24 => ?_) (fun c_24 => ?_)
      · refine g_aload_n hX dX5_still_55 rfl rfl ?_
        refine g_callV _ hX dX5_still_56 k_X5_227 ⟨by decide, by decide⟩ (by decide) hm.k0 rfl rfl (m_back hm) rfl (Nat.le_of_ble_eq_true rfl) (fun r1 I1 L1 hq => ?_)
        obtain ⟨rfl, rfl, rfl⟩ := hq
        refine g_iload_n hX dX5_still_59 rfl rfl ?_
        refine g_if_eq (tgt := 67) hX dX5_still_60 (by decide) (fun c_60 => ?_) (fun c_60 => ?_)
        · refine g_iconst (v := -1) hX dX5_still_67 (by decide) ?_
          exact g_iret hX dX5_still_68 rfl (by exact absurd c_60 (by decide))
        · refine g_iload_n hX dX5_still_63 rfl rfl ?_
          refine g_goto (tgt := 68) hX dX5_still_64 (by decide) ?_
          exact g_iret hX dX5_still_68 rfl (by rw [hres]; exact ⟨rfl, n, d, r, q, p, m, h.s17 (back_lem hf)⟩)
      · refine g_iload_n hX dX5_still_27 rfl rfl ?_
        refine g_if_ne (tgt := 55) hX dX5_still_28 (by decide) (fun c_28 => ?_) (fun c_28 => ?_)
        · refine g_aload_n hX dX5_still_55 rfl rfl ?_
          refine g_callV _ hX dX5_still_56 k_X5_227 ⟨by decide, by decide⟩ (by decide) hm.k0 rfl rfl (m_back hm) rfl (Nat.le_of_ble_eq_true rfl) (fun r1 I1 L1 hq => ?_)
          obtain ⟨rfl, rfl, rfl⟩ := hq
          refine g_iload_n hX dX5_still_59 rfl rfl ?_
          refine g_if_eq (tgt := 67) hX dX5_still_60 (by decide) (fun c_60 => ?_) (fun c_60 => ?_)
          · refine g_iconst (v := -1) hX dX5_still_67 (by decide) ?_
            exact g_iret hX dX5_still_68 rfl (by exact absurd c_60 (by decide))
          · refine g_iload_n hX dX5_still_63 rfl rfl ?_
            refine g_goto (tgt := 68) hX dX5_still_64 (by decide) ?_
            exact g_iret hX dX5_still_68 rfl (by rw [hres]; exact ⟨rfl, n, d, r, q, p, m, h.s17 (back_lem hf)⟩)
        · exact absurd c_28 (by decide)
    have loop := loop_up (n := 30) (P := fun i => ∀ J : SI, MS (vx XI 1) J n d (ahF (vx XI 1) n d r i) (if i = 0 then XI 1 2 else 0) (r + i) → Fr (rS I 17 (layC I 0 4 (I 17))) J → (spStill XI n d r c) = (.int (slX (vx XI 1) n d r c (30 - i) (i + 1)), XI) → G X w mX5_still J L 21 (lvO [(0, .ref (gA w 0)), (1, .int c), (2, .int (nI i)), (3, .int 0)]) []) (fun i hi ih J hs hf hres => by
      refine g_iload_n hX dX5_still_21 rfl rfl ?_
      refine g_bipush (v := 30) hX dX5_still_22 (by decide) ?_
      rw [show (30 : Int32) = nI 30 from rfl]
      refine g_icmp_ge (tgt := 55) hX dX5_still_24 (by decide) (fun c_24 => ?_) (fun c_24 => ?_)
      · refine g_aload_n hX dX5_still_55 rfl rfl ?_
        refine g_callV _ hX dX5_still_56 k_X5_227 ⟨by decide, by decide⟩ (by decide) hm.k0 rfl rfl (m_back hm) rfl (Nat.le_of_ble_eq_true rfl) (fun r1 I1 L1 hq => ?_)
        obtain ⟨rfl, rfl, rfl⟩ := hq
        refine g_iload_n hX dX5_still_59 rfl rfl ?_
        refine g_if_eq (tgt := 67) hX dX5_still_60 (by decide) (fun c_60 => ?_) (fun c_60 => ?_)
        · refine g_iconst (v := -1) hX dX5_still_67 (by decide) ?_
          exact g_iret hX dX5_still_68 rfl (by rw [hres, show i = 30 by (have := nle c_24 (by decide) (by omega); omega)]; exact ⟨rfl, n, d, r, q, p, m, h.s17 (back_lem hf)⟩)
        · refine g_iload_n hX dX5_still_63 rfl rfl ?_
          refine g_goto (tgt := 68) hX dX5_still_64 (by decide) ?_
          exact g_iret hX dX5_still_68 rfl (by exact absurd rfl c_60)
      · have hlt : i < 30 := nnle c_24 (by decide) (by omega)
        refine g_iload_n hX dX5_still_27 rfl rfl ?_
        refine g_if_ne (tgt := 55) hX dX5_still_28 (by decide) (fun c_28 => ?_) (fun c_28 => ?_)
        · refine g_aload_n hX dX5_still_55 rfl rfl ?_
          refine g_callV _ hX dX5_still_56 k_X5_227 ⟨by decide, by decide⟩ (by decide) hm.k0 rfl rfl (m_back hm) rfl (Nat.le_of_ble_eq_true rfl) (fun r1 I1 L1 hq => ?_)
          obtain ⟨rfl, rfl, rfl⟩ := hq
          refine g_iload_n hX dX5_still_59 rfl rfl ?_
          refine g_if_eq (tgt := 67) hX dX5_still_60 (by decide) (fun c_60 => ?_) (fun c_60 => ?_)
          · refine g_iconst (v := -1) hX dX5_still_67 (by decide) ?_
            exact g_iret hX dX5_still_68 rfl (by exact absurd rfl c_28)
          · refine g_iload_n hX dX5_still_63 rfl rfl ?_
            refine g_goto (tgt := 68) hX dX5_still_64 (by decide) ?_
            exact g_iret hX dX5_still_68 rfl (by exact absurd rfl c_28)
        · refine g_aload_n hX dX5_still_31 rfl rfl ?_
          refine g_callV _ hX dX5_still_32 k_X5_218 ⟨by decide, by decide⟩ (by decide) hm.k0 rfl rfl (m_pass hm hs (by omega)) rfl (Nat.le_of_ble_eq_true rfl) (fun r1 J1 L1 hq => ?_)
          obtain ⟨rfl, rfl, hs1, hf1⟩ := hq
          have e1 : pmF (J1 4) n = pmF (ahF (vx XI 1) n d r (i + 1)) n := pmF_congr n (by omega) (fun c hc => hs1.2.2.2 c hc)
          refine g_iinc hX dX5_still_35 rfl (d := 1) (by decide) ?_
          refine g_aload_n hX dX5_still_38 rfl rfl ?_
          refine g_callVp _ hX dX5_still_39 k_X5_221 ⟨by decide, by decide⟩ (by decide) hm.k0 rfl rfl (m_postman hm hs1.1.1 hs1.1.2.1) rfl (Nat.le_of_ble_eq_true rfl) ?_
          rw [e1]
          refine g_iload_n hX dX5_still_42 rfl rfl ?_
          refine g_icmp_ne (tgt := 50) hX dX5_still_43 (by decide) (fun c_43 => ?_) (fun c_43 => ?_)
          · refine g_iconst (v := 0) hX dX5_still_50 (by decide) ?_
            refine g_istore_n hX dX5_still_51 rfl (by decide) ?_
            refine g_goto (tgt := 21) hX dX5_still_52 (by decide) ?_
            exact G.at (ih hlt J1 hs1 (hf.tr hf1) (hres.trans (by rw [show 30 - i = (30 - (i + 1)) + 1 by omega, slX, if_neg c_43]))) ⟨rfl, rfl, vI (nI_1 i), rfl, trivial⟩
          · refine g_iconst (v := 1) hX dX5_still_46 (by decide) ?_
            refine g_goto (tgt := 51) hX dX5_still_47 (by decide) ?_
            refine g_istore_n hX dX5_still_51 rfl (by decide) ?_
            refine g_goto (tgt := 21) hX dX5_still_52 (by decide) ?_
            exact G.at (fin (i + 1) J1 (by omega) (hf.tr hf1) (hres.trans (by rw [show 30 - i = (30 - (i + 1)) + 1 by omega, slX, if_pos c_43]))) ⟨rfl, rfl, vI (nI_1 i), rfl, trivial⟩
      )
    refine g_aload_n hX dX5_still_13 rfl rfl ?_
    refine g_callV _ hX dX5_still_14 k_X5_224 ⟨by decide, by decide⟩ (by decide) hm.k0 rfl rfl (m_puts hm) rfl (Nat.le_of_ble_eq_true rfl) (fun r1 I1 L1 hq => ?_)
    obtain ⟨rfl, rfl, rfl⟩ := hq
    refine g_iconst (v := 0) hX dX5_still_17 (by decide) ?_
    refine g_istore_n hX dX5_still_18 rfl (by decide) ?_
    refine g_iconst (v := 0) hX dX5_still_19 (by decide) ?_
    refine g_istore_n hX dX5_still_20 rfl (by decide) ?_
    exact G.at (loop 0 (Nat.zero_le _) _ hMS.p17 Fr.rf (by rw [spStill, if_neg (fun z => z (by rw [xn]; exact b01_n c_5))])) ⟨rfl, rfl, rfl, rfl, trivial⟩
  · refine g_aload_n hX dX5_still_8 rfl rfl ?_
    refine g_callV _ hX dX5_still_9 k_X5_97 ⟨by decide, by decide⟩ (by decide) hm.k0 rfl rfl (m_bad hm) rfl (Nat.le_of_ble_eq_true rfl) (fun r1 I1 L1 hq => ?_)
    obtain ⟨rfl, rfl, rfl⟩ := hq
    exact g_iret hX dX5_still_12 rfl (by rw [spStill, if_pos (fun z => b01_0 c_5 (xn ▸ z))]; exact ⟨rfl, n, d, r, q, p, m, h.bad⟩)
set_option maxHeartbeats 4000000 in
set_option maxRecDepth 100000 in
theorem n_first {w : WG} {I : SI} {L : SL} {XI : SI} {n d r q p m : Nat} (hm : ML w) (h : RR XI I L n d r q p m) (c a : Int32) : Ok w mX5_first [.ref (gA w 0), .int c, .int a] I L (QM (spFirst XI n d c a)) := by
  obtain ⟨hRX, hRJ, hRF⟩ := id h
  obtain ⟨⟨xn, xn4, xd, xd7, xr, xr9⟩, ⟨xq, xq6⟩, ⟨xp, xp8⟩, ⟨xm, xm150⟩, xA, xH, xD, xP, xT⟩ := id hRX
  obtain ⟨⟨jn, -, jd, -, jB, jK⟩, jr, ja, jq, jp, jm, jH, jN, jP, jT⟩ := RJ_v hRJ
  have hRV : RV (vx XI 1) I n d := hRJ.1
  have hMS := h.ms
  refine Ok.of (by decide) (Nat.le_of_ble_eq_true rfl) (fun X hX => ?_)
  refine g_aload_n hX dX5_first_0 rfl rfl ?_
  refine g_iload_n hX dX5_first_1 rfl rfl ?_
  refine g_callVp _ hX dX5_first_2 k_X5_206 ⟨by decide, by decide⟩ (by decide) hm.k0 rfl rfl (m_isMan hm jn (by omega) _) rfl (Nat.le_of_ble_eq_true rfl) ?_
  refine g_if_eq (tgt := 17) hX dX5_first_5 (by decide) (fun c_5 => ?_) (fun c_5 => ?_)
  · refine g_aload_n hX dX5_first_17 rfl rfl ?_
    refine g_callV _ hX dX5_first_18 k_X5_97 ⟨by decide, by decide⟩ (by decide) hm.k0 rfl rfl (m_bad hm) rfl (Nat.le_of_ble_eq_true rfl) (fun r1 I1 L1 hq => ?_)
    obtain ⟨rfl, rfl, rfl⟩ := hq
    exact g_iret hX dX5_first_21 rfl (by rw [spFirst, if_pos (by intro z; first | exact b01_0 c_5 (xn ▸ z.1) | exact b01_0 c_14 z.2)]; exact ⟨rfl, n, d, r, q, p, m, h.bad⟩)
  · refine g_iload_n hX dX5_first_8 rfl rfl ?_
    refine g_iconst (v := 0) hX dX5_first_9 (by decide) ?_
    refine g_iconst (v := 1) hX dX5_first_10 (by decide) ?_
    refine g_callSp _ hX dX5_first_11 k_X5_93 ⟨by decide, by decide⟩ rfl (ok_in _ _ _) rfl (Nat.le_of_ble_eq_true rfl) ?_
    refine g_if_ne (tgt := 22) hX dX5_first_14 (by decide) (fun c_14 => ?_) (fun c_14 => ?_)
    · obtain ⟨c, hc, rfl⟩ := ix (b01_n c_5) (by omega)
      have loop := loop_up (n := n - 1) (P := fun s => ∀ j, j ≤ s → frX (wtX (vx XI 1) n d (nI c) (XI 1 2)) s = (nI j, wtX (vx XI 1) n d (nI c) (XI 1 2) j) → G X w mX5_first I L 27 (lvO [(0, .ref (gA w 0)), (1, .int (nI c)), (2, .int a), (3, .int (nI j)), (4, .int (nI (s + 1)))]) []) (fun s hk ih j hj he => by
        refine g_iload hX dX5_first_27 rfl ?_
        refine g_aload_n hX dX5_first_29 rfl rfl ?_
        refine g_get5I hX 1 dX5_first_30 b_fl_X5_74 hm.k0 (by decide) ?_
        rw [jn]
        refine g_icmp_ge (tgt := 73) hX dX5_first_33 (by decide) (fun c_33 => ?_) (fun c_33 => ?_)
        · refine g_iload_n hX dX5_first_73 rfl rfl ?_
          refine g_if_ne (tgt := 81) hX dX5_first_74 (by decide) (fun c_74 => ?_) (fun c_74 => ?_)
          · refine g_aload_n hX dX5_first_81 rfl rfl ?_
            refine g_iload_n hX dX5_first_82 rfl rfl ?_
            refine g_iload_n hX dX5_first_83 rfl rfl ?_
            refine g_aload_n hX dX5_first_84 rfl rfl ?_
            refine g_get5I hX 4 dX5_first_85 b_fl_X5_84 hm.k0 (by decide) ?_
            rw [ja]
            refine g_callVp _ hX dX5_first_88 k_X5_195 ⟨by decide, by decide⟩ (by decide) hm.k0 rfl rfl (m_comesTo (a := j) hm hRV hc (by omega) _) rfl (Nat.le_of_ble_eq_true rfl) ?_
            exact g_iret hX dX5_first_91 rfl (by have es : s = n - 1 := (by have := nle c_33 (by omega) (by omega); omega); subst es; rw [spFirst, if_neg (fun z => z ⟨⟨nI_pos' (by omega), by rw [xn]; exact nI_lt hc (by omega)⟩, b01_n c_14⟩), he, if_neg c_74]; exact ⟨rfl, n, d, r, q, p, m, h⟩)
          · refine g_iload_n hX dX5_first_77 rfl rfl ?_
            refine g_goto (tgt := 91) hX dX5_first_78 (by decide) ?_
            exact g_iret hX dX5_first_91 rfl (by have es : s = n - 1 := (by have := nle c_33 (by omega) (by omega); omega); subst es; rw [spFirst, if_neg (fun z => z ⟨⟨nI_pos' (by omega), by rw [xn]; exact nI_lt hc (by omega)⟩, b01_n c_14⟩), he, if_pos c_74]; exact ⟨rfl, n, d, r, q, p, m, h⟩)
        · have hlt := nnle c_33 (by omega) (by omega)
          refine g_aload_n hX dX5_first_36 rfl rfl ?_
          refine g_iload_n hX dX5_first_37 rfl rfl ?_
          refine g_iload hX dX5_first_38 rfl ?_
          refine g_aload_n hX dX5_first_40 rfl rfl ?_
          refine g_get5I hX 4 dX5_first_41 b_fl_X5_84 hm.k0 (by decide) ?_
          rw [ja]
          refine g_callVp _ hX dX5_first_44 k_X5_195 ⟨by decide, by decide⟩ (by decide) hm.k0 rfl rfl (m_comesTo (a := s + 1) hm hRV hc (by omega) _) rfl (Nat.le_of_ble_eq_true rfl) ?_
          refine g_aload_n hX dX5_first_47 rfl rfl ?_
          refine g_iload_n hX dX5_first_48 rfl rfl ?_
          refine g_iload_n hX dX5_first_49 rfl rfl ?_
          refine g_aload_n hX dX5_first_50 rfl rfl ?_
          refine g_get5I hX 4 dX5_first_51 b_fl_X5_84 hm.k0 (by decide) ?_
          rw [ja]
          refine g_callVp _ hX dX5_first_54 k_X5_195 ⟨by decide, by decide⟩ (by decide) hm.k0 rfl rfl (m_comesTo (a := j) hm hRV hc (by omega) _) rfl (Nat.le_of_ble_eq_true rfl) ?_
          refine g_icmp_ge (tgt := 65) hX dX5_first_57 (by decide) (fun c_57 => ?_) (fun c_57 => ?_)
          · refine g_iload_n hX dX5_first_65 rfl rfl ?_
            refine g_istore_n hX dX5_first_66 rfl (by decide) ?_
            refine g_iinc hX dX5_first_67 rfl (d := 1) (by decide) ?_
            refine g_goto (tgt := 27) hX dX5_first_70 (by decide) ?_
            exact G.at (ih (by omega) j (by omega) (by rw [frX, he]; exact if_neg (show ¬ wtX (vx XI 1) n d (nI c) (XI 1 2) (s + 1) < wtX (vx XI 1) n d (nI c) (XI 1 2) j from Int32.not_lt.mpr c_57))) ⟨rfl, rfl, rfl, rfl, vI (nI_1 (s + 1)), trivial⟩
          · refine g_iload hX dX5_first_60 rfl ?_
            refine g_goto (tgt := 66) hX dX5_first_62 (by decide) ?_
            refine g_istore_n hX dX5_first_66 rfl (by decide) ?_
            refine g_iinc hX dX5_first_67 rfl (d := 1) (by decide) ?_
            refine g_goto (tgt := 27) hX dX5_first_70 (by decide) ?_
            exact G.at (ih (by omega) (s + 1) (by omega) (by rw [frX, he]; exact if_pos (show wtX (vx XI 1) n d (nI c) (XI 1 2) (s + 1) < wtX (vx XI 1) n d (nI c) (XI 1 2) j from Int32.not_le.mp c_57))) ⟨rfl, rfl, rfl, rfl, vI (nI_1 (s + 1)), trivial⟩
        )
      refine g_iconst (v := 0) hX dX5_first_22 (by decide) ?_
      refine g_istore_n hX dX5_first_23 rfl (by decide) ?_
      refine g_iconst (v := 1) hX dX5_first_24 (by decide) ?_
      refine g_istore hX dX5_first_25 (by decide) ?_
      exact G.at (loop 0 (Nat.zero_le _) 0 (Nat.le_refl 0) rfl) ⟨rfl, rfl, rfl, rfl, rfl, trivial⟩
    · refine g_aload_n hX dX5_first_17 rfl rfl ?_
      refine g_callV _ hX dX5_first_18 k_X5_97 ⟨by decide, by decide⟩ (by decide) hm.k0 rfl rfl (m_bad hm) rfl (Nat.le_of_ble_eq_true rfl) (fun r1 I1 L1 hq => ?_)
      obtain ⟨rfl, rfl, rfl⟩ := hq
      exact g_iret hX dX5_first_21 rfl (by rw [spFirst, if_pos (by intro z; first | exact b01_0 c_5 (xn ▸ z.1) | exact b01_0 c_14 z.2)]; exact ⟨rfl, n, d, r, q, p, m, h.bad⟩)
theorem sh_n : ∀ d, d ≤ 7 → (1 : Int32) <<< (nI d &&& 31) = nI (2 ^ d) := by decide +kernel
theorem and_ev : ∀ d, d ≤ 7 → ∀ s, s < 2 ^ d → nI (2 ^ d - 1) &&& nI s = nI s := by decide +kernel
set_option maxHeartbeats 4000000 in
set_option maxRecDepth 100000 in
theorem n_slept {w : WG} {I : SI} {L : SL} {XI : SI} {n d r q p m : Nat} (hm : ML w) (h : RR XI I L n d r q p m) (u c x a : Int32) : Ok w mX5_slept [.ref (gA w 0), .int u, .int c, .int x, .int a] I L (QM (spSlept XI n d u c x a)) := by
  obtain ⟨hRX, hRJ, hRF⟩ := id h
  obtain ⟨⟨xn, xn4, xd, xd7, xr, xr9⟩, ⟨xq, xq6⟩, ⟨xp, xp8⟩, ⟨xm, xm150⟩, xA, xH, xD, xP, xT⟩ := id hRX
  obtain ⟨⟨jn, -, jd, -, jB, jK⟩, jr, ja, jq, jp, jm, jH, jN, jP, jT⟩ := RJ_v hRJ
  have hRV : RV (vx XI 1) I n d := hRJ.1
  have hMS := h.ms
  refine Ok.of (by decide) (Nat.le_of_ble_eq_true rfl) (fun X hX => ?_)
  refine g_iload_n hX dX5_slept_0 rfl rfl ?_
  refine g_iconst (v := 0) hX dX5_slept_1 (by decide) ?_
  refine g_bipush (v := 99) hX dX5_slept_2 (by decide) ?_
  refine g_callSp _ hX dX5_slept_4 k_X5_93 ⟨by decide, by decide⟩ rfl (ok_in _ _ _) rfl (Nat.le_of_ble_eq_true rfl) ?_
  refine g_if_eq (tgt := 39) hX dX5_slept_7 (by decide) (fun c_7 => ?_) (fun c_7 => ?_)
  · refine g_aload_n hX dX5_slept_39 rfl rfl ?_
    refine g_callV _ hX dX5_slept_40 k_X5_97 ⟨by decide, by decide⟩ (by decide) hm.k0 rfl rfl (m_bad hm) rfl (Nat.le_of_ble_eq_true rfl) (fun r1 I1 L1 hq => ?_)
    obtain ⟨rfl, rfl, rfl⟩ := hq
    exact g_iret hX dX5_slept_43 rfl (by rw [spSlept, if_pos (by intro z; first | exact b01_0 c_7 z.1 | exact b01_0 c_15 (xn ▸ z.2.1) | exact b01_0 c_26 z.2.2.1 | exact b01_0 c_36 z.2.2.2)]; exact ⟨rfl, n, d, r, q, p, m, h.bad⟩)
  · refine g_aload_n hX dX5_slept_10 rfl rfl ?_
    refine g_iload_n hX dX5_slept_11 rfl rfl ?_
    refine g_callVp _ hX dX5_slept_12 k_X5_206 ⟨by decide, by decide⟩ (by decide) hm.k0 rfl rfl (m_isMan hm jn (by omega) _) rfl (Nat.le_of_ble_eq_true rfl) ?_
    refine g_if_eq (tgt := 39) hX dX5_slept_15 (by decide) (fun c_15 => ?_) (fun c_15 => ?_)
    · refine g_aload_n hX dX5_slept_39 rfl rfl ?_
      refine g_callV _ hX dX5_slept_40 k_X5_97 ⟨by decide, by decide⟩ (by decide) hm.k0 rfl rfl (m_bad hm) rfl (Nat.le_of_ble_eq_true rfl) (fun r1 I1 L1 hq => ?_)
      obtain ⟨rfl, rfl, rfl⟩ := hq
      exact g_iret hX dX5_slept_43 rfl (by rw [spSlept, if_pos (by intro z; first | exact b01_0 c_7 z.1 | exact b01_0 c_15 (xn ▸ z.2.1) | exact b01_0 c_26 z.2.2.1 | exact b01_0 c_36 z.2.2.2)]; exact ⟨rfl, n, d, r, q, p, m, h.bad⟩)
    · refine g_iload_n hX dX5_slept_18 rfl rfl ?_
      refine g_iconst (v := 0) hX dX5_slept_19 (by decide) ?_
      refine g_sipush (v := 200) hX dX5_slept_20 (by decide) ?_
      refine g_callSp _ hX dX5_slept_23 k_X5_93 ⟨by decide, by decide⟩ rfl (ok_in _ _ _) rfl (Nat.le_of_ble_eq_true rfl) ?_
      refine g_if_eq (tgt := 39) hX dX5_slept_26 (by decide) (fun c_26 => ?_) (fun c_26 => ?_)
      · refine g_aload_n hX dX5_slept_39 rfl rfl ?_
        refine g_callV _ hX dX5_slept_40 k_X5_97 ⟨by decide, by decide⟩ (by decide) hm.k0 rfl rfl (m_bad hm) rfl (Nat.le_of_ble_eq_true rfl) (fun r1 I1 L1 hq => ?_)
        obtain ⟨rfl, rfl, rfl⟩ := hq
        exact g_iret hX dX5_slept_43 rfl (by rw [spSlept, if_pos (by intro z; first | exact b01_0 c_7 z.1 | exact b01_0 c_15 (xn ▸ z.2.1) | exact b01_0 c_26 z.2.2.1 | exact b01_0 c_36 z.2.2.2)]; exact ⟨rfl, n, d, r, q, p, m, h.bad⟩)
      · refine g_iload hX dX5_slept_29 rfl ?_
        refine g_iconst (v := 0) hX dX5_slept_31 (by decide) ?_
        refine g_iconst (v := 2) hX dX5_slept_32 (by decide) ?_
        refine g_callSp _ hX dX5_slept_33 k_X5_93 ⟨by decide, by decide⟩ rfl (ok_in _ _ _) rfl (Nat.le_of_ble_eq_true rfl) ?_
        refine g_if_ne (tgt := 44) hX dX5_slept_36 (by decide) (fun c_36 => ?_) (fun c_36 => ?_)
        · obtain ⟨u, hu, rfl⟩ := ix2 (n := 99) rfl (by decide) (b01_n c_7)
          obtain ⟨c, hc, rfl⟩ := ix (b01_n c_15) (by omega)
          have hp2 : 2 ^ d ≤ 128 := Nat.pow_le_pow_right (by decide) xd7
          have hp0 : 0 < 2 ^ d := Nat.pow_pos (by decide)
          have hst : stF n u < 2000 := by unfold stF; split; omega; exact Nat.lt_of_le_of_lt (Nat.mod_le _ _) (by omega)
          have loop := loop_up (n := 2 ^ d) (P := fun s => ∀ (g : Nat) (y z : Int32), g ≤ s → (spX (wsX (vx XI 1) n d (stF n u) (nI c)) x (nI (2 ^ d - 1)) s) = (nI g, y, z) → (g = 0 → y = nI (2 ^ d - 1)) → G X w mX5_slept I L 56 (lvO [(0, .ref (gA w 0)), (1, .int (nI u)), (2, .int (nI c)), (3, .int x), (4, .int a), (5, .int (nI g)), (6, .int (if g = 0 then -1 else y)), (7, .int z), (8, .int (nI s))]) []) (fun s hk ih g y z hg he hy => by
            refine g_iload hX dX5_slept_56 rfl ?_
            refine g_iconst (v := 1) hX dX5_slept_58 (by decide) ?_
            refine g_aload_n hX dX5_slept_59 rfl rfl ?_
            refine g_get5I hX 2 dX5_slept_60 b_fl_X5_78 hm.k0 (by decide) ?_
            rw [jd]
            refine g_ishl hX dX5_slept_63 ?_
            rw [sh_n d xd7]
            refine g_icmp_ge (tgt := 116) hX dX5_slept_64 (by decide) (fun c_64 => ?_) (fun c_64 => ?_)
            · refine g_iload hX dX5_slept_116 rfl ?_
              refine g_if_ne (tgt := 126) hX dX5_slept_118 (by decide) (fun c_118 => ?_) (fun c_118 => ?_)
              · refine g_iload hX dX5_slept_126 rfl ?_
                refine g_iconst (v := 1) hX dX5_slept_128 (by decide) ?_
                refine g_icmp_ne (tgt := 137) hX dX5_slept_129 (by decide) (fun c_129 => ?_) (fun c_129 => ?_)
                · refine g_iload hX dX5_slept_137 rfl ?_
                  exact g_iret hX dX5_slept_139 rfl (by have es : s = 2 ^ d := (by have := nle c_64 (by omega) (by omega); omega); subst es; rw [spSlept, if_neg (fun z => z ⟨b01_n c_7, by rw [xn]; exact b01_n c_15, b01_n c_26, b01_n c_36⟩), nI_clamp (by omega), he, if_neg c_118, if_neg c_129]; exact ⟨rfl, n, d, r, q, p, m, h⟩)
                · refine g_iload hX dX5_slept_132 rfl ?_
                  refine g_goto (tgt := 139) hX dX5_slept_134 (by decide) ?_
                  exact g_iret hX dX5_slept_139 rfl (by have es : s = 2 ^ d := (by have := nle c_64 (by omega) (by omega); omega); subst es; rw [spSlept, if_neg (fun z => z ⟨b01_n c_7, by rw [xn]; exact b01_n c_15, b01_n c_26, b01_n c_36⟩), nI_clamp (by omega), he, if_neg c_118, if_pos c_129]; refine ⟨vI ?_, n, d, r, q, p, m, h⟩; by_cases eg : g = 0; rw [if_pos eg, if_pos (by rw [eg]; rfl)]; rw [if_neg eg]; exact (if_neg (show ¬ nI g = 0 from fun e => eg ((nI_eq (b := 0) (by omega) (by decide)).mp e))).symm)
              · refine g_iload hX dX5_slept_121 rfl ?_
                refine g_goto (tgt := 139) hX dX5_slept_123 (by decide) ?_
                exact g_iret hX dX5_slept_139 rfl (by have es : s = 2 ^ d := (by have := nle c_64 (by omega) (by omega); omega); subst es; rw [spSlept, if_neg (fun z => z ⟨b01_n c_7, by rw [xn]; exact b01_n c_15, b01_n c_26, b01_n c_36⟩), nI_clamp (by omega), he, if_pos c_118]; exact ⟨rfl, n, d, r, q, p, m, h⟩)
            · have hlt := nnle c_64 (by omega) (by omega)
              refine g_aload_n hX dX5_slept_67 rfl rfl ?_
              refine g_iload_n hX dX5_slept_68 rfl rfl ?_
              refine g_aload_n hX dX5_slept_69 rfl rfl ?_
              refine g_iload_n hX dX5_slept_70 rfl rfl ?_
              refine g_callVp _ hX dX5_slept_71 k_X5_192 ⟨by decide, by decide⟩ (by decide) hm.k0 rfl rfl (m_firstOf hm jn xn4 (by omega)) rfl (Nat.le_of_ble_eq_true rfl) ?_
              refine g_iload hX dX5_slept_74 rfl ?_
              refine g_callVp _ hX dX5_slept_76 k_X5_195 ⟨by decide, by decide⟩ (by decide) hm.k0 rfl rfl (m_comesTo hm hRV hc hst _) rfl (Nat.le_of_ble_eq_true rfl) ?_
              refine g_iload_n hX dX5_slept_79 rfl rfl ?_
              refine g_icmp_ne (tgt := 110) hX dX5_slept_80 (by decide) (fun c_80 => ?_) (fun c_80 => ?_)
              · refine g_iinc hX dX5_slept_110 rfl (d := 1) (by decide) ?_
                refine g_goto (tgt := 56) hX dX5_slept_113 (by decide) ?_
                exact G.at (ih hlt g y z (by omega) (by rw [spX, if_neg (show ¬ (wsX (vx XI 1) n d (stF n u) (nI c)) (nI s) = x from c_80)]; exact he) hy) ⟨rfl, rfl, rfl, rfl, rfl, rfl, rfl, rfl, vI (nI_1 s), trivial⟩
              · refine g_iload hX dX5_slept_83 rfl ?_
                refine g_if_ne (tgt := 93) hX dX5_slept_85 (by decide) (fun c_85 => ?_) (fun c_85 => ?_)
                · refine g_iload hX dX5_slept_93 rfl ?_
                  refine g_iload hX dX5_slept_95 rfl ?_
                  refine g_iand hX dX5_slept_97 ?_
                  refine g_istore hX dX5_slept_98 (by decide) ?_
                  refine g_iload hX dX5_slept_100 rfl ?_
                  refine g_iload hX dX5_slept_102 rfl ?_
                  refine g_ior hX dX5_slept_104 ?_
                  refine g_istore hX dX5_slept_105 (by decide) ?_
                  refine g_iinc hX dX5_slept_107 rfl (d := 1) (by decide) ?_
                  refine g_iinc hX dX5_slept_110 rfl (d := 1) (by decide) ?_
                  refine g_goto (tgt := 56) hX dX5_slept_113 (by decide) ?_
                  exact G.at (ih hlt (g + 1) (y &&& nI s) (z ||| nI s) (by omega) (by rw [spX, if_pos (show (wsX (vx XI 1) n d (stF n u) (nI c)) (nI s) = x from c_80), he]; exact Prod.ext (nI_1 g) rfl) (fun e => absurd e (Nat.succ_ne_zero g))) ⟨rfl, rfl, rfl, rfl, rfl, vI (nI_1 g), vI (by rw [if_neg (show ¬ g = 0 from fun e => c_85 (by rw [e]; rfl)), if_neg (Nat.succ_ne_zero g)]), rfl, vI (nI_1 s), trivial⟩
                · refine g_iload hX dX5_slept_88 rfl ?_
                  refine g_goto (tgt := 98) hX dX5_slept_90 (by decide) ?_
                  refine g_istore hX dX5_slept_98 (by decide) ?_
                  refine g_iload hX dX5_slept_100 rfl ?_
                  refine g_iload hX dX5_slept_102 rfl ?_
                  refine g_ior hX dX5_slept_104 ?_
                  refine g_istore hX dX5_slept_105 (by decide) ?_
                  refine g_iinc hX dX5_slept_107 rfl (d := 1) (by decide) ?_
                  refine g_iinc hX dX5_slept_110 rfl (d := 1) (by decide) ?_
                  refine g_goto (tgt := 56) hX dX5_slept_113 (by decide) ?_
                  exact G.at (ih hlt (g + 1) (y &&& nI s) (z ||| nI s) (by omega) (by rw [spX, if_pos (show (wsX (vx XI 1) n d (stF n u) (nI c)) (nI s) = x from c_80), he]; exact Prod.ext (nI_1 g) rfl) (fun e => absurd e (Nat.succ_ne_zero g))) ⟨rfl, rfl, rfl, rfl, rfl, vI (nI_1 g), vI (by rw [if_neg (Nat.succ_ne_zero g), hy ((nI_eq (by omega) (by decide)).mp c_85)]; exact (and_ev d xd7 s hlt).symm), rfl, vI (nI_1 s), trivial⟩
            )
          refine g_iconst (v := 0) hX dX5_slept_44 (by decide) ?_
          refine g_istore hX dX5_slept_45 (by decide) ?_
          refine g_iconst (v := -1) hX dX5_slept_47 (by decide) ?_
          refine g_istore hX dX5_slept_48 (by decide) ?_
          refine g_iconst (v := 0) hX dX5_slept_50 (by decide) ?_
          refine g_istore hX dX5_slept_51 (by decide) ?_
          refine g_iconst (v := 0) hX dX5_slept_53 (by decide) ?_
          refine g_istore hX dX5_slept_54 (by decide) ?_
          exact G.at (loop 0 (Nat.zero_le _) 0 (nI (2 ^ d - 1)) 0 (Nat.le_refl 0) rfl (fun _ => rfl)) ⟨rfl, rfl, rfl, rfl, rfl, rfl, rfl, rfl, rfl, trivial⟩
        · refine g_aload_n hX dX5_slept_39 rfl rfl ?_
          refine g_callV _ hX dX5_slept_40 k_X5_97 ⟨by decide, by decide⟩ (by decide) hm.k0 rfl rfl (m_bad hm) rfl (Nat.le_of_ble_eq_true rfl) (fun r1 I1 L1 hq => ?_)
          obtain ⟨rfl, rfl, rfl⟩ := hq
          exact g_iret hX dX5_slept_43 rfl (by rw [spSlept, if_pos (by intro z; first | exact b01_0 c_7 z.1 | exact b01_0 c_15 (xn ▸ z.2.1) | exact b01_0 c_26 z.2.2.1 | exact b01_0 c_36 z.2.2.2)]; exact ⟨rfl, n, d, r, q, p, m, h.bad⟩)
theorem MS.asl {V : VS} {I J : SI} {n d t : Nat} {h : Nat → Int32} {s s2 v : Int32} (hS : MS V I n d h s t) (hJ : S17 (rS I 0 (upd (I 0) 4 v)) J) : MS V (rS J 0 (upd (J 0) 4 s2)) n d h s2 t := by
  obtain ⟨⟨h1, h2, h3, h4, h5, h6⟩, h7, -, h8⟩ := hS
  have e0 : J 0 = upd (I 0) 4 v := (hJ.1 0 (by decide) (by decide)).trans (rS_eq _ _ _)
  have e : ∀ o, o ≠ 0 → o ≠ 17 → o ≠ 4 → rS J 0 (upd (J 0) 4 s2) o = I o := fun o a b c => by rw [rS_ne _ _ _ a, hJ.1 o b c, rS_ne _ _ _ a]
  refine ⟨⟨?_, h2, ?_, h4, ?_, ?_⟩, ?_, ?_, ?_⟩
  · rw [rS_eq, pk_un (by decide), e0, pk_un (by decide)]; exact h1
  · rw [rS_eq, pk_un (by decide), e0, pk_un (by decide)]; exact h3
  · intro c hc; rw [e 2 (by decide) (by decide) (by decide)]; exact h5 c hc
  · intro k hk; rw [e 5 (by decide) (by decide) (by decide), e 6 (by decide) (by decide) (by decide), e 7 (by decide) (by decide) (by decide), e 8 (by decide) (by decide) (by decide)]; exact h6 k hk
  · rw [rS_eq, pk_un (by decide), e0, pk_un (by decide)]; exact h7
  · rw [rS_eq, pk_us]
  · intro c hc; rw [rS_ne _ _ _ (by decide), hJ.2 c (by omega), rS_ne _ _ _ (by decide)]; exact h8 c hc
theorem RV.asl {V : VS} {I J : SI} {n d : Nat} {v : Int32} (hV : RV V I n d) (hJ : S17 (rS I 0 (upd (I 0) 4 v)) J) : RV V J n d := by
  obtain ⟨h1, h2, h3, h4, h5, h6⟩ := hV
  have e0 : J 0 = upd (I 0) 4 v := (hJ.1 0 (by decide) (by decide)).trans (rS_eq _ _ _)
  have e : ∀ o, o ≠ 0 → o ≠ 17 → o ≠ 4 → J o = I o := fun o a b c => by rw [hJ.1 o b c, rS_ne _ _ _ a]
  refine ⟨?_, h2, ?_, h4, ?_, ?_⟩
  · rw [e0, pk_un (by decide)]; exact h1
  · rw [e0, pk_un (by decide)]; exact h3
  · intro c hc; rw [e 2 (by decide) (by decide) (by decide)]; exact h5 c hc
  · intro k hk; rw [e 5 (by decide) (by decide) (by decide), e 6 (by decide) (by decide) (by decide), e 7 (by decide) (by decide) (by decide), e 8 (by decide) (by decide) (by decide)]; exact h6 k hk
theorem S17.tr {I J K : SI} (h : S17 I J) (h2 : S17 J K) : S17 I K := ⟨fun o a b => (h2.1 o a b).trans (h.1 o a b), fun c hc => (h2.2 c hc).trans (h.2 c hc)⟩
theorem S17.asl {I J : SI} {v v2 : Int32} (hJ : S17 (rS I 0 (upd (I 0) 4 v)) J) : S17 (rS I 0 (upd (I 0) 4 v2)) (rS J 0 (upd (J 0) 4 v2)) := by
  have e0 : J 0 = upd (I 0) 4 v := (hJ.1 0 (by decide) (by decide)).trans (rS_eq _ _ _)
  constructor
  · intro o a b
    by_cases h0 : o = 0
    · subst h0; rw [rS_eq, rS_eq, e0]
      funext k; by_cases hk : k = 4
      · subst hk; rw [pk_us, pk_us]
      · rw [pk_un hk, pk_un hk, pk_un hk]
    · rw [rS_ne _ _ _ h0, rS_ne _ _ _ h0, hJ.1 o a b, rS_ne _ _ _ h0]
  · intro c hc; rw [rS_ne _ _ _ (by decide), rS_ne _ _ _ (by decide), hJ.2 c hc, rS_ne _ _ _ (by decide)]
theorem upd_id {f : Nat → Int32} {k : Nat} {v : Int32} (h : f k = v) : upd f k v = f := by
  funext x; by_cases hx : x = k
  · subst hx; rw [pk_us, h]
  · rw [pk_un hx]
theorem brX_hit {V : VS} {n d r : Nat} {c ham : Int32} {s : Nat} (h1 : nI s &&& V 0 2 = 0) (h2 : hgF (V 6) (nI s) d ≤ ham) (h3 : hgF (V 6) (nI s) d < (brX V n d r c ham s).1) (h4 : pmF (rndF V n d r (V 0 2 ||| nI s) (V 3)) n = c) : brX V n d r c ham (s + 1) = (hgF (V 6) (nI s) d, nI s) := by
  rw [brX, if_pos ⟨h1, h2, h3, h4⟩]
theorem brX_mis {V : VS} {n d r : Nat} {c ham : Int32} {s : Nat} (h : ¬ (nI s &&& V 0 2 = 0 ∧ hgF (V 6) (nI s) d ≤ ham ∧ hgF (V 6) (nI s) d < (brX V n d r c ham s).1 ∧ pmF (rndF V n d r (V 0 2 ||| nI s) (V 3)) n = c)) : brX V n d r c ham (s + 1) = brX V n d r c ham s := by
  rw [brX, if_neg h]
/-- the best bribe so far -/
def BB (V : VS) (n d r : Nat) (c ham : Int32) (s : Nat) (b : Int32) : Prop := (b = -1 ∧ brX V n d r c ham s = (31, -1)) ∨ ∃ t, t < s ∧ b = nI t ∧ brX V n d r c ham s = (hgF (V 6) (nI t) d, nI t)
theorem BB.mis {V : VS} {n d r : Nat} {c ham : Int32} {s : Nat} {b : Int32} (h : BB V n d r c ham s b) (hm : ¬ (nI s &&& V 0 2 = 0 ∧ hgF (V 6) (nI s) d ≤ ham ∧ hgF (V 6) (nI s) d < (brX V n d r c ham s).1 ∧ pmF (rndF V n d r (V 0 2 ||| nI s) (V 3)) n = c)) : BB V n d r c ham (s + 1) b := by
  unfold BB; rw [brX_mis hm]
  exact h.imp id (fun ⟨t, a, b⟩ => ⟨t, by omega, b⟩)
theorem BB.hit {V : VS} {n d r : Nat} {c ham : Int32} {s : Nat} (h1 : nI s &&& V 0 2 = 0) (h2 : hgF (V 6) (nI s) d ≤ ham) (h3 : hgF (V 6) (nI s) d < (brX V n d r c ham s).1) (h4 : pmF (rndF V n d r (V 0 2 ||| nI s) (V 3)) n = c) : BB V n d r c ham (s + 1) (nI s) :=
  Or.inr ⟨s, by omega, rfl, brX_hit h1 h2 h3 h4⟩
theorem nI_nm {a : Nat} (h : a < 2 ^ 31) : ¬ nI a = -1 := nI_m1 h
theorem le31 {a : Nat} {x : Int32} (h : x ≤ nI a) (ha : a ≤ 30) : x < 31 := by
  rw [Int32.le_iff_toInt_le, nI_toInt (by omega)] at h
  rw [Int32.lt_iff_toInt_lt]
  have : (31 : Int32).toInt = 31 := by decide
  omega
theorem S17.r0 {I J : SI} {v : Int32} (hJ : S17 (rS I 0 (upd (I 0) 4 v)) J) {k : Nat} (hk : k ≠ 4) : J 0 k = I 0 k := by
  rw [hJ.1 0 (by decide) (by decide), rS_eq, pk_un hk]
theorem S17.rn {I J : SI} {v : Int32} (hJ : S17 (rS I 0 (upd (I 0) 4 v)) J) {o : Nat} (h0 : o ≠ 0) (h1 : o ≠ 17) (h2 : o ≠ 4) : J o = I o := by
  rw [hJ.1 o h1 h2, rS_ne _ _ _ h0]
theorem BB.one {V : VS} {n d r : Nat} {c ham : Int32} {s : Nat} {b : Int32} (h : BB V n d r c ham s b) (hs : s ≤ 128) (hb : b = -1) : brX V n d r c ham s = (31, -1) := by
  rcases h with ⟨-, h⟩ | ⟨t, ht, e, -⟩
  · exact h
  · exact absurd (e.symm.trans hb) (nI_m1 (by omega))
theorem BB.two {V : VS} {n d r : Nat} {c ham : Int32} {s : Nat} {b : Int32} (h : BB V n d r c ham s b) (hb : ¬ b = -1) : brX V n d r c ham s = (hgF (V 6) b d, b) := by
  rcases h with ⟨e, -⟩ | ⟨t, ht, rfl, h⟩
  · exact absurd e hb
  · exact h
set_option maxHeartbeats 4000000 in
set_option maxRecDepth 100000 in
theorem n_bribes {w : WG} {I : SI} {L : SL} {XI : SI} {n d r q p m : Nat} (hm : ML w) (h : RR XI I L n d r q p m) (c a : Int32) : Ok w mX5_bribes [.ref (gA w 0), .int c, .int a] I L (QM (spBribes XI n d r c a)) := by
  obtain ⟨hRX, hRJ, hRF⟩ := id h
  obtain ⟨⟨xn, xn4, xd, xd7, xr, xr9⟩, ⟨xq, xq6⟩, ⟨xp, xp8⟩, ⟨xm, xm150⟩, xA, xH, xD, xP, xT⟩ := id hRX
  obtain ⟨⟨jn, -, jd, -, jB, jK⟩, jr, ja, jq, jp, jm, jH, jN, jP, jT⟩ := RJ_v hRJ
  have hRV : RV (vx XI 1) I n d := hRJ.1
  have hMS := h.ms
  refine Ok.of (by decide) (Nat.le_of_ble_eq_true rfl) (fun X hX => ?_)
  refine g_aload_n hX dX5_bribes_0 rfl rfl ?_
  refine g_iload_n hX dX5_bribes_1 rfl rfl ?_
  refine g_callVp _ hX dX5_bribes_2 k_X5_206 ⟨by decide, by decide⟩ (by decide) hm.k0 rfl rfl (m_isMan hm jn (by omega) _) rfl (Nat.le_of_ble_eq_true rfl) ?_
  refine g_if_eq (tgt := 17) hX dX5_bribes_5 (by decide) (fun c_5 => ?_) (fun c_5 => ?_)
  · refine g_aload_n hX dX5_bribes_17 rfl rfl ?_
    refine g_callV _ hX dX5_bribes_18 k_X5_97 ⟨by decide, by decide⟩ (by decide) hm.k0 rfl rfl (m_bad hm) rfl (Nat.le_of_ble_eq_true rfl) (fun r1 I1 L1 hq => ?_)
    obtain ⟨rfl, rfl, rfl⟩ := hq
    exact g_iret hX dX5_bribes_21 rfl (by rw [spBribes, if_pos (by intro z; first | exact b01_0 c_5 (xn ▸ z.1) | exact b01_0 c_14 z.2)]; exact ⟨rfl, n, d, r, q, p, m, h.bad⟩)
  · refine g_iload_n hX dX5_bribes_8 rfl rfl ?_
    refine g_iconst (v := 0) hX dX5_bribes_9 (by decide) ?_
    refine g_iconst (v := 1) hX dX5_bribes_10 (by decide) ?_
    refine g_callSp _ hX dX5_bribes_11 k_X5_93 ⟨by decide, by decide⟩ rfl (ok_in _ _ _) rfl (Nat.le_of_ble_eq_true rfl) ?_
    refine g_if_ne (tgt := 22) hX dX5_bribes_14 (by decide) (fun c_14 => ?_) (fun c_14 => ?_)
    · obtain ⟨c, hc, rfl⟩ := ix (b01_n c_5) (by omega)
      have hp2 : 2 ^ d ≤ 128 := Nat.pow_le_pow_right (by decide) xd7
      have hp0 : 0 < 2 ^ d := Nat.pow_pos (by decide)
      have loop := loop_up (n := 2 ^ d) (P := fun s => ∀ (J : SI) (v b : Int32), S17 (rS I 0 (upd (I 0) 4 v)) J → BB (vx XI 1) n d r (nI c) (XI 3 c) s b → G X w mX5_bribes J L 33 (lvO [(0, .ref (gA w 0)), (1, .int (nI c)), (2, .int a), (3, .int (XI 1 2)), (4, .int b), (5, .int (nI s))]) []) (fun s hk ih J v b hJ hB => by
        refine g_iload hX dX5_bribes_33 rfl ?_
        refine g_iconst (v := 1) hX dX5_bribes_35 (by decide) ?_
        refine g_aload_n hX dX5_bribes_36 rfl rfl ?_
        refine g_get5I hX 2 dX5_bribes_37 b_fl_X5_78 hm.k0 (by decide) ?_
        rw [hJ.r0 (k := 2) (by decide), jd]
        refine g_ishl hX dX5_bribes_40 ?_
        rw [sh_n d xd7]
        refine g_icmp_ge (tgt := 132) hX dX5_bribes_41 (by decide) (fun c_41 => ?_) (fun c_41 => ?_)
        · refine g_aload_n hX dX5_bribes_132 rfl rfl ?_
          refine g_iload_n hX dX5_bribes_133 rfl rfl ?_
          refine g_put5I hX 4 dX5_bribes_134 b_fl_X5_84 hm.k0 pf5_4 ?_
          refine g_iload hX dX5_bribes_137 rfl ?_
          refine g_iconst (v := -1) hX dX5_bribes_139 (by decide) ?_
          refine g_icmp_eq (tgt := 148) hX dX5_bribes_140 (by decide) (fun c_140 => ?_) (fun c_140 => ?_)
          · refine g_iload hX dX5_bribes_148 rfl ?_
            refine g_goto (tgt := 159) hX dX5_bribes_150 (by decide) ?_
            exact g_iret hX dX5_bribes_159 rfl (by have es : s = 2 ^ d := (by have := nle c_41 (by omega) (by omega); omega); subst es; have hfin : S17 I (rS J 0 (upd (J 0) 4 (XI 1 2))) := (by have := hJ.asl (v2 := XI 1 2); rwa [upd_id ja, rS_self] at this); rw [spBribes, if_neg (fun z => z ⟨⟨nI_pos' (by omega), by rw [xn]; exact nI_lt hc (by omega)⟩, b01_n c_14⟩), nI_clamp (by omega), hB.one (by omega) c_140, if_pos rfl]; exact ⟨vI c_140, n, d, r, q, p, m, h.s17 hfin⟩)
          · refine g_iload_n hX dX5_bribes_143 rfl rfl ?_
            refine g_iconst (v := 1) hX dX5_bribes_144 (by decide) ?_
            refine g_icmp_ne (tgt := 153) hX dX5_bribes_145 (by decide) (fun c_145 => ?_) (fun c_145 => ?_)
            · refine g_aload_n hX dX5_bribes_153 rfl rfl ?_
              refine g_iload hX dX5_bribes_154 rfl ?_
              refine g_callVp _ hX dX5_bribes_156 k_X5_236 ⟨by decide, by decide⟩ (by decide) hm.k0 rfl rfl (m_hungerOf hm (RV.asl hRV (hJ.asl (v2 := XI 1 2))) _) rfl (Nat.le_of_ble_eq_true rfl) ?_
              exact g_iret hX dX5_bribes_159 rfl (by have es : s = 2 ^ d := (by have := nle c_41 (by omega) (by omega); omega); subst es; have hfin : S17 I (rS J 0 (upd (J 0) 4 (XI 1 2))) := (by have := hJ.asl (v2 := XI 1 2); rwa [upd_id ja, rS_self] at this); rw [spBribes, if_neg (fun z => z ⟨⟨nI_pos' (by omega), by rw [xn]; exact nI_lt hc (by omega)⟩, b01_n c_14⟩), nI_clamp (by omega), hB.two c_140, if_neg c_140, if_pos (by obtain ⟨j, h1, rfl⟩ := ix2 (n := 1) rfl (by decide) (b01_n c_14); rcases (show j = 0 ∨ j = 1 by omega) with rfl | rfl; rfl; exact absurd rfl c_145)]; exact ⟨rfl, n, d, r, q, p, m, h.s17 hfin⟩)
            · refine g_iload hX dX5_bribes_148 rfl ?_
              refine g_goto (tgt := 159) hX dX5_bribes_150 (by decide) ?_
              exact g_iret hX dX5_bribes_159 rfl (by have es : s = 2 ^ d := (by have := nle c_41 (by omega) (by omega); omega); subst es; have hfin : S17 I (rS J 0 (upd (J 0) 4 (XI 1 2))) := (by have := hJ.asl (v2 := XI 1 2); rwa [upd_id ja, rS_self] at this); rw [spBribes, if_neg (fun z => z ⟨⟨nI_pos' (by omega), by rw [xn]; exact nI_lt hc (by omega)⟩, b01_n c_14⟩), nI_clamp (by omega), hB.two c_140, if_neg c_140, if_neg (by rw [c_145]; decide)]; exact ⟨rfl, n, d, r, q, p, m, h.s17 hfin⟩)
        · have hlt := nnle c_41 (by omega) (by omega)
          refine g_iload hX dX5_bribes_44 rfl ?_
          refine g_iload_n hX dX5_bribes_46 rfl rfl ?_
          refine g_iand hX dX5_bribes_47 ?_
          refine g_if_ne (tgt := 70) hX dX5_bribes_48 (by decide) (fun c_48 => ?_) (fun c_48 => ?_)
          · refine g_iconst (v := 0) hX dX5_bribes_70 (by decide) ?_
            have hno : ¬ (nI s &&& (vx XI 1) 0 2 = 0 ∧ hgF ((vx XI 1) 6) (nI s) d ≤ XI 3 c ∧ hgF ((vx XI 1) 6) (nI s) d < (brX (vx XI 1) n d r (nI c) (XI 3 c) s).1 ∧ pmF (rndF (vx XI 1) n d r ((vx XI 1) 0 2 ||| nI s) ((vx XI 1) 3)) n = nI c) := fun z => c_48 z.1
            refine g_istore hX dX5_bribes_71 (by decide) ?_
            refine g_iload hX dX5_bribes_73 rfl ?_
            refine g_if_eq (tgt := 126) hX dX5_bribes_75 (by decide) (fun c_75 => ?_) (fun c_75 => ?_)
            · refine g_iinc hX dX5_bribes_126 rfl (d := 1) (by decide) ?_
              refine g_goto (tgt := 33) hX dX5_bribes_129 (by decide) ?_
              exact G.at (ih hlt J v b hJ (hB.mis hno)) ⟨rfl, rfl, rfl, rfl, rfl, vI (nI_1 s), trivial⟩
            · exact absurd rfl c_75
          · refine g_aload_n hX dX5_bribes_51 rfl rfl ?_
            refine g_iload hX dX5_bribes_52 rfl ?_
            refine g_callVp _ hX dX5_bribes_54 k_X5_236 ⟨by decide, by decide⟩ (by decide) hm.k0 rfl rfl (m_hungerOf hm (RV.asl hRV hJ) _) rfl (Nat.le_of_ble_eq_true rfl) ?_
            refine g_aload_n hX dX5_bribes_57 rfl rfl ?_
            refine g_get5R hX 7 dX5_bribes_58 b_fl_X5_16 hm.k0 (by decide) hm.q3 ?_
            refine g_iload_n hX dX5_bribes_61 rfl rfl ?_
            refine g_ialdN hX dX5_bribes_62 hm.k3 (⟨rfl, by omega⟩) (by decide) ?_
            rw [hJ.rn (o := 3) (by decide) (by decide) (by decide), (jH c hc).1]
            refine g_icmp_gt (tgt := 70) hX dX5_bribes_63 (by decide) (fun c_63 => ?_) (fun c_63 => ?_)
            · refine g_iconst (v := 0) hX dX5_bribes_70 (by decide) ?_
              have hno : ¬ (nI s &&& (vx XI 1) 0 2 = 0 ∧ hgF ((vx XI 1) 6) (nI s) d ≤ XI 3 c ∧ hgF ((vx XI 1) 6) (nI s) d < (brX (vx XI 1) n d r (nI c) (XI 3 c) s).1 ∧ pmF (rndF (vx XI 1) n d r ((vx XI 1) 0 2 ||| nI s) ((vx XI 1) 3)) n = nI c) := fun z => absurd z.2.1 (Int32.not_le.mpr c_63)
              refine g_istore hX dX5_bribes_71 (by decide) ?_
              refine g_iload hX dX5_bribes_73 rfl ?_
              refine g_if_eq (tgt := 126) hX dX5_bribes_75 (by decide) (fun c_75 => ?_) (fun c_75 => ?_)
              · refine g_iinc hX dX5_bribes_126 rfl (d := 1) (by decide) ?_
                refine g_goto (tgt := 33) hX dX5_bribes_129 (by decide) ?_
                exact G.at (ih hlt J v b hJ (hB.mis hno)) ⟨rfl, rfl, rfl, rfl, rfl, vI (nI_1 s), trivial⟩
              · exact absurd rfl c_75
            · refine g_iconst (v := 1) hX dX5_bribes_66 (by decide) ?_
              refine g_goto (tgt := 71) hX dX5_bribes_67 (by decide) ?_
              have h1 := c_48
              have h2 := Int32.not_lt.mp c_63
              refine g_istore hX dX5_bribes_71 (by decide) ?_
              refine g_iload hX dX5_bribes_73 rfl ?_
              refine g_if_eq (tgt := 126) hX dX5_bribes_75 (by decide) (fun c_75 => ?_) (fun c_75 => ?_)
              · refine g_iinc hX dX5_bribes_126 rfl (d := 1) (by decide) ?_
                refine g_goto (tgt := 33) hX dX5_bribes_129 (by decide) ?_
                exact absurd c_75 (by decide)
              · refine g_iload hX dX5_bribes_78 rfl ?_
                refine g_iconst (v := -1) hX dX5_bribes_80 (by decide) ?_
                refine g_icmp_eq (tgt := 99) hX dX5_bribes_81 (by decide) (fun c_81 => ?_) (fun c_81 => ?_)
                · refine g_aload_n hX dX5_bribes_99 rfl rfl ?_
                  refine g_iload_n hX dX5_bribes_100 rfl rfl ?_
                  refine g_iload hX dX5_bribes_101 rfl ?_
                  refine g_ior hX dX5_bribes_103 ?_
                  refine g_put5I hX 4 dX5_bribes_104 b_fl_X5_84 hm.k0 pf5_4 ?_
                  refine g_aload_n hX dX5_bribes_107 rfl rfl ?_
                  refine g_iconst (v := 1) hX dX5_bribes_108 (by decide) ?_
                  refine g_iconst (v := 0) hX dX5_bribes_109 (by decide) ?_
                  refine g_callV _ hX dX5_bribes_110 k_X5_233 ⟨by decide, by decide⟩ (by decide) hm.k0 rfl rfl (m_wonIn (m := 1) hm (MS.asl hMS hJ) xr9 (by omega) _) rfl (Nat.le_of_ble_eq_true rfl) (fun r1 J1 L1 hq => ?_)
                  obtain ⟨rfl, rfl, hs⟩ := hq
                  have eW : (if (0 : Int32) = 0 then pmF (ahG (vx XI 1) n d r (XI 1 2 ||| nI s) (vx XI 1 3) 1) n else lvF (ahG (vx XI 1) n d r (XI 1 2 ||| nI s) (vx XI 1 3) 1) n) = pmF (rndF (vx XI 1) n d r (vx XI 1 0 2 ||| nI s) (vx XI 1 3)) n := by rw [if_pos rfl]; rfl
                  rw [eW]
                  refine g_iload_n hX dX5_bribes_113 rfl rfl ?_
                  refine g_icmp_ne (tgt := 122) hX dX5_bribes_114 (by decide) (fun c_114 => ?_) (fun c_114 => ?_)
                  · refine g_iload hX dX5_bribes_122 rfl ?_
                    refine g_istore hX dX5_bribes_124 (by decide) ?_
                    refine g_iinc hX dX5_bribes_126 rfl (d := 1) (by decide) ?_
                    refine g_goto (tgt := 33) hX dX5_bribes_129 (by decide) ?_
                    exact G.at (ih hlt _ _ b (hJ.asl.tr hs) (hB.mis (fun z => c_114 z.2.2.2))) ⟨rfl, rfl, rfl, rfl, rfl, vI (nI_1 s), trivial⟩
                  · refine g_iload hX dX5_bribes_117 rfl ?_
                    refine g_goto (tgt := 124) hX dX5_bribes_119 (by decide) ?_
                    refine g_istore hX dX5_bribes_124 (by decide) ?_
                    refine g_iinc hX dX5_bribes_126 rfl (d := 1) (by decide) ?_
                    refine g_goto (tgt := 33) hX dX5_bribes_129 (by decide) ?_
                    exact G.at (ih hlt _ _ (nI s) (hJ.asl.tr hs) (BB.hit h1 h2 (by rw [hB.one (by omega) c_81]; obtain ⟨x, hx, hx2⟩ := xH c hc; rw [hx] at h2; exact le31 h2 hx2) c_114)) ⟨rfl, rfl, rfl, rfl, rfl, vI (nI_1 s), trivial⟩
                · refine g_aload_n hX dX5_bribes_84 rfl rfl ?_
                  refine g_iload hX dX5_bribes_85 rfl ?_
                  refine g_callVp _ hX dX5_bribes_87 k_X5_236 ⟨by decide, by decide⟩ (by decide) hm.k0 rfl rfl (m_hungerOf hm (RV.asl hRV hJ) _) rfl (Nat.le_of_ble_eq_true rfl) ?_
                  refine g_aload_n hX dX5_bribes_90 rfl rfl ?_
                  refine g_iload hX dX5_bribes_91 rfl ?_
                  refine g_callVp _ hX dX5_bribes_93 k_X5_236 ⟨by decide, by decide⟩ (by decide) hm.k0 rfl rfl (m_hungerOf hm (RV.asl hRV hJ) _) rfl (Nat.le_of_ble_eq_true rfl) ?_
                  refine g_icmp_ge (tgt := 126) hX dX5_bribes_96 (by decide) (fun c_96 => ?_) (fun c_96 => ?_)
                  · refine g_iinc hX dX5_bribes_126 rfl (d := 1) (by decide) ?_
                    refine g_goto (tgt := 33) hX dX5_bribes_129 (by decide) ?_
                    exact G.at (ih hlt J v b hJ (hB.mis (fun z => absurd z.2.2.1 (by rw [hB.two c_81]; exact Int32.not_lt.mpr c_96)))) ⟨rfl, rfl, rfl, rfl, rfl, vI (nI_1 s), trivial⟩
                  · refine g_aload_n hX dX5_bribes_99 rfl rfl ?_
                    refine g_iload_n hX dX5_bribes_100 rfl rfl ?_
                    refine g_iload hX dX5_bribes_101 rfl ?_
                    refine g_ior hX dX5_bribes_103 ?_
                    refine g_put5I hX 4 dX5_bribes_104 b_fl_X5_84 hm.k0 pf5_4 ?_
                    refine g_aload_n hX dX5_bribes_107 rfl rfl ?_
                    refine g_iconst (v := 1) hX dX5_bribes_108 (by decide) ?_
                    refine g_iconst (v := 0) hX dX5_bribes_109 (by decide) ?_
                    refine g_callV _ hX dX5_bribes_110 k_X5_233 ⟨by decide, by decide⟩ (by decide) hm.k0 rfl rfl (m_wonIn (m := 1) hm (MS.asl hMS hJ) xr9 (by omega) _) rfl (Nat.le_of_ble_eq_true rfl) (fun r1 J1 L1 hq => ?_)
                    obtain ⟨rfl, rfl, hs⟩ := hq
                    have eW : (if (0 : Int32) = 0 then pmF (ahG (vx XI 1) n d r (XI 1 2 ||| nI s) (vx XI 1 3) 1) n else lvF (ahG (vx XI 1) n d r (XI 1 2 ||| nI s) (vx XI 1 3) 1) n) = pmF (rndF (vx XI 1) n d r (vx XI 1 0 2 ||| nI s) (vx XI 1 3)) n := by rw [if_pos rfl]; rfl
                    rw [eW]
                    refine g_iload_n hX dX5_bribes_113 rfl rfl ?_
                    refine g_icmp_ne (tgt := 122) hX dX5_bribes_114 (by decide) (fun c_114 => ?_) (fun c_114 => ?_)
                    · refine g_iload hX dX5_bribes_122 rfl ?_
                      refine g_istore hX dX5_bribes_124 (by decide) ?_
                      refine g_iinc hX dX5_bribes_126 rfl (d := 1) (by decide) ?_
                      refine g_goto (tgt := 33) hX dX5_bribes_129 (by decide) ?_
                      exact G.at (ih hlt _ _ b (hJ.asl.tr hs) (hB.mis (fun z => c_114 z.2.2.2))) ⟨rfl, rfl, rfl, rfl, rfl, vI (nI_1 s), trivial⟩
                    · refine g_iload hX dX5_bribes_117 rfl ?_
                      refine g_goto (tgt := 124) hX dX5_bribes_119 (by decide) ?_
                      refine g_istore hX dX5_bribes_124 (by decide) ?_
                      refine g_iinc hX dX5_bribes_126 rfl (d := 1) (by decide) ?_
                      refine g_goto (tgt := 33) hX dX5_bribes_129 (by decide) ?_
                      exact G.at (ih hlt _ _ (nI s) (hJ.asl.tr hs) (BB.hit h1 h2 (by rw [hB.two c_81]; exact Int32.not_le.mp c_96) c_114)) ⟨rfl, rfl, rfl, rfl, rfl, vI (nI_1 s), trivial⟩
        )
      refine g_aload_n hX dX5_bribes_22 rfl rfl ?_
      refine g_get5I hX 4 dX5_bribes_23 b_fl_X5_84 hm.k0 (by decide) ?_
      rw [ja]
      refine g_istore_n hX dX5_bribes_26 rfl (by decide) ?_
      refine g_iconst (v := -1) hX dX5_bribes_27 (by decide) ?_
      refine g_istore hX dX5_bribes_28 (by decide) ?_
      refine g_iconst (v := 0) hX dX5_bribes_30 (by decide) ?_
      refine g_istore hX dX5_bribes_31 (by decide) ?_
      exact G.at (loop 0 (Nat.zero_le _) I (I 0 4) (-1) (by rw [upd_id rfl, rS_self]; exact S17.rf) (Or.inl ⟨rfl, rfl⟩)) ⟨rfl, rfl, rfl, rfl, rfl, rfl, trivial⟩
    · refine g_aload_n hX dX5_bribes_17 rfl rfl ?_
      refine g_callV _ hX dX5_bribes_18 k_X5_97 ⟨by decide, by decide⟩ (by decide) hm.k0 rfl rfl (m_bad hm) rfl (Nat.le_of_ble_eq_true rfl) (fun r1 I1 L1 hq => ?_)
      obtain ⟨rfl, rfl, rfl⟩ := hq
      exact g_iret hX dX5_bribes_21 rfl (by rw [spBribes, if_pos (by intro z; first | exact b01_0 c_5 (xn ▸ z.1) | exact b01_0 c_14 z.2)]; exact ⟨rfl, n, d, r, q, p, m, h.bad⟩)
