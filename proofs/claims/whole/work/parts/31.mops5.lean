theorem MS.setS {V : VS} {J : SI} {n d t : Nat} {h : Nat → Int32} {s s2 : Int32} (hS : MS V J n d h s t) : MS V (rS J 0 (upd (J 0) 4 s2)) n d h s2 t := by
  obtain ⟨⟨h1, h2, h3, h4, h5, h6⟩, h7, -, h8⟩ := hS
  refine ⟨⟨?_, h2, ?_, h4, ?_, ?_⟩, ?_, ?_, ?_⟩
  · rw [rS_eq, pk_un (by decide)]; exact h1
  · rw [rS_eq, pk_un (by decide)]; exact h3
  · intro c hc; rw [rS_ne _ _ _ (by decide)]; exact h5 c hc
  · intro k hk; rw [rS_ne _ _ _ (by decide), rS_ne _ _ _ (by decide), rS_ne _ _ _ (by decide), rS_ne _ _ _ (by decide)]; exact h6 k hk
  · rw [rS_eq, pk_un (by decide)]; exact h7
  · rw [rS_eq, pk_us]
  · intro c hc; rw [rS_ne _ _ _ (by decide)]; exact h8 c hc
theorem Fr.setS {I J : SI} {s2 : Int32} (h : Fr I J) : Fr I (rS J 0 (upd (J 0) 4 s2)) := h.tr ⟨fun o a b => rS_ne _ _ _ a, fun k a b => by rw [rS_eq, pk_un b]⟩
set_option maxHeartbeats 4000000 in
set_option maxRecDepth 100000 in
theorem n_villages {w : WG} {I : SI} {L : SL} {XI : SI} {n d r q p m : Nat} (hm : ML w) (h : RR XI I L n d r q p m) (u v : Int32) : Ok w mX5_villages [.ref (gA w 0), .int u, .int v] I L (QM (spVillages XI n d r u v)) := by
  obtain ⟨hRX, hRJ, hRF⟩ := id h
  obtain ⟨⟨xn, xn4, xd, xd7, xr, xr9⟩, ⟨xq, xq6⟩, ⟨xp, xp8⟩, ⟨xm, xm150⟩, xA, xH, xD, xP, xT⟩ := id hRX
  obtain ⟨⟨jn, -, jd, -, jB, jK⟩, jr, ja, jq, jp, jm, jH, jN, jP, jT⟩ := RJ_v hRJ
  have hRV : RV (vx XI 1) I n d := hRJ.1
  have hMS := h.ms
  refine Ok.of (by decide) (Nat.le_of_ble_eq_true rfl) (fun X hX => ?_)
  refine g_iload_n hX dX5_villages_0 rfl rfl ?_
  refine g_iconst (v := 0) hX dX5_villages_1 (by decide) ?_
  refine g_ldcw (v := 999999) hX dX5_villages_2 b_ct_X5_265 ?_
  refine g_callSp _ hX dX5_villages_5 k_X5_93 ⟨by decide, by decide⟩ rfl (ok_in _ _ _) rfl (Nat.le_of_ble_eq_true rfl) ?_
  refine g_if_eq (tgt := 21) hX dX5_villages_8 (by decide) (fun c_8 => ?_) (fun c_8 => ?_)
  · refine g_aload_n hX dX5_villages_21 rfl rfl ?_
    refine g_callV _ hX dX5_villages_22 k_X5_97 ⟨by decide, by decide⟩ (by decide) hm.k0 rfl rfl (m_bad hm) rfl (Nat.le_of_ble_eq_true rfl) (fun r1 I1 L1 hq => ?_)
    obtain ⟨rfl, rfl, rfl⟩ := hq
    exact g_iret hX dX5_villages_25 rfl (by rw [spVillages, if_pos (by intro z; first | exact b01_0 c_8 z.1 | exact b01_0 c_18 z.2)]; exact ⟨rfl, n, d, r, q, p, m, h.bad⟩)
  · refine g_iload_n hX dX5_villages_11 rfl rfl ?_
    refine g_iconst (v := 0) hX dX5_villages_12 (by decide) ?_
    refine g_bipush (v := 60) hX dX5_villages_13 (by decide) ?_
    refine g_callSp _ hX dX5_villages_15 k_X5_93 ⟨by decide, by decide⟩ rfl (ok_in _ _ _) rfl (Nat.le_of_ble_eq_true rfl) ?_
    refine g_if_ne (tgt := 26) hX dX5_villages_18 (by decide) (fun c_18 => ?_) (fun c_18 => ?_)
    · obtain ⟨v, hv, rfl⟩ := ix2 (n := 60) rfl (by decide) (b01_n c_18)
      have loop := loop_up (n := v) (P := fun i => ∀ J : SI, MS (vx XI 1) J n d (vhX (vx XI 1) n d r u.toInt64 i) (if i = 0 then XI 1 2 else 0) (r + i) → Fr (rS I 17 (layC I 0 4 (I 17))) J → G X w mX5_villages J L 36 (lvO [(0, .ref (gA w 0)), (2, .int (nI v)), (3, .long (vlX u.toInt64 i)), (5, .int (nI i))]) []) (fun i hiv ih J hs hf => by
        refine g_iload hX dX5_villages_36 rfl ?_
        refine g_iload_n hX dX5_villages_38 rfl rfl ?_
        refine g_icmp_ge (tgt := 85) hX dX5_villages_39 (by decide) (fun c_39 => ?_) (fun c_39 => ?_)
        · refine g_aload_n hX dX5_villages_85 rfl rfl ?_
          refine g_callVp _ hX dX5_villages_86 k_X5_221 ⟨by decide, by decide⟩ (by decide) hm.k0 rfl rfl (m_postman hm hs.1.1 hs.1.2.1) rfl (Nat.le_of_ble_eq_true rfl) ?_
          refine g_istore hX dX5_villages_89 (by decide) ?_
          refine g_aload_n hX dX5_villages_91 rfl rfl ?_
          refine g_callV _ hX dX5_villages_92 k_X5_227 ⟨by decide, by decide⟩ (by decide) hm.k0 rfl rfl (m_back hm) rfl (Nat.le_of_ble_eq_true rfl) (fun r1 I1 L1 hq => ?_)
          obtain ⟨rfl, rfl, rfl⟩ := hq
          refine g_iload hX dX5_villages_95 rfl ?_
          exact g_iret hX dX5_villages_97 rfl (by rw [show i = v from Nat.le_antisymm hiv (nle c_39 (by omega) (by omega))] at hs; rw [spVillages, if_neg (fun z => z ⟨b01_n c_8, b01_n c_18⟩), nI_clamp (by omega)]; exact ⟨vI (pmF_congr n (by omega) (fun c hc => hs.2.2.2 c hc)), n, d, r, q, p, m, h.s17 (back_lem hf)⟩)
        · have hlt := nnle c_39 (by omega) (by omega)
          refine g_lload_n hX dX5_villages_42 rfl rfl ?_
          refine g_ldc2 (v := 1103515245) hX dX5_villages_43 b_ct_X5_266 ?_
          refine g_lmul hX dX5_villages_46 ?_
          refine g_ldc2 (v := 12345) hX dX5_villages_47 b_ct_X5_268 ?_
          refine g_ladd hX dX5_villages_50 ?_
          refine g_ldc2 (v := 2147483648) hX dX5_villages_51 b_ct_X5_270 ?_
          refine g_lrem hX dX5_villages_54 (by decide) ?_
          refine g_lstore_n hX dX5_villages_55 rfl (by decide) ?_
          refine g_aload_n hX dX5_villages_56 rfl rfl ?_
          refine g_dup hX dX5_villages_57 rfl ?_
          refine g_get5I hX 4 dX5_villages_58 b_fl_X5_84 hm.k0 (by decide) ?_
          rw [hs.2.2.1]
          refine g_lload_n hX dX5_villages_61 rfl rfl ?_
          refine g_ldc2 (v := 65536) hX dX5_villages_62 b_ct_X5_272 ?_
          refine g_ldiv hX dX5_villages_65 (by decide) ?_
          refine g_ldc2 (v := 128) hX dX5_villages_66 b_ct_X5_274 ?_
          refine g_lrem hX dX5_villages_69 (by decide) ?_
          refine g_l2i hX dX5_villages_70 ?_
          refine g_ior hX dX5_villages_71 ?_
          refine g_put5I hX 4 dX5_villages_72 b_fl_X5_84 hm.k0 pf5_4 ?_
          refine g_aload_n hX dX5_villages_75 rfl rfl ?_
          refine g_callV _ hX dX5_villages_76 k_X5_218 ⟨by decide, by decide⟩ (by decide) hm.k0 rfl rfl (m_pass hm hs.setS (by omega)) rfl (Nat.le_of_ble_eq_true rfl) (fun r1 J1 L1 hq => ?_)
          obtain ⟨rfl, rfl, hs1, hf1⟩ := hq
          refine g_iinc hX dX5_villages_79 rfl (d := 1) (by decide) ?_
          refine g_goto (tgt := 36) hX dX5_villages_82 (by decide) ?_
          exact G.at (ih hlt J1 hs1 ((hf.setS).tr hf1)) ⟨rfl, rfl, vL rfl, vI (nI_1 i), trivial⟩
        )
      refine g_aload_n hX dX5_villages_26 rfl rfl ?_
      refine g_callV _ hX dX5_villages_27 k_X5_224 ⟨by decide, by decide⟩ (by decide) hm.k0 rfl rfl (m_puts hm) rfl (Nat.le_of_ble_eq_true rfl) (fun r1 I1 L1 hq => ?_)
      obtain ⟨rfl, rfl, rfl⟩ := hq
      refine g_iload_n hX dX5_villages_30 rfl rfl ?_
      refine g_i2l hX dX5_villages_31 ?_
      refine g_lstore_n hX dX5_villages_32 rfl (by decide) ?_
      refine g_iconst (v := 0) hX dX5_villages_33 (by decide) ?_
      refine g_istore hX dX5_villages_34 (by decide) ?_
      exact G.at (loop 0 (Nat.zero_le _) _ hMS.p17 Fr.rf) ⟨rfl, rfl, rfl, rfl, trivial⟩
    · refine g_aload_n hX dX5_villages_21 rfl rfl ?_
      refine g_callV _ hX dX5_villages_22 k_X5_97 ⟨by decide, by decide⟩ (by decide) hm.k0 rfl rfl (m_bad hm) rfl (Nat.le_of_ble_eq_true rfl) (fun r1 I1 L1 hq => ?_)
      obtain ⟨rfl, rfl, rfl⟩ := hq
      exact g_iret hX dX5_villages_25 rfl (by rw [spVillages, if_pos (by intro z; first | exact b01_0 c_8 z.1 | exact b01_0 c_18 z.2)]; exact ⟨rfl, n, d, r, q, p, m, h.bad⟩)
set_option maxHeartbeats 4000000 in
set_option maxRecDepth 100000 in
theorem n_part {w : WG} {I : SI} {L : SL} {XI : SI} {n d r q p m : Nat} (hm : ML w) (h : RR XI I L n d r q p m) (a : Int32) : Ok w mX5_part [.ref (gA w 0), .int a] I L (QM (spPart XI a)) := by
  obtain ⟨hRX, hRJ, hRF⟩ := id h
  obtain ⟨⟨xn, xn4, xd, xd7, xr, xr9⟩, ⟨xq, xq6⟩, ⟨xp, xp8⟩, ⟨xm, xm150⟩, xA, xH, xD, xP, xT⟩ := id hRX
  obtain ⟨⟨jn, -, jd, -, jB, jK⟩, jr, ja, jq, jp, jm, jH, jN, jP, jT⟩ := RJ_v hRJ
  have hRV : RV (vx XI 1) I n d := hRJ.1
  have hMS := h.ms
  refine Ok.of (by decide) (Nat.le_of_ble_eq_true rfl) (fun X hX => ?_)
  refine g_iload_n hX dX5_part_0 rfl rfl ?_
  refine g_if_ne (tgt := 11) hX dX5_part_1 (by decide) (fun c_1 => ?_) (fun c_1 => ?_)
  · refine g_iload_n hX dX5_part_11 rfl rfl ?_
    refine g_iconst (v := 1) hX dX5_part_12 (by decide) ?_
    refine g_icmp_ne (tgt := 23) hX dX5_part_13 (by decide) (fun c_13 => ?_) (fun c_13 => ?_)
    · refine g_aload_n hX dX5_part_23 rfl rfl ?_
      refine g_callV _ hX dX5_part_24 k_X5_97 ⟨by decide, by decide⟩ (by decide) hm.k0 rfl rfl (m_bad hm) rfl (Nat.le_of_ble_eq_true rfl) (fun r1 I1 L1 hq => ?_)
      obtain ⟨rfl, rfl, rfl⟩ := hq
      refine g_i2l hX dX5_part_27 ?_
      exact g_lret hX dX5_part_28 rfl (by rw [spPart, if_neg c_1, if_neg c_13]; exact ⟨vL (by decide), n, d, r, q, p, m, h.bad⟩)
    · refine g_aload_n hX dX5_part_16 rfl rfl ?_
      refine g_get5L hX 30 dX5_part_17 b_fl_X5_61 hm.k0 (by decide) ?_
      refine g_goto (tgt := 28) hX dX5_part_20 (by decide) ?_
      exact g_lret hX dX5_part_28 rfl (by rw [spPart, if_neg c_1, if_pos c_13]; exact ⟨vL hRF.2.2.2.2.1, n, d, r, q, p, m, h⟩)
  · refine g_aload_n hX dX5_part_4 rfl rfl ?_
    refine g_get5L hX 29 dX5_part_5 b_fl_X5_256 hm.k0 (by decide) ?_
    refine g_goto (tgt := 28) hX dX5_part_8 (by decide) ?_
    exact g_lret hX dX5_part_28 rfl (by rw [spPart, if_pos c_1]; exact ⟨vL hRF.2.2.2.1, n, d, r, q, p, m, h⟩)
set_option maxHeartbeats 4000000 in
set_option maxRecDepth 100000 in
theorem n_status {w : WG} {I : SI} {L : SL} {XI : SI} {n d r q p m : Nat} (hm : ML w) (h : RR XI I L n d r q p m) (a : Int32) : Ok w mX5_status [.ref (gA w 0), .int a] I L (QM (spStatus XI a)) := by
  obtain ⟨hRX, hRJ, hRF⟩ := id h
  obtain ⟨⟨xn, xn4, xd, xd7, xr, xr9⟩, ⟨xq, xq6⟩, ⟨xp, xp8⟩, ⟨xm, xm150⟩, xA, xH, xD, xP, xT⟩ := id hRX
  obtain ⟨⟨jn, -, jd, -, jB, jK⟩, jr, ja, jq, jp, jm, jH, jN, jP, jT⟩ := RJ_v hRJ
  have hRV : RV (vx XI 1) I n d := hRJ.1
  have hMS := h.ms
  refine Ok.of (by decide) (Nat.le_of_ble_eq_true rfl) (fun X hX => ?_)
  refine g_iload_n hX dX5_status_0 rfl rfl ?_
  refine g_iconst (v := 0) hX dX5_status_1 (by decide) ?_
  refine g_iconst (v := 2) hX dX5_status_2 (by decide) ?_
  refine g_callSp _ hX dX5_status_3 k_X5_93 ⟨by decide, by decide⟩ rfl (ok_in _ _ _) rfl (Nat.le_of_ble_eq_true rfl) ?_
  refine g_if_ne (tgt := 21) hX dX5_status_6 (by decide) (fun c_6 => ?_) (fun c_6 => ?_)
  · obtain ⟨a, ha, rfl⟩ := ix2 (n := 2) rfl (by decide) (b01_n c_6)
    refine g_aload_n hX dX5_status_21 rfl rfl ?_
    refine g_get5R hX 0 dX5_status_22 b_fl_X5_1 hm.k0 (by decide) hm.q1 ?_
    refine g_iload_n hX dX5_status_25 rfl rfl ?_
    refine g_ialdN hX dX5_status_26 hm.k1 (⟨rfl, by omega⟩) (by decide) ?_
    exact g_iret hX dX5_status_27 rfl (by rcases (show a = 0 ∨ a = 1 ∨ a = 2 by omega) with rfl | rfl | rfl; exact ⟨vI hRF.1, n, d, r, q, p, m, h⟩; exact ⟨vI hRF.2.1, n, d, r, q, p, m, h⟩; exact ⟨vI hRF.2.2.1, n, d, r, q, p, m, h⟩)
  · refine g_aload_n hX dX5_status_9 rfl rfl ?_
    refine g_get5R hX 0 dX5_status_10 b_fl_X5_1 hm.k0 (by decide) hm.q1 ?_
    refine g_iconst (v := 0) hX dX5_status_13 (by decide) ?_
    refine g_dup2 hX dX5_status_14 rfl rfl ?_
    refine g_ialdN hX dX5_status_15 hm.k1 (⟨(rfl : (0 : Int32) = nI 0), by decide⟩) (by decide) ?_
    refine g_iconst (v := 1) hX dX5_status_16 (by decide) ?_
    refine g_iadd hX dX5_status_17 ?_
    refine g_iastN hX dX5_status_18 hm.k1 (⟨(rfl : (0 : Int32) = nI 0), by decide⟩) (by decide) ?_
    refine g_iconst (v := -1) hX dX5_status_19 (by decide) ?_
    exact g_iret hX dX5_status_20 rfl (by rw [spStatus, if_neg (fun e => b01_0 c_6 (by rw [e]; decide)), if_neg (fun e => b01_0 c_6 (by rw [e]; decide)), if_neg (fun e => b01_0 c_6 (by rw [e]; decide))]; exact ⟨rfl, n, d, r, q, p, m, h.bad⟩)
def bsF (s : Int32) : Nat → Int32
  | 0 => 0
  | k + 1 => bsF s k + ((s >>> (nI k &&& 31)) &&& 1)
theorem bsF_bc : ∀ s, s < 128 → bsF (nI s) 7 = bcF (nI s) := by decide +kernel
set_option maxHeartbeats 4000000 in
set_option maxRecDepth 100000 in
theorem m_bits {w : WG} {I : SI} {L : SL} (s : Int32) : Ok w mX5_bits [.int s] I L (Pr (.int (bsF s 7)) I L) := by
  refine Ok.of (by decide) (Nat.le_of_ble_eq_true rfl) (fun X hX => ?_)
  have loop := loop_up (n := 7) (P := fun k => G X w mX5_bits I L 4 (lvO [(0, .int s), (1, .int (bsF s k)), (2, .int (nI k))]) []) (fun k hk ih => by
    refine g_iload_n hX dX5_bits_4 rfl rfl ?_
    refine g_bipush (v := 7) hX dX5_bits_5 (by decide) ?_
    rw [show (7 : Int32) = nI 7 from rfl]
    refine g_icmp_ge (tgt := 24) hX dX5_bits_7 (by decide) (fun c_7 => ?_) (fun c_7 => ?_)
    · refine g_iload_n hX dX5_bits_24 rfl rfl ?_
      exact g_iret hX dX5_bits_25 rfl (⟨by rw [show k = 7 from Nat.le_antisymm hk (nle c_7 (by decide) (by omega))], rfl, rfl⟩)
    · have hlt := nnle c_7 (by decide) (by omega)
      refine g_iload_n hX dX5_bits_10 rfl rfl ?_
      refine g_iload_n hX dX5_bits_11 rfl rfl ?_
      refine g_iload_n hX dX5_bits_12 rfl rfl ?_
      refine g_ishr hX dX5_bits_13 ?_
      refine g_iconst (v := 1) hX dX5_bits_14 (by decide) ?_
      refine g_iand hX dX5_bits_15 ?_
      refine g_iadd hX dX5_bits_16 ?_
      refine g_istore_n hX dX5_bits_17 rfl (by decide) ?_
      refine g_iinc hX dX5_bits_18 rfl (d := 1) (by decide) ?_
      refine g_goto (tgt := 4) hX dX5_bits_21 (by decide) ?_
      exact G.at (ih hlt) ⟨rfl, rfl, vI (nI_1 k), trivial⟩
    )
  refine g_iconst (v := 0) hX dX5_bits_0 (by decide) ?_
  refine g_istore_n hX dX5_bits_1 rfl (by decide) ?_
  refine g_iconst (v := 0) hX dX5_bits_2 (by decide) ?_
  refine g_istore_n hX dX5_bits_3 rfl (by decide) ?_
  exact G.at (loop 0 (Nat.zero_le _)) ⟨rfl, rfl, rfl, trivial⟩
set_option maxHeartbeats 4000000 in
set_option maxRecDepth 100000 in
theorem m_countOf {w : WG} {I : SI} {L : SL} {XI : SI} {n d r q p m : Nat} (hm : ML w) (hRX : RX XI n d r q p m) (hRJ : RJ XI I n d r q p m) (a : Int32) : Ok w mX5_countOf [.ref (gA w 0), .int a] I L (Pr (.int (cnX XI a)) I L) := by
  obtain ⟨⟨xn, xn4, xd, xd7, xr, xr9⟩, ⟨xq, xq6⟩, ⟨xp, xp8⟩, ⟨xm, xm150⟩, ⟨xs, xs1, xs2⟩, xH, xD, xP, xT⟩ := id hRX
  obtain ⟨⟨jn, -, jd, -, jB, jK⟩, jr, ja, jq, jp, jm, jH, jN, jP, jT⟩ := RJ_v hRJ
  refine Ok.of (by decide) (Nat.le_of_ble_eq_true rfl) (fun X hX => ?_)
  refine g_iload_n hX dX5_countOf_0 rfl rfl ?_
  by_cases s_1_0 : a = 0
  · refine g_tabIn (tgt := 40) hX dX5_countOf_1 (by rw [s_1_0]; decide) (by rw [s_1_0]; decide) (by rw [s_1_0]; rfl) (by decide) ?_
    refine g_aload_n hX dX5_countOf_40 rfl rfl ?_
    refine g_get5I hX 1 dX5_countOf_41 b_fl_X5_74 hm.k0 (by decide) ?_
    exact g_iret hX dX5_countOf_44 rfl (⟨vI (by rw [cnX, if_pos s_1_0]; exact jn.trans xn.symm), rfl, rfl⟩)
  by_cases s_1_1 : a = 1
  · refine g_tabIn (tgt := 45) hX dX5_countOf_1 (by rw [s_1_1]; decide) (by rw [s_1_1]; decide) (by rw [s_1_1]; rfl) (by decide) ?_
    refine g_aload_n hX dX5_countOf_45 rfl rfl ?_
    refine g_get5I hX 2 dX5_countOf_46 b_fl_X5_78 hm.k0 (by decide) ?_
    exact g_iret hX dX5_countOf_49 rfl (⟨vI (by rw [cnX, if_neg s_1_0, if_pos s_1_1]; exact jd.trans xd.symm), rfl, rfl⟩)
  by_cases s_1_2 : a = 2
  · refine g_tabIn (tgt := 50) hX dX5_countOf_1 (by rw [s_1_2]; decide) (by rw [s_1_2]; decide) (by rw [s_1_2]; rfl) (by decide) ?_
    refine g_aload_n hX dX5_countOf_50 rfl rfl ?_
    refine g_get5I hX 3 dX5_countOf_51 b_fl_X5_81 hm.k0 (by decide) ?_
    exact g_iret hX dX5_countOf_54 rfl (⟨vI (by rw [cnX, if_neg s_1_0, if_neg s_1_1, if_pos s_1_2]; exact jr.trans xr.symm), rfl, rfl⟩)
  by_cases s_1_3 : a = 3
  · refine g_tabIn (tgt := 55) hX dX5_countOf_1 (by rw [s_1_3]; decide) (by rw [s_1_3]; decide) (by rw [s_1_3]; rfl) (by decide) ?_
    refine g_aload_n hX dX5_countOf_55 rfl rfl ?_
    refine g_get5I hX 4 dX5_countOf_56 b_fl_X5_84 hm.k0 (by decide) ?_
    refine g_callSp _ hX dX5_countOf_59 k_X5_276 ⟨by decide, by decide⟩ rfl (m_bits _) rfl (Nat.le_of_ble_eq_true rfl) ?_
    exact g_iret hX dX5_countOf_62 rfl (⟨vI (by rw [cnX, if_neg s_1_0, if_neg s_1_1, if_neg s_1_2, if_pos s_1_3]; rw [ja, xs1, bsF_bc xs xs2]), rfl, rfl⟩)
  by_cases s_1_4 : a = 4
  · refine g_tabIn (tgt := 63) hX dX5_countOf_1 (by rw [s_1_4]; decide) (by rw [s_1_4]; decide) (by rw [s_1_4]; rfl) (by decide) ?_
    refine g_aload_n hX dX5_countOf_63 rfl rfl ?_
    refine g_get5I hX 5 dX5_countOf_64 b_fl_X5_87 hm.k0 (by decide) ?_
    exact g_iret hX dX5_countOf_67 rfl (⟨vI (by rw [cnX, if_neg s_1_0, if_neg s_1_1, if_neg s_1_2, if_neg s_1_3, if_pos s_1_4]; exact jq.trans xq.symm), rfl, rfl⟩)
  by_cases s_1_5 : a = 5
  · refine g_tabIn (tgt := 68) hX dX5_countOf_1 (by rw [s_1_5]; decide) (by rw [s_1_5]; decide) (by rw [s_1_5]; rfl) (by decide) ?_
    refine g_aload_n hX dX5_countOf_68 rfl rfl ?_
    refine g_get5I hX 27 dX5_countOf_69 b_fl_X5_90 hm.k0 (by decide) ?_
    exact g_iret hX dX5_countOf_72 rfl (⟨vI (by rw [cnX, if_neg s_1_0, if_neg s_1_1, if_neg s_1_2, if_neg s_1_3, if_neg s_1_4, if_pos s_1_5]; exact jp.trans xp.symm), rfl, rfl⟩)
  refine g_tabOut (tgt := 73) hX dX5_countOf_1 (tab_out (fun j h1 h2 => by rcases (show j = 0 ∨ j = 1 ∨ j = 2 ∨ j = 3 ∨ j = 4 ∨ j = 5 by omega) with rfl | rfl | rfl | rfl | rfl | rfl <;> assumption)) (by decide) ?_
  refine g_aload_n hX dX5_countOf_73 rfl rfl ?_
  refine g_get5I hX 18 dX5_countOf_74 b_fl_X5_112 hm.k0 (by decide) ?_
  exact g_iret hX dX5_countOf_77 rfl (⟨vI (by rw [cnX, if_neg s_1_0, if_neg s_1_1, if_neg s_1_2, if_neg s_1_3, if_neg s_1_4, if_neg s_1_5]; exact jm.trans xm.symm), rfl, rfl⟩)
set_option maxHeartbeats 4000000 in
set_option maxRecDepth 100000 in
theorem n_count {w : WG} {I : SI} {L : SL} {XI : SI} {n d r q p m : Nat} (hm : ML w) (h : RR XI I L n d r q p m) (a : Int32) : Ok w mX5_count [.ref (gA w 0), .int a] I L (QM (spCount XI a)) := by
  obtain ⟨hRX, hRJ, hRF⟩ := id h
  obtain ⟨⟨xn, xn4, xd, xd7, xr, xr9⟩, ⟨xq, xq6⟩, ⟨xp, xp8⟩, ⟨xm, xm150⟩, xA, xH, xD, xP, xT⟩ := id hRX
  obtain ⟨⟨jn, -, jd, -, jB, jK⟩, jr, ja, jq, jp, jm, jH, jN, jP, jT⟩ := RJ_v hRJ
  have hRV : RV (vx XI 1) I n d := hRJ.1
  have hMS := h.ms
  refine Ok.of (by decide) (Nat.le_of_ble_eq_true rfl) (fun X hX => ?_)
  refine g_iload_n hX dX5_count_0 rfl rfl ?_
  refine g_iconst (v := 0) hX dX5_count_1 (by decide) ?_
  refine g_bipush (v := 6) hX dX5_count_2 (by decide) ?_
  refine g_callSp _ hX dX5_count_4 k_X5_93 ⟨by decide, by decide⟩ rfl (ok_in _ _ _) rfl (Nat.le_of_ble_eq_true rfl) ?_
  refine g_if_eq (tgt := 18) hX dX5_count_7 (by decide) (fun c_7 => ?_) (fun c_7 => ?_)
  · refine g_aload_n hX dX5_count_18 rfl rfl ?_
    refine g_callV _ hX dX5_count_19 k_X5_97 ⟨by decide, by decide⟩ (by decide) hm.k0 rfl rfl (m_bad hm) rfl (Nat.le_of_ble_eq_true rfl) (fun r1 I1 L1 hq => ?_)
    obtain ⟨rfl, rfl, rfl⟩ := hq
    exact g_iret hX dX5_count_22 rfl (by rw [spCount, if_pos (b01_0 c_7)]; exact ⟨rfl, n, d, r, q, p, m, h.bad⟩)
  · refine g_aload_n hX dX5_count_10 rfl rfl ?_
    refine g_iload_n hX dX5_count_11 rfl rfl ?_
    refine g_callVp _ hX dX5_count_12 k_X5_279 ⟨by decide, by decide⟩ (by decide) hm.k0 rfl rfl (m_countOf hm hRX hRJ _) rfl (Nat.le_of_ble_eq_true rfl) ?_
    refine g_goto (tgt := 22) hX dX5_count_15 (by decide) ?_
    exact g_iret hX dX5_count_22 rfl (by rw [spCount, if_neg (fun z => z (b01_n c_7))]; exact ⟨rfl, n, d, r, q, p, m, h⟩)
def LH (L : SL) (v : Int64) : SL := rS L 0 (vp_updL (L 0) 33 v)
theorem LH_33 {L : SL} {v : Int64} : LH L v 0 33 = v := by unfold LH; rw [rS_eq]; unfold vp_updL; rw [if_pos rfl]
theorem LH_LH {L : SL} {v x : Int64} : rS (LH L v) 0 (vp_updL (LH L v 0) 33 x) = LH L x := by
  unfold LH; rw [rS_rS, rS_eq]; congr 1; funext k; unfold vp_updL; by_cases h : k = 33 <;> simp [h]
theorem LH_ne {L : SL} {v : Int64} {k : Nat} (h : k ≠ 33) : LH L v 0 k = L 0 k := by unfold LH; rw [rS_eq]; unfold vp_updL; rw [if_neg h]
theorem RR.h0 {I J : SI} {L : SL} {n d r q p m : Nat} {v : Int64} (h : RR I J L n d r q p m) : RR I J (LH L v) n d r q p m := by
  obtain ⟨a, b, c1, c2, c3, c4, c5⟩ := h
  exact ⟨a, b, c1, c2, c3, by rw [LH_ne (by decide)]; exact c4, by rw [LH_ne (by decide)]; exact c5⟩
set_option maxHeartbeats 4000000 in
set_option maxRecDepth 100000 in
theorem m_mix {w : WG} {I : SI} {L : SL} (hm : ML w) (v x : Int64) : Ok w mX5_mix [.ref (gA w 0), .long x] I (LH L v) (fun r1 I1 L1 => r1 = none ∧ I1 = I ∧ L1 = LH L (31 * v + x)) := by
  refine Ok.of (by decide) (Nat.le_of_ble_eq_true rfl) (fun X hX => ?_)
  refine g_aload_n hX dX5_mix_0 rfl rfl ?_
  refine g_ldc2 (v := 31) hX dX5_mix_1 b_ct_X5_282 ?_
  refine g_aload_n hX dX5_mix_4 rfl rfl ?_
  refine g_get5L hX 33 dX5_mix_5 b_fl_X5_284 hm.k0 (by decide) ?_
  rw [LH_33]
  refine g_lmul hX dX5_mix_8 ?_
  refine g_lload_n hX dX5_mix_9 rfl rfl ?_
  refine g_ladd hX dX5_mix_10 ?_
  refine g_put5L hX 33 dX5_mix_11 b_fl_X5_284 hm.k0 pf5_33 ?_
  exact g_vret hX dX5_mix_14 rfl (⟨rfl, rfl, LH_LH⟩)
set_option maxHeartbeats 4000000 in
set_option maxRecDepth 100000 in
theorem n_digest {w : WG} {I : SI} {L : SL} {XI : SI} {n d r q p m : Nat} (hm : ML w) (h : RR XI I L n d r q p m)  : Ok w mX5_digest [.ref (gA w 0)] I L (QM (spDigest XI n d q)) := by
  obtain ⟨hRX, hRJ, hRF⟩ := id h
  obtain ⟨⟨xn, xn4, xd, xd7, xr, xr9⟩, ⟨xq, xq6⟩, ⟨xp, xp8⟩, ⟨xm, xm150⟩, xA, xH, xD, xP, xT⟩ := id hRX
  obtain ⟨⟨jn, -, jd, -, jB, jK⟩, jr, ja, jq, jp, jm, jH, jN, jP, jT⟩ := RJ_v hRJ
  have hRV : RV (vx XI 1) I n d := hRJ.1
  have hMS := h.ms
  refine Ok.of (by decide) (Nat.le_of_ble_eq_true rfl) (fun X hX => ?_)
  have loop4 := loop_up (n := q) (P := fun i => G X w mX5_digest I (LH L (dgN (XI 9) (dgD (XI 5) (XI 6) (XI 7) (XI 8) (XI 1 2) (dgM (XI 2) (XI 3) (XI 4) (dgX (cnX XI) 7) n) d) (i * 4))) 155 (lvO [(0, .ref (gA w 0)), (1, .int (nI i))]) []) (fun i hk ih => by
    refine g_iload_n hX dX5_digest_155 rfl rfl ?_
    refine g_aload_n hX dX5_digest_156 rfl rfl ?_
    refine g_get5I hX 5 dX5_digest_157 b_fl_X5_87 hm.k0 (by decide) ?_
    rw [jq]
    refine g_icmp_ge (tgt := 213) hX dX5_digest_160 (by decide) (fun c_160 => ?_) (fun c_160 => ?_)
    · refine g_aload_n hX dX5_digest_213 rfl rfl ?_
      refine g_aload_n hX dX5_digest_214 rfl rfl ?_
      refine g_get5L hX 29 dX5_digest_215 b_fl_X5_256 hm.k0 (by decide) ?_
      rw [LH_ne (by decide), hRF.2.2.2.1]
      refine g_callV _ hX dX5_digest_218 k_X5_289 ⟨by decide, by decide⟩ (by decide) hm.k0 rfl rfl (m_mix hm _ _) rfl (Nat.le_of_ble_eq_true rfl) (fun r1 I1 L1 hq => ?_)
      obtain ⟨rfl, rfl, rfl⟩ := hq
      refine g_aload_n hX dX5_digest_221 rfl rfl ?_
      refine g_aload_n hX dX5_digest_222 rfl rfl ?_
      refine g_get5L hX 30 dX5_digest_223 b_fl_X5_61 hm.k0 (by decide) ?_
      rw [LH_ne (by decide), hRF.2.2.2.2.1]
      refine g_callV _ hX dX5_digest_226 k_X5_289 ⟨by decide, by decide⟩ (by decide) hm.k0 rfl rfl (m_mix hm _ _) rfl (Nat.le_of_ble_eq_true rfl) (fun r1 I1 L1 hq => ?_)
      obtain ⟨rfl, rfl, rfl⟩ := hq
      refine g_aload_n hX dX5_digest_229 rfl rfl ?_
      refine g_get5L hX 33 dX5_digest_230 b_fl_X5_284 hm.k0 (by decide) ?_
      rw [LH_33]
      exact g_lret hX dX5_digest_233 rfl (by have ei : i = q := Nat.le_antisymm hk (nle c_160 (by omega) (by omega)); subst ei; exact ⟨rfl, n, d, r, i, p, m, h.h0⟩)
    · have hlt := nnle c_160 (by omega) (by omega)
      obtain ⟨n1, n2, n3, n4⟩ := jN i hlt
      refine g_aload_n hX dX5_digest_163 rfl rfl ?_
      refine g_aload_n hX dX5_digest_164 rfl rfl ?_
      refine g_get5R hX 13 dX5_digest_165 b_fl_X5_34 hm.k0 (by decide) hm.q9 ?_
      refine g_iload_n hX dX5_digest_168 rfl rfl ?_
      refine g_ialdN hX dX5_digest_169 hm.k9 (⟨rfl, by omega⟩) (by decide) ?_
      rw [n1]
      refine g_i2l hX dX5_digest_170 ?_
      refine g_callV _ hX dX5_digest_171 k_X5_289 ⟨by decide, by decide⟩ (by decide) hm.k0 rfl rfl (m_mix hm _ _) rfl (Nat.le_of_ble_eq_true rfl) (fun r1 I1 L1 hq => ?_)
      obtain ⟨rfl, rfl, rfl⟩ := hq
      refine g_aload_n hX dX5_digest_174 rfl rfl ?_
      refine g_aload_n hX dX5_digest_175 rfl rfl ?_
      refine g_get5R hX 14 dX5_digest_176 b_fl_X5_37 hm.k0 (by decide) hm.q10 ?_
      refine g_iload_n hX dX5_digest_179 rfl rfl ?_
      refine g_ialdN hX dX5_digest_180 hm.k10 (⟨rfl, by omega⟩) (by decide) ?_
      rw [n2]
      refine g_i2l hX dX5_digest_181 ?_
      refine g_callV _ hX dX5_digest_182 k_X5_289 ⟨by decide, by decide⟩ (by decide) hm.k0 rfl rfl (m_mix hm _ _) rfl (Nat.le_of_ble_eq_true rfl) (fun r1 I1 L1 hq => ?_)
      obtain ⟨rfl, rfl, rfl⟩ := hq
      refine g_aload_n hX dX5_digest_185 rfl rfl ?_
      refine g_aload_n hX dX5_digest_186 rfl rfl ?_
      refine g_get5R hX 15 dX5_digest_187 b_fl_X5_40 hm.k0 (by decide) hm.q11 ?_
      refine g_iload_n hX dX5_digest_190 rfl rfl ?_
      refine g_ialdN hX dX5_digest_191 hm.k11 (⟨rfl, by omega⟩) (by decide) ?_
      rw [n3]
      refine g_i2l hX dX5_digest_192 ?_
      refine g_callV _ hX dX5_digest_193 k_X5_289 ⟨by decide, by decide⟩ (by decide) hm.k0 rfl rfl (m_mix hm _ _) rfl (Nat.le_of_ble_eq_true rfl) (fun r1 I1 L1 hq => ?_)
      obtain ⟨rfl, rfl, rfl⟩ := hq
      refine g_aload_n hX dX5_digest_196 rfl rfl ?_
      refine g_aload_n hX dX5_digest_197 rfl rfl ?_
      refine g_get5R hX 16 dX5_digest_198 b_fl_X5_43 hm.k0 (by decide) hm.q12 ?_
      refine g_iload_n hX dX5_digest_201 rfl rfl ?_
      refine g_ialdN hX dX5_digest_202 hm.k12 (⟨rfl, by omega⟩) (by decide) ?_
      rw [n4]
      refine g_i2l hX dX5_digest_203 ?_
      refine g_callV _ hX dX5_digest_204 k_X5_289 ⟨by decide, by decide⟩ (by decide) hm.k0 rfl rfl (m_mix hm _ _) rfl (Nat.le_of_ble_eq_true rfl) (fun r1 I1 L1 hq => ?_)
      obtain ⟨rfl, rfl, rfl⟩ := hq
      refine g_iinc hX dX5_digest_207 rfl (d := 1) (by decide) ?_
      refine g_goto (tgt := 155) hX dX5_digest_210 (by decide) ?_
      have e4 : LH L (dgN (XI 9) (dgD (XI 5) (XI 6) (XI 7) (XI 8) (XI 1 2) (dgM (XI 2) (XI 3) (XI 4) (dgX (cnX XI) 7) n) d) ((i + 1) * 4)) = LH L (31 * (31 * (31 * (31 * (dgN (XI 9) (dgD (XI 5) (XI 6) (XI 7) (XI 8) (XI 1 2) (dgM (XI 2) (XI 3) (XI 4) (dgX (cnX XI) 7) n) d) (i * 4)) + (XI 9 (i * 4)).toInt64) + (XI 9 (i * 4 + 1)).toInt64) + (XI 9 (i * 4 + 2)).toInt64) + (XI 9 (i * 4 + 3)).toInt64) := by rw [show (i + 1) * 4 = i * 4 + 3 + 1 by omega]; rfl
      rw [← e4]
      exact G.at (ih hlt) ⟨rfl, vI (nI_1 i), trivial⟩
    )
  have loop3 := loop_up (n := d) (P := fun k => G X w mX5_digest I (LH L (dgD (XI 5) (XI 6) (XI 7) (XI 8) (XI 1 2) (dgM (XI 2) (XI 3) (XI 4) (dgX (cnX XI) 7) n) k)) 82 (lvO [(0, .ref (gA w 0)), (1, .int (nI k))]) []) (fun k hk ih => by
    refine g_iload_n hX dX5_digest_82 rfl rfl ?_
    refine g_aload_n hX dX5_digest_83 rfl rfl ?_
    refine g_get5I hX 2 dX5_digest_84 b_fl_X5_78 hm.k0 (by decide) ?_
    rw [jd]
    refine g_icmp_ge (tgt := 153) hX dX5_digest_87 (by decide) (fun c_87 => ?_) (fun c_87 => ?_)
    · refine g_iconst (v := 0) hX dX5_digest_153 (by decide) ?_
      refine g_istore_n hX dX5_digest_154 rfl (by decide) ?_
      have ek : k = d := Nat.le_antisymm hk (nle c_87 (by omega) (by omega))
      subst ek
      exact G.at (loop4 0 (Nat.zero_le _)) ⟨rfl, rfl, trivial⟩
    · have hlt := nnle c_87 (by omega) (by omega)
      obtain ⟨k1, k2, k3, k4⟩ := jK k hlt
      refine g_aload_n hX dX5_digest_90 rfl rfl ?_
      refine g_aload_n hX dX5_digest_91 rfl rfl ?_
      refine g_get5R hX 9 dX5_digest_92 b_fl_X5_22 hm.k0 (by decide) hm.q5 ?_
      refine g_iload_n hX dX5_digest_95 rfl rfl ?_
      refine g_ialdN hX dX5_digest_96 hm.k5 (⟨rfl, by omega⟩) (by decide) ?_
      rw [k1]
      refine g_i2l hX dX5_digest_97 ?_
      refine g_callV _ hX dX5_digest_98 k_X5_289 ⟨by decide, by decide⟩ (by decide) hm.k0 rfl rfl (m_mix hm _ _) rfl (Nat.le_of_ble_eq_true rfl) (fun r1 I1 L1 hq => ?_)
      obtain ⟨rfl, rfl, rfl⟩ := hq
      refine g_aload_n hX dX5_digest_101 rfl rfl ?_
      refine g_aload_n hX dX5_digest_102 rfl rfl ?_
      refine g_get5R hX 10 dX5_digest_103 b_fl_X5_25 hm.k0 (by decide) hm.q6 ?_
      refine g_iload_n hX dX5_digest_106 rfl rfl ?_
      refine g_ialdN hX dX5_digest_107 hm.k6 (⟨rfl, by omega⟩) (by decide) ?_
      rw [k2]
      refine g_i2l hX dX5_digest_108 ?_
      refine g_callV _ hX dX5_digest_109 k_X5_289 ⟨by decide, by decide⟩ (by decide) hm.k0 rfl rfl (m_mix hm _ _) rfl (Nat.le_of_ble_eq_true rfl) (fun r1 I1 L1 hq => ?_)
      obtain ⟨rfl, rfl, rfl⟩ := hq
      refine g_aload_n hX dX5_digest_112 rfl rfl ?_
      refine g_aload_n hX dX5_digest_113 rfl rfl ?_
      refine g_get5R hX 11 dX5_digest_114 b_fl_X5_28 hm.k0 (by decide) hm.q7 ?_
      refine g_iload_n hX dX5_digest_117 rfl rfl ?_
      refine g_ialdN hX dX5_digest_118 hm.k7 (⟨rfl, by omega⟩) (by decide) ?_
      rw [k3]
      refine g_i2l hX dX5_digest_119 ?_
      refine g_callV _ hX dX5_digest_120 k_X5_289 ⟨by decide, by decide⟩ (by decide) hm.k0 rfl rfl (m_mix hm _ _) rfl (Nat.le_of_ble_eq_true rfl) (fun r1 I1 L1 hq => ?_)
      obtain ⟨rfl, rfl, rfl⟩ := hq
      refine g_aload_n hX dX5_digest_123 rfl rfl ?_
      refine g_aload_n hX dX5_digest_124 rfl rfl ?_
      refine g_get5R hX 12 dX5_digest_125 b_fl_X5_31 hm.k0 (by decide) hm.q8 ?_
      refine g_iload_n hX dX5_digest_128 rfl rfl ?_
      refine g_ialdN hX dX5_digest_129 hm.k8 (⟨rfl, by omega⟩) (by decide) ?_
      rw [k4]
      refine g_i2l hX dX5_digest_130 ?_
      refine g_callV _ hX dX5_digest_131 k_X5_289 ⟨by decide, by decide⟩ (by decide) hm.k0 rfl rfl (m_mix hm _ _) rfl (Nat.le_of_ble_eq_true rfl) (fun r1 I1 L1 hq => ?_)
      obtain ⟨rfl, rfl, rfl⟩ := hq
      refine g_aload_n hX dX5_digest_134 rfl rfl ?_
      refine g_aload_n hX dX5_digest_135 rfl rfl ?_
      refine g_get5I hX 4 dX5_digest_136 b_fl_X5_84 hm.k0 (by decide) ?_
      refine g_iload_n hX dX5_digest_139 rfl rfl ?_
      refine g_ishr hX dX5_digest_140 ?_
      refine g_iconst (v := 1) hX dX5_digest_141 (by decide) ?_
      refine g_iand hX dX5_digest_142 ?_
      rw [ja, and1_inF]
      refine g_i2l hX dX5_digest_143 ?_
      refine g_callV _ hX dX5_digest_144 k_X5_289 ⟨by decide, by decide⟩ (by decide) hm.k0 rfl rfl (m_mix hm _ _) rfl (Nat.le_of_ble_eq_true rfl) (fun r1 I1 L1 hq => ?_)
      obtain ⟨rfl, rfl, rfl⟩ := hq
      refine g_iinc hX dX5_digest_147 rfl (d := 1) (by decide) ?_
      refine g_goto (tgt := 82) hX dX5_digest_150 (by decide) ?_
      exact G.at (ih hlt) ⟨rfl, vI (nI_1 k), trivial⟩
    )
  have loop2 := loop_up (n := n) (P := fun c => G X w mX5_digest I (LH L (dgM (XI 2) (XI 3) (XI 4) (dgX (cnX XI) 7) c)) 33 (lvO [(0, .ref (gA w 0)), (1, .int (nI c))]) []) (fun c hk ih => by
    refine g_iload_n hX dX5_digest_33 rfl rfl ?_
    refine g_aload_n hX dX5_digest_34 rfl rfl ?_
    refine g_get5I hX 1 dX5_digest_35 b_fl_X5_74 hm.k0 (by decide) ?_
    rw [jn]
    refine g_icmp_ge (tgt := 80) hX dX5_digest_38 (by decide) (fun c_38 => ?_) (fun c_38 => ?_)
    · refine g_iconst (v := 0) hX dX5_digest_80 (by decide) ?_
      refine g_istore_n hX dX5_digest_81 rfl (by decide) ?_
      have ec : c = n := Nat.le_antisymm hk (nle c_38 (by omega) (by omega))
      subst ec
      exact G.at (loop3 0 (Nat.zero_le _)) ⟨rfl, rfl, trivial⟩
    · have hlt := nnle c_38 (by omega) (by omega)
      refine g_aload_n hX dX5_digest_41 rfl rfl ?_
      refine g_aload_n hX dX5_digest_42 rfl rfl ?_
      refine g_get5R hX 6 dX5_digest_43 b_fl_X5_13 hm.k0 (by decide) hm.q2 ?_
      refine g_iload_n hX dX5_digest_46 rfl rfl ?_
      refine g_ialdN hX dX5_digest_47 hm.k2 (⟨rfl, by omega⟩) (by decide) ?_
      rw [jB c hlt]
      refine g_i2l hX dX5_digest_48 ?_
      refine g_callV _ hX dX5_digest_49 k_X5_289 ⟨by decide, by decide⟩ (by decide) hm.k0 rfl rfl (m_mix hm _ _) rfl (Nat.le_of_ble_eq_true rfl) (fun r1 I1 L1 hq => ?_)
      obtain ⟨rfl, rfl, rfl⟩ := hq
      refine g_aload_n hX dX5_digest_52 rfl rfl ?_
      refine g_aload_n hX dX5_digest_53 rfl rfl ?_
      refine g_get5R hX 7 dX5_digest_54 b_fl_X5_16 hm.k0 (by decide) hm.q3 ?_
      refine g_iload_n hX dX5_digest_57 rfl rfl ?_
      refine g_ialdN hX dX5_digest_58 hm.k3 (⟨rfl, by omega⟩) (by decide) ?_
      rw [(jH c hlt).1]
      refine g_i2l hX dX5_digest_59 ?_
      refine g_callV _ hX dX5_digest_60 k_X5_289 ⟨by decide, by decide⟩ (by decide) hm.k0 rfl rfl (m_mix hm _ _) rfl (Nat.le_of_ble_eq_true rfl) (fun r1 I1 L1 hq => ?_)
      obtain ⟨rfl, rfl, rfl⟩ := hq
      refine g_aload_n hX dX5_digest_63 rfl rfl ?_
      refine g_aload_n hX dX5_digest_64 rfl rfl ?_
      refine g_get5R hX 8 dX5_digest_65 b_fl_X5_19 hm.k0 (by decide) hm.q4 ?_
      refine g_iload_n hX dX5_digest_68 rfl rfl ?_
      refine g_ialdN hX dX5_digest_69 hm.k4 (⟨rfl, by omega⟩) (by decide) ?_
      rw [(jH c hlt).2]
      refine g_i2l hX dX5_digest_70 ?_
      refine g_callV _ hX dX5_digest_71 k_X5_289 ⟨by decide, by decide⟩ (by decide) hm.k0 rfl rfl (m_mix hm _ _) rfl (Nat.le_of_ble_eq_true rfl) (fun r1 I1 L1 hq => ?_)
      obtain ⟨rfl, rfl, rfl⟩ := hq
      refine g_iinc hX dX5_digest_74 rfl (d := 1) (by decide) ?_
      refine g_goto (tgt := 33) hX dX5_digest_77 (by decide) ?_
      exact G.at (ih hlt) ⟨rfl, vI (nI_1 c), trivial⟩
    )
  have loop1 := loop_up (n := 7) (P := fun a => G X w mX5_digest I (LH L (dgX (cnX XI) a)) 9 (lvO [(0, .ref (gA w 0)), (1, .int (nI a))]) []) (fun a hk ih => by
    refine g_iload_n hX dX5_digest_9 rfl rfl ?_
    refine g_bipush (v := 6) hX dX5_digest_10 (by decide) ?_
    rw [show (6 : Int32) = nI 6 from rfl]
    refine g_icmp_gt (tgt := 31) hX dX5_digest_12 (by decide) (fun c_12 => ?_) (fun c_12 => ?_)
    · refine g_iconst (v := 0) hX dX5_digest_31 (by decide) ?_
      refine g_istore_n hX dX5_digest_32 rfl (by decide) ?_
      have ea : a = 7 := (by have := nlt c_12 (by decide) (by omega); omega)
      subst ea
      exact G.at (loop2 0 (Nat.zero_le _)) ⟨rfl, rfl, trivial⟩
    · have hlt : a < 7 := by have := Int32.not_lt.mp c_12; have := nle this (by omega) (by decide); omega
      refine g_aload_n hX dX5_digest_15 rfl rfl ?_
      refine g_aload_n hX dX5_digest_16 rfl rfl ?_
      refine g_iload_n hX dX5_digest_17 rfl rfl ?_
      refine g_callVp _ hX dX5_digest_18 k_X5_279 ⟨by decide, by decide⟩ (by decide) hm.k0 rfl rfl (m_countOf hm hRX hRJ _) rfl (Nat.le_of_ble_eq_true rfl) ?_
      refine g_i2l hX dX5_digest_21 ?_
      refine g_callV _ hX dX5_digest_22 k_X5_289 ⟨by decide, by decide⟩ (by decide) hm.k0 rfl rfl (m_mix hm _ _) rfl (Nat.le_of_ble_eq_true rfl) (fun r1 I1 L1 hq => ?_)
      obtain ⟨rfl, rfl, rfl⟩ := hq
      refine g_iinc hX dX5_digest_25 rfl (d := 1) (by decide) ?_
      refine g_goto (tgt := 9) hX dX5_digest_28 (by decide) ?_
      exact G.at (ih hlt) ⟨rfl, vI (nI_1 a), trivial⟩
    )
  refine g_aload_n hX dX5_digest_0 rfl rfl ?_
  refine g_ldc2 (v := 1367) hX dX5_digest_1 b_ct_X5_287 ?_
  refine g_put5L hX 33 dX5_digest_4 b_fl_X5_284 hm.k0 pf5_33 ?_
  refine g_iconst (v := 0) hX dX5_digest_7 (by decide) ?_
  refine g_istore_n hX dX5_digest_8 rfl (by decide) ?_
  exact G.at (loop1 0 (Nat.zero_le _)) ⟨rfl, rfl, trivial⟩
