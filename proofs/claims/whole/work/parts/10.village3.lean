set_option maxHeartbeats 4000000 in
set_option maxRecDepth 100000 in
theorem ok_takeFrom_V {w : WG} {I : SI} {L : SL} {V S : VS} {v u : Nat} (hV : VL w v) (hU : VL w u) (hS0 : ∀ V : VS, wV I v V u = S 0) (hS : ∀ (V : VS) (j : Nat), j < 10 → wV I v V (u + j) = S j) : Ok w mX3_takeFrom [.ref (gA w v), .ref (gA w u)] (wV I v V) L (Vd I v (takeR S V) L none) := by
  refine Ok.of (by decide) (Nat.le_of_ble_eq_true rfl) (fun X hX => ?_)
  refine g_aload_n hX dX3_takeFrom_0 rfl rfl ?_
  refine g_aload_n hX dX3_takeFrom_1 rfl rfl ?_
  refine g_get3I hX 0 dX3_takeFrom_2 b_fl_X3_39 hU.k0 (by decide) ?_
  try simp (disch := decide) only [wV_0, wV_at, wV_rS, wV_rS0, rS_eq, rS_ne, rS_rS, pk_us, pk_un, hS0, hS]
  refine g_put3I hX 0 dX3_takeFrom_5 b_fl_X3_39 hV.k0 pf3_0 ?_
  try simp (disch := decide) only [wV_0, wV_at, wV_rS, wV_rS0, rS_eq, rS_ne, rS_rS, pk_us, pk_un, hS0, hS]
  refine g_aload_n hX dX3_takeFrom_8 rfl rfl ?_
  refine g_aload_n hX dX3_takeFrom_9 rfl rfl ?_
  refine g_get3I hX 1 dX3_takeFrom_10 b_fl_X3_43 hU.k0 (by decide) ?_
  try simp (disch := decide) only [wV_0, wV_at, wV_rS, wV_rS0, rS_eq, rS_ne, rS_rS, pk_us, pk_un, hS0, hS]
  refine g_put3I hX 1 dX3_takeFrom_13 b_fl_X3_43 hV.k0 pf3_1 ?_
  try simp (disch := decide) only [wV_0, wV_at, wV_rS, wV_rS0, rS_eq, rS_ne, rS_rS, pk_us, pk_un, hS0, hS]
  refine g_aload_n hX dX3_takeFrom_16 rfl rfl ?_
  refine g_aload_n hX dX3_takeFrom_17 rfl rfl ?_
  refine g_get3I hX 2 dX3_takeFrom_18 b_fl_X3_46 hU.k0 (by decide) ?_
  try simp (disch := decide) only [wV_0, wV_at, wV_rS, wV_rS0, rS_eq, rS_ne, rS_rS, pk_us, pk_un, hS0, hS]
  refine g_put3I hX 2 dX3_takeFrom_21 b_fl_X3_46 hV.k0 pf3_2 ?_
  try simp (disch := decide) only [wV_0, wV_at, wV_rS, wV_rS0, rS_eq, rS_ne, rS_rS, pk_us, pk_un, hS0, hS]
  refine g_aload_n hX dX3_takeFrom_24 rfl rfl ?_
  refine g_aload_n hX dX3_takeFrom_25 rfl rfl ?_
  refine g_get3I hX 3 dX3_takeFrom_26 b_fl_X3_49 hU.k0 (by decide) ?_
  try simp (disch := decide) only [wV_0, wV_at, wV_rS, wV_rS0, rS_eq, rS_ne, rS_rS, pk_us, pk_un, hS0, hS]
  refine g_put3I hX 3 dX3_takeFrom_29 b_fl_X3_49 hV.k0 pf3_3 ?_
  try simp (disch := decide) only [wV_0, wV_at, wV_rS, wV_rS0, rS_eq, rS_ne, rS_rS, pk_us, pk_un, hS0, hS]
  refine g_aload_n hX dX3_takeFrom_32 rfl rfl ?_
  refine g_aload_n hX dX3_takeFrom_33 rfl rfl ?_
  refine g_get3I hX 4 dX3_takeFrom_34 b_fl_X3_52 hU.k0 (by decide) ?_
  try simp (disch := decide) only [wV_0, wV_at, wV_rS, wV_rS0, rS_eq, rS_ne, rS_rS, pk_us, pk_un, hS0, hS]
  refine g_put3I hX 4 dX3_takeFrom_37 b_fl_X3_52 hV.k0 pf3_4 ?_
  try simp (disch := decide) only [wV_0, wV_at, wV_rS, wV_rS0, rS_eq, rS_ne, rS_rS, pk_us, pk_un, hS0, hS]
  refine g_aload_n hX dX3_takeFrom_40 rfl rfl ?_
  refine g_aload_n hX dX3_takeFrom_41 rfl rfl ?_
  refine g_get3I hX 5 dX3_takeFrom_42 b_fl_X3_55 hU.k0 (by decide) ?_
  try simp (disch := decide) only [wV_0, wV_at, wV_rS, wV_rS0, rS_eq, rS_ne, rS_rS, pk_us, pk_un, hS0, hS]
  refine g_put3I hX 5 dX3_takeFrom_45 b_fl_X3_55 hV.k0 pf3_5 ?_
  try simp (disch := decide) only [wV_0, wV_at, wV_rS, wV_rS0, rS_eq, rS_ne, rS_rS, pk_us, pk_un, hS0, hS]
  refine g_aload_n hX dX3_takeFrom_48 rfl rfl ?_
  refine g_get3R hX 6 dX3_takeFrom_49 b_fl_X3_9 hU.k0 (by decide) hU.p6 ?_
  refine g_iconst (v := 0) hX dX3_takeFrom_52 (by decide) ?_
  refine g_aload_n hX dX3_takeFrom_53 rfl rfl ?_
  refine g_get3R hX 6 dX3_takeFrom_54 b_fl_X3_9 hV.k0 (by decide) hV.p6 ?_
  refine g_iconst (v := 0) hX dX3_takeFrom_57 (by decide) ?_
  refine g_iconst (v := 4) hX dX3_takeFrom_58 (by decide) ?_
  refine g_copyN (a := 0) (b := 0) (m := 4) hX dX3_takeFrom_59 b_ml_X3_58 (by decide) hU.k1 hV.k1 (⟨rfl, rfl, rfl⟩) (⟨by omega, by omega⟩) ⟨by decide, by decide⟩ (Nat.le_of_ble_eq_true rfl) ?_
  try simp (disch := decide) only [wV_0, wV_at, wV_rS, wV_rS0, rS_eq, rS_ne, rS_rS, pk_us, pk_un, hS0, hS]
  refine g_aload_n hX dX3_takeFrom_62 rfl rfl ?_
  refine g_get3R hX 7 dX3_takeFrom_63 b_fl_X3_15 hU.k0 (by decide) hU.p7 ?_
  refine g_iconst (v := 0) hX dX3_takeFrom_66 (by decide) ?_
  refine g_aload_n hX dX3_takeFrom_67 rfl rfl ?_
  refine g_get3R hX 7 dX3_takeFrom_68 b_fl_X3_15 hV.k0 (by decide) hV.p7 ?_
  refine g_iconst (v := 0) hX dX3_takeFrom_71 (by decide) ?_
  refine g_iconst (v := 4) hX dX3_takeFrom_72 (by decide) ?_
  refine g_copyN (a := 0) (b := 0) (m := 4) hX dX3_takeFrom_73 b_ml_X3_58 (by decide) hU.k2 hV.k2 (⟨rfl, rfl, rfl⟩) (⟨by omega, by omega⟩) ⟨by decide, by decide⟩ (Nat.le_of_ble_eq_true rfl) ?_
  try simp (disch := decide) only [wV_0, wV_at, wV_rS, wV_rS0, rS_eq, rS_ne, rS_rS, pk_us, pk_un, hS0, hS]
  refine g_aload_n hX dX3_takeFrom_76 rfl rfl ?_
  refine g_get3R hX 8 dX3_takeFrom_77 b_fl_X3_18 hU.k0 (by decide) hU.p8 ?_
  refine g_iconst (v := 0) hX dX3_takeFrom_80 (by decide) ?_
  refine g_aload_n hX dX3_takeFrom_81 rfl rfl ?_
  refine g_get3R hX 8 dX3_takeFrom_82 b_fl_X3_18 hV.k0 (by decide) hV.p8 ?_
  refine g_iconst (v := 0) hX dX3_takeFrom_85 (by decide) ?_
  refine g_iconst (v := 4) hX dX3_takeFrom_86 (by decide) ?_
  refine g_copyN (a := 0) (b := 0) (m := 4) hX dX3_takeFrom_87 b_ml_X3_58 (by decide) hU.k3 hV.k3 (⟨rfl, rfl, rfl⟩) (⟨by omega, by omega⟩) ⟨by decide, by decide⟩ (Nat.le_of_ble_eq_true rfl) ?_
  try simp (disch := decide) only [wV_0, wV_at, wV_rS, wV_rS0, rS_eq, rS_ne, rS_rS, pk_us, pk_un, hS0, hS]
  refine g_aload_n hX dX3_takeFrom_90 rfl rfl ?_
  refine g_get3R hX 9 dX3_takeFrom_91 b_fl_X3_21 hU.k0 (by decide) hU.p9 ?_
  refine g_iconst (v := 0) hX dX3_takeFrom_94 (by decide) ?_
  refine g_aload_n hX dX3_takeFrom_95 rfl rfl ?_
  refine g_get3R hX 9 dX3_takeFrom_96 b_fl_X3_21 hV.k0 (by decide) hV.p9 ?_
  refine g_iconst (v := 0) hX dX3_takeFrom_99 (by decide) ?_
  refine g_bipush (v := 7) hX dX3_takeFrom_100 (by decide) ?_
  refine g_copyN (a := 0) (b := 0) (m := 7) hX dX3_takeFrom_102 b_ml_X3_58 (by decide) hU.k4 hV.k4 (⟨rfl, rfl, rfl⟩) (⟨by omega, by omega⟩) ⟨by decide, by decide⟩ (Nat.le_of_ble_eq_true rfl) ?_
  try simp (disch := decide) only [wV_0, wV_at, wV_rS, wV_rS0, rS_eq, rS_ne, rS_rS, pk_us, pk_un, hS0, hS]
  refine g_aload_n hX dX3_takeFrom_105 rfl rfl ?_
  refine g_get3R hX 10 dX3_takeFrom_106 b_fl_X3_24 hU.k0 (by decide) hU.p10 ?_
  refine g_iconst (v := 0) hX dX3_takeFrom_109 (by decide) ?_
  refine g_aload_n hX dX3_takeFrom_110 rfl rfl ?_
  refine g_get3R hX 10 dX3_takeFrom_111 b_fl_X3_24 hV.k0 (by decide) hV.p10 ?_
  refine g_iconst (v := 0) hX dX3_takeFrom_114 (by decide) ?_
  refine g_bipush (v := 7) hX dX3_takeFrom_115 (by decide) ?_
  refine g_copyN (a := 0) (b := 0) (m := 7) hX dX3_takeFrom_117 b_ml_X3_58 (by decide) hU.k5 hV.k5 (⟨rfl, rfl, rfl⟩) (⟨by omega, by omega⟩) ⟨by decide, by decide⟩ (Nat.le_of_ble_eq_true rfl) ?_
  try simp (disch := decide) only [wV_0, wV_at, wV_rS, wV_rS0, rS_eq, rS_ne, rS_rS, pk_us, pk_un, hS0, hS]
  refine g_aload_n hX dX3_takeFrom_120 rfl rfl ?_
  refine g_get3R hX 11 dX3_takeFrom_121 b_fl_X3_27 hU.k0 (by decide) hU.p11 ?_
  refine g_iconst (v := 0) hX dX3_takeFrom_124 (by decide) ?_
  refine g_aload_n hX dX3_takeFrom_125 rfl rfl ?_
  refine g_get3R hX 11 dX3_takeFrom_126 b_fl_X3_27 hV.k0 (by decide) hV.p11 ?_
  refine g_iconst (v := 0) hX dX3_takeFrom_129 (by decide) ?_
  refine g_bipush (v := 7) hX dX3_takeFrom_130 (by decide) ?_
  refine g_copyN (a := 0) (b := 0) (m := 7) hX dX3_takeFrom_132 b_ml_X3_58 (by decide) hU.k6 hV.k6 (⟨rfl, rfl, rfl⟩) (⟨by omega, by omega⟩) ⟨by decide, by decide⟩ (Nat.le_of_ble_eq_true rfl) ?_
  try simp (disch := decide) only [wV_0, wV_at, wV_rS, wV_rS0, rS_eq, rS_ne, rS_rS, pk_us, pk_un, hS0, hS]
  refine g_aload_n hX dX3_takeFrom_135 rfl rfl ?_
  refine g_get3R hX 12 dX3_takeFrom_136 b_fl_X3_30 hU.k0 (by decide) hU.p12 ?_
  refine g_iconst (v := 0) hX dX3_takeFrom_139 (by decide) ?_
  refine g_aload_n hX dX3_takeFrom_140 rfl rfl ?_
  refine g_get3R hX 12 dX3_takeFrom_141 b_fl_X3_30 hV.k0 (by decide) hV.p12 ?_
  refine g_iconst (v := 0) hX dX3_takeFrom_144 (by decide) ?_
  refine g_bipush (v := 7) hX dX3_takeFrom_145 (by decide) ?_
  refine g_copyN (a := 0) (b := 0) (m := 7) hX dX3_takeFrom_147 b_ml_X3_58 (by decide) hU.k7 hV.k7 (⟨rfl, rfl, rfl⟩) (⟨by omega, by omega⟩) ⟨by decide, by decide⟩ (Nat.le_of_ble_eq_true rfl) ?_
  try simp (disch := decide) only [wV_0, wV_at, wV_rS, wV_rS0, rS_eq, rS_ne, rS_rS, pk_us, pk_un, hS0, hS]
  refine g_aload_n hX dX3_takeFrom_150 rfl rfl ?_
  refine g_get3R hX 13 dX3_takeFrom_151 b_fl_X3_33 hU.k0 (by decide) hU.p13 ?_
  refine g_iconst (v := 0) hX dX3_takeFrom_154 (by decide) ?_
  refine g_aload_n hX dX3_takeFrom_155 rfl rfl ?_
  refine g_get3R hX 13 dX3_takeFrom_156 b_fl_X3_33 hV.k0 (by decide) hV.p13 ?_
  refine g_iconst (v := 0) hX dX3_takeFrom_159 (by decide) ?_
  refine g_bipush (v := 24) hX dX3_takeFrom_160 (by decide) ?_
  refine g_copyN (a := 0) (b := 0) (m := 24) hX dX3_takeFrom_162 b_ml_X3_58 (by decide) hU.k8 hV.k8 (⟨rfl, rfl, rfl⟩) (⟨by omega, by omega⟩) ⟨by decide, by decide⟩ (Nat.le_of_ble_eq_true rfl) ?_
  try simp (disch := decide) only [wV_0, wV_at, wV_rS, wV_rS0, rS_eq, rS_ne, rS_rS, pk_us, pk_un, hS0, hS]
  refine g_aload_n hX dX3_takeFrom_165 rfl rfl ?_
  refine g_get3R hX 14 dX3_takeFrom_166 b_fl_X3_36 hU.k0 (by decide) hU.p14 ?_
  refine g_iconst (v := 0) hX dX3_takeFrom_169 (by decide) ?_
  refine g_aload_n hX dX3_takeFrom_170 rfl rfl ?_
  refine g_get3R hX 14 dX3_takeFrom_171 b_fl_X3_36 hV.k0 (by decide) hV.p14 ?_
  refine g_iconst (v := 0) hX dX3_takeFrom_174 (by decide) ?_
  refine g_bipush (v := 80) hX dX3_takeFrom_175 (by decide) ?_
  refine g_copyN (a := 0) (b := 0) (m := 80) hX dX3_takeFrom_177 b_ml_X3_58 (by decide) hU.k9 hV.k9 (⟨rfl, rfl, rfl⟩) (⟨by omega, by omega⟩) ⟨by decide, by decide⟩ (Nat.le_of_ble_eq_true rfl) ?_
  try simp (disch := decide) only [wV_0, wV_at, wV_rS, wV_rS0, rS_eq, rS_ne, rS_rS, pk_us, pk_un, hS0, hS]
  exact g_vret hX dX3_takeFrom_180 rfl (⟨rfl, by rw [takeR_eq], rfl⟩)
set_option maxHeartbeats 4000000 in
set_option maxRecDepth 100000 in
theorem ok_keepPast_V {w : WG} {I : SI} {L : SL} {V : VS} {v p : Nat} (hV : VL w v) (hp : V 0 5 = nI p) (hp9 : p ≤ 8) : Ok w mX3_keepPast [.ref (gA w v)] (wV I v V) L (Vd I v (keepV V p) L none) := by
  refine Ok.of (by decide) (Nat.le_of_ble_eq_true rfl) (fun X hX => ?_)
  refine g_aload_n hX dX3_keepPast_0 rfl rfl ?_
  refine g_get3I hX 5 dX3_keepPast_1 b_fl_X3_55 hV.k0 (by decide) ?_
  try simp (disch := decide) only [wV_0, wV_at, wV_rS, wV_rS0, rS_eq, rS_ne, rS_rS, pk_us, pk_un]
  refine g_bipush (v := 8) hX dX3_keepPast_4 (by decide) ?_
  rw [hp, show (8 : Int32) = nI 8 from rfl]
  refine g_icmp_lt (tgt := 31) hX dX3_keepPast_6 (by decide) (fun c_6 => ?_) (fun c_6 => ?_)
  · have hp8 : p < 8 := nlt c_6 (by omega) (by decide)
    refine g_aload_n hX dX3_keepPast_31 rfl rfl ?_
    refine g_get3I hX 5 dX3_keepPast_32 b_fl_X3_55 hV.k0 (by decide) ?_
    try simp (disch := decide) only [wV_0, wV_at, wV_rS, wV_rS0, rS_eq, rS_ne, rS_rS, pk_us, pk_un]
    refine g_bipush (v := 10) hX dX3_keepPast_35 (by decide) ?_
    refine g_imul hX dX3_keepPast_37 ?_
    first | rw [hp, show (10 : Int32) = nI 10 from rfl, pk_mul] | rw [show (7 : Int32) = nI 7 from rfl, show (10 : Int32) = nI 10 from rfl, pk_mul]
    refine g_istore_n hX dX3_keepPast_38 rfl (by decide) ?_
    refine g_aload_n hX dX3_keepPast_39 rfl rfl ?_
    refine g_get3R hX 7 dX3_keepPast_40 b_fl_X3_15 hV.k0 (by decide) hV.p7 ?_
    refine g_iconst (v := 0) hX dX3_keepPast_43 (by decide) ?_
    refine g_aload_n hX dX3_keepPast_44 rfl rfl ?_
    refine g_get3R hX 14 dX3_keepPast_45 b_fl_X3_36 hV.k0 (by decide) hV.p14 ?_
    refine g_iload_n hX dX3_keepPast_48 rfl rfl ?_
    refine g_iconst (v := 4) hX dX3_keepPast_49 (by decide) ?_
    refine g_copyN (a := 0) (m := 4) hX dX3_keepPast_50 b_ml_X3_58 (by decide) hV.k2 hV.k9 (⟨rfl, rfl, rfl⟩) (⟨by omega, by omega⟩) ⟨by decide, by decide⟩ (Nat.le_of_ble_eq_true rfl) ?_
    try simp (disch := decide) only [wV_0, wV_at, wV_rS, wV_rS0, rS_eq, rS_ne, rS_rS, pk_us, pk_un]
    refine g_aload_n hX dX3_keepPast_53 rfl rfl ?_
    refine g_get3R hX 8 dX3_keepPast_54 b_fl_X3_18 hV.k0 (by decide) hV.p8 ?_
    refine g_iconst (v := 0) hX dX3_keepPast_57 (by decide) ?_
    refine g_aload_n hX dX3_keepPast_58 rfl rfl ?_
    refine g_get3R hX 14 dX3_keepPast_59 b_fl_X3_36 hV.k0 (by decide) hV.p14 ?_
    refine g_iload_n hX dX3_keepPast_62 rfl rfl ?_
    refine g_iconst (v := 4) hX dX3_keepPast_63 (by decide) ?_
    refine g_iadd hX dX3_keepPast_64 ?_
    refine g_iconst (v := 4) hX dX3_keepPast_65 (by decide) ?_
    refine g_copyN (a := 0) (m := 4) hX dX3_keepPast_66 b_ml_X3_58 (by decide) hV.k3 hV.k9 (⟨rfl, nI_add _ 4, rfl⟩) (⟨by omega, by omega⟩) ⟨by decide, by decide⟩ (Nat.le_of_ble_eq_true rfl) ?_
    try simp (disch := decide) only [wV_0, wV_at, wV_rS, wV_rS0, rS_eq, rS_ne, rS_rS, pk_us, pk_un]
    refine g_aload_n hX dX3_keepPast_69 rfl rfl ?_
    refine g_get3R hX 14 dX3_keepPast_70 b_fl_X3_36 hV.k0 (by decide) hV.p14 ?_
    refine g_iload_n hX dX3_keepPast_73 rfl rfl ?_
    refine g_bipush (v := 8) hX dX3_keepPast_74 (by decide) ?_
    refine g_iadd hX dX3_keepPast_76 ?_
    refine g_aload_n hX dX3_keepPast_77 rfl rfl ?_
    refine g_get3I hX 2 dX3_keepPast_78 b_fl_X3_46 hV.k0 (by decide) ?_
    try simp (disch := decide) only [wV_0, wV_at, wV_rS, wV_rS0, rS_eq, rS_ne, rS_rS, pk_us, pk_un]
    refine g_iastN hX dX3_keepPast_81 hV.k9 (⟨nI_add _ 8, by omega⟩) (by decide) ?_
    try simp (disch := decide) only [wV_0, wV_at, wV_rS, wV_rS0, rS_eq, rS_ne, rS_rS, pk_us, pk_un]
    refine g_aload_n hX dX3_keepPast_82 rfl rfl ?_
    refine g_get3R hX 14 dX3_keepPast_83 b_fl_X3_36 hV.k0 (by decide) hV.p14 ?_
    refine g_iload_n hX dX3_keepPast_86 rfl rfl ?_
    refine g_bipush (v := 8) hX dX3_keepPast_87 (by decide) ?_
    refine g_iadd hX dX3_keepPast_89 ?_
    refine g_iconst (v := 1) hX dX3_keepPast_90 (by decide) ?_
    refine g_iadd hX dX3_keepPast_91 ?_
    refine g_aload_n hX dX3_keepPast_92 rfl rfl ?_
    refine g_get3I hX 3 dX3_keepPast_93 b_fl_X3_49 hV.k0 (by decide) ?_
    try simp (disch := decide) only [wV_0, wV_at, wV_rS, wV_rS0, rS_eq, rS_ne, rS_rS, pk_us, pk_un]
    refine g_iastN hX dX3_keepPast_96 hV.k9 (⟨(by rw [show (8 : Int32) = nI 8 from rfl, nI_add, nI_1]), by omega⟩) (by decide) ?_
    try simp (disch := decide) only [wV_0, wV_at, wV_rS, wV_rS0, rS_eq, rS_ne, rS_rS, pk_us, pk_un]
    refine g_aload_n hX dX3_keepPast_97 rfl rfl ?_
    refine g_dup hX dX3_keepPast_98 rfl ?_
    refine g_get3I hX 5 dX3_keepPast_99 b_fl_X3_55 hV.k0 (by decide) ?_
    try simp (disch := decide) only [wV_0, wV_at, wV_rS, wV_rS0, rS_eq, rS_ne, rS_rS, pk_us, pk_un]
    refine g_iconst (v := 1) hX dX3_keepPast_102 (by decide) ?_
    refine g_iadd hX dX3_keepPast_103 ?_
    refine g_put3I hX 5 dX3_keepPast_104 b_fl_X3_55 hV.k0 pf3_5 ?_
    try simp (disch := decide) only [wV_0, wV_at, wV_rS, wV_rS0, rS_eq, rS_ne, rS_rS, pk_us, pk_un]
    exact g_vret hX dX3_keepPast_107 rfl (⟨rfl, by rw [keepV, if_pos hp8, kpR, hp], rfl⟩)
  · have hp8 : ¬ p < 8 := by have := nnlt c_6 (by omega) (by decide); omega
    refine g_aload_n hX dX3_keepPast_9 rfl rfl ?_
    refine g_get3R hX 14 dX3_keepPast_10 b_fl_X3_36 hV.k0 (by decide) hV.p14 ?_
    refine g_bipush (v := 10) hX dX3_keepPast_13 (by decide) ?_
    refine g_aload_n hX dX3_keepPast_15 rfl rfl ?_
    refine g_get3R hX 14 dX3_keepPast_16 b_fl_X3_36 hV.k0 (by decide) hV.p14 ?_
    refine g_iconst (v := 0) hX dX3_keepPast_19 (by decide) ?_
    refine g_bipush (v := 70) hX dX3_keepPast_20 (by decide) ?_
    refine g_copyN (a := 10) (b := 0) (m := 70) hX dX3_keepPast_22 b_ml_X3_58 (by decide) hV.k9 hV.k9 (⟨rfl, rfl, rfl⟩) (⟨by omega, by omega⟩) ⟨by decide, by decide⟩ (Nat.le_of_ble_eq_true rfl) ?_
    try simp (disch := decide) only [wV_0, wV_at, wV_rS, wV_rS0, rS_eq, rS_ne, rS_rS, pk_us, pk_un]
    refine g_aload_n hX dX3_keepPast_25 rfl rfl ?_
    refine g_bipush (v := 7) hX dX3_keepPast_26 (by decide) ?_
    refine g_put3I hX 5 dX3_keepPast_28 b_fl_X3_55 hV.k0 pf3_5 ?_
    try simp (disch := decide) only [wV_0, wV_at, wV_rS, wV_rS0, rS_eq, rS_ne, rS_rS, pk_us, pk_un]
    refine g_aload_n hX dX3_keepPast_31 rfl rfl ?_
    refine g_get3I hX 5 dX3_keepPast_32 b_fl_X3_55 hV.k0 (by decide) ?_
    try simp (disch := decide) only [wV_0, wV_at, wV_rS, wV_rS0, rS_eq, rS_ne, rS_rS, pk_us, pk_un]
    refine g_bipush (v := 10) hX dX3_keepPast_35 (by decide) ?_
    refine g_imul hX dX3_keepPast_37 ?_
    first | rw [hp, show (10 : Int32) = nI 10 from rfl, pk_mul] | rw [show (7 : Int32) = nI 7 from rfl, show (10 : Int32) = nI 10 from rfl, pk_mul]
    refine g_istore_n hX dX3_keepPast_38 rfl (by decide) ?_
    refine g_aload_n hX dX3_keepPast_39 rfl rfl ?_
    refine g_get3R hX 7 dX3_keepPast_40 b_fl_X3_15 hV.k0 (by decide) hV.p7 ?_
    refine g_iconst (v := 0) hX dX3_keepPast_43 (by decide) ?_
    refine g_aload_n hX dX3_keepPast_44 rfl rfl ?_
    refine g_get3R hX 14 dX3_keepPast_45 b_fl_X3_36 hV.k0 (by decide) hV.p14 ?_
    refine g_iload_n hX dX3_keepPast_48 rfl rfl ?_
    refine g_iconst (v := 4) hX dX3_keepPast_49 (by decide) ?_
    refine g_copyN (a := 0) (m := 4) hX dX3_keepPast_50 b_ml_X3_58 (by decide) hV.k2 hV.k9 (⟨rfl, rfl, rfl⟩) (⟨by omega, by omega⟩) ⟨by decide, by decide⟩ (Nat.le_of_ble_eq_true rfl) ?_
    try simp (disch := decide) only [wV_0, wV_at, wV_rS, wV_rS0, rS_eq, rS_ne, rS_rS, pk_us, pk_un]
    refine g_aload_n hX dX3_keepPast_53 rfl rfl ?_
    refine g_get3R hX 8 dX3_keepPast_54 b_fl_X3_18 hV.k0 (by decide) hV.p8 ?_
    refine g_iconst (v := 0) hX dX3_keepPast_57 (by decide) ?_
    refine g_aload_n hX dX3_keepPast_58 rfl rfl ?_
    refine g_get3R hX 14 dX3_keepPast_59 b_fl_X3_36 hV.k0 (by decide) hV.p14 ?_
    refine g_iload_n hX dX3_keepPast_62 rfl rfl ?_
    refine g_iconst (v := 4) hX dX3_keepPast_63 (by decide) ?_
    refine g_iadd hX dX3_keepPast_64 ?_
    refine g_iconst (v := 4) hX dX3_keepPast_65 (by decide) ?_
    refine g_copyN (a := 0) (m := 4) hX dX3_keepPast_66 b_ml_X3_58 (by decide) hV.k3 hV.k9 (⟨rfl, nI_add _ 4, rfl⟩) (⟨by omega, by omega⟩) ⟨by decide, by decide⟩ (Nat.le_of_ble_eq_true rfl) ?_
    try simp (disch := decide) only [wV_0, wV_at, wV_rS, wV_rS0, rS_eq, rS_ne, rS_rS, pk_us, pk_un]
    refine g_aload_n hX dX3_keepPast_69 rfl rfl ?_
    refine g_get3R hX 14 dX3_keepPast_70 b_fl_X3_36 hV.k0 (by decide) hV.p14 ?_
    refine g_iload_n hX dX3_keepPast_73 rfl rfl ?_
    refine g_bipush (v := 8) hX dX3_keepPast_74 (by decide) ?_
    refine g_iadd hX dX3_keepPast_76 ?_
    refine g_aload_n hX dX3_keepPast_77 rfl rfl ?_
    refine g_get3I hX 2 dX3_keepPast_78 b_fl_X3_46 hV.k0 (by decide) ?_
    try simp (disch := decide) only [wV_0, wV_at, wV_rS, wV_rS0, rS_eq, rS_ne, rS_rS, pk_us, pk_un]
    refine g_iastN hX dX3_keepPast_81 hV.k9 (⟨nI_add _ 8, by omega⟩) (by decide) ?_
    try simp (disch := decide) only [wV_0, wV_at, wV_rS, wV_rS0, rS_eq, rS_ne, rS_rS, pk_us, pk_un]
    refine g_aload_n hX dX3_keepPast_82 rfl rfl ?_
    refine g_get3R hX 14 dX3_keepPast_83 b_fl_X3_36 hV.k0 (by decide) hV.p14 ?_
    refine g_iload_n hX dX3_keepPast_86 rfl rfl ?_
    refine g_bipush (v := 8) hX dX3_keepPast_87 (by decide) ?_
    refine g_iadd hX dX3_keepPast_89 ?_
    refine g_iconst (v := 1) hX dX3_keepPast_90 (by decide) ?_
    refine g_iadd hX dX3_keepPast_91 ?_
    refine g_aload_n hX dX3_keepPast_92 rfl rfl ?_
    refine g_get3I hX 3 dX3_keepPast_93 b_fl_X3_49 hV.k0 (by decide) ?_
    try simp (disch := decide) only [wV_0, wV_at, wV_rS, wV_rS0, rS_eq, rS_ne, rS_rS, pk_us, pk_un]
    refine g_iastN hX dX3_keepPast_96 hV.k9 (⟨(by rw [show (8 : Int32) = nI 8 from rfl, nI_add, nI_1]), by omega⟩) (by decide) ?_
    try simp (disch := decide) only [wV_0, wV_at, wV_rS, wV_rS0, rS_eq, rS_ne, rS_rS, pk_us, pk_un]
    refine g_aload_n hX dX3_keepPast_97 rfl rfl ?_
    refine g_dup hX dX3_keepPast_98 rfl ?_
    refine g_get3I hX 5 dX3_keepPast_99 b_fl_X3_55 hV.k0 (by decide) ?_
    try simp (disch := decide) only [wV_0, wV_at, wV_rS, wV_rS0, rS_eq, rS_ne, rS_rS, pk_us, pk_un]
    refine g_iconst (v := 1) hX dX3_keepPast_102 (by decide) ?_
    refine g_iadd hX dX3_keepPast_103 ?_
    refine g_put3I hX 5 dX3_keepPast_104 b_fl_X3_55 hV.k0 pf3_5 ?_
    try simp (disch := decide) only [wV_0, wV_at, wV_rS, wV_rS0, rS_eq, rS_ne, rS_rS, pk_us, pk_un]
    exact g_vret hX dX3_keepPast_107 rfl (⟨rfl, by congr 1; funext q; rcases q with _ | _ | _ | _ | _ | _ | _ | _ | _ | _ | q <;> simp [rS, keepV, hp8, kpR] <;> rfl, rfl⟩)
set_option maxHeartbeats 4000000 in
set_option maxRecDepth 100000 in
theorem ok_goBack_V {w : WG} {I : SI} {L : SL} {V : VS} {v p : Nat} (hV : VL w v) (hp : V 0 5 = nI (p + 1)) (hp9 : p < 8) : Ok w mX3_goBack [.ref (gA w v)] (wV I v V) L (Vd I v (backV V p) L none) := by
  refine Ok.of (by decide) (Nat.le_of_ble_eq_true rfl) (fun X hX => ?_)
  refine g_aload_n hX dX3_goBack_0 rfl rfl ?_
  refine g_get3I hX 5 dX3_goBack_1 b_fl_X3_55 hV.k0 (by decide) ?_
  try simp (disch := decide) only [wV_0, wV_at, wV_rS, wV_rS0, rS_eq, rS_ne, rS_rS, pk_us, pk_un]
  rw [hp]
  refine g_if_gt (tgt := 8) hX dX3_goBack_4 (by decide) (fun c_4 => ?_) (fun c_4 => ?_)
  · refine g_aload_n hX dX3_goBack_8 rfl rfl ?_
    refine g_dup hX dX3_goBack_9 rfl ?_
    refine g_get3I hX 5 dX3_goBack_10 b_fl_X3_55 hV.k0 (by decide) ?_
    try simp (disch := decide) only [wV_0, wV_at, wV_rS, wV_rS0, rS_eq, rS_ne, rS_rS, pk_us, pk_un]
    refine g_iconst (v := 1) hX dX3_goBack_13 (by decide) ?_
    rw [hp]
    refine g_isub hX dX3_goBack_14 ?_
    rw [nI_pred]
    refine g_put3I hX 5 dX3_goBack_15 b_fl_X3_55 hV.k0 pf3_5 ?_
    try simp (disch := decide) only [wV_0, wV_at, wV_rS, wV_rS0, rS_eq, rS_ne, rS_rS, pk_us, pk_un]
    refine g_aload_n hX dX3_goBack_18 rfl rfl ?_
    refine g_get3I hX 5 dX3_goBack_19 b_fl_X3_55 hV.k0 (by decide) ?_
    try simp (disch := decide) only [wV_0, wV_at, wV_rS, wV_rS0, rS_eq, rS_ne, rS_rS, pk_us, pk_un]
    refine g_bipush (v := 10) hX dX3_goBack_22 (by decide) ?_
    refine g_imul hX dX3_goBack_24 ?_
    rw [show (10 : Int32) = nI 10 from rfl, pk_mul]
    refine g_istore_n hX dX3_goBack_25 rfl (by decide) ?_
    refine g_aload_n hX dX3_goBack_26 rfl rfl ?_
    refine g_get3R hX 14 dX3_goBack_27 b_fl_X3_36 hV.k0 (by decide) hV.p14 ?_
    refine g_iload_n hX dX3_goBack_30 rfl rfl ?_
    refine g_aload_n hX dX3_goBack_31 rfl rfl ?_
    refine g_get3R hX 7 dX3_goBack_32 b_fl_X3_15 hV.k0 (by decide) hV.p7 ?_
    refine g_iconst (v := 0) hX dX3_goBack_35 (by decide) ?_
    refine g_iconst (v := 4) hX dX3_goBack_36 (by decide) ?_
    refine g_copyN (b := 0) (m := 4) hX dX3_goBack_37 b_ml_X3_58 (by decide) hV.k9 hV.k2 (⟨rfl, rfl, rfl⟩) (⟨by omega, by omega⟩) ⟨by decide, by decide⟩ (Nat.le_of_ble_eq_true rfl) ?_
    try simp (disch := decide) only [wV_0, wV_at, wV_rS, wV_rS0, rS_eq, rS_ne, rS_rS, pk_us, pk_un]
    refine g_aload_n hX dX3_goBack_40 rfl rfl ?_
    refine g_get3R hX 14 dX3_goBack_41 b_fl_X3_36 hV.k0 (by decide) hV.p14 ?_
    refine g_iload_n hX dX3_goBack_44 rfl rfl ?_
    refine g_iconst (v := 4) hX dX3_goBack_45 (by decide) ?_
    refine g_iadd hX dX3_goBack_46 ?_
    refine g_aload_n hX dX3_goBack_47 rfl rfl ?_
    refine g_get3R hX 8 dX3_goBack_48 b_fl_X3_18 hV.k0 (by decide) hV.p8 ?_
    refine g_iconst (v := 0) hX dX3_goBack_51 (by decide) ?_
    refine g_iconst (v := 4) hX dX3_goBack_52 (by decide) ?_
    refine g_copyN (b := 0) (m := 4) hX dX3_goBack_53 b_ml_X3_58 (by decide) hV.k9 hV.k3 (⟨nI_add _ 4, rfl, rfl⟩) (⟨by omega, by omega⟩) ⟨by decide, by decide⟩ (Nat.le_of_ble_eq_true rfl) ?_
    try simp (disch := decide) only [wV_0, wV_at, wV_rS, wV_rS0, rS_eq, rS_ne, rS_rS, pk_us, pk_un]
    refine g_aload_n hX dX3_goBack_56 rfl rfl ?_
    refine g_aload_n hX dX3_goBack_57 rfl rfl ?_
    refine g_get3R hX 14 dX3_goBack_58 b_fl_X3_36 hV.k0 (by decide) hV.p14 ?_
    refine g_iload_n hX dX3_goBack_61 rfl rfl ?_
    refine g_bipush (v := 8) hX dX3_goBack_62 (by decide) ?_
    refine g_iadd hX dX3_goBack_64 ?_
    refine g_ialdN hX dX3_goBack_65 hV.k9 (⟨nI_add _ 8, by omega⟩) (by decide) ?_
    try simp (disch := decide) only [wV_0, wV_at, wV_rS, wV_rS0, rS_eq, rS_ne, rS_rS, pk_us, pk_un]
    refine g_put3I hX 2 dX3_goBack_66 b_fl_X3_46 hV.k0 pf3_2 ?_
    try simp (disch := decide) only [wV_0, wV_at, wV_rS, wV_rS0, rS_eq, rS_ne, rS_rS, pk_us, pk_un]
    refine g_aload_n hX dX3_goBack_69 rfl rfl ?_
    refine g_aload_n hX dX3_goBack_70 rfl rfl ?_
    refine g_get3R hX 14 dX3_goBack_71 b_fl_X3_36 hV.k0 (by decide) hV.p14 ?_
    refine g_iload_n hX dX3_goBack_74 rfl rfl ?_
    refine g_bipush (v := 8) hX dX3_goBack_75 (by decide) ?_
    refine g_iadd hX dX3_goBack_77 ?_
    refine g_iconst (v := 1) hX dX3_goBack_78 (by decide) ?_
    refine g_iadd hX dX3_goBack_79 ?_
    refine g_ialdN hX dX3_goBack_80 hV.k9 (⟨(by rw [show (8 : Int32) = nI 8 from rfl, nI_add, nI_1]), by omega⟩) (by decide) ?_
    try simp (disch := decide) only [wV_0, wV_at, wV_rS, wV_rS0, rS_eq, rS_ne, rS_rS, pk_us, pk_un]
    refine g_put3I hX 3 dX3_goBack_81 b_fl_X3_49 hV.k0 pf3_3 ?_
    try simp (disch := decide) only [wV_0, wV_at, wV_rS, wV_rS0, rS_eq, rS_ne, rS_rS, pk_us, pk_un]
    exact g_vret hX dX3_goBack_84 rfl (⟨rfl, by congr 1; funext q; rcases q with _ | _ | _ | _ | _ | _ | _ | _ | _ | _ | q <;> simp [rS, backV], rfl⟩)
  · exact absurd (npos (by omega)) c_4
set_option maxHeartbeats 4000000 in
set_option maxRecDepth 100000 in
theorem ok_biting {w : WG} {I : SI} {L : SL} (f b : Int32) : Ok w mX0_biting [.int f, .int b] I L (Pr (.int (bgF f b)) I L) := by
  refine Ok.of (by decide) (Nat.le_of_ble_eq_true rfl) (fun X hX => ?_)
  have loop := loop_up (n := 6) (P := fun j => G X w mX0_biting I L 4 (lvO [(0, .int f), (1, .int b), (2, .int (bgS f b j)), (3, .int (nI j))]) []) (fun j hk ih => by
    refine g_iload_n hX dX0_biting_4 rfl rfl ?_
    refine g_bipush (v := 6) hX dX0_biting_5 (by decide) ?_
    rw [show (6 : Int32) = nI 6 from rfl]
    refine g_icmp_ge (tgt := 31) hX dX0_biting_7 (by decide) (fun c_7 => ?_) (fun c_7 => ?_)
    · refine g_iload_n hX dX0_biting_31 rfl rfl ?_
      exact g_iret hX dX0_biting_32 rfl (⟨by rw [bgF, show j = 6 from Nat.le_antisymm hk (nle c_7 (by omega) (by omega))], rfl, rfl⟩)
    · have hlt := nnle c_7 (by omega) (by omega)
      refine g_iload_n hX dX0_biting_10 rfl rfl ?_
      refine g_iload_n hX dX0_biting_11 rfl rfl ?_
      refine g_iload_n hX dX0_biting_12 rfl rfl ?_
      refine g_callSp _ hX dX0_biting_13 k_X0_11 ⟨by decide, by decide⟩ rfl (ok_wouldBite _ _ _) rfl (Nat.le_of_ble_eq_true rfl) ?_
      refine g_if_eq (tgt := 25) hX dX0_biting_16 (by decide) (fun c_16 => ?_) (fun c_16 => ?_)
      · refine g_iinc hX dX0_biting_25 rfl (d := 1) (by decide) ?_
        refine g_goto (tgt := 4) hX dX0_biting_28 (by decide) ?_
        exact G.at (ih hlt) ⟨rfl, rfl, vI (by rw [bgS]; simp [c_16]), vI (nI_1 j), trivial⟩
      · refine g_iload_n hX dX0_biting_19 rfl rfl ?_
        refine g_iconst (v := 1) hX dX0_biting_20 (by decide) ?_
        refine g_iload_n hX dX0_biting_21 rfl rfl ?_
        refine g_ishl hX dX0_biting_22 ?_
        refine g_ior hX dX0_biting_23 ?_
        refine g_istore_n hX dX0_biting_24 rfl (by decide) ?_
        refine g_iinc hX dX0_biting_25 rfl (d := 1) (by decide) ?_
        refine g_goto (tgt := 4) hX dX0_biting_28 (by decide) ?_
        exact G.at (ih hlt) ⟨rfl, rfl, vI (by rw [bgS]; simp [c_16]), vI (nI_1 j), trivial⟩
    )
  refine g_iconst (v := 0) hX dX0_biting_0 (by decide) ?_
  refine g_istore_n hX dX0_biting_1 rfl (by decide) ?_
  refine g_iconst (v := 0) hX dX0_biting_2 (by decide) ?_
  refine g_istore_n hX dX0_biting_3 rfl (by decide) ?_
  exact G.at (loop 0 (Nat.zero_le _)) ⟨rfl, rfl, rfl, rfl, trivial⟩
set_option maxHeartbeats 4000000 in
set_option maxRecDepth 100000 in
theorem ok_kindsBy {w : WG} {I : SI} {L : SL} {v q : Nat} (hV : VL w v) (hq : I v 4 = nI q) (hq6 : q ≤ 6) (k : Int32) : Ok w mX3_kindsBy [.ref (gA w v), .int k] I L (Pr (.int (knR (I (v + 8)) k q)) I L) := by
  refine Ok.of (by decide) (Nat.le_of_ble_eq_true rfl) (fun X hX => ?_)
  have loop := loop_up (n := q) (P := fun i => G X w mX3_kindsBy I L 5 (lvO [(0, .ref (gA w v)), (1, .int k), (2, .int (knR (I (v + 8)) k i)), (3, .int (nI i))]) []) (fun i hk ih => by
    refine g_iload_n hX dX3_kindsBy_5 rfl rfl ?_
    refine g_aload_n hX dX3_kindsBy_6 rfl rfl ?_
    refine g_get3I hX 4 dX3_kindsBy_7 b_fl_X3_52 hV.k0 (by decide) ?_
    rw [hq]
    refine g_icmp_ge (tgt := 92) hX dX3_kindsBy_10 (by decide) (fun c_10 => ?_) (fun c_10 => ?_)
    · refine g_iload_n hX dX3_kindsBy_92 rfl rfl ?_
      exact g_iret hX dX3_kindsBy_93 rfl (⟨by rw [show i = q from Nat.le_antisymm hk (nle c_10 (by omega) (by omega))], rfl, rfl⟩)
    · have hlt := nnle c_10 (by omega) (by omega)
      refine g_iload_n hX dX3_kindsBy_13 rfl rfl ?_
      refine g_iconst (v := 4) hX dX3_kindsBy_14 (by decide) ?_
      refine g_imul hX dX3_kindsBy_15 ?_
      rw [show (4 : Int32) = nI 4 from rfl, pk_mul]
      refine g_istore hX dX3_kindsBy_16 (by decide) ?_
      refine g_aload_n hX dX3_kindsBy_18 rfl rfl ?_
      refine g_get3R hX 13 dX3_kindsBy_19 b_fl_X3_33 hV.k0 (by decide) hV.p13 ?_
      refine g_iload hX dX3_kindsBy_22 rfl ?_
      refine g_ialdN hX dX3_kindsBy_24 hV.k8 (⟨rfl, by omega⟩) (by decide) ?_
      refine g_iload_n hX dX3_kindsBy_25 rfl rfl ?_
      refine g_icmp_ne (tgt := 86) hX dX3_kindsBy_26 (by decide) (fun c_26 => ?_) (fun c_26 => ?_)
      · refine g_iinc hX dX3_kindsBy_86 rfl (d := 1) (by decide) ?_
        refine g_goto (tgt := 5) hX dX3_kindsBy_89 (by decide) ?_
        exact G.at (ih hlt) ⟨rfl, rfl, vI (by rw [knR]; rw [if_neg c_26]), vI (nI_1 i), trivial⟩
      · refine g_aload_n hX dX3_kindsBy_29 rfl rfl ?_
        refine g_get3R hX 13 dX3_kindsBy_30 b_fl_X3_33 hV.k0 (by decide) hV.p13 ?_
        refine g_iload hX dX3_kindsBy_33 rfl ?_
        refine g_iconst (v := 1) hX dX3_kindsBy_35 (by decide) ?_
        refine g_iadd hX dX3_kindsBy_36 ?_
        refine g_ialdN hX dX3_kindsBy_37 hV.k8 (⟨nI_1 _, by omega⟩) (by decide) ?_
        refine g_iconst (v := 1) hX dX3_kindsBy_38 (by decide) ?_
        refine g_icmp_ne (tgt := 46) hX dX3_kindsBy_39 (by decide) (fun c_39 => ?_) (fun c_39 => ?_)
        · refine g_iconst (v := 0) hX dX3_kindsBy_46 (by decide) ?_
          refine g_aload_n hX dX3_kindsBy_47 rfl rfl ?_
          refine g_get3R hX 13 dX3_kindsBy_48 b_fl_X3_33 hV.k0 (by decide) hV.p13 ?_
          refine g_iload hX dX3_kindsBy_51 rfl ?_
          refine g_iconst (v := 2) hX dX3_kindsBy_53 (by decide) ?_
          refine g_iadd hX dX3_kindsBy_54 ?_
          refine g_ialdN hX dX3_kindsBy_55 hV.k8 (⟨nI_add _ 2, by omega⟩) (by decide) ?_
          refine g_callSp _ hX dX3_kindsBy_56 k_X3_92 ⟨by decide, by decide⟩ rfl (ok_biting _ _) rfl (Nat.le_of_ble_eq_true rfl) ?_
          refine g_istore hX dX3_kindsBy_59 (by decide) ?_
          refine g_iload_n hX dX3_kindsBy_61 rfl rfl ?_
          refine g_aload_n hX dX3_kindsBy_62 rfl rfl ?_
          refine g_get3R hX 13 dX3_kindsBy_63 b_fl_X3_33 hV.k0 (by decide) hV.p13 ?_
          refine g_iload hX dX3_kindsBy_66 rfl ?_
          refine g_iconst (v := 3) hX dX3_kindsBy_68 (by decide) ?_
          refine g_iadd hX dX3_kindsBy_69 ?_
          refine g_ialdN hX dX3_kindsBy_70 hV.k8 (⟨nI_add _ 3, by omega⟩) (by decide) ?_
          refine g_iconst (v := 1) hX dX3_kindsBy_71 (by decide) ?_
          refine g_icmp_ne (tgt := 80) hX dX3_kindsBy_72 (by decide) (fun c_72 => ?_) (fun c_72 => ?_)
          · refine g_iload hX dX3_kindsBy_80 rfl ?_
            refine g_iconst (v := -1) hX dX3_kindsBy_82 (by decide) ?_
            refine g_ixor hX dX3_kindsBy_83 ?_
            refine g_iand hX dX3_kindsBy_84 ?_
            refine g_istore_n hX dX3_kindsBy_85 rfl (by decide) ?_
            refine g_iinc hX dX3_kindsBy_86 rfl (d := 1) (by decide) ?_
            refine g_goto (tgt := 5) hX dX3_kindsBy_89 (by decide) ?_
            exact G.at (ih hlt) ⟨rfl, rfl, vI (by rw [knR]; rw [if_pos c_26, if_neg c_72, b01, if_neg c_39]), vI (nI_1 i), trivial⟩
          · refine g_iload hX dX3_kindsBy_75 rfl ?_
            refine g_goto (tgt := 84) hX dX3_kindsBy_77 (by decide) ?_
            refine g_iand hX dX3_kindsBy_84 ?_
            refine g_istore_n hX dX3_kindsBy_85 rfl (by decide) ?_
            refine g_iinc hX dX3_kindsBy_86 rfl (d := 1) (by decide) ?_
            refine g_goto (tgt := 5) hX dX3_kindsBy_89 (by decide) ?_
            exact G.at (ih hlt) ⟨rfl, rfl, vI (by rw [knR]; rw [if_pos c_26, if_pos c_72, b01, if_neg c_39]), vI (nI_1 i), trivial⟩
        · refine g_iconst (v := 1) hX dX3_kindsBy_42 (by decide) ?_
          refine g_goto (tgt := 47) hX dX3_kindsBy_43 (by decide) ?_
          refine g_aload_n hX dX3_kindsBy_47 rfl rfl ?_
          refine g_get3R hX 13 dX3_kindsBy_48 b_fl_X3_33 hV.k0 (by decide) hV.p13 ?_
          refine g_iload hX dX3_kindsBy_51 rfl ?_
          refine g_iconst (v := 2) hX dX3_kindsBy_53 (by decide) ?_
          refine g_iadd hX dX3_kindsBy_54 ?_
          refine g_ialdN hX dX3_kindsBy_55 hV.k8 (⟨nI_add _ 2, by omega⟩) (by decide) ?_
          refine g_callSp _ hX dX3_kindsBy_56 k_X3_92 ⟨by decide, by decide⟩ rfl (ok_biting _ _) rfl (Nat.le_of_ble_eq_true rfl) ?_
          refine g_istore hX dX3_kindsBy_59 (by decide) ?_
          refine g_iload_n hX dX3_kindsBy_61 rfl rfl ?_
          refine g_aload_n hX dX3_kindsBy_62 rfl rfl ?_
          refine g_get3R hX 13 dX3_kindsBy_63 b_fl_X3_33 hV.k0 (by decide) hV.p13 ?_
          refine g_iload hX dX3_kindsBy_66 rfl ?_
          refine g_iconst (v := 3) hX dX3_kindsBy_68 (by decide) ?_
          refine g_iadd hX dX3_kindsBy_69 ?_
          refine g_ialdN hX dX3_kindsBy_70 hV.k8 (⟨nI_add _ 3, by omega⟩) (by decide) ?_
          refine g_iconst (v := 1) hX dX3_kindsBy_71 (by decide) ?_
          refine g_icmp_ne (tgt := 80) hX dX3_kindsBy_72 (by decide) (fun c_72 => ?_) (fun c_72 => ?_)
          · refine g_iload hX dX3_kindsBy_80 rfl ?_
            refine g_iconst (v := -1) hX dX3_kindsBy_82 (by decide) ?_
            refine g_ixor hX dX3_kindsBy_83 ?_
            refine g_iand hX dX3_kindsBy_84 ?_
            refine g_istore_n hX dX3_kindsBy_85 rfl (by decide) ?_
            refine g_iinc hX dX3_kindsBy_86 rfl (d := 1) (by decide) ?_
            refine g_goto (tgt := 5) hX dX3_kindsBy_89 (by decide) ?_
            exact G.at (ih hlt) ⟨rfl, rfl, vI (by rw [knR]; rw [if_pos c_26, if_neg c_72, b01, if_pos c_39]), vI (nI_1 i), trivial⟩
          · refine g_iload hX dX3_kindsBy_75 rfl ?_
            refine g_goto (tgt := 84) hX dX3_kindsBy_77 (by decide) ?_
            refine g_iand hX dX3_kindsBy_84 ?_
            refine g_istore_n hX dX3_kindsBy_85 rfl (by decide) ?_
            refine g_iinc hX dX3_kindsBy_86 rfl (d := 1) (by decide) ?_
            refine g_goto (tgt := 5) hX dX3_kindsBy_89 (by decide) ?_
            exact G.at (ih hlt) ⟨rfl, rfl, vI (by rw [knR]; rw [if_pos c_26, if_pos c_72, b01, if_pos c_39]), vI (nI_1 i), trivial⟩
    )
  refine g_bipush (v := 63) hX dX3_kindsBy_0 (by decide) ?_
  refine g_istore_n hX dX3_kindsBy_2 rfl (by decide) ?_
  refine g_iconst (v := 0) hX dX3_kindsBy_3 (by decide) ?_
  refine g_istore_n hX dX3_kindsBy_4 rfl (by decide) ?_
  exact G.at (loop 0 (Nat.zero_le _)) ⟨rfl, rfl, rfl, rfl, trivial⟩
set_option maxHeartbeats 4000000 in
set_option maxRecDepth 100000 in
theorem ok_digestOn {w : WG} {I : SI} {L : SL} {v n d q : Nat} (hV : VL w v) (hn : I v 0 = nI n) (hn4 : n ≤ 4) (hd : I v 1 = nI d) (hd7 : d ≤ 7) (hq : I v 4 = nI q) (hq6 : q ≤ 6) (h : Int64) : Ok w mX3_digestOn [.ref (gA w v), .long h] I L (Pr (.long (dgN (I (v + 8)) (dgD (I (v + 4)) (I (v + 5)) (I (v + 6)) (I (v + 7)) (I v 2) (dgM (I (v + 1)) (I (v + 2)) (I (v + 3)) h n) d) (q * 4))) I L) := by
  refine Ok.of (by decide) (Nat.le_of_ble_eq_true rfl) (fun X hX => ?_)
  have loop3 := loop_up (n := q * 4) (P := fun i => G X w mX3_digestOn I L 168 (lvO [(0, .ref (gA w v)), (3, .long (dgN (I (v + 8)) (dgD (I (v + 4)) (I (v + 5)) (I (v + 6)) (I (v + 7)) (I v 2) (dgM (I (v + 1)) (I (v + 2)) (I (v + 3)) h n) d) i)), (5, .int (nI i))]) []) (fun i hk ih => by
    refine g_iload hX dX3_digestOn_168 rfl ?_
    refine g_aload_n hX dX3_digestOn_170 rfl rfl ?_
    refine g_get3I hX 4 dX3_digestOn_171 b_fl_X3_52 hV.k0 (by decide) ?_
    refine g_iconst (v := 4) hX dX3_digestOn_174 (by decide) ?_
    refine g_imul hX dX3_digestOn_175 ?_
    rw [hq, show (4 : Int32) = nI 4 from rfl, pk_mul]
    refine g_icmp_ge (tgt := 200) hX dX3_digestOn_176 (by decide) (fun c_176 => ?_) (fun c_176 => ?_)
    · refine g_lload_n hX dX3_digestOn_200 rfl rfl ?_
      exact g_lret hX dX3_digestOn_201 rfl (⟨by rw [show i = q * 4 from Nat.le_antisymm hk (nle c_176 (by omega) (by omega))], rfl, rfl⟩)
    · have hlt := nnle c_176 (by omega) (by omega)
      refine g_ldc2 (v := 31) hX dX3_digestOn_179 b_ct_X3_96 ?_
      refine g_lload_n hX dX3_digestOn_182 rfl rfl ?_
      refine g_lmul hX dX3_digestOn_183 ?_
      refine g_aload_n hX dX3_digestOn_184 rfl rfl ?_
      refine g_get3R hX 13 dX3_digestOn_185 b_fl_X3_33 hV.k0 (by decide) hV.p13 ?_
      refine g_iload hX dX3_digestOn_188 rfl ?_
      refine g_ialdN hX dX3_digestOn_190 hV.k8 (⟨rfl, by omega⟩) (by decide) ?_
      refine g_i2l hX dX3_digestOn_191 ?_
      refine g_ladd hX dX3_digestOn_192 ?_
      refine g_lstore_n hX dX3_digestOn_193 rfl (by decide) ?_
      refine g_iinc hX dX3_digestOn_194 rfl (d := 1) (by decide) ?_
      refine g_goto (tgt := 168) hX dX3_digestOn_197 (by decide) ?_
      exact G.at (ih hlt) ⟨rfl, vL rfl, vI (nI_1 i), trivial⟩
    )
  have loop2 := loop_up (n := d) (P := fun k => G X w mX3_digestOn I L 68 (lvO [(0, .ref (gA w v)), (3, .long (dgD (I (v + 4)) (I (v + 5)) (I (v + 6)) (I (v + 7)) (I v 2) (dgM (I (v + 1)) (I (v + 2)) (I (v + 3)) h n) k)), (5, .int (nI k))]) []) (fun k hk ih => by
    refine g_iload hX dX3_digestOn_68 rfl ?_
    refine g_aload_n hX dX3_digestOn_70 rfl rfl ?_
    refine g_get3I hX 1 dX3_digestOn_71 b_fl_X3_43 hV.k0 (by decide) ?_
    rw [hd]
    refine g_icmp_ge (tgt := 165) hX dX3_digestOn_74 (by decide) (fun c_74 => ?_) (fun c_74 => ?_)
    · refine g_iconst (v := 0) hX dX3_digestOn_165 (by decide) ?_
      refine g_istore hX dX3_digestOn_166 (by decide) ?_
      exact G.at (loop3 0 (Nat.zero_le _)) ⟨rfl, vL (by rw [show k = d from Nat.le_antisymm hk (nle c_74 (by omega) (by omega))]; rfl), rfl, trivial⟩
    · have hlt := nnle c_74 (by omega) (by omega)
      refine g_ldc2 (v := 31) hX dX3_digestOn_77 b_ct_X3_96 ?_
      refine g_lload_n hX dX3_digestOn_80 rfl rfl ?_
      refine g_lmul hX dX3_digestOn_81 ?_
      refine g_aload_n hX dX3_digestOn_82 rfl rfl ?_
      refine g_get3R hX 9 dX3_digestOn_83 b_fl_X3_21 hV.k0 (by decide) hV.p9 ?_
      refine g_iload hX dX3_digestOn_86 rfl ?_
      refine g_ialdN hX dX3_digestOn_88 hV.k4 (⟨rfl, by omega⟩) (by decide) ?_
      refine g_i2l hX dX3_digestOn_89 ?_
      refine g_ladd hX dX3_digestOn_90 ?_
      refine g_lstore_n hX dX3_digestOn_91 rfl (by decide) ?_
      refine g_ldc2 (v := 31) hX dX3_digestOn_92 b_ct_X3_96 ?_
      refine g_lload_n hX dX3_digestOn_95 rfl rfl ?_
      refine g_lmul hX dX3_digestOn_96 ?_
      refine g_aload_n hX dX3_digestOn_97 rfl rfl ?_
      refine g_get3R hX 10 dX3_digestOn_98 b_fl_X3_24 hV.k0 (by decide) hV.p10 ?_
      refine g_iload hX dX3_digestOn_101 rfl ?_
      refine g_ialdN hX dX3_digestOn_103 hV.k5 (⟨rfl, by omega⟩) (by decide) ?_
      refine g_i2l hX dX3_digestOn_104 ?_
      refine g_ladd hX dX3_digestOn_105 ?_
      refine g_lstore_n hX dX3_digestOn_106 rfl (by decide) ?_
      refine g_ldc2 (v := 31) hX dX3_digestOn_107 b_ct_X3_96 ?_
      refine g_lload_n hX dX3_digestOn_110 rfl rfl ?_
      refine g_lmul hX dX3_digestOn_111 ?_
      refine g_aload_n hX dX3_digestOn_112 rfl rfl ?_
      refine g_get3R hX 11 dX3_digestOn_113 b_fl_X3_27 hV.k0 (by decide) hV.p11 ?_
      refine g_iload hX dX3_digestOn_116 rfl ?_
      refine g_ialdN hX dX3_digestOn_118 hV.k6 (⟨rfl, by omega⟩) (by decide) ?_
      refine g_i2l hX dX3_digestOn_119 ?_
      refine g_ladd hX dX3_digestOn_120 ?_
      refine g_lstore_n hX dX3_digestOn_121 rfl (by decide) ?_
      refine g_ldc2 (v := 31) hX dX3_digestOn_122 b_ct_X3_96 ?_
      refine g_lload_n hX dX3_digestOn_125 rfl rfl ?_
      refine g_lmul hX dX3_digestOn_126 ?_
      refine g_aload_n hX dX3_digestOn_127 rfl rfl ?_
      refine g_get3R hX 12 dX3_digestOn_128 b_fl_X3_30 hV.k0 (by decide) hV.p12 ?_
      refine g_iload hX dX3_digestOn_131 rfl ?_
      refine g_ialdN hX dX3_digestOn_133 hV.k7 (⟨rfl, by omega⟩) (by decide) ?_
      refine g_i2l hX dX3_digestOn_134 ?_
      refine g_ladd hX dX3_digestOn_135 ?_
      refine g_lstore_n hX dX3_digestOn_136 rfl (by decide) ?_
      refine g_ldc2 (v := 31) hX dX3_digestOn_137 b_ct_X3_96 ?_
      refine g_lload_n hX dX3_digestOn_140 rfl rfl ?_
      refine g_lmul hX dX3_digestOn_141 ?_
      refine g_aload_n hX dX3_digestOn_142 rfl rfl ?_
      refine g_iload hX dX3_digestOn_143 rfl ?_
      refine g_callVp _ hX dX3_digestOn_145 k_X3_68 ⟨by decide, by decide⟩ (by decide) hV.k0 rfl rfl (ok_isAsleep hV _) rfl (Nat.le_of_ble_eq_true rfl) ?_
      refine g_if_eq (tgt := 155) hX dX3_digestOn_148 (by decide) (fun c_148 => ?_) (fun c_148 => ?_)
      · refine g_iconst (v := 0) hX dX3_digestOn_155 (by decide) ?_
        refine g_i2l hX dX3_digestOn_156 ?_
        refine g_ladd hX dX3_digestOn_157 ?_
        refine g_lstore_n hX dX3_digestOn_158 rfl (by decide) ?_
        refine g_iinc hX dX3_digestOn_159 rfl (d := 1) (by decide) ?_
        refine g_goto (tgt := 68) hX dX3_digestOn_162 (by decide) ?_
        exact G.at (ih hlt) ⟨rfl, vL (by rw [dgD]; rw [c_148]; rfl), vI (nI_1 k), trivial⟩
      · refine g_iconst (v := 1) hX dX3_digestOn_151 (by decide) ?_
        refine g_goto (tgt := 156) hX dX3_digestOn_152 (by decide) ?_
        refine g_i2l hX dX3_digestOn_156 ?_
        refine g_ladd hX dX3_digestOn_157 ?_
        refine g_lstore_n hX dX3_digestOn_158 rfl (by decide) ?_
        refine g_iinc hX dX3_digestOn_159 rfl (d := 1) (by decide) ?_
        refine g_goto (tgt := 68) hX dX3_digestOn_162 (by decide) ?_
        exact G.at (ih hlt) ⟨rfl, vL (by rw [dgD]; rw [show inF (I v 2) (nI k) = 1 from (inF_01 _ _).resolve_left c_148]; rfl), vI (nI_1 k), trivial⟩
    )
  have loop1 := loop_up (n := n) (P := fun c => G X w mX3_digestOn I L 5 (lvO [(0, .ref (gA w v)), (3, .long (dgM (I (v + 1)) (I (v + 2)) (I (v + 3)) h c)), (5, .int (nI c))]) []) (fun c hk ih => by
    refine g_iload hX dX3_digestOn_5 rfl ?_
    refine g_aload_n hX dX3_digestOn_7 rfl rfl ?_
    refine g_get3I hX 0 dX3_digestOn_8 b_fl_X3_39 hV.k0 (by decide) ?_
    rw [hn]
    refine g_icmp_ge (tgt := 65) hX dX3_digestOn_11 (by decide) (fun c_11 => ?_) (fun c_11 => ?_)
    · refine g_iconst (v := 0) hX dX3_digestOn_65 (by decide) ?_
      refine g_istore hX dX3_digestOn_66 (by decide) ?_
      exact G.at (loop2 0 (Nat.zero_le _)) ⟨rfl, vL (by rw [show c = n from Nat.le_antisymm hk (nle c_11 (by omega) (by omega))]; rfl), rfl, trivial⟩
    · have hlt := nnle c_11 (by omega) (by omega)
      refine g_ldc2 (v := 31) hX dX3_digestOn_14 b_ct_X3_96 ?_
      refine g_lload_n hX dX3_digestOn_17 rfl rfl ?_
      refine g_lmul hX dX3_digestOn_18 ?_
      refine g_aload_n hX dX3_digestOn_19 rfl rfl ?_
      refine g_get3R hX 6 dX3_digestOn_20 b_fl_X3_9 hV.k0 (by decide) hV.p6 ?_
      refine g_iload hX dX3_digestOn_23 rfl ?_
      refine g_ialdN hX dX3_digestOn_25 hV.k1 (⟨rfl, by omega⟩) (by decide) ?_
      refine g_i2l hX dX3_digestOn_26 ?_
      refine g_ladd hX dX3_digestOn_27 ?_
      refine g_lstore_n hX dX3_digestOn_28 rfl (by decide) ?_
      refine g_ldc2 (v := 31) hX dX3_digestOn_29 b_ct_X3_96 ?_
      refine g_lload_n hX dX3_digestOn_32 rfl rfl ?_
      refine g_lmul hX dX3_digestOn_33 ?_
      refine g_aload_n hX dX3_digestOn_34 rfl rfl ?_
      refine g_get3R hX 7 dX3_digestOn_35 b_fl_X3_15 hV.k0 (by decide) hV.p7 ?_
      refine g_iload hX dX3_digestOn_38 rfl ?_
      refine g_ialdN hX dX3_digestOn_40 hV.k2 (⟨rfl, by omega⟩) (by decide) ?_
      refine g_i2l hX dX3_digestOn_41 ?_
      refine g_ladd hX dX3_digestOn_42 ?_
      refine g_lstore_n hX dX3_digestOn_43 rfl (by decide) ?_
      refine g_ldc2 (v := 31) hX dX3_digestOn_44 b_ct_X3_96 ?_
      refine g_lload_n hX dX3_digestOn_47 rfl rfl ?_
      refine g_lmul hX dX3_digestOn_48 ?_
      refine g_aload_n hX dX3_digestOn_49 rfl rfl ?_
      refine g_get3R hX 8 dX3_digestOn_50 b_fl_X3_18 hV.k0 (by decide) hV.p8 ?_
      refine g_iload hX dX3_digestOn_53 rfl ?_
      refine g_ialdN hX dX3_digestOn_55 hV.k3 (⟨rfl, by omega⟩) (by decide) ?_
      refine g_i2l hX dX3_digestOn_56 ?_
      refine g_ladd hX dX3_digestOn_57 ?_
      refine g_lstore_n hX dX3_digestOn_58 rfl (by decide) ?_
      refine g_iinc hX dX3_digestOn_59 rfl (d := 1) (by decide) ?_
      refine g_goto (tgt := 5) hX dX3_digestOn_62 (by decide) ?_
      exact G.at (ih hlt) ⟨rfl, vL rfl, vI (nI_1 c), trivial⟩
    )
  refine g_lload_n hX dX3_digestOn_0 rfl rfl ?_
  refine g_lstore_n hX dX3_digestOn_1 rfl (by decide) ?_
  refine g_iconst (v := 0) hX dX3_digestOn_2 (by decide) ?_
  refine g_istore hX dX3_digestOn_3 (by decide) ?_
  exact G.at (loop1 0 (Nat.zero_le _)) ⟨rfl, rfl, rfl, trivial⟩
