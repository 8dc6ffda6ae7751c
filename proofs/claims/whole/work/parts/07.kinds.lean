set_option maxHeartbeats 4000000 in
set_option maxRecDepth 100000 in
theorem ok_wouldBite {w : WG} {I : SI} {L : SL} (k f b : Int32) : Ok w mX0_wouldBite [.int k, .int f, .int b] I L (Pr (.int (wbF k f b)) I L) := by
  refine Ok.of (by decide) (Nat.le_of_ble_eq_true rfl) (fun X hX => ?_)
  refine g_iload_n hX dX0_wouldBite_0 rfl rfl ?_
  by_cases s_1_2 : k = 2
  · refine g_tabIn (tgt := 32) hX dX0_wouldBite_1 (by rw [s_1_2]; decide) (by rw [s_1_2]; decide) (by rw [s_1_2]; rfl) (by decide) ?_
    refine g_iload_n hX dX0_wouldBite_32 rfl rfl ?_
    refine g_if_ne (tgt := 40) hX dX0_wouldBite_33 (by decide) (fun c_33 => ?_) (fun c_33 => ?_)
    · refine g_iconst (v := 0) hX dX0_wouldBite_40 (by decide) ?_
      exact g_zret hX dX0_wouldBite_41 rfl rfl (⟨by simp_all [wbF, Int32.not_le, Int32.not_lt], rfl, rfl⟩)
    · refine g_iconst (v := 1) hX dX0_wouldBite_36 (by decide) ?_
      refine g_goto (tgt := 41) hX dX0_wouldBite_37 (by decide) ?_
      exact g_zret hX dX0_wouldBite_41 rfl rfl (⟨by simp_all [wbF, Int32.not_le, Int32.not_lt], rfl, rfl⟩)
  by_cases s_1_3 : k = 3
  · refine g_tabIn (tgt := 42) hX dX0_wouldBite_1 (by rw [s_1_3]; decide) (by rw [s_1_3]; decide) (by rw [s_1_3]; rfl) (by decide) ?_
    refine g_iload_n hX dX0_wouldBite_42 rfl rfl ?_
    refine g_bipush (v := 8) hX dX0_wouldBite_43 (by decide) ?_
    refine g_icmp_ge (tgt := 52) hX dX0_wouldBite_45 (by decide) (fun c_45 => ?_) (fun c_45 => ?_)
    · refine g_iconst (v := 0) hX dX0_wouldBite_52 (by decide) ?_
      exact g_zret hX dX0_wouldBite_53 rfl rfl (⟨by simp_all [wbF, Int32.not_le, Int32.not_lt], rfl, rfl⟩)
    · refine g_iconst (v := 1) hX dX0_wouldBite_48 (by decide) ?_
      refine g_goto (tgt := 53) hX dX0_wouldBite_49 (by decide) ?_
      exact g_zret hX dX0_wouldBite_53 rfl rfl (⟨by simp_all [wbF, Int32.not_le, Int32.not_lt], rfl, rfl⟩)
  by_cases s_1_4 : k = 4
  · refine g_tabIn (tgt := 32) hX dX0_wouldBite_1 (by rw [s_1_4]; decide) (by rw [s_1_4]; decide) (by rw [s_1_4]; rfl) (by decide) ?_
    refine g_iload_n hX dX0_wouldBite_32 rfl rfl ?_
    refine g_if_ne (tgt := 40) hX dX0_wouldBite_33 (by decide) (fun c_33 => ?_) (fun c_33 => ?_)
    · refine g_iconst (v := 0) hX dX0_wouldBite_40 (by decide) ?_
      exact g_zret hX dX0_wouldBite_41 rfl rfl (⟨by simp_all [wbF, Int32.not_le, Int32.not_lt], rfl, rfl⟩)
    · refine g_iconst (v := 1) hX dX0_wouldBite_36 (by decide) ?_
      refine g_goto (tgt := 41) hX dX0_wouldBite_37 (by decide) ?_
      exact g_zret hX dX0_wouldBite_41 rfl rfl (⟨by simp_all [wbF, Int32.not_le, Int32.not_lt], rfl, rfl⟩)
  by_cases s_1_5 : k = 5
  · refine g_tabIn (tgt := 54) hX dX0_wouldBite_1 (by rw [s_1_5]; decide) (by rw [s_1_5]; decide) (by rw [s_1_5]; rfl) (by decide) ?_
    refine g_iload_n hX dX0_wouldBite_54 rfl rfl ?_
    refine g_iconst (v := 5) hX dX0_wouldBite_55 (by decide) ?_
    refine g_icmp_ge (tgt := 63) hX dX0_wouldBite_56 (by decide) (fun c_56 => ?_) (fun c_56 => ?_)
    · refine g_iconst (v := 0) hX dX0_wouldBite_63 (by decide) ?_
      exact g_zret hX dX0_wouldBite_64 rfl rfl (⟨by simp_all [wbF, Int32.not_le, Int32.not_lt], rfl, rfl⟩)
    · refine g_iconst (v := 1) hX dX0_wouldBite_59 (by decide) ?_
      refine g_goto (tgt := 64) hX dX0_wouldBite_60 (by decide) ?_
      exact g_zret hX dX0_wouldBite_64 rfl rfl (⟨by simp_all [wbF, Int32.not_le, Int32.not_lt], rfl, rfl⟩)
  refine g_tabOut (tgt := 65) hX dX0_wouldBite_1 (tab_out (fun j h1 h2 => by rcases (show j = 2 ∨ j = 3 ∨ j = 4 ∨ j = 5 by omega) with rfl | rfl | rfl | rfl <;> assumption)) (by decide) ?_
  refine g_iload_n hX dX0_wouldBite_65 rfl rfl ?_
  refine g_if_ne (tgt := 79) hX dX0_wouldBite_66 (by decide) (fun c_66 => ?_) (fun c_66 => ?_)
  · refine g_iconst (v := 0) hX dX0_wouldBite_79 (by decide) ?_
    exact g_zret hX dX0_wouldBite_80 rfl rfl (⟨by simp_all [wbF, Int32.not_le, Int32.not_lt], rfl, rfl⟩)
  · refine g_iload_n hX dX0_wouldBite_69 rfl rfl ?_
    refine g_bipush (v := 8) hX dX0_wouldBite_70 (by decide) ?_
    refine g_icmp_ge (tgt := 79) hX dX0_wouldBite_72 (by decide) (fun c_72 => ?_) (fun c_72 => ?_)
    · refine g_iconst (v := 0) hX dX0_wouldBite_79 (by decide) ?_
      exact g_zret hX dX0_wouldBite_80 rfl rfl (⟨by simp_all [wbF, Int32.not_le, Int32.not_lt], rfl, rfl⟩)
    · refine g_iconst (v := 1) hX dX0_wouldBite_75 (by decide) ?_
      refine g_goto (tgt := 80) hX dX0_wouldBite_76 (by decide) ?_
      exact g_zret hX dX0_wouldBite_80 rfl rfl (⟨by simp_all [wbF, Int32.not_le, Int32.not_lt], rfl, rfl⟩)
set_option maxHeartbeats 4000000 in
set_option maxRecDepth 100000 in
theorem ok_bites {w : WG} {I : SI} {L : SL} (k : Int32) : Ok w mX0_bites [.int k] I L (Pr (.int (nbF k)) I L) := by
  refine Ok.of (by decide) (Nat.le_of_ble_eq_true rfl) (fun X hX => ?_)
  refine g_iload_n hX dX0_bites_0 rfl rfl ?_
  by_cases s_1_3 : k = 3
  · refine g_tabIn (tgt := 28) hX dX0_bites_1 (by rw [s_1_3]; decide) (by rw [s_1_3]; decide) (by rw [s_1_3]; rfl) (by decide) ?_
    refine g_iconst (v := 3) hX dX0_bites_28 (by decide) ?_
    exact g_iret hX dX0_bites_29 rfl (⟨by simp_all [nbF, Int32.not_le, Int32.not_lt], rfl, rfl⟩)
  by_cases s_1_4 : k = 4
  · refine g_tabIn (tgt := 30) hX dX0_bites_1 (by rw [s_1_4]; decide) (by rw [s_1_4]; decide) (by rw [s_1_4]; rfl) (by decide) ?_
    refine g_iconst (v := 1) hX dX0_bites_30 (by decide) ?_
    exact g_iret hX dX0_bites_31 rfl (⟨by simp_all [nbF, Int32.not_le, Int32.not_lt], rfl, rfl⟩)
  by_cases s_1_5 : k = 5
  · refine g_tabIn (tgt := 28) hX dX0_bites_1 (by rw [s_1_5]; decide) (by rw [s_1_5]; decide) (by rw [s_1_5]; rfl) (by decide) ?_
    refine g_iconst (v := 3) hX dX0_bites_28 (by decide) ?_
    exact g_iret hX dX0_bites_29 rfl (⟨by simp_all [nbF, Int32.not_le, Int32.not_lt], rfl, rfl⟩)
  refine g_tabOut (tgt := 32) hX dX0_bites_1 (tab_out (fun j h1 h2 => by rcases (show j = 3 ∨ j = 4 ∨ j = 5 by omega) with rfl | rfl | rfl <;> assumption)) (by decide) ?_
  refine g_iconst (v := 2) hX dX0_bites_32 (by decide) ?_
  exact g_iret hX dX0_bites_33 rfl (⟨by simp_all [nbF, Int32.not_le, Int32.not_lt], rfl, rfl⟩)
set_option maxHeartbeats 4000000 in
set_option maxRecDepth 100000 in
theorem ok_width {w : WG} {I : SI} {L : SL} (k x : Int32) : Ok w mX0_width [.int k, .int x] I L (Pr (.int (wdF k x)) I L) := by
  refine Ok.of (by decide) (Nat.le_of_ble_eq_true rfl) (fun X hX => ?_)
  refine g_iload_n hX dX0_width_0 rfl rfl ?_
  by_cases s_1_1 : k = 1
  · refine g_tabIn (tgt := 36) hX dX0_width_1 (by rw [s_1_1]; decide) (by rw [s_1_1]; decide) (by rw [s_1_1]; rfl) (by decide) ?_
    refine g_iconst (v := 0) hX dX0_width_36 (by decide) ?_
    exact g_iret hX dX0_width_37 rfl (⟨by simp_all [wdF, Int32.not_le, Int32.not_lt], rfl, rfl⟩)
  by_cases s_1_2 : k = 2
  · refine g_tabIn (tgt := 38) hX dX0_width_1 (by rw [s_1_2]; decide) (by rw [s_1_2]; decide) (by rw [s_1_2]; rfl) (by decide) ?_
    refine g_iconst (v := 2) hX dX0_width_38 (by decide) ?_
    refine g_iload_n hX dX0_width_39 rfl rfl ?_
    refine g_imul hX dX0_width_40 ?_
    exact g_iret hX dX0_width_41 rfl (⟨by simp_all [wdF, Int32.not_le, Int32.not_lt], rfl, rfl⟩)
  by_cases s_1_3 : k = 3
  · refine g_tabIn (tgt := 46) hX dX0_width_1 (by rw [s_1_3]; decide) (by rw [s_1_3]; decide) (by rw [s_1_3]; rfl) (by decide) ?_
    refine g_iload_n hX dX0_width_46 rfl rfl ?_
    exact g_iret hX dX0_width_47 rfl (⟨by simp_all [wdF, Int32.not_le, Int32.not_lt], rfl, rfl⟩)
  by_cases s_1_4 : k = 4
  · refine g_tabIn (tgt := 38) hX dX0_width_1 (by rw [s_1_4]; decide) (by rw [s_1_4]; decide) (by rw [s_1_4]; rfl) (by decide) ?_
    refine g_iconst (v := 2) hX dX0_width_38 (by decide) ?_
    refine g_iload_n hX dX0_width_39 rfl rfl ?_
    refine g_imul hX dX0_width_40 ?_
    exact g_iret hX dX0_width_41 rfl (⟨by simp_all [wdF, Int32.not_le, Int32.not_lt], rfl, rfl⟩)
  by_cases s_1_5 : k = 5
  · refine g_tabIn (tgt := 42) hX dX0_width_1 (by rw [s_1_5]; decide) (by rw [s_1_5]; decide) (by rw [s_1_5]; rfl) (by decide) ?_
    refine g_iload_n hX dX0_width_42 rfl rfl ?_
    refine g_iconst (v := 1) hX dX0_width_43 (by decide) ?_
    refine g_iadd hX dX0_width_44 ?_
    exact g_iret hX dX0_width_45 rfl (⟨by simp_all [wdF, Int32.not_le, Int32.not_lt], rfl, rfl⟩)
  refine g_tabOut (tgt := 46) hX dX0_width_1 (tab_out (fun j h1 h2 => by rcases (show j = 1 ∨ j = 2 ∨ j = 3 ∨ j = 4 ∨ j = 5 by omega) with rfl | rfl | rfl | rfl | rfl <;> assumption)) (by decide) ?_
  refine g_iload_n hX dX0_width_46 rfl rfl ?_
  exact g_iret hX dX0_width_47 rfl (⟨by simp_all [wdF, Int32.not_le, Int32.not_lt], rfl, rfl⟩)
set_option maxHeartbeats 4000000 in
set_option maxRecDepth 100000 in
theorem ok_isIn {w : WG} {I : SI} {L : SL} (s k : Int32) : Ok w mX3_isIn [.int s, .int k] I L (Pr (.int (inF s k)) I L) := by
  refine Ok.of (by decide) (Nat.le_of_ble_eq_true rfl) (fun X hX => ?_)
  refine g_iload_n hX dX3_isIn_0 rfl rfl ?_
  refine g_iload_n hX dX3_isIn_1 rfl rfl ?_
  refine g_ishr hX dX3_isIn_2 ?_
  refine g_iconst (v := 1) hX dX3_isIn_3 (by decide) ?_
  refine g_iand hX dX3_isIn_4 ?_
  refine g_iconst (v := 1) hX dX3_isIn_5 (by decide) ?_
  refine g_icmp_ne (tgt := 13) hX dX3_isIn_6 (by decide) (fun c_6 => ?_) (fun c_6 => ?_)
  · refine g_iconst (v := 0) hX dX3_isIn_13 (by decide) ?_
    exact g_zret hX dX3_isIn_14 rfl rfl (⟨by simp_all [inF, Int32.not_le, Int32.not_lt], rfl, rfl⟩)
  · refine g_iconst (v := 1) hX dX3_isIn_9 (by decide) ?_
    refine g_goto (tgt := 14) hX dX3_isIn_10 (by decide) ?_
    exact g_zret hX dX3_isIn_14 rfl rfl (⟨by simp_all [inF, Int32.not_le, Int32.not_lt], rfl, rfl⟩)
set_option maxHeartbeats 4000000 in
set_option maxRecDepth 100000 in
theorem ok_bitesBy {w : WG} {I : SI} {L : SL} (k f b : Int32) : Ok w mX5_bitesBy [.int k, .int f, .int b] I L (Pr (.int (wbF k f b)) I L) := by
  refine Ok.of (by decide) (Nat.le_of_ble_eq_true rfl) (fun X hX => ?_)
  refine g_iload_n hX dX5_bitesBy_0 rfl rfl ?_
  by_cases s_1_2 : k = 2
  · refine g_tabIn (tgt := 32) hX dX5_bitesBy_1 (by rw [s_1_2]; decide) (by rw [s_1_2]; decide) (by rw [s_1_2]; rfl) (by decide) ?_
    refine g_iload_n hX dX5_bitesBy_32 rfl rfl ?_
    refine g_if_ne (tgt := 40) hX dX5_bitesBy_33 (by decide) (fun c_33 => ?_) (fun c_33 => ?_)
    · refine g_iconst (v := 0) hX dX5_bitesBy_40 (by decide) ?_
      exact g_zret hX dX5_bitesBy_41 rfl rfl (⟨by simp_all [wbF, Int32.not_le, Int32.not_lt], rfl, rfl⟩)
    · refine g_iconst (v := 1) hX dX5_bitesBy_36 (by decide) ?_
      refine g_goto (tgt := 41) hX dX5_bitesBy_37 (by decide) ?_
      exact g_zret hX dX5_bitesBy_41 rfl rfl (⟨by simp_all [wbF, Int32.not_le, Int32.not_lt], rfl, rfl⟩)
  by_cases s_1_3 : k = 3
  · refine g_tabIn (tgt := 42) hX dX5_bitesBy_1 (by rw [s_1_3]; decide) (by rw [s_1_3]; decide) (by rw [s_1_3]; rfl) (by decide) ?_
    refine g_iload_n hX dX5_bitesBy_42 rfl rfl ?_
    refine g_bipush (v := 8) hX dX5_bitesBy_43 (by decide) ?_
    refine g_icmp_ge (tgt := 52) hX dX5_bitesBy_45 (by decide) (fun c_45 => ?_) (fun c_45 => ?_)
    · refine g_iconst (v := 0) hX dX5_bitesBy_52 (by decide) ?_
      exact g_zret hX dX5_bitesBy_53 rfl rfl (⟨by simp_all [wbF, Int32.not_le, Int32.not_lt], rfl, rfl⟩)
    · refine g_iconst (v := 1) hX dX5_bitesBy_48 (by decide) ?_
      refine g_goto (tgt := 53) hX dX5_bitesBy_49 (by decide) ?_
      exact g_zret hX dX5_bitesBy_53 rfl rfl (⟨by simp_all [wbF, Int32.not_le, Int32.not_lt], rfl, rfl⟩)
  by_cases s_1_4 : k = 4
  · refine g_tabIn (tgt := 54) hX dX5_bitesBy_1 (by rw [s_1_4]; decide) (by rw [s_1_4]; decide) (by rw [s_1_4]; rfl) (by decide) ?_
    refine g_iload_n hX dX5_bitesBy_54 rfl rfl ?_
    refine g_if_ne (tgt := 62) hX dX5_bitesBy_55 (by decide) (fun c_55 => ?_) (fun c_55 => ?_)
    · refine g_iconst (v := 0) hX dX5_bitesBy_62 (by decide) ?_
      exact g_zret hX dX5_bitesBy_63 rfl rfl (⟨by simp_all [wbF, Int32.not_le, Int32.not_lt], rfl, rfl⟩)
    · refine g_iconst (v := 1) hX dX5_bitesBy_58 (by decide) ?_
      refine g_goto (tgt := 63) hX dX5_bitesBy_59 (by decide) ?_
      exact g_zret hX dX5_bitesBy_63 rfl rfl (⟨by simp_all [wbF, Int32.not_le, Int32.not_lt], rfl, rfl⟩)
  by_cases s_1_5 : k = 5
  · refine g_tabIn (tgt := 64) hX dX5_bitesBy_1 (by rw [s_1_5]; decide) (by rw [s_1_5]; decide) (by rw [s_1_5]; rfl) (by decide) ?_
    refine g_iload_n hX dX5_bitesBy_64 rfl rfl ?_
    refine g_iconst (v := 5) hX dX5_bitesBy_65 (by decide) ?_
    refine g_icmp_ge (tgt := 73) hX dX5_bitesBy_66 (by decide) (fun c_66 => ?_) (fun c_66 => ?_)
    · refine g_iconst (v := 0) hX dX5_bitesBy_73 (by decide) ?_
      exact g_zret hX dX5_bitesBy_74 rfl rfl (⟨by simp_all [wbF, Int32.not_le, Int32.not_lt], rfl, rfl⟩)
    · refine g_iconst (v := 1) hX dX5_bitesBy_69 (by decide) ?_
      refine g_goto (tgt := 74) hX dX5_bitesBy_70 (by decide) ?_
      exact g_zret hX dX5_bitesBy_74 rfl rfl (⟨by simp_all [wbF, Int32.not_le, Int32.not_lt], rfl, rfl⟩)
  refine g_tabOut (tgt := 75) hX dX5_bitesBy_1 (tab_out (fun j h1 h2 => by rcases (show j = 2 ∨ j = 3 ∨ j = 4 ∨ j = 5 by omega) with rfl | rfl | rfl | rfl <;> assumption)) (by decide) ?_
  refine g_iload_n hX dX5_bitesBy_75 rfl rfl ?_
  refine g_if_ne (tgt := 89) hX dX5_bitesBy_76 (by decide) (fun c_76 => ?_) (fun c_76 => ?_)
  · refine g_iconst (v := 0) hX dX5_bitesBy_89 (by decide) ?_
    exact g_zret hX dX5_bitesBy_90 rfl rfl (⟨by simp_all [wbF, Int32.not_le, Int32.not_lt], rfl, rfl⟩)
  · refine g_iload_n hX dX5_bitesBy_79 rfl rfl ?_
    refine g_bipush (v := 8) hX dX5_bitesBy_80 (by decide) ?_
    refine g_icmp_ge (tgt := 89) hX dX5_bitesBy_82 (by decide) (fun c_82 => ?_) (fun c_82 => ?_)
    · refine g_iconst (v := 0) hX dX5_bitesBy_89 (by decide) ?_
      exact g_zret hX dX5_bitesBy_90 rfl rfl (⟨by simp_all [wbF, Int32.not_le, Int32.not_lt], rfl, rfl⟩)
    · refine g_iconst (v := 1) hX dX5_bitesBy_85 (by decide) ?_
      refine g_goto (tgt := 90) hX dX5_bitesBy_86 (by decide) ?_
      exact g_zret hX dX5_bitesBy_90 rfl rfl (⟨by simp_all [wbF, Int32.not_le, Int32.not_lt], rfl, rfl⟩)
set_option maxHeartbeats 4000000 in
set_option maxRecDepth 100000 in
theorem ok_bitesMany {w : WG} {I : SI} {L : SL} (k : Int32) : Ok w mX5_bitesMany [.int k] I L (Pr (.int (nbF k)) I L) := by
  refine Ok.of (by decide) (Nat.le_of_ble_eq_true rfl) (fun X hX => ?_)
  refine g_iload_n hX dX5_bitesMany_0 rfl rfl ?_
  by_cases s_1_3 : k = 3
  · refine g_tabIn (tgt := 28) hX dX5_bitesMany_1 (by rw [s_1_3]; decide) (by rw [s_1_3]; decide) (by rw [s_1_3]; rfl) (by decide) ?_
    refine g_iconst (v := 3) hX dX5_bitesMany_28 (by decide) ?_
    exact g_iret hX dX5_bitesMany_29 rfl (⟨by simp_all [nbF, Int32.not_le, Int32.not_lt], rfl, rfl⟩)
  by_cases s_1_4 : k = 4
  · refine g_tabIn (tgt := 30) hX dX5_bitesMany_1 (by rw [s_1_4]; decide) (by rw [s_1_4]; decide) (by rw [s_1_4]; rfl) (by decide) ?_
    refine g_iconst (v := 1) hX dX5_bitesMany_30 (by decide) ?_
    exact g_iret hX dX5_bitesMany_31 rfl (⟨by simp_all [nbF, Int32.not_le, Int32.not_lt], rfl, rfl⟩)
  by_cases s_1_5 : k = 5
  · refine g_tabIn (tgt := 32) hX dX5_bitesMany_1 (by rw [s_1_5]; decide) (by rw [s_1_5]; decide) (by rw [s_1_5]; rfl) (by decide) ?_
    refine g_iconst (v := 3) hX dX5_bitesMany_32 (by decide) ?_
    exact g_iret hX dX5_bitesMany_33 rfl (⟨by simp_all [nbF, Int32.not_le, Int32.not_lt], rfl, rfl⟩)
  refine g_tabOut (tgt := 34) hX dX5_bitesMany_1 (tab_out (fun j h1 h2 => by rcases (show j = 3 ∨ j = 4 ∨ j = 5 by omega) with rfl | rfl | rfl <;> assumption)) (by decide) ?_
  refine g_iconst (v := 2) hX dX5_bitesMany_34 (by decide) ?_
  exact g_iret hX dX5_bitesMany_35 rfl (⟨by simp_all [nbF, Int32.not_le, Int32.not_lt], rfl, rfl⟩)
set_option maxHeartbeats 4000000 in
set_option maxRecDepth 100000 in
theorem ok_holeBy {w : WG} {I : SI} {L : SL} (k x : Int32) : Ok w mX5_holeBy [.int k, .int x] I L (Pr (.int (wdF k x)) I L) := by
  refine Ok.of (by decide) (Nat.le_of_ble_eq_true rfl) (fun X hX => ?_)
  refine g_iload_n hX dX5_holeBy_0 rfl rfl ?_
  by_cases s_1_1 : k = 1
  · refine g_tabIn (tgt := 36) hX dX5_holeBy_1 (by rw [s_1_1]; decide) (by rw [s_1_1]; decide) (by rw [s_1_1]; rfl) (by decide) ?_
    refine g_iconst (v := 0) hX dX5_holeBy_36 (by decide) ?_
    exact g_iret hX dX5_holeBy_37 rfl (⟨by simp_all [wdF, Int32.not_le, Int32.not_lt], rfl, rfl⟩)
  by_cases s_1_2 : k = 2
  · refine g_tabIn (tgt := 38) hX dX5_holeBy_1 (by rw [s_1_2]; decide) (by rw [s_1_2]; decide) (by rw [s_1_2]; rfl) (by decide) ?_
    refine g_iconst (v := 2) hX dX5_holeBy_38 (by decide) ?_
    refine g_iload_n hX dX5_holeBy_39 rfl rfl ?_
    refine g_imul hX dX5_holeBy_40 ?_
    exact g_iret hX dX5_holeBy_41 rfl (⟨by simp_all [wdF, Int32.not_le, Int32.not_lt], rfl, rfl⟩)
  by_cases s_1_3 : k = 3
  · refine g_tabIn (tgt := 50) hX dX5_holeBy_1 (by rw [s_1_3]; decide) (by rw [s_1_3]; decide) (by rw [s_1_3]; rfl) (by decide) ?_
    refine g_iload_n hX dX5_holeBy_50 rfl rfl ?_
    exact g_iret hX dX5_holeBy_51 rfl (⟨by simp_all [wdF, Int32.not_le, Int32.not_lt], rfl, rfl⟩)
  by_cases s_1_4 : k = 4
  · refine g_tabIn (tgt := 42) hX dX5_holeBy_1 (by rw [s_1_4]; decide) (by rw [s_1_4]; decide) (by rw [s_1_4]; rfl) (by decide) ?_
    refine g_iconst (v := 2) hX dX5_holeBy_42 (by decide) ?_
    refine g_iload_n hX dX5_holeBy_43 rfl rfl ?_
    refine g_imul hX dX5_holeBy_44 ?_
    exact g_iret hX dX5_holeBy_45 rfl (⟨by simp_all [wdF, Int32.not_le, Int32.not_lt], rfl, rfl⟩)
  by_cases s_1_5 : k = 5
  · refine g_tabIn (tgt := 46) hX dX5_holeBy_1 (by rw [s_1_5]; decide) (by rw [s_1_5]; decide) (by rw [s_1_5]; rfl) (by decide) ?_
    refine g_iload_n hX dX5_holeBy_46 rfl rfl ?_
    refine g_iconst (v := 1) hX dX5_holeBy_47 (by decide) ?_
    refine g_iadd hX dX5_holeBy_48 ?_
    exact g_iret hX dX5_holeBy_49 rfl (⟨by simp_all [wdF, Int32.not_le, Int32.not_lt], rfl, rfl⟩)
  refine g_tabOut (tgt := 50) hX dX5_holeBy_1 (tab_out (fun j h1 h2 => by rcases (show j = 1 ∨ j = 2 ∨ j = 3 ∨ j = 4 ∨ j = 5 by omega) with rfl | rfl | rfl | rfl | rfl <;> assumption)) (by decide) ?_
  refine g_iload_n hX dX5_holeBy_50 rfl rfl ?_
  exact g_iret hX dX5_holeBy_51 rfl (⟨by simp_all [wdF, Int32.not_le, Int32.not_lt], rfl, rfl⟩)
set_option maxHeartbeats 4000000 in
set_option maxRecDepth 100000 in
theorem ok_has {w : WG} {I : SI} {L : SL} (s k : Int32) : Ok w mX5_has [.int s, .int k] I L (Pr (.int (inF s k)) I L) := by
  refine Ok.of (by decide) (Nat.le_of_ble_eq_true rfl) (fun X hX => ?_)
  refine g_iload_n hX dX5_has_0 rfl rfl ?_
  refine g_iload_n hX dX5_has_1 rfl rfl ?_
  refine g_ishr hX dX5_has_2 ?_
  refine g_iconst (v := 1) hX dX5_has_3 (by decide) ?_
  refine g_iand hX dX5_has_4 ?_
  refine g_iconst (v := 1) hX dX5_has_5 (by decide) ?_
  refine g_icmp_ne (tgt := 13) hX dX5_has_6 (by decide) (fun c_6 => ?_) (fun c_6 => ?_)
  · refine g_iconst (v := 0) hX dX5_has_13 (by decide) ?_
    exact g_zret hX dX5_has_14 rfl rfl (⟨by simp_all [inF, Int32.not_le, Int32.not_lt], rfl, rfl⟩)
  · refine g_iconst (v := 1) hX dX5_has_9 (by decide) ?_
    refine g_goto (tgt := 14) hX dX5_has_10 (by decide) ?_
    exact g_zret hX dX5_has_14 rfl rfl (⟨by simp_all [inF, Int32.not_le, Int32.not_lt], rfl, rfl⟩)
set_option maxHeartbeats 4000000 in
set_option maxRecDepth 100000 in
theorem ok_within {w : WG} {I : SI} {L : SL} (v a b : Int32) : Ok w mX4_within [.int v, .int a, .int b] I L (Pr (.int (b01 (a ≤ v ∧ v ≤ b))) I L) := by
  refine Ok.of (by decide) (Nat.le_of_ble_eq_true rfl) (fun X hX => ?_)
  refine g_iload_n hX dX4_within_0 rfl rfl ?_
  refine g_iload_n hX dX4_within_1 rfl rfl ?_
  refine g_icmp_lt (tgt := 14) hX dX4_within_2 (by decide) (fun c_2 => ?_) (fun c_2 => ?_)
  · refine g_iconst (v := 0) hX dX4_within_14 (by decide) ?_
    exact g_zret hX dX4_within_15 rfl rfl (⟨by simp [b01, Int32.not_le.mpr c_2], rfl, rfl⟩)
  · refine g_iload_n hX dX4_within_5 rfl rfl ?_
    refine g_iload_n hX dX4_within_6 rfl rfl ?_
    refine g_icmp_gt (tgt := 14) hX dX4_within_7 (by decide) (fun c_7 => ?_) (fun c_7 => ?_)
    · refine g_iconst (v := 0) hX dX4_within_14 (by decide) ?_
      exact g_zret hX dX4_within_15 rfl rfl (⟨by simp [b01, Int32.not_le.mpr c_7], rfl, rfl⟩)
    · refine g_iconst (v := 1) hX dX4_within_10 (by decide) ?_
      refine g_goto (tgt := 15) hX dX4_within_11 (by decide) ?_
      exact g_zret hX dX4_within_15 rfl rfl (⟨by simp [b01, Int32.not_lt.mp c_2, Int32.not_lt.mp c_7], rfl, rfl⟩)
set_option maxHeartbeats 4000000 in
set_option maxRecDepth 100000 in
theorem ok_in {w : WG} {I : SI} {L : SL} (v a b : Int32) : Ok w mX5_in [.int v, .int a, .int b] I L (Pr (.int (b01 (a ≤ v ∧ v ≤ b))) I L) := by
  refine Ok.of (by decide) (Nat.le_of_ble_eq_true rfl) (fun X hX => ?_)
  refine g_iload_n hX dX5_in_0 rfl rfl ?_
  refine g_iload_n hX dX5_in_1 rfl rfl ?_
  refine g_icmp_lt (tgt := 14) hX dX5_in_2 (by decide) (fun c_2 => ?_) (fun c_2 => ?_)
  · refine g_iconst (v := 0) hX dX5_in_14 (by decide) ?_
    exact g_zret hX dX5_in_15 rfl rfl (⟨by simp [b01, Int32.not_le.mpr c_2], rfl, rfl⟩)
  · refine g_iload_n hX dX5_in_5 rfl rfl ?_
    refine g_iload_n hX dX5_in_6 rfl rfl ?_
    refine g_icmp_gt (tgt := 14) hX dX5_in_7 (by decide) (fun c_7 => ?_) (fun c_7 => ?_)
    · refine g_iconst (v := 0) hX dX5_in_14 (by decide) ?_
      exact g_zret hX dX5_in_15 rfl rfl (⟨by simp [b01, Int32.not_le.mpr c_7], rfl, rfl⟩)
    · refine g_iconst (v := 1) hX dX5_in_10 (by decide) ?_
      refine g_goto (tgt := 15) hX dX5_in_11 (by decide) ?_
      exact g_zret hX dX5_in_15 rfl rfl (⟨by simp [b01, Int32.not_lt.mp c_2, Int32.not_lt.mp c_7], rfl, rfl⟩)
