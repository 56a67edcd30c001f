set_option maxHeartbeats 4000000 in
set_option maxRecDepth 100000 in
theorem c_of_no {L : Nat} {F : Nat → Nat → Int32} {g : Nat → Option Nat} (d : Nat) (x w : Int32) (hb : ¬ (0 ≤ x ∧ x < F 7 0)) : mCall (d + 3) yX6_of MX6_of [.ref 4, .int x, .int w] (mHX L F g) (some (.int (-1))) (mHX L F g) := by
  refine mCall_of sX6_of.1 (Nat.le_of_ble_eq_true rfl) ⟨_, rfl, rfl⟩ ?_
  show mGo _ _ (0, [some (.ref 4), some (.int x), some (.int w), none], [], _) _
  refine g_aload_n dX6_of_0 rfl ?_
  refine g_gR (r := 5) dX6_of_1 fl_X6_10 (fun _ _ => rfl) rfl (by decide) rfl ?_
  refine g_gR (r := 7) dX6_of_4 fl_X6_73 (fun _ _ => rfl) rfl (by decide) rfl ?_
  refine g_astore_n dX6_of_7 (by decide) rfl ?_
  refine g_aload_n dX6_of_8 rfl ?_
  refine g_iload_n dX6_of_9 rfl ?_
  refine g_V1i dX6_of_10 ml_X6_77 sX0_isKnown rfl (by decide) (Nat.le_of_ble_eq_true rfl) (c_isKnown (d + 2) x) ?_
  refine g_if_ne (tgt := 18) dX6_of_13 (by decide) (fun c13 => absurd (mbi_f hb) c13) (fun c13 => ?_)
  refine g_iconstv (v := (-1)) dX6_of_16 rfl ?_
  exact g_iret dX6_of_17 rfl
set_option maxHeartbeats 4000000 in
set_option maxRecDepth 100000 in
theorem c_of_bad {L : Nat} {F : Nat → Nat → Int32} {g : Nat → Option Nat} (d : Nat) (x w : Int32) (hb : 0 ≤ x ∧ x < F 7 0) (hw : w.toInt < 0 ∨ 6 < w.toInt) : mCall (d + 3) yX6_of MX6_of [.ref 4, .int x, .int w] (mHX L F g) (some (.int (-2))) (mHX L F g) := by
  refine mCall_of sX6_of.1 (Nat.le_of_ble_eq_true rfl) ⟨_, rfl, rfl⟩ ?_
  show mGo _ _ (0, [some (.ref 4), some (.int x), some (.int w), none], [], _) _
  refine g_aload_n dX6_of_0 rfl ?_
  refine g_gR (r := 5) dX6_of_1 fl_X6_10 (fun _ _ => rfl) rfl (by decide) rfl ?_
  refine g_gR (r := 7) dX6_of_4 fl_X6_73 (fun _ _ => rfl) rfl (by decide) rfl ?_
  refine g_astore_n dX6_of_7 (by decide) rfl ?_
  refine g_aload_n dX6_of_8 rfl ?_
  refine g_iload_n dX6_of_9 rfl ?_
  refine g_V1i dX6_of_10 ml_X6_77 sX0_isKnown rfl (by decide) (Nat.le_of_ble_eq_true rfl) (c_isKnown (d + 2) x) ?_
  refine g_if_ne (tgt := 18) dX6_of_13 (by decide) (fun c13 => ?_) (fun c13 => absurd c13 (mbi_n0.mpr hb))
  refine g_iload_n dX6_of_18 rfl ?_
  refine g_tabOut (tgt := 116) dX6_of_19 (hw) (by decide) ?_
  refine g_bipushv (v := (-2)) dX6_of_116 rfl ?_
  exact g_iret dX6_of_118 rfl
set_option maxHeartbeats 4000000 in
set_option maxRecDepth 100000 in
theorem c_of_0 {L : Nat} {F : Nat → Nat → Int32} {g : Nat → Option Nat} (d : Nat) (n : Nat) (hn : F 7 0 = nI n) (h10 : n ≤ 10) (k : Nat) (hk : k < n) : mCall (d + 3) yX6_of MX6_of [.ref 4, .int (nI k), .int 0] (mHX L F g) (some (.int (F 8 k))) (mHX L F g) := by
  refine mCall_of sX6_of.1 (Nat.le_of_ble_eq_true rfl) ⟨_, rfl, rfl⟩ ?_
  show mGo _ _ (0, [some (.ref 4), some (.int (nI k)), some (.int 0), none], [], _) _
  have hk0 : 0 ≤ nI k ∧ nI k < F 7 0 := ⟨nI_pos' (by omega), by rw [hn]; exact nI_lt hk (by omega)⟩
  refine g_aload_n dX6_of_0 rfl ?_
  refine g_gR (r := 5) dX6_of_1 fl_X6_10 (fun _ _ => rfl) rfl (by decide) rfl ?_
  refine g_gR (r := 7) dX6_of_4 fl_X6_73 (fun _ _ => rfl) rfl (by decide) rfl ?_
  refine g_astore_n dX6_of_7 (by decide) rfl ?_
  refine g_aload_n dX6_of_8 rfl ?_
  refine g_iload_n dX6_of_9 rfl ?_
  refine g_V1i dX6_of_10 ml_X6_77 sX0_isKnown rfl (by decide) (Nat.le_of_ble_eq_true rfl) (c_isKnown (d + 2) (nI k)) ?_
  refine g_if_ne (tgt := 18) dX6_of_13 (by decide) (fun c13 => ?_) (fun c13 => absurd c13 (mbi_n0.mpr hk0))
  refine g_iload_n dX6_of_18 rfl ?_
  refine g_tabIn (off := 41) (tgt := 60) dX6_of_19 (by decide) (by decide) rfl (by decide) ?_
  refine g_aload_n dX6_of_60 rfl ?_
  refine g_gR (r := 8) dX6_of_61 fl_X6_83 (fun _ _ => rfl) rfl (by decide) rfl ?_
  refine g_iload_n dX6_of_64 rfl ?_
  refine g_ialdN (gx := k) dX6_of_65 rfl (by decide) rfl (by omega) (by decide) ?_
  exact g_iret dX6_of_66 rfl
set_option maxHeartbeats 4000000 in
set_option maxRecDepth 100000 in
theorem c_of_1 {L : Nat} {F : Nat → Nat → Int32} {g : Nat → Option Nat} (d : Nat) (n : Nat) (hn : F 7 0 = nI n) (h10 : n ≤ 10) (k : Nat) (hk : k < n) : mCall (d + 3) yX6_of MX6_of [.ref 4, .int (nI k), .int 1] (mHX L F g) (some (.int (F 9 k))) (mHX L F g) := by
  refine mCall_of sX6_of.1 (Nat.le_of_ble_eq_true rfl) ⟨_, rfl, rfl⟩ ?_
  show mGo _ _ (0, [some (.ref 4), some (.int (nI k)), some (.int 1), none], [], _) _
  have hk0 : 0 ≤ nI k ∧ nI k < F 7 0 := ⟨nI_pos' (by omega), by rw [hn]; exact nI_lt hk (by omega)⟩
  refine g_aload_n dX6_of_0 rfl ?_
  refine g_gR (r := 5) dX6_of_1 fl_X6_10 (fun _ _ => rfl) rfl (by decide) rfl ?_
  refine g_gR (r := 7) dX6_of_4 fl_X6_73 (fun _ _ => rfl) rfl (by decide) rfl ?_
  refine g_astore_n dX6_of_7 (by decide) rfl ?_
  refine g_aload_n dX6_of_8 rfl ?_
  refine g_iload_n dX6_of_9 rfl ?_
  refine g_V1i dX6_of_10 ml_X6_77 sX0_isKnown rfl (by decide) (Nat.le_of_ble_eq_true rfl) (c_isKnown (d + 2) (nI k)) ?_
  refine g_if_ne (tgt := 18) dX6_of_13 (by decide) (fun c13 => ?_) (fun c13 => absurd c13 (mbi_n0.mpr hk0))
  refine g_iload_n dX6_of_18 rfl ?_
  refine g_tabIn (off := 48) (tgt := 67) dX6_of_19 (by decide) (by decide) rfl (by decide) ?_
  refine g_aload_n dX6_of_67 rfl ?_
  refine g_gR (r := 9) dX6_of_68 fl_X6_87 (fun _ _ => rfl) rfl (by decide) rfl ?_
  refine g_iload_n dX6_of_71 rfl ?_
  refine g_ialdN (gx := k) dX6_of_72 rfl (by decide) rfl (by omega) (by decide) ?_
  exact g_iret dX6_of_73 rfl
set_option maxHeartbeats 4000000 in
set_option maxRecDepth 100000 in
theorem c_of_2 {L : Nat} {F : Nat → Nat → Int32} {g : Nat → Option Nat} (d : Nat) (n : Nat) (hn : F 7 0 = nI n) (h10 : n ≤ 10) (k : Nat) (hk : k < n) : mCall (d + 3) yX6_of MX6_of [.ref 4, .int (nI k), .int 2] (mHX L F g) (some (.int (F 10 k))) (mHX L F g) := by
  refine mCall_of sX6_of.1 (Nat.le_of_ble_eq_true rfl) ⟨_, rfl, rfl⟩ ?_
  show mGo _ _ (0, [some (.ref 4), some (.int (nI k)), some (.int 2), none], [], _) _
  have hk0 : 0 ≤ nI k ∧ nI k < F 7 0 := ⟨nI_pos' (by omega), by rw [hn]; exact nI_lt hk (by omega)⟩
  refine g_aload_n dX6_of_0 rfl ?_
  refine g_gR (r := 5) dX6_of_1 fl_X6_10 (fun _ _ => rfl) rfl (by decide) rfl ?_
  refine g_gR (r := 7) dX6_of_4 fl_X6_73 (fun _ _ => rfl) rfl (by decide) rfl ?_
  refine g_astore_n dX6_of_7 (by decide) rfl ?_
  refine g_aload_n dX6_of_8 rfl ?_
  refine g_iload_n dX6_of_9 rfl ?_
  refine g_V1i dX6_of_10 ml_X6_77 sX0_isKnown rfl (by decide) (Nat.le_of_ble_eq_true rfl) (c_isKnown (d + 2) (nI k)) ?_
  refine g_if_ne (tgt := 18) dX6_of_13 (by decide) (fun c13 => ?_) (fun c13 => absurd c13 (mbi_n0.mpr hk0))
  refine g_iload_n dX6_of_18 rfl ?_
  refine g_tabIn (off := 55) (tgt := 74) dX6_of_19 (by decide) (by decide) rfl (by decide) ?_
  refine g_aload_n dX6_of_74 rfl ?_
  refine g_gR (r := 10) dX6_of_75 fl_X6_90 (fun _ _ => rfl) rfl (by decide) rfl ?_
  refine g_iload_n dX6_of_78 rfl ?_
  refine g_ialdN (gx := k) dX6_of_79 rfl (by decide) rfl (by omega) (by decide) ?_
  exact g_iret dX6_of_80 rfl
set_option maxHeartbeats 4000000 in
set_option maxRecDepth 100000 in
theorem c_of_3 {L : Nat} {F : Nat → Nat → Int32} {g : Nat → Option Nat} (d : Nat) (n : Nat) (hn : F 7 0 = nI n) (h10 : n ≤ 10) (k : Nat) (hk : k < n) : mCall (d + 3) yX6_of MX6_of [.ref 4, .int (nI k), .int 3] (mHX L F g) (some (.int (F 11 k))) (mHX L F g) := by
  refine mCall_of sX6_of.1 (Nat.le_of_ble_eq_true rfl) ⟨_, rfl, rfl⟩ ?_
  show mGo _ _ (0, [some (.ref 4), some (.int (nI k)), some (.int 3), none], [], _) _
  have hk0 : 0 ≤ nI k ∧ nI k < F 7 0 := ⟨nI_pos' (by omega), by rw [hn]; exact nI_lt hk (by omega)⟩
  refine g_aload_n dX6_of_0 rfl ?_
  refine g_gR (r := 5) dX6_of_1 fl_X6_10 (fun _ _ => rfl) rfl (by decide) rfl ?_
  refine g_gR (r := 7) dX6_of_4 fl_X6_73 (fun _ _ => rfl) rfl (by decide) rfl ?_
  refine g_astore_n dX6_of_7 (by decide) rfl ?_
  refine g_aload_n dX6_of_8 rfl ?_
  refine g_iload_n dX6_of_9 rfl ?_
  refine g_V1i dX6_of_10 ml_X6_77 sX0_isKnown rfl (by decide) (Nat.le_of_ble_eq_true rfl) (c_isKnown (d + 2) (nI k)) ?_
  refine g_if_ne (tgt := 18) dX6_of_13 (by decide) (fun c13 => ?_) (fun c13 => absurd c13 (mbi_n0.mpr hk0))
  refine g_iload_n dX6_of_18 rfl ?_
  refine g_tabIn (off := 62) (tgt := 81) dX6_of_19 (by decide) (by decide) rfl (by decide) ?_
  refine g_aload_n dX6_of_81 rfl ?_
  refine g_gR (r := 11) dX6_of_82 fl_X6_93 (fun _ _ => rfl) rfl (by decide) rfl ?_
  refine g_iload_n dX6_of_85 rfl ?_
  refine g_ialdN (gx := k) dX6_of_86 rfl (by decide) rfl (by omega) (by decide) ?_
  exact g_iret dX6_of_87 rfl
set_option maxHeartbeats 4000000 in
set_option maxRecDepth 100000 in
theorem c_of_5 {L : Nat} {F : Nat → Nat → Int32} {g : Nat → Option Nat} (d : Nat) (n : Nat) (hn : F 7 0 = nI n) (h10 : n ≤ 10) (k : Nat) (hk : k < n) : mCall (d + 3) yX6_of MX6_of [.ref 4, .int (nI k), .int 5] (mHX L F g) (some (.int (F 12 k))) (mHX L F g) := by
  refine mCall_of sX6_of.1 (Nat.le_of_ble_eq_true rfl) ⟨_, rfl, rfl⟩ ?_
  show mGo _ _ (0, [some (.ref 4), some (.int (nI k)), some (.int 5), none], [], _) _
  have hk0 : 0 ≤ nI k ∧ nI k < F 7 0 := ⟨nI_pos' (by omega), by rw [hn]; exact nI_lt hk (by omega)⟩
  refine g_aload_n dX6_of_0 rfl ?_
  refine g_gR (r := 5) dX6_of_1 fl_X6_10 (fun _ _ => rfl) rfl (by decide) rfl ?_
  refine g_gR (r := 7) dX6_of_4 fl_X6_73 (fun _ _ => rfl) rfl (by decide) rfl ?_
  refine g_astore_n dX6_of_7 (by decide) rfl ?_
  refine g_aload_n dX6_of_8 rfl ?_
  refine g_iload_n dX6_of_9 rfl ?_
  refine g_V1i dX6_of_10 ml_X6_77 sX0_isKnown rfl (by decide) (Nat.le_of_ble_eq_true rfl) (c_isKnown (d + 2) (nI k)) ?_
  refine g_if_ne (tgt := 18) dX6_of_13 (by decide) (fun c13 => ?_) (fun c13 => absurd c13 (mbi_n0.mpr hk0))
  refine g_iload_n dX6_of_18 rfl ?_
  refine g_tabIn (off := 83) (tgt := 102) dX6_of_19 (by decide) (by decide) rfl (by decide) ?_
  refine g_aload_n dX6_of_102 rfl ?_
  refine g_gR (r := 12) dX6_of_103 fl_X6_99 (fun _ _ => rfl) rfl (by decide) rfl ?_
  refine g_iload_n dX6_of_106 rfl ?_
  refine g_ialdN (gx := k) dX6_of_107 rfl (by decide) rfl (by omega) (by decide) ?_
  exact g_iret dX6_of_108 rfl
set_option maxHeartbeats 4000000 in
set_option maxRecDepth 100000 in
theorem c_of_6 {L : Nat} {F : Nat → Nat → Int32} {g : Nat → Option Nat} (d : Nat) (n : Nat) (hn : F 7 0 = nI n) (h10 : n ≤ 10) (k : Nat) (hk : k < n) : mCall (d + 3) yX6_of MX6_of [.ref 4, .int (nI k), .int 6] (mHX L F g) (some (.int (F 13 k))) (mHX L F g) := by
  refine mCall_of sX6_of.1 (Nat.le_of_ble_eq_true rfl) ⟨_, rfl, rfl⟩ ?_
  show mGo _ _ (0, [some (.ref 4), some (.int (nI k)), some (.int 6), none], [], _) _
  have hk0 : 0 ≤ nI k ∧ nI k < F 7 0 := ⟨nI_pos' (by omega), by rw [hn]; exact nI_lt hk (by omega)⟩
  refine g_aload_n dX6_of_0 rfl ?_
  refine g_gR (r := 5) dX6_of_1 fl_X6_10 (fun _ _ => rfl) rfl (by decide) rfl ?_
  refine g_gR (r := 7) dX6_of_4 fl_X6_73 (fun _ _ => rfl) rfl (by decide) rfl ?_
  refine g_astore_n dX6_of_7 (by decide) rfl ?_
  refine g_aload_n dX6_of_8 rfl ?_
  refine g_iload_n dX6_of_9 rfl ?_
  refine g_V1i dX6_of_10 ml_X6_77 sX0_isKnown rfl (by decide) (Nat.le_of_ble_eq_true rfl) (c_isKnown (d + 2) (nI k)) ?_
  refine g_if_ne (tgt := 18) dX6_of_13 (by decide) (fun c13 => ?_) (fun c13 => absurd c13 (mbi_n0.mpr hk0))
  refine g_iload_n dX6_of_18 rfl ?_
  refine g_tabIn (off := 90) (tgt := 109) dX6_of_19 (by decide) (by decide) rfl (by decide) ?_
  refine g_aload_n dX6_of_109 rfl ?_
  refine g_gR (r := 13) dX6_of_110 fl_X6_102 (fun _ _ => rfl) rfl (by decide) rfl ?_
  refine g_iload_n dX6_of_113 rfl ?_
  refine g_ialdN (gx := k) dX6_of_114 rfl (by decide) rfl (by omega) (by decide) ?_
  exact g_iret dX6_of_115 rfl
set_option maxHeartbeats 4000000 in
set_option maxRecDepth 100000 in
theorem c_of_4 {L : Nat} {F : Nat → Nat → Int32} {g : Nat → Option Nat} (d : Nat) (n : Nat) (hn : F 7 0 = nI n) (h10 : n ≤ 10) (k : Nat) (hk : k < n) : mCall (d + 3) yX6_of MX6_of [.ref 4, .int (nI k), .int 4] (mHX L F g) (some (.int (mbi (¬ F 8 k = (-6) ∧ sHost (F 8) (F 9) (F 8 k) n = nI k)))) (mHX L F g) := by
  refine mCall_of sX6_of.1 (Nat.le_of_ble_eq_true rfl) ⟨_, rfl, rfl⟩ ?_
  show mGo _ _ (0, [some (.ref 4), some (.int (nI k)), some (.int 4), none], [], _) _
  have hk0 : 0 ≤ nI k ∧ nI k < F 7 0 := ⟨nI_pos' (by omega), by rw [hn]; exact nI_lt hk (by omega)⟩
  refine g_aload_n dX6_of_0 rfl ?_
  refine g_gR (r := 5) dX6_of_1 fl_X6_10 (fun _ _ => rfl) rfl (by decide) rfl ?_
  refine g_gR (r := 7) dX6_of_4 fl_X6_73 (fun _ _ => rfl) rfl (by decide) rfl ?_
  refine g_astore_n dX6_of_7 (by decide) rfl ?_
  refine g_aload_n dX6_of_8 rfl ?_
  refine g_iload_n dX6_of_9 rfl ?_
  refine g_V1i dX6_of_10 ml_X6_77 sX0_isKnown rfl (by decide) (Nat.le_of_ble_eq_true rfl) (c_isKnown (d + 2) (nI k)) ?_
  refine g_if_ne (tgt := 18) dX6_of_13 (by decide) (fun c13 => ?_) (fun c13 => absurd c13 (mbi_n0.mpr hk0))
  refine g_iload_n dX6_of_18 rfl ?_
  refine g_tabIn (off := 69) (tgt := 88) dX6_of_19 (by decide) (by decide) rfl (by decide) ?_
  refine g_aload_n dX6_of_88 rfl ?_
  refine g_iload_n dX6_of_89 rfl ?_
  refine g_V1i dX6_of_90 ml_X6_96 sX0_isHost rfl (by decide) (Nat.le_of_ble_eq_true rfl) (c_isHost (d + 1) n hn h10 k hk) ?_
  refine g_if_eq (tgt := 100) dX6_of_93 (by decide) (fun c93 => ?_) (fun c93 => ?_)
  · skip
    refine g_iconstv (v := 0) dX6_of_100 rfl ?_
    exact g_iret dX6_of_101 (m_ret (by first | exact c93 | exact c93.symm | exact mbi_t (mbi_n0.mp c93) | exact (mbi_t (mbi_n0.mp c93)).symm | exact mbi_t (Decidable.not_not.mp (fun q => c93 (mbi_f q))) | exact (mbi_t (Decidable.not_not.mp (fun q => c93 (mbi_f q)))).symm))
  · skip
    refine g_iconstv (v := 1) dX6_of_96 rfl ?_
    refine g_goto (tgt := 101) dX6_of_97 (by decide) ?_
    exact g_iret dX6_of_101 (m_ret (by first | exact c93 | exact c93.symm | exact mbi_t (mbi_n0.mp c93) | exact (mbi_t (mbi_n0.mp c93)).symm | exact mbi_t (Decidable.not_not.mp (fun q => c93 (mbi_f q))) | exact (mbi_t (Decidable.not_not.mp (fun q => c93 (mbi_f q)))).symm))
set_option maxHeartbeats 4000000 in
set_option maxRecDepth 100000 in
theorem c_tab_no {L : Nat} {F : Nat → Nat → Int32} {g : Nat → Option Nat} (d : Nat) (x w : Int32) (hb : ¬ (0 ≤ x ∧ x < 3)) : mCall (d + 3) yX6_table MX6_table [.ref 4, .int x, .int w] (mHX L F g) (some (.int (-1))) (mHX L F g) := by
  refine mCall_of sX6_table.1 (Nat.le_of_ble_eq_true rfl) ⟨_, rfl, rfl⟩ ?_
  show mGo _ _ (0, [some (.ref 4), some (.int x), some (.int w)], [], _) _
  refine g_iload_n dX6_table_0 rfl ?_
  refine g_S1i dX6_table_1 ml_X6_105 sX6_isTable (Nat.le_of_ble_eq_true rfl) (c_isTable (d + 2) x) ?_
  refine g_if_ne (tgt := 9) dX6_table_4 (by decide) (fun c4 => absurd (mbi_f hb) c4) (fun c4 => ?_)
  refine g_iconstv (v := (-1)) dX6_table_7 rfl ?_
  exact g_iret dX6_table_8 rfl
set_option maxHeartbeats 4000000 in
set_option maxRecDepth 100000 in
theorem c_tab_bad {L : Nat} {F : Nat → Nat → Int32} {g : Nat → Option Nat} (d : Nat) (x w : Int32) (hb : 0 ≤ x ∧ x < 3) (hw : w.toInt < 0 ∨ 5 < w.toInt) : mCall (d + 3) yX6_table MX6_table [.ref 4, .int x, .int w] (mHX L F g) (some (.int (-2))) (mHX L F g) := by
  refine mCall_of sX6_table.1 (Nat.le_of_ble_eq_true rfl) ⟨_, rfl, rfl⟩ ?_
  show mGo _ _ (0, [some (.ref 4), some (.int x), some (.int w)], [], _) _
  refine g_iload_n dX6_table_0 rfl ?_
  refine g_S1i dX6_table_1 ml_X6_105 sX6_isTable (Nat.le_of_ble_eq_true rfl) (c_isTable (d + 2) x) ?_
  refine g_if_ne (tgt := 9) dX6_table_4 (by decide) (fun c4 => ?_) (fun c4 => absurd c4 (mbi_n0.mpr hb))
  refine g_iload_n dX6_table_9 rfl ?_
  refine g_tabOut (tgt := 136) dX6_table_10 (hw) (by decide) ?_
  refine g_bipushv (v := (-2)) dX6_table_136 rfl ?_
  exact g_iret dX6_table_138 rfl
set_option maxHeartbeats 4000000 in
set_option maxRecDepth 100000 in
theorem c_tab_0 {L : Nat} {F : Nat → Nat → Int32} {g : Nat → Option Nat} (d : Nat) (n : Nat) (hn : F 7 0 = nI n) (h10 : n ≤ 10) (t : Nat) (ht : t < 3) : mCall (d + 3) yX6_table MX6_table [.ref 4, .int (nI t), .int 0] (mHX L F g) (some (.int (sSet (F 8) (nI t) n))) (mHX L F g) := by
  refine mCall_of sX6_table.1 (Nat.le_of_ble_eq_true rfl) ⟨_, rfl, rfl⟩ ?_
  show mGo _ _ (0, [some (.ref 4), some (.int (nI t)), some (.int 0)], [], _) _
  have ht0 : 0 ≤ nI t ∧ nI t < 3 := ⟨nI_pos' (by omega), nI_lt (b := 3) ht (by decide)⟩
  refine g_iload_n dX6_table_0 rfl ?_
  refine g_S1i dX6_table_1 ml_X6_105 sX6_isTable (Nat.le_of_ble_eq_true rfl) (c_isTable (d + 2) (nI t)) ?_
  refine g_if_ne (tgt := 9) dX6_table_4 (by decide) (fun c4 => ?_) (fun c4 => absurd c4 (mbi_n0.mpr ht0))
  refine g_iload_n dX6_table_9 rfl ?_
  refine g_tabIn (off := 38) (tgt := 48) dX6_table_10 (by decide) (by decide) rfl (by decide) ?_
  refine g_aload_n dX6_table_48 rfl ?_
  refine g_gR (r := 5) dX6_table_49 fl_X6_10 (fun _ _ => rfl) rfl (by decide) rfl ?_
  refine g_gR (r := 7) dX6_table_52 fl_X6_73 (fun _ _ => rfl) rfl (by decide) rfl ?_
  refine g_iload_n dX6_table_55 rfl ?_
  refine g_V1i dX6_table_56 ml_X6_108 sX0_setAt rfl (by decide) (Nat.le_of_ble_eq_true rfl) (c_setAt (d + 2) n hn h10 (nI t)) ?_
  exact g_iret dX6_table_59 rfl
set_option maxHeartbeats 4000000 in
set_option maxRecDepth 100000 in
theorem c_tab_1 {L : Nat} {F : Nat → Nat → Int32} {g : Nat → Option Nat} (d : Nat) (n : Nat) (hn : F 7 0 = nI n) (h10 : n ≤ 10) (t : Nat) (ht : t < 3) : mCall (d + 3) yX6_table MX6_table [.ref 4, .int (nI t), .int 1] (mHX L F g) (some (.int (sHost (F 8) (F 9) (nI t) n))) (mHX L F g) := by
  refine mCall_of sX6_table.1 (Nat.le_of_ble_eq_true rfl) ⟨_, rfl, rfl⟩ ?_
  show mGo _ _ (0, [some (.ref 4), some (.int (nI t)), some (.int 1)], [], _) _
  have ht0 : 0 ≤ nI t ∧ nI t < 3 := ⟨nI_pos' (by omega), nI_lt (b := 3) ht (by decide)⟩
  refine g_iload_n dX6_table_0 rfl ?_
  refine g_S1i dX6_table_1 ml_X6_105 sX6_isTable (Nat.le_of_ble_eq_true rfl) (c_isTable (d + 2) (nI t)) ?_
  refine g_if_ne (tgt := 9) dX6_table_4 (by decide) (fun c4 => ?_) (fun c4 => absurd c4 (mbi_n0.mpr ht0))
  refine g_iload_n dX6_table_9 rfl ?_
  refine g_tabIn (off := 50) (tgt := 60) dX6_table_10 (by decide) (by decide) rfl (by decide) ?_
  refine g_aload_n dX6_table_60 rfl ?_
  refine g_gR (r := 5) dX6_table_61 fl_X6_10 (fun _ _ => rfl) rfl (by decide) rfl ?_
  refine g_gR (r := 7) dX6_table_64 fl_X6_73 (fun _ _ => rfl) rfl (by decide) rfl ?_
  refine g_iload_n dX6_table_67 rfl ?_
  refine g_V1i dX6_table_68 ml_X6_111 sX0_hostOf rfl (by decide) (Nat.le_of_ble_eq_true rfl) (c_hostOf (d + 2) n hn h10 (nI t)) ?_
  exact g_iret dX6_table_71 rfl
set_option maxHeartbeats 4000000 in
set_option maxRecDepth 100000 in
theorem c_tab_2 {L : Nat} {F : Nat → Nat → Int32} {g : Nat → Option Nat} (d : Nat) (n : Nat) (hn : F 7 0 = nI n) (h10 : n ≤ 10) (t : Nat) (ht : t < 3) : mCall (d + 3) yX6_table MX6_table [.ref 4, .int (nI t), .int 2] (mHX L F g) (some (.int (sComp (F 8) (F 9) (nI t) (-6) n))) (mHX L F g) := by
  refine mCall_of sX6_table.1 (Nat.le_of_ble_eq_true rfl) ⟨_, rfl, rfl⟩ ?_
  show mGo _ _ (0, [some (.ref 4), some (.int (nI t)), some (.int 2)], [], _) _
  have ht0 : 0 ≤ nI t ∧ nI t < 3 := ⟨nI_pos' (by omega), nI_lt (b := 3) ht (by decide)⟩
  refine g_iload_n dX6_table_0 rfl ?_
  refine g_S1i dX6_table_1 ml_X6_105 sX6_isTable (Nat.le_of_ble_eq_true rfl) (c_isTable (d + 2) (nI t)) ?_
  refine g_if_ne (tgt := 9) dX6_table_4 (by decide) (fun c4 => ?_) (fun c4 => absurd c4 (mbi_n0.mpr ht0))
  refine g_iload_n dX6_table_9 rfl ?_
  refine g_tabIn (off := 62) (tgt := 72) dX6_table_10 (by decide) (by decide) rfl (by decide) ?_
  refine g_aload_n dX6_table_72 rfl ?_
  refine g_gR (r := 5) dX6_table_73 fl_X6_10 (fun _ _ => rfl) rfl (by decide) rfl ?_
  refine g_gR (r := 7) dX6_table_76 fl_X6_73 (fun _ _ => rfl) rfl (by decide) rfl ?_
  refine g_iload_n dX6_table_79 rfl ?_
  refine g_bipushv (v := (-6)) dX6_table_80 rfl ?_
  refine g_V2i dX6_table_82 ml_X6_114 sX0_companyOf rfl (by decide) (Nat.le_of_ble_eq_true rfl) (c_companyOf (d + 2) n hn h10 (nI t) (-6)) ?_
  exact g_iret dX6_table_85 rfl
set_option maxHeartbeats 4000000 in
set_option maxRecDepth 100000 in
theorem c_tab_3 {L : Nat} {F : Nat → Nat → Int32} {g : Nat → Option Nat} (d : Nat) (t : Nat) (ht : t < 3) : mCall (d + 3) yX6_table MX6_table [.ref 4, .int (nI t), .int 3] (mHX L F g) (some (.int (F 19 t))) (mHX L F g) := by
  refine mCall_of sX6_table.1 (Nat.le_of_ble_eq_true rfl) ⟨_, rfl, rfl⟩ ?_
  show mGo _ _ (0, [some (.ref 4), some (.int (nI t)), some (.int 3)], [], _) _
  have ht0 : 0 ≤ nI t ∧ nI t < 3 := ⟨nI_pos' (by omega), nI_lt (b := 3) ht (by decide)⟩
  refine g_iload_n dX6_table_0 rfl ?_
  refine g_S1i dX6_table_1 ml_X6_105 sX6_isTable (Nat.le_of_ble_eq_true rfl) (c_isTable (d + 2) (nI t)) ?_
  refine g_if_ne (tgt := 9) dX6_table_4 (by decide) (fun c4 => ?_) (fun c4 => absurd c4 (mbi_n0.mpr ht0))
  refine g_iload_n dX6_table_9 rfl ?_
  refine g_tabIn (off := 76) (tgt := 86) dX6_table_10 (by decide) (by decide) rfl (by decide) ?_
  refine g_aload_n dX6_table_86 rfl ?_
  refine g_gR (r := 5) dX6_table_87 fl_X6_10 (fun _ _ => rfl) rfl (by decide) rfl ?_
  refine g_gR (r := 19) dX6_table_90 fl_X6_117 (fun _ _ => rfl) rfl (by decide) rfl ?_
  refine g_iload_n dX6_table_93 rfl ?_
  refine g_ialdN (gx := t) dX6_table_94 rfl (by decide) rfl (by omega) (by decide) ?_
  exact g_iret dX6_table_95 rfl
set_option maxHeartbeats 4000000 in
set_option maxRecDepth 100000 in
theorem c_tab_4q {L : Nat} {F : Nat → Nat → Int32} {g : Nat → Option Nat} (d : Nat) (t : Nat) (ht : t < 3) (hq : F 19 t = (-6)) : mCall (d + 3) yX6_table MX6_table [.ref 4, .int (nI t), .int 4] (mHX L F g) (some (.int (-6))) (mHX L F g) := by
  refine mCall_of sX6_table.1 (Nat.le_of_ble_eq_true rfl) ⟨_, rfl, rfl⟩ ?_
  show mGo _ _ (0, [some (.ref 4), some (.int (nI t)), some (.int 4)], [], _) _
  have ht0 : 0 ≤ nI t ∧ nI t < 3 := ⟨nI_pos' (by omega), nI_lt (b := 3) ht (by decide)⟩
  refine g_iload_n dX6_table_0 rfl ?_
  refine g_S1i dX6_table_1 ml_X6_105 sX6_isTable (Nat.le_of_ble_eq_true rfl) (c_isTable (d + 2) (nI t)) ?_
  refine g_if_ne (tgt := 9) dX6_table_4 (by decide) (fun c4 => ?_) (fun c4 => absurd c4 (mbi_n0.mpr ht0))
  refine g_iload_n dX6_table_9 rfl ?_
  refine g_tabIn (off := 86) (tgt := 96) dX6_table_10 (by decide) (by decide) rfl (by decide) ?_
  refine g_aload_n dX6_table_96 rfl ?_
  refine g_gR (r := 5) dX6_table_97 fl_X6_10 (fun _ _ => rfl) rfl (by decide) rfl ?_
  refine g_gR (r := 19) dX6_table_100 fl_X6_117 (fun _ _ => rfl) rfl (by decide) rfl ?_
  refine g_iload_n dX6_table_103 rfl ?_
  refine g_ialdN (gx := t) dX6_table_104 rfl (by decide) rfl (by omega) (by decide) ?_
  refine g_bipushv (v := (-6)) dX6_table_105 rfl ?_
  refine g_icmp_ne (tgt := 115) dX6_table_107 (by decide) (fun c107 => absurd hq c107) (fun c107 => ?_)
  refine g_bipushv (v := (-6)) dX6_table_110 rfl ?_
  refine g_goto (tgt := 125) dX6_table_112 (by decide) ?_
  exact g_iret dX6_table_125 rfl
set_option maxHeartbeats 4000000 in
set_option maxRecDepth 100000 in
theorem c_tab_4 {L : Nat} {F : Nat → Nat → Int32} {g : Nat → Option Nat} (d : Nat) (n : Nat) (hn : F 7 0 = nI n) (h10 : n ≤ 10) (h3 : F 3 = mMB) (t : Nat) (ht : t < 3) (c : Nat) (hc : c ≤ 4) (ec : sComp (F 8) (F 9) (nI t) (-6) n = nI c) (hq : ¬ F 19 t = (-6)) : mCall (d + 3) yX6_table MX6_table [.ref 4, .int (nI t), .int 4] (mHX L F g) (some (.int (sMean (F 6) c (F 19 t)))) (mHX L F g) := by
  refine mCall_of sX6_table.1 (Nat.le_of_ble_eq_true rfl) ⟨_, rfl, rfl⟩ ?_
  show mGo _ _ (0, [some (.ref 4), some (.int (nI t)), some (.int 4)], [], _) _
  have ht0 : 0 ≤ nI t ∧ nI t < 3 := ⟨nI_pos' (by omega), nI_lt (b := 3) ht (by decide)⟩
  refine g_iload_n dX6_table_0 rfl ?_
  refine g_S1i dX6_table_1 ml_X6_105 sX6_isTable (Nat.le_of_ble_eq_true rfl) (c_isTable (d + 2) (nI t)) ?_
  refine g_if_ne (tgt := 9) dX6_table_4 (by decide) (fun c4 => ?_) (fun c4 => absurd c4 (mbi_n0.mpr ht0))
  refine g_iload_n dX6_table_9 rfl ?_
  refine g_tabIn (off := 86) (tgt := 96) dX6_table_10 (by decide) (by decide) rfl (by decide) ?_
  refine g_aload_n dX6_table_96 rfl ?_
  refine g_gR (r := 5) dX6_table_97 fl_X6_10 (fun _ _ => rfl) rfl (by decide) rfl ?_
  refine g_gR (r := 19) dX6_table_100 fl_X6_117 (fun _ _ => rfl) rfl (by decide) rfl ?_
  refine g_iload_n dX6_table_103 rfl ?_
  refine g_ialdN (gx := t) dX6_table_104 rfl (by decide) rfl (by omega) (by decide) ?_
  refine g_bipushv (v := (-6)) dX6_table_105 rfl ?_
  refine g_icmp_ne (tgt := 115) dX6_table_107 (by decide) (fun c107 => ?_) (fun c107 => absurd c107 hq)
  refine g_aload_n dX6_table_115 rfl ?_
  refine g_gR (r := 5) dX6_table_116 fl_X6_10 (fun _ _ => rfl) rfl (by decide) rfl ?_
  refine g_iload_n dX6_table_119 rfl ?_
  refine g_bipushv (v := (-6)) dX6_table_120 rfl ?_
  refine g_V2i dX6_table_122 ml_X6_120 sX4_meaningNow rfl (by decide) (Nat.le_of_ble_eq_true rfl) (c_meaningNow d n hn h10 h3 t ht (-6) c hc ec) ?_
  exact g_iret dX6_table_125 rfl
set_option maxHeartbeats 4000000 in
set_option maxRecDepth 100000 in
theorem c_tab_5 {L : Nat} {F : Nat → Nat → Int32} {g : Nat → Option Nat} (d : Nat) (t : Nat) (ht : t < 3) : mCall (d + 3) yX6_table MX6_table [.ref 4, .int (nI t), .int 5] (mHX L F g) (some (.int (F 20 t))) (mHX L F g) := by
  refine mCall_of sX6_table.1 (Nat.le_of_ble_eq_true rfl) ⟨_, rfl, rfl⟩ ?_
  show mGo _ _ (0, [some (.ref 4), some (.int (nI t)), some (.int 5)], [], _) _
  have ht0 : 0 ≤ nI t ∧ nI t < 3 := ⟨nI_pos' (by omega), nI_lt (b := 3) ht (by decide)⟩
  refine g_iload_n dX6_table_0 rfl ?_
  refine g_S1i dX6_table_1 ml_X6_105 sX6_isTable (Nat.le_of_ble_eq_true rfl) (c_isTable (d + 2) (nI t)) ?_
  refine g_if_ne (tgt := 9) dX6_table_4 (by decide) (fun c4 => ?_) (fun c4 => absurd c4 (mbi_n0.mpr ht0))
  refine g_iload_n dX6_table_9 rfl ?_
  refine g_tabIn (off := 116) (tgt := 126) dX6_table_10 (by decide) (by decide) rfl (by decide) ?_
  refine g_aload_n dX6_table_126 rfl ?_
  refine g_gR (r := 5) dX6_table_127 fl_X6_10 (fun _ _ => rfl) rfl (by decide) rfl ?_
  refine g_gR (r := 20) dX6_table_130 fl_X6_123 (fun _ _ => rfl) rfl (by decide) rfl ?_
  refine g_iload_n dX6_table_133 rfl ?_
  refine g_ialdN (gx := t) dX6_table_134 rfl (by decide) rfl (by omega) (by decide) ?_
  exact g_iret dX6_table_135 rfl
set_option maxHeartbeats 4000000 in
set_option maxRecDepth 100000 in
theorem c_mng_no {L : Nat} {F : Nat → Nat → Int32} {g : Nat → Option Nat} (d : Nat) (x w : Int32) (hb : ¬ (1 ≤ x ∧ x ≤ 11)) : mCall (d + 3) yX6_meaning MX6_meaning [.ref 4, .int x, .int w] (mHX L F g) (some (.int (-1))) (mHX L F g) := by
  refine mCall_of sX6_meaning.1 (Nat.le_of_ble_eq_true rfl) ⟨_, rfl, rfl⟩ ?_
  show mGo _ _ (0, [some (.ref 4), some (.int x), some (.int w)], [], _) _
  refine g_iload_n dX6_meaning_0 rfl ?_
  refine g_iconstv (v := 1) dX6_meaning_1 rfl ?_
  refine g_icmp_lt (tgt := 11) dX6_meaning_2 (by decide) (fun c2 => ?_) (fun c2 => ?_)
  · skip
    refine g_iconstv (v := (-1)) dX6_meaning_11 rfl ?_
    exact g_iret dX6_meaning_12 rfl
  · skip
    refine g_iload_n dX6_meaning_5 rfl ?_
    refine g_bipushv (v := 11) dX6_meaning_6 rfl ?_
    refine g_icmp_le (tgt := 13) dX6_meaning_8 (by decide) (fun c8 => absurd c8 (fun q => hb ⟨Int32.not_lt.mp c2, q⟩)) (fun c8 => ?_)
    refine g_iconstv (v := (-1)) dX6_meaning_11 rfl ?_
    exact g_iret dX6_meaning_12 rfl
set_option maxHeartbeats 4000000 in
set_option maxRecDepth 100000 in
theorem c_mng_bad {L : Nat} {F : Nat → Nat → Int32} {g : Nat → Option Nat} (d : Nat) (m : Nat) (h1 : 1 ≤ m) (h11 : m ≤ 11) (w : Int32) (hw : ¬ w.toInt = 0 ∧ ¬ w.toInt = 1) : mCall (d + 3) yX6_meaning MX6_meaning [.ref 4, .int (nI m), .int w] (mHX L F g) (some (.int (-2))) (mHX L F g) := by
  refine mCall_of sX6_meaning.1 (Nat.le_of_ble_eq_true rfl) ⟨_, rfl, rfl⟩ ?_
  show mGo _ _ (0, [some (.ref 4), some (.int (nI m)), some (.int w)], [], _) _
  refine g_iload_n dX6_meaning_0 rfl ?_
  refine g_iconstv (v := 1) dX6_meaning_1 rfl ?_
  refine g_icmp_lt (tgt := 11) dX6_meaning_2 (by decide) (fun c2 => absurd c2 (nI_nlt (a := m) (b := 1) (by omega) (by omega))) (fun c2 => ?_)
  refine g_iload_n dX6_meaning_5 rfl ?_
  refine g_bipushv (v := 11) dX6_meaning_6 rfl ?_
  refine g_icmp_le (tgt := 13) dX6_meaning_8 (by decide) (fun c8 => ?_) (fun c8 => absurd (nI_le (a := m) (b := 11) (by omega) (by omega)) c8)
  refine g_iload_n dX6_meaning_13 rfl ?_
  refine g_lookup (off := 52) (tgt := 66) dX6_meaning_14 (by decide) (by rw [show (#[((0 : Int), (26 : Int)), (1, 39)] : Array (Int × Int)).toList = [(0, 26), (1, 39)] from rfl, Op.lookupswitch.offset_cons, if_neg (fun q => hw.1 q.symm), Op.lookupswitch.offset_cons, if_neg (fun q => hw.2 q.symm)]; rfl) (by decide) ?_
  refine g_bipushv (v := (-2)) dX6_meaning_66 rfl ?_
  exact g_iret dX6_meaning_68 rfl
set_option maxHeartbeats 4000000 in
set_option maxRecDepth 100000 in
theorem c_mng_0 {L : Nat} {F : Nat → Nat → Int32} {g : Nat → Option Nat} (d : Nat) (m : Nat) (h1 : 1 ≤ m) (h11 : m ≤ 11) : mCall (d + 3) yX6_meaning MX6_meaning [.ref 4, .int (nI m), .int 0] (mHX L F g) (some (.int (F 15 m))) (mHX L F g) := by
  refine mCall_of sX6_meaning.1 (Nat.le_of_ble_eq_true rfl) ⟨_, rfl, rfl⟩ ?_
  show mGo _ _ (0, [some (.ref 4), some (.int (nI m)), some (.int 0)], [], _) _
  refine g_iload_n dX6_meaning_0 rfl ?_
  refine g_iconstv (v := 1) dX6_meaning_1 rfl ?_
  refine g_icmp_lt (tgt := 11) dX6_meaning_2 (by decide) (fun c2 => absurd c2 (nI_nlt (a := m) (b := 1) (by omega) (by omega))) (fun c2 => ?_)
  refine g_iload_n dX6_meaning_5 rfl ?_
  refine g_bipushv (v := 11) dX6_meaning_6 rfl ?_
  refine g_icmp_le (tgt := 13) dX6_meaning_8 (by decide) (fun c8 => ?_) (fun c8 => absurd (nI_le (a := m) (b := 11) (by omega) (by omega)) c8)
  refine g_iload_n dX6_meaning_13 rfl ?_
  refine g_lookup (off := 26) (tgt := 40) dX6_meaning_14 (by decide) (rfl) (by decide) ?_
  refine g_aload_n dX6_meaning_40 rfl ?_
  refine g_gR (r := 5) dX6_meaning_41 fl_X6_10 (fun _ _ => rfl) rfl (by decide) rfl ?_
  refine g_gR (r := 14) dX6_meaning_44 fl_X6_126 (fun _ _ => rfl) rfl (by decide) rfl ?_
  refine g_gR (r := 15) dX6_meaning_47 fl_X6_130 (fun _ _ => rfl) rfl (by decide) rfl ?_
  refine g_iload_n dX6_meaning_50 rfl ?_
  refine g_ialdN (gx := m) dX6_meaning_51 rfl (by decide) rfl (by omega) (by decide) ?_
  exact g_iret dX6_meaning_52 rfl
set_option maxHeartbeats 4000000 in
set_option maxRecDepth 100000 in
theorem c_mng_1 {L : Nat} {F : Nat → Nat → Int32} {g : Nat → Option Nat} (d : Nat) (m : Nat) (h1 : 1 ≤ m) (h11 : m ≤ 11) : mCall (d + 3) yX6_meaning MX6_meaning [.ref 4, .int (nI m), .int 1] (mHX L F g) (some (.int (F 16 m))) (mHX L F g) := by
  refine mCall_of sX6_meaning.1 (Nat.le_of_ble_eq_true rfl) ⟨_, rfl, rfl⟩ ?_
  show mGo _ _ (0, [some (.ref 4), some (.int (nI m)), some (.int 1)], [], _) _
  refine g_iload_n dX6_meaning_0 rfl ?_
  refine g_iconstv (v := 1) dX6_meaning_1 rfl ?_
  refine g_icmp_lt (tgt := 11) dX6_meaning_2 (by decide) (fun c2 => absurd c2 (nI_nlt (a := m) (b := 1) (by omega) (by omega))) (fun c2 => ?_)
  refine g_iload_n dX6_meaning_5 rfl ?_
  refine g_bipushv (v := 11) dX6_meaning_6 rfl ?_
  refine g_icmp_le (tgt := 13) dX6_meaning_8 (by decide) (fun c8 => ?_) (fun c8 => absurd (nI_le (a := m) (b := 11) (by omega) (by omega)) c8)
  refine g_iload_n dX6_meaning_13 rfl ?_
  refine g_lookup (off := 39) (tgt := 53) dX6_meaning_14 (by decide) (rfl) (by decide) ?_
  refine g_aload_n dX6_meaning_53 rfl ?_
  refine g_gR (r := 5) dX6_meaning_54 fl_X6_10 (fun _ _ => rfl) rfl (by decide) rfl ?_
  refine g_gR (r := 14) dX6_meaning_57 fl_X6_126 (fun _ _ => rfl) rfl (by decide) rfl ?_
  refine g_gR (r := 16) dX6_meaning_60 fl_X6_135 (fun _ _ => rfl) rfl (by decide) rfl ?_
  refine g_iload_n dX6_meaning_63 rfl ?_
  refine g_ialdN (gx := m) dX6_meaning_64 rfl (by decide) rfl (by omega) (by decide) ?_
  exact g_iret dX6_meaning_65 rfl
set_option maxHeartbeats 4000000 in
set_option maxRecDepth 100000 in
theorem c_tel_no {L : Nat} {F : Nat → Nat → Int32} {g : Nat → Option Nat} (d : Nat) (x w : Int32) (hb : ¬ (0 ≤ x ∧ x < F 14 4)) : mCall (d + 3) yX6_end MX6_end [.ref 4, .int x, .int w] (mHX L F g) (some (.int (-1))) (mHX L F g) := by
  refine mCall_of sX6_end.1 (Nat.le_of_ble_eq_true rfl) ⟨_, rfl, rfl⟩ ?_
  show mGo _ _ (0, [some (.ref 4), some (.int x), some (.int w)], [], _) _
  refine g_iload_n dX6_end_0 rfl ?_
  refine g_if_lt (tgt := 18) dX6_end_1 (by decide) (fun c1 => ?_) (fun c1 => ?_)
  · skip
    refine g_iconstv (v := (-1)) dX6_end_18 rfl ?_
    exact g_iret dX6_end_19 rfl
  · skip
    refine g_iload_n dX6_end_4 rfl ?_
    refine g_aload_n dX6_end_5 rfl ?_
    refine g_gR (r := 5) dX6_end_6 fl_X6_10 (fun _ _ => rfl) rfl (by decide) rfl ?_
    refine g_gR (r := 14) dX6_end_9 fl_X6_126 (fun _ _ => rfl) rfl (by decide) rfl ?_
    refine g_gI dX6_end_12 fl_X6_138 (fun _ _ => rfl) rfl (by decide) ?_
    refine g_icmp_lt (tgt := 20) dX6_end_15 (by decide) (fun c15 => absurd c15 (fun q => hb ⟨Int32.not_lt.mp c1, q⟩)) (fun c15 => ?_)
    refine g_iconstv (v := (-1)) dX6_end_18 rfl ?_
    exact g_iret dX6_end_19 rfl
set_option maxHeartbeats 4000000 in
set_option maxRecDepth 100000 in
theorem c_tel_bad {L : Nat} {F : Nat → Nat → Int32} {g : Nat → Option Nat} (d : Nat) (t : Nat) (et : F 14 4 = nI t) (h10 : t ≤ 10) (r : Nat) (hr : r < t) (w : Int32) (hw : ¬ (0 ≤ w ∧ w < 5)) : mCall (d + 3) yX6_end MX6_end [.ref 4, .int (nI r), .int w] (mHX L F g) (some (.int (-2))) (mHX L F g) := by
  refine mCall_of sX6_end.1 (Nat.le_of_ble_eq_true rfl) ⟨_, rfl, rfl⟩ ?_
  show mGo _ _ (0, [some (.ref 4), some (.int (nI r)), some (.int w)], [], _) _
  refine g_iload_n dX6_end_0 rfl ?_
  refine g_if_lt (tgt := 18) dX6_end_1 (by decide) (fun c1 => absurd c1 (nI_pos (by omega))) (fun c1 => ?_)
  refine g_iload_n dX6_end_4 rfl ?_
  refine g_aload_n dX6_end_5 rfl ?_
  refine g_gR (r := 5) dX6_end_6 fl_X6_10 (fun _ _ => rfl) rfl (by decide) rfl ?_
  refine g_gR (r := 14) dX6_end_9 fl_X6_126 (fun _ _ => rfl) rfl (by decide) rfl ?_
  refine g_gI dX6_end_12 fl_X6_138 (fun _ _ => rfl) rfl (by decide) ?_
  refine g_icmp_lt (tgt := 20) dX6_end_15 (by decide) (fun c15 => ?_) (fun c15 => absurd (by rw [et]; exact nI_lt hr (by omega)) c15)
  refine g_iload_n dX6_end_20 rfl ?_
  refine g_if_lt (tgt := 29) dX6_end_21 (by decide) (fun c21 => ?_) (fun c21 => ?_)
  · skip
    refine g_bipushv (v := (-2)) dX6_end_29 rfl ?_
    exact g_iret dX6_end_31 rfl
  · skip
    refine g_iload_n dX6_end_24 rfl ?_
    refine g_iconstv (v := 5) dX6_end_25 rfl ?_
    refine g_icmp_lt (tgt := 32) dX6_end_26 (by decide) (fun c26 => absurd c26 (fun q => hw ⟨Int32.not_lt.mp c21, q⟩)) (fun c26 => ?_)
    refine g_bipushv (v := (-2)) dX6_end_29 rfl ?_
    exact g_iret dX6_end_31 rfl
set_option maxHeartbeats 4000000 in
set_option maxRecDepth 100000 in
theorem c_tel_ok {L : Nat} {F : Nat → Nat → Int32} {g : Nat → Option Nat} (d : Nat) (t : Nat) (et : F 14 4 = nI t) (h10 : t ≤ 10) (r : Nat) (hr : r < t) (w : Nat) (hw : w < 5) : mCall (d + 3) yX6_end MX6_end [.ref 4, .int (nI r), .int (nI w)] (mHX L F g) (some (.int (F 18 (r * 5 + w)))) (mHX L F g) := by
  refine mCall_of sX6_end.1 (Nat.le_of_ble_eq_true rfl) ⟨_, rfl, rfl⟩ ?_
  show mGo _ _ (0, [some (.ref 4), some (.int (nI r)), some (.int (nI w))], [], _) _
  refine g_iload_n dX6_end_0 rfl ?_
  refine g_if_lt (tgt := 18) dX6_end_1 (by decide) (fun c1 => absurd c1 (nI_pos (by omega))) (fun c1 => ?_)
  refine g_iload_n dX6_end_4 rfl ?_
  refine g_aload_n dX6_end_5 rfl ?_
  refine g_gR (r := 5) dX6_end_6 fl_X6_10 (fun _ _ => rfl) rfl (by decide) rfl ?_
  refine g_gR (r := 14) dX6_end_9 fl_X6_126 (fun _ _ => rfl) rfl (by decide) rfl ?_
  refine g_gI dX6_end_12 fl_X6_138 (fun _ _ => rfl) rfl (by decide) ?_
  refine g_icmp_lt (tgt := 20) dX6_end_15 (by decide) (fun c15 => ?_) (fun c15 => absurd (by rw [et]; exact nI_lt hr (by omega)) c15)
  refine g_iload_n dX6_end_20 rfl ?_
  refine g_if_lt (tgt := 29) dX6_end_21 (by decide) (fun c21 => absurd c21 (nI_pos (by omega))) (fun c21 => ?_)
  refine g_iload_n dX6_end_24 rfl ?_
  refine g_iconstv (v := 5) dX6_end_25 rfl ?_
  refine g_icmp_lt (tgt := 32) dX6_end_26 (by decide) (fun c26 => ?_) (fun c26 => absurd (nI_lt (a := w) (b := 5) hw (by decide)) c26)
  refine g_aload_n dX6_end_32 rfl ?_
  refine g_gR (r := 5) dX6_end_33 fl_X6_10 (fun _ _ => rfl) rfl (by decide) rfl ?_
  refine g_gR (r := 14) dX6_end_36 fl_X6_126 (fun _ _ => rfl) rfl (by decide) rfl ?_
  refine g_gR (r := 18) dX6_end_39 fl_X6_142 (fun _ _ => rfl) rfl (by decide) rfl ?_
  refine g_iload_n dX6_end_42 rfl ?_
  refine g_iconstv (v := 5) dX6_end_43 rfl ?_
  refine g_imul dX6_end_44 ?_
  refine g_iload_n dX6_end_45 rfl ?_
  refine g_iadd dX6_end_46 ?_
  refine g_ialdN (gx := (r * 5 + w)) dX6_end_47 rfl (by decide) (by rw [show (5 : Int32) = nI 5 from rfl, pk_mul, nI_add]) (by omega) (by decide) ?_
  exact g_iret dX6_end_48 rfl
set_option maxHeartbeats 4000000 in
set_option maxRecDepth 100000 in
theorem c_cnt_bad {L : Nat} {F : Nat → Nat → Int32} {g : Nat → Option Nat} (d : Nat) (w : Int32) (hw : w.toInt < 0 ∨ 14 < w.toInt) : mCall (d + 3) yX6_count MX6_count [.ref 4, .int w] (mHX L F g) (some (.int (-2))) (mHX L F g) := by
  refine mCall_of sX6_count.1 (Nat.le_of_ble_eq_true rfl) ⟨_, rfl, rfl⟩ ?_
  show mGo _ _ (0, [some (.ref 4), some (.int w)], [], _) _
  refine g_iload_n dX6_count_0 rfl ?_
  refine g_tabOut (tgt := 231) dX6_count_1 (hw) (by decide) ?_
  refine g_bipushv (v := (-2)) dX6_count_231 rfl ?_
  exact g_iret dX6_count_233 rfl
set_option maxHeartbeats 4000000 in
set_option maxRecDepth 100000 in
theorem c_cnt_0 {L : Nat} {F : Nat → Nat → Int32} {g : Nat → Option Nat} (d : Nat)  : mCall (d + 3) yX6_count MX6_count [.ref 4, .int 0] (mHX L F g) (some (.int (F 5 0))) (mHX L F g) := by
  refine mCall_of sX6_count.1 (Nat.le_of_ble_eq_true rfl) ⟨_, rfl, rfl⟩ ?_
  show mGo _ _ (0, [some (.ref 4), some (.int 0)], [], _) _
  refine g_iload_n dX6_count_0 rfl ?_
  refine g_tabIn (off := 75) (tgt := 76) dX6_count_1 (by decide) (by decide) rfl (by decide) ?_
  refine g_aload_n dX6_count_76 rfl ?_
  refine g_gR (r := 5) dX6_count_77 fl_X6_10 (fun _ _ => rfl) rfl (by decide) rfl ?_
  refine g_gI dX6_count_80 fl_X6_145 (fun _ _ => rfl) rfl (by decide) ?_
  exact g_iret dX6_count_83 rfl
set_option maxHeartbeats 4000000 in
set_option maxRecDepth 100000 in
theorem c_cnt_1 {L : Nat} {F : Nat → Nat → Int32} {g : Nat → Option Nat} (d : Nat) (n : Nat) (hn : F 7 0 = nI n) (h10 : n ≤ 10) : mCall (d + 3) yX6_count MX6_count [.ref 4, .int 1] (mHX L F g) (some (.int (((0 ||| sSet (F 8) 0 n) ||| sSet (F 8) 1 n) ||| sSet (F 8) 2 n))) (mHX L F g) := by
  refine mCall_of sX6_count.1 (Nat.le_of_ble_eq_true rfl) ⟨_, rfl, rfl⟩ ?_
  show mGo _ _ (0, [some (.ref 4), some (.int 1)], [], _) _
  refine g_iload_n dX6_count_0 rfl ?_
  refine g_tabIn (off := 83) (tgt := 84) dX6_count_1 (by decide) (by decide) rfl (by decide) ?_
  refine g_aload_n dX6_count_84 rfl ?_
  refine g_gR (r := 5) dX6_count_85 fl_X6_10 (fun _ _ => rfl) rfl (by decide) rfl ?_
  refine g_gR (r := 7) dX6_count_88 fl_X6_73 (fun _ _ => rfl) rfl (by decide) rfl ?_
  refine g_V0i dX6_count_91 ml_X6_148 sX0_setOfThoseHere rfl (by decide) (Nat.le_of_ble_eq_true rfl) (c_setOfThoseHere (d + 1) n hn h10) ?_
  exact g_iret dX6_count_94 rfl
set_option maxHeartbeats 4000000 in
set_option maxRecDepth 100000 in
theorem c_cnt_2 {L : Nat} {F : Nat → Nat → Int32} {g : Nat → Option Nat} (d : Nat)  : mCall (d + 3) yX6_count MX6_count [.ref 4, .int 2] (mHX L F g) (some (.int (sGo (F 19)))) (mHX L F g) := by
  refine mCall_of sX6_count.1 (Nat.le_of_ble_eq_true rfl) ⟨_, rfl, rfl⟩ ?_
  show mGo _ _ (0, [some (.ref 4), some (.int 2)], [], _) _
  refine g_iload_n dX6_count_0 rfl ?_
  refine g_tabIn (off := 94) (tgt := 95) dX6_count_1 (by decide) (by decide) rfl (by decide) ?_
  refine g_aload_n dX6_count_95 rfl ?_
  refine g_gR (r := 5) dX6_count_96 fl_X6_10 (fun _ _ => rfl) rfl (by decide) rfl ?_
  refine g_V0i dX6_count_99 ml_X6_152 sX4_pausesThatGoOn rfl (by decide) (Nat.le_of_ble_eq_true rfl) (c_pauses (d + 2)) ?_
  exact g_iret dX6_count_102 rfl
set_option maxHeartbeats 4000000 in
set_option maxRecDepth 100000 in
theorem c_cnt_3 {L : Nat} {F : Nat → Nat → Int32} {g : Nat → Option Nat} (d : Nat)  : mCall (d + 3) yX6_count MX6_count [.ref 4, .int 3] (mHX L F g) (some (.int (F 17 0))) (mHX L F g) := by
  refine mCall_of sX6_count.1 (Nat.le_of_ble_eq_true rfl) ⟨_, rfl, rfl⟩ ?_
  show mGo _ _ (0, [some (.ref 4), some (.int 3)], [], _) _
  refine g_iload_n dX6_count_0 rfl ?_
  refine g_tabIn (off := 102) (tgt := 103) dX6_count_1 (by decide) (by decide) rfl (by decide) ?_
  refine g_aload_n dX6_count_103 rfl ?_
  refine g_gR (r := 5) dX6_count_104 fl_X6_10 (fun _ _ => rfl) rfl (by decide) rfl ?_
  refine g_gR (r := 14) dX6_count_107 fl_X6_126 (fun _ _ => rfl) rfl (by decide) rfl ?_
  refine g_gR (r := 17) dX6_count_110 fl_X6_155 (fun _ _ => rfl) rfl (by decide) rfl ?_
  refine g_iconstv (v := 0) dX6_count_113 rfl ?_
  refine g_ialdN (gx := 0) dX6_count_114 rfl (by decide) rfl (by omega) (by decide) ?_
  exact g_iret dX6_count_115 rfl
set_option maxHeartbeats 4000000 in
set_option maxRecDepth 100000 in
theorem c_cnt_4 {L : Nat} {F : Nat → Nat → Int32} {g : Nat → Option Nat} (d : Nat)  : mCall (d + 3) yX6_count MX6_count [.ref 4, .int 4] (mHX L F g) (some (.int (F 17 1))) (mHX L F g) := by
  refine mCall_of sX6_count.1 (Nat.le_of_ble_eq_true rfl) ⟨_, rfl, rfl⟩ ?_
  show mGo _ _ (0, [some (.ref 4), some (.int 4)], [], _) _
  refine g_iload_n dX6_count_0 rfl ?_
  refine g_tabIn (off := 115) (tgt := 116) dX6_count_1 (by decide) (by decide) rfl (by decide) ?_
  refine g_aload_n dX6_count_116 rfl ?_
  refine g_gR (r := 5) dX6_count_117 fl_X6_10 (fun _ _ => rfl) rfl (by decide) rfl ?_
  refine g_gR (r := 14) dX6_count_120 fl_X6_126 (fun _ _ => rfl) rfl (by decide) rfl ?_
  refine g_gR (r := 17) dX6_count_123 fl_X6_155 (fun _ _ => rfl) rfl (by decide) rfl ?_
  refine g_iconstv (v := 1) dX6_count_126 rfl ?_
  refine g_ialdN (gx := 1) dX6_count_127 rfl (by decide) rfl (by omega) (by decide) ?_
  exact g_iret dX6_count_128 rfl
set_option maxHeartbeats 4000000 in
set_option maxRecDepth 100000 in
theorem c_cnt_5 {L : Nat} {F : Nat → Nat → Int32} {g : Nat → Option Nat} (d : Nat)  : mCall (d + 3) yX6_count MX6_count [.ref 4, .int 5] (mHX L F g) (some (.int (F 17 2))) (mHX L F g) := by
  refine mCall_of sX6_count.1 (Nat.le_of_ble_eq_true rfl) ⟨_, rfl, rfl⟩ ?_
  show mGo _ _ (0, [some (.ref 4), some (.int 5)], [], _) _
  refine g_iload_n dX6_count_0 rfl ?_
  refine g_tabIn (off := 128) (tgt := 129) dX6_count_1 (by decide) (by decide) rfl (by decide) ?_
  refine g_aload_n dX6_count_129 rfl ?_
  refine g_gR (r := 5) dX6_count_130 fl_X6_10 (fun _ _ => rfl) rfl (by decide) rfl ?_
  refine g_gR (r := 14) dX6_count_133 fl_X6_126 (fun _ _ => rfl) rfl (by decide) rfl ?_
  refine g_gR (r := 17) dX6_count_136 fl_X6_155 (fun _ _ => rfl) rfl (by decide) rfl ?_
  refine g_iconstv (v := 2) dX6_count_139 rfl ?_
  refine g_ialdN (gx := 2) dX6_count_140 rfl (by decide) rfl (by omega) (by decide) ?_
  exact g_iret dX6_count_141 rfl
set_option maxHeartbeats 4000000 in
set_option maxRecDepth 100000 in
theorem c_cnt_6 {L : Nat} {F : Nat → Nat → Int32} {g : Nat → Option Nat} (d : Nat) (n : Nat) (hn : F 7 0 = nI n) (h10 : n ≤ 10) : mCall (d + 3) yX6_count MX6_count [.ref 4, .int 6] (mHX L F g) (some (.int (sSum (F 10) n))) (mHX L F g) := by
  refine mCall_of sX6_count.1 (Nat.le_of_ble_eq_true rfl) ⟨_, rfl, rfl⟩ ?_
  show mGo _ _ (0, [some (.ref 4), some (.int 6)], [], _) _
  refine g_iload_n dX6_count_0 rfl ?_
  refine g_tabIn (off := 141) (tgt := 142) dX6_count_1 (by decide) (by decide) rfl (by decide) ?_
  refine g_aload_n dX6_count_142 rfl ?_
  refine g_gR (r := 5) dX6_count_143 fl_X6_10 (fun _ _ => rfl) rfl (by decide) rfl ?_
  refine g_gR (r := 7) dX6_count_146 fl_X6_73 (fun _ _ => rfl) rfl (by decide) rfl ?_
  refine g_V0i dX6_count_149 ml_X6_158 sX0_faultsOfAll rfl (by decide) (Nat.le_of_ble_eq_true rfl) (c_faultsOfAll (d + 2) n hn h10) ?_
  exact g_iret dX6_count_152 rfl
set_option maxHeartbeats 4000000 in
set_option maxRecDepth 100000 in
theorem c_cnt_7 {L : Nat} {F : Nat → Nat → Int32} {g : Nat → Option Nat} (d : Nat)  : mCall (d + 3) yX6_count MX6_count [.ref 4, .int 7] (mHX L F g) (some (.int (sMeant (F 15)))) (mHX L F g) := by
  refine mCall_of sX6_count.1 (Nat.le_of_ble_eq_true rfl) ⟨_, rfl, rfl⟩ ?_
  show mGo _ _ (0, [some (.ref 4), some (.int 7)], [], _) _
  refine g_iload_n dX6_count_0 rfl ?_
  refine g_tabIn (off := 152) (tgt := 153) dX6_count_1 (by decide) (by decide) rfl (by decide) ?_
  refine g_aload_n dX6_count_153 rfl ?_
  refine g_gR (r := 5) dX6_count_154 fl_X6_10 (fun _ _ => rfl) rfl (by decide) rfl ?_
  refine g_gR (r := 14) dX6_count_157 fl_X6_126 (fun _ _ => rfl) rfl (by decide) rfl ?_
  refine g_V0i dX6_count_160 ml_X6_161 sX2_setOfMeant rfl (by decide) (Nat.le_of_ble_eq_true rfl) (c_setOfMeant (d + 2)) ?_
  exact g_iret dX6_count_163 rfl
set_option maxHeartbeats 4000000 in
set_option maxRecDepth 100000 in
theorem c_cnt_8 {L : Nat} {F : Nat → Nat → Int32} {g : Nat → Option Nat} (d : Nat) (n : Nat) (hn : F 7 0 = nI n) (h10 : n ≤ 10) : mCall (d + 3) yX6_count MX6_count [.ref 4, .int 8] (mHX L F g) (some (.int (sSumHere (F 8) (F 11) n))) (mHX L F g) := by
  refine mCall_of sX6_count.1 (Nat.le_of_ble_eq_true rfl) ⟨_, rfl, rfl⟩ ?_
  show mGo _ _ (0, [some (.ref 4), some (.int 8)], [], _) _
  refine g_iload_n dX6_count_0 rfl ?_
  refine g_tabIn (off := 163) (tgt := 164) dX6_count_1 (by decide) (by decide) rfl (by decide) ?_
  refine g_aload_n dX6_count_164 rfl ?_
  refine g_gR (r := 5) dX6_count_165 fl_X6_10 (fun _ _ => rfl) rfl (by decide) rfl ?_
  refine g_gR (r := 7) dX6_count_168 fl_X6_73 (fun _ _ => rfl) rfl (by decide) rfl ?_
  refine g_V0i dX6_count_171 ml_X6_164 sX0_coughsOfThoseHere rfl (by decide) (Nat.le_of_ble_eq_true rfl) (c_coughsOfThoseHere (d + 2) n hn h10) ?_
  exact g_iret dX6_count_174 rfl
set_option maxHeartbeats 4000000 in
set_option maxRecDepth 100000 in
theorem c_cnt_9 {L : Nat} {F : Nat → Nat → Int32} {g : Nat → Option Nat} (d : Nat)  : mCall (d + 3) yX6_count MX6_count [.ref 4, .int 9] (mHX L F g) (some (.int (F 6 0))) (mHX L F g) := by
  refine mCall_of sX6_count.1 (Nat.le_of_ble_eq_true rfl) ⟨_, rfl, rfl⟩ ?_
  show mGo _ _ (0, [some (.ref 4), some (.int 9)], [], _) _
  refine g_iload_n dX6_count_0 rfl ?_
  refine g_tabIn (off := 174) (tgt := 175) dX6_count_1 (by decide) (by decide) rfl (by decide) ?_
  refine g_aload_n dX6_count_175 rfl ?_
  refine g_gR (r := 5) dX6_count_176 fl_X6_10 (fun _ _ => rfl) rfl (by decide) rfl ?_
  refine g_gR (r := 6) dX6_count_179 fl_X6_167 (fun _ _ => rfl) rfl (by decide) rfl ?_
  refine g_iconstv (v := 0) dX6_count_182 rfl ?_
  refine g_ialdN (gx := 0) dX6_count_183 rfl (by decide) rfl (by omega) (by decide) ?_
  exact g_iret dX6_count_184 rfl
set_option maxHeartbeats 4000000 in
set_option maxRecDepth 100000 in
theorem c_cnt_10 {L : Nat} {F : Nat → Nat → Int32} {g : Nat → Option Nat} (d : Nat)  : mCall (d + 3) yX6_count MX6_count [.ref 4, .int 10] (mHX L F g) (some (.int (F 6 1))) (mHX L F g) := by
  refine mCall_of sX6_count.1 (Nat.le_of_ble_eq_true rfl) ⟨_, rfl, rfl⟩ ?_
  show mGo _ _ (0, [some (.ref 4), some (.int 10)], [], _) _
  refine g_iload_n dX6_count_0 rfl ?_
  refine g_tabIn (off := 184) (tgt := 185) dX6_count_1 (by decide) (by decide) rfl (by decide) ?_
  refine g_aload_n dX6_count_185 rfl ?_
  refine g_gR (r := 5) dX6_count_186 fl_X6_10 (fun _ _ => rfl) rfl (by decide) rfl ?_
  refine g_gR (r := 6) dX6_count_189 fl_X6_167 (fun _ _ => rfl) rfl (by decide) rfl ?_
  refine g_iconstv (v := 1) dX6_count_192 rfl ?_
  refine g_ialdN (gx := 1) dX6_count_193 rfl (by decide) rfl (by omega) (by decide) ?_
  exact g_iret dX6_count_194 rfl
set_option maxHeartbeats 4000000 in
set_option maxRecDepth 100000 in
theorem c_cnt_11 {L : Nat} {F : Nat → Nat → Int32} {g : Nat → Option Nat} (d : Nat)  : mCall (d + 3) yX6_count MX6_count [.ref 4, .int 11] (mHX L F g) (some (.int (F 6 2))) (mHX L F g) := by
  refine mCall_of sX6_count.1 (Nat.le_of_ble_eq_true rfl) ⟨_, rfl, rfl⟩ ?_
  show mGo _ _ (0, [some (.ref 4), some (.int 11)], [], _) _
  refine g_iload_n dX6_count_0 rfl ?_
  refine g_tabIn (off := 194) (tgt := 195) dX6_count_1 (by decide) (by decide) rfl (by decide) ?_
  refine g_aload_n dX6_count_195 rfl ?_
  refine g_gR (r := 5) dX6_count_196 fl_X6_10 (fun _ _ => rfl) rfl (by decide) rfl ?_
  refine g_gR (r := 6) dX6_count_199 fl_X6_167 (fun _ _ => rfl) rfl (by decide) rfl ?_
  refine g_iconstv (v := 2) dX6_count_202 rfl ?_
  refine g_ialdN (gx := 2) dX6_count_203 rfl (by decide) rfl (by omega) (by decide) ?_
  exact g_iret dX6_count_204 rfl
set_option maxHeartbeats 4000000 in
set_option maxRecDepth 100000 in
theorem c_cnt_12 {L : Nat} {F : Nat → Nat → Int32} {g : Nat → Option Nat} (d : Nat)  : mCall (d + 3) yX6_count MX6_count [.ref 4, .int 12] (mHX L F g) (some (.int (F 6 3))) (mHX L F g) := by
  refine mCall_of sX6_count.1 (Nat.le_of_ble_eq_true rfl) ⟨_, rfl, rfl⟩ ?_
  show mGo _ _ (0, [some (.ref 4), some (.int 12)], [], _) _
  refine g_iload_n dX6_count_0 rfl ?_
  refine g_tabIn (off := 204) (tgt := 205) dX6_count_1 (by decide) (by decide) rfl (by decide) ?_
  refine g_aload_n dX6_count_205 rfl ?_
  refine g_gR (r := 5) dX6_count_206 fl_X6_10 (fun _ _ => rfl) rfl (by decide) rfl ?_
  refine g_gR (r := 6) dX6_count_209 fl_X6_167 (fun _ _ => rfl) rfl (by decide) rfl ?_
  refine g_iconstv (v := 3) dX6_count_212 rfl ?_
  refine g_ialdN (gx := 3) dX6_count_213 rfl (by decide) rfl (by omega) (by decide) ?_
  exact g_iret dX6_count_214 rfl
set_option maxHeartbeats 4000000 in
set_option maxRecDepth 100000 in
theorem c_cnt_13 {L : Nat} {F : Nat → Nat → Int32} {g : Nat → Option Nat} (d : Nat)  : mCall (d + 3) yX6_count MX6_count [.ref 4, .int 13] (mHX L F g) (some (.int (F 170 1))) (mHX L F g) := by
  refine mCall_of sX6_count.1 (Nat.le_of_ble_eq_true rfl) ⟨_, rfl, rfl⟩ ?_
  show mGo _ _ (0, [some (.ref 4), some (.int 13)], [], _) _
  refine g_iload_n dX6_count_0 rfl ?_
  refine g_tabIn (off := 214) (tgt := 215) dX6_count_1 (by decide) (by decide) rfl (by decide) ?_
  refine g_aload_n dX6_count_215 rfl ?_
  refine g_gR (r := 170) dX6_count_216 fl_X6_33 (fun _ _ => rfl) rfl (by decide) rfl ?_
  refine g_gI dX6_count_219 fl_X6_170 (fun _ _ => rfl) rfl (by decide) ?_
  exact g_iret dX6_count_222 rfl
set_option maxHeartbeats 4000000 in
set_option maxRecDepth 100000 in
theorem c_cnt_14 {L : Nat} {F : Nat → Nat → Int32} {g : Nat → Option Nat} (d : Nat)  : mCall (d + 3) yX6_count MX6_count [.ref 4, .int 14] (mHX L F g) (some (.int (F 21 1))) (mHX L F g) := by
  refine mCall_of sX6_count.1 (Nat.le_of_ble_eq_true rfl) ⟨_, rfl, rfl⟩ ?_
  show mGo _ _ (0, [some (.ref 4), some (.int 14)], [], _) _
  refine g_iload_n dX6_count_0 rfl ?_
  refine g_tabIn (off := 222) (tgt := 223) dX6_count_1 (by decide) (by decide) rfl (by decide) ?_
  refine g_aload_n dX6_count_223 rfl ?_
  refine g_gR (r := 21) dX6_count_224 fl_X6_19 (fun _ _ => rfl) rfl (by decide) rfl ?_
  refine g_gI dX6_count_227 fl_X6_173 (fun _ _ => rfl) rfl (by decide) ?_
  exact g_iret dX6_count_230 rfl
set_option maxHeartbeats 4000000 in
set_option maxRecDepth 100000 in
theorem c_wm_no {L : Nat} {F : Nat → Nat → Int32} {g : Nat → Option Nat} (d : Nat) (x w : Int32) (hb : ¬ (0 ≤ x ∧ x < 3)) : mCall (d + 3) yX6_wouldMean MX6_wouldMean [.ref 4, .int x, .int w] (mHX L F g) (some (.int (-1))) (mHX L F g) := by
  refine mCall_of sX6_wouldMean.1 (Nat.le_of_ble_eq_true rfl) ⟨_, rfl, rfl⟩ ?_
  show mGo _ _ (0, [some (.ref 4), some (.int x), some (.int w)], [], _) _
  refine g_iload_n dX6_wouldMean_0 rfl ?_
  refine g_S1i dX6_wouldMean_1 ml_X6_105 sX6_isTable (Nat.le_of_ble_eq_true rfl) (c_isTable (d + 2) x) ?_
  refine g_if_ne (tgt := 9) dX6_wouldMean_4 (by decide) (fun c4 => absurd (mbi_f hb) c4) (fun c4 => ?_)
  refine g_iconstv (v := (-1)) dX6_wouldMean_7 rfl ?_
  exact g_iret dX6_wouldMean_8 rfl
set_option maxHeartbeats 4000000 in
set_option maxRecDepth 100000 in
theorem c_wm_bad {L : Nat} {F : Nat → Nat → Int32} {g : Nat → Option Nat} (d : Nat) (x w : Int32) (hb : 0 ≤ x ∧ x < 3) (hw : ¬ (0 ≤ w ∧ w ≤ 999)) : mCall (d + 3) yX6_wouldMean MX6_wouldMean [.ref 4, .int x, .int w] (mHX L F g) (some (.int (-2))) (mHX L F g) := by
  refine mCall_of sX6_wouldMean.1 (Nat.le_of_ble_eq_true rfl) ⟨_, rfl, rfl⟩ ?_
  show mGo _ _ (0, [some (.ref 4), some (.int x), some (.int w)], [], _) _
  refine g_iload_n dX6_wouldMean_0 rfl ?_
  refine g_S1i dX6_wouldMean_1 ml_X6_105 sX6_isTable (Nat.le_of_ble_eq_true rfl) (c_isTable (d + 2) x) ?_
  refine g_if_ne (tgt := 9) dX6_wouldMean_4 (by decide) (fun c4 => ?_) (fun c4 => absurd c4 (mbi_n0.mpr hb))
  refine g_iload_n dX6_wouldMean_9 rfl ?_
  refine g_if_lt (tgt := 20) dX6_wouldMean_10 (by decide) (fun c10 => ?_) (fun c10 => ?_)
  · skip
    refine g_bipushv (v := (-2)) dX6_wouldMean_20 rfl ?_
    exact g_iret dX6_wouldMean_22 rfl
  · skip
    refine g_iload_n dX6_wouldMean_13 rfl ?_
    refine g_sipushv (v := 999) dX6_wouldMean_14 rfl ?_
    refine g_icmp_le (tgt := 23) dX6_wouldMean_17 (by decide) (fun c17 => absurd c17 (fun q => hw ⟨Int32.not_lt.mp c10, q⟩)) (fun c17 => ?_)
    refine g_bipushv (v := (-2)) dX6_wouldMean_20 rfl ?_
    exact g_iret dX6_wouldMean_22 rfl
set_option maxHeartbeats 4000000 in
set_option maxRecDepth 100000 in
theorem c_wm_ok {L : Nat} {F : Nat → Nat → Int32} {g : Nat → Option Nat} (d : Nat) (n : Nat) (hn : F 7 0 = nI n) (h10 : n ≤ 10) (h3 : F 3 = mMB) (t : Nat) (ht : t < 3) (c : Nat) (hc : c ≤ 4) (ec : sComp (F 8) (F 9) (nI t) (-6) n = nI c) (w : Int32) (hw : 0 ≤ w ∧ w ≤ 999) : mCall (d + 3) yX6_wouldMean MX6_wouldMean [.ref 4, .int (nI t), .int w] (mHX L F g) (some (.int (sMean (F 6) c w))) (mHX L F g) := by
  refine mCall_of sX6_wouldMean.1 (Nat.le_of_ble_eq_true rfl) ⟨_, rfl, rfl⟩ ?_
  show mGo _ _ (0, [some (.ref 4), some (.int (nI t)), some (.int w)], [], _) _
  have ht0 : 0 ≤ nI t ∧ nI t < 3 := ⟨nI_pos' (by omega), nI_lt (b := 3) ht (by decide)⟩
  refine g_iload_n dX6_wouldMean_0 rfl ?_
  refine g_S1i dX6_wouldMean_1 ml_X6_105 sX6_isTable (Nat.le_of_ble_eq_true rfl) (c_isTable (d + 2) (nI t)) ?_
  refine g_if_ne (tgt := 9) dX6_wouldMean_4 (by decide) (fun c4 => ?_) (fun c4 => absurd c4 (mbi_n0.mpr ht0))
  refine g_iload_n dX6_wouldMean_9 rfl ?_
  refine g_if_lt (tgt := 20) dX6_wouldMean_10 (by decide) (fun c10 => absurd c10 (Int32.not_lt.mpr hw.1)) (fun c10 => ?_)
  refine g_iload_n dX6_wouldMean_13 rfl ?_
  refine g_sipushv (v := 999) dX6_wouldMean_14 rfl ?_
  refine g_icmp_le (tgt := 23) dX6_wouldMean_17 (by decide) (fun c17 => ?_) (fun c17 => absurd hw.2 c17)
  refine g_aload_n dX6_wouldMean_23 rfl ?_
  refine g_gR (r := 5) dX6_wouldMean_24 fl_X6_10 (fun _ _ => rfl) rfl (by decide) rfl ?_
  refine g_aload_n dX6_wouldMean_27 rfl ?_
  refine g_gR (r := 5) dX6_wouldMean_28 fl_X6_10 (fun _ _ => rfl) rfl (by decide) rfl ?_
  refine g_gR (r := 7) dX6_wouldMean_31 fl_X6_73 (fun _ _ => rfl) rfl (by decide) rfl ?_
  refine g_iload_n dX6_wouldMean_34 rfl ?_
  refine g_bipushv (v := (-6)) dX6_wouldMean_35 rfl ?_
  refine g_V2i dX6_wouldMean_37 ml_X6_114 sX0_companyOf rfl (by decide) (Nat.le_of_ble_eq_true rfl) (c_companyOf (d + 2) n hn h10 (nI t) (-6)) ?_
  rw [ec]
  refine g_iload_n dX6_wouldMean_40 rfl ?_
  refine g_V2i dX6_wouldMean_41 ml_X6_176 sX4_meaningFor rfl (by decide) (Nat.le_of_ble_eq_true rfl) (c_meaningFor (d + 1) c hc h3 w) ?_
  exact g_iret dX6_wouldMean_44 rfl
set_option maxHeartbeats 4000000 in
set_option maxRecDepth 100000 in
theorem c_ti_no {L : Nat} {F : Nat → Nat → Int32} {g : Nat → Option Nat} (d : Nat) (x : Int32) (hb : ¬ (0 ≤ x ∧ x < 3)) : mCall (d + 3) yX6_turnsIn MX6_turnsIn [.ref 4, .int x] (mHX L F g) (some (.int (-1))) (mHX L F g) := by
  refine mCall_of sX6_turnsIn.1 (Nat.le_of_ble_eq_true rfl) ⟨_, rfl, rfl⟩ ?_
  show mGo _ _ (0, [some (.ref 4), some (.int x)], [], _) _
  refine g_iload_n dX6_turnsIn_0 rfl ?_
  refine g_S1i dX6_turnsIn_1 ml_X6_105 sX6_isTable (Nat.le_of_ble_eq_true rfl) (c_isTable (d + 2) x) ?_
  refine g_if_ne (tgt := 9) dX6_turnsIn_4 (by decide) (fun c4 => absurd (mbi_f hb) c4) (fun c4 => ?_)
  refine g_iconstv (v := (-1)) dX6_turnsIn_7 rfl ?_
  exact g_iret dX6_turnsIn_8 rfl
set_option maxHeartbeats 4000000 in
set_option maxRecDepth 100000 in
theorem c_ti_none {L : Nat} {F : Nat → Nat → Int32} {g : Nat → Option Nat} (d : Nat) (t : Nat) (ht : t < 3) (hq : F 19 t = (-6)) : mCall (d + 3) yX6_turnsIn MX6_turnsIn [.ref 4, .int (nI t)] (mHX L F g) (some (.int (-5))) (mHX L F g) := by
  refine mCall_of sX6_turnsIn.1 (Nat.le_of_ble_eq_true rfl) ⟨_, rfl, rfl⟩ ?_
  show mGo _ _ (0, [some (.ref 4), some (.int (nI t))], [], _) _
  have ht0 : 0 ≤ nI t ∧ nI t < 3 := ⟨nI_pos' (by omega), nI_lt (b := 3) ht (by decide)⟩
  refine g_iload_n dX6_turnsIn_0 rfl ?_
  refine g_S1i dX6_turnsIn_1 ml_X6_105 sX6_isTable (Nat.le_of_ble_eq_true rfl) (c_isTable (d + 2) (nI t)) ?_
  refine g_if_ne (tgt := 9) dX6_turnsIn_4 (by decide) (fun c4 => ?_) (fun c4 => absurd c4 (mbi_n0.mpr ht0))
  refine g_aload_n dX6_turnsIn_9 rfl ?_
  refine g_gR (r := 5) dX6_turnsIn_10 fl_X6_10 (fun _ _ => rfl) rfl (by decide) rfl ?_
  refine g_gR (r := 19) dX6_turnsIn_13 fl_X6_117 (fun _ _ => rfl) rfl (by decide) rfl ?_
  refine g_iload_n dX6_turnsIn_16 rfl ?_
  refine g_ialdN (gx := t) dX6_turnsIn_17 rfl (by decide) rfl (by omega) (by decide) ?_
  refine g_bipushv (v := (-6)) dX6_turnsIn_18 rfl ?_
  refine g_icmp_ne (tgt := 28) dX6_turnsIn_20 (by decide) (fun c20 => absurd hq c20) (fun c20 => ?_)
  refine g_bipushv (v := (-5)) dX6_turnsIn_23 rfl ?_
  refine g_goto (tgt := 36) dX6_turnsIn_25 (by decide) ?_
  exact g_iret dX6_turnsIn_36 rfl
set_option maxHeartbeats 4000000 in
set_option maxRecDepth 100000 in
theorem c_ti_ok {L : Nat} {F : Nat → Nat → Int32} {g : Nat → Option Nat} (d : Nat) (n : Nat) (hn : F 7 0 = nI n) (h10 : n ≤ 10) (h3 : F 3 = mMB) (t : Nat) (ht : t < 3) (c : Nat) (hc : c ≤ 4) (ec : sComp (F 8) (F 9) (nI t) (-6) n = nI c) (hq : ¬ F 19 t = (-6)) : mCall (d + 3) yX6_turnsIn MX6_turnsIn [.ref 4, .int (nI t)] (mHX L F g) (some (.int (sTurn (F 6) c (F 19 t) 0 4))) (mHX L F g) := by
  refine mCall_of sX6_turnsIn.1 (Nat.le_of_ble_eq_true rfl) ⟨_, rfl, rfl⟩ ?_
  show mGo _ _ (0, [some (.ref 4), some (.int (nI t))], [], _) _
  have ht0 : 0 ≤ nI t ∧ nI t < 3 := ⟨nI_pos' (by omega), nI_lt (b := 3) ht (by decide)⟩
  refine g_iload_n dX6_turnsIn_0 rfl ?_
  refine g_S1i dX6_turnsIn_1 ml_X6_105 sX6_isTable (Nat.le_of_ble_eq_true rfl) (c_isTable (d + 2) (nI t)) ?_
  refine g_if_ne (tgt := 9) dX6_turnsIn_4 (by decide) (fun c4 => ?_) (fun c4 => absurd c4 (mbi_n0.mpr ht0))
  refine g_aload_n dX6_turnsIn_9 rfl ?_
  refine g_gR (r := 5) dX6_turnsIn_10 fl_X6_10 (fun _ _ => rfl) rfl (by decide) rfl ?_
  refine g_gR (r := 19) dX6_turnsIn_13 fl_X6_117 (fun _ _ => rfl) rfl (by decide) rfl ?_
  refine g_iload_n dX6_turnsIn_16 rfl ?_
  refine g_ialdN (gx := t) dX6_turnsIn_17 rfl (by decide) rfl (by omega) (by decide) ?_
  refine g_bipushv (v := (-6)) dX6_turnsIn_18 rfl ?_
  refine g_icmp_ne (tgt := 28) dX6_turnsIn_20 (by decide) (fun c20 => ?_) (fun c20 => absurd c20 hq)
  refine g_aload_n dX6_turnsIn_28 rfl ?_
  refine g_gR (r := 5) dX6_turnsIn_29 fl_X6_10 (fun _ _ => rfl) rfl (by decide) rfl ?_
  refine g_iload_n dX6_turnsIn_32 rfl ?_
  refine g_V1i dX6_turnsIn_33 ml_X6_179 sX4_secondsToTurn rfl (by decide) (Nat.le_of_ble_eq_true rfl) (c_turn d n hn h10 h3 t ht c hc ec) ?_
  exact g_iret dX6_turnsIn_36 rfl
set_option maxHeartbeats 4000000 in
set_option maxRecDepth 100000 in
theorem c_len_no {L : Nat} {F : Nat → Nat → Int32} {g : Nat → Option Nat} (d : Nat) (x : Int32) (hb : ¬ (0 ≤ x ∧ x < F 7 0)) : mCall (d + 3) yX6_lender MX6_lender [.ref 4, .int x] (mHX L F g) (some (.int (-1))) (mHX L F g) := by
  refine mCall_of sX6_lender.1 (Nat.le_of_ble_eq_true rfl) ⟨_, rfl, rfl⟩ ?_
  show mGo _ _ (0, [some (.ref 4), some (.int x), none], [], _) _
  refine g_aload_n dX6_lender_0 rfl ?_
  refine g_gR (r := 5) dX6_lender_1 fl_X6_10 (fun _ _ => rfl) rfl (by decide) rfl ?_
  refine g_gR (r := 7) dX6_lender_4 fl_X6_73 (fun _ _ => rfl) rfl (by decide) rfl ?_
  refine g_iload_n dX6_lender_7 rfl ?_
  refine g_V1i dX6_lender_8 ml_X6_77 sX0_isKnown rfl (by decide) (Nat.le_of_ble_eq_true rfl) (c_isKnown (d + 2) x) ?_
  refine g_if_ne (tgt := 16) dX6_lender_11 (by decide) (fun c11 => absurd (mbi_f hb) c11) (fun c11 => ?_)
  refine g_iconstv (v := (-1)) dX6_lender_14 rfl ?_
  exact g_iret dX6_lender_15 rfl
set_option maxHeartbeats 4000000 in
set_option maxRecDepth 100000 in
theorem c_len_none {L : Nat} {F : Nat → Nat → Int32} {g : Nat → Option Nat} (d : Nat) (n : Nat) (hn : F 7 0 = nI n) (h10 : n ≤ 10) (k : Nat) (hk : k < n) (hs : F 8 k = (-6)) : mCall (d + 3) yX6_lender MX6_lender [.ref 4, .int (nI k)] (mHX L F g) (some (.int (-5))) (mHX L F g) := by
  refine mCall_of sX6_lender.1 (Nat.le_of_ble_eq_true rfl) ⟨_, rfl, rfl⟩ ?_
  show mGo _ _ (0, [some (.ref 4), some (.int (nI k)), none], [], _) _
  have hk0 : 0 ≤ nI k ∧ nI k < F 7 0 := ⟨nI_pos' (by omega), by rw [hn]; exact nI_lt hk (by omega)⟩
  refine g_aload_n dX6_lender_0 rfl ?_
  refine g_gR (r := 5) dX6_lender_1 fl_X6_10 (fun _ _ => rfl) rfl (by decide) rfl ?_
  refine g_gR (r := 7) dX6_lender_4 fl_X6_73 (fun _ _ => rfl) rfl (by decide) rfl ?_
  refine g_iload_n dX6_lender_7 rfl ?_
  refine g_V1i dX6_lender_8 ml_X6_77 sX0_isKnown rfl (by decide) (Nat.le_of_ble_eq_true rfl) (c_isKnown (d + 2) (nI k)) ?_
  refine g_if_ne (tgt := 16) dX6_lender_11 (by decide) (fun c11 => ?_) (fun c11 => absurd c11 (mbi_n0.mpr hk0))
  refine g_aload_n dX6_lender_16 rfl ?_
  refine g_gR (r := 5) dX6_lender_17 fl_X6_10 (fun _ _ => rfl) rfl (by decide) rfl ?_
  refine g_gR (r := 7) dX6_lender_20 fl_X6_73 (fun _ _ => rfl) rfl (by decide) rfl ?_
  refine g_gR (r := 8) dX6_lender_23 fl_X6_83 (fun _ _ => rfl) rfl (by decide) rfl ?_
  refine g_iload_n dX6_lender_26 rfl ?_
  refine g_ialdN (gx := k) dX6_lender_27 rfl (by decide) rfl (by omega) (by decide) ?_
  refine g_istore_n dX6_lender_28 (by decide) rfl ?_
  refine g_iload_n dX6_lender_29 rfl ?_
  refine g_bipushv (v := (-6)) dX6_lender_30 rfl ?_
  refine g_icmp_ne (tgt := 40) dX6_lender_32 (by decide) (fun c32 => absurd hs c32) (fun c32 => ?_)
  refine g_bipushv (v := (-5)) dX6_lender_35 rfl ?_
  refine g_goto (tgt := 52) dX6_lender_37 (by decide) ?_
  exact g_iret dX6_lender_52 rfl
set_option maxHeartbeats 4000000 in
set_option maxRecDepth 100000 in
theorem c_len_ok {L : Nat} {F : Nat → Nat → Int32} {g : Nat → Option Nat} (d : Nat) (n : Nat) (hn : F 7 0 = nI n) (h10 : n ≤ 10) (k : Nat) (hk : k < n) (hs : ¬ F 8 k = (-6)) : mCall (d + 3) yX6_lender MX6_lender [.ref 4, .int (nI k)] (mHX L F g) (some (.int (sLend (F 8) (F 9) (F 11) (nI k) (F 8 k) n))) (mHX L F g) := by
  refine mCall_of sX6_lender.1 (Nat.le_of_ble_eq_true rfl) ⟨_, rfl, rfl⟩ ?_
  show mGo _ _ (0, [some (.ref 4), some (.int (nI k)), none], [], _) _
  have hk0 : 0 ≤ nI k ∧ nI k < F 7 0 := ⟨nI_pos' (by omega), by rw [hn]; exact nI_lt hk (by omega)⟩
  refine g_aload_n dX6_lender_0 rfl ?_
  refine g_gR (r := 5) dX6_lender_1 fl_X6_10 (fun _ _ => rfl) rfl (by decide) rfl ?_
  refine g_gR (r := 7) dX6_lender_4 fl_X6_73 (fun _ _ => rfl) rfl (by decide) rfl ?_
  refine g_iload_n dX6_lender_7 rfl ?_
  refine g_V1i dX6_lender_8 ml_X6_77 sX0_isKnown rfl (by decide) (Nat.le_of_ble_eq_true rfl) (c_isKnown (d + 2) (nI k)) ?_
  refine g_if_ne (tgt := 16) dX6_lender_11 (by decide) (fun c11 => ?_) (fun c11 => absurd c11 (mbi_n0.mpr hk0))
  refine g_aload_n dX6_lender_16 rfl ?_
  refine g_gR (r := 5) dX6_lender_17 fl_X6_10 (fun _ _ => rfl) rfl (by decide) rfl ?_
  refine g_gR (r := 7) dX6_lender_20 fl_X6_73 (fun _ _ => rfl) rfl (by decide) rfl ?_
  refine g_gR (r := 8) dX6_lender_23 fl_X6_83 (fun _ _ => rfl) rfl (by decide) rfl ?_
  refine g_iload_n dX6_lender_26 rfl ?_
  refine g_ialdN (gx := k) dX6_lender_27 rfl (by decide) rfl (by omega) (by decide) ?_
  refine g_istore_n dX6_lender_28 (by decide) rfl ?_
  refine g_iload_n dX6_lender_29 rfl ?_
  refine g_bipushv (v := (-6)) dX6_lender_30 rfl ?_
  refine g_icmp_ne (tgt := 40) dX6_lender_32 (by decide) (fun c32 => ?_) (fun c32 => absurd c32 hs)
  refine g_aload_n dX6_lender_40 rfl ?_
  refine g_gR (r := 5) dX6_lender_41 fl_X6_10 (fun _ _ => rfl) rfl (by decide) rfl ?_
  refine g_gR (r := 7) dX6_lender_44 fl_X6_73 (fun _ _ => rfl) rfl (by decide) rfl ?_
  refine g_iload_n dX6_lender_47 rfl ?_
  refine g_iload_n dX6_lender_48 rfl ?_
  refine g_V2i dX6_lender_49 ml_X6_182 sX0_lenderTo rfl (by decide) (Nat.le_of_ble_eq_true rfl) (c_lenderTo (d + 2) n hn h10 (nI k) (F 8 k)) ?_
  exact g_iret dX6_lender_52 rfl
set_option maxHeartbeats 4000000 in
set_option maxRecDepth 100000 in
theorem c_usual {L : Nat} {F : Nat → Nat → Int32} {g : Nat → Option Nat} (d : Nat)  : mCall (d + 3) yX6_usual MX6_usual [.ref 4] (mHX L F g) (some (.int (sMost (F 15)))) (mHX L F g) := by
  refine mCall_of sX6_usual.1 (Nat.le_of_ble_eq_true rfl) ⟨_, rfl, rfl⟩ ?_
  show mGo _ _ (0, [some (.ref 4)], [], _) _
  refine g_aload_n dX6_usual_0 rfl ?_
  refine g_gR (r := 5) dX6_usual_1 fl_X6_10 (fun _ _ => rfl) rfl (by decide) rfl ?_
  refine g_gR (r := 14) dX6_usual_4 fl_X6_126 (fun _ _ => rfl) rfl (by decide) rfl ?_
  refine g_V0i dX6_usual_7 ml_X6_188 sX2_mostMeant rfl (by decide) (Nat.le_of_ble_eq_true rfl) (c_mostMeant (d + 2)) ?_
  exact g_iret dX6_usual_10 rfl
set_option maxHeartbeats 4000000 in
set_option maxRecDepth 100000 in
theorem c_x_undo {L : Nat} {F : Nat → Nat → Int32} {g : Nat → Option Nat} (d : Nat) (r : Int32) (hp1 : mHp) (H : mCall (d + 3) yX1_takeBack MX1_takeBack [.ref 21, .ref 5] (mHX L F g) (some (.int r)) hp1) : mCall (d + 4) yX6_undo MX6_undo [.ref 4] (mHX L F g) (some (.int r)) (hp1) := by
  refine mCall_of sX6_undo.1 (Nat.le_of_ble_eq_true rfl) ⟨_, rfl, rfl⟩ ?_
  show mGo _ _ (0, [some (.ref 4)], [], _) _
  refine g_aload_n dX6_undo_0 rfl ?_
  refine g_gR (r := 21) dX6_undo_1 fl_X6_19 (fun _ _ => rfl) rfl (by decide) rfl ?_
  refine g_aload_n dX6_undo_4 rfl ?_
  refine g_gR (r := 5) dX6_undo_5 fl_X6_10 (fun _ _ => rfl) rfl (by decide) rfl ?_
  refine g_V1i dX6_undo_8 ml_X6_207 sX1_takeBack rfl (by decide) (Nat.le_of_ble_eq_true rfl) (H) ?_
  exact g_iret dX6_undo_11 rfl
set_option maxHeartbeats 4000000 in
set_option maxRecDepth 100000 in
theorem c_x_save {L : Nat} {F : Nat → Nat → Int32} {g : Nat → Option Nat} (d : Nat) (x r : Int32) (hp1 : mHp) (H : mCall (d + 3) yX5_keep MX5_keep [.ref 135, .int x, .ref 5] (mHX L F g) (some (.int r)) hp1) : mCall (d + 4) yX6_save MX6_save [.ref 4, .int x] (mHX L F g) (some (.int r)) (hp1) := by
  refine mCall_of sX6_save.1 (Nat.le_of_ble_eq_true rfl) ⟨_, rfl, rfl⟩ ?_
  show mGo _ _ (0, [some (.ref 4), some (.int x)], [], _) _
  refine g_aload_n dX6_save_0 rfl ?_
  refine g_gR (r := 135) dX6_save_1 fl_X6_26 (fun _ _ => rfl) rfl (by decide) rfl ?_
  refine g_iload_n dX6_save_4 rfl ?_
  refine g_aload_n dX6_save_5 rfl ?_
  refine g_gR (r := 5) dX6_save_6 fl_X6_10 (fun _ _ => rfl) rfl (by decide) rfl ?_
  refine g_V2i dX6_save_9 ml_X6_211 sX5_keep rfl (by decide) (Nat.le_of_ble_eq_true rfl) (H) ?_
  exact g_iret dX6_save_12 rfl
set_option maxHeartbeats 4000000 in
set_option maxRecDepth 100000 in
theorem c_isError {hp : mHp} (d : Nat) (x : Int32) : mCall (d) yX6_isError MX6_isError [.int x] (hp) (some (.int (mbi (x ≤ (-1) ∧ (-5) ≤ x)))) (hp) := by
  refine mCall_of sX6_isError.1 (Nat.le_of_ble_eq_true rfl) ⟨_, rfl, mbi_ok⟩ ?_
  show mGo _ _ (0, [some (.int x)], [], _) _
  refine g_iload_n dX6_isError_0 rfl ?_
  refine g_iconstv (v := (-1)) dX6_isError_1 rfl ?_
  refine g_icmp_gt (tgt := 15) dX6_isError_2 (by decide) (fun c2 => ?_) (fun c2 => ?_)
  · skip
    refine g_iconstv (v := 0) dX6_isError_15 rfl ?_
    exact g_iret dX6_isError_16 (m_ret (by unfold mbi; split <;> first | rfl | (exfalso; simp only [i_eq, i_lt, i_le, show (-1 : Int32).toInt = -1 from by decide, show (-5 : Int32).toInt = -5 from by decide] at *; omega)))
  · skip
    refine g_iload_n dX6_isError_5 rfl ?_
    refine g_bipushv (v := (-5)) dX6_isError_6 rfl ?_
    refine g_icmp_lt (tgt := 15) dX6_isError_8 (by decide) (fun c8 => ?_) (fun c8 => ?_)
    · skip
      refine g_iconstv (v := 0) dX6_isError_15 rfl ?_
      exact g_iret dX6_isError_16 (m_ret (by unfold mbi; split <;> first | rfl | (exfalso; simp only [i_eq, i_lt, i_le, show (-1 : Int32).toInt = -1 from by decide, show (-5 : Int32).toInt = -5 from by decide] at *; omega)))
    · skip
      refine g_iconstv (v := 1) dX6_isError_11 rfl ?_
      refine g_goto (tgt := 16) dX6_isError_12 (by decide) ?_
      exact g_iret dX6_isError_16 (m_ret (by unfold mbi; split <;> first | rfl | (exfalso; simp only [i_eq, i_lt, i_le, show (-1 : Int32).toInt = -1 from by decide, show (-5 : Int32).toInt = -5 from by decide] at *; omega)))
def xKF (F : Nat → Nat → Int32) (k : Nat) : Nat → Nat → Int32 := if k < 6 then pe F 21 1 (F 21 1 + 1) else F
def xKG (g : Nat → Option Nat) (π : Nat → Nat) (k : Nat) : Nat → Option Nat := if k < 6 then g else xRot g π
theorem c_keep {L : Nat} {F : Nat → Nat → Int32} {g : Nat → Option Nat} (d : Nat) (π : Nat → Nat) (hg : ∀ i, i < 7 → g i = some (23 + 16 * π i)) (hπ : ∀ i, i < 7 → π i < 7) (k : Nat) (hk : k < 7) (ek : F 21 1 = nI k) : mCall d yX1_keepNoted MX1_keepNoted [.ref 21] (mHX L F g) none (mHX L (xKF F k) (xKG g π k)) := by
  by_cases h : k < 6
  · simp only [xKF, xKG, if_pos h]
    exact c_keep_lo d k h ek
  · simp only [xKF, xKG, if_neg h]
    exact c_keep_hi d π hg hπ (by rw [ek, show k = 6 by omega])
set_option maxHeartbeats 4000000 in
set_option maxRecDepth 100000 in
theorem c_kept_err {L : Nat} {F : Nat → Nat → Int32} {g : Nat → Option Nat} (d : Nat) (r : Int32) (hr : r ≤ (-1) ∧ (-5) ≤ r) : mCall (d + 1) yX6_keptUnlessError MX6_keptUnlessError [.ref 4, .int r] (mHX L F g) (some (.int r)) (mHX L F g) := by
  refine mCall_of sX6_keptUnlessError.1 (Nat.le_of_ble_eq_true rfl) ⟨_, rfl, rfl⟩ ?_
  show mGo _ _ (0, [some (.ref 4), some (.int r)], [], _) _
  refine g_iload_n dX6_keptUnlessError_0 rfl ?_
  refine g_S1i dX6_keptUnlessError_1 ml_X6_218 sX6_isError (Nat.le_of_ble_eq_true rfl) (c_isError d r) ?_
  refine g_if_ne (tgt := 14) dX6_keptUnlessError_4 (by decide) (fun c4 => ?_) (fun c4 => absurd c4 (mbi_n0.mpr hr))
  refine g_iload_n dX6_keptUnlessError_14 rfl ?_
  exact g_iret dX6_keptUnlessError_15 rfl
set_option maxHeartbeats 4000000 in
set_option maxRecDepth 100000 in
theorem c_kept_ok {L : Nat} {F : Nat → Nat → Int32} {g : Nat → Option Nat} (d : Nat) (π : Nat → Nat) (hg : ∀ i, i < 7 → g i = some (23 + 16 * π i)) (hπ : ∀ i, i < 7 → π i < 7) (k : Nat) (hk : k < 7) (ek : F 21 1 = nI k) (r : Int32) (hr : ¬ (r ≤ (-1) ∧ (-5) ≤ r)) : mCall (d + 1) yX6_keptUnlessError MX6_keptUnlessError [.ref 4, .int r] (mHX L F g) (some (.int r)) (mHX L (xKF F k) (xKG g π k)) := by
  refine mCall_of sX6_keptUnlessError.1 (Nat.le_of_ble_eq_true rfl) ⟨_, rfl, rfl⟩ ?_
  show mGo _ _ (0, [some (.ref 4), some (.int r)], [], _) _
  refine g_iload_n dX6_keptUnlessError_0 rfl ?_
  refine g_S1i dX6_keptUnlessError_1 ml_X6_218 sX6_isError (Nat.le_of_ble_eq_true rfl) (c_isError d r) ?_
  refine g_if_ne (tgt := 14) dX6_keptUnlessError_4 (by decide) (fun c4 => absurd (mbi_f hr) c4) (fun c4 => ?_)
  refine g_aload_n dX6_keptUnlessError_7 rfl ?_
  refine g_gR (r := 21) dX6_keptUnlessError_8 fl_X6_19 (fun _ _ => rfl) rfl (by decide) rfl ?_
  refine g_V0v dX6_keptUnlessError_11 ml_X6_204 sX1_keepNoted rfl (by decide) (Nat.le_of_ble_eq_true rfl) (c_keep d π hg hπ k hk ek) ?_
  refine g_iload_n dX6_keptUnlessError_14 rfl ?_
  exact g_iret dX6_keptUnlessError_15 rfl
set_option maxHeartbeats 4000000 in
set_option maxRecDepth 100000 in
theorem c_x_set {L : Nat} {F : Nat → Nat → Int32} {g : Nat → Option Nat} (d : Nat) (π : Nat → Nat) (hg : ∀ i, i < 7 → g i = some (23 + 16 * π i)) (hπ : ∀ i, i < 7 → π i < 7) (k : Nat) (hk : k < 7) (ek : F 21 1 = nI k) (a b : Int32) (r : Int32) (F1 : Nat → Nat → Int32) (hp2 : mHp) (H : mCall (d + 3) yX4_changeSetting MX4_changeSetting [.ref 5, .int a, .int b] (mHX L (xCopyR F (23 + 16 * π k) 5) g) (some (.int r)) (mHX L F1 g)) (HK : mCall (d + 3) yX6_keptUnlessError MX6_keptUnlessError [.ref 4, .int r] (mHX L F1 g) (some (.int r)) hp2) : mCall (d + 4) yX6_set MX6_set [.ref 4, .int a, .int b] (mHX L F g) (some (.int r)) (hp2) := by
  refine mCall_of sX6_set.1 (Nat.le_of_ble_eq_true rfl) ⟨_, rfl, rfl⟩ ?_
  show mGo _ _ (0, [some (.ref 4), some (.int a), some (.int b)], [], _) _
  refine g_aload_n dX6_set_0 rfl ?_
  refine g_gR (r := 21) dX6_set_1 fl_X6_19 (fun _ _ => rfl) rfl (by decide) rfl ?_
  refine g_aload_n dX6_set_4 rfl ?_
  refine g_gR (r := 5) dX6_set_5 fl_X6_10 (fun _ _ => rfl) rfl (by decide) rfl ?_
  refine g_V1v dX6_set_8 ml_X6_37 sX1_noteBefore rfl (by decide) (Nat.le_of_ble_eq_true rfl) (c_note (d) π hg hπ k hk ek) ?_
  refine g_aload_n dX6_set_11 rfl ?_
  refine g_aload_n dX6_set_12 rfl ?_
  refine g_gR (r := 5) dX6_set_13 fl_X6_10 (fun _ _ => rfl) rfl (by decide) rfl ?_
  refine g_iload_n dX6_set_16 rfl ?_
  refine g_iload_n dX6_set_17 rfl ?_
  refine g_V2i dX6_set_18 ml_X6_41 sX4_changeSetting rfl (by decide) (Nat.le_of_ble_eq_true rfl) (H) ?_
  refine g_V1i dX6_set_21 ml_X6_45 sX6_keptUnlessError rfl (by decide) (Nat.le_of_ble_eq_true rfl) (HK) ?_
  exact g_iret dX6_set_24 rfl
set_option maxHeartbeats 4000000 in
set_option maxRecDepth 100000 in
theorem c_x_guest {L : Nat} {F : Nat → Nat → Int32} {g : Nat → Option Nat} (d : Nat) (π : Nat → Nat) (hg : ∀ i, i < 7 → g i = some (23 + 16 * π i)) (hπ : ∀ i, i < 7 → π i < 7) (k : Nat) (hk : k < 7) (ek : F 21 1 = nI k) (a b : Int32) (r : Int32) (F1 : Nat → Nat → Int32) (hp2 : mHp) (H : mCall (d + 3) yX4_welcome MX4_welcome [.ref 5, .int a, .int b] (mHX L (xCopyR F (23 + 16 * π k) 5) g) (some (.int r)) (mHX L F1 g)) (HK : mCall (d + 3) yX6_keptUnlessError MX6_keptUnlessError [.ref 4, .int r] (mHX L F1 g) (some (.int r)) hp2) : mCall (d + 4) yX6_guest MX6_guest [.ref 4, .int a, .int b] (mHX L F g) (some (.int r)) (hp2) := by
  refine mCall_of sX6_guest.1 (Nat.le_of_ble_eq_true rfl) ⟨_, rfl, rfl⟩ ?_
  show mGo _ _ (0, [some (.ref 4), some (.int a), some (.int b)], [], _) _
  refine g_aload_n dX6_guest_0 rfl ?_
  refine g_gR (r := 21) dX6_guest_1 fl_X6_19 (fun _ _ => rfl) rfl (by decide) rfl ?_
  refine g_aload_n dX6_guest_4 rfl ?_
  refine g_gR (r := 5) dX6_guest_5 fl_X6_10 (fun _ _ => rfl) rfl (by decide) rfl ?_
  refine g_V1v dX6_guest_8 ml_X6_37 sX1_noteBefore rfl (by decide) (Nat.le_of_ble_eq_true rfl) (c_note (d) π hg hπ k hk ek) ?_
  refine g_aload_n dX6_guest_11 rfl ?_
  refine g_aload_n dX6_guest_12 rfl ?_
  refine g_gR (r := 5) dX6_guest_13 fl_X6_10 (fun _ _ => rfl) rfl (by decide) rfl ?_
  refine g_iload_n dX6_guest_16 rfl ?_
  refine g_iload_n dX6_guest_17 rfl ?_
  refine g_V2i dX6_guest_18 ml_X6_49 sX4_welcome rfl (by decide) (Nat.le_of_ble_eq_true rfl) (H) ?_
  refine g_V1i dX6_guest_21 ml_X6_45 sX6_keptUnlessError rfl (by decide) (Nat.le_of_ble_eq_true rfl) (HK) ?_
  exact g_iret dX6_guest_24 rfl
set_option maxHeartbeats 4000000 in
set_option maxRecDepth 100000 in
theorem c_x_leave {L : Nat} {F : Nat → Nat → Int32} {g : Nat → Option Nat} (d : Nat) (π : Nat → Nat) (hg : ∀ i, i < 7 → g i = some (23 + 16 * π i)) (hπ : ∀ i, i < 7 → π i < 7) (k : Nat) (hk : k < 7) (ek : F 21 1 = nI k) (a : Int32) (r : Int32) (F1 : Nat → Nat → Int32) (hp2 : mHp) (H : mCall (d + 3) yX4_seeOff MX4_seeOff [.ref 5, .int a] (mHX L (xCopyR F (23 + 16 * π k) 5) g) (some (.int r)) (mHX L F1 g)) (HK : mCall (d + 3) yX6_keptUnlessError MX6_keptUnlessError [.ref 4, .int r] (mHX L F1 g) (some (.int r)) hp2) : mCall (d + 4) yX6_leave MX6_leave [.ref 4, .int a] (mHX L F g) (some (.int r)) (hp2) := by
  refine mCall_of sX6_leave.1 (Nat.le_of_ble_eq_true rfl) ⟨_, rfl, rfl⟩ ?_
  show mGo _ _ (0, [some (.ref 4), some (.int a)], [], _) _
  refine g_aload_n dX6_leave_0 rfl ?_
  refine g_gR (r := 21) dX6_leave_1 fl_X6_19 (fun _ _ => rfl) rfl (by decide) rfl ?_
  refine g_aload_n dX6_leave_4 rfl ?_
  refine g_gR (r := 5) dX6_leave_5 fl_X6_10 (fun _ _ => rfl) rfl (by decide) rfl ?_
  refine g_V1v dX6_leave_8 ml_X6_37 sX1_noteBefore rfl (by decide) (Nat.le_of_ble_eq_true rfl) (c_note (d) π hg hπ k hk ek) ?_
  refine g_aload_n dX6_leave_11 rfl ?_
  refine g_aload_n dX6_leave_12 rfl ?_
  refine g_gR (r := 5) dX6_leave_13 fl_X6_10 (fun _ _ => rfl) rfl (by decide) rfl ?_
  refine g_iload_n dX6_leave_16 rfl ?_
  refine g_V1i dX6_leave_17 ml_X6_52 sX4_seeOff rfl (by decide) (Nat.le_of_ble_eq_true rfl) (H) ?_
  refine g_V1i dX6_leave_20 ml_X6_45 sX6_keptUnlessError rfl (by decide) (Nat.le_of_ble_eq_true rfl) (HK) ?_
  exact g_iret dX6_leave_23 rfl
set_option maxHeartbeats 4000000 in
set_option maxRecDepth 100000 in
theorem c_x_move {L : Nat} {F : Nat → Nat → Int32} {g : Nat → Option Nat} (d : Nat) (π : Nat → Nat) (hg : ∀ i, i < 7 → g i = some (23 + 16 * π i)) (hπ : ∀ i, i < 7 → π i < 7) (k : Nat) (hk : k < 7) (ek : F 21 1 = nI k) (a b : Int32) (r : Int32) (F1 : Nat → Nat → Int32) (hp2 : mHp) (H : mCall (d + 3) yX4_reseat MX4_reseat [.ref 5, .int a, .int b] (mHX L (xCopyR F (23 + 16 * π k) 5) g) (some (.int r)) (mHX L F1 g)) (HK : mCall (d + 3) yX6_keptUnlessError MX6_keptUnlessError [.ref 4, .int r] (mHX L F1 g) (some (.int r)) hp2) : mCall (d + 4) yX6_move MX6_move [.ref 4, .int a, .int b] (mHX L F g) (some (.int r)) (hp2) := by
  refine mCall_of sX6_move.1 (Nat.le_of_ble_eq_true rfl) ⟨_, rfl, rfl⟩ ?_
  show mGo _ _ (0, [some (.ref 4), some (.int a), some (.int b)], [], _) _
  refine g_aload_n dX6_move_0 rfl ?_
  refine g_gR (r := 21) dX6_move_1 fl_X6_19 (fun _ _ => rfl) rfl (by decide) rfl ?_
  refine g_aload_n dX6_move_4 rfl ?_
  refine g_gR (r := 5) dX6_move_5 fl_X6_10 (fun _ _ => rfl) rfl (by decide) rfl ?_
  refine g_V1v dX6_move_8 ml_X6_37 sX1_noteBefore rfl (by decide) (Nat.le_of_ble_eq_true rfl) (c_note (d) π hg hπ k hk ek) ?_
  refine g_aload_n dX6_move_11 rfl ?_
  refine g_aload_n dX6_move_12 rfl ?_
  refine g_gR (r := 5) dX6_move_13 fl_X6_10 (fun _ _ => rfl) rfl (by decide) rfl ?_
  refine g_iload_n dX6_move_16 rfl ?_
  refine g_iload_n dX6_move_17 rfl ?_
  refine g_V2i dX6_move_18 ml_X6_55 sX4_reseat rfl (by decide) (Nat.le_of_ble_eq_true rfl) (H) ?_
  refine g_V1i dX6_move_21 ml_X6_45 sX6_keptUnlessError rfl (by decide) (Nat.le_of_ble_eq_true rfl) (HK) ?_
  exact g_iret dX6_move_24 rfl
set_option maxHeartbeats 4000000 in
set_option maxRecDepth 100000 in
theorem c_x_pause {L : Nat} {F : Nat → Nat → Int32} {g : Nat → Option Nat} (d : Nat) (π : Nat → Nat) (hg : ∀ i, i < 7 → g i = some (23 + 16 * π i)) (hπ : ∀ i, i < 7 → π i < 7) (k : Nat) (hk : k < 7) (ek : F 21 1 = nI k) (a : Int32) (r : Int32) (F1 : Nat → Nat → Int32) (hp2 : mHp) (H : mCall (d + 3) yX4_beginPause MX4_beginPause [.ref 5, .int a] (mHX L (xCopyR F (23 + 16 * π k) 5) g) (some (.int r)) (mHX L F1 g)) (HK : mCall (d + 3) yX6_keptUnlessError MX6_keptUnlessError [.ref 4, .int r] (mHX L F1 g) (some (.int r)) hp2) : mCall (d + 4) yX6_pause MX6_pause [.ref 4, .int a] (mHX L F g) (some (.int r)) (hp2) := by
  refine mCall_of sX6_pause.1 (Nat.le_of_ble_eq_true rfl) ⟨_, rfl, rfl⟩ ?_
  show mGo _ _ (0, [some (.ref 4), some (.int a)], [], _) _
  refine g_aload_n dX6_pause_0 rfl ?_
  refine g_gR (r := 21) dX6_pause_1 fl_X6_19 (fun _ _ => rfl) rfl (by decide) rfl ?_
  refine g_aload_n dX6_pause_4 rfl ?_
  refine g_gR (r := 5) dX6_pause_5 fl_X6_10 (fun _ _ => rfl) rfl (by decide) rfl ?_
  refine g_V1v dX6_pause_8 ml_X6_37 sX1_noteBefore rfl (by decide) (Nat.le_of_ble_eq_true rfl) (c_note (d) π hg hπ k hk ek) ?_
  refine g_aload_n dX6_pause_11 rfl ?_
  refine g_aload_n dX6_pause_12 rfl ?_
  refine g_gR (r := 5) dX6_pause_13 fl_X6_10 (fun _ _ => rfl) rfl (by decide) rfl ?_
  refine g_iload_n dX6_pause_16 rfl ?_
  refine g_V1i dX6_pause_17 ml_X6_58 sX4_beginPause rfl (by decide) (Nat.le_of_ble_eq_true rfl) (H) ?_
  refine g_V1i dX6_pause_20 ml_X6_45 sX6_keptUnlessError rfl (by decide) (Nat.le_of_ble_eq_true rfl) (HK) ?_
  exact g_iret dX6_pause_23 rfl
set_option maxHeartbeats 4000000 in
set_option maxRecDepth 100000 in
theorem c_x_close {L : Nat} {F : Nat → Nat → Int32} {g : Nat → Option Nat} (d : Nat) (π : Nat → Nat) (hg : ∀ i, i < 7 → g i = some (23 + 16 * π i)) (hπ : ∀ i, i < 7 → π i < 7) (k : Nat) (hk : k < 7) (ek : F 21 1 = nI k) (a : Int32) (r : Int32) (F1 : Nat → Nat → Int32) (hp2 : mHp) (H : mCall (d + 3) yX4_closePause MX4_closePause [.ref 5, .int a] (mHX L (xCopyR F (23 + 16 * π k) 5) g) (some (.int r)) (mHX L F1 g)) (HK : mCall (d + 3) yX6_keptUnlessError MX6_keptUnlessError [.ref 4, .int r] (mHX L F1 g) (some (.int r)) hp2) : mCall (d + 4) yX6_close MX6_close [.ref 4, .int a] (mHX L F g) (some (.int r)) (hp2) := by
  refine mCall_of sX6_close.1 (Nat.le_of_ble_eq_true rfl) ⟨_, rfl, rfl⟩ ?_
  show mGo _ _ (0, [some (.ref 4), some (.int a)], [], _) _
  refine g_aload_n dX6_close_0 rfl ?_
  refine g_gR (r := 21) dX6_close_1 fl_X6_19 (fun _ _ => rfl) rfl (by decide) rfl ?_
  refine g_aload_n dX6_close_4 rfl ?_
  refine g_gR (r := 5) dX6_close_5 fl_X6_10 (fun _ _ => rfl) rfl (by decide) rfl ?_
  refine g_V1v dX6_close_8 ml_X6_37 sX1_noteBefore rfl (by decide) (Nat.le_of_ble_eq_true rfl) (c_note (d) π hg hπ k hk ek) ?_
  refine g_aload_n dX6_close_11 rfl ?_
  refine g_aload_n dX6_close_12 rfl ?_
  refine g_gR (r := 5) dX6_close_13 fl_X6_10 (fun _ _ => rfl) rfl (by decide) rfl ?_
  refine g_iload_n dX6_close_16 rfl ?_
  refine g_V1i dX6_close_17 ml_X6_61 sX4_closePause rfl (by decide) (Nat.le_of_ble_eq_true rfl) (H) ?_
  refine g_V1i dX6_close_20 ml_X6_45 sX6_keptUnlessError rfl (by decide) (Nat.le_of_ble_eq_true rfl) (HK) ?_
  exact g_iret dX6_close_23 rfl
set_option maxHeartbeats 4000000 in
set_option maxRecDepth 100000 in
theorem c_x_word {L : Nat} {F : Nat → Nat → Int32} {g : Nat → Option Nat} (d : Nat) (π : Nat → Nat) (hg : ∀ i, i < 7 → g i = some (23 + 16 * π i)) (hπ : ∀ i, i < 7 → π i < 7) (k : Nat) (hk : k < 7) (ek : F 21 1 = nI k) (a : Int32) (r : Int32) (F1 : Nat → Nat → Int32) (hp2 : mHp) (H : mCall (d + 3) yX4_breakByWord MX4_breakByWord [.ref 5, .int a] (mHX L (xCopyR F (23 + 16 * π k) 5) g) (some (.int r)) (mHX L F1 g)) (HK : mCall (d + 3) yX6_keptUnlessError MX6_keptUnlessError [.ref 4, .int r] (mHX L F1 g) (some (.int r)) hp2) : mCall (d + 4) yX6_word MX6_word [.ref 4, .int a] (mHX L F g) (some (.int r)) (hp2) := by
  refine mCall_of sX6_word.1 (Nat.le_of_ble_eq_true rfl) ⟨_, rfl, rfl⟩ ?_
  show mGo _ _ (0, [some (.ref 4), some (.int a)], [], _) _
  refine g_aload_n dX6_word_0 rfl ?_
  refine g_gR (r := 21) dX6_word_1 fl_X6_19 (fun _ _ => rfl) rfl (by decide) rfl ?_
  refine g_aload_n dX6_word_4 rfl ?_
  refine g_gR (r := 5) dX6_word_5 fl_X6_10 (fun _ _ => rfl) rfl (by decide) rfl ?_
  refine g_V1v dX6_word_8 ml_X6_37 sX1_noteBefore rfl (by decide) (Nat.le_of_ble_eq_true rfl) (c_note (d) π hg hπ k hk ek) ?_
  refine g_aload_n dX6_word_11 rfl ?_
  refine g_aload_n dX6_word_12 rfl ?_
  refine g_gR (r := 5) dX6_word_13 fl_X6_10 (fun _ _ => rfl) rfl (by decide) rfl ?_
  refine g_iload_n dX6_word_16 rfl ?_
  refine g_V1i dX6_word_17 ml_X6_64 sX4_breakByWord rfl (by decide) (Nat.le_of_ble_eq_true rfl) (H) ?_
  refine g_V1i dX6_word_20 ml_X6_45 sX6_keptUnlessError rfl (by decide) (Nat.le_of_ble_eq_true rfl) (HK) ?_
  exact g_iret dX6_word_23 rfl
set_option maxHeartbeats 4000000 in
set_option maxRecDepth 100000 in
theorem c_x_cough {L : Nat} {F : Nat → Nat → Int32} {g : Nat → Option Nat} (d : Nat) (π : Nat → Nat) (hg : ∀ i, i < 7 → g i = some (23 + 16 * π i)) (hπ : ∀ i, i < 7 → π i < 7) (k : Nat) (hk : k < 7) (ek : F 21 1 = nI k) (a : Int32) (r : Int32) (F1 : Nat → Nat → Int32) (hp2 : mHp) (H : mCall (d + 3) yX4_breakByCough MX4_breakByCough [.ref 5, .int a] (mHX L (xCopyR F (23 + 16 * π k) 5) g) (some (.int r)) (mHX L F1 g)) (HK : mCall (d + 3) yX6_keptUnlessError MX6_keptUnlessError [.ref 4, .int r] (mHX L F1 g) (some (.int r)) hp2) : mCall (d + 4) yX6_cough MX6_cough [.ref 4, .int a] (mHX L F g) (some (.int r)) (hp2) := by
  refine mCall_of sX6_cough.1 (Nat.le_of_ble_eq_true rfl) ⟨_, rfl, rfl⟩ ?_
  show mGo _ _ (0, [some (.ref 4), some (.int a)], [], _) _
  refine g_aload_n dX6_cough_0 rfl ?_
  refine g_gR (r := 21) dX6_cough_1 fl_X6_19 (fun _ _ => rfl) rfl (by decide) rfl ?_
  refine g_aload_n dX6_cough_4 rfl ?_
  refine g_gR (r := 5) dX6_cough_5 fl_X6_10 (fun _ _ => rfl) rfl (by decide) rfl ?_
  refine g_V1v dX6_cough_8 ml_X6_37 sX1_noteBefore rfl (by decide) (Nat.le_of_ble_eq_true rfl) (c_note (d) π hg hπ k hk ek) ?_
  refine g_aload_n dX6_cough_11 rfl ?_
  refine g_aload_n dX6_cough_12 rfl ?_
  refine g_gR (r := 5) dX6_cough_13 fl_X6_10 (fun _ _ => rfl) rfl (by decide) rfl ?_
  refine g_iload_n dX6_cough_16 rfl ?_
  refine g_V1i dX6_cough_17 ml_X6_67 sX4_breakByCough rfl (by decide) (Nat.le_of_ble_eq_true rfl) (H) ?_
  refine g_V1i dX6_cough_20 ml_X6_45 sX6_keptUnlessError rfl (by decide) (Nat.le_of_ble_eq_true rfl) (HK) ?_
  exact g_iret dX6_cough_23 rfl
set_option maxHeartbeats 4000000 in
set_option maxRecDepth 100000 in
theorem c_x_pass {L : Nat} {F : Nat → Nat → Int32} {g : Nat → Option Nat} (d : Nat) (π : Nat → Nat) (hg : ∀ i, i < 7 → g i = some (23 + 16 * π i)) (hπ : ∀ i, i < 7 → π i < 7) (k : Nat) (hk : k < 7) (ek : F 21 1 = nI k) (a : Int32) (r : Int32) (F1 : Nat → Nat → Int32) (hp2 : mHp) (H : mCall (d + 3) yX4_letPass MX4_letPass [.ref 5, .int a] (mHX L (xCopyR F (23 + 16 * π k) 5) g) (some (.int r)) (mHX L F1 g)) (HK : mCall (d + 3) yX6_keptUnlessError MX6_keptUnlessError [.ref 4, .int r] (mHX L F1 g) (some (.int r)) hp2) : mCall (d + 4) yX6_pass MX6_pass [.ref 4, .int a] (mHX L F g) (some (.int r)) (hp2) := by
  refine mCall_of sX6_pass.1 (Nat.le_of_ble_eq_true rfl) ⟨_, rfl, rfl⟩ ?_
  show mGo _ _ (0, [some (.ref 4), some (.int a)], [], _) _
  refine g_aload_n dX6_pass_0 rfl ?_
  refine g_gR (r := 21) dX6_pass_1 fl_X6_19 (fun _ _ => rfl) rfl (by decide) rfl ?_
  refine g_aload_n dX6_pass_4 rfl ?_
  refine g_gR (r := 5) dX6_pass_5 fl_X6_10 (fun _ _ => rfl) rfl (by decide) rfl ?_
  refine g_V1v dX6_pass_8 ml_X6_37 sX1_noteBefore rfl (by decide) (Nat.le_of_ble_eq_true rfl) (c_note (d) π hg hπ k hk ek) ?_
  refine g_aload_n dX6_pass_11 rfl ?_
  refine g_aload_n dX6_pass_12 rfl ?_
  refine g_gR (r := 5) dX6_pass_13 fl_X6_10 (fun _ _ => rfl) rfl (by decide) rfl ?_
  refine g_iload_n dX6_pass_16 rfl ?_
  refine g_V1i dX6_pass_17 ml_X6_70 sX4_letPass rfl (by decide) (Nat.le_of_ble_eq_true rfl) (H) ?_
  refine g_V1i dX6_pass_20 ml_X6_45 sX6_keptUnlessError rfl (by decide) (Nat.le_of_ble_eq_true rfl) (HK) ?_
  exact g_iret dX6_pass_23 rfl
set_option maxHeartbeats 4000000 in
set_option maxRecDepth 100000 in
theorem c_x_restore {L : Nat} {F : Nat → Nat → Int32} {g : Nat → Option Nat} (d : Nat) (π : Nat → Nat) (hg : ∀ i, i < 7 → g i = some (23 + 16 * π i)) (hπ : ∀ i, i < 7 → π i < 7) (k : Nat) (hk : k < 7) (ek : F 21 1 = nI k) (a r : Int32) (F1 : Nat → Nat → Int32) (hp2 : mHp) (H : mCall (d + 3) yX5_giveBack MX5_giveBack [.ref 135, .int a, .ref 5] (mHX L (xCopyR F (23 + 16 * π k) 5) g) (some (.int r)) (mHX L F1 g)) (HK : mCall (d + 3) yX6_keptUnlessError MX6_keptUnlessError [.ref 4, .int r] (mHX L F1 g) (some (.int r)) hp2) : mCall (d + 4) yX6_restore MX6_restore [.ref 4, .int a] (mHX L F g) (some (.int r)) (hp2) := by
  refine mCall_of sX6_restore.1 (Nat.le_of_ble_eq_true rfl) ⟨_, rfl, rfl⟩ ?_
  show mGo _ _ (0, [some (.ref 4), some (.int a)], [], _) _
  refine g_aload_n dX6_restore_0 rfl ?_
  refine g_gR (r := 21) dX6_restore_1 fl_X6_19 (fun _ _ => rfl) rfl (by decide) rfl ?_
  refine g_aload_n dX6_restore_4 rfl ?_
  refine g_gR (r := 5) dX6_restore_5 fl_X6_10 (fun _ _ => rfl) rfl (by decide) rfl ?_
  refine g_V1v dX6_restore_8 ml_X6_37 sX1_noteBefore rfl (by decide) (Nat.le_of_ble_eq_true rfl) (c_note (d) π hg hπ k hk ek) ?_
  refine g_aload_n dX6_restore_11 rfl ?_
  refine g_aload_n dX6_restore_12 rfl ?_
  refine g_gR (r := 135) dX6_restore_13 fl_X6_26 (fun _ _ => rfl) rfl (by decide) rfl ?_
  refine g_iload_n dX6_restore_16 rfl ?_
  refine g_aload_n dX6_restore_17 rfl ?_
  refine g_gR (r := 5) dX6_restore_18 fl_X6_10 (fun _ _ => rfl) rfl (by decide) rfl ?_
  refine g_V2i dX6_restore_21 ml_X6_215 sX5_giveBack rfl (by decide) (Nat.le_of_ble_eq_true rfl) (H) ?_
  refine g_V1i dX6_restore_24 ml_X6_45 sX6_keptUnlessError rfl (by decide) (Nat.le_of_ble_eq_true rfl) (HK) ?_
  exact g_iret dX6_restore_27 rfl
