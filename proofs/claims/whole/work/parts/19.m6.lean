set_option maxHeartbeats 4000000 in
set_option maxRecDepth 100000 in
theorem c_rf_g {L : Nat} {F : Nat → Nat → Int32} {g : Nat → Option Nat} (d : Nat) (a b r : Int32) (H : mCall (d + 3) yX7_refusesGuest MX7_refusesGuest [.ref 172, .int a, .int b] (mHX L F g) (some (.int r)) (mHX L F g)) : mCall (d + 4) yX7_refuses MX7_refuses [.ref 172, .int 103, .int a, .int b] (mHX L F g) (some (.int r)) (mHX L F g) := by
  refine mCall_of sX7_refuses.1 (Nat.le_of_ble_eq_true rfl) ⟨_, rfl, rfl⟩ ?_
  show mGo _ _ (0, [some (.ref 172), some (.int 103), some (.int a), some (.int b)], [], _) _
  refine g_iload_n dX7_refuses_0 rfl ?_
  refine g_lookup (off := 51) (tgt := 52) dX7_refuses_1 (by decide) (rfl) (by decide) ?_
  refine g_aload_n dX7_refuses_52 rfl ?_
  refine g_iload_n dX7_refuses_53 rfl ?_
  refine g_iload_n dX7_refuses_54 rfl ?_
  refine g_V2i dX7_refuses_55 ml_X7_71 sX7_refusesGuest rfl (by decide) (Nat.le_of_ble_eq_true rfl) (H) ?_
  exact g_iret dX7_refuses_58 rfl
set_option maxHeartbeats 4000000 in
set_option maxRecDepth 100000 in
theorem c_rf_x {L : Nat} {F : Nat → Nat → Int32} {g : Nat → Option Nat} (d : Nat) (a b r : Int32) (H : mCall (d + 3) yX7_refusesLeaving MX7_refusesLeaving [.ref 172, .int a] (mHX L F g) (some (.int r)) (mHX L F g)) : mCall (d + 4) yX7_refuses MX7_refuses [.ref 172, .int 120, .int a, .int b] (mHX L F g) (some (.int r)) (mHX L F g) := by
  refine mCall_of sX7_refuses.1 (Nat.le_of_ble_eq_true rfl) ⟨_, rfl, rfl⟩ ?_
  show mGo _ _ (0, [some (.ref 172), some (.int 120), some (.int a), some (.int b)], [], _) _
  refine g_iload_n dX7_refuses_0 rfl ?_
  refine g_lookup (off := 58) (tgt := 59) dX7_refuses_1 (by decide) (rfl) (by decide) ?_
  refine g_aload_n dX7_refuses_59 rfl ?_
  refine g_iload_n dX7_refuses_60 rfl ?_
  refine g_V1i dX7_refuses_61 ml_X7_80 sX7_refusesLeaving rfl (by decide) (Nat.le_of_ble_eq_true rfl) (H) ?_
  exact g_iret dX7_refuses_64 rfl
set_option maxHeartbeats 4000000 in
set_option maxRecDepth 100000 in
theorem c_rf_p {L : Nat} {F : Nat → Nat → Int32} {g : Nat → Option Nat} (d : Nat) (a b r : Int32) (H : mCall (d + 3) yX7_refusesPause MX7_refusesPause [.ref 172, .int a] (mHX L F g) (some (.int r)) (mHX L F g)) : mCall (d + 4) yX7_refuses MX7_refuses [.ref 172, .int 112, .int a, .int b] (mHX L F g) (some (.int r)) (mHX L F g) := by
  refine mCall_of sX7_refuses.1 (Nat.le_of_ble_eq_true rfl) ⟨_, rfl, rfl⟩ ?_
  show mGo _ _ (0, [some (.ref 172), some (.int 112), some (.int a), some (.int b)], [], _) _
  refine g_iload_n dX7_refuses_0 rfl ?_
  refine g_lookup (off := 64) (tgt := 65) dX7_refuses_1 (by decide) (rfl) (by decide) ?_
  refine g_aload_n dX7_refuses_65 rfl ?_
  refine g_iload_n dX7_refuses_66 rfl ?_
  refine g_V1i dX7_refuses_67 ml_X7_89 sX7_refusesPause rfl (by decide) (Nat.le_of_ble_eq_true rfl) (H) ?_
  exact g_iret dX7_refuses_70 rfl
set_option maxHeartbeats 4000000 in
set_option maxRecDepth 100000 in
theorem c_rf_e {L : Nat} {F : Nat → Nat → Int32} {g : Nat → Option Nat} (d : Nat) (a b r : Int32) (H : mCall (d + 3) yX7_refusesClosing MX7_refusesClosing [.ref 172, .int a] (mHX L F g) (some (.int r)) (mHX L F g)) : mCall (d + 4) yX7_refuses MX7_refuses [.ref 172, .int 101, .int a, .int b] (mHX L F g) (some (.int r)) (mHX L F g) := by
  refine mCall_of sX7_refuses.1 (Nat.le_of_ble_eq_true rfl) ⟨_, rfl, rfl⟩ ?_
  show mGo _ _ (0, [some (.ref 172), some (.int 101), some (.int a), some (.int b)], [], _) _
  refine g_iload_n dX7_refuses_0 rfl ?_
  refine g_lookup (off := 70) (tgt := 71) dX7_refuses_1 (by decide) (rfl) (by decide) ?_
  refine g_aload_n dX7_refuses_71 rfl ?_
  refine g_iload_n dX7_refuses_72 rfl ?_
  refine g_V1i dX7_refuses_73 ml_X7_102 sX7_refusesClosing rfl (by decide) (Nat.le_of_ble_eq_true rfl) (H) ?_
  exact g_iret dX7_refuses_76 rfl
set_option maxHeartbeats 4000000 in
set_option maxRecDepth 100000 in
theorem c_rf_t {L : Nat} {F : Nat → Nat → Int32} {g : Nat → Option Nat} (d : Nat) (a b r : Int32) (H : mCall (d + 3) yX7_refusesSeconds MX7_refusesSeconds [.ref 172, .int a] (mHX L F g) (some (.int r)) (mHX L F g)) : mCall (d + 4) yX7_refuses MX7_refuses [.ref 172, .int 116, .int a, .int b] (mHX L F g) (some (.int r)) (mHX L F g) := by
  refine mCall_of sX7_refuses.1 (Nat.le_of_ble_eq_true rfl) ⟨_, rfl, rfl⟩ ?_
  show mGo _ _ (0, [some (.ref 172), some (.int 116), some (.int a), some (.int b)], [], _) _
  refine g_iload_n dX7_refuses_0 rfl ?_
  refine g_lookup (off := 76) (tgt := 77) dX7_refuses_1 (by decide) (rfl) (by decide) ?_
  refine g_aload_n dX7_refuses_77 rfl ?_
  refine g_iload_n dX7_refuses_78 rfl ?_
  refine g_V1i dX7_refuses_79 ml_X7_123 sX7_refusesSeconds rfl (by decide) (Nat.le_of_ble_eq_true rfl) (H) ?_
  exact g_iret dX7_refuses_82 rfl
set_option maxHeartbeats 4000000 in
set_option maxRecDepth 100000 in
theorem c_rf_w {L : Nat} {F : Nat → Nat → Int32} {g : Nat → Option Nat} (d : Nat) (a b r : Int32) (H : mCall (d + 3) yX7_refusesBreak MX7_refusesBreak [.ref 172, .int a] (mHX L F g) (some (.int r)) (mHX L F g)) : mCall (d + 4) yX7_refuses MX7_refuses [.ref 172, .int 119, .int a, .int b] (mHX L F g) (some (.int r)) (mHX L F g) := by
  refine mCall_of sX7_refuses.1 (Nat.le_of_ble_eq_true rfl) ⟨_, rfl, rfl⟩ ?_
  show mGo _ _ (0, [some (.ref 172), some (.int 119), some (.int a), some (.int b)], [], _) _
  refine g_iload_n dX7_refuses_0 rfl ?_
  refine g_lookup (off := 82) (tgt := 83) dX7_refuses_1 (by decide) (rfl) (by decide) ?_
  refine g_aload_n dX7_refuses_83 rfl ?_
  refine g_iload_n dX7_refuses_84 rfl ?_
  refine g_V1i dX7_refuses_85 ml_X7_111 sX7_refusesBreak rfl (by decide) (Nat.le_of_ble_eq_true rfl) (H) ?_
  exact g_iret dX7_refuses_88 rfl
set_option maxHeartbeats 4000000 in
set_option maxRecDepth 100000 in
theorem c_rf_c {L : Nat} {F : Nat → Nat → Int32} {g : Nat → Option Nat} (d : Nat) (a b r : Int32) (H : mCall (d + 3) yX7_refusesBreak MX7_refusesBreak [.ref 172, .int a] (mHX L F g) (some (.int r)) (mHX L F g)) : mCall (d + 4) yX7_refuses MX7_refuses [.ref 172, .int 99, .int a, .int b] (mHX L F g) (some (.int r)) (mHX L F g) := by
  refine mCall_of sX7_refuses.1 (Nat.le_of_ble_eq_true rfl) ⟨_, rfl, rfl⟩ ?_
  show mGo _ _ (0, [some (.ref 172), some (.int 99), some (.int a), some (.int b)], [], _) _
  refine g_iload_n dX7_refuses_0 rfl ?_
  refine g_lookup (off := 82) (tgt := 83) dX7_refuses_1 (by decide) (rfl) (by decide) ?_
  refine g_aload_n dX7_refuses_83 rfl ?_
  refine g_iload_n dX7_refuses_84 rfl ?_
  refine g_V1i dX7_refuses_85 ml_X7_111 sX7_refusesBreak rfl (by decide) (Nat.le_of_ble_eq_true rfl) (H) ?_
  exact g_iret dX7_refuses_88 rfl
set_option maxHeartbeats 4000000 in
set_option maxRecDepth 100000 in
theorem c_do_g {L : Nat} {F : Nat → Nat → Int32} {g : Nat → Option Nat} (d : Nat) (a b r : Int32) (hp1 : mHp) (H : mCall (d + 3) yX7_comes MX7_comes [.ref 172, .int a, .int b] (mHX L F g) (some (.int r)) (hp1)) : mCall (d + 4) yX7_does MX7_does [.ref 172, .int 103, .int a, .int b] (mHX L F g) (none) (hp1) := by
  refine mCall_of sX7_does.1 (Nat.le_of_ble_eq_true rfl) rfl ?_
  show mGo _ _ (0, [some (.ref 172), some (.int 103), some (.int a), some (.int b)], [], _) _
  refine g_iload_n dX7_does_0 rfl ?_
  refine g_tabIn (off := 95) (tgt := 96) dX7_does_1 (by decide) (by decide) rfl (by decide) ?_
  refine g_aload_n dX7_does_96 rfl ?_
  refine g_iload_n dX7_does_97 rfl ?_
  refine g_iload_n dX7_does_98 rfl ?_
  refine g_V2i dX7_does_99 ml_X7_74 sX7_comes rfl (by decide) (Nat.le_of_ble_eq_true rfl) (H) ?_
  refine g_pop dX7_does_102 rfl ?_
  refine g_goto (tgt := 159) dX7_does_103 (by decide) ?_
  exact g_vret dX7_does_159 rfl
set_option maxHeartbeats 4000000 in
set_option maxRecDepth 100000 in
theorem c_do_x {L : Nat} {F : Nat → Nat → Int32} {g : Nat → Option Nat} (d : Nat) (a b r : Int32) (hp1 : mHp) (H : mCall (d + 3) yX7_goes MX7_goes [.ref 172, .int a, .int (-6)] (mHX L F g) (some (.int r)) (hp1)) : mCall (d + 4) yX7_does MX7_does [.ref 172, .int 120, .int a, .int b] (mHX L F g) (none) (hp1) := by
  refine mCall_of sX7_does.1 (Nat.le_of_ble_eq_true rfl) rfl ?_
  show mGo _ _ (0, [some (.ref 172), some (.int 120), some (.int a), some (.int b)], [], _) _
  refine g_iload_n dX7_does_0 rfl ?_
  refine g_tabIn (off := 105) (tgt := 106) dX7_does_1 (by decide) (by decide) rfl (by decide) ?_
  refine g_aload_n dX7_does_106 rfl ?_
  refine g_iload_n dX7_does_107 rfl ?_
  refine g_bipushv (v := (-6)) dX7_does_108 rfl ?_
  refine g_V2i dX7_does_110 ml_X7_83 sX7_goes rfl (by decide) (Nat.le_of_ble_eq_true rfl) (H) ?_
  refine g_pop dX7_does_113 rfl ?_
  refine g_goto (tgt := 159) dX7_does_114 (by decide) ?_
  exact g_vret dX7_does_159 rfl
set_option maxHeartbeats 4000000 in
set_option maxRecDepth 100000 in
theorem c_do_p {L : Nat} {F : Nat → Nat → Int32} {g : Nat → Option Nat} (d : Nat) (a b r : Int32) (hp1 : mHp) (H : mCall (d + 3) yX7_begins MX7_begins [.ref 172, .int a] (mHX L F g) (some (.int r)) (hp1)) : mCall (d + 4) yX7_does MX7_does [.ref 172, .int 112, .int a, .int b] (mHX L F g) (none) (hp1) := by
  refine mCall_of sX7_does.1 (Nat.le_of_ble_eq_true rfl) rfl ?_
  show mGo _ _ (0, [some (.ref 172), some (.int 112), some (.int a), some (.int b)], [], _) _
  refine g_iload_n dX7_does_0 rfl ?_
  refine g_tabIn (off := 116) (tgt := 117) dX7_does_1 (by decide) (by decide) rfl (by decide) ?_
  refine g_aload_n dX7_does_117 rfl ?_
  refine g_iload_n dX7_does_118 rfl ?_
  refine g_V1i dX7_does_119 ml_X7_92 sX7_begins rfl (by decide) (Nat.le_of_ble_eq_true rfl) (H) ?_
  refine g_pop dX7_does_122 rfl ?_
  refine g_goto (tgt := 159) dX7_does_123 (by decide) ?_
  exact g_vret dX7_does_159 rfl
set_option maxHeartbeats 4000000 in
set_option maxRecDepth 100000 in
theorem c_do_e {L : Nat} {F : Nat → Nat → Int32} {g : Nat → Option Nat} (d : Nat) (a b r : Int32) (hp1 : mHp) (H : mCall (d + 3) yX7_closes MX7_closes [.ref 172, .int a] (mHX L F g) (some (.int r)) (hp1)) : mCall (d + 4) yX7_does MX7_does [.ref 172, .int 101, .int a, .int b] (mHX L F g) (none) (hp1) := by
  refine mCall_of sX7_does.1 (Nat.le_of_ble_eq_true rfl) rfl ?_
  show mGo _ _ (0, [some (.ref 172), some (.int 101), some (.int a), some (.int b)], [], _) _
  refine g_iload_n dX7_does_0 rfl ?_
  refine g_tabIn (off := 125) (tgt := 126) dX7_does_1 (by decide) (by decide) rfl (by decide) ?_
  refine g_aload_n dX7_does_126 rfl ?_
  refine g_iload_n dX7_does_127 rfl ?_
  refine g_V1i dX7_does_128 ml_X7_105 sX7_closes rfl (by decide) (Nat.le_of_ble_eq_true rfl) (H) ?_
  refine g_pop dX7_does_131 rfl ?_
  refine g_goto (tgt := 159) dX7_does_132 (by decide) ?_
  exact g_vret dX7_does_159 rfl
set_option maxHeartbeats 4000000 in
set_option maxRecDepth 100000 in
theorem c_do_t {L : Nat} {F : Nat → Nat → Int32} {g : Nat → Option Nat} (d : Nat) (a b r : Int32) (hp1 : mHp) (H : mCall (d + 3) yX7_passes MX7_passes [.ref 172, .int a] (mHX L F g) (some (.int r)) (hp1)) : mCall (d + 4) yX7_does MX7_does [.ref 172, .int 116, .int a, .int b] (mHX L F g) (none) (hp1) := by
  refine mCall_of sX7_does.1 (Nat.le_of_ble_eq_true rfl) rfl ?_
  show mGo _ _ (0, [some (.ref 172), some (.int 116), some (.int a), some (.int b)], [], _) _
  refine g_iload_n dX7_does_0 rfl ?_
  refine g_tabIn (off := 134) (tgt := 135) dX7_does_1 (by decide) (by decide) rfl (by decide) ?_
  refine g_aload_n dX7_does_135 rfl ?_
  refine g_iload_n dX7_does_136 rfl ?_
  refine g_V1i dX7_does_137 ml_X7_126 sX7_passes rfl (by decide) (Nat.le_of_ble_eq_true rfl) (H) ?_
  refine g_pop dX7_does_140 rfl ?_
  refine g_goto (tgt := 159) dX7_does_141 (by decide) ?_
  exact g_vret dX7_does_159 rfl
set_option maxHeartbeats 4000000 in
set_option maxRecDepth 100000 in
theorem c_do_w {L : Nat} {F : Nat → Nat → Int32} {g : Nat → Option Nat} (d : Nat) (a b r : Int32) (hp1 : mHp) (H : mCall (d + 3) yX7_speaks MX7_speaks [.ref 172, .int a] (mHX L F g) (some (.int r)) (hp1)) : mCall (d + 4) yX7_does MX7_does [.ref 172, .int 119, .int a, .int b] (mHX L F g) (none) (hp1) := by
  refine mCall_of sX7_does.1 (Nat.le_of_ble_eq_true rfl) rfl ?_
  show mGo _ _ (0, [some (.ref 172), some (.int 119), some (.int a), some (.int b)], [], _) _
  refine g_iload_n dX7_does_0 rfl ?_
  refine g_tabIn (off := 143) (tgt := 144) dX7_does_1 (by decide) (by decide) rfl (by decide) ?_
  refine g_aload_n dX7_does_144 rfl ?_
  refine g_iload_n dX7_does_145 rfl ?_
  refine g_V1i dX7_does_146 ml_X7_114 sX7_speaks rfl (by decide) (Nat.le_of_ble_eq_true rfl) (H) ?_
  refine g_pop dX7_does_149 rfl ?_
  refine g_goto (tgt := 159) dX7_does_150 (by decide) ?_
  exact g_vret dX7_does_159 rfl
set_option maxHeartbeats 4000000 in
set_option maxRecDepth 100000 in
theorem c_do_c {L : Nat} {F : Nat → Nat → Int32} {g : Nat → Option Nat} (d : Nat) (a b r : Int32) (hp1 : mHp) (H : mCall (d + 3) yX7_coughs MX7_coughs [.ref 172, .int a] (mHX L F g) (some (.int r)) (hp1)) : mCall (d + 4) yX7_does MX7_does [.ref 172, .int 99, .int a, .int b] (mHX L F g) (none) (hp1) := by
  refine mCall_of sX7_does.1 (Nat.le_of_ble_eq_true rfl) rfl ?_
  show mGo _ _ (0, [some (.ref 172), some (.int 99), some (.int a), some (.int b)], [], _) _
  refine g_iload_n dX7_does_0 rfl ?_
  refine g_tabOut (tgt := 153) dX7_does_1 (by decide) (by decide) ?_
  refine g_aload_n dX7_does_153 rfl ?_
  refine g_iload_n dX7_does_154 rfl ?_
  refine g_V1i dX7_does_155 ml_X7_120 sX7_coughs rfl (by decide) (Nat.le_of_ble_eq_true rfl) (H) ?_
  refine g_pop dX7_does_158 rfl ?_
  exact g_vret dX7_does_159 rfl
set_option maxHeartbeats 4000000 in
set_option maxRecDepth 100000 in
theorem c_mfault {L : Nat} {F : Nat → Nat → Int32} {g : Nat → Option Nat} (d : Nat) (h0 : F 172 0 = 0) (r : Int32) (F1 : Nat → Nat → Int32) (H : mCall (d + 4) yX7_reads MX7_reads [.ref 172] (mHX L F g) (some (.int r)) (mHX L F1 g)) : mCall (d + 5) yX7_fault MX7_fault [.ref 172] (mHX L F g) (some (.int r)) (mHX L F1 g) := by
  refine mCall_of sX7_fault.1 (Nat.le_of_ble_eq_true rfl) ⟨_, rfl, rfl⟩ ?_
  show mGo _ _ (0, [some (.ref 172)], [], _) _
  refine g_aload_n dX7_fault_0 rfl ?_
  refine g_iconstv (v := 0) dX7_fault_1 rfl ?_
  refine g_pI dX7_fault_2 fl_X7_29 (Or.inl rfl) rfl (by decide) rfl ?_
  rw [pe_id h0]
  refine g_aload_n dX7_fault_5 rfl ?_
  refine g_V0i dX7_fault_6 ml_X7_173 sX7_reads rfl (by decide) (Nat.le_of_ble_eq_true rfl) (H) ?_
  exact g_iret dX7_fault_9 rfl
set_option maxHeartbeats 4000000 in
set_option maxRecDepth 100000 in
theorem c_mco_bad {L : Nat} {F : Nat → Nat → Int32} {g : Nat → Option Nat} (d : Nat) (h0 : F 172 0 = 0) (r : Int32) (hr : ¬ r = (-6)) (F1 : Nat → Nat → Int32) (H : mCall (d + 4) yX7_reads MX7_reads [.ref 172] (mHX L F g) (some (.int r)) (mHX L F1 g)) : mCall (d + 5) yX7_carryOut MX7_carryOut [.ref 172] (mHX L F g) (some (.int (-3))) (mHX L F1 g) := by
  refine mCall_of sX7_carryOut.1 (Nat.le_of_ble_eq_true rfl) ⟨_, rfl, rfl⟩ ?_
  show mGo _ _ (0, [some (.ref 172), none], [], _) _
  refine g_aload_n dX7_carryOut_0 rfl ?_
  refine g_iconstv (v := 0) dX7_carryOut_1 rfl ?_
  refine g_pI dX7_carryOut_2 fl_X7_29 (Or.inl rfl) rfl (by decide) rfl ?_
  rw [pe_id h0]
  refine g_aload_n dX7_carryOut_5 rfl ?_
  refine g_V0i dX7_carryOut_6 ml_X7_173 sX7_reads rfl (by decide) (Nat.le_of_ble_eq_true rfl) (H) ?_
  refine g_bipushv (v := (-6)) dX7_carryOut_9 rfl ?_
  refine g_icmp_eq (tgt := 17) dX7_carryOut_11 (by decide) (fun c11 => absurd c11 hr) (fun c11 => ?_)
  refine g_bipushv (v := (-3)) dX7_carryOut_14 rfl ?_
  exact g_iret dX7_carryOut_16 rfl
set_option maxHeartbeats 4000000 in
set_option maxRecDepth 100000 in
theorem c_mco_ok {L : Nat} {F : Nat → Nat → Int32} {g : Nat → Option Nat} (d : Nat) (h0 : F 172 0 = 0) (F1 : Nat → Nat → Int32) (H : mCall (d + 4) yX7_reads MX7_reads [.ref 172] (mHX L F g) (some (.int (-6))) (mHX L F1 g)) (q : Nat) (hq : q ≤ 6) (e3 : F1 172 3 = nI q) (r : Int32) (hp1 : mHp) (K : mGo MX7_carryOut (d + 5) (28, [some (.ref 172), some (.int (nI 0))], [], mHX L (pe (xRec F1 q) 172 7 0) g) (some (.int r), hp1)) : mCall (d + 5) yX7_carryOut MX7_carryOut [.ref 172] (mHX L F g) (some (.int r)) (hp1) := by
  refine mCall_of sX7_carryOut.1 (Nat.le_of_ble_eq_true rfl) ⟨_, rfl, rfl⟩ ?_
  show mGo _ _ (0, [some (.ref 172), none], [], _) _
  refine g_aload_n dX7_carryOut_0 rfl ?_
  refine g_iconstv (v := 0) dX7_carryOut_1 rfl ?_
  refine g_pI dX7_carryOut_2 fl_X7_29 (Or.inl rfl) rfl (by decide) rfl ?_
  rw [pe_id h0]
  refine g_aload_n dX7_carryOut_5 rfl ?_
  refine g_V0i dX7_carryOut_6 ml_X7_173 sX7_reads rfl (by decide) (Nat.le_of_ble_eq_true rfl) (H) ?_
  refine g_bipushv (v := (-6)) dX7_carryOut_9 rfl ?_
  refine g_icmp_eq (tgt := 17) dX7_carryOut_11 (by decide) (fun c11 => ?_) (fun c11 => absurd rfl c11)
  refine g_aload_n dX7_carryOut_17 rfl ?_
  refine g_V0v dX7_carryOut_18 ml_X7_60 sX7_records rfl (by decide) (Nat.le_of_ble_eq_true rfl) (c_rec (F := F1) (d + 4) q hq e3) ?_
  refine g_aload_n dX7_carryOut_21 rfl ?_
  refine g_iconstv (v := 0) dX7_carryOut_22 rfl ?_
  refine g_pI dX7_carryOut_23 fl_X7_146 (Or.inl rfl) rfl (by decide) rfl ?_
  refine g_iconstv (v := 0) dX7_carryOut_26 rfl ?_
  refine g_istore_n dX7_carryOut_27 (by decide) rfl ?_
  exact K
set_option maxHeartbeats 4000000 in
set_option maxRecDepth 100000 in
theorem lp_co_end {L : Nat} {F : Nat → Nat → Int32} {g : Nat → Option Nat} (d : Nat) (k m : Nat) (hk : k ≤ 40) (em : F 172 11 = nI m) (hm : m ≤ 40) (h : m ≤ k) : mGo MX7_carryOut (d + 5) (28, [some (.ref 172), some (.int (nI k))], [], mHX L F g) (some (.int (nI k)), mHX L F g) := by
  refine g_iload_n dX7_carryOut_28 rfl ?_
  refine g_aload_n dX7_carryOut_29 rfl ?_
  refine g_gI dX7_carryOut_30 fl_X7_164 (fun _ _ => rfl) rfl (by decide) ?_
  refine g_icmp_ge (tgt := 109) dX7_carryOut_33 (by decide) (fun c33 => ?_) (fun c33 => absurd (by rw [em]; exact nI_le h (by omega)) c33)
  refine g_iload_n dX7_carryOut_109 rfl ?_
  exact g_iret dX7_carryOut_110 rfl
set_option maxHeartbeats 4000000 in
set_option maxRecDepth 100000 in
theorem lp_co_ref {L : Nat} {F : Nat → Nat → Int32} {g : Nat → Option Nat} (d : Nat) (k m : Nat) (hk : k ≤ 40) (em : F 172 11 = nI m) (hm : m ≤ 40) (h : k < m) (x a b : Int32) (e0 : F 178 (3 * k) = x) (e1 : F 178 (3 * k + 1) = a) (e2 : F 178 (3 * k + 2) = b) (r : Int32) (hr : ¬ r = 0) (H : mCall (d + 4) yX7_refuses MX7_refuses [.ref 172, .int x, .int a, .int b] (mHX L F g) (some (.int r)) (mHX L F g)) : mGo MX7_carryOut (d + 5) (28, [some (.ref 172), some (.int (nI k))], [], mHX L F g) (some (.int (nI k)), mHX L F g) := by
  refine g_iload_n dX7_carryOut_28 rfl ?_
  refine g_aload_n dX7_carryOut_29 rfl ?_
  refine g_gI dX7_carryOut_30 fl_X7_164 (fun _ _ => rfl) rfl (by decide) ?_
  refine g_icmp_ge (tgt := 109) dX7_carryOut_33 (by decide) (fun c33 => absurd c33 (by rw [em]; exact nI_ge h (by omega))) (fun c33 => ?_)
  refine g_aload_n dX7_carryOut_36 rfl ?_
  refine g_aload_n dX7_carryOut_37 rfl ?_
  refine g_gR (r := 178) dX7_carryOut_38 fl_X7_26 (fun _ _ => rfl) rfl (by decide) rfl ?_
  refine g_iconstv (v := 3) dX7_carryOut_41 rfl ?_
  refine g_iload_n dX7_carryOut_42 rfl ?_
  refine g_imul dX7_carryOut_43 ?_
  refine g_ialdN (gx := (3 * k)) dX7_carryOut_44 rfl (by decide) (by rw [show (3 : Int32) = nI 3 from rfl, pk_mul]) (by omega) (by decide) ?_
  refine g_aload_n dX7_carryOut_45 rfl ?_
  refine g_gR (r := 178) dX7_carryOut_46 fl_X7_26 (fun _ _ => rfl) rfl (by decide) rfl ?_
  refine g_iconstv (v := 3) dX7_carryOut_49 rfl ?_
  refine g_iload_n dX7_carryOut_50 rfl ?_
  refine g_imul dX7_carryOut_51 ?_
  refine g_iconstv (v := 1) dX7_carryOut_52 rfl ?_
  refine g_iadd dX7_carryOut_53 ?_
  refine g_ialdN (gx := (3 * k + 1)) dX7_carryOut_54 rfl (by decide) (by rw [show (3 : Int32) = nI 3 from rfl, pk_mul]; exact nI_add (3 * k) 1) (by omega) (by decide) ?_
  refine g_aload_n dX7_carryOut_55 rfl ?_
  refine g_gR (r := 178) dX7_carryOut_56 fl_X7_26 (fun _ _ => rfl) rfl (by decide) rfl ?_
  refine g_iconstv (v := 3) dX7_carryOut_59 rfl ?_
  refine g_iload_n dX7_carryOut_60 rfl ?_
  refine g_imul dX7_carryOut_61 ?_
  refine g_iconstv (v := 2) dX7_carryOut_62 rfl ?_
  refine g_iadd dX7_carryOut_63 ?_
  refine g_ialdN (gx := (3 * k + 2)) dX7_carryOut_64 rfl (by decide) (by rw [show (3 : Int32) = nI 3 from rfl, pk_mul]; exact nI_add (3 * k) 2) (by omega) (by decide) ?_
  rw [e0, e1, e2]
  refine g_V3i dX7_carryOut_65 ml_X7_176 sX7_refuses rfl (by decide) (Nat.le_of_ble_eq_true rfl) (H) ?_
  refine g_if_ne (tgt := 109) dX7_carryOut_68 (by decide) (fun c68 => ?_) (fun c68 => absurd c68 hr)
  refine g_iload_n dX7_carryOut_109 rfl ?_
  exact g_iret dX7_carryOut_110 rfl
set_option maxHeartbeats 4000000 in
set_option maxRecDepth 100000 in
theorem lp_co_go {L : Nat} {F : Nat → Nat → Int32} {g : Nat → Option Nat} (d : Nat) (k m : Nat) (hk : k ≤ 40) (em : F 172 11 = nI m) (hm : m ≤ 40) (h : k < m) (x a b : Int32) (e0 : F 178 (3 * k) = x) (e1 : F 178 (3 * k + 1) = a) (e2 : F 178 (3 * k + 2) = b) (H : mCall (d + 4) yX7_refuses MX7_refuses [.ref 172, .int x, .int a, .int b] (mHX L F g) (some (.int 0)) (mHX L F g)) (F1 : Nat → Nat → Int32) (H2 : mCall (d + 4) yX7_does MX7_does [.ref 172, .int x, .int a, .int b] (mHX L F g) none (mHX L F1 g)) (out : mOut) (K : mGo MX7_carryOut (d + 5) (28, [some (.ref 172), some (.int (nI (k + 1)))], [], mHX L F1 g) out) : mGo MX7_carryOut (d + 5) (28, [some (.ref 172), some (.int (nI k))], [], mHX L F g) out := by
  refine g_iload_n dX7_carryOut_28 rfl ?_
  refine g_aload_n dX7_carryOut_29 rfl ?_
  refine g_gI dX7_carryOut_30 fl_X7_164 (fun _ _ => rfl) rfl (by decide) ?_
  refine g_icmp_ge (tgt := 109) dX7_carryOut_33 (by decide) (fun c33 => absurd c33 (by rw [em]; exact nI_ge h (by omega))) (fun c33 => ?_)
  refine g_aload_n dX7_carryOut_36 rfl ?_
  refine g_aload_n dX7_carryOut_37 rfl ?_
  refine g_gR (r := 178) dX7_carryOut_38 fl_X7_26 (fun _ _ => rfl) rfl (by decide) rfl ?_
  refine g_iconstv (v := 3) dX7_carryOut_41 rfl ?_
  refine g_iload_n dX7_carryOut_42 rfl ?_
  refine g_imul dX7_carryOut_43 ?_
  refine g_ialdN (gx := (3 * k)) dX7_carryOut_44 rfl (by decide) (by rw [show (3 : Int32) = nI 3 from rfl, pk_mul]) (by omega) (by decide) ?_
  refine g_aload_n dX7_carryOut_45 rfl ?_
  refine g_gR (r := 178) dX7_carryOut_46 fl_X7_26 (fun _ _ => rfl) rfl (by decide) rfl ?_
  refine g_iconstv (v := 3) dX7_carryOut_49 rfl ?_
  refine g_iload_n dX7_carryOut_50 rfl ?_
  refine g_imul dX7_carryOut_51 ?_
  refine g_iconstv (v := 1) dX7_carryOut_52 rfl ?_
  refine g_iadd dX7_carryOut_53 ?_
  refine g_ialdN (gx := (3 * k + 1)) dX7_carryOut_54 rfl (by decide) (by rw [show (3 : Int32) = nI 3 from rfl, pk_mul]; exact nI_add (3 * k) 1) (by omega) (by decide) ?_
  refine g_aload_n dX7_carryOut_55 rfl ?_
  refine g_gR (r := 178) dX7_carryOut_56 fl_X7_26 (fun _ _ => rfl) rfl (by decide) rfl ?_
  refine g_iconstv (v := 3) dX7_carryOut_59 rfl ?_
  refine g_iload_n dX7_carryOut_60 rfl ?_
  refine g_imul dX7_carryOut_61 ?_
  refine g_iconstv (v := 2) dX7_carryOut_62 rfl ?_
  refine g_iadd dX7_carryOut_63 ?_
  refine g_ialdN (gx := (3 * k + 2)) dX7_carryOut_64 rfl (by decide) (by rw [show (3 : Int32) = nI 3 from rfl, pk_mul]; exact nI_add (3 * k) 2) (by omega) (by decide) ?_
  rw [e0, e1, e2]
  refine g_V3i dX7_carryOut_65 ml_X7_176 sX7_refuses rfl (by decide) (Nat.le_of_ble_eq_true rfl) (H) ?_
  refine g_if_ne (tgt := 109) dX7_carryOut_68 (by decide) (fun c68 => absurd (by decide) c68) (fun c68 => ?_)
  refine g_aload_n dX7_carryOut_71 rfl ?_
  refine g_aload_n dX7_carryOut_72 rfl ?_
  refine g_gR (r := 178) dX7_carryOut_73 fl_X7_26 (fun _ _ => rfl) rfl (by decide) rfl ?_
  refine g_iconstv (v := 3) dX7_carryOut_76 rfl ?_
  refine g_iload_n dX7_carryOut_77 rfl ?_
  refine g_imul dX7_carryOut_78 ?_
  refine g_ialdN (gx := (3 * k)) dX7_carryOut_79 rfl (by decide) (by rw [show (3 : Int32) = nI 3 from rfl, pk_mul]) (by omega) (by decide) ?_
  refine g_aload_n dX7_carryOut_80 rfl ?_
  refine g_gR (r := 178) dX7_carryOut_81 fl_X7_26 (fun _ _ => rfl) rfl (by decide) rfl ?_
  refine g_iconstv (v := 3) dX7_carryOut_84 rfl ?_
  refine g_iload_n dX7_carryOut_85 rfl ?_
  refine g_imul dX7_carryOut_86 ?_
  refine g_iconstv (v := 1) dX7_carryOut_87 rfl ?_
  refine g_iadd dX7_carryOut_88 ?_
  refine g_ialdN (gx := (3 * k + 1)) dX7_carryOut_89 rfl (by decide) (by rw [show (3 : Int32) = nI 3 from rfl, pk_mul]; exact nI_add (3 * k) 1) (by omega) (by decide) ?_
  refine g_aload_n dX7_carryOut_90 rfl ?_
  refine g_gR (r := 178) dX7_carryOut_91 fl_X7_26 (fun _ _ => rfl) rfl (by decide) rfl ?_
  refine g_iconstv (v := 3) dX7_carryOut_94 rfl ?_
  refine g_iload_n dX7_carryOut_95 rfl ?_
  refine g_imul dX7_carryOut_96 ?_
  refine g_iconstv (v := 2) dX7_carryOut_97 rfl ?_
  refine g_iadd dX7_carryOut_98 ?_
  refine g_ialdN (gx := (3 * k + 2)) dX7_carryOut_99 rfl (by decide) (by rw [show (3 : Int32) = nI 3 from rfl, pk_mul]; exact nI_add (3 * k) 2) (by omega) (by decide) ?_
  rw [e0, e1, e2]
  refine g_V3v dX7_carryOut_100 ml_X7_180 sX7_does rfl (by decide) (Nat.le_of_ble_eq_true rfl) (H2) ?_
  refine g_iincN dX7_carryOut_103 rfl (by decide) rfl ?_
  refine g_goto (tgt := 28) dX7_carryOut_106 (by decide) ?_
  exact K
set_option maxHeartbeats 4000000 in
set_option maxRecDepth 100000 in
theorem c_mundo_no {L : Nat} {F : Nat → Nat → Int32} {g : Nat → Option Nat} (d : Nat) (h0 : F 172 0 = 0) (e3 : F 172 3 = 0) : mCall (d + 4) yX7_undo MX7_undo [.ref 172] (mHX L F g) (some (.int (-5))) (mHX L F g) := by
  refine mCall_of sX7_undo.1 (Nat.le_of_ble_eq_true rfl) ⟨_, rfl, rfl⟩ ?_
  show mGo _ _ (0, [some (.ref 172), none], [], _) _
  refine g_aload_n dX7_undo_0 rfl ?_
  refine g_iconstv (v := 0) dX7_undo_1 rfl ?_
  refine g_pI dX7_undo_2 fl_X7_29 (Or.inl rfl) rfl (by decide) rfl ?_
  rw [pe_id h0]
  refine g_aload_n dX7_undo_5 rfl ?_
  refine g_gI dX7_undo_6 fl_X7_37 (fun _ _ => rfl) rfl (by decide) ?_
  refine g_if_ne (tgt := 15) dX7_undo_9 (by decide) (fun c9 => absurd e3 c9) (fun c9 => ?_)
  refine g_bipushv (v := (-5)) dX7_undo_12 rfl ?_
  exact g_iret dX7_undo_14 rfl
set_option maxHeartbeats 4000000 in
set_option maxRecDepth 100000 in
theorem lp_undo {L : Nat} {F : Nat → Nat → Int32} {g : Nat → Option Nat} (d : Nat) (q : Nat) (hq : q < 6) : ∀ (r k : Nat) (G : Nat → Nat → Int32), k + r = 150 → G = cpB (pe F 172 3 (nI q)) 173 174 (150 * q) 0 k → mGo MX7_undo (d + 4) (27, [some (.ref 172), some (.int (nI k))], [], mHX L G g) (some (.int (nI q)), mHX L (cpB (pe F 172 3 (nI q)) 173 174 (150 * q) 0 150) g) := by
  intro r
  induction r with
  | zero =>
    intro k G hk eG
    obtain rfl : k = 150 := by omega
    have e3 : G 172 3 = nI q := by rw [eG, cpB_row (by decide)]; exact pe_eq _ _ _ _
    refine g_iload_n dX7_undo_27 rfl ?_
    refine g_sipushv (v := 150) dX7_undo_28 rfl ?_
    refine g_icmp_ge (tgt := 61) dX7_undo_31 (by decide) (fun c31 => ?_) (fun c31 => absurd (Int32.le_refl _) c31)
    refine g_aload_n dX7_undo_61 rfl ?_
    refine g_gI dX7_undo_62 fl_X7_37 (fun _ _ => rfl) rfl (by decide) ?_
    exact g_iret dX7_undo_65 (m_ret2 e3.symm (by rw [eG]))
  | succ r ih =>
    intro k G hk eG
    have e3 : G 172 3 = nI q := by rw [eG, cpB_row (by decide)]; exact pe_eq _ _ _ _
    refine g_iload_n dX7_undo_27 rfl ?_
    refine g_sipushv (v := 150) dX7_undo_28 rfl ?_
    refine g_icmp_ge (tgt := 61) dX7_undo_31 (by decide) (fun c31 => absurd c31 (nI_ge (a := k) (b := 150) (by omega) (by decide))) (fun c31 => ?_)
    refine g_aload_n dX7_undo_34 rfl ?_
    refine g_gR (r := 173) dX7_undo_35 fl_X7_7 (fun _ _ => rfl) rfl (by decide) rfl ?_
    refine g_iload_n dX7_undo_38 rfl ?_
    refine g_aload_n dX7_undo_39 rfl ?_
    refine g_gR (r := 174) dX7_undo_40 fl_X7_13 (fun _ _ => rfl) rfl (by decide) rfl ?_
    refine g_sipushv (v := 150) dX7_undo_43 rfl ?_
    refine g_aload_n dX7_undo_46 rfl ?_
    refine g_gI dX7_undo_47 fl_X7_37 (fun _ _ => rfl) rfl (by decide) ?_
    refine g_imul dX7_undo_50 ?_
    refine g_iload_n dX7_undo_51 rfl ?_
    refine g_iadd dX7_undo_52 ?_
    refine g_ialdN (gx := (150 * q + k)) dX7_undo_53 rfl (by decide) (by rw [e3, show (150 : Int32) = nI 150 from rfl, pk_mul, nI_add]) (by omega) (by decide) ?_
    refine g_iastN (gx := k) dX7_undo_54 rfl (by decide) rfl (by omega) (by decide) ?_
    refine g_iincN dX7_undo_55 rfl (by decide) rfl ?_
    refine g_goto (tgt := 27) dX7_undo_58 (by decide) ?_
    exact ih (k + 1) _ (by omega) (by rw [eG]; have z := cpB_step (F := (pe F 172 3 (nI q))) (a := 173) (b := 174) (sx := 150 * q) (dx := 0) (n := k) (by rw [cpB_at, if_neg (fun z => absurd z.1 (by decide))]); rw [Nat.zero_add] at z; exact z)
set_option maxHeartbeats 4000000 in
set_option maxRecDepth 100000 in
theorem c_mundo_ok {L : Nat} {F : Nat → Nat → Int32} {g : Nat → Option Nat} (d : Nat) (h0 : F 172 0 = 0) (q : Nat) (hq : q < 6) (e3 : F 172 3 = nI (q + 1)) : mCall (d + 4) yX7_undo MX7_undo [.ref 172] (mHX L F g) (some (.int (nI q))) (mHX L (cpB (pe F 172 3 (nI q)) 173 174 (150 * q) 0 150) g) := by
  refine mCall_of sX7_undo.1 (Nat.le_of_ble_eq_true rfl) ⟨_, rfl, rfl⟩ ?_
  show mGo _ _ (0, [some (.ref 172), none], [], _) _
  refine g_aload_n dX7_undo_0 rfl ?_
  refine g_iconstv (v := 0) dX7_undo_1 rfl ?_
  refine g_pI dX7_undo_2 fl_X7_29 (Or.inl rfl) rfl (by decide) rfl ?_
  rw [pe_id h0]
  refine g_aload_n dX7_undo_5 rfl ?_
  refine g_gI dX7_undo_6 fl_X7_37 (fun _ _ => rfl) rfl (by decide) ?_
  refine g_if_ne (tgt := 15) dX7_undo_9 (by decide) (fun c9 => ?_) (fun c9 => absurd c9 (by rw [e3]; exact nI_ne0 (by omega) (by omega)))
  refine g_aload_n dX7_undo_15 rfl ?_
  refine g_dup dX7_undo_16 rfl ?_
  refine g_gI dX7_undo_17 fl_X7_37 (fun _ _ => rfl) rfl (by decide) ?_
  refine g_iconstv (v := 1) dX7_undo_20 rfl ?_
  refine g_isub dX7_undo_21 ?_
  rw [show F 172 3 - 1 = nI q by rw [e3]; exact nI_pred q]
  refine g_pI dX7_undo_22 fl_X7_37 (Or.inl rfl) rfl (by decide) rfl ?_
  refine g_iconstv (v := 0) dX7_undo_25 rfl ?_
  refine g_istore_n dX7_undo_26 (by decide) rfl ?_
  exact lp_undo d q hq 150 0 _ (by decide) (cpB_zero _ _ _ _ _).symm
set_option maxHeartbeats 4000000 in
set_option maxRecDepth 100000 in
theorem c_msv_no {L : Nat} {F : Nat → Nat → Int32} {g : Nat → Option Nat} (d : Nat) (h0 : F 172 0 = 0) (x : Int32) (hb : ¬ (0 ≤ x ∧ x ≤ 1)) : mCall (d + 4) yX7_save MX7_save [.ref 172, .int x] (mHX L F g) (some (.int (-2))) (mHX L F g) := by
  refine mCall_of sX7_save.1 (Nat.le_of_ble_eq_true rfl) ⟨_, rfl, rfl⟩ ?_
  show mGo _ _ (0, [some (.ref 172), some (.int x), none], [], _) _
  refine g_aload_n dX7_save_0 rfl ?_
  refine g_iconstv (v := 0) dX7_save_1 rfl ?_
  refine g_pI dX7_save_2 fl_X7_29 (Or.inl rfl) rfl (by decide) rfl ?_
  rw [pe_id h0]
  refine g_iload_n dX7_save_5 rfl ?_
  refine g_iconstv (v := 0) dX7_save_6 rfl ?_
  refine g_iconstv (v := 1) dX7_save_7 rfl ?_
  refine g_S3i dX7_save_8 ml_X7_33 sX7_in (Nat.le_of_ble_eq_true rfl) (c_in (d + 3) x 0 1) ?_
  refine g_if_ne (tgt := 17) dX7_save_11 (by decide) (fun c11 => absurd (mbi_f hb) c11) (fun c11 => ?_)
  refine g_bipushv (v := (-2)) dX7_save_14 rfl ?_
  exact g_iret dX7_save_16 rfl
set_option maxHeartbeats 4000000 in
set_option maxRecDepth 100000 in
theorem lp_save {L : Nat} {F : Nat → Nat → Int32} {g : Nat → Option Nat} (d : Nat) (b : Nat) (hb : b < 2) : ∀ (r k : Nat) (G : Nat → Nat → Int32), k + r = 150 → G = cpB F 175 173 0 (150 * b) k → mGo MX7_save (d + 4) (19, [some (.ref 172), some (.int (nI b)), some (.int (nI k))], [], mHX L G g) (some (.int (F 173 5)), mHX L (pe (cpB F 175 173 0 (150 * b) 150) 176 b 1) g) := by
  intro r
  induction r with
  | zero =>
    intro k G hk eG
    obtain rfl : k = 150 := by omega
    refine g_iload_n dX7_save_19 rfl ?_
    refine g_sipushv (v := 150) dX7_save_20 rfl ?_
    refine g_icmp_ge (tgt := 50) dX7_save_23 (by decide) (fun c23 => ?_) (fun c23 => absurd (Int32.le_refl _) c23)
    refine g_aload_n dX7_save_50 rfl ?_
    refine g_gR (r := 176) dX7_save_51 fl_X7_19 (fun _ _ => rfl) rfl (by decide) rfl ?_
    refine g_iload_n dX7_save_54 rfl ?_
    refine g_iconstv (v := 1) dX7_save_55 rfl ?_
    refine g_zastN (gx := b) dX7_save_56 rfl (by decide) rfl (by omega) (by decide) rfl ?_
    refine g_aload_n dX7_save_57 rfl ?_
    refine g_gR (r := 173) dX7_save_58 fl_X7_7 (fun _ _ => rfl) rfl (by decide) rfl ?_
    refine g_iconstv (v := 5) dX7_save_61 rfl ?_
    refine g_ialdN (gx := 5) dX7_save_62 rfl (by decide) rfl (by omega) (by decide) ?_
    exact g_iret dX7_save_63 (m_ret2 (by rw [pe_row (by decide), eG, cpB_row (by decide)]) (by rw [eG]))
  | succ r ih =>
    intro k G hk eG
    refine g_iload_n dX7_save_19 rfl ?_
    refine g_sipushv (v := 150) dX7_save_20 rfl ?_
    refine g_icmp_ge (tgt := 50) dX7_save_23 (by decide) (fun c23 => absurd c23 (nI_ge (a := k) (b := 150) (by omega) (by decide))) (fun c23 => ?_)
    refine g_aload_n dX7_save_26 rfl ?_
    refine g_gR (r := 175) dX7_save_27 fl_X7_16 (fun _ _ => rfl) rfl (by decide) rfl ?_
    refine g_sipushv (v := 150) dX7_save_30 rfl ?_
    refine g_iload_n dX7_save_33 rfl ?_
    refine g_imul dX7_save_34 ?_
    refine g_iload_n dX7_save_35 rfl ?_
    refine g_iadd dX7_save_36 ?_
    refine g_aload_n dX7_save_37 rfl ?_
    refine g_gR (r := 173) dX7_save_38 fl_X7_7 (fun _ _ => rfl) rfl (by decide) rfl ?_
    refine g_iload_n dX7_save_41 rfl ?_
    refine g_ialdN (gx := k) dX7_save_42 rfl (by decide) rfl (by omega) (by decide) ?_
    refine g_iastN (gx := (150 * b + k)) dX7_save_43 rfl (by decide) (by rw [show (150 : Int32) = nI 150 from rfl, pk_mul, nI_add]) (by omega) (by decide) ?_
    refine g_iincN dX7_save_44 rfl (by decide) rfl ?_
    refine g_goto (tgt := 19) dX7_save_47 (by decide) ?_
    exact ih (k + 1) _ (by omega) (by rw [eG]; have z := cpB_step (F := F) (a := 175) (b := 173) (sx := 0) (dx := 150 * b) (n := k) (by rw [cpB_at, if_neg (fun z => absurd z.1 (by decide))]); rw [Nat.zero_add] at z; exact z)
set_option maxHeartbeats 4000000 in
set_option maxRecDepth 100000 in
theorem c_msv_ok {L : Nat} {F : Nat → Nat → Int32} {g : Nat → Option Nat} (d : Nat) (h0 : F 172 0 = 0) (b : Nat) (hb : b < 2) : mCall (d + 4) yX7_save MX7_save [.ref 172, .int (nI b)] (mHX L F g) (some (.int (F 173 5))) (mHX L (pe (cpB F 175 173 0 (150 * b) 150) 176 b 1) g) := by
  refine mCall_of sX7_save.1 (Nat.le_of_ble_eq_true rfl) ⟨_, rfl, rfl⟩ ?_
  show mGo _ _ (0, [some (.ref 172), some (.int (nI b)), none], [], _) _
  have hb0 : 0 ≤ nI b ∧ nI b ≤ 1 := ⟨nI_pos' (by omega), nI_le (b := 1) (by omega) (by decide)⟩
  refine g_aload_n dX7_save_0 rfl ?_
  refine g_iconstv (v := 0) dX7_save_1 rfl ?_
  refine g_pI dX7_save_2 fl_X7_29 (Or.inl rfl) rfl (by decide) rfl ?_
  rw [pe_id h0]
  refine g_iload_n dX7_save_5 rfl ?_
  refine g_iconstv (v := 0) dX7_save_6 rfl ?_
  refine g_iconstv (v := 1) dX7_save_7 rfl ?_
  refine g_S3i dX7_save_8 ml_X7_33 sX7_in (Nat.le_of_ble_eq_true rfl) (c_in (d + 3) (nI b) 0 1) ?_
  refine g_if_ne (tgt := 17) dX7_save_11 (by decide) (fun c11 => ?_) (fun c11 => absurd c11 (mbi_n0.mpr hb0))
  refine g_iconstv (v := 0) dX7_save_17 rfl ?_
  refine g_istore_n dX7_save_18 (by decide) rfl ?_
  exact lp_save d b hb 150 0 _ (by decide) (cpB_zero _ _ _ _ _).symm
set_option maxHeartbeats 4000000 in
set_option maxRecDepth 100000 in
theorem c_mrs_no {L : Nat} {F : Nat → Nat → Int32} {g : Nat → Option Nat} (d : Nat) (h0 : F 172 0 = 0) (x : Int32) (hb : ¬ (0 ≤ x ∧ x ≤ 1)) : mCall (d + 4) yX7_restore MX7_restore [.ref 172, .int x] (mHX L F g) (some (.int (-2))) (mHX L F g) := by
  refine mCall_of sX7_restore.1 (Nat.le_of_ble_eq_true rfl) ⟨_, rfl, rfl⟩ ?_
  show mGo _ _ (0, [some (.ref 172), some (.int x), none], [], _) _
  refine g_aload_n dX7_restore_0 rfl ?_
  refine g_iconstv (v := 0) dX7_restore_1 rfl ?_
  refine g_pI dX7_restore_2 fl_X7_29 (Or.inl rfl) rfl (by decide) rfl ?_
  rw [pe_id h0]
  refine g_iload_n dX7_restore_5 rfl ?_
  refine g_iconstv (v := 0) dX7_restore_6 rfl ?_
  refine g_iconstv (v := 1) dX7_restore_7 rfl ?_
  refine g_S3i dX7_restore_8 ml_X7_33 sX7_in (Nat.le_of_ble_eq_true rfl) (c_in (d + 3) x 0 1) ?_
  refine g_if_ne (tgt := 17) dX7_restore_11 (by decide) (fun c11 => absurd (mbi_f hb) c11) (fun c11 => ?_)
  refine g_bipushv (v := (-2)) dX7_restore_14 rfl ?_
  exact g_iret dX7_restore_16 rfl
set_option maxHeartbeats 4000000 in
set_option maxRecDepth 100000 in
theorem c_mrs_none {L : Nat} {F : Nat → Nat → Int32} {g : Nat → Option Nat} (d : Nat) (h0 : F 172 0 = 0) (b : Nat) (hb : b < 2) (hs : F 176 b = 0) : mCall (d + 4) yX7_restore MX7_restore [.ref 172, .int (nI b)] (mHX L F g) (some (.int (-5))) (mHX L F g) := by
  refine mCall_of sX7_restore.1 (Nat.le_of_ble_eq_true rfl) ⟨_, rfl, rfl⟩ ?_
  show mGo _ _ (0, [some (.ref 172), some (.int (nI b)), none], [], _) _
  have hb0 : 0 ≤ nI b ∧ nI b ≤ 1 := ⟨nI_pos' (by omega), nI_le (b := 1) (by omega) (by decide)⟩
  refine g_aload_n dX7_restore_0 rfl ?_
  refine g_iconstv (v := 0) dX7_restore_1 rfl ?_
  refine g_pI dX7_restore_2 fl_X7_29 (Or.inl rfl) rfl (by decide) rfl ?_
  rw [pe_id h0]
  refine g_iload_n dX7_restore_5 rfl ?_
  refine g_iconstv (v := 0) dX7_restore_6 rfl ?_
  refine g_iconstv (v := 1) dX7_restore_7 rfl ?_
  refine g_S3i dX7_restore_8 ml_X7_33 sX7_in (Nat.le_of_ble_eq_true rfl) (c_in (d + 3) (nI b) 0 1) ?_
  refine g_if_ne (tgt := 17) dX7_restore_11 (by decide) (fun c11 => ?_) (fun c11 => absurd c11 (mbi_n0.mpr hb0))
  refine g_aload_n dX7_restore_17 rfl ?_
  refine g_gR (r := 176) dX7_restore_18 fl_X7_19 (fun _ _ => rfl) rfl (by decide) rfl ?_
  refine g_iload_n dX7_restore_21 rfl ?_
  refine g_zaldN (gx := b) dX7_restore_22 rfl (by decide) rfl (by omega) (by decide) ?_
  refine g_if_ne (tgt := 29) dX7_restore_23 (by decide) (fun c23 => absurd hs c23) (fun c23 => ?_)
  refine g_bipushv (v := (-5)) dX7_restore_26 rfl ?_
  exact g_iret dX7_restore_28 rfl
set_option maxHeartbeats 4000000 in
set_option maxRecDepth 100000 in
theorem lp_rst {L : Nat} {F : Nat → Nat → Int32} {g : Nat → Option Nat} (d : Nat) (b : Nat) (hb : b < 2) : ∀ (r k : Nat) (G : Nat → Nat → Int32), k + r = 150 → G = cpB F 173 175 (150 * b) 0 k → mGo MX7_restore (d + 4) (35, [some (.ref 172), some (.int (nI b)), some (.int (nI k))], [], mHX L G g) (some (.int ((cpB F 173 175 (150 * b) 0 150) 173 5)), mHX L (cpB F 173 175 (150 * b) 0 150) g) := by
  intro r
  induction r with
  | zero =>
    intro k G hk eG
    obtain rfl : k = 150 := by omega
    refine g_iload_n dX7_restore_35 rfl ?_
    refine g_sipushv (v := 150) dX7_restore_36 rfl ?_
    refine g_icmp_ge (tgt := 66) dX7_restore_39 (by decide) (fun c39 => ?_) (fun c39 => absurd (Int32.le_refl _) c39)
    refine g_aload_n dX7_restore_66 rfl ?_
    refine g_gR (r := 173) dX7_restore_67 fl_X7_7 (fun _ _ => rfl) rfl (by decide) rfl ?_
    refine g_iconstv (v := 5) dX7_restore_70 rfl ?_
    refine g_ialdN (gx := 5) dX7_restore_71 rfl (by decide) rfl (by omega) (by decide) ?_
    exact g_iret dX7_restore_72 (m_ret2 (by rw [eG]) (by rw [eG]))
  | succ r ih =>
    intro k G hk eG
    refine g_iload_n dX7_restore_35 rfl ?_
    refine g_sipushv (v := 150) dX7_restore_36 rfl ?_
    refine g_icmp_ge (tgt := 66) dX7_restore_39 (by decide) (fun c39 => absurd c39 (nI_ge (a := k) (b := 150) (by omega) (by decide))) (fun c39 => ?_)
    refine g_aload_n dX7_restore_42 rfl ?_
    refine g_gR (r := 173) dX7_restore_43 fl_X7_7 (fun _ _ => rfl) rfl (by decide) rfl ?_
    refine g_iload_n dX7_restore_46 rfl ?_
    refine g_aload_n dX7_restore_47 rfl ?_
    refine g_gR (r := 175) dX7_restore_48 fl_X7_16 (fun _ _ => rfl) rfl (by decide) rfl ?_
    refine g_sipushv (v := 150) dX7_restore_51 rfl ?_
    refine g_iload_n dX7_restore_54 rfl ?_
    refine g_imul dX7_restore_55 ?_
    refine g_iload_n dX7_restore_56 rfl ?_
    refine g_iadd dX7_restore_57 ?_
    refine g_ialdN (gx := (150 * b + k)) dX7_restore_58 rfl (by decide) (by rw [show (150 : Int32) = nI 150 from rfl, pk_mul, nI_add]) (by omega) (by decide) ?_
    refine g_iastN (gx := k) dX7_restore_59 rfl (by decide) rfl (by omega) (by decide) ?_
    refine g_iincN dX7_restore_60 rfl (by decide) rfl ?_
    refine g_goto (tgt := 35) dX7_restore_63 (by decide) ?_
    exact ih (k + 1) _ (by omega) (by rw [eG]; have z := cpB_step (F := F) (a := 173) (b := 175) (sx := 150 * b) (dx := 0) (n := k) (by rw [cpB_at, if_neg (fun z => absurd z.1 (by decide))]); rw [Nat.zero_add] at z; exact z)
set_option maxHeartbeats 4000000 in
set_option maxRecDepth 100000 in
theorem c_mrs_ok {L : Nat} {F : Nat → Nat → Int32} {g : Nat → Option Nat} (d : Nat) (h0 : F 172 0 = 0) (q : Nat) (hq : q ≤ 6) (e3 : F 172 3 = nI q) (b : Nat) (hb : b < 2) (hs : ¬ F 176 b = 0) : mCall (d + 4) yX7_restore MX7_restore [.ref 172, .int (nI b)] (mHX L F g) (some (.int ((cpB (xRec F q) 173 175 (150 * b) 0 150) 173 5))) (mHX L (cpB (xRec F q) 173 175 (150 * b) 0 150) g) := by
  refine mCall_of sX7_restore.1 (Nat.le_of_ble_eq_true rfl) ⟨_, rfl, rfl⟩ ?_
  show mGo _ _ (0, [some (.ref 172), some (.int (nI b)), none], [], _) _
  have hb0 : 0 ≤ nI b ∧ nI b ≤ 1 := ⟨nI_pos' (by omega), nI_le (b := 1) (by omega) (by decide)⟩
  refine g_aload_n dX7_restore_0 rfl ?_
  refine g_iconstv (v := 0) dX7_restore_1 rfl ?_
  refine g_pI dX7_restore_2 fl_X7_29 (Or.inl rfl) rfl (by decide) rfl ?_
  rw [pe_id h0]
  refine g_iload_n dX7_restore_5 rfl ?_
  refine g_iconstv (v := 0) dX7_restore_6 rfl ?_
  refine g_iconstv (v := 1) dX7_restore_7 rfl ?_
  refine g_S3i dX7_restore_8 ml_X7_33 sX7_in (Nat.le_of_ble_eq_true rfl) (c_in (d + 3) (nI b) 0 1) ?_
  refine g_if_ne (tgt := 17) dX7_restore_11 (by decide) (fun c11 => ?_) (fun c11 => absurd c11 (mbi_n0.mpr hb0))
  refine g_aload_n dX7_restore_17 rfl ?_
  refine g_gR (r := 176) dX7_restore_18 fl_X7_19 (fun _ _ => rfl) rfl (by decide) rfl ?_
  refine g_iload_n dX7_restore_21 rfl ?_
  refine g_zaldN (gx := b) dX7_restore_22 rfl (by decide) rfl (by omega) (by decide) ?_
  refine g_if_ne (tgt := 29) dX7_restore_23 (by decide) (fun c23 => ?_) (fun c23 => absurd c23 hs)
  refine g_aload_n dX7_restore_29 rfl ?_
  refine g_V0v dX7_restore_30 ml_X7_60 sX7_records rfl (by decide) (Nat.le_of_ble_eq_true rfl) (c_rec (d + 3) q hq e3) ?_
  refine g_iconstv (v := 0) dX7_restore_33 rfl ?_
  refine g_istore_n dX7_restore_34 (by decide) rfl ?_
  exact lp_rst (F := xRec F q) d b hb 150 0 _ (by decide) (cpB_zero _ _ _ _ _).symm
