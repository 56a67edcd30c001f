theorem xRec_row {F : Nat → Nat → Int32} {q c : Nat} (h1 : c ≠ 174) (h2 : c ≠ 172) : xRec F q c = F c := by
  unfold xRec xRec1 xSh
  split
  · rw [pe_row h2, cpB_row h1]
  · rw [pe_row h2, cpB_row h1, pe_row h2, cpB_row h1]
theorem c_mostOf {hp : mHp} (d j : Nat) (hj : j < 4) : mCall d yX7_mostOf MX7_mostOf [.int (nI j)] hp (some (.int (mHS j))) hp := by
  rcases (by omega : j = 0 ∨ j = 1 ∨ j = 2 ∨ j = 3) with rfl | rfl | rfl | rfl
  · exact c_most0 d 0 (by decide)
  · exact c_most0 d 1 (by decide)
  · exact c_most1 d 2 (by decide)
  · exact c_most1 d 3 (by decide)
set_option maxHeartbeats 4000000 in
set_option maxRecDepth 100000 in
theorem c_ms_no {L : Nat} {F : Nat → Nat → Int32} {g : Nat → Option Nat} (d : Nat) (h0 : F 172 0 = 0) (x v : Int32) (hb : ¬ (0 ≤ x ∧ x ≤ 3)) : mCall (d + 4) yX7_set MX7_set [.ref 172, .int x, .int v] (mHX L F g) (some (.int (-2))) (mHX L F g) := by
  refine mCall_of sX7_set.1 (Nat.le_of_ble_eq_true rfl) ⟨_, rfl, rfl⟩ ?_
  show mGo _ _ (0, [some (.ref 172), some (.int x), some (.int v), none], [], _) _
  refine g_aload_n dX7_set_0 rfl ?_
  refine g_iconstv (v := 0) dX7_set_1 rfl ?_
  refine g_pI dX7_set_2 fl_X7_29 (Or.inl rfl) rfl (by decide) rfl ?_
  rw [pe_id h0]
  refine g_iload_n dX7_set_5 rfl ?_
  refine g_iconstv (v := 0) dX7_set_6 rfl ?_
  refine g_iconstv (v := 3) dX7_set_7 rfl ?_
  refine g_S3i dX7_set_8 ml_X7_33 sX7_in (Nat.le_of_ble_eq_true rfl) (c_in (d + 3) x 0 3) ?_
  refine g_if_eq (tgt := 26) dX7_set_11 (by decide) (fun c11 => ?_) (fun c11 => absurd (mbi_f hb) c11)
  refine g_bipushv (v := (-2)) dX7_set_26 rfl ?_
  exact g_iret dX7_set_28 rfl
set_option maxHeartbeats 4000000 in
set_option maxRecDepth 100000 in
theorem c_ms_bad {L : Nat} {F : Nat → Nat → Int32} {g : Nat → Option Nat} (d : Nat) (h0 : F 172 0 = 0) (j : Nat) (hj : j < 4) (v : Int32) (hb : ¬ (1 ≤ v ∧ v ≤ mHS j)) : mCall (d + 4) yX7_set MX7_set [.ref 172, .int (nI j), .int v] (mHX L F g) (some (.int (-2))) (mHX L F g) := by
  refine mCall_of sX7_set.1 (Nat.le_of_ble_eq_true rfl) ⟨_, rfl, rfl⟩ ?_
  show mGo _ _ (0, [some (.ref 172), some (.int (nI j)), some (.int v), none], [], _) _
  have hj0 : 0 ≤ nI j ∧ nI j ≤ 3 := ⟨nI_pos' (by omega), nI_le (b := 3) (by omega) (by decide)⟩
  refine g_aload_n dX7_set_0 rfl ?_
  refine g_iconstv (v := 0) dX7_set_1 rfl ?_
  refine g_pI dX7_set_2 fl_X7_29 (Or.inl rfl) rfl (by decide) rfl ?_
  rw [pe_id h0]
  refine g_iload_n dX7_set_5 rfl ?_
  refine g_iconstv (v := 0) dX7_set_6 rfl ?_
  refine g_iconstv (v := 3) dX7_set_7 rfl ?_
  refine g_S3i dX7_set_8 ml_X7_33 sX7_in (Nat.le_of_ble_eq_true rfl) (c_in (d + 3) (nI j) 0 3) ?_
  refine g_if_eq (tgt := 26) dX7_set_11 (by decide) (fun c11 => absurd c11 (mbi_n0.mpr hj0)) (fun c11 => ?_)
  refine g_iload_n dX7_set_14 rfl ?_
  refine g_iconstv (v := 1) dX7_set_15 rfl ?_
  refine g_iload_n dX7_set_16 rfl ?_
  refine g_S1i dX7_set_17 ml_X7_57 sX7_mostOf (Nat.le_of_ble_eq_true rfl) (c_mostOf (d + 3) j hj) ?_
  refine g_S3i dX7_set_20 ml_X7_33 sX7_in (Nat.le_of_ble_eq_true rfl) (c_in (d + 3) v 1 (mHS j)) ?_
  refine g_if_ne (tgt := 29) dX7_set_23 (by decide) (fun c23 => absurd (mbi_f hb) c23) (fun c23 => ?_)
  refine g_bipushv (v := (-2)) dX7_set_26 rfl ?_
  exact g_iret dX7_set_28 rfl
set_option maxHeartbeats 4000000 in
set_option maxRecDepth 100000 in
theorem c_ms_ok {L : Nat} {F : Nat → Nat → Int32} {g : Nat → Option Nat} (d : Nat) (h0 : F 172 0 = 0) (q : Nat) (hq : q ≤ 6) (e3 : F 172 3 = nI q) (j : Nat) (hj : j < 4) (v : Int32) (hv : 1 ≤ v ∧ v ≤ mHS j) : mCall (d + 4) yX7_set MX7_set [.ref 172, .int (nI j), .int v] (mHX L F g) (some (.int (F 173 j))) (mHX L (pe (xRec F q) 173 j v) g) := by
  refine mCall_of sX7_set.1 (Nat.le_of_ble_eq_true rfl) ⟨_, rfl, rfl⟩ ?_
  show mGo _ _ (0, [some (.ref 172), some (.int (nI j)), some (.int v), none], [], _) _
  have hj0 : 0 ≤ nI j ∧ nI j ≤ 3 := ⟨nI_pos' (by omega), nI_le (b := 3) (by omega) (by decide)⟩
  refine g_aload_n dX7_set_0 rfl ?_
  refine g_iconstv (v := 0) dX7_set_1 rfl ?_
  refine g_pI dX7_set_2 fl_X7_29 (Or.inl rfl) rfl (by decide) rfl ?_
  rw [pe_id h0]
  refine g_iload_n dX7_set_5 rfl ?_
  refine g_iconstv (v := 0) dX7_set_6 rfl ?_
  refine g_iconstv (v := 3) dX7_set_7 rfl ?_
  refine g_S3i dX7_set_8 ml_X7_33 sX7_in (Nat.le_of_ble_eq_true rfl) (c_in (d + 3) (nI j) 0 3) ?_
  refine g_if_eq (tgt := 26) dX7_set_11 (by decide) (fun c11 => absurd c11 (mbi_n0.mpr hj0)) (fun c11 => ?_)
  refine g_iload_n dX7_set_14 rfl ?_
  refine g_iconstv (v := 1) dX7_set_15 rfl ?_
  refine g_iload_n dX7_set_16 rfl ?_
  refine g_S1i dX7_set_17 ml_X7_57 sX7_mostOf (Nat.le_of_ble_eq_true rfl) (c_mostOf (d + 3) j hj) ?_
  refine g_S3i dX7_set_20 ml_X7_33 sX7_in (Nat.le_of_ble_eq_true rfl) (c_in (d + 3) v 1 (mHS j)) ?_
  refine g_if_ne (tgt := 29) dX7_set_23 (by decide) (fun c23 => ?_) (fun c23 => absurd c23 (mbi_n0.mpr hv))
  refine g_aload_n dX7_set_29 rfl ?_
  refine g_V0v dX7_set_30 ml_X7_60 sX7_records rfl (by decide) (Nat.le_of_ble_eq_true rfl) (c_rec (d + 3) q hq e3) ?_
  refine g_aload_n dX7_set_33 rfl ?_
  refine g_gR (r := 173) dX7_set_34 fl_X7_7 (fun _ _ => rfl) rfl (by decide) rfl ?_
  refine g_iload_n dX7_set_37 rfl ?_
  refine g_ialdN (gx := j) dX7_set_38 rfl (by decide) rfl (by omega) (by decide) ?_
  refine g_istore_n dX7_set_39 (by decide) rfl ?_
  refine g_aload_n dX7_set_40 rfl ?_
  refine g_gR (r := 173) dX7_set_41 fl_X7_7 (fun _ _ => rfl) rfl (by decide) rfl ?_
  refine g_iload_n dX7_set_44 rfl ?_
  refine g_iload_n dX7_set_45 rfl ?_
  refine g_iastN (gx := j) dX7_set_46 rfl (by decide) rfl (by omega) (by decide) ?_
  refine g_iload_n dX7_set_47 rfl ?_
  exact g_iret dX7_set_48 (m_ret (by rw [xRec_row (by decide) (by decide)]))
set_option maxHeartbeats 4000000 in
set_option maxRecDepth 100000 in
theorem c_mguest_r {L : Nat} {F : Nat → Nat → Int32} {g : Nat → Option Nat} (d : Nat) (h0 : F 172 0 = 0) (a b : Int32) (r : Int32) (hr : ¬ r = 0) (H : mCall (d + 3) yX7_refusesGuest MX7_refusesGuest [.ref 172, .int a, .int b] (mHX L F g) (some (.int r)) (mHX L F g)) : mCall (d + 4) yX7_guest MX7_guest [.ref 172, .int a, .int b] (mHX L F g) (some (.int r)) (mHX L F g) := by
  refine mCall_of sX7_guest.1 (Nat.le_of_ble_eq_true rfl) ⟨_, rfl, rfl⟩ ?_
  show mGo _ _ (0, [some (.ref 172), some (.int a), some (.int b), none], [], _) _
  refine g_aload_n dX7_guest_0 rfl ?_
  refine g_iconstv (v := 0) dX7_guest_1 rfl ?_
  refine g_pI dX7_guest_2 fl_X7_29 (Or.inl rfl) rfl (by decide) rfl ?_
  rw [pe_id h0]
  refine g_aload_n dX7_guest_5 rfl ?_
  refine g_iload_n dX7_guest_6 rfl ?_
  refine g_iload_n dX7_guest_7 rfl ?_
  refine g_V2i dX7_guest_8 ml_X7_71 sX7_refusesGuest rfl (by decide) (Nat.le_of_ble_eq_true rfl) (H) ?_
  refine g_istore_n dX7_guest_11 (by decide) rfl ?_
  refine g_iload_n dX7_guest_12 rfl ?_
  refine g_if_eq (tgt := 18) dX7_guest_13 (by decide) (fun c13 => absurd c13 hr) (fun c13 => ?_)
  refine g_iload_n dX7_guest_16 rfl ?_
  exact g_iret dX7_guest_17 rfl
set_option maxHeartbeats 4000000 in
set_option maxRecDepth 100000 in
theorem c_mguest_k {L : Nat} {F : Nat → Nat → Int32} {g : Nat → Option Nat} (d : Nat) (h0 : F 172 0 = 0) (a b : Int32) (q : Nat) (hq : q ≤ 6) (e3 : F 172 3 = nI q) (r : Int32) (hp1 : mHp) (H : mCall (d + 3) yX7_refusesGuest MX7_refusesGuest [.ref 172, .int a, .int b] (mHX L F g) (some (.int 0)) (mHX L F g)) (H2 : mCall (d + 3) yX7_comes MX7_comes [.ref 172, .int a, .int b] (mHX L (xRec F q) g) (some (.int r)) (hp1)) : mCall (d + 4) yX7_guest MX7_guest [.ref 172, .int a, .int b] (mHX L F g) (some (.int r)) (hp1) := by
  refine mCall_of sX7_guest.1 (Nat.le_of_ble_eq_true rfl) ⟨_, rfl, rfl⟩ ?_
  show mGo _ _ (0, [some (.ref 172), some (.int a), some (.int b), none], [], _) _
  refine g_aload_n dX7_guest_0 rfl ?_
  refine g_iconstv (v := 0) dX7_guest_1 rfl ?_
  refine g_pI dX7_guest_2 fl_X7_29 (Or.inl rfl) rfl (by decide) rfl ?_
  rw [pe_id h0]
  refine g_aload_n dX7_guest_5 rfl ?_
  refine g_iload_n dX7_guest_6 rfl ?_
  refine g_iload_n dX7_guest_7 rfl ?_
  refine g_V2i dX7_guest_8 ml_X7_71 sX7_refusesGuest rfl (by decide) (Nat.le_of_ble_eq_true rfl) (H) ?_
  refine g_istore_n dX7_guest_11 (by decide) rfl ?_
  refine g_iload_n dX7_guest_12 rfl ?_
  refine g_if_eq (tgt := 18) dX7_guest_13 (by decide) (fun c13 => ?_) (fun c13 => absurd (by decide) c13)
  refine g_aload_n dX7_guest_18 rfl ?_
  refine g_V0v dX7_guest_19 ml_X7_60 sX7_records rfl (by decide) (Nat.le_of_ble_eq_true rfl) (c_rec (d + 3) q hq e3) ?_
  refine g_aload_n dX7_guest_22 rfl ?_
  refine g_iload_n dX7_guest_23 rfl ?_
  refine g_iload_n dX7_guest_24 rfl ?_
  refine g_V2i dX7_guest_25 ml_X7_74 sX7_comes rfl (by decide) (Nat.le_of_ble_eq_true rfl) (H2) ?_
  exact g_iret dX7_guest_28 rfl
set_option maxHeartbeats 4000000 in
set_option maxRecDepth 100000 in
theorem c_mleave_r {L : Nat} {F : Nat → Nat → Int32} {g : Nat → Option Nat} (d : Nat) (h0 : F 172 0 = 0) (a : Int32) (r : Int32) (hr : ¬ r = 0) (H : mCall (d + 3) yX7_refusesLeaving MX7_refusesLeaving [.ref 172, .int a] (mHX L F g) (some (.int r)) (mHX L F g)) : mCall (d + 4) yX7_leave MX7_leave [.ref 172, .int a] (mHX L F g) (some (.int r)) (mHX L F g) := by
  refine mCall_of sX7_leave.1 (Nat.le_of_ble_eq_true rfl) ⟨_, rfl, rfl⟩ ?_
  show mGo _ _ (0, [some (.ref 172), some (.int a), none], [], _) _
  refine g_aload_n dX7_leave_0 rfl ?_
  refine g_iconstv (v := 0) dX7_leave_1 rfl ?_
  refine g_pI dX7_leave_2 fl_X7_29 (Or.inl rfl) rfl (by decide) rfl ?_
  rw [pe_id h0]
  refine g_aload_n dX7_leave_5 rfl ?_
  refine g_iload_n dX7_leave_6 rfl ?_
  refine g_V1i dX7_leave_7 ml_X7_80 sX7_refusesLeaving rfl (by decide) (Nat.le_of_ble_eq_true rfl) (H) ?_
  refine g_istore_n dX7_leave_10 (by decide) rfl ?_
  refine g_iload_n dX7_leave_11 rfl ?_
  refine g_if_eq (tgt := 17) dX7_leave_12 (by decide) (fun c12 => absurd c12 hr) (fun c12 => ?_)
  refine g_iload_n dX7_leave_15 rfl ?_
  exact g_iret dX7_leave_16 rfl
set_option maxHeartbeats 4000000 in
set_option maxRecDepth 100000 in
theorem c_mleave_k {L : Nat} {F : Nat → Nat → Int32} {g : Nat → Option Nat} (d : Nat) (h0 : F 172 0 = 0) (a : Int32) (q : Nat) (hq : q ≤ 6) (e3 : F 172 3 = nI q) (r : Int32) (hp1 : mHp) (H : mCall (d + 3) yX7_refusesLeaving MX7_refusesLeaving [.ref 172, .int a] (mHX L F g) (some (.int 0)) (mHX L F g)) (H2 : mCall (d + 3) yX7_goes MX7_goes [.ref 172, .int a, .int (-6)] (mHX L (xRec F q) g) (some (.int r)) (hp1)) : mCall (d + 4) yX7_leave MX7_leave [.ref 172, .int a] (mHX L F g) (some (.int r)) (hp1) := by
  refine mCall_of sX7_leave.1 (Nat.le_of_ble_eq_true rfl) ⟨_, rfl, rfl⟩ ?_
  show mGo _ _ (0, [some (.ref 172), some (.int a), none], [], _) _
  refine g_aload_n dX7_leave_0 rfl ?_
  refine g_iconstv (v := 0) dX7_leave_1 rfl ?_
  refine g_pI dX7_leave_2 fl_X7_29 (Or.inl rfl) rfl (by decide) rfl ?_
  rw [pe_id h0]
  refine g_aload_n dX7_leave_5 rfl ?_
  refine g_iload_n dX7_leave_6 rfl ?_
  refine g_V1i dX7_leave_7 ml_X7_80 sX7_refusesLeaving rfl (by decide) (Nat.le_of_ble_eq_true rfl) (H) ?_
  refine g_istore_n dX7_leave_10 (by decide) rfl ?_
  refine g_iload_n dX7_leave_11 rfl ?_
  refine g_if_eq (tgt := 17) dX7_leave_12 (by decide) (fun c12 => ?_) (fun c12 => absurd (by decide) c12)
  refine g_aload_n dX7_leave_17 rfl ?_
  refine g_V0v dX7_leave_18 ml_X7_60 sX7_records rfl (by decide) (Nat.le_of_ble_eq_true rfl) (c_rec (d + 3) q hq e3) ?_
  refine g_aload_n dX7_leave_21 rfl ?_
  refine g_iload_n dX7_leave_22 rfl ?_
  refine g_bipushv (v := (-6)) dX7_leave_23 rfl ?_
  refine g_V2i dX7_leave_25 ml_X7_83 sX7_goes rfl (by decide) (Nat.le_of_ble_eq_true rfl) (H2) ?_
  exact g_iret dX7_leave_28 rfl
set_option maxHeartbeats 4000000 in
set_option maxRecDepth 100000 in
theorem c_mpause_r {L : Nat} {F : Nat → Nat → Int32} {g : Nat → Option Nat} (d : Nat) (h0 : F 172 0 = 0) (a : Int32) (r : Int32) (hr : ¬ r = 0) (H : mCall (d + 3) yX7_refusesPause MX7_refusesPause [.ref 172, .int a] (mHX L F g) (some (.int r)) (mHX L F g)) : mCall (d + 4) yX7_pause MX7_pause [.ref 172, .int a] (mHX L F g) (some (.int r)) (mHX L F g) := by
  refine mCall_of sX7_pause.1 (Nat.le_of_ble_eq_true rfl) ⟨_, rfl, rfl⟩ ?_
  show mGo _ _ (0, [some (.ref 172), some (.int a), none], [], _) _
  refine g_aload_n dX7_pause_0 rfl ?_
  refine g_iconstv (v := 0) dX7_pause_1 rfl ?_
  refine g_pI dX7_pause_2 fl_X7_29 (Or.inl rfl) rfl (by decide) rfl ?_
  rw [pe_id h0]
  refine g_aload_n dX7_pause_5 rfl ?_
  refine g_iload_n dX7_pause_6 rfl ?_
  refine g_V1i dX7_pause_7 ml_X7_89 sX7_refusesPause rfl (by decide) (Nat.le_of_ble_eq_true rfl) (H) ?_
  refine g_istore_n dX7_pause_10 (by decide) rfl ?_
  refine g_iload_n dX7_pause_11 rfl ?_
  refine g_if_eq (tgt := 17) dX7_pause_12 (by decide) (fun c12 => absurd c12 hr) (fun c12 => ?_)
  refine g_iload_n dX7_pause_15 rfl ?_
  exact g_iret dX7_pause_16 rfl
set_option maxHeartbeats 4000000 in
set_option maxRecDepth 100000 in
theorem c_mpause_k {L : Nat} {F : Nat → Nat → Int32} {g : Nat → Option Nat} (d : Nat) (h0 : F 172 0 = 0) (a : Int32) (q : Nat) (hq : q ≤ 6) (e3 : F 172 3 = nI q) (r : Int32) (hp1 : mHp) (H : mCall (d + 3) yX7_refusesPause MX7_refusesPause [.ref 172, .int a] (mHX L F g) (some (.int 0)) (mHX L F g)) (H2 : mCall (d + 3) yX7_begins MX7_begins [.ref 172, .int a] (mHX L (xRec F q) g) (some (.int r)) (hp1)) : mCall (d + 4) yX7_pause MX7_pause [.ref 172, .int a] (mHX L F g) (some (.int r)) (hp1) := by
  refine mCall_of sX7_pause.1 (Nat.le_of_ble_eq_true rfl) ⟨_, rfl, rfl⟩ ?_
  show mGo _ _ (0, [some (.ref 172), some (.int a), none], [], _) _
  refine g_aload_n dX7_pause_0 rfl ?_
  refine g_iconstv (v := 0) dX7_pause_1 rfl ?_
  refine g_pI dX7_pause_2 fl_X7_29 (Or.inl rfl) rfl (by decide) rfl ?_
  rw [pe_id h0]
  refine g_aload_n dX7_pause_5 rfl ?_
  refine g_iload_n dX7_pause_6 rfl ?_
  refine g_V1i dX7_pause_7 ml_X7_89 sX7_refusesPause rfl (by decide) (Nat.le_of_ble_eq_true rfl) (H) ?_
  refine g_istore_n dX7_pause_10 (by decide) rfl ?_
  refine g_iload_n dX7_pause_11 rfl ?_
  refine g_if_eq (tgt := 17) dX7_pause_12 (by decide) (fun c12 => ?_) (fun c12 => absurd (by decide) c12)
  refine g_aload_n dX7_pause_17 rfl ?_
  refine g_V0v dX7_pause_18 ml_X7_60 sX7_records rfl (by decide) (Nat.le_of_ble_eq_true rfl) (c_rec (d + 3) q hq e3) ?_
  refine g_aload_n dX7_pause_21 rfl ?_
  refine g_iload_n dX7_pause_22 rfl ?_
  refine g_V1i dX7_pause_23 ml_X7_92 sX7_begins rfl (by decide) (Nat.le_of_ble_eq_true rfl) (H2) ?_
  exact g_iret dX7_pause_26 rfl
set_option maxHeartbeats 4000000 in
set_option maxRecDepth 100000 in
theorem c_mclose_r {L : Nat} {F : Nat → Nat → Int32} {g : Nat → Option Nat} (d : Nat) (h0 : F 172 0 = 0) (a : Int32) (r : Int32) (hr : ¬ r = 0) (H : mCall (d + 3) yX7_refusesClosing MX7_refusesClosing [.ref 172, .int a] (mHX L F g) (some (.int r)) (mHX L F g)) : mCall (d + 4) yX7_close MX7_close [.ref 172, .int a] (mHX L F g) (some (.int r)) (mHX L F g) := by
  refine mCall_of sX7_close.1 (Nat.le_of_ble_eq_true rfl) ⟨_, rfl, rfl⟩ ?_
  show mGo _ _ (0, [some (.ref 172), some (.int a), none], [], _) _
  refine g_aload_n dX7_close_0 rfl ?_
  refine g_iconstv (v := 0) dX7_close_1 rfl ?_
  refine g_pI dX7_close_2 fl_X7_29 (Or.inl rfl) rfl (by decide) rfl ?_
  rw [pe_id h0]
  refine g_aload_n dX7_close_5 rfl ?_
  refine g_iload_n dX7_close_6 rfl ?_
  refine g_V1i dX7_close_7 ml_X7_102 sX7_refusesClosing rfl (by decide) (Nat.le_of_ble_eq_true rfl) (H) ?_
  refine g_istore_n dX7_close_10 (by decide) rfl ?_
  refine g_iload_n dX7_close_11 rfl ?_
  refine g_if_eq (tgt := 17) dX7_close_12 (by decide) (fun c12 => absurd c12 hr) (fun c12 => ?_)
  refine g_iload_n dX7_close_15 rfl ?_
  exact g_iret dX7_close_16 rfl
set_option maxHeartbeats 4000000 in
set_option maxRecDepth 100000 in
theorem c_mclose_k {L : Nat} {F : Nat → Nat → Int32} {g : Nat → Option Nat} (d : Nat) (h0 : F 172 0 = 0) (a : Int32) (q : Nat) (hq : q ≤ 6) (e3 : F 172 3 = nI q) (r : Int32) (hp1 : mHp) (H : mCall (d + 3) yX7_refusesClosing MX7_refusesClosing [.ref 172, .int a] (mHX L F g) (some (.int 0)) (mHX L F g)) (H2 : mCall (d + 3) yX7_closes MX7_closes [.ref 172, .int a] (mHX L (xRec F q) g) (some (.int r)) (hp1)) : mCall (d + 4) yX7_close MX7_close [.ref 172, .int a] (mHX L F g) (some (.int r)) (hp1) := by
  refine mCall_of sX7_close.1 (Nat.le_of_ble_eq_true rfl) ⟨_, rfl, rfl⟩ ?_
  show mGo _ _ (0, [some (.ref 172), some (.int a), none], [], _) _
  refine g_aload_n dX7_close_0 rfl ?_
  refine g_iconstv (v := 0) dX7_close_1 rfl ?_
  refine g_pI dX7_close_2 fl_X7_29 (Or.inl rfl) rfl (by decide) rfl ?_
  rw [pe_id h0]
  refine g_aload_n dX7_close_5 rfl ?_
  refine g_iload_n dX7_close_6 rfl ?_
  refine g_V1i dX7_close_7 ml_X7_102 sX7_refusesClosing rfl (by decide) (Nat.le_of_ble_eq_true rfl) (H) ?_
  refine g_istore_n dX7_close_10 (by decide) rfl ?_
  refine g_iload_n dX7_close_11 rfl ?_
  refine g_if_eq (tgt := 17) dX7_close_12 (by decide) (fun c12 => ?_) (fun c12 => absurd (by decide) c12)
  refine g_aload_n dX7_close_17 rfl ?_
  refine g_V0v dX7_close_18 ml_X7_60 sX7_records rfl (by decide) (Nat.le_of_ble_eq_true rfl) (c_rec (d + 3) q hq e3) ?_
  refine g_aload_n dX7_close_21 rfl ?_
  refine g_iload_n dX7_close_22 rfl ?_
  refine g_V1i dX7_close_23 ml_X7_105 sX7_closes rfl (by decide) (Nat.le_of_ble_eq_true rfl) (H2) ?_
  exact g_iret dX7_close_26 rfl
set_option maxHeartbeats 4000000 in
set_option maxRecDepth 100000 in
theorem c_mword_r {L : Nat} {F : Nat → Nat → Int32} {g : Nat → Option Nat} (d : Nat) (h0 : F 172 0 = 0) (a : Int32) (r : Int32) (hr : ¬ r = 0) (H : mCall (d + 3) yX7_refusesBreak MX7_refusesBreak [.ref 172, .int a] (mHX L F g) (some (.int r)) (mHX L F g)) : mCall (d + 4) yX7_word MX7_word [.ref 172, .int a] (mHX L F g) (some (.int r)) (mHX L F g) := by
  refine mCall_of sX7_word.1 (Nat.le_of_ble_eq_true rfl) ⟨_, rfl, rfl⟩ ?_
  show mGo _ _ (0, [some (.ref 172), some (.int a), none], [], _) _
  refine g_aload_n dX7_word_0 rfl ?_
  refine g_iconstv (v := 0) dX7_word_1 rfl ?_
  refine g_pI dX7_word_2 fl_X7_29 (Or.inl rfl) rfl (by decide) rfl ?_
  rw [pe_id h0]
  refine g_aload_n dX7_word_5 rfl ?_
  refine g_iload_n dX7_word_6 rfl ?_
  refine g_V1i dX7_word_7 ml_X7_111 sX7_refusesBreak rfl (by decide) (Nat.le_of_ble_eq_true rfl) (H) ?_
  refine g_istore_n dX7_word_10 (by decide) rfl ?_
  refine g_iload_n dX7_word_11 rfl ?_
  refine g_if_eq (tgt := 17) dX7_word_12 (by decide) (fun c12 => absurd c12 hr) (fun c12 => ?_)
  refine g_iload_n dX7_word_15 rfl ?_
  exact g_iret dX7_word_16 rfl
set_option maxHeartbeats 4000000 in
set_option maxRecDepth 100000 in
theorem c_mword_k {L : Nat} {F : Nat → Nat → Int32} {g : Nat → Option Nat} (d : Nat) (h0 : F 172 0 = 0) (a : Int32) (q : Nat) (hq : q ≤ 6) (e3 : F 172 3 = nI q) (r : Int32) (hp1 : mHp) (H : mCall (d + 3) yX7_refusesBreak MX7_refusesBreak [.ref 172, .int a] (mHX L F g) (some (.int 0)) (mHX L F g)) (H2 : mCall (d + 3) yX7_speaks MX7_speaks [.ref 172, .int a] (mHX L (xRec F q) g) (some (.int r)) (hp1)) : mCall (d + 4) yX7_word MX7_word [.ref 172, .int a] (mHX L F g) (some (.int r)) (hp1) := by
  refine mCall_of sX7_word.1 (Nat.le_of_ble_eq_true rfl) ⟨_, rfl, rfl⟩ ?_
  show mGo _ _ (0, [some (.ref 172), some (.int a), none], [], _) _
  refine g_aload_n dX7_word_0 rfl ?_
  refine g_iconstv (v := 0) dX7_word_1 rfl ?_
  refine g_pI dX7_word_2 fl_X7_29 (Or.inl rfl) rfl (by decide) rfl ?_
  rw [pe_id h0]
  refine g_aload_n dX7_word_5 rfl ?_
  refine g_iload_n dX7_word_6 rfl ?_
  refine g_V1i dX7_word_7 ml_X7_111 sX7_refusesBreak rfl (by decide) (Nat.le_of_ble_eq_true rfl) (H) ?_
  refine g_istore_n dX7_word_10 (by decide) rfl ?_
  refine g_iload_n dX7_word_11 rfl ?_
  refine g_if_eq (tgt := 17) dX7_word_12 (by decide) (fun c12 => ?_) (fun c12 => absurd (by decide) c12)
  refine g_aload_n dX7_word_17 rfl ?_
  refine g_V0v dX7_word_18 ml_X7_60 sX7_records rfl (by decide) (Nat.le_of_ble_eq_true rfl) (c_rec (d + 3) q hq e3) ?_
  refine g_aload_n dX7_word_21 rfl ?_
  refine g_iload_n dX7_word_22 rfl ?_
  refine g_V1i dX7_word_23 ml_X7_114 sX7_speaks rfl (by decide) (Nat.le_of_ble_eq_true rfl) (H2) ?_
  exact g_iret dX7_word_26 rfl
set_option maxHeartbeats 4000000 in
set_option maxRecDepth 100000 in
theorem c_mcough_r {L : Nat} {F : Nat → Nat → Int32} {g : Nat → Option Nat} (d : Nat) (h0 : F 172 0 = 0) (a : Int32) (r : Int32) (hr : ¬ r = 0) (H : mCall (d + 3) yX7_refusesBreak MX7_refusesBreak [.ref 172, .int a] (mHX L F g) (some (.int r)) (mHX L F g)) : mCall (d + 4) yX7_cough MX7_cough [.ref 172, .int a] (mHX L F g) (some (.int r)) (mHX L F g) := by
  refine mCall_of sX7_cough.1 (Nat.le_of_ble_eq_true rfl) ⟨_, rfl, rfl⟩ ?_
  show mGo _ _ (0, [some (.ref 172), some (.int a), none], [], _) _
  refine g_aload_n dX7_cough_0 rfl ?_
  refine g_iconstv (v := 0) dX7_cough_1 rfl ?_
  refine g_pI dX7_cough_2 fl_X7_29 (Or.inl rfl) rfl (by decide) rfl ?_
  rw [pe_id h0]
  refine g_aload_n dX7_cough_5 rfl ?_
  refine g_iload_n dX7_cough_6 rfl ?_
  refine g_V1i dX7_cough_7 ml_X7_111 sX7_refusesBreak rfl (by decide) (Nat.le_of_ble_eq_true rfl) (H) ?_
  refine g_istore_n dX7_cough_10 (by decide) rfl ?_
  refine g_iload_n dX7_cough_11 rfl ?_
  refine g_if_eq (tgt := 17) dX7_cough_12 (by decide) (fun c12 => absurd c12 hr) (fun c12 => ?_)
  refine g_iload_n dX7_cough_15 rfl ?_
  exact g_iret dX7_cough_16 rfl
set_option maxHeartbeats 4000000 in
set_option maxRecDepth 100000 in
theorem c_mcough_k {L : Nat} {F : Nat → Nat → Int32} {g : Nat → Option Nat} (d : Nat) (h0 : F 172 0 = 0) (a : Int32) (q : Nat) (hq : q ≤ 6) (e3 : F 172 3 = nI q) (r : Int32) (hp1 : mHp) (H : mCall (d + 3) yX7_refusesBreak MX7_refusesBreak [.ref 172, .int a] (mHX L F g) (some (.int 0)) (mHX L F g)) (H2 : mCall (d + 3) yX7_coughs MX7_coughs [.ref 172, .int a] (mHX L (xRec F q) g) (some (.int r)) (hp1)) : mCall (d + 4) yX7_cough MX7_cough [.ref 172, .int a] (mHX L F g) (some (.int r)) (hp1) := by
  refine mCall_of sX7_cough.1 (Nat.le_of_ble_eq_true rfl) ⟨_, rfl, rfl⟩ ?_
  show mGo _ _ (0, [some (.ref 172), some (.int a), none], [], _) _
  refine g_aload_n dX7_cough_0 rfl ?_
  refine g_iconstv (v := 0) dX7_cough_1 rfl ?_
  refine g_pI dX7_cough_2 fl_X7_29 (Or.inl rfl) rfl (by decide) rfl ?_
  rw [pe_id h0]
  refine g_aload_n dX7_cough_5 rfl ?_
  refine g_iload_n dX7_cough_6 rfl ?_
  refine g_V1i dX7_cough_7 ml_X7_111 sX7_refusesBreak rfl (by decide) (Nat.le_of_ble_eq_true rfl) (H) ?_
  refine g_istore_n dX7_cough_10 (by decide) rfl ?_
  refine g_iload_n dX7_cough_11 rfl ?_
  refine g_if_eq (tgt := 17) dX7_cough_12 (by decide) (fun c12 => ?_) (fun c12 => absurd (by decide) c12)
  refine g_aload_n dX7_cough_17 rfl ?_
  refine g_V0v dX7_cough_18 ml_X7_60 sX7_records rfl (by decide) (Nat.le_of_ble_eq_true rfl) (c_rec (d + 3) q hq e3) ?_
  refine g_aload_n dX7_cough_21 rfl ?_
  refine g_iload_n dX7_cough_22 rfl ?_
  refine g_V1i dX7_cough_23 ml_X7_120 sX7_coughs rfl (by decide) (Nat.le_of_ble_eq_true rfl) (H2) ?_
  exact g_iret dX7_cough_26 rfl
set_option maxHeartbeats 4000000 in
set_option maxRecDepth 100000 in
theorem c_mpass_r {L : Nat} {F : Nat → Nat → Int32} {g : Nat → Option Nat} (d : Nat) (h0 : F 172 0 = 0) (a : Int32) (r : Int32) (hr : ¬ r = 0) (H : mCall (d + 3) yX7_refusesSeconds MX7_refusesSeconds [.ref 172, .int a] (mHX L F g) (some (.int r)) (mHX L F g)) : mCall (d + 4) yX7_pass MX7_pass [.ref 172, .int a] (mHX L F g) (some (.int r)) (mHX L F g) := by
  refine mCall_of sX7_pass.1 (Nat.le_of_ble_eq_true rfl) ⟨_, rfl, rfl⟩ ?_
  show mGo _ _ (0, [some (.ref 172), some (.int a), none], [], _) _
  refine g_aload_n dX7_pass_0 rfl ?_
  refine g_iconstv (v := 0) dX7_pass_1 rfl ?_
  refine g_pI dX7_pass_2 fl_X7_29 (Or.inl rfl) rfl (by decide) rfl ?_
  rw [pe_id h0]
  refine g_aload_n dX7_pass_5 rfl ?_
  refine g_iload_n dX7_pass_6 rfl ?_
  refine g_V1i dX7_pass_7 ml_X7_123 sX7_refusesSeconds rfl (by decide) (Nat.le_of_ble_eq_true rfl) (H) ?_
  refine g_istore_n dX7_pass_10 (by decide) rfl ?_
  refine g_iload_n dX7_pass_11 rfl ?_
  refine g_if_eq (tgt := 17) dX7_pass_12 (by decide) (fun c12 => absurd c12 hr) (fun c12 => ?_)
  refine g_iload_n dX7_pass_15 rfl ?_
  exact g_iret dX7_pass_16 rfl
set_option maxHeartbeats 4000000 in
set_option maxRecDepth 100000 in
theorem c_mpass_k {L : Nat} {F : Nat → Nat → Int32} {g : Nat → Option Nat} (d : Nat) (h0 : F 172 0 = 0) (a : Int32) (q : Nat) (hq : q ≤ 6) (e3 : F 172 3 = nI q) (r : Int32) (hp1 : mHp) (H : mCall (d + 3) yX7_refusesSeconds MX7_refusesSeconds [.ref 172, .int a] (mHX L F g) (some (.int 0)) (mHX L F g)) (H2 : mCall (d + 3) yX7_passes MX7_passes [.ref 172, .int a] (mHX L (xRec F q) g) (some (.int r)) (hp1)) : mCall (d + 4) yX7_pass MX7_pass [.ref 172, .int a] (mHX L F g) (some (.int r)) (hp1) := by
  refine mCall_of sX7_pass.1 (Nat.le_of_ble_eq_true rfl) ⟨_, rfl, rfl⟩ ?_
  show mGo _ _ (0, [some (.ref 172), some (.int a), none], [], _) _
  refine g_aload_n dX7_pass_0 rfl ?_
  refine g_iconstv (v := 0) dX7_pass_1 rfl ?_
  refine g_pI dX7_pass_2 fl_X7_29 (Or.inl rfl) rfl (by decide) rfl ?_
  rw [pe_id h0]
  refine g_aload_n dX7_pass_5 rfl ?_
  refine g_iload_n dX7_pass_6 rfl ?_
  refine g_V1i dX7_pass_7 ml_X7_123 sX7_refusesSeconds rfl (by decide) (Nat.le_of_ble_eq_true rfl) (H) ?_
  refine g_istore_n dX7_pass_10 (by decide) rfl ?_
  refine g_iload_n dX7_pass_11 rfl ?_
  refine g_if_eq (tgt := 17) dX7_pass_12 (by decide) (fun c12 => ?_) (fun c12 => absurd (by decide) c12)
  refine g_aload_n dX7_pass_17 rfl ?_
  refine g_V0v dX7_pass_18 ml_X7_60 sX7_records rfl (by decide) (Nat.le_of_ble_eq_true rfl) (c_rec (d + 3) q hq e3) ?_
  refine g_aload_n dX7_pass_21 rfl ?_
  refine g_iload_n dX7_pass_22 rfl ?_
  refine g_V1i dX7_pass_23 ml_X7_126 sX7_passes rfl (by decide) (Nat.le_of_ble_eq_true rfl) (H2) ?_
  exact g_iret dX7_pass_26 rfl
set_option maxHeartbeats 4000000 in
set_option maxRecDepth 100000 in
theorem c_mmove_no {L : Nat} {F : Nat → Nat → Int32} {g : Nat → Option Nat} (d : Nat) (h0 : F 172 0 = 0) (n : Nat) (hm : F 173 5 = nI n) (h10 : n ≤ 10) (x y : Int32) (hb : ¬ (0 ≤ x ∧ x < nI n)) : mCall (d + 4) yX7_move MX7_move [.ref 172, .int x, .int y] (mHX L F g) (some (.int (-1))) (mHX L F g) := by
  refine mCall_of sX7_move.1 (Nat.le_of_ble_eq_true rfl) ⟨_, rfl, rfl⟩ ?_
  show mGo _ _ (0, [some (.ref 172), some (.int x), some (.int y), none], [], _) _
  refine g_aload_n dX7_move_0 rfl ?_
  refine g_iconstv (v := 0) dX7_move_1 rfl ?_
  refine g_pI dX7_move_2 fl_X7_29 (Or.inl rfl) rfl (by decide) rfl ?_
  rw [pe_id h0]
  refine g_aload_n dX7_move_5 rfl ?_
  refine g_iload_n dX7_move_6 rfl ?_
  refine g_V1i dX7_move_7 ml_X7_77 sX7_isGuest rfl (by decide) (Nat.le_of_ble_eq_true rfl) (c_mIs (d + 2) n hm h10 x) ?_
  refine g_if_eq (tgt := 20) dX7_move_10 (by decide) (fun c10 => ?_) (fun c10 => absurd (mbi_f hb) c10)
  refine g_iconstv (v := (-1)) dX7_move_20 rfl ?_
  exact g_iret dX7_move_21 rfl
set_option maxHeartbeats 4000000 in
set_option maxRecDepth 100000 in
theorem c_mmove_notab {L : Nat} {F : Nat → Nat → Int32} {g : Nat → Option Nat} (d : Nat) (h0 : F 172 0 = 0) (n : Nat) (hm : F 173 5 = nI n) (h10 : n ≤ 10) (x y : Int32) (hx : 0 ≤ x ∧ x < nI n) (hb : ¬ (0 ≤ y ∧ y ≤ 2)) : mCall (d + 4) yX7_move MX7_move [.ref 172, .int x, .int y] (mHX L F g) (some (.int (-1))) (mHX L F g) := by
  refine mCall_of sX7_move.1 (Nat.le_of_ble_eq_true rfl) ⟨_, rfl, rfl⟩ ?_
  show mGo _ _ (0, [some (.ref 172), some (.int x), some (.int y), none], [], _) _
  refine g_aload_n dX7_move_0 rfl ?_
  refine g_iconstv (v := 0) dX7_move_1 rfl ?_
  refine g_pI dX7_move_2 fl_X7_29 (Or.inl rfl) rfl (by decide) rfl ?_
  rw [pe_id h0]
  refine g_aload_n dX7_move_5 rfl ?_
  refine g_iload_n dX7_move_6 rfl ?_
  refine g_V1i dX7_move_7 ml_X7_77 sX7_isGuest rfl (by decide) (Nat.le_of_ble_eq_true rfl) (c_mIs (d + 2) n hm h10 x) ?_
  refine g_if_eq (tgt := 20) dX7_move_10 (by decide) (fun c10 => absurd c10 (mbi_n0.mpr hx)) (fun c10 => ?_)
  refine g_iload_n dX7_move_13 rfl ?_
  refine g_S1i dX7_move_14 ml_X7_63 sX7_isTable (Nat.le_of_ble_eq_true rfl) (c_mTab (d + 2) y) ?_
  refine g_if_ne (tgt := 22) dX7_move_17 (by decide) (fun c17 => absurd (mbi_f hb) c17) (fun c17 => ?_)
  refine g_iconstv (v := (-1)) dX7_move_20 rfl ?_
  exact g_iret dX7_move_21 rfl
set_option maxHeartbeats 4000000 in
set_option maxRecDepth 100000 in
theorem c_mmove_gone {L : Nat} {F : Nat → Nat → Int32} {g : Nat → Option Nat} (d : Nat) (h0 : F 172 0 = 0) (n : Nat) (hm : F 173 5 = nI n) (h10 : n ≤ 10) (k : Nat) (hk : k < n) (u : Nat) (hu : u < 3) (hs : mC (F 173) 0 k = (-6)) : mCall (d + 4) yX7_move MX7_move [.ref 172, .int (nI k), .int (nI u)] (mHX L F g) (some (.int (-5))) (mHX L F g) := by
  refine mCall_of sX7_move.1 (Nat.le_of_ble_eq_true rfl) ⟨_, rfl, rfl⟩ ?_
  show mGo _ _ (0, [some (.ref 172), some (.int (nI k)), some (.int (nI u)), none], [], _) _
  have hk0 : 0 ≤ nI k ∧ nI k < nI n := ⟨nI_pos' (by omega), nI_lt hk (by omega)⟩
  have hu0 : 0 ≤ nI u ∧ nI u ≤ 2 := ⟨nI_pos' (by omega), nI_le (b := 2) (by omega) (by decide)⟩
  refine g_aload_n dX7_move_0 rfl ?_
  refine g_iconstv (v := 0) dX7_move_1 rfl ?_
  refine g_pI dX7_move_2 fl_X7_29 (Or.inl rfl) rfl (by decide) rfl ?_
  rw [pe_id h0]
  refine g_aload_n dX7_move_5 rfl ?_
  refine g_iload_n dX7_move_6 rfl ?_
  refine g_V1i dX7_move_7 ml_X7_77 sX7_isGuest rfl (by decide) (Nat.le_of_ble_eq_true rfl) (c_mIs (d + 2) n hm h10 (nI k)) ?_
  refine g_if_eq (tgt := 20) dX7_move_10 (by decide) (fun c10 => absurd c10 (mbi_n0.mpr hk0)) (fun c10 => ?_)
  refine g_iload_n dX7_move_13 rfl ?_
  refine g_S1i dX7_move_14 ml_X7_63 sX7_isTable (Nat.le_of_ble_eq_true rfl) (c_mTab (d + 2) (nI u)) ?_
  refine g_if_ne (tgt := 22) dX7_move_17 (by decide) (fun c17 => ?_) (fun c17 => absurd c17 (mbi_n0.mpr hu0))
  refine g_aload_n dX7_move_22 rfl ?_
  refine g_iload_n dX7_move_23 rfl ?_
  refine g_iconstv (v := 0) dX7_move_24 rfl ?_
  refine g_V2i dX7_move_25 ml_X7_40 sX7_has rfl (by decide) (Nat.le_of_ble_eq_true rfl) (c_has (F := F) (d + 3) k 0 (by omega) (by decide)) ?_
  refine g_istore_n dX7_move_28 (by decide) rfl ?_
  refine g_iload_n dX7_move_29 rfl ?_
  refine g_bipushv (v := (-6)) dX7_move_30 rfl ?_
  refine g_icmp_eq (tgt := 40) dX7_move_32 (by decide) (fun c32 => ?_) (fun c32 => absurd hs c32)
  refine g_bipushv (v := (-5)) dX7_move_40 rfl ?_
  exact g_iret dX7_move_42 rfl
set_option maxHeartbeats 4000000 in
set_option maxRecDepth 100000 in
theorem c_mmove_same {L : Nat} {F : Nat → Nat → Int32} {g : Nat → Option Nat} (d : Nat) (h0 : F 172 0 = 0) (n : Nat) (hm : F 173 5 = nI n) (h10 : n ≤ 10) (k : Nat) (hk : k < n) (u : Nat) (hu : u < 3) (hs : mC (F 173) 0 k = nI u) : mCall (d + 4) yX7_move MX7_move [.ref 172, .int (nI k), .int (nI u)] (mHX L F g) (some (.int (-5))) (mHX L F g) := by
  refine mCall_of sX7_move.1 (Nat.le_of_ble_eq_true rfl) ⟨_, rfl, rfl⟩ ?_
  show mGo _ _ (0, [some (.ref 172), some (.int (nI k)), some (.int (nI u)), none], [], _) _
  have hk0 : 0 ≤ nI k ∧ nI k < nI n := ⟨nI_pos' (by omega), nI_lt hk (by omega)⟩
  have hu0 : 0 ≤ nI u ∧ nI u ≤ 2 := ⟨nI_pos' (by omega), nI_le (b := 2) (by omega) (by decide)⟩
  refine g_aload_n dX7_move_0 rfl ?_
  refine g_iconstv (v := 0) dX7_move_1 rfl ?_
  refine g_pI dX7_move_2 fl_X7_29 (Or.inl rfl) rfl (by decide) rfl ?_
  rw [pe_id h0]
  refine g_aload_n dX7_move_5 rfl ?_
  refine g_iload_n dX7_move_6 rfl ?_
  refine g_V1i dX7_move_7 ml_X7_77 sX7_isGuest rfl (by decide) (Nat.le_of_ble_eq_true rfl) (c_mIs (d + 2) n hm h10 (nI k)) ?_
  refine g_if_eq (tgt := 20) dX7_move_10 (by decide) (fun c10 => absurd c10 (mbi_n0.mpr hk0)) (fun c10 => ?_)
  refine g_iload_n dX7_move_13 rfl ?_
  refine g_S1i dX7_move_14 ml_X7_63 sX7_isTable (Nat.le_of_ble_eq_true rfl) (c_mTab (d + 2) (nI u)) ?_
  refine g_if_ne (tgt := 22) dX7_move_17 (by decide) (fun c17 => ?_) (fun c17 => absurd c17 (mbi_n0.mpr hu0))
  refine g_aload_n dX7_move_22 rfl ?_
  refine g_iload_n dX7_move_23 rfl ?_
  refine g_iconstv (v := 0) dX7_move_24 rfl ?_
  refine g_V2i dX7_move_25 ml_X7_40 sX7_has rfl (by decide) (Nat.le_of_ble_eq_true rfl) (c_has (F := F) (d + 3) k 0 (by omega) (by decide)) ?_
  rw [hs]
  refine g_istore_n dX7_move_28 (by decide) rfl ?_
  refine g_iload_n dX7_move_29 rfl ?_
  refine g_bipushv (v := (-6)) dX7_move_30 rfl ?_
  refine g_icmp_eq (tgt := 40) dX7_move_32 (by decide) (fun c32 => absurd c32 (m_ne6 (by omega))) (fun c32 => ?_)
  refine g_iload_n dX7_move_35 rfl ?_
  refine g_iload_n dX7_move_36 rfl ?_
  refine g_icmp_ne (tgt := 43) dX7_move_37 (by decide) (fun c37 => absurd rfl c37) (fun c37 => ?_)
  refine g_bipushv (v := (-5)) dX7_move_40 rfl ?_
  exact g_iret dX7_move_42 rfl
set_option maxHeartbeats 4000000 in
set_option maxRecDepth 100000 in
theorem c_mmove_k {L : Nat} {F : Nat → Nat → Int32} {g : Nat → Option Nat} (d : Nat) (h0 : F 172 0 = 0) (n : Nat) (hm : F 173 5 = nI n) (h10 : n ≤ 10) (k : Nat) (hk : k < n) (u : Nat) (hu : u < 3) (t : Nat) (ht : t < 3) (htu : t ≠ u) (hs : mC (F 173) 0 k = nI t) (q : Nat) (hq : q ≤ 6) (e3 : F 172 3 = nI q) (r : Int32) (hp1 : mHp) (H2 : mCall (d + 3) yX7_goes MX7_goes [.ref 172, .int (nI k), .int (nI u)] (mHX L (xRec F q) g) (some (.int r)) (hp1)) : mCall (d + 4) yX7_move MX7_move [.ref 172, .int (nI k), .int (nI u)] (mHX L F g) (some (.int (nI t))) (hp1) := by
  refine mCall_of sX7_move.1 (Nat.le_of_ble_eq_true rfl) ⟨_, rfl, rfl⟩ ?_
  show mGo _ _ (0, [some (.ref 172), some (.int (nI k)), some (.int (nI u)), none], [], _) _
  have hk0 : 0 ≤ nI k ∧ nI k < nI n := ⟨nI_pos' (by omega), nI_lt hk (by omega)⟩
  have hu0 : 0 ≤ nI u ∧ nI u ≤ 2 := ⟨nI_pos' (by omega), nI_le (b := 2) (by omega) (by decide)⟩
  refine g_aload_n dX7_move_0 rfl ?_
  refine g_iconstv (v := 0) dX7_move_1 rfl ?_
  refine g_pI dX7_move_2 fl_X7_29 (Or.inl rfl) rfl (by decide) rfl ?_
  rw [pe_id h0]
  refine g_aload_n dX7_move_5 rfl ?_
  refine g_iload_n dX7_move_6 rfl ?_
  refine g_V1i dX7_move_7 ml_X7_77 sX7_isGuest rfl (by decide) (Nat.le_of_ble_eq_true rfl) (c_mIs (d + 2) n hm h10 (nI k)) ?_
  refine g_if_eq (tgt := 20) dX7_move_10 (by decide) (fun c10 => absurd c10 (mbi_n0.mpr hk0)) (fun c10 => ?_)
  refine g_iload_n dX7_move_13 rfl ?_
  refine g_S1i dX7_move_14 ml_X7_63 sX7_isTable (Nat.le_of_ble_eq_true rfl) (c_mTab (d + 2) (nI u)) ?_
  refine g_if_ne (tgt := 22) dX7_move_17 (by decide) (fun c17 => ?_) (fun c17 => absurd c17 (mbi_n0.mpr hu0))
  refine g_aload_n dX7_move_22 rfl ?_
  refine g_iload_n dX7_move_23 rfl ?_
  refine g_iconstv (v := 0) dX7_move_24 rfl ?_
  refine g_V2i dX7_move_25 ml_X7_40 sX7_has rfl (by decide) (Nat.le_of_ble_eq_true rfl) (c_has (F := F) (d + 3) k 0 (by omega) (by decide)) ?_
  rw [hs]
  refine g_istore_n dX7_move_28 (by decide) rfl ?_
  refine g_iload_n dX7_move_29 rfl ?_
  refine g_bipushv (v := (-6)) dX7_move_30 rfl ?_
  refine g_icmp_eq (tgt := 40) dX7_move_32 (by decide) (fun c32 => absurd c32 (m_ne6 (by omega))) (fun c32 => ?_)
  refine g_iload_n dX7_move_35 rfl ?_
  refine g_iload_n dX7_move_36 rfl ?_
  refine g_icmp_ne (tgt := 43) dX7_move_37 (by decide) (fun c37 => ?_) (fun c37 => absurd c37 (fun z => htu ((nI_eq (by omega) (by omega)).mp z)))
  refine g_aload_n dX7_move_43 rfl ?_
  refine g_V0v dX7_move_44 ml_X7_60 sX7_records rfl (by decide) (Nat.le_of_ble_eq_true rfl) (c_rec (d + 3) q hq e3) ?_
  refine g_aload_n dX7_move_47 rfl ?_
  refine g_iload_n dX7_move_48 rfl ?_
  refine g_iload_n dX7_move_49 rfl ?_
  refine g_V2i dX7_move_50 ml_X7_83 sX7_goes rfl (by decide) (Nat.le_of_ble_eq_true rfl) (H2) ?_
  refine g_pop dX7_move_53 rfl ?_
  refine g_iload_n dX7_move_54 rfl ?_
  exact g_iret dX7_move_55 rfl
set_option maxHeartbeats 4000000 in
set_option maxRecDepth 100000 in
theorem c_mof_no {L : Nat} {F : Nat → Nat → Int32} {g : Nat → Option Nat} (d : Nat) (h0 : F 172 0 = 0) (n : Nat) (hm : F 173 5 = nI n) (h10 : n ≤ 10) (x v : Int32) (hb : ¬ (0 ≤ x ∧ x < nI n)) : mCall (d + 4) yX7_of MX7_of [.ref 172, .int x, .int v] (mHX L F g) (some (.int (-1))) (mHX L F g) := by
  refine mCall_of sX7_of.1 (Nat.le_of_ble_eq_true rfl) ⟨_, rfl, rfl⟩ ?_
  show mGo _ _ (0, [some (.ref 172), some (.int x), some (.int v)], [], _) _
  refine g_aload_n dX7_of_0 rfl ?_
  refine g_iconstv (v := 0) dX7_of_1 rfl ?_
  refine g_pI dX7_of_2 fl_X7_29 (Or.inl rfl) rfl (by decide) rfl ?_
  rw [pe_id h0]
  refine g_aload_n dX7_of_5 rfl ?_
  refine g_iload_n dX7_of_6 rfl ?_
  refine g_V1i dX7_of_7 ml_X7_77 sX7_isGuest rfl (by decide) (Nat.le_of_ble_eq_true rfl) (c_mIs (d + 2) n hm h10 x) ?_
  refine g_if_ne (tgt := 17) dX7_of_10 (by decide) (fun c10 => absurd (mbi_f hb) c10) (fun c10 => ?_)
  refine g_iconstv (v := (-1)) dX7_of_13 rfl ?_
  refine g_goto (tgt := 38) dX7_of_14 (by decide) ?_
  exact g_iret dX7_of_38 rfl
set_option maxHeartbeats 4000000 in
set_option maxRecDepth 100000 in
theorem c_mof_bad {L : Nat} {F : Nat → Nat → Int32} {g : Nat → Option Nat} (d : Nat) (h0 : F 172 0 = 0) (n : Nat) (hm : F 173 5 = nI n) (h10 : n ≤ 10) (x v : Int32) (hx : 0 ≤ x ∧ x < nI n) (hb : ¬ (0 ≤ v ∧ v ≤ 6)) : mCall (d + 4) yX7_of MX7_of [.ref 172, .int x, .int v] (mHX L F g) (some (.int (-2))) (mHX L F g) := by
  refine mCall_of sX7_of.1 (Nat.le_of_ble_eq_true rfl) ⟨_, rfl, rfl⟩ ?_
  show mGo _ _ (0, [some (.ref 172), some (.int x), some (.int v)], [], _) _
  refine g_aload_n dX7_of_0 rfl ?_
  refine g_iconstv (v := 0) dX7_of_1 rfl ?_
  refine g_pI dX7_of_2 fl_X7_29 (Or.inl rfl) rfl (by decide) rfl ?_
  rw [pe_id h0]
  refine g_aload_n dX7_of_5 rfl ?_
  refine g_iload_n dX7_of_6 rfl ?_
  refine g_V1i dX7_of_7 ml_X7_77 sX7_isGuest rfl (by decide) (Nat.le_of_ble_eq_true rfl) (c_mIs (d + 2) n hm h10 x) ?_
  refine g_if_ne (tgt := 17) dX7_of_10 (by decide) (fun c10 => ?_) (fun c10 => absurd c10 (mbi_n0.mpr hx))
  refine g_iload_n dX7_of_17 rfl ?_
  refine g_iconstv (v := 0) dX7_of_18 rfl ?_
  refine g_bipushv (v := 6) dX7_of_19 rfl ?_
  refine g_S3i dX7_of_21 ml_X7_33 sX7_in (Nat.le_of_ble_eq_true rfl) (c_in (d + 3) v 0 6) ?_
  refine g_if_eq (tgt := 36) dX7_of_24 (by decide) (fun c24 => ?_) (fun c24 => absurd (mbi_f hb) c24)
  refine g_bipushv (v := (-2)) dX7_of_36 rfl ?_
  exact g_iret dX7_of_38 rfl
set_option maxHeartbeats 4000000 in
set_option maxRecDepth 100000 in
theorem c_tg_0 {L : Nat} {F : Nat → Nat → Int32} {g : Nat → Option Nat} (d : Nat) (n : Nat) (hm : F 173 5 = nI n) (h10 : n ≤ 10) (k : Nat) (hk : k < n) : mCall (d + 3) yX7_tellsGuest MX7_tellsGuest [.ref 172, .int (nI k), .int 0] (mHX L F g) (some (.int (mC (F 173) 0 k))) (mHX L F g) := by
  refine mCall_of sX7_tellsGuest.1 (Nat.le_of_ble_eq_true rfl) ⟨_, rfl, rfl⟩ ?_
  show mGo _ _ (0, [some (.ref 172), some (.int (nI k)), some (.int 0), none], [], _) _
  refine g_iload_n dX7_tellsGuest_0 rfl ?_
  refine g_iconstv (v := 4) dX7_tellsGuest_1 rfl ?_
  refine g_icmp_ge (tgt := 12) dX7_tellsGuest_2 (by decide) (fun c2 => absurd c2 (by decide)) (fun c2 => ?_)
  refine g_aload_n dX7_tellsGuest_5 rfl ?_
  refine g_iload_n dX7_tellsGuest_6 rfl ?_
  refine g_iload_n dX7_tellsGuest_7 rfl ?_
  refine g_V2i dX7_tellsGuest_8 ml_X7_40 sX7_has rfl (by decide) (Nat.le_of_ble_eq_true rfl) (c_has (F := F) (d + 2) k 0 (by omega) (by decide)) ?_
  exact g_iret dX7_tellsGuest_11 rfl
set_option maxHeartbeats 4000000 in
set_option maxRecDepth 100000 in
theorem c_mof_0 {L : Nat} {F : Nat → Nat → Int32} {g : Nat → Option Nat} (d : Nat) (h0 : F 172 0 = 0) (n : Nat) (hm : F 173 5 = nI n) (h10 : n ≤ 10) (k : Nat) (hk : k < n) : mCall (d + 4) yX7_of MX7_of [.ref 172, .int (nI k), .int 0] (mHX L F g) (some (.int (mC (F 173) 0 k))) (mHX L F g) := by
  refine mCall_of sX7_of.1 (Nat.le_of_ble_eq_true rfl) ⟨_, rfl, rfl⟩ ?_
  show mGo _ _ (0, [some (.ref 172), some (.int (nI k)), some (.int 0)], [], _) _
  have hk0 : 0 ≤ nI k ∧ nI k < nI n := ⟨nI_pos' (by omega), nI_lt hk (by omega)⟩
  refine g_aload_n dX7_of_0 rfl ?_
  refine g_iconstv (v := 0) dX7_of_1 rfl ?_
  refine g_pI dX7_of_2 fl_X7_29 (Or.inl rfl) rfl (by decide) rfl ?_
  rw [pe_id h0]
  refine g_aload_n dX7_of_5 rfl ?_
  refine g_iload_n dX7_of_6 rfl ?_
  refine g_V1i dX7_of_7 ml_X7_77 sX7_isGuest rfl (by decide) (Nat.le_of_ble_eq_true rfl) (c_mIs (d + 2) n hm h10 (nI k)) ?_
  refine g_if_ne (tgt := 17) dX7_of_10 (by decide) (fun c10 => ?_) (fun c10 => absurd c10 (mbi_n0.mpr hk0))
  refine g_iload_n dX7_of_17 rfl ?_
  refine g_iconstv (v := 0) dX7_of_18 rfl ?_
  refine g_bipushv (v := 6) dX7_of_19 rfl ?_
  refine g_S3i dX7_of_21 ml_X7_33 sX7_in (Nat.le_of_ble_eq_true rfl) (c_in (d + 3) 0 0 6) ?_
  refine g_if_eq (tgt := 36) dX7_of_24 (by decide) (fun c24 => absurd c24 (mbi_n0.mpr (by decide))) (fun c24 => ?_)
  refine g_aload_n dX7_of_27 rfl ?_
  refine g_iload_n dX7_of_28 rfl ?_
  refine g_iload_n dX7_of_29 rfl ?_
  refine g_V2i dX7_of_30 ml_X7_129 sX7_tellsGuest rfl (by decide) (Nat.le_of_ble_eq_true rfl) (c_tg_0 d n hm h10 k hk) ?_
  refine g_goto (tgt := 38) dX7_of_33 (by decide) ?_
  exact g_iret dX7_of_38 rfl
set_option maxHeartbeats 4000000 in
set_option maxRecDepth 100000 in
theorem c_tg_1 {L : Nat} {F : Nat → Nat → Int32} {g : Nat → Option Nat} (d : Nat) (n : Nat) (hm : F 173 5 = nI n) (h10 : n ≤ 10) (k : Nat) (hk : k < n) : mCall (d + 3) yX7_tellsGuest MX7_tellsGuest [.ref 172, .int (nI k), .int 1] (mHX L F g) (some (.int (mC (F 173) 1 k))) (mHX L F g) := by
  refine mCall_of sX7_tellsGuest.1 (Nat.le_of_ble_eq_true rfl) ⟨_, rfl, rfl⟩ ?_
  show mGo _ _ (0, [some (.ref 172), some (.int (nI k)), some (.int 1), none], [], _) _
  refine g_iload_n dX7_tellsGuest_0 rfl ?_
  refine g_iconstv (v := 4) dX7_tellsGuest_1 rfl ?_
  refine g_icmp_ge (tgt := 12) dX7_tellsGuest_2 (by decide) (fun c2 => absurd c2 (by decide)) (fun c2 => ?_)
  refine g_aload_n dX7_tellsGuest_5 rfl ?_
  refine g_iload_n dX7_tellsGuest_6 rfl ?_
  refine g_iload_n dX7_tellsGuest_7 rfl ?_
  refine g_V2i dX7_tellsGuest_8 ml_X7_40 sX7_has rfl (by decide) (Nat.le_of_ble_eq_true rfl) (c_has (F := F) (d + 2) k 1 (by omega) (by decide)) ?_
  exact g_iret dX7_tellsGuest_11 rfl
set_option maxHeartbeats 4000000 in
set_option maxRecDepth 100000 in
theorem c_mof_1 {L : Nat} {F : Nat → Nat → Int32} {g : Nat → Option Nat} (d : Nat) (h0 : F 172 0 = 0) (n : Nat) (hm : F 173 5 = nI n) (h10 : n ≤ 10) (k : Nat) (hk : k < n) : mCall (d + 4) yX7_of MX7_of [.ref 172, .int (nI k), .int 1] (mHX L F g) (some (.int (mC (F 173) 1 k))) (mHX L F g) := by
  refine mCall_of sX7_of.1 (Nat.le_of_ble_eq_true rfl) ⟨_, rfl, rfl⟩ ?_
  show mGo _ _ (0, [some (.ref 172), some (.int (nI k)), some (.int 1)], [], _) _
  have hk0 : 0 ≤ nI k ∧ nI k < nI n := ⟨nI_pos' (by omega), nI_lt hk (by omega)⟩
  refine g_aload_n dX7_of_0 rfl ?_
  refine g_iconstv (v := 0) dX7_of_1 rfl ?_
  refine g_pI dX7_of_2 fl_X7_29 (Or.inl rfl) rfl (by decide) rfl ?_
  rw [pe_id h0]
  refine g_aload_n dX7_of_5 rfl ?_
  refine g_iload_n dX7_of_6 rfl ?_
  refine g_V1i dX7_of_7 ml_X7_77 sX7_isGuest rfl (by decide) (Nat.le_of_ble_eq_true rfl) (c_mIs (d + 2) n hm h10 (nI k)) ?_
  refine g_if_ne (tgt := 17) dX7_of_10 (by decide) (fun c10 => ?_) (fun c10 => absurd c10 (mbi_n0.mpr hk0))
  refine g_iload_n dX7_of_17 rfl ?_
  refine g_iconstv (v := 0) dX7_of_18 rfl ?_
  refine g_bipushv (v := 6) dX7_of_19 rfl ?_
  refine g_S3i dX7_of_21 ml_X7_33 sX7_in (Nat.le_of_ble_eq_true rfl) (c_in (d + 3) 1 0 6) ?_
  refine g_if_eq (tgt := 36) dX7_of_24 (by decide) (fun c24 => absurd c24 (mbi_n0.mpr (by decide))) (fun c24 => ?_)
  refine g_aload_n dX7_of_27 rfl ?_
  refine g_iload_n dX7_of_28 rfl ?_
  refine g_iload_n dX7_of_29 rfl ?_
  refine g_V2i dX7_of_30 ml_X7_129 sX7_tellsGuest rfl (by decide) (Nat.le_of_ble_eq_true rfl) (c_tg_1 d n hm h10 k hk) ?_
  refine g_goto (tgt := 38) dX7_of_33 (by decide) ?_
  exact g_iret dX7_of_38 rfl
set_option maxHeartbeats 4000000 in
set_option maxRecDepth 100000 in
theorem c_tg_2 {L : Nat} {F : Nat → Nat → Int32} {g : Nat → Option Nat} (d : Nat) (n : Nat) (hm : F 173 5 = nI n) (h10 : n ≤ 10) (k : Nat) (hk : k < n) : mCall (d + 3) yX7_tellsGuest MX7_tellsGuest [.ref 172, .int (nI k), .int 2] (mHX L F g) (some (.int (mC (F 173) 2 k))) (mHX L F g) := by
  refine mCall_of sX7_tellsGuest.1 (Nat.le_of_ble_eq_true rfl) ⟨_, rfl, rfl⟩ ?_
  show mGo _ _ (0, [some (.ref 172), some (.int (nI k)), some (.int 2), none], [], _) _
  refine g_iload_n dX7_tellsGuest_0 rfl ?_
  refine g_iconstv (v := 4) dX7_tellsGuest_1 rfl ?_
  refine g_icmp_ge (tgt := 12) dX7_tellsGuest_2 (by decide) (fun c2 => absurd c2 (by decide)) (fun c2 => ?_)
  refine g_aload_n dX7_tellsGuest_5 rfl ?_
  refine g_iload_n dX7_tellsGuest_6 rfl ?_
  refine g_iload_n dX7_tellsGuest_7 rfl ?_
  refine g_V2i dX7_tellsGuest_8 ml_X7_40 sX7_has rfl (by decide) (Nat.le_of_ble_eq_true rfl) (c_has (F := F) (d + 2) k 2 (by omega) (by decide)) ?_
  exact g_iret dX7_tellsGuest_11 rfl
set_option maxHeartbeats 4000000 in
set_option maxRecDepth 100000 in
theorem c_mof_2 {L : Nat} {F : Nat → Nat → Int32} {g : Nat → Option Nat} (d : Nat) (h0 : F 172 0 = 0) (n : Nat) (hm : F 173 5 = nI n) (h10 : n ≤ 10) (k : Nat) (hk : k < n) : mCall (d + 4) yX7_of MX7_of [.ref 172, .int (nI k), .int 2] (mHX L F g) (some (.int (mC (F 173) 2 k))) (mHX L F g) := by
  refine mCall_of sX7_of.1 (Nat.le_of_ble_eq_true rfl) ⟨_, rfl, rfl⟩ ?_
  show mGo _ _ (0, [some (.ref 172), some (.int (nI k)), some (.int 2)], [], _) _
  have hk0 : 0 ≤ nI k ∧ nI k < nI n := ⟨nI_pos' (by omega), nI_lt hk (by omega)⟩
  refine g_aload_n dX7_of_0 rfl ?_
  refine g_iconstv (v := 0) dX7_of_1 rfl ?_
  refine g_pI dX7_of_2 fl_X7_29 (Or.inl rfl) rfl (by decide) rfl ?_
  rw [pe_id h0]
  refine g_aload_n dX7_of_5 rfl ?_
  refine g_iload_n dX7_of_6 rfl ?_
  refine g_V1i dX7_of_7 ml_X7_77 sX7_isGuest rfl (by decide) (Nat.le_of_ble_eq_true rfl) (c_mIs (d + 2) n hm h10 (nI k)) ?_
  refine g_if_ne (tgt := 17) dX7_of_10 (by decide) (fun c10 => ?_) (fun c10 => absurd c10 (mbi_n0.mpr hk0))
  refine g_iload_n dX7_of_17 rfl ?_
  refine g_iconstv (v := 0) dX7_of_18 rfl ?_
  refine g_bipushv (v := 6) dX7_of_19 rfl ?_
  refine g_S3i dX7_of_21 ml_X7_33 sX7_in (Nat.le_of_ble_eq_true rfl) (c_in (d + 3) 2 0 6) ?_
  refine g_if_eq (tgt := 36) dX7_of_24 (by decide) (fun c24 => absurd c24 (mbi_n0.mpr (by decide))) (fun c24 => ?_)
  refine g_aload_n dX7_of_27 rfl ?_
  refine g_iload_n dX7_of_28 rfl ?_
  refine g_iload_n dX7_of_29 rfl ?_
  refine g_V2i dX7_of_30 ml_X7_129 sX7_tellsGuest rfl (by decide) (Nat.le_of_ble_eq_true rfl) (c_tg_2 d n hm h10 k hk) ?_
  refine g_goto (tgt := 38) dX7_of_33 (by decide) ?_
  exact g_iret dX7_of_38 rfl
set_option maxHeartbeats 4000000 in
set_option maxRecDepth 100000 in
theorem c_tg_3 {L : Nat} {F : Nat → Nat → Int32} {g : Nat → Option Nat} (d : Nat) (n : Nat) (hm : F 173 5 = nI n) (h10 : n ≤ 10) (k : Nat) (hk : k < n) : mCall (d + 3) yX7_tellsGuest MX7_tellsGuest [.ref 172, .int (nI k), .int 3] (mHX L F g) (some (.int (mC (F 173) 3 k))) (mHX L F g) := by
  refine mCall_of sX7_tellsGuest.1 (Nat.le_of_ble_eq_true rfl) ⟨_, rfl, rfl⟩ ?_
  show mGo _ _ (0, [some (.ref 172), some (.int (nI k)), some (.int 3), none], [], _) _
  refine g_iload_n dX7_tellsGuest_0 rfl ?_
  refine g_iconstv (v := 4) dX7_tellsGuest_1 rfl ?_
  refine g_icmp_ge (tgt := 12) dX7_tellsGuest_2 (by decide) (fun c2 => absurd c2 (by decide)) (fun c2 => ?_)
  refine g_aload_n dX7_tellsGuest_5 rfl ?_
  refine g_iload_n dX7_tellsGuest_6 rfl ?_
  refine g_iload_n dX7_tellsGuest_7 rfl ?_
  refine g_V2i dX7_tellsGuest_8 ml_X7_40 sX7_has rfl (by decide) (Nat.le_of_ble_eq_true rfl) (c_has (F := F) (d + 2) k 3 (by omega) (by decide)) ?_
  exact g_iret dX7_tellsGuest_11 rfl
set_option maxHeartbeats 4000000 in
set_option maxRecDepth 100000 in
theorem c_mof_3 {L : Nat} {F : Nat → Nat → Int32} {g : Nat → Option Nat} (d : Nat) (h0 : F 172 0 = 0) (n : Nat) (hm : F 173 5 = nI n) (h10 : n ≤ 10) (k : Nat) (hk : k < n) : mCall (d + 4) yX7_of MX7_of [.ref 172, .int (nI k), .int 3] (mHX L F g) (some (.int (mC (F 173) 3 k))) (mHX L F g) := by
  refine mCall_of sX7_of.1 (Nat.le_of_ble_eq_true rfl) ⟨_, rfl, rfl⟩ ?_
  show mGo _ _ (0, [some (.ref 172), some (.int (nI k)), some (.int 3)], [], _) _
  have hk0 : 0 ≤ nI k ∧ nI k < nI n := ⟨nI_pos' (by omega), nI_lt hk (by omega)⟩
  refine g_aload_n dX7_of_0 rfl ?_
  refine g_iconstv (v := 0) dX7_of_1 rfl ?_
  refine g_pI dX7_of_2 fl_X7_29 (Or.inl rfl) rfl (by decide) rfl ?_
  rw [pe_id h0]
  refine g_aload_n dX7_of_5 rfl ?_
  refine g_iload_n dX7_of_6 rfl ?_
  refine g_V1i dX7_of_7 ml_X7_77 sX7_isGuest rfl (by decide) (Nat.le_of_ble_eq_true rfl) (c_mIs (d + 2) n hm h10 (nI k)) ?_
  refine g_if_ne (tgt := 17) dX7_of_10 (by decide) (fun c10 => ?_) (fun c10 => absurd c10 (mbi_n0.mpr hk0))
  refine g_iload_n dX7_of_17 rfl ?_
  refine g_iconstv (v := 0) dX7_of_18 rfl ?_
  refine g_bipushv (v := 6) dX7_of_19 rfl ?_
  refine g_S3i dX7_of_21 ml_X7_33 sX7_in (Nat.le_of_ble_eq_true rfl) (c_in (d + 3) 3 0 6) ?_
  refine g_if_eq (tgt := 36) dX7_of_24 (by decide) (fun c24 => absurd c24 (mbi_n0.mpr (by decide))) (fun c24 => ?_)
  refine g_aload_n dX7_of_27 rfl ?_
  refine g_iload_n dX7_of_28 rfl ?_
  refine g_iload_n dX7_of_29 rfl ?_
  refine g_V2i dX7_of_30 ml_X7_129 sX7_tellsGuest rfl (by decide) (Nat.le_of_ble_eq_true rfl) (c_tg_3 d n hm h10 k hk) ?_
  refine g_goto (tgt := 38) dX7_of_33 (by decide) ?_
  exact g_iret dX7_of_38 rfl
set_option maxHeartbeats 4000000 in
set_option maxRecDepth 100000 in
theorem c_tg_4 {L : Nat} {F : Nat → Nat → Int32} {g : Nat → Option Nat} (d : Nat) (n : Nat) (hm : F 173 5 = nI n) (h10 : n ≤ 10) (k : Nat) (hk : k < n) : mCall (d + 3) yX7_tellsGuest MX7_tellsGuest [.ref 172, .int (nI k), .int 4] (mHX L F g) (some (.int (mbi (¬ mC (F 173) 0 k = (-6) ∧ oI (mHost (mC (F 173) 0) (mC (F 173) 1) (mC (F 173) 0 k) n) = nI k)))) (mHX L F g) := by
  refine mCall_of sX7_tellsGuest.1 (Nat.le_of_ble_eq_true rfl) ⟨_, rfl, rfl⟩ ?_
  show mGo _ _ (0, [some (.ref 172), some (.int (nI k)), some (.int 4), none], [], _) _
  refine g_iload_n dX7_tellsGuest_0 rfl ?_
  refine g_iconstv (v := 4) dX7_tellsGuest_1 rfl ?_
  refine g_icmp_ge (tgt := 12) dX7_tellsGuest_2 (by decide) (fun c2 => ?_) (fun c2 => absurd (by decide) c2)
  refine g_aload_n dX7_tellsGuest_12 rfl ?_
  refine g_iload_n dX7_tellsGuest_13 rfl ?_
  refine g_iconstv (v := 0) dX7_tellsGuest_14 rfl ?_
  refine g_V2i dX7_tellsGuest_15 ml_X7_40 sX7_has rfl (by decide) (Nat.le_of_ble_eq_true rfl) (c_has (F := F) (d + 2) k 0 (by omega) (by decide)) ?_
  refine g_istore_n dX7_tellsGuest_18 (by decide) rfl ?_
  refine g_iload_n dX7_tellsGuest_19 rfl ?_
  refine g_iconstv (v := 4) dX7_tellsGuest_20 rfl ?_
  refine g_icmp_ne (tgt := 47) dX7_tellsGuest_21 (by decide) (fun c21 => absurd (by decide) c21) (fun c21 => ?_)
  refine g_iload_n dX7_tellsGuest_24 rfl ?_
  refine g_bipushv (v := (-6)) dX7_tellsGuest_25 rfl ?_
  refine g_icmp_eq (tgt := 43) dX7_tellsGuest_27 (by decide) (fun c27 => ?_) (fun c27 => ?_)
  · skip
    refine g_iconstv (v := 0) dX7_tellsGuest_43 rfl ?_
    refine g_goto (tgt := 55) dX7_tellsGuest_44 (by decide) ?_
    exact g_iret dX7_tellsGuest_55 (m_ret (by simp [mbi, c27]))
  · skip
    refine g_aload_n dX7_tellsGuest_30 rfl ?_
    refine g_iload_n dX7_tellsGuest_31 rfl ?_
    refine g_V1i dX7_tellsGuest_32 ml_X7_108 sX7_hostOf rfl (by decide) (Nat.le_of_ble_eq_true rfl) (c_mHost (d + 1) n hm h10 (mC (F 173) 0 k)) ?_
    refine g_iload_n dX7_tellsGuest_35 rfl ?_
    refine g_icmp_ne (tgt := 43) dX7_tellsGuest_36 (by decide) (fun c36 => ?_) (fun c36 => ?_)
    · skip
      refine g_iconstv (v := 0) dX7_tellsGuest_43 rfl ?_
      refine g_goto (tgt := 55) dX7_tellsGuest_44 (by decide) ?_
      exact g_iret dX7_tellsGuest_55 (m_ret (by simp [mbi, c27, c36]))
    · skip
      refine g_iconstv (v := 1) dX7_tellsGuest_39 rfl ?_
      refine g_goto (tgt := 55) dX7_tellsGuest_40 (by decide) ?_
      exact g_iret dX7_tellsGuest_55 (m_ret (by simp [mbi, c27, c36]))
set_option maxHeartbeats 4000000 in
set_option maxRecDepth 100000 in
theorem c_mof_4 {L : Nat} {F : Nat → Nat → Int32} {g : Nat → Option Nat} (d : Nat) (h0 : F 172 0 = 0) (n : Nat) (hm : F 173 5 = nI n) (h10 : n ≤ 10) (k : Nat) (hk : k < n) : mCall (d + 4) yX7_of MX7_of [.ref 172, .int (nI k), .int 4] (mHX L F g) (some (.int (mbi (¬ mC (F 173) 0 k = (-6) ∧ oI (mHost (mC (F 173) 0) (mC (F 173) 1) (mC (F 173) 0 k) n) = nI k)))) (mHX L F g) := by
  refine mCall_of sX7_of.1 (Nat.le_of_ble_eq_true rfl) ⟨_, rfl, rfl⟩ ?_
  show mGo _ _ (0, [some (.ref 172), some (.int (nI k)), some (.int 4)], [], _) _
  have hk0 : 0 ≤ nI k ∧ nI k < nI n := ⟨nI_pos' (by omega), nI_lt hk (by omega)⟩
  refine g_aload_n dX7_of_0 rfl ?_
  refine g_iconstv (v := 0) dX7_of_1 rfl ?_
  refine g_pI dX7_of_2 fl_X7_29 (Or.inl rfl) rfl (by decide) rfl ?_
  rw [pe_id h0]
  refine g_aload_n dX7_of_5 rfl ?_
  refine g_iload_n dX7_of_6 rfl ?_
  refine g_V1i dX7_of_7 ml_X7_77 sX7_isGuest rfl (by decide) (Nat.le_of_ble_eq_true rfl) (c_mIs (d + 2) n hm h10 (nI k)) ?_
  refine g_if_ne (tgt := 17) dX7_of_10 (by decide) (fun c10 => ?_) (fun c10 => absurd c10 (mbi_n0.mpr hk0))
  refine g_iload_n dX7_of_17 rfl ?_
  refine g_iconstv (v := 0) dX7_of_18 rfl ?_
  refine g_bipushv (v := 6) dX7_of_19 rfl ?_
  refine g_S3i dX7_of_21 ml_X7_33 sX7_in (Nat.le_of_ble_eq_true rfl) (c_in (d + 3) 4 0 6) ?_
  refine g_if_eq (tgt := 36) dX7_of_24 (by decide) (fun c24 => absurd c24 (mbi_n0.mpr (by decide))) (fun c24 => ?_)
  refine g_aload_n dX7_of_27 rfl ?_
  refine g_iload_n dX7_of_28 rfl ?_
  refine g_iload_n dX7_of_29 rfl ?_
  refine g_V2i dX7_of_30 ml_X7_129 sX7_tellsGuest rfl (by decide) (Nat.le_of_ble_eq_true rfl) (c_tg_4 d n hm h10 k hk) ?_
  refine g_goto (tgt := 38) dX7_of_33 (by decide) ?_
  exact g_iret dX7_of_38 rfl
set_option maxHeartbeats 4000000 in
set_option maxRecDepth 100000 in
theorem c_tg_5 {L : Nat} {F : Nat → Nat → Int32} {g : Nat → Option Nat} (d : Nat) (n : Nat) (hm : F 173 5 = nI n) (h10 : n ≤ 10) (k : Nat) (hk : k < n) : mCall (d + 3) yX7_tellsGuest MX7_tellsGuest [.ref 172, .int (nI k), .int 5] (mHX L F g) (some (.int (mC (F 173) 4 k))) (mHX L F g) := by
  refine mCall_of sX7_tellsGuest.1 (Nat.le_of_ble_eq_true rfl) ⟨_, rfl, rfl⟩ ?_
  show mGo _ _ (0, [some (.ref 172), some (.int (nI k)), some (.int 5), none], [], _) _
  refine g_iload_n dX7_tellsGuest_0 rfl ?_
  refine g_iconstv (v := 4) dX7_tellsGuest_1 rfl ?_
  refine g_icmp_ge (tgt := 12) dX7_tellsGuest_2 (by decide) (fun c2 => ?_) (fun c2 => absurd (by decide) c2)
  refine g_aload_n dX7_tellsGuest_12 rfl ?_
  refine g_iload_n dX7_tellsGuest_13 rfl ?_
  refine g_iconstv (v := 0) dX7_tellsGuest_14 rfl ?_
  refine g_V2i dX7_tellsGuest_15 ml_X7_40 sX7_has rfl (by decide) (Nat.le_of_ble_eq_true rfl) (c_has (F := F) (d + 2) k 0 (by omega) (by decide)) ?_
  refine g_istore_n dX7_tellsGuest_18 (by decide) rfl ?_
  refine g_iload_n dX7_tellsGuest_19 rfl ?_
  refine g_iconstv (v := 4) dX7_tellsGuest_20 rfl ?_
  refine g_icmp_ne (tgt := 47) dX7_tellsGuest_21 (by decide) (fun c21 => ?_) (fun c21 => absurd c21 (by decide))
  refine g_aload_n dX7_tellsGuest_47 rfl ?_
  refine g_iload_n dX7_tellsGuest_48 rfl ?_
  refine g_iload_n dX7_tellsGuest_49 rfl ?_
  refine g_iconstv (v := 1) dX7_tellsGuest_50 rfl ?_
  refine g_isub dX7_tellsGuest_51 ?_
  refine g_V2i dX7_tellsGuest_52 ml_X7_40 sX7_has rfl (by decide) (Nat.le_of_ble_eq_true rfl) (c_has (d + 2) k 4 (by omega) (by decide)) ?_
  exact g_iret dX7_tellsGuest_55 rfl
set_option maxHeartbeats 4000000 in
set_option maxRecDepth 100000 in
theorem c_mof_5 {L : Nat} {F : Nat → Nat → Int32} {g : Nat → Option Nat} (d : Nat) (h0 : F 172 0 = 0) (n : Nat) (hm : F 173 5 = nI n) (h10 : n ≤ 10) (k : Nat) (hk : k < n) : mCall (d + 4) yX7_of MX7_of [.ref 172, .int (nI k), .int 5] (mHX L F g) (some (.int (mC (F 173) 4 k))) (mHX L F g) := by
  refine mCall_of sX7_of.1 (Nat.le_of_ble_eq_true rfl) ⟨_, rfl, rfl⟩ ?_
  show mGo _ _ (0, [some (.ref 172), some (.int (nI k)), some (.int 5)], [], _) _
  have hk0 : 0 ≤ nI k ∧ nI k < nI n := ⟨nI_pos' (by omega), nI_lt hk (by omega)⟩
  refine g_aload_n dX7_of_0 rfl ?_
  refine g_iconstv (v := 0) dX7_of_1 rfl ?_
  refine g_pI dX7_of_2 fl_X7_29 (Or.inl rfl) rfl (by decide) rfl ?_
  rw [pe_id h0]
  refine g_aload_n dX7_of_5 rfl ?_
  refine g_iload_n dX7_of_6 rfl ?_
  refine g_V1i dX7_of_7 ml_X7_77 sX7_isGuest rfl (by decide) (Nat.le_of_ble_eq_true rfl) (c_mIs (d + 2) n hm h10 (nI k)) ?_
  refine g_if_ne (tgt := 17) dX7_of_10 (by decide) (fun c10 => ?_) (fun c10 => absurd c10 (mbi_n0.mpr hk0))
  refine g_iload_n dX7_of_17 rfl ?_
  refine g_iconstv (v := 0) dX7_of_18 rfl ?_
  refine g_bipushv (v := 6) dX7_of_19 rfl ?_
  refine g_S3i dX7_of_21 ml_X7_33 sX7_in (Nat.le_of_ble_eq_true rfl) (c_in (d + 3) 5 0 6) ?_
  refine g_if_eq (tgt := 36) dX7_of_24 (by decide) (fun c24 => absurd c24 (mbi_n0.mpr (by decide))) (fun c24 => ?_)
  refine g_aload_n dX7_of_27 rfl ?_
  refine g_iload_n dX7_of_28 rfl ?_
  refine g_iload_n dX7_of_29 rfl ?_
  refine g_V2i dX7_of_30 ml_X7_129 sX7_tellsGuest rfl (by decide) (Nat.le_of_ble_eq_true rfl) (c_tg_5 d n hm h10 k hk) ?_
  refine g_goto (tgt := 38) dX7_of_33 (by decide) ?_
  exact g_iret dX7_of_38 rfl
set_option maxHeartbeats 4000000 in
set_option maxRecDepth 100000 in
theorem c_tg_6 {L : Nat} {F : Nat → Nat → Int32} {g : Nat → Option Nat} (d : Nat) (n : Nat) (hm : F 173 5 = nI n) (h10 : n ≤ 10) (k : Nat) (hk : k < n) : mCall (d + 3) yX7_tellsGuest MX7_tellsGuest [.ref 172, .int (nI k), .int 6] (mHX L F g) (some (.int (mC (F 173) 5 k))) (mHX L F g) := by
  refine mCall_of sX7_tellsGuest.1 (Nat.le_of_ble_eq_true rfl) ⟨_, rfl, rfl⟩ ?_
  show mGo _ _ (0, [some (.ref 172), some (.int (nI k)), some (.int 6), none], [], _) _
  refine g_iload_n dX7_tellsGuest_0 rfl ?_
  refine g_iconstv (v := 4) dX7_tellsGuest_1 rfl ?_
  refine g_icmp_ge (tgt := 12) dX7_tellsGuest_2 (by decide) (fun c2 => ?_) (fun c2 => absurd (by decide) c2)
  refine g_aload_n dX7_tellsGuest_12 rfl ?_
  refine g_iload_n dX7_tellsGuest_13 rfl ?_
  refine g_iconstv (v := 0) dX7_tellsGuest_14 rfl ?_
  refine g_V2i dX7_tellsGuest_15 ml_X7_40 sX7_has rfl (by decide) (Nat.le_of_ble_eq_true rfl) (c_has (F := F) (d + 2) k 0 (by omega) (by decide)) ?_
  refine g_istore_n dX7_tellsGuest_18 (by decide) rfl ?_
  refine g_iload_n dX7_tellsGuest_19 rfl ?_
  refine g_iconstv (v := 4) dX7_tellsGuest_20 rfl ?_
  refine g_icmp_ne (tgt := 47) dX7_tellsGuest_21 (by decide) (fun c21 => ?_) (fun c21 => absurd c21 (by decide))
  refine g_aload_n dX7_tellsGuest_47 rfl ?_
  refine g_iload_n dX7_tellsGuest_48 rfl ?_
  refine g_iload_n dX7_tellsGuest_49 rfl ?_
  refine g_iconstv (v := 1) dX7_tellsGuest_50 rfl ?_
  refine g_isub dX7_tellsGuest_51 ?_
  refine g_V2i dX7_tellsGuest_52 ml_X7_40 sX7_has rfl (by decide) (Nat.le_of_ble_eq_true rfl) (c_has (d + 2) k 5 (by omega) (by decide)) ?_
  exact g_iret dX7_tellsGuest_55 rfl
set_option maxHeartbeats 4000000 in
set_option maxRecDepth 100000 in
theorem c_mof_6 {L : Nat} {F : Nat → Nat → Int32} {g : Nat → Option Nat} (d : Nat) (h0 : F 172 0 = 0) (n : Nat) (hm : F 173 5 = nI n) (h10 : n ≤ 10) (k : Nat) (hk : k < n) : mCall (d + 4) yX7_of MX7_of [.ref 172, .int (nI k), .int 6] (mHX L F g) (some (.int (mC (F 173) 5 k))) (mHX L F g) := by
  refine mCall_of sX7_of.1 (Nat.le_of_ble_eq_true rfl) ⟨_, rfl, rfl⟩ ?_
  show mGo _ _ (0, [some (.ref 172), some (.int (nI k)), some (.int 6)], [], _) _
  have hk0 : 0 ≤ nI k ∧ nI k < nI n := ⟨nI_pos' (by omega), nI_lt hk (by omega)⟩
  refine g_aload_n dX7_of_0 rfl ?_
  refine g_iconstv (v := 0) dX7_of_1 rfl ?_
  refine g_pI dX7_of_2 fl_X7_29 (Or.inl rfl) rfl (by decide) rfl ?_
  rw [pe_id h0]
  refine g_aload_n dX7_of_5 rfl ?_
  refine g_iload_n dX7_of_6 rfl ?_
  refine g_V1i dX7_of_7 ml_X7_77 sX7_isGuest rfl (by decide) (Nat.le_of_ble_eq_true rfl) (c_mIs (d + 2) n hm h10 (nI k)) ?_
  refine g_if_ne (tgt := 17) dX7_of_10 (by decide) (fun c10 => ?_) (fun c10 => absurd c10 (mbi_n0.mpr hk0))
  refine g_iload_n dX7_of_17 rfl ?_
  refine g_iconstv (v := 0) dX7_of_18 rfl ?_
  refine g_bipushv (v := 6) dX7_of_19 rfl ?_
  refine g_S3i dX7_of_21 ml_X7_33 sX7_in (Nat.le_of_ble_eq_true rfl) (c_in (d + 3) 6 0 6) ?_
  refine g_if_eq (tgt := 36) dX7_of_24 (by decide) (fun c24 => absurd c24 (mbi_n0.mpr (by decide))) (fun c24 => ?_)
  refine g_aload_n dX7_of_27 rfl ?_
  refine g_iload_n dX7_of_28 rfl ?_
  refine g_iload_n dX7_of_29 rfl ?_
  refine g_V2i dX7_of_30 ml_X7_129 sX7_tellsGuest rfl (by decide) (Nat.le_of_ble_eq_true rfl) (c_tg_6 d n hm h10 k hk) ?_
  refine g_goto (tgt := 38) dX7_of_33 (by decide) ?_
  exact g_iret dX7_of_38 rfl
set_option maxHeartbeats 4000000 in
set_option maxRecDepth 100000 in
theorem c_mtab_no {L : Nat} {F : Nat → Nat → Int32} {g : Nat → Option Nat} (d : Nat) (h0 : F 172 0 = 0) (x v : Int32) (hb : ¬ (0 ≤ x ∧ x ≤ 2)) : mCall (d + 4) yX7_table MX7_table [.ref 172, .int x, .int v] (mHX L F g) (some (.int (-1))) (mHX L F g) := by
  refine mCall_of sX7_table.1 (Nat.le_of_ble_eq_true rfl) ⟨_, rfl, rfl⟩ ?_
  show mGo _ _ (0, [some (.ref 172), some (.int x), some (.int v)], [], _) _
  refine g_aload_n dX7_table_0 rfl ?_
  refine g_iconstv (v := 0) dX7_table_1 rfl ?_
  refine g_pI dX7_table_2 fl_X7_29 (Or.inl rfl) rfl (by decide) rfl ?_
  rw [pe_id h0]
  refine g_iload_n dX7_table_5 rfl ?_
  refine g_S1i dX7_table_6 ml_X7_63 sX7_isTable (Nat.le_of_ble_eq_true rfl) (c_mTab (d + 2) x) ?_
  refine g_if_ne (tgt := 14) dX7_table_9 (by decide) (fun c9 => absurd (mbi_f hb) c9) (fun c9 => ?_)
  refine g_iconstv (v := (-1)) dX7_table_12 rfl ?_
  exact g_iret dX7_table_13 rfl
set_option maxHeartbeats 4000000 in
set_option maxRecDepth 100000 in
theorem c_mtab_bad {L : Nat} {F : Nat → Nat → Int32} {g : Nat → Option Nat} (d : Nat) (h0 : F 172 0 = 0) (x v : Int32) (hx : 0 ≤ x ∧ x ≤ 2) (hw : v.toInt < 0 ∨ 5 < v.toInt) : mCall (d + 4) yX7_table MX7_table [.ref 172, .int x, .int v] (mHX L F g) (some (.int (-2))) (mHX L F g) := by
  refine mCall_of sX7_table.1 (Nat.le_of_ble_eq_true rfl) ⟨_, rfl, rfl⟩ ?_
  show mGo _ _ (0, [some (.ref 172), some (.int x), some (.int v)], [], _) _
  refine g_aload_n dX7_table_0 rfl ?_
  refine g_iconstv (v := 0) dX7_table_1 rfl ?_
  refine g_pI dX7_table_2 fl_X7_29 (Or.inl rfl) rfl (by decide) rfl ?_
  rw [pe_id h0]
  refine g_iload_n dX7_table_5 rfl ?_
  refine g_S1i dX7_table_6 ml_X7_63 sX7_isTable (Nat.le_of_ble_eq_true rfl) (c_mTab (d + 2) x) ?_
  refine g_if_ne (tgt := 14) dX7_table_9 (by decide) (fun c9 => ?_) (fun c9 => absurd c9 (mbi_n0.mpr hx))
  refine g_iload_n dX7_table_14 rfl ?_
  refine g_tabOut (tgt := 113) dX7_table_15 (hw) (by decide) ?_
  refine g_bipushv (v := (-2)) dX7_table_113 rfl ?_
  exact g_iret dX7_table_115 rfl
set_option maxHeartbeats 4000000 in
set_option maxRecDepth 100000 in
theorem c_mtab_0 {L : Nat} {F : Nat → Nat → Int32} {g : Nat → Option Nat} (d : Nat) (h0 : F 172 0 = 0) (n : Nat) (hm : F 173 5 = nI n) (h10 : n ≤ 10) (t : Nat) (ht : t < 3) : mCall (d + 4) yX7_table MX7_table [.ref 172, .int (nI t), .int 0] (mHX L F g) (some (.int (sSet (mC (F 173) 0) (nI t) n))) (mHX L F g) := by
  refine mCall_of sX7_table.1 (Nat.le_of_ble_eq_true rfl) ⟨_, rfl, rfl⟩ ?_
  show mGo _ _ (0, [some (.ref 172), some (.int (nI t)), some (.int 0)], [], _) _
  have ht0 : 0 ≤ nI t ∧ nI t ≤ 2 := ⟨nI_pos' (by omega), nI_le (b := 2) (by omega) (by decide)⟩
  refine g_aload_n dX7_table_0 rfl ?_
  refine g_iconstv (v := 0) dX7_table_1 rfl ?_
  refine g_pI dX7_table_2 fl_X7_29 (Or.inl rfl) rfl (by decide) rfl ?_
  rw [pe_id h0]
  refine g_iload_n dX7_table_5 rfl ?_
  refine g_S1i dX7_table_6 ml_X7_63 sX7_isTable (Nat.le_of_ble_eq_true rfl) (c_mTab (d + 2) (nI t)) ?_
  refine g_if_ne (tgt := 14) dX7_table_9 (by decide) (fun c9 => ?_) (fun c9 => absurd c9 (mbi_n0.mpr ht0))
  refine g_iload_n dX7_table_14 rfl ?_
  refine g_tabIn (off := 37) (tgt := 52) dX7_table_15 (by decide) (by decide) rfl (by decide) ?_
  refine g_aload_n dX7_table_52 rfl ?_
  refine g_iload_n dX7_table_53 rfl ?_
  refine g_V1i dX7_table_54 ml_X7_48 sX7_guestsAt rfl (by decide) (Nat.le_of_ble_eq_true rfl) (c_mSet (d + 2) n hm h10 (nI t)) ?_
  exact g_iret dX7_table_57 rfl
set_option maxHeartbeats 4000000 in
set_option maxRecDepth 100000 in
theorem c_mtab_1 {L : Nat} {F : Nat → Nat → Int32} {g : Nat → Option Nat} (d : Nat) (h0 : F 172 0 = 0) (n : Nat) (hm : F 173 5 = nI n) (h10 : n ≤ 10) (t : Nat) (ht : t < 3) : mCall (d + 4) yX7_table MX7_table [.ref 172, .int (nI t), .int 1] (mHX L F g) (some (.int (oI (mHost (mC (F 173) 0) (mC (F 173) 1) (nI t) n)))) (mHX L F g) := by
  refine mCall_of sX7_table.1 (Nat.le_of_ble_eq_true rfl) ⟨_, rfl, rfl⟩ ?_
  show mGo _ _ (0, [some (.ref 172), some (.int (nI t)), some (.int 1)], [], _) _
  have ht0 : 0 ≤ nI t ∧ nI t ≤ 2 := ⟨nI_pos' (by omega), nI_le (b := 2) (by omega) (by decide)⟩
  refine g_aload_n dX7_table_0 rfl ?_
  refine g_iconstv (v := 0) dX7_table_1 rfl ?_
  refine g_pI dX7_table_2 fl_X7_29 (Or.inl rfl) rfl (by decide) rfl ?_
  rw [pe_id h0]
  refine g_iload_n dX7_table_5 rfl ?_
  refine g_S1i dX7_table_6 ml_X7_63 sX7_isTable (Nat.le_of_ble_eq_true rfl) (c_mTab (d + 2) (nI t)) ?_
  refine g_if_ne (tgt := 14) dX7_table_9 (by decide) (fun c9 => ?_) (fun c9 => absurd c9 (mbi_n0.mpr ht0))
  refine g_iload_n dX7_table_14 rfl ?_
  refine g_tabIn (off := 43) (tgt := 58) dX7_table_15 (by decide) (by decide) rfl (by decide) ?_
  refine g_aload_n dX7_table_58 rfl ?_
  refine g_iload_n dX7_table_59 rfl ?_
  refine g_V1i dX7_table_60 ml_X7_108 sX7_hostOf rfl (by decide) (Nat.le_of_ble_eq_true rfl) (c_mHost (d + 2) n hm h10 (nI t)) ?_
  exact g_iret dX7_table_63 rfl
set_option maxHeartbeats 4000000 in
set_option maxRecDepth 100000 in
theorem c_mtab_2 {L : Nat} {F : Nat → Nat → Int32} {g : Nat → Option Nat} (d : Nat) (h0 : F 172 0 = 0) (n : Nat) (hm : F 173 5 = nI n) (h10 : n ≤ 10) (t : Nat) (ht : t < 3) : mCall (d + 4) yX7_table MX7_table [.ref 172, .int (nI t), .int 2] (mHX L F g) (some (.int (mSC (F 173) n (nI t)))) (mHX L F g) := by
  refine mCall_of sX7_table.1 (Nat.le_of_ble_eq_true rfl) ⟨_, rfl, rfl⟩ ?_
  show mGo _ _ (0, [some (.ref 172), some (.int (nI t)), some (.int 2)], [], _) _
  have ht0 : 0 ≤ nI t ∧ nI t ≤ 2 := ⟨nI_pos' (by omega), nI_le (b := 2) (by omega) (by decide)⟩
  refine g_aload_n dX7_table_0 rfl ?_
  refine g_iconstv (v := 0) dX7_table_1 rfl ?_
  refine g_pI dX7_table_2 fl_X7_29 (Or.inl rfl) rfl (by decide) rfl ?_
  rw [pe_id h0]
  refine g_iload_n dX7_table_5 rfl ?_
  refine g_S1i dX7_table_6 ml_X7_63 sX7_isTable (Nat.le_of_ble_eq_true rfl) (c_mTab (d + 2) (nI t)) ?_
  refine g_if_ne (tgt := 14) dX7_table_9 (by decide) (fun c9 => ?_) (fun c9 => absurd c9 (mbi_n0.mpr ht0))
  refine g_iload_n dX7_table_14 rfl ?_
  refine g_tabIn (off := 49) (tgt := 64) dX7_table_15 (by decide) (by decide) rfl (by decide) ?_
  refine g_aload_n dX7_table_64 rfl ?_
  refine g_aload_n dX7_table_65 rfl ?_
  refine g_iload_n dX7_table_66 rfl ?_
  refine g_V1i dX7_table_67 ml_X7_48 sX7_guestsAt rfl (by decide) (Nat.le_of_ble_eq_true rfl) (c_mSet (d + 2) n hm h10 (nI t)) ?_
  refine g_V1i dX7_table_70 ml_X7_51 sX7_companyOf rfl (by decide) (Nat.le_of_ble_eq_true rfl) (c_mComp (d + 2) n hm h10 (sSet (mC (F 173) 0) (nI t) n)) ?_
  exact g_iret dX7_table_73 rfl
set_option maxHeartbeats 4000000 in
set_option maxRecDepth 100000 in
theorem c_mtab_3 {L : Nat} {F : Nat → Nat → Int32} {g : Nat → Option Nat} (d : Nat) (h0 : F 172 0 = 0) (t : Nat) (ht : t < 3) : mCall (d + 4) yX7_table MX7_table [.ref 172, .int (nI t), .int 3] (mHX L F g) (some (.int (F 173 (10 + t)))) (mHX L F g) := by
  refine mCall_of sX7_table.1 (Nat.le_of_ble_eq_true rfl) ⟨_, rfl, rfl⟩ ?_
  show mGo _ _ (0, [some (.ref 172), some (.int (nI t)), some (.int 3)], [], _) _
  have ht0 : 0 ≤ nI t ∧ nI t ≤ 2 := ⟨nI_pos' (by omega), nI_le (b := 2) (by omega) (by decide)⟩
  refine g_aload_n dX7_table_0 rfl ?_
  refine g_iconstv (v := 0) dX7_table_1 rfl ?_
  refine g_pI dX7_table_2 fl_X7_29 (Or.inl rfl) rfl (by decide) rfl ?_
  rw [pe_id h0]
  refine g_iload_n dX7_table_5 rfl ?_
  refine g_S1i dX7_table_6 ml_X7_63 sX7_isTable (Nat.le_of_ble_eq_true rfl) (c_mTab (d + 2) (nI t)) ?_
  refine g_if_ne (tgt := 14) dX7_table_9 (by decide) (fun c9 => ?_) (fun c9 => absurd c9 (mbi_n0.mpr ht0))
  refine g_iload_n dX7_table_14 rfl ?_
  refine g_tabIn (off := 59) (tgt := 74) dX7_table_15 (by decide) (by decide) rfl (by decide) ?_
  refine g_aload_n dX7_table_74 rfl ?_
  refine g_gR (r := 173) dX7_table_75 fl_X7_7 (fun _ _ => rfl) rfl (by decide) rfl ?_
  refine g_bipushv (v := 10) dX7_table_78 rfl ?_
  refine g_iload_n dX7_table_80 rfl ?_
  refine g_iadd dX7_table_81 ?_
  refine g_ialdN (gx := (10 + t)) dX7_table_82 rfl (by decide) (nI_add 10 t) (by omega) (by decide) ?_
  exact g_iret dX7_table_83 rfl
set_option maxHeartbeats 4000000 in
set_option maxRecDepth 100000 in
theorem c_mtab_4q {L : Nat} {F : Nat → Nat → Int32} {g : Nat → Option Nat} (d : Nat) (h0 : F 172 0 = 0) (t : Nat) (ht : t < 3) (hp : F 173 (10 + t) = (-6)) : mCall (d + 4) yX7_table MX7_table [.ref 172, .int (nI t), .int 4] (mHX L F g) (some (.int (-6))) (mHX L F g) := by
  refine mCall_of sX7_table.1 (Nat.le_of_ble_eq_true rfl) ⟨_, rfl, rfl⟩ ?_
  show mGo _ _ (0, [some (.ref 172), some (.int (nI t)), some (.int 4)], [], _) _
  have ht0 : 0 ≤ nI t ∧ nI t ≤ 2 := ⟨nI_pos' (by omega), nI_le (b := 2) (by omega) (by decide)⟩
  refine g_aload_n dX7_table_0 rfl ?_
  refine g_iconstv (v := 0) dX7_table_1 rfl ?_
  refine g_pI dX7_table_2 fl_X7_29 (Or.inl rfl) rfl (by decide) rfl ?_
  rw [pe_id h0]
  refine g_iload_n dX7_table_5 rfl ?_
  refine g_S1i dX7_table_6 ml_X7_63 sX7_isTable (Nat.le_of_ble_eq_true rfl) (c_mTab (d + 2) (nI t)) ?_
  refine g_if_ne (tgt := 14) dX7_table_9 (by decide) (fun c9 => ?_) (fun c9 => absurd c9 (mbi_n0.mpr ht0))
  refine g_iload_n dX7_table_14 rfl ?_
  refine g_tabIn (off := 69) (tgt := 84) dX7_table_15 (by decide) (by decide) rfl (by decide) ?_
  refine g_aload_n dX7_table_84 rfl ?_
  refine g_iload_n dX7_table_85 rfl ?_
  refine g_V1i dX7_table_86 ml_X7_86 sX7_isPause rfl (by decide) (Nat.le_of_ble_eq_true rfl) (c_mPa (d + 3) t ht) ?_
  refine g_if_eq (tgt := 100) dX7_table_89 (by decide) (fun c89 => ?_) (fun c89 => absurd (mbi_f (fun z => z hp)) c89)
  refine g_bipushv (v := (-6)) dX7_table_100 rfl ?_
  exact g_iret dX7_table_102 rfl
set_option maxHeartbeats 4000000 in
set_option maxRecDepth 100000 in
theorem c_mtab_4 {L : Nat} {F : Nat → Nat → Int32} {g : Nat → Option Nat} (d : Nat) (h0 : F 172 0 = 0) (n : Nat) (hm : F 173 5 = nI n) (h10 : n ≤ 10) (a b c q : Nat) (ea : F 173 0 = nI a) (eb : F 173 1 = nI b) (ha : a ≤ 20) (hb : 1 ≤ b) (hb2 : b ≤ 20) (hq : q ≤ 20000) (hc : c ≤ 4) (t : Nat) (ht : t < 3) (ec : mSC (F 173) n (nI t) = nI c) (eq : F 173 (10 + t) = nI q) : mCall (d + 4) yX7_table MX7_table [.ref 172, .int (nI t), .int 4] (mHX L F g) (some (.int (mMean a b c q))) (mHX L F g) := by
  refine mCall_of sX7_table.1 (Nat.le_of_ble_eq_true rfl) ⟨_, rfl, rfl⟩ ?_
  show mGo _ _ (0, [some (.ref 172), some (.int (nI t)), some (.int 4)], [], _) _
  have ht0 : 0 ≤ nI t ∧ nI t ≤ 2 := ⟨nI_pos' (by omega), nI_le (b := 2) (by omega) (by decide)⟩
  refine g_aload_n dX7_table_0 rfl ?_
  refine g_iconstv (v := 0) dX7_table_1 rfl ?_
  refine g_pI dX7_table_2 fl_X7_29 (Or.inl rfl) rfl (by decide) rfl ?_
  rw [pe_id h0]
  refine g_iload_n dX7_table_5 rfl ?_
  refine g_S1i dX7_table_6 ml_X7_63 sX7_isTable (Nat.le_of_ble_eq_true rfl) (c_mTab (d + 2) (nI t)) ?_
  refine g_if_ne (tgt := 14) dX7_table_9 (by decide) (fun c9 => ?_) (fun c9 => absurd c9 (mbi_n0.mpr ht0))
  refine g_iload_n dX7_table_14 rfl ?_
  refine g_tabIn (off := 69) (tgt := 84) dX7_table_15 (by decide) (by decide) rfl (by decide) ?_
  refine g_aload_n dX7_table_84 rfl ?_
  refine g_iload_n dX7_table_85 rfl ?_
  refine g_V1i dX7_table_86 ml_X7_86 sX7_isPause rfl (by decide) (Nat.le_of_ble_eq_true rfl) (c_mPa (d + 3) t ht) ?_
  refine g_if_eq (tgt := 100) dX7_table_89 (by decide) (fun c89 => absurd c89 (mbi_n0.mpr (by rw [eq]; exact m_ne6 (by omega)))) (fun c89 => ?_)
  refine g_aload_n dX7_table_92 rfl ?_
  refine g_iload_n dX7_table_93 rfl ?_
  refine g_V1i dX7_table_94 ml_X7_95 sX7_meansNow rfl (by decide) (Nat.le_of_ble_eq_true rfl) (c_mNow (d + 1) n hm h10 a b c q ea eb ha hb hb2 hq hc t ht ec eq) ?_
  refine g_goto (tgt := 102) dX7_table_97 (by decide) ?_
  exact g_iret dX7_table_102 rfl
set_option maxHeartbeats 4000000 in
set_option maxRecDepth 100000 in
theorem c_mtab_5 {L : Nat} {F : Nat → Nat → Int32} {g : Nat → Option Nat} (d : Nat) (h0 : F 172 0 = 0) (t : Nat) (ht : t < 3) : mCall (d + 4) yX7_table MX7_table [.ref 172, .int (nI t), .int 5] (mHX L F g) (some (.int (F 173 (13 + t)))) (mHX L F g) := by
  refine mCall_of sX7_table.1 (Nat.le_of_ble_eq_true rfl) ⟨_, rfl, rfl⟩ ?_
  show mGo _ _ (0, [some (.ref 172), some (.int (nI t)), some (.int 5)], [], _) _
  have ht0 : 0 ≤ nI t ∧ nI t ≤ 2 := ⟨nI_pos' (by omega), nI_le (b := 2) (by omega) (by decide)⟩
  refine g_aload_n dX7_table_0 rfl ?_
  refine g_iconstv (v := 0) dX7_table_1 rfl ?_
  refine g_pI dX7_table_2 fl_X7_29 (Or.inl rfl) rfl (by decide) rfl ?_
  rw [pe_id h0]
  refine g_iload_n dX7_table_5 rfl ?_
  refine g_S1i dX7_table_6 ml_X7_63 sX7_isTable (Nat.le_of_ble_eq_true rfl) (c_mTab (d + 2) (nI t)) ?_
  refine g_if_ne (tgt := 14) dX7_table_9 (by decide) (fun c9 => ?_) (fun c9 => absurd c9 (mbi_n0.mpr ht0))
  refine g_iload_n dX7_table_14 rfl ?_
  refine g_tabIn (off := 88) (tgt := 103) dX7_table_15 (by decide) (by decide) rfl (by decide) ?_
  refine g_aload_n dX7_table_103 rfl ?_
  refine g_gR (r := 173) dX7_table_104 fl_X7_7 (fun _ _ => rfl) rfl (by decide) rfl ?_
  refine g_bipushv (v := 13) dX7_table_107 rfl ?_
  refine g_iload_n dX7_table_109 rfl ?_
  refine g_iadd dX7_table_110 ?_
  refine g_ialdN (gx := (13 + t)) dX7_table_111 rfl (by decide) (nI_add 13 t) (by omega) (by decide) ?_
  exact g_iret dX7_table_112 rfl
set_option maxHeartbeats 4000000 in
set_option maxRecDepth 100000 in
theorem c_mmng_no {L : Nat} {F : Nat → Nat → Int32} {g : Nat → Option Nat} (d : Nat) (h0 : F 172 0 = 0) (x v : Int32) (hb : ¬ (1 ≤ x ∧ x ≤ 11)) : mCall (d + 4) yX7_meaning MX7_meaning [.ref 172, .int x, .int v] (mHX L F g) (some (.int (-1))) (mHX L F g) := by
  refine mCall_of sX7_meaning.1 (Nat.le_of_ble_eq_true rfl) ⟨_, rfl, rfl⟩ ?_
  show mGo _ _ (0, [some (.ref 172), some (.int x), some (.int v)], [], _) _
  refine g_aload_n dX7_meaning_0 rfl ?_
  refine g_iconstv (v := 0) dX7_meaning_1 rfl ?_
  refine g_pI dX7_meaning_2 fl_X7_29 (Or.inl rfl) rfl (by decide) rfl ?_
  rw [pe_id h0]
  refine g_iload_n dX7_meaning_5 rfl ?_
  refine g_iconstv (v := 1) dX7_meaning_6 rfl ?_
  refine g_bipushv (v := 11) dX7_meaning_7 rfl ?_
  refine g_S3i dX7_meaning_9 ml_X7_33 sX7_in (Nat.le_of_ble_eq_true rfl) (c_in (d + 3) x 1 11) ?_
  refine g_if_ne (tgt := 17) dX7_meaning_12 (by decide) (fun c12 => absurd (mbi_f hb) c12) (fun c12 => ?_)
  refine g_iconstv (v := (-1)) dX7_meaning_15 rfl ?_
  exact g_iret dX7_meaning_16 rfl
set_option maxHeartbeats 4000000 in
set_option maxRecDepth 100000 in
theorem c_mmng_bad {L : Nat} {F : Nat → Nat → Int32} {g : Nat → Option Nat} (d : Nat) (h0 : F 172 0 = 0) (m : Nat) (h1 : 1 ≤ m) (h11 : m ≤ 11) (v : Int32) (hb : ¬ (0 ≤ v ∧ v ≤ 1)) : mCall (d + 4) yX7_meaning MX7_meaning [.ref 172, .int (nI m), .int v] (mHX L F g) (some (.int (-2))) (mHX L F g) := by
  refine mCall_of sX7_meaning.1 (Nat.le_of_ble_eq_true rfl) ⟨_, rfl, rfl⟩ ?_
  show mGo _ _ (0, [some (.ref 172), some (.int (nI m)), some (.int v)], [], _) _
  have hm0 : 1 ≤ nI m ∧ nI m ≤ 11 := ⟨nI_le (a := 1) h1 (by omega), nI_le (b := 11) h11 (by decide)⟩
  refine g_aload_n dX7_meaning_0 rfl ?_
  refine g_iconstv (v := 0) dX7_meaning_1 rfl ?_
  refine g_pI dX7_meaning_2 fl_X7_29 (Or.inl rfl) rfl (by decide) rfl ?_
  rw [pe_id h0]
  refine g_iload_n dX7_meaning_5 rfl ?_
  refine g_iconstv (v := 1) dX7_meaning_6 rfl ?_
  refine g_bipushv (v := 11) dX7_meaning_7 rfl ?_
  refine g_S3i dX7_meaning_9 ml_X7_33 sX7_in (Nat.le_of_ble_eq_true rfl) (c_in (d + 3) (nI m) 1 11) ?_
  refine g_if_ne (tgt := 17) dX7_meaning_12 (by decide) (fun c12 => ?_) (fun c12 => absurd c12 (mbi_n0.mpr hm0))
  refine g_iload_n dX7_meaning_17 rfl ?_
  refine g_iconstv (v := 0) dX7_meaning_18 rfl ?_
  refine g_iconstv (v := 1) dX7_meaning_19 rfl ?_
  refine g_S3i dX7_meaning_20 ml_X7_33 sX7_in (Nat.le_of_ble_eq_true rfl) (c_in (d + 3) v 0 1) ?_
  refine g_if_eq (tgt := 44) dX7_meaning_23 (by decide) (fun c23 => ?_) (fun c23 => absurd (mbi_f hb) c23)
  refine g_bipushv (v := (-2)) dX7_meaning_44 rfl ?_
  exact g_iret dX7_meaning_46 rfl
set_option maxHeartbeats 4000000 in
set_option maxRecDepth 100000 in
theorem c_mmng_0 {L : Nat} {F : Nat → Nat → Int32} {g : Nat → Option Nat} (d : Nat) (h0 : F 172 0 = 0) (m : Nat) (h1 : 1 ≤ m) (h11 : m ≤ 11) : mCall (d + 4) yX7_meaning MX7_meaning [.ref 172, .int (nI m), .int 0] (mHX L F g) (some (.int (F 173 (16 + 2 * (m - 1) + 0)))) (mHX L F g) := by
  refine mCall_of sX7_meaning.1 (Nat.le_of_ble_eq_true rfl) ⟨_, rfl, rfl⟩ ?_
  show mGo _ _ (0, [some (.ref 172), some (.int (nI m)), some (.int 0)], [], _) _
  have hm0 : 1 ≤ nI m ∧ nI m ≤ 11 := ⟨nI_le (a := 1) h1 (by omega), nI_le (b := 11) h11 (by decide)⟩
  refine g_aload_n dX7_meaning_0 rfl ?_
  refine g_iconstv (v := 0) dX7_meaning_1 rfl ?_
  refine g_pI dX7_meaning_2 fl_X7_29 (Or.inl rfl) rfl (by decide) rfl ?_
  rw [pe_id h0]
  refine g_iload_n dX7_meaning_5 rfl ?_
  refine g_iconstv (v := 1) dX7_meaning_6 rfl ?_
  refine g_bipushv (v := 11) dX7_meaning_7 rfl ?_
  refine g_S3i dX7_meaning_9 ml_X7_33 sX7_in (Nat.le_of_ble_eq_true rfl) (c_in (d + 3) (nI m) 1 11) ?_
  refine g_if_ne (tgt := 17) dX7_meaning_12 (by decide) (fun c12 => ?_) (fun c12 => absurd c12 (mbi_n0.mpr hm0))
  refine g_iload_n dX7_meaning_17 rfl ?_
  refine g_iconstv (v := 0) dX7_meaning_18 rfl ?_
  refine g_iconstv (v := 1) dX7_meaning_19 rfl ?_
  refine g_S3i dX7_meaning_20 ml_X7_33 sX7_in (Nat.le_of_ble_eq_true rfl) (c_in (d + 3) 0 0 1) ?_
  refine g_if_eq (tgt := 44) dX7_meaning_23 (by decide) (fun c23 => absurd c23 (mbi_n0.mpr (by decide))) (fun c23 => ?_)
  refine g_aload_n dX7_meaning_26 rfl ?_
  refine g_gR (r := 173) dX7_meaning_27 fl_X7_7 (fun _ _ => rfl) rfl (by decide) rfl ?_
  refine g_bipushv (v := 16) dX7_meaning_30 rfl ?_
  refine g_iconstv (v := 2) dX7_meaning_32 rfl ?_
  refine g_iload_n dX7_meaning_33 rfl ?_
  refine g_iconstv (v := 1) dX7_meaning_34 rfl ?_
  refine g_isub dX7_meaning_35 ?_
  refine g_imul dX7_meaning_36 ?_
  refine g_iadd dX7_meaning_37 ?_
  refine g_iload_n dX7_meaning_38 rfl ?_
  refine g_iadd dX7_meaning_39 ?_
  refine g_ialdN (gx := (16 + 2 * (m - 1) + 0)) dX7_meaning_40 rfl (by decide) (by rw [show (nI m - 1 : Int32) = nI (m - 1) from pk_sub (b := 1) h1, show (2 : Int32) = nI 2 from rfl, pk_mul, show (16 : Int32) = nI 16 from rfl, nI_add]; exact nI_add _ 0) (by omega) (by decide) ?_
  refine g_goto (tgt := 46) dX7_meaning_41 (by decide) ?_
  exact g_iret dX7_meaning_46 rfl
set_option maxHeartbeats 4000000 in
set_option maxRecDepth 100000 in
theorem c_mmng_1 {L : Nat} {F : Nat → Nat → Int32} {g : Nat → Option Nat} (d : Nat) (h0 : F 172 0 = 0) (m : Nat) (h1 : 1 ≤ m) (h11 : m ≤ 11) : mCall (d + 4) yX7_meaning MX7_meaning [.ref 172, .int (nI m), .int 1] (mHX L F g) (some (.int (F 173 (16 + 2 * (m - 1) + 1)))) (mHX L F g) := by
  refine mCall_of sX7_meaning.1 (Nat.le_of_ble_eq_true rfl) ⟨_, rfl, rfl⟩ ?_
  show mGo _ _ (0, [some (.ref 172), some (.int (nI m)), some (.int 1)], [], _) _
  have hm0 : 1 ≤ nI m ∧ nI m ≤ 11 := ⟨nI_le (a := 1) h1 (by omega), nI_le (b := 11) h11 (by decide)⟩
  refine g_aload_n dX7_meaning_0 rfl ?_
  refine g_iconstv (v := 0) dX7_meaning_1 rfl ?_
  refine g_pI dX7_meaning_2 fl_X7_29 (Or.inl rfl) rfl (by decide) rfl ?_
  rw [pe_id h0]
  refine g_iload_n dX7_meaning_5 rfl ?_
  refine g_iconstv (v := 1) dX7_meaning_6 rfl ?_
  refine g_bipushv (v := 11) dX7_meaning_7 rfl ?_
  refine g_S3i dX7_meaning_9 ml_X7_33 sX7_in (Nat.le_of_ble_eq_true rfl) (c_in (d + 3) (nI m) 1 11) ?_
  refine g_if_ne (tgt := 17) dX7_meaning_12 (by decide) (fun c12 => ?_) (fun c12 => absurd c12 (mbi_n0.mpr hm0))
  refine g_iload_n dX7_meaning_17 rfl ?_
  refine g_iconstv (v := 0) dX7_meaning_18 rfl ?_
  refine g_iconstv (v := 1) dX7_meaning_19 rfl ?_
  refine g_S3i dX7_meaning_20 ml_X7_33 sX7_in (Nat.le_of_ble_eq_true rfl) (c_in (d + 3) 1 0 1) ?_
  refine g_if_eq (tgt := 44) dX7_meaning_23 (by decide) (fun c23 => absurd c23 (mbi_n0.mpr (by decide))) (fun c23 => ?_)
  refine g_aload_n dX7_meaning_26 rfl ?_
  refine g_gR (r := 173) dX7_meaning_27 fl_X7_7 (fun _ _ => rfl) rfl (by decide) rfl ?_
  refine g_bipushv (v := 16) dX7_meaning_30 rfl ?_
  refine g_iconstv (v := 2) dX7_meaning_32 rfl ?_
  refine g_iload_n dX7_meaning_33 rfl ?_
  refine g_iconstv (v := 1) dX7_meaning_34 rfl ?_
  refine g_isub dX7_meaning_35 ?_
  refine g_imul dX7_meaning_36 ?_
  refine g_iadd dX7_meaning_37 ?_
  refine g_iload_n dX7_meaning_38 rfl ?_
  refine g_iadd dX7_meaning_39 ?_
  refine g_ialdN (gx := (16 + 2 * (m - 1) + 1)) dX7_meaning_40 rfl (by decide) (by rw [show (nI m - 1 : Int32) = nI (m - 1) from pk_sub (b := 1) h1, show (2 : Int32) = nI 2 from rfl, pk_mul, show (16 : Int32) = nI 16 from rfl, nI_add]; exact nI_add _ 1) (by omega) (by decide) ?_
  refine g_goto (tgt := 46) dX7_meaning_41 (by decide) ?_
  exact g_iret dX7_meaning_46 rfl
theorem m_lt1 {x : Int32} {e : Nat} (h : e ≤ 10) : x ≤ nI e - 1 ↔ x < nI e := by
  rw [i_le, i_lt, i_sub1 h, i_n (by omega)]
  omega
set_option maxHeartbeats 4000000 in
set_option maxRecDepth 100000 in
theorem c_mtel_no {L : Nat} {F : Nat → Nat → Int32} {g : Nat → Option Nat} (d : Nat) (h0 : F 172 0 = 0) (e : Nat) (he : e ≤ 10) (ee : F 173 9 = nI e) (x v : Int32) (hb : ¬ (0 ≤ x ∧ x < nI e)) : mCall (d + 4) yX7_end MX7_end [.ref 172, .int x, .int v] (mHX L F g) (some (.int (-1))) (mHX L F g) := by
  refine mCall_of sX7_end.1 (Nat.le_of_ble_eq_true rfl) ⟨_, rfl, rfl⟩ ?_
  show mGo _ _ (0, [some (.ref 172), some (.int x), some (.int v)], [], _) _
  refine g_aload_n dX7_end_0 rfl ?_
  refine g_iconstv (v := 0) dX7_end_1 rfl ?_
  refine g_pI dX7_end_2 fl_X7_29 (Or.inl rfl) rfl (by decide) rfl ?_
  rw [pe_id h0]
  refine g_iload_n dX7_end_5 rfl ?_
  refine g_iconstv (v := 0) dX7_end_6 rfl ?_
  refine g_aload_n dX7_end_7 rfl ?_
  refine g_gR (r := 173) dX7_end_8 fl_X7_7 (fun _ _ => rfl) rfl (by decide) rfl ?_
  refine g_bipushv (v := 9) dX7_end_11 rfl ?_
  refine g_ialdN (gx := 9) dX7_end_13 rfl (by decide) rfl (by omega) (by decide) ?_
  refine g_iconstv (v := 1) dX7_end_14 rfl ?_
  refine g_isub dX7_end_15 ?_
  refine g_S3i dX7_end_16 ml_X7_33 sX7_in (Nat.le_of_ble_eq_true rfl) (c_in (d + 3) x 0 (F 173 9 - 1)) ?_
  refine g_if_ne (tgt := 24) dX7_end_19 (by decide) (fun c19 => absurd (mbi_f (by rw [ee, m_lt1 he]; exact hb)) c19) (fun c19 => ?_)
  refine g_iconstv (v := (-1)) dX7_end_22 rfl ?_
  exact g_iret dX7_end_23 rfl
set_option maxHeartbeats 4000000 in
set_option maxRecDepth 100000 in
theorem c_mtel_bad {L : Nat} {F : Nat → Nat → Int32} {g : Nat → Option Nat} (d : Nat) (h0 : F 172 0 = 0) (e : Nat) (he : e ≤ 10) (ee : F 173 9 = nI e) (r : Nat) (hr : r < e) (v : Int32) (hb : ¬ (0 ≤ v ∧ v ≤ 4)) : mCall (d + 4) yX7_end MX7_end [.ref 172, .int (nI r), .int v] (mHX L F g) (some (.int (-2))) (mHX L F g) := by
  refine mCall_of sX7_end.1 (Nat.le_of_ble_eq_true rfl) ⟨_, rfl, rfl⟩ ?_
  show mGo _ _ (0, [some (.ref 172), some (.int (nI r)), some (.int v)], [], _) _
  have hr0 : 0 ≤ nI r ∧ nI r < nI e := ⟨nI_pos' (by omega), nI_lt hr (by omega)⟩
  refine g_aload_n dX7_end_0 rfl ?_
  refine g_iconstv (v := 0) dX7_end_1 rfl ?_
  refine g_pI dX7_end_2 fl_X7_29 (Or.inl rfl) rfl (by decide) rfl ?_
  rw [pe_id h0]
  refine g_iload_n dX7_end_5 rfl ?_
  refine g_iconstv (v := 0) dX7_end_6 rfl ?_
  refine g_aload_n dX7_end_7 rfl ?_
  refine g_gR (r := 173) dX7_end_8 fl_X7_7 (fun _ _ => rfl) rfl (by decide) rfl ?_
  refine g_bipushv (v := 9) dX7_end_11 rfl ?_
  refine g_ialdN (gx := 9) dX7_end_13 rfl (by decide) rfl (by omega) (by decide) ?_
  refine g_iconstv (v := 1) dX7_end_14 rfl ?_
  refine g_isub dX7_end_15 ?_
  refine g_S3i dX7_end_16 ml_X7_33 sX7_in (Nat.le_of_ble_eq_true rfl) (c_in (d + 3) (nI r) 0 (F 173 9 - 1)) ?_
  refine g_if_ne (tgt := 24) dX7_end_19 (by decide) (fun c19 => ?_) (fun c19 => absurd c19 (mbi_n0.mpr (by rw [ee, m_lt1 he]; exact hr0)))
  refine g_iload_n dX7_end_24 rfl ?_
  refine g_iconstv (v := 0) dX7_end_25 rfl ?_
  refine g_iconstv (v := 4) dX7_end_26 rfl ?_
  refine g_S3i dX7_end_27 ml_X7_33 sX7_in (Nat.le_of_ble_eq_true rfl) (c_in (d + 3) v 0 4) ?_
  refine g_if_eq (tgt := 59) dX7_end_30 (by decide) (fun c30 => ?_) (fun c30 => absurd (mbi_f hb) c30)
  refine g_bipushv (v := (-2)) dX7_end_59 rfl ?_
  exact g_iret dX7_end_61 rfl
set_option maxHeartbeats 4000000 in
set_option maxRecDepth 100000 in
theorem c_mtel_ok {L : Nat} {F : Nat → Nat → Int32} {g : Nat → Option Nat} (d : Nat) (h0 : F 172 0 = 0) (e : Nat) (he : e ≤ 10) (ee : F 173 9 = nI e) (r : Nat) (hr : r < e) (w : Nat) (hw : w < 5) : mCall (d + 4) yX7_end MX7_end [.ref 172, .int (nI r), .int (nI w)] (mHX L F g) (some (.int (F 173 (38 + 5 * (e - 1 - r) + w)))) (mHX L F g) := by
  refine mCall_of sX7_end.1 (Nat.le_of_ble_eq_true rfl) ⟨_, rfl, rfl⟩ ?_
  show mGo _ _ (0, [some (.ref 172), some (.int (nI r)), some (.int (nI w))], [], _) _
  have hr0 : 0 ≤ nI r ∧ nI r < nI e := ⟨nI_pos' (by omega), nI_lt hr (by omega)⟩
  refine g_aload_n dX7_end_0 rfl ?_
  refine g_iconstv (v := 0) dX7_end_1 rfl ?_
  refine g_pI dX7_end_2 fl_X7_29 (Or.inl rfl) rfl (by decide) rfl ?_
  rw [pe_id h0]
  refine g_iload_n dX7_end_5 rfl ?_
  refine g_iconstv (v := 0) dX7_end_6 rfl ?_
  refine g_aload_n dX7_end_7 rfl ?_
  refine g_gR (r := 173) dX7_end_8 fl_X7_7 (fun _ _ => rfl) rfl (by decide) rfl ?_
  refine g_bipushv (v := 9) dX7_end_11 rfl ?_
  refine g_ialdN (gx := 9) dX7_end_13 rfl (by decide) rfl (by omega) (by decide) ?_
  refine g_iconstv (v := 1) dX7_end_14 rfl ?_
  refine g_isub dX7_end_15 ?_
  refine g_S3i dX7_end_16 ml_X7_33 sX7_in (Nat.le_of_ble_eq_true rfl) (c_in (d + 3) (nI r) 0 (F 173 9 - 1)) ?_
  refine g_if_ne (tgt := 24) dX7_end_19 (by decide) (fun c19 => ?_) (fun c19 => absurd c19 (mbi_n0.mpr (by rw [ee, m_lt1 he]; exact hr0)))
  refine g_iload_n dX7_end_24 rfl ?_
  refine g_iconstv (v := 0) dX7_end_25 rfl ?_
  refine g_iconstv (v := 4) dX7_end_26 rfl ?_
  refine g_S3i dX7_end_27 ml_X7_33 sX7_in (Nat.le_of_ble_eq_true rfl) (c_in (d + 3) (nI w) 0 4) ?_
  refine g_if_eq (tgt := 59) dX7_end_30 (by decide) (fun c30 => absurd c30 (mbi_n0.mpr ⟨nI_pos' (by omega), nI_le (b := 4) (by omega) (by decide)⟩)) (fun c30 => ?_)
  refine g_aload_n dX7_end_33 rfl ?_
  refine g_gR (r := 173) dX7_end_34 fl_X7_7 (fun _ _ => rfl) rfl (by decide) rfl ?_
  refine g_bipushv (v := 38) dX7_end_37 rfl ?_
  refine g_iconstv (v := 5) dX7_end_39 rfl ?_
  refine g_aload_n dX7_end_40 rfl ?_
  refine g_gR (r := 173) dX7_end_41 fl_X7_7 (fun _ _ => rfl) rfl (by decide) rfl ?_
  refine g_bipushv (v := 9) dX7_end_44 rfl ?_
  refine g_ialdN (gx := 9) dX7_end_46 rfl (by decide) rfl (by omega) (by decide) ?_
  refine g_iconstv (v := 1) dX7_end_47 rfl ?_
  refine g_isub dX7_end_48 ?_
  refine g_iload_n dX7_end_49 rfl ?_
  refine g_isub dX7_end_50 ?_
  refine g_imul dX7_end_51 ?_
  refine g_iadd dX7_end_52 ?_
  refine g_iload_n dX7_end_53 rfl ?_
  refine g_iadd dX7_end_54 ?_
  refine g_ialdN (gx := (38 + 5 * (e - 1 - r) + w)) dX7_end_55 rfl (by decide) (by rw [ee, show (nI e - 1 : Int32) = nI (e - 1) from pk_sub (b := 1) (by omega), pk_sub (show r ≤ e - 1 by omega), show (5 : Int32) = nI 5 from rfl, pk_mul, show (38 : Int32) = nI 38 from rfl, nI_add, nI_add]) (by omega) (by decide) ?_
  refine g_goto (tgt := 61) dX7_end_56 (by decide) ?_
  exact g_iret dX7_end_61 rfl
