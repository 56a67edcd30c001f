set_option maxHeartbeats 4000000 in
set_option maxRecDepth 100000 in
theorem c_err_no {L : Nat} {F : Nat → Nat → Int32} {g : Nat → Option Nat} (d : Nat) (x : Int32) (hb : ¬ (0 ≤ x ∧ x < F 7 0)) : mCall (d + 1) yX4_errorOfBreak MX4_errorOfBreak [.ref 5, .int x] (mHX L F g) (some (.int (-1))) (mHX L F g) := by
  refine mCall_of sX4_errorOfBreak.1 (Nat.le_of_ble_eq_true rfl) ⟨_, rfl, rfl⟩ ?_
  show mGo _ _ (0, [some (.ref 5), some (.int x), none], [], _) _
  refine g_aload_n dX4_errorOfBreak_0 rfl ?_
  refine g_gR (r := 7) dX4_errorOfBreak_1 fl_X4_30 (fun _ _ => rfl) rfl (by decide) rfl ?_
  refine g_iload_n dX4_errorOfBreak_4 rfl ?_
  refine g_V1i dX4_errorOfBreak_5 ml_X4_71 sX0_isKnown rfl (by decide) (Nat.le_of_ble_eq_true rfl) (c_isKnown d x) ?_
  refine g_if_ne (tgt := 13) dX4_errorOfBreak_8 (by decide) (fun c8 => absurd (mbi_f hb) c8) (fun c8 => ?_)
  refine g_iconstv (v := (-1)) dX4_errorOfBreak_11 rfl ?_
  exact g_iret dX4_errorOfBreak_12 rfl
set_option maxHeartbeats 4000000 in
set_option maxRecDepth 100000 in
theorem c_err_gone {L : Nat} {F : Nat → Nat → Int32} {g : Nat → Option Nat} (d : Nat) (n : Nat) (hn : F 7 0 = nI n) (h10 : n ≤ 10) (k : Nat) (hk : k < n) (hs : F 8 k = (-6)) : mCall (d + 1) yX4_errorOfBreak MX4_errorOfBreak [.ref 5, .int (nI k)] (mHX L F g) (some (.int (-5))) (mHX L F g) := by
  refine mCall_of sX4_errorOfBreak.1 (Nat.le_of_ble_eq_true rfl) ⟨_, rfl, rfl⟩ ?_
  show mGo _ _ (0, [some (.ref 5), some (.int (nI k)), none], [], _) _
  have hk0 : 0 ≤ nI k ∧ nI k < F 7 0 := ⟨nI_pos' (by omega), by rw [hn]; exact nI_lt hk (by omega)⟩
  refine g_aload_n dX4_errorOfBreak_0 rfl ?_
  refine g_gR (r := 7) dX4_errorOfBreak_1 fl_X4_30 (fun _ _ => rfl) rfl (by decide) rfl ?_
  refine g_iload_n dX4_errorOfBreak_4 rfl ?_
  refine g_V1i dX4_errorOfBreak_5 ml_X4_71 sX0_isKnown rfl (by decide) (Nat.le_of_ble_eq_true rfl) (c_isKnown d (nI k)) ?_
  refine g_if_ne (tgt := 13) dX4_errorOfBreak_8 (by decide) (fun c8 => ?_) (fun c8 => absurd c8 (mbi_n0.mpr hk0))
  refine g_aload_n dX4_errorOfBreak_13 rfl ?_
  refine g_gR (r := 7) dX4_errorOfBreak_14 fl_X4_30 (fun _ _ => rfl) rfl (by decide) rfl ?_
  refine g_gR (r := 8) dX4_errorOfBreak_17 fl_X4_74 (fun _ _ => rfl) rfl (by decide) rfl ?_
  refine g_iload_n dX4_errorOfBreak_20 rfl ?_
  refine g_ialdN (gx := k) dX4_errorOfBreak_21 rfl (by decide) rfl (by omega) (by decide) ?_
  rw [hs]
  refine g_istore_n dX4_errorOfBreak_22 (by decide) rfl ?_
  refine g_iload_n dX4_errorOfBreak_23 rfl ?_
  refine g_SN1i dX4_errorOfBreak_24 ml_X4_63 sX6_isTable (Nat.le_of_ble_eq_true rfl) (c_isTable d (-6)) ?_
  refine g_if_eq (tgt := 45) dX4_errorOfBreak_27 (by decide) (fun c27 => ?_) (fun c27 => absurd (mbi_f (by decide)) c27)
  refine g_bipushv (v := (-5)) dX4_errorOfBreak_45 rfl ?_
  exact g_iret dX4_errorOfBreak_47 rfl
set_option maxHeartbeats 4000000 in
set_option maxRecDepth 100000 in
theorem c_err_quiet {L : Nat} {F : Nat → Nat → Int32} {g : Nat → Option Nat} (d : Nat) (n : Nat) (hn : F 7 0 = nI n) (h10 : n ≤ 10) (k : Nat) (hk : k < n) (t : Nat) (ht : t < 3) (hs : F 8 k = nI t) (hp : F 19 t = (-6)) : mCall (d + 1) yX4_errorOfBreak MX4_errorOfBreak [.ref 5, .int (nI k)] (mHX L F g) (some (.int (-5))) (mHX L F g) := by
  refine mCall_of sX4_errorOfBreak.1 (Nat.le_of_ble_eq_true rfl) ⟨_, rfl, rfl⟩ ?_
  show mGo _ _ (0, [some (.ref 5), some (.int (nI k)), none], [], _) _
  have hk0 : 0 ≤ nI k ∧ nI k < F 7 0 := ⟨nI_pos' (by omega), by rw [hn]; exact nI_lt hk (by omega)⟩
  have ht0 : 0 ≤ nI t ∧ nI t < 3 := ⟨nI_pos' (by omega), nI_lt (b := 3) ht (by decide)⟩
  refine g_aload_n dX4_errorOfBreak_0 rfl ?_
  refine g_gR (r := 7) dX4_errorOfBreak_1 fl_X4_30 (fun _ _ => rfl) rfl (by decide) rfl ?_
  refine g_iload_n dX4_errorOfBreak_4 rfl ?_
  refine g_V1i dX4_errorOfBreak_5 ml_X4_71 sX0_isKnown rfl (by decide) (Nat.le_of_ble_eq_true rfl) (c_isKnown d (nI k)) ?_
  refine g_if_ne (tgt := 13) dX4_errorOfBreak_8 (by decide) (fun c8 => ?_) (fun c8 => absurd c8 (mbi_n0.mpr hk0))
  refine g_aload_n dX4_errorOfBreak_13 rfl ?_
  refine g_gR (r := 7) dX4_errorOfBreak_14 fl_X4_30 (fun _ _ => rfl) rfl (by decide) rfl ?_
  refine g_gR (r := 8) dX4_errorOfBreak_17 fl_X4_74 (fun _ _ => rfl) rfl (by decide) rfl ?_
  refine g_iload_n dX4_errorOfBreak_20 rfl ?_
  refine g_ialdN (gx := k) dX4_errorOfBreak_21 rfl (by decide) rfl (by omega) (by decide) ?_
  rw [hs]
  refine g_istore_n dX4_errorOfBreak_22 (by decide) rfl ?_
  refine g_iload_n dX4_errorOfBreak_23 rfl ?_
  refine g_SN1i dX4_errorOfBreak_24 ml_X4_63 sX6_isTable (Nat.le_of_ble_eq_true rfl) (c_isTable d (nI t)) ?_
  refine g_if_eq (tgt := 45) dX4_errorOfBreak_27 (by decide) (fun c27 => absurd c27 (mbi_n0.mpr ht0)) (fun c27 => ?_)
  refine g_aload_n dX4_errorOfBreak_30 rfl ?_
  refine g_gR (r := 19) dX4_errorOfBreak_31 fl_X4_41 (fun _ _ => rfl) rfl (by decide) rfl ?_
  refine g_iload_n dX4_errorOfBreak_34 rfl ?_
  refine g_ialdN (gx := t) dX4_errorOfBreak_35 rfl (by decide) rfl (by omega) (by decide) ?_
  refine g_bipushv (v := (-6)) dX4_errorOfBreak_36 rfl ?_
  refine g_icmp_eq (tgt := 45) dX4_errorOfBreak_38 (by decide) (fun c38 => ?_) (fun c38 => absurd hp c38)
  refine g_bipushv (v := (-5)) dX4_errorOfBreak_45 rfl ?_
  exact g_iret dX4_errorOfBreak_47 rfl
set_option maxHeartbeats 4000000 in
set_option maxRecDepth 100000 in
theorem c_err_ok {L : Nat} {F : Nat → Nat → Int32} {g : Nat → Option Nat} (d : Nat) (n : Nat) (hn : F 7 0 = nI n) (h10 : n ≤ 10) (k : Nat) (hk : k < n) (t : Nat) (ht : t < 3) (hs : F 8 k = nI t) (hp : ¬ F 19 t = (-6)) : mCall (d + 1) yX4_errorOfBreak MX4_errorOfBreak [.ref 5, .int (nI k)] (mHX L F g) (some (.int 0)) (mHX L F g) := by
  refine mCall_of sX4_errorOfBreak.1 (Nat.le_of_ble_eq_true rfl) ⟨_, rfl, rfl⟩ ?_
  show mGo _ _ (0, [some (.ref 5), some (.int (nI k)), none], [], _) _
  have hk0 : 0 ≤ nI k ∧ nI k < F 7 0 := ⟨nI_pos' (by omega), by rw [hn]; exact nI_lt hk (by omega)⟩
  have ht0 : 0 ≤ nI t ∧ nI t < 3 := ⟨nI_pos' (by omega), nI_lt (b := 3) ht (by decide)⟩
  refine g_aload_n dX4_errorOfBreak_0 rfl ?_
  refine g_gR (r := 7) dX4_errorOfBreak_1 fl_X4_30 (fun _ _ => rfl) rfl (by decide) rfl ?_
  refine g_iload_n dX4_errorOfBreak_4 rfl ?_
  refine g_V1i dX4_errorOfBreak_5 ml_X4_71 sX0_isKnown rfl (by decide) (Nat.le_of_ble_eq_true rfl) (c_isKnown d (nI k)) ?_
  refine g_if_ne (tgt := 13) dX4_errorOfBreak_8 (by decide) (fun c8 => ?_) (fun c8 => absurd c8 (mbi_n0.mpr hk0))
  refine g_aload_n dX4_errorOfBreak_13 rfl ?_
  refine g_gR (r := 7) dX4_errorOfBreak_14 fl_X4_30 (fun _ _ => rfl) rfl (by decide) rfl ?_
  refine g_gR (r := 8) dX4_errorOfBreak_17 fl_X4_74 (fun _ _ => rfl) rfl (by decide) rfl ?_
  refine g_iload_n dX4_errorOfBreak_20 rfl ?_
  refine g_ialdN (gx := k) dX4_errorOfBreak_21 rfl (by decide) rfl (by omega) (by decide) ?_
  rw [hs]
  refine g_istore_n dX4_errorOfBreak_22 (by decide) rfl ?_
  refine g_iload_n dX4_errorOfBreak_23 rfl ?_
  refine g_SN1i dX4_errorOfBreak_24 ml_X4_63 sX6_isTable (Nat.le_of_ble_eq_true rfl) (c_isTable d (nI t)) ?_
  refine g_if_eq (tgt := 45) dX4_errorOfBreak_27 (by decide) (fun c27 => absurd c27 (mbi_n0.mpr ht0)) (fun c27 => ?_)
  refine g_aload_n dX4_errorOfBreak_30 rfl ?_
  refine g_gR (r := 19) dX4_errorOfBreak_31 fl_X4_41 (fun _ _ => rfl) rfl (by decide) rfl ?_
  refine g_iload_n dX4_errorOfBreak_34 rfl ?_
  refine g_ialdN (gx := t) dX4_errorOfBreak_35 rfl (by decide) rfl (by omega) (by decide) ?_
  refine g_bipushv (v := (-6)) dX4_errorOfBreak_36 rfl ?_
  refine g_icmp_eq (tgt := 45) dX4_errorOfBreak_38 (by decide) (fun c38 => absurd c38 hp) (fun c38 => ?_)
  refine g_iconstv (v := 0) dX4_errorOfBreak_41 rfl ?_
  refine g_goto (tgt := 47) dX4_errorOfBreak_42 (by decide) ?_
  exact g_iret dX4_errorOfBreak_47 rfl
set_option maxHeartbeats 4000000 in
set_option maxRecDepth 100000 in
theorem c_wrd_no {L : Nat} {F : Nat → Nat → Int32} {g : Nat → Option Nat} (d : Nat) (x : Int32) (hb : ¬ (0 ≤ x ∧ x < F 7 0)) : mCall (d + 2) yX4_breakByWord MX4_breakByWord [.ref 5, .int x] (mHX L F g) (some (.int (-1))) (mHX L F g) := by
  refine mCall_of sX4_breakByWord.1 (Nat.le_of_ble_eq_true rfl) ⟨_, rfl, rfl⟩ ?_
  show mGo _ _ (0, [some (.ref 5), some (.int x), none, none, none], [], _) _
  refine g_aload_n dX4_breakByWord_0 rfl ?_
  refine g_iload_n dX4_breakByWord_1 rfl ?_
  refine g_V1i dX4_breakByWord_2 ml_X4_105 sX4_errorOfBreak rfl (by decide) (Nat.le_of_ble_eq_true rfl) (c_err_no d x hb) ?_
  refine g_istore_n dX4_breakByWord_5 (by decide) rfl ?_
  refine g_iload_n dX4_breakByWord_6 rfl ?_
  refine g_if_eq (tgt := 12) dX4_breakByWord_7 (by decide) (fun c7 => absurd c7 (by decide)) (fun c7 => ?_)
  refine g_iload_n dX4_breakByWord_10 rfl ?_
  exact g_iret dX4_breakByWord_11 rfl
set_option maxHeartbeats 4000000 in
set_option maxRecDepth 100000 in
theorem c_wrd_gone {L : Nat} {F : Nat → Nat → Int32} {g : Nat → Option Nat} (d : Nat) (n : Nat) (hn : F 7 0 = nI n) (h10 : n ≤ 10) (k : Nat) (hk : k < n) (hs : F 8 k = (-6)) : mCall (d + 2) yX4_breakByWord MX4_breakByWord [.ref 5, .int (nI k)] (mHX L F g) (some (.int (-5))) (mHX L F g) := by
  refine mCall_of sX4_breakByWord.1 (Nat.le_of_ble_eq_true rfl) ⟨_, rfl, rfl⟩ ?_
  show mGo _ _ (0, [some (.ref 5), some (.int (nI k)), none, none, none], [], _) _
  refine g_aload_n dX4_breakByWord_0 rfl ?_
  refine g_iload_n dX4_breakByWord_1 rfl ?_
  refine g_V1i dX4_breakByWord_2 ml_X4_105 sX4_errorOfBreak rfl (by decide) (Nat.le_of_ble_eq_true rfl) (c_err_gone d n hn h10 k hk hs) ?_
  refine g_istore_n dX4_breakByWord_5 (by decide) rfl ?_
  refine g_iload_n dX4_breakByWord_6 rfl ?_
  refine g_if_eq (tgt := 12) dX4_breakByWord_7 (by decide) (fun c7 => absurd c7 (by decide)) (fun c7 => ?_)
  refine g_iload_n dX4_breakByWord_10 rfl ?_
  exact g_iret dX4_breakByWord_11 rfl
set_option maxHeartbeats 4000000 in
set_option maxRecDepth 100000 in
theorem c_wrd_quiet {L : Nat} {F : Nat → Nat → Int32} {g : Nat → Option Nat} (d : Nat) (n : Nat) (hn : F 7 0 = nI n) (h10 : n ≤ 10) (k : Nat) (hk : k < n) (t : Nat) (ht : t < 3) (hs : F 8 k = nI t) (hp : F 19 t = (-6)) : mCall (d + 2) yX4_breakByWord MX4_breakByWord [.ref 5, .int (nI k)] (mHX L F g) (some (.int (-5))) (mHX L F g) := by
  refine mCall_of sX4_breakByWord.1 (Nat.le_of_ble_eq_true rfl) ⟨_, rfl, rfl⟩ ?_
  show mGo _ _ (0, [some (.ref 5), some (.int (nI k)), none, none, none], [], _) _
  refine g_aload_n dX4_breakByWord_0 rfl ?_
  refine g_iload_n dX4_breakByWord_1 rfl ?_
  refine g_V1i dX4_breakByWord_2 ml_X4_105 sX4_errorOfBreak rfl (by decide) (Nat.le_of_ble_eq_true rfl) (c_err_quiet d n hn h10 k hk t ht hs hp) ?_
  refine g_istore_n dX4_breakByWord_5 (by decide) rfl ?_
  refine g_iload_n dX4_breakByWord_6 rfl ?_
  refine g_if_eq (tgt := 12) dX4_breakByWord_7 (by decide) (fun c7 => absurd c7 (by decide)) (fun c7 => ?_)
  refine g_iload_n dX4_breakByWord_10 rfl ?_
  exact g_iret dX4_breakByWord_11 rfl
set_option maxHeartbeats 4000000 in
set_option maxRecDepth 100000 in
theorem c_cgh_no {L : Nat} {F : Nat → Nat → Int32} {g : Nat → Option Nat} (d : Nat) (x : Int32) (hb : ¬ (0 ≤ x ∧ x < F 7 0)) : mCall (d + 2) yX4_breakByCough MX4_breakByCough [.ref 5, .int x] (mHX L F g) (some (.int (-1))) (mHX L F g) := by
  refine mCall_of sX4_breakByCough.1 (Nat.le_of_ble_eq_true rfl) ⟨_, rfl, rfl⟩ ?_
  show mGo _ _ (0, [some (.ref 5), some (.int x), none, none, none], [], _) _
  refine g_aload_n dX4_breakByCough_0 rfl ?_
  refine g_iload_n dX4_breakByCough_1 rfl ?_
  refine g_V1i dX4_breakByCough_2 ml_X4_105 sX4_errorOfBreak rfl (by decide) (Nat.le_of_ble_eq_true rfl) (c_err_no d x hb) ?_
  refine g_istore_n dX4_breakByCough_5 (by decide) rfl ?_
  refine g_iload_n dX4_breakByCough_6 rfl ?_
  refine g_if_eq (tgt := 12) dX4_breakByCough_7 (by decide) (fun c7 => absurd c7 (by decide)) (fun c7 => ?_)
  refine g_iload_n dX4_breakByCough_10 rfl ?_
  exact g_iret dX4_breakByCough_11 rfl
set_option maxHeartbeats 4000000 in
set_option maxRecDepth 100000 in
theorem c_cgh_gone {L : Nat} {F : Nat → Nat → Int32} {g : Nat → Option Nat} (d : Nat) (n : Nat) (hn : F 7 0 = nI n) (h10 : n ≤ 10) (k : Nat) (hk : k < n) (hs : F 8 k = (-6)) : mCall (d + 2) yX4_breakByCough MX4_breakByCough [.ref 5, .int (nI k)] (mHX L F g) (some (.int (-5))) (mHX L F g) := by
  refine mCall_of sX4_breakByCough.1 (Nat.le_of_ble_eq_true rfl) ⟨_, rfl, rfl⟩ ?_
  show mGo _ _ (0, [some (.ref 5), some (.int (nI k)), none, none, none], [], _) _
  refine g_aload_n dX4_breakByCough_0 rfl ?_
  refine g_iload_n dX4_breakByCough_1 rfl ?_
  refine g_V1i dX4_breakByCough_2 ml_X4_105 sX4_errorOfBreak rfl (by decide) (Nat.le_of_ble_eq_true rfl) (c_err_gone d n hn h10 k hk hs) ?_
  refine g_istore_n dX4_breakByCough_5 (by decide) rfl ?_
  refine g_iload_n dX4_breakByCough_6 rfl ?_
  refine g_if_eq (tgt := 12) dX4_breakByCough_7 (by decide) (fun c7 => absurd c7 (by decide)) (fun c7 => ?_)
  refine g_iload_n dX4_breakByCough_10 rfl ?_
  exact g_iret dX4_breakByCough_11 rfl
set_option maxHeartbeats 4000000 in
set_option maxRecDepth 100000 in
theorem c_cgh_quiet {L : Nat} {F : Nat → Nat → Int32} {g : Nat → Option Nat} (d : Nat) (n : Nat) (hn : F 7 0 = nI n) (h10 : n ≤ 10) (k : Nat) (hk : k < n) (t : Nat) (ht : t < 3) (hs : F 8 k = nI t) (hp : F 19 t = (-6)) : mCall (d + 2) yX4_breakByCough MX4_breakByCough [.ref 5, .int (nI k)] (mHX L F g) (some (.int (-5))) (mHX L F g) := by
  refine mCall_of sX4_breakByCough.1 (Nat.le_of_ble_eq_true rfl) ⟨_, rfl, rfl⟩ ?_
  show mGo _ _ (0, [some (.ref 5), some (.int (nI k)), none, none, none], [], _) _
  refine g_aload_n dX4_breakByCough_0 rfl ?_
  refine g_iload_n dX4_breakByCough_1 rfl ?_
  refine g_V1i dX4_breakByCough_2 ml_X4_105 sX4_errorOfBreak rfl (by decide) (Nat.le_of_ble_eq_true rfl) (c_err_quiet d n hn h10 k hk t ht hs hp) ?_
  refine g_istore_n dX4_breakByCough_5 (by decide) rfl ?_
  refine g_iload_n dX4_breakByCough_6 rfl ?_
  refine g_if_eq (tgt := 12) dX4_breakByCough_7 (by decide) (fun c7 => absurd c7 (by decide)) (fun c7 => ?_)
  refine g_iload_n dX4_breakByCough_10 rfl ?_
  exact g_iret dX4_breakByCough_11 rfl
set_option maxHeartbeats 4000000 in
set_option maxRecDepth 100000 in
theorem c_wrd_self {L : Nat} {F : Nat → Nat → Int32} {g : Nat → Option Nat} (d : Nat) (n : Nat) (hn : F 7 0 = nI n) (h10 : n ≤ 10) (k : Nat) (hk : k < n) (t : Nat) (ht : t < 3) (hs : F 8 k = nI t) (hp : ¬ F 19 t = (-6)) (h : Nat) (hh : h < 10) (eh : sHost (F 8) (F 9) (nI t) n = nI h) (hhk : h = k) : mCall (d + 3) yX4_breakByWord MX4_breakByWord [.ref 5, .int (nI k)] (mHX L F g) (some (.int ((xEnd (pe (pe F 10 k ((F 10 k) + (F 6 3))) 12 k (((pe F 10 k ((F 10 k) + (F 6 3))) 12 k) + 1)) 1 t 0 (nI k)) 10 k))) (mHX L (xEnd (pe (pe F 10 k ((F 10 k) + (F 6 3))) 12 k (((pe F 10 k ((F 10 k) + (F 6 3))) 12 k) + 1)) 1 t 0 (nI k)) g) := by
  refine mCall_of sX4_breakByWord.1 (Nat.le_of_ble_eq_true rfl) ⟨_, rfl, rfl⟩ ?_
  show mGo _ _ (0, [some (.ref 5), some (.int (nI k)), none, none, none], [], _) _
  refine g_aload_n dX4_breakByWord_0 rfl ?_
  refine g_iload_n dX4_breakByWord_1 rfl ?_
  refine g_V1i dX4_breakByWord_2 ml_X4_105 sX4_errorOfBreak rfl (by decide) (Nat.le_of_ble_eq_true rfl) (c_err_ok (d + 1) n hn h10 k hk t ht hs hp) ?_
  refine g_istore_n dX4_breakByWord_5 (by decide) rfl ?_
  refine g_iload_n dX4_breakByWord_6 rfl ?_
  refine g_if_eq (tgt := 12) dX4_breakByWord_7 (by decide) (fun c7 => ?_) (fun c7 => absurd (by decide) c7)
  refine g_aload_n dX4_breakByWord_12 rfl ?_
  refine g_gR (r := 7) dX4_breakByWord_13 fl_X4_30 (fun _ _ => rfl) rfl (by decide) rfl ?_
  refine g_gR (r := 8) dX4_breakByWord_16 fl_X4_74 (fun _ _ => rfl) rfl (by decide) rfl ?_
  refine g_iload_n dX4_breakByWord_19 rfl ?_
  refine g_ialdN (gx := k) dX4_breakByWord_20 rfl (by decide) rfl (by omega) (by decide) ?_
  rw [hs]
  refine g_istore_n dX4_breakByWord_21 (by decide) rfl ?_
  refine g_aload_n dX4_breakByWord_22 rfl ?_
  refine g_gR (r := 7) dX4_breakByWord_23 fl_X4_30 (fun _ _ => rfl) rfl (by decide) rfl ?_
  refine g_iload_n dX4_breakByWord_26 rfl ?_
  refine g_V1i dX4_breakByWord_27 ml_X4_108 sX0_hostOf rfl (by decide) (Nat.le_of_ble_eq_true rfl) (c_hostOf (d + 2) n hn h10 (nI t)) ?_
  rw [eh]
  refine g_istore dX4_breakByWord_30 (by decide) rfl ?_
  refine g_aload_n dX4_breakByWord_32 rfl ?_
  refine g_gR (r := 7) dX4_breakByWord_33 fl_X4_30 (fun _ _ => rfl) rfl (by decide) rfl ?_
  refine g_gR (r := 10) dX4_breakByWord_36 fl_X4_111 (fun _ _ => rfl) rfl (by decide) rfl ?_
  refine g_iload_n dX4_breakByWord_39 rfl ?_
  refine g_dup2 dX4_breakByWord_40 rfl rfl ?_
  refine g_ialdN (gx := k) dX4_breakByWord_41 rfl (by decide) rfl (by omega) (by decide) ?_
  refine g_aload_n dX4_breakByWord_42 rfl ?_
  refine g_gR (r := 6) dX4_breakByWord_43 fl_X4_24 (fun _ _ => rfl) rfl (by decide) rfl ?_
  refine g_iconstv (v := 3) dX4_breakByWord_46 rfl ?_
  refine g_ialdN (gx := 3) dX4_breakByWord_47 rfl (by decide) rfl (by omega) (by decide) ?_
  refine g_iadd dX4_breakByWord_48 ?_
  refine g_iastN (gx := k) dX4_breakByWord_49 rfl (by decide) rfl (by omega) (by decide) ?_
  refine g_iload dX4_breakByWord_50 rfl ?_
  refine g_bipushv (v := (-6)) dX4_breakByWord_52 rfl ?_
  refine g_icmp_eq (tgt := 77) dX4_breakByWord_54 (by decide) (fun c54 => absurd c54 (m_ne6 (by omega))) (fun c54 => ?_)
  refine g_iload dX4_breakByWord_57 rfl ?_
  refine g_iload_n dX4_breakByWord_59 rfl ?_
  refine g_icmp_eq (tgt := 77) dX4_breakByWord_60 (by decide) (fun c60 => ?_) (fun c60 => absurd (by rw [hhk]) c60)
  refine g_aload_n dX4_breakByWord_77 rfl ?_
  refine g_gR (r := 7) dX4_breakByWord_78 fl_X4_30 (fun _ _ => rfl) rfl (by decide) rfl ?_
  refine g_gR (r := 12) dX4_breakByWord_81 fl_X4_114 (fun _ _ => rfl) rfl (by decide) rfl ?_
  refine g_iload_n dX4_breakByWord_84 rfl ?_
  refine g_dup2 dX4_breakByWord_85 rfl rfl ?_
  refine g_ialdN (gx := k) dX4_breakByWord_86 rfl (by decide) rfl (by omega) (by decide) ?_
  refine g_iconstv (v := 1) dX4_breakByWord_87 rfl ?_
  refine g_iadd dX4_breakByWord_88 ?_
  refine g_iastN (gx := k) dX4_breakByWord_89 rfl (by decide) rfl (by omega) (by decide) ?_
  refine g_aload_n dX4_breakByWord_90 rfl ?_
  refine g_iconstv (v := 1) dX4_breakByWord_91 rfl ?_
  refine g_iload_n dX4_breakByWord_92 rfl ?_
  refine g_iconstv (v := 0) dX4_breakByWord_93 rfl ?_
  refine g_iload_n dX4_breakByWord_94 rfl ?_
  refine g_V4v dX4_breakByWord_95 ml_X4_101 sX4_endPause rfl (by decide) (Nat.le_of_ble_eq_true rfl) (c_endPause (F := (pe (pe F 10 k ((F 10 k) + (F 6 3))) 12 k (((pe F 10 k ((F 10 k) + (F 6 3))) 12 k) + 1))) d 1 (by decide) t ht 0 (nI k)) ?_
  refine g_aload_n dX4_breakByWord_98 rfl ?_
  refine g_gR (r := 7) dX4_breakByWord_99 fl_X4_30 (fun _ _ => rfl) rfl (by decide) rfl ?_
  refine g_gR (r := 10) dX4_breakByWord_102 fl_X4_111 (fun _ _ => rfl) rfl (by decide) rfl ?_
  refine g_iload_n dX4_breakByWord_105 rfl ?_
  refine g_ialdN (gx := k) dX4_breakByWord_106 rfl (by decide) rfl (by omega) (by decide) ?_
  exact g_iret dX4_breakByWord_107 rfl
set_option maxHeartbeats 4000000 in
set_option maxRecDepth 100000 in
theorem c_wrd_other {L : Nat} {F : Nat → Nat → Int32} {g : Nat → Option Nat} (d : Nat) (n : Nat) (hn : F 7 0 = nI n) (h10 : n ≤ 10) (k : Nat) (hk : k < n) (t : Nat) (ht : t < 3) (hs : F 8 k = nI t) (hp : ¬ F 19 t = (-6)) (h : Nat) (hh : h < 10) (eh : sHost (F 8) (F 9) (nI t) n = nI h) (hhk : h ≠ k) : mCall (d + 3) yX4_breakByWord MX4_breakByWord [.ref 5, .int (nI k)] (mHX L F g) (some (.int ((xEnd (pe (pe (pe F 10 k ((F 10 k) + (F 6 3))) 10 h (((pe F 10 k ((F 10 k) + (F 6 3))) 10 h) + 1)) 12 k (((pe (pe F 10 k ((F 10 k) + (F 6 3))) 10 h (((pe F 10 k ((F 10 k) + (F 6 3))) 10 h) + 1)) 12 k) + 1)) 1 t 0 (nI k)) 10 k))) (mHX L (xEnd (pe (pe (pe F 10 k ((F 10 k) + (F 6 3))) 10 h (((pe F 10 k ((F 10 k) + (F 6 3))) 10 h) + 1)) 12 k (((pe (pe F 10 k ((F 10 k) + (F 6 3))) 10 h (((pe F 10 k ((F 10 k) + (F 6 3))) 10 h) + 1)) 12 k) + 1)) 1 t 0 (nI k)) g) := by
  refine mCall_of sX4_breakByWord.1 (Nat.le_of_ble_eq_true rfl) ⟨_, rfl, rfl⟩ ?_
  show mGo _ _ (0, [some (.ref 5), some (.int (nI k)), none, none, none], [], _) _
  refine g_aload_n dX4_breakByWord_0 rfl ?_
  refine g_iload_n dX4_breakByWord_1 rfl ?_
  refine g_V1i dX4_breakByWord_2 ml_X4_105 sX4_errorOfBreak rfl (by decide) (Nat.le_of_ble_eq_true rfl) (c_err_ok (d + 1) n hn h10 k hk t ht hs hp) ?_
  refine g_istore_n dX4_breakByWord_5 (by decide) rfl ?_
  refine g_iload_n dX4_breakByWord_6 rfl ?_
  refine g_if_eq (tgt := 12) dX4_breakByWord_7 (by decide) (fun c7 => ?_) (fun c7 => absurd (by decide) c7)
  refine g_aload_n dX4_breakByWord_12 rfl ?_
  refine g_gR (r := 7) dX4_breakByWord_13 fl_X4_30 (fun _ _ => rfl) rfl (by decide) rfl ?_
  refine g_gR (r := 8) dX4_breakByWord_16 fl_X4_74 (fun _ _ => rfl) rfl (by decide) rfl ?_
  refine g_iload_n dX4_breakByWord_19 rfl ?_
  refine g_ialdN (gx := k) dX4_breakByWord_20 rfl (by decide) rfl (by omega) (by decide) ?_
  rw [hs]
  refine g_istore_n dX4_breakByWord_21 (by decide) rfl ?_
  refine g_aload_n dX4_breakByWord_22 rfl ?_
  refine g_gR (r := 7) dX4_breakByWord_23 fl_X4_30 (fun _ _ => rfl) rfl (by decide) rfl ?_
  refine g_iload_n dX4_breakByWord_26 rfl ?_
  refine g_V1i dX4_breakByWord_27 ml_X4_108 sX0_hostOf rfl (by decide) (Nat.le_of_ble_eq_true rfl) (c_hostOf (d + 2) n hn h10 (nI t)) ?_
  rw [eh]
  refine g_istore dX4_breakByWord_30 (by decide) rfl ?_
  refine g_aload_n dX4_breakByWord_32 rfl ?_
  refine g_gR (r := 7) dX4_breakByWord_33 fl_X4_30 (fun _ _ => rfl) rfl (by decide) rfl ?_
  refine g_gR (r := 10) dX4_breakByWord_36 fl_X4_111 (fun _ _ => rfl) rfl (by decide) rfl ?_
  refine g_iload_n dX4_breakByWord_39 rfl ?_
  refine g_dup2 dX4_breakByWord_40 rfl rfl ?_
  refine g_ialdN (gx := k) dX4_breakByWord_41 rfl (by decide) rfl (by omega) (by decide) ?_
  refine g_aload_n dX4_breakByWord_42 rfl ?_
  refine g_gR (r := 6) dX4_breakByWord_43 fl_X4_24 (fun _ _ => rfl) rfl (by decide) rfl ?_
  refine g_iconstv (v := 3) dX4_breakByWord_46 rfl ?_
  refine g_ialdN (gx := 3) dX4_breakByWord_47 rfl (by decide) rfl (by omega) (by decide) ?_
  refine g_iadd dX4_breakByWord_48 ?_
  refine g_iastN (gx := k) dX4_breakByWord_49 rfl (by decide) rfl (by omega) (by decide) ?_
  refine g_iload dX4_breakByWord_50 rfl ?_
  refine g_bipushv (v := (-6)) dX4_breakByWord_52 rfl ?_
  refine g_icmp_eq (tgt := 77) dX4_breakByWord_54 (by decide) (fun c54 => absurd c54 (m_ne6 (by omega))) (fun c54 => ?_)
  refine g_iload dX4_breakByWord_57 rfl ?_
  refine g_iload_n dX4_breakByWord_59 rfl ?_
  refine g_icmp_eq (tgt := 77) dX4_breakByWord_60 (by decide) (fun c60 => absurd c60 (fun q => hhk ((nI_eq (by omega) (by omega)).mp q))) (fun c60 => ?_)
  refine g_aload_n dX4_breakByWord_63 rfl ?_
  refine g_gR (r := 7) dX4_breakByWord_64 fl_X4_30 (fun _ _ => rfl) rfl (by decide) rfl ?_
  refine g_gR (r := 10) dX4_breakByWord_67 fl_X4_111 (fun _ _ => rfl) rfl (by decide) rfl ?_
  refine g_iload dX4_breakByWord_70 rfl ?_
  refine g_dup2 dX4_breakByWord_72 rfl rfl ?_
  refine g_ialdN (gx := h) dX4_breakByWord_73 rfl (by decide) rfl (by omega) (by decide) ?_
  refine g_iconstv (v := 1) dX4_breakByWord_74 rfl ?_
  refine g_iadd dX4_breakByWord_75 ?_
  refine g_iastN (gx := h) dX4_breakByWord_76 rfl (by decide) rfl (by omega) (by decide) ?_
  refine g_aload_n dX4_breakByWord_77 rfl ?_
  refine g_gR (r := 7) dX4_breakByWord_78 fl_X4_30 (fun _ _ => rfl) rfl (by decide) rfl ?_
  refine g_gR (r := 12) dX4_breakByWord_81 fl_X4_114 (fun _ _ => rfl) rfl (by decide) rfl ?_
  refine g_iload_n dX4_breakByWord_84 rfl ?_
  refine g_dup2 dX4_breakByWord_85 rfl rfl ?_
  refine g_ialdN (gx := k) dX4_breakByWord_86 rfl (by decide) rfl (by omega) (by decide) ?_
  refine g_iconstv (v := 1) dX4_breakByWord_87 rfl ?_
  refine g_iadd dX4_breakByWord_88 ?_
  refine g_iastN (gx := k) dX4_breakByWord_89 rfl (by decide) rfl (by omega) (by decide) ?_
  refine g_aload_n dX4_breakByWord_90 rfl ?_
  refine g_iconstv (v := 1) dX4_breakByWord_91 rfl ?_
  refine g_iload_n dX4_breakByWord_92 rfl ?_
  refine g_iconstv (v := 0) dX4_breakByWord_93 rfl ?_
  refine g_iload_n dX4_breakByWord_94 rfl ?_
  refine g_V4v dX4_breakByWord_95 ml_X4_101 sX4_endPause rfl (by decide) (Nat.le_of_ble_eq_true rfl) (c_endPause (F := (pe (pe (pe F 10 k ((F 10 k) + (F 6 3))) 10 h (((pe F 10 k ((F 10 k) + (F 6 3))) 10 h) + 1)) 12 k (((pe (pe F 10 k ((F 10 k) + (F 6 3))) 10 h (((pe F 10 k ((F 10 k) + (F 6 3))) 10 h) + 1)) 12 k) + 1))) d 1 (by decide) t ht 0 (nI k)) ?_
  refine g_aload_n dX4_breakByWord_98 rfl ?_
  refine g_gR (r := 7) dX4_breakByWord_99 fl_X4_30 (fun _ _ => rfl) rfl (by decide) rfl ?_
  refine g_gR (r := 10) dX4_breakByWord_102 fl_X4_111 (fun _ _ => rfl) rfl (by decide) rfl ?_
  refine g_iload_n dX4_breakByWord_105 rfl ?_
  refine g_ialdN (gx := k) dX4_breakByWord_106 rfl (by decide) rfl (by omega) (by decide) ?_
  exact g_iret dX4_breakByWord_107 rfl
set_option maxHeartbeats 4000000 in
set_option maxRecDepth 100000 in
theorem c_cgh_self {L : Nat} {F : Nat → Nat → Int32} {g : Nat → Option Nat} (d : Nat) (n : Nat) (hn : F 7 0 = nI n) (h10 : n ≤ 10) (k : Nat) (hk : k < n) (t : Nat) (ht : t < 3) (hs : F 8 k = nI t) (hp : ¬ F 19 t = (-6)) (el : sLend (F 8) (F 9) (F 11) (nI k) (nI t) n = (-6)) : mCall (d + 3) yX4_breakByCough MX4_breakByCough [.ref 5, .int (nI k)] (mHX L F g) (some (.int (-6))) (mHX L (xEnd (pe (pe F 10 k ((F 10 k) + (F 6 3))) 12 k (((pe F 10 k ((F 10 k) + (F 6 3))) 12 k) + 1)) 2 t 0 (nI k)) g) := by
  refine mCall_of sX4_breakByCough.1 (Nat.le_of_ble_eq_true rfl) ⟨_, rfl, rfl⟩ ?_
  show mGo _ _ (0, [some (.ref 5), some (.int (nI k)), none, none, none], [], _) _
  refine g_aload_n dX4_breakByCough_0 rfl ?_
  refine g_iload_n dX4_breakByCough_1 rfl ?_
  refine g_V1i dX4_breakByCough_2 ml_X4_105 sX4_errorOfBreak rfl (by decide) (Nat.le_of_ble_eq_true rfl) (c_err_ok (d + 1) n hn h10 k hk t ht hs hp) ?_
  refine g_istore_n dX4_breakByCough_5 (by decide) rfl ?_
  refine g_iload_n dX4_breakByCough_6 rfl ?_
  refine g_if_eq (tgt := 12) dX4_breakByCough_7 (by decide) (fun c7 => ?_) (fun c7 => absurd (by decide) c7)
  refine g_aload_n dX4_breakByCough_12 rfl ?_
  refine g_gR (r := 7) dX4_breakByCough_13 fl_X4_30 (fun _ _ => rfl) rfl (by decide) rfl ?_
  refine g_gR (r := 8) dX4_breakByCough_16 fl_X4_74 (fun _ _ => rfl) rfl (by decide) rfl ?_
  refine g_iload_n dX4_breakByCough_19 rfl ?_
  refine g_ialdN (gx := k) dX4_breakByCough_20 rfl (by decide) rfl (by omega) (by decide) ?_
  rw [hs]
  refine g_istore_n dX4_breakByCough_21 (by decide) rfl ?_
  refine g_aload_n dX4_breakByCough_22 rfl ?_
  refine g_gR (r := 7) dX4_breakByCough_23 fl_X4_30 (fun _ _ => rfl) rfl (by decide) rfl ?_
  refine g_iload_n dX4_breakByCough_26 rfl ?_
  refine g_iload_n dX4_breakByCough_27 rfl ?_
  refine g_V2i dX4_breakByCough_28 ml_X4_117 sX0_lenderTo rfl (by decide) (Nat.le_of_ble_eq_true rfl) (c_lenderTo (d + 2) n hn h10 (nI k) (nI t)) ?_
  rw [el]
  refine g_istore dX4_breakByCough_31 (by decide) rfl ?_
  refine g_iload dX4_breakByCough_33 rfl ?_
  refine g_bipushv (v := (-6)) dX4_breakByCough_35 rfl ?_
  refine g_icmp_ne (tgt := 61) dX4_breakByCough_37 (by decide) (fun c37 => absurd (by decide) c37) (fun c37 => ?_)
  refine g_aload_n dX4_breakByCough_40 rfl ?_
  refine g_gR (r := 7) dX4_breakByCough_41 fl_X4_30 (fun _ _ => rfl) rfl (by decide) rfl ?_
  refine g_gR (r := 10) dX4_breakByCough_44 fl_X4_111 (fun _ _ => rfl) rfl (by decide) rfl ?_
  refine g_iload_n dX4_breakByCough_47 rfl ?_
  refine g_dup2 dX4_breakByCough_48 rfl rfl ?_
  refine g_ialdN (gx := k) dX4_breakByCough_49 rfl (by decide) rfl (by omega) (by decide) ?_
  refine g_aload_n dX4_breakByCough_50 rfl ?_
  refine g_gR (r := 6) dX4_breakByCough_51 fl_X4_24 (fun _ _ => rfl) rfl (by decide) rfl ?_
  refine g_iconstv (v := 3) dX4_breakByCough_54 rfl ?_
  refine g_ialdN (gx := 3) dX4_breakByCough_55 rfl (by decide) rfl (by omega) (by decide) ?_
  refine g_iadd dX4_breakByCough_56 ?_
  refine g_iastN (gx := k) dX4_breakByCough_57 rfl (by decide) rfl (by omega) (by decide) ?_
  refine g_goto (tgt := 89) dX4_breakByCough_58 (by decide) ?_
  refine g_aload_n dX4_breakByCough_89 rfl ?_
  refine g_gR (r := 7) dX4_breakByCough_90 fl_X4_30 (fun _ _ => rfl) rfl (by decide) rfl ?_
  refine g_gR (r := 12) dX4_breakByCough_93 fl_X4_114 (fun _ _ => rfl) rfl (by decide) rfl ?_
  refine g_iload_n dX4_breakByCough_96 rfl ?_
  refine g_dup2 dX4_breakByCough_97 rfl rfl ?_
  refine g_ialdN (gx := k) dX4_breakByCough_98 rfl (by decide) rfl (by omega) (by decide) ?_
  refine g_iconstv (v := 1) dX4_breakByCough_99 rfl ?_
  refine g_iadd dX4_breakByCough_100 ?_
  refine g_iastN (gx := k) dX4_breakByCough_101 rfl (by decide) rfl (by omega) (by decide) ?_
  refine g_aload_n dX4_breakByCough_102 rfl ?_
  refine g_iconstv (v := 2) dX4_breakByCough_103 rfl ?_
  refine g_iload_n dX4_breakByCough_104 rfl ?_
  refine g_iconstv (v := 0) dX4_breakByCough_105 rfl ?_
  refine g_iload_n dX4_breakByCough_106 rfl ?_
  refine g_V4v dX4_breakByCough_107 ml_X4_101 sX4_endPause rfl (by decide) (Nat.le_of_ble_eq_true rfl) (c_endPause (F := (pe (pe F 10 k ((F 10 k) + (F 6 3))) 12 k (((pe F 10 k ((F 10 k) + (F 6 3))) 12 k) + 1))) d 2 (by decide) t ht 0 (nI k)) ?_
  refine g_iload dX4_breakByCough_110 rfl ?_
  exact g_iret dX4_breakByCough_112 rfl
set_option maxHeartbeats 4000000 in
set_option maxRecDepth 100000 in
theorem c_cgh_other {L : Nat} {F : Nat → Nat → Int32} {g : Nat → Option Nat} (d : Nat) (n : Nat) (hn : F 7 0 = nI n) (h10 : n ≤ 10) (k : Nat) (hk : k < n) (t : Nat) (ht : t < 3) (hs : F 8 k = nI t) (hp : ¬ F 19 t = (-6)) (h : Nat) (hh : h < 10) (el : sLend (F 8) (F 9) (F 11) (nI k) (nI t) n = nI h) : mCall (d + 3) yX4_breakByCough MX4_breakByCough [.ref 5, .int (nI k)] (mHX L F g) (some (.int (nI h))) (mHX L (xEnd (pe (pe (pe F 11 h ((F 11 h) - 1)) 13 h (((pe F 11 h ((F 11 h) - 1)) 13 h) + 1)) 12 k (((pe (pe F 11 h ((F 11 h) - 1)) 13 h (((pe F 11 h ((F 11 h) - 1)) 13 h) + 1)) 12 k) + 1)) 2 t 0 (nI k)) g) := by
  refine mCall_of sX4_breakByCough.1 (Nat.le_of_ble_eq_true rfl) ⟨_, rfl, rfl⟩ ?_
  show mGo _ _ (0, [some (.ref 5), some (.int (nI k)), none, none, none], [], _) _
  refine g_aload_n dX4_breakByCough_0 rfl ?_
  refine g_iload_n dX4_breakByCough_1 rfl ?_
  refine g_V1i dX4_breakByCough_2 ml_X4_105 sX4_errorOfBreak rfl (by decide) (Nat.le_of_ble_eq_true rfl) (c_err_ok (d + 1) n hn h10 k hk t ht hs hp) ?_
  refine g_istore_n dX4_breakByCough_5 (by decide) rfl ?_
  refine g_iload_n dX4_breakByCough_6 rfl ?_
  refine g_if_eq (tgt := 12) dX4_breakByCough_7 (by decide) (fun c7 => ?_) (fun c7 => absurd (by decide) c7)
  refine g_aload_n dX4_breakByCough_12 rfl ?_
  refine g_gR (r := 7) dX4_breakByCough_13 fl_X4_30 (fun _ _ => rfl) rfl (by decide) rfl ?_
  refine g_gR (r := 8) dX4_breakByCough_16 fl_X4_74 (fun _ _ => rfl) rfl (by decide) rfl ?_
  refine g_iload_n dX4_breakByCough_19 rfl ?_
  refine g_ialdN (gx := k) dX4_breakByCough_20 rfl (by decide) rfl (by omega) (by decide) ?_
  rw [hs]
  refine g_istore_n dX4_breakByCough_21 (by decide) rfl ?_
  refine g_aload_n dX4_breakByCough_22 rfl ?_
  refine g_gR (r := 7) dX4_breakByCough_23 fl_X4_30 (fun _ _ => rfl) rfl (by decide) rfl ?_
  refine g_iload_n dX4_breakByCough_26 rfl ?_
  refine g_iload_n dX4_breakByCough_27 rfl ?_
  refine g_V2i dX4_breakByCough_28 ml_X4_117 sX0_lenderTo rfl (by decide) (Nat.le_of_ble_eq_true rfl) (c_lenderTo (d + 2) n hn h10 (nI k) (nI t)) ?_
  rw [el]
  refine g_istore dX4_breakByCough_31 (by decide) rfl ?_
  refine g_iload dX4_breakByCough_33 rfl ?_
  refine g_bipushv (v := (-6)) dX4_breakByCough_35 rfl ?_
  refine g_icmp_ne (tgt := 61) dX4_breakByCough_37 (by decide) (fun c37 => ?_) (fun c37 => absurd c37 (m_ne6 (by omega)))
  refine g_aload_n dX4_breakByCough_61 rfl ?_
  refine g_gR (r := 7) dX4_breakByCough_62 fl_X4_30 (fun _ _ => rfl) rfl (by decide) rfl ?_
  refine g_gR (r := 11) dX4_breakByCough_65 fl_X4_120 (fun _ _ => rfl) rfl (by decide) rfl ?_
  refine g_iload dX4_breakByCough_68 rfl ?_
  refine g_dup2 dX4_breakByCough_70 rfl rfl ?_
  refine g_ialdN (gx := h) dX4_breakByCough_71 rfl (by decide) rfl (by omega) (by decide) ?_
  refine g_iconstv (v := 1) dX4_breakByCough_72 rfl ?_
  refine g_isub dX4_breakByCough_73 ?_
  refine g_iastN (gx := h) dX4_breakByCough_74 rfl (by decide) rfl (by omega) (by decide) ?_
  refine g_aload_n dX4_breakByCough_75 rfl ?_
  refine g_gR (r := 7) dX4_breakByCough_76 fl_X4_30 (fun _ _ => rfl) rfl (by decide) rfl ?_
  refine g_gR (r := 13) dX4_breakByCough_79 fl_X4_123 (fun _ _ => rfl) rfl (by decide) rfl ?_
  refine g_iload dX4_breakByCough_82 rfl ?_
  refine g_dup2 dX4_breakByCough_84 rfl rfl ?_
  refine g_ialdN (gx := h) dX4_breakByCough_85 rfl (by decide) rfl (by omega) (by decide) ?_
  refine g_iconstv (v := 1) dX4_breakByCough_86 rfl ?_
  refine g_iadd dX4_breakByCough_87 ?_
  refine g_iastN (gx := h) dX4_breakByCough_88 rfl (by decide) rfl (by omega) (by decide) ?_
  refine g_aload_n dX4_breakByCough_89 rfl ?_
  refine g_gR (r := 7) dX4_breakByCough_90 fl_X4_30 (fun _ _ => rfl) rfl (by decide) rfl ?_
  refine g_gR (r := 12) dX4_breakByCough_93 fl_X4_114 (fun _ _ => rfl) rfl (by decide) rfl ?_
  refine g_iload_n dX4_breakByCough_96 rfl ?_
  refine g_dup2 dX4_breakByCough_97 rfl rfl ?_
  refine g_ialdN (gx := k) dX4_breakByCough_98 rfl (by decide) rfl (by omega) (by decide) ?_
  refine g_iconstv (v := 1) dX4_breakByCough_99 rfl ?_
  refine g_iadd dX4_breakByCough_100 ?_
  refine g_iastN (gx := k) dX4_breakByCough_101 rfl (by decide) rfl (by omega) (by decide) ?_
  refine g_aload_n dX4_breakByCough_102 rfl ?_
  refine g_iconstv (v := 2) dX4_breakByCough_103 rfl ?_
  refine g_iload_n dX4_breakByCough_104 rfl ?_
  refine g_iconstv (v := 0) dX4_breakByCough_105 rfl ?_
  refine g_iload_n dX4_breakByCough_106 rfl ?_
  refine g_V4v dX4_breakByCough_107 ml_X4_101 sX4_endPause rfl (by decide) (Nat.le_of_ble_eq_true rfl) (c_endPause (F := (pe (pe (pe F 11 h ((F 11 h) - 1)) 13 h (((pe F 11 h ((F 11 h) - 1)) 13 h) + 1)) 12 k (((pe (pe F 11 h ((F 11 h) - 1)) 13 h (((pe F 11 h ((F 11 h) - 1)) 13 h) + 1)) 12 k) + 1))) d 2 (by decide) t ht 0 (nI k)) ?_
  refine g_iload dX4_breakByCough_110 rfl ?_
  exact g_iret dX4_breakByCough_112 rfl
def sGoF (P : Nat → Int32) (a : Int32) (k : Nat) : Int32 := a + (if P k = (-6) then 0 else 1)
def sGo (P : Nat → Int32) : Int32 := mfold (sGoF P) 0 3
set_option maxHeartbeats 4000000 in
set_option maxRecDepth 100000 in
theorem lp_pauses {L : Nat} {F : Nat → Nat → Int32} {g : Nat → Option Nat} (d : Nat) : ∀ (m k : Nat) (a : Int32), k + m = 3 → a = mfold (sGoF (F 19)) 0 k → mGo MX4_pausesThatGoOn (d) (4, [some (.ref 5), some (.int a), some (.int (nI k))], [], mHX L F g) (some (.int (sGo (F 19))), mHX L F g) := by
  intro m
  induction m with
  | zero =>
    intro k a hk ea
    obtain rfl : k = 3 := by omega
    refine g_iload_n dX4_pausesThatGoOn_4 rfl ?_
    refine g_iconstv (v := 3) dX4_pausesThatGoOn_5 rfl ?_
    refine g_icmp_ge (tgt := 34) dX4_pausesThatGoOn_6 (by decide) (fun c6 => ?_) (fun c6 => absurd (nI_le (a := 3) (b := 3) (by omega) (by omega)) c6)
    refine g_iload_n dX4_pausesThatGoOn_34 rfl ?_
    exact g_iret dX4_pausesThatGoOn_35 (m_ret ea.symm)
  | succ m ih =>
    intro k a hk ea
    refine g_iload_n dX4_pausesThatGoOn_4 rfl ?_
    refine g_iconstv (v := 3) dX4_pausesThatGoOn_5 rfl ?_
    refine g_icmp_ge (tgt := 34) dX4_pausesThatGoOn_6 (by decide) (fun c6 => absurd c6 (nI_ge (a := k) (b := 3) (by omega) (by omega))) (fun c6 => ?_)
    refine g_iload_n dX4_pausesThatGoOn_9 rfl ?_
    refine g_aload_n dX4_pausesThatGoOn_10 rfl ?_
    refine g_gR (r := 19) dX4_pausesThatGoOn_11 fl_X4_41 (fun _ _ => rfl) rfl (by decide) rfl ?_
    refine g_iload_n dX4_pausesThatGoOn_14 rfl ?_
    refine g_ialdN (gx := k) dX4_pausesThatGoOn_15 rfl (by decide) rfl (by omega) (by decide) ?_
    refine g_bipushv (v := (-6)) dX4_pausesThatGoOn_16 rfl ?_
    refine g_icmp_ne (tgt := 25) dX4_pausesThatGoOn_18 (by decide) (fun c18 => ?_) (fun c18 => ?_)
    · skip
      refine g_iconstv (v := 1) dX4_pausesThatGoOn_25 rfl ?_
      refine g_iadd dX4_pausesThatGoOn_26 ?_
      refine g_istore_n dX4_pausesThatGoOn_27 (by decide) rfl ?_
      refine g_iincN dX4_pausesThatGoOn_28 rfl (by decide) rfl ?_
      refine g_goto (tgt := 4) dX4_pausesThatGoOn_31 (by decide) ?_
      exact ih (k + 1) _ (by omega) (by subst ea; rw [mfold_succ]; simp only [sGoF, c18, if_true, if_false, reduceIte, eq_self])
    · skip
      refine g_iconstv (v := 0) dX4_pausesThatGoOn_21 rfl ?_
      refine g_goto (tgt := 26) dX4_pausesThatGoOn_22 (by decide) ?_
      refine g_iadd dX4_pausesThatGoOn_26 ?_
      refine g_istore_n dX4_pausesThatGoOn_27 (by decide) rfl ?_
      refine g_iincN dX4_pausesThatGoOn_28 rfl (by decide) rfl ?_
      refine g_goto (tgt := 4) dX4_pausesThatGoOn_31 (by decide) ?_
      exact ih (k + 1) _ (by omega) (by subst ea; rw [mfold_succ]; simp only [sGoF, c18, if_true, if_false, reduceIte, eq_self])
set_option maxHeartbeats 4000000 in
set_option maxRecDepth 100000 in
theorem c_pauses {L : Nat} {F : Nat → Nat → Int32} {g : Nat → Option Nat} (d : Nat) : mCall (d) yX4_pausesThatGoOn MX4_pausesThatGoOn [.ref 5] (mHX L F g) (some (.int (sGo (F 19)))) (mHX L F g) := by
  refine mCall_of sX4_pausesThatGoOn.1 (Nat.le_of_ble_eq_true rfl) ⟨_, rfl, rfl⟩ ?_
  show mGo _ _ (0, [some (.ref 5), none, none], [], _) _
  refine g_iconstv (v := 0) dX4_pausesThatGoOn_0 rfl ?_
  refine g_istore_n dX4_pausesThatGoOn_1 (by decide) rfl ?_
  refine g_iconstv (v := 0) dX4_pausesThatGoOn_2 rfl ?_
  refine g_istore_n dX4_pausesThatGoOn_3 (by decide) rfl ?_
  exact lp_pauses d 3 0 _ rfl rfl
def xPassF (s : Int32) (cp : Nat → Nat) (a : (Nat → Nat → Int32) × Int32) (t : Nat) : (Nat → Nat → Int32) × Int32 := if a.1 19 t = (-6) then a else (pe a.1 19 t (a.1 19 t + s), a.2 + (if sMean (a.1 6) (cp t) (a.1 19 t + s) = 0 then 0 else 1))
def xPass (F : Nat → Nat → Int32) (s : Int32) (cp : Nat → Nat) (n : Nat) : (Nat → Nat → Int32) × Int32 := mfold (xPassF s cp) (pe F 5 0 (F 5 0 + s), 0) n
theorem xPass_at (F : Nat → Nat → Int32) (s : Int32) (cp : Nat → Nat) (n c : Nat) (h1 : c ≠ 19) (h2 : c ≠ 5) : (xPass F s cp n).1 c = F c := by
  induction n with
  | zero => exact pe_row h2
  | succ n ih =>
    show (xPassF s cp (xPass F s cp n) n).1 c = F c
    unfold xPassF
    split
    · exact ih
    · rw [← ih]
      exact pe_row h1
set_option maxHeartbeats 4000000 in
set_option maxRecDepth 100000 in
theorem lp_pass {L : Nat} {F : Nat → Nat → Int32} {g : Nat → Option Nat} (d : Nat) (n : Nat) (hn : F 7 0 = nI n) (h10 : n ≤ 10) (h3 : F 3 = mMB) (s : Int32) (cp : Nat → Nat) (hcp : ∀ t, t < 3 → cp t ≤ 4 ∧ sComp (F 8) (F 9) (nI t) (-6) n = nI (cp t)) : ∀ (m k : Nat) (G : Nat → Nat → Int32) (a : Int32), k + m = 3 → G = (xPass F s cp k).1 → a = (xPass F s cp k).2 → mGo MX4_letPass (d + 3) (43, [some (.ref 5), some (.int s), some (.int a), some (.int (nI k))], [], mHX L G g) (some (.int (xPass F s cp 3).2), mHX L (xPass F s cp 3).1 g) := by
  intro m
  induction m with
  | zero =>
    intro k G a hk eG ea
    obtain rfl : k = 3 := by omega
    have e7 : G 7 0 = nI n := by rw [eG, xPass_at _ _ _ _ _ (by decide) (by decide)]; exact hn
    have e3 : G 3 = mMB := by rw [eG, xPass_at _ _ _ _ _ (by decide) (by decide)]; exact h3
    have e8 : G 8 = F 8 := by rw [eG, xPass_at _ _ _ _ _ (by decide) (by decide)]
    have e9 : G 9 = F 9 := by rw [eG, xPass_at _ _ _ _ _ (by decide) (by decide)]
    refine g_iload_n dX4_letPass_43 rfl ?_
    refine g_iconstv (v := 3) dX4_letPass_44 rfl ?_
    refine g_icmp_ge (tgt := 93) dX4_letPass_45 (by decide) (fun c45 => ?_) (fun c45 => absurd (nI_le (a := 3) (b := 3) (by omega) (by omega)) c45)
    refine g_iload_n dX4_letPass_93 rfl ?_
    exact g_iret dX4_letPass_94 (m_ret2 ea.symm (by rw [eG]))
  | succ m ih =>
    intro k G a hk eG ea
    have e7 : G 7 0 = nI n := by rw [eG, xPass_at _ _ _ _ _ (by decide) (by decide)]; exact hn
    have e3 : G 3 = mMB := by rw [eG, xPass_at _ _ _ _ _ (by decide) (by decide)]; exact h3
    have e8 : G 8 = F 8 := by rw [eG, xPass_at _ _ _ _ _ (by decide) (by decide)]
    have e9 : G 9 = F 9 := by rw [eG, xPass_at _ _ _ _ _ (by decide) (by decide)]
    refine g_iload_n dX4_letPass_43 rfl ?_
    refine g_iconstv (v := 3) dX4_letPass_44 rfl ?_
    refine g_icmp_ge (tgt := 93) dX4_letPass_45 (by decide) (fun c45 => absurd c45 (nI_ge (a := k) (b := 3) (by omega) (by omega))) (fun c45 => ?_)
    refine g_aload_n dX4_letPass_48 rfl ?_
    refine g_gR (r := 19) dX4_letPass_49 fl_X4_41 (fun _ _ => rfl) rfl (by decide) rfl ?_
    refine g_iload_n dX4_letPass_52 rfl ?_
    refine g_ialdN (gx := k) dX4_letPass_53 rfl (by decide) rfl (by omega) (by decide) ?_
    refine g_bipushv (v := (-6)) dX4_letPass_54 rfl ?_
    refine g_icmp_eq (tgt := 87) dX4_letPass_56 (by decide) (fun c56 => ?_) (fun c56 => ?_)
    · skip
      refine g_iincN dX4_letPass_87 rfl (by decide) rfl ?_
      refine g_goto (tgt := 43) dX4_letPass_90 (by decide) ?_
      exact ih (k + 1) _ _ (by omega) (by show G = (xPassF s cp (xPass F s cp k) k).1; unfold xPassF; rw [← eG, if_pos c56]; exact eG) (by show a = (xPassF s cp (xPass F s cp k) k).2; unfold xPassF; rw [← eG, if_pos c56]; exact ea)
    · skip
      refine g_aload_n dX4_letPass_59 rfl ?_
      refine g_gR (r := 19) dX4_letPass_60 fl_X4_41 (fun _ _ => rfl) rfl (by decide) rfl ?_
      refine g_iload_n dX4_letPass_63 rfl ?_
      refine g_dup2 dX4_letPass_64 rfl rfl ?_
      refine g_ialdN (gx := k) dX4_letPass_65 rfl (by decide) rfl (by omega) (by decide) ?_
      refine g_iload_n dX4_letPass_66 rfl ?_
      refine g_iadd dX4_letPass_67 ?_
      refine g_iastN (gx := k) dX4_letPass_68 rfl (by decide) rfl (by omega) (by decide) ?_
      refine g_iload_n dX4_letPass_69 rfl ?_
      refine g_aload_n dX4_letPass_70 rfl ?_
      refine g_iload_n dX4_letPass_71 rfl ?_
      refine g_bipushv (v := (-6)) dX4_letPass_72 rfl ?_
      refine g_V2i dX4_letPass_74 ml_X4_94 sX4_meaningNow rfl (by decide) (Nat.le_of_ble_eq_true rfl) (c_meaningNow (F := (pe G 19 k (G 19 k + s))) d n e7 h10 e3 k (by omega) (-6) (cp k) (hcp k (by omega)).1 (by show sComp (G 8) (G 9) _ _ _ = _; rw [e8, e9]; exact (hcp k (by omega)).2)) ?_
      refine g_if_ne (tgt := 84) dX4_letPass_77 (by decide) (fun c77 => ?_) (fun c77 => ?_)
      · skip
        refine g_iconstv (v := 1) dX4_letPass_84 rfl ?_
        refine g_iadd dX4_letPass_85 ?_
        refine g_istore_n dX4_letPass_86 (by decide) rfl ?_
        refine g_iincN dX4_letPass_87 rfl (by decide) rfl ?_
        refine g_goto (tgt := 43) dX4_letPass_90 (by decide) ?_
        exact ih (k + 1) _ _ (by omega) (by show _ = (xPassF s cp (xPass F s cp k) k).1; unfold xPassF; rw [← eG, if_neg c56]) (by show _ = (xPassF s cp (xPass F s cp k) k).2; unfold xPassF; rw [← eG, if_neg c56, ← ea]; show _ = a + (if sMean (G 6) (cp k) (G 19 k + s) = 0 then (0 : Int32) else 1); rw [if_neg (by have c77x := c77; rw [pe_eq, pe_row (show (6 : Nat) ≠ 19 by decide)] at c77x; exact c77x)])
      · skip
        refine g_iconstv (v := 0) dX4_letPass_80 rfl ?_
        refine g_goto (tgt := 85) dX4_letPass_81 (by decide) ?_
        refine g_iadd dX4_letPass_85 ?_
        refine g_istore_n dX4_letPass_86 (by decide) rfl ?_
        refine g_iincN dX4_letPass_87 rfl (by decide) rfl ?_
        refine g_goto (tgt := 43) dX4_letPass_90 (by decide) ?_
        exact ih (k + 1) _ _ (by omega) (by show _ = (xPassF s cp (xPass F s cp k) k).1; unfold xPassF; rw [← eG, if_neg c56]) (by show _ = (xPassF s cp (xPass F s cp k) k).2; unfold xPassF; rw [← eG, if_neg c56, ← ea]; show _ = a + (if sMean (G 6) (cp k) (G 19 k + s) = 0 then (0 : Int32) else 1); rw [if_pos (by have c77x := c77; rw [pe_eq, pe_row (show (6 : Nat) ≠ 19 by decide)] at c77x; exact c77x)])
set_option maxHeartbeats 4000000 in
set_option maxRecDepth 100000 in
theorem c_pas_bad {L : Nat} {F : Nat → Nat → Int32} {g : Nat → Option Nat} (d : Nat) (s : Int32) (hb : ¬ (1 ≤ s ∧ s ≤ 99)) : mCall (d) yX4_letPass MX4_letPass [.ref 5, .int s] (mHX L F g) (some (.int (-2))) (mHX L F g) := by
  refine mCall_of sX4_letPass.1 (Nat.le_of_ble_eq_true rfl) ⟨_, rfl, rfl⟩ ?_
  show mGo _ _ (0, [some (.ref 5), some (.int s), none, none], [], _) _
  refine g_iload_n dX4_letPass_0 rfl ?_
  refine g_iconstv (v := 1) dX4_letPass_1 rfl ?_
  refine g_icmp_lt (tgt := 11) dX4_letPass_2 (by decide) (fun c2 => ?_) (fun c2 => ?_)
  · skip
    refine g_bipushv (v := (-2)) dX4_letPass_11 rfl ?_
    exact g_iret dX4_letPass_13 rfl
  · skip
    refine g_iload_n dX4_letPass_5 rfl ?_
    refine g_bipushv (v := 99) dX4_letPass_6 rfl ?_
    refine g_icmp_le (tgt := 14) dX4_letPass_8 (by decide) (fun c8 => absurd c8 (fun q => hb ⟨Int32.not_lt.mp c2, q⟩)) (fun c8 => ?_)
    refine g_bipushv (v := (-2)) dX4_letPass_11 rfl ?_
    exact g_iret dX4_letPass_13 rfl
set_option maxHeartbeats 4000000 in
set_option maxRecDepth 100000 in
theorem c_pas_over {L : Nat} {F : Nat → Nat → Int32} {g : Nat → Option Nat} (d : Nat) (s : Int32) (hv : 1 ≤ s ∧ s ≤ 99) (ho : ¬ F 5 0 + s ≤ 9999) : mCall (d) yX4_letPass MX4_letPass [.ref 5, .int s] (mHX L F g) (some (.int (-5))) (mHX L F g) := by
  refine mCall_of sX4_letPass.1 (Nat.le_of_ble_eq_true rfl) ⟨_, rfl, rfl⟩ ?_
  show mGo _ _ (0, [some (.ref 5), some (.int s), none, none], [], _) _
  refine g_iload_n dX4_letPass_0 rfl ?_
  refine g_iconstv (v := 1) dX4_letPass_1 rfl ?_
  refine g_icmp_lt (tgt := 11) dX4_letPass_2 (by decide) (fun c2 => absurd c2 (Int32.not_lt.mpr hv.1)) (fun c2 => ?_)
  refine g_iload_n dX4_letPass_5 rfl ?_
  refine g_bipushv (v := 99) dX4_letPass_6 rfl ?_
  refine g_icmp_le (tgt := 14) dX4_letPass_8 (by decide) (fun c8 => ?_) (fun c8 => absurd hv.2 c8)
  refine g_aload_n dX4_letPass_14 rfl ?_
  refine g_gI dX4_letPass_15 fl_X4_9 (fun _ _ => rfl) rfl (by decide) ?_
  refine g_iload_n dX4_letPass_18 rfl ?_
  refine g_iadd dX4_letPass_19 ?_
  refine g_sipushv (v := 9999) dX4_letPass_20 rfl ?_
  refine g_icmp_le (tgt := 29) dX4_letPass_23 (by decide) (fun c23 => absurd c23 ho) (fun c23 => ?_)
  refine g_bipushv (v := (-5)) dX4_letPass_26 rfl ?_
  exact g_iret dX4_letPass_28 rfl
set_option maxHeartbeats 4000000 in
set_option maxRecDepth 100000 in
theorem c_pas_ok {L : Nat} {F : Nat → Nat → Int32} {g : Nat → Option Nat} (d : Nat) (n : Nat) (hn : F 7 0 = nI n) (h10 : n ≤ 10) (h3 : F 3 = mMB) (s : Int32) (cp : Nat → Nat) (hcp : ∀ t, t < 3 → cp t ≤ 4 ∧ sComp (F 8) (F 9) (nI t) (-6) n = nI (cp t)) (hv : 1 ≤ s ∧ s ≤ 99) (ho : F 5 0 + s ≤ 9999) : mCall (d + 3) yX4_letPass MX4_letPass [.ref 5, .int s] (mHX L F g) (some (.int (xPass F s cp 3).2)) (mHX L (xPass F s cp 3).1 g) := by
  refine mCall_of sX4_letPass.1 (Nat.le_of_ble_eq_true rfl) ⟨_, rfl, rfl⟩ ?_
  show mGo _ _ (0, [some (.ref 5), some (.int s), none, none], [], _) _
  refine g_iload_n dX4_letPass_0 rfl ?_
  refine g_iconstv (v := 1) dX4_letPass_1 rfl ?_
  refine g_icmp_lt (tgt := 11) dX4_letPass_2 (by decide) (fun c2 => absurd c2 (Int32.not_lt.mpr hv.1)) (fun c2 => ?_)
  refine g_iload_n dX4_letPass_5 rfl ?_
  refine g_bipushv (v := 99) dX4_letPass_6 rfl ?_
  refine g_icmp_le (tgt := 14) dX4_letPass_8 (by decide) (fun c8 => ?_) (fun c8 => absurd hv.2 c8)
  refine g_aload_n dX4_letPass_14 rfl ?_
  refine g_gI dX4_letPass_15 fl_X4_9 (fun _ _ => rfl) rfl (by decide) ?_
  refine g_iload_n dX4_letPass_18 rfl ?_
  refine g_iadd dX4_letPass_19 ?_
  refine g_sipushv (v := 9999) dX4_letPass_20 rfl ?_
  refine g_icmp_le (tgt := 29) dX4_letPass_23 (by decide) (fun c23 => ?_) (fun c23 => absurd ho c23)
  refine g_aload_n dX4_letPass_29 rfl ?_
  refine g_dup dX4_letPass_30 rfl ?_
  refine g_gI dX4_letPass_31 fl_X4_9 (fun _ _ => rfl) rfl (by decide) ?_
  refine g_iload_n dX4_letPass_34 rfl ?_
  refine g_iadd dX4_letPass_35 ?_
  refine g_pI dX4_letPass_36 fl_X4_9 (Or.inl rfl) rfl (by decide) rfl ?_
  refine g_iconstv (v := 0) dX4_letPass_39 rfl ?_
  refine g_istore_n dX4_letPass_40 (by decide) rfl ?_
  refine g_iconstv (v := 0) dX4_letPass_41 rfl ?_
  refine g_istore_n dX4_letPass_42 (by decide) rfl ?_
  exact lp_pass d n hn h10 h3 s cp hcp 3 0 _ _ rfl rfl rfl
def sTurn (S : Nat → Int32) (c : Nat) (s : Int32) (i : Nat) : Nat → Int32
  | 0 => (-6)
  | m + 1 => if sBeg S (nI i) ≤ s then sTurn S c s (i + 1) m else if sMean S c (sBeg S (nI i)) = sMean S c s then sTurn S c s (i + 1) m else sBeg S (nI i) - s
set_option maxHeartbeats 4000000 in
set_option maxRecDepth 100000 in
theorem lp_turn {L : Nat} {F : Nat → Nat → Int32} {g : Nat → Option Nat} (d : Nat) (n : Nat) (hn : F 7 0 = nI n) (h10 : n ≤ 10) (h3 : F 3 = mMB) (t : Nat) (ht : t < 3) (c : Nat) (hc : c ≤ 4) : ∀ (m i : Nat), i + m = 4 → ∀ j : Option Value, mSb [some (.ref 5), some (.int (nI t)), some (.int (nI c)), some (.int (F 19 t)), some (.int (sMean (F 6) c (F 19 t))), some (.int (nI i)), j] 6 = true → mGo MX4_secondsToTurn (d + 2) (29, [some (.ref 5), some (.int (nI t)), some (.int (nI c)), some (.int (F 19 t)), some (.int (sMean (F 6) c (F 19 t))), some (.int (nI i)), j], [], mHX L F g) (some (.int (sTurn (F 6) c (F 19 t) i m)), mHX L F g) := by
  intro m
  induction m with
  | zero =>
    intro i hi j hj
    refine g_iload dX4_secondsToTurn_29 rfl ?_
    refine g_iconstv (v := 4) dX4_secondsToTurn_31 rfl ?_
    refine g_icmp_ge (tgt := 72) dX4_secondsToTurn_32 (by decide) (fun c32 => ?_) (fun c32 => absurd (by rw [show i = 4 by omega]; exact nI_le (a := 4) (b := 4) (by omega) (by omega)) c32)
    refine g_bipushv (v := (-6)) dX4_secondsToTurn_72 rfl ?_
    exact g_iret dX4_secondsToTurn_74 rfl
  | succ m ih =>
    intro i hi j hj
    refine g_iload dX4_secondsToTurn_29 rfl ?_
    refine g_iconstv (v := 4) dX4_secondsToTurn_31 rfl ?_
    refine g_icmp_ge (tgt := 72) dX4_secondsToTurn_32 (by decide) (fun c32 => absurd c32 (nI_ge (a := i) (b := 4) (by omega) (by omega))) (fun c32 => ?_)
    refine g_aload_n dX4_secondsToTurn_35 rfl ?_
    refine g_iload dX4_secondsToTurn_36 rfl ?_
    refine g_V1i dX4_secondsToTurn_38 ml_X4_133 sX4_beginOfShade rfl (by decide) (Nat.le_of_ble_eq_true rfl) (c_begShade (d + 1) (nI i)) ?_
    refine g_istore dX4_secondsToTurn_41 (by decide) rfl ?_
    refine g_iload dX4_secondsToTurn_43 rfl ?_
    refine g_iload_n dX4_secondsToTurn_45 rfl ?_
    refine g_icmp_le (tgt := 66) dX4_secondsToTurn_46 (by decide) (fun c46 => ?_) (fun c46 => ?_)
    · skip
      refine g_iincN dX4_secondsToTurn_66 rfl (by decide) rfl ?_
      refine g_goto (tgt := 29) dX4_secondsToTurn_69 (by decide) ?_
      rw [sTurn, if_pos c46]
      exact ih (i + 1) (by omega) _ rfl
    · skip
      refine g_aload_n dX4_secondsToTurn_49 rfl ?_
      refine g_iload_n dX4_secondsToTurn_50 rfl ?_
      refine g_iload dX4_secondsToTurn_51 rfl ?_
      refine g_V2i dX4_secondsToTurn_53 ml_X4_130 sX4_meaningFor rfl (by decide) (Nat.le_of_ble_eq_true rfl) (c_meaningFor d c hc h3 (sBeg (F 6) (nI i))) ?_
      refine g_iload dX4_secondsToTurn_56 rfl ?_
      refine g_icmp_eq (tgt := 66) dX4_secondsToTurn_58 (by decide) (fun c58 => ?_) (fun c58 => ?_)
      · skip
        refine g_iincN dX4_secondsToTurn_66 rfl (by decide) rfl ?_
        refine g_goto (tgt := 29) dX4_secondsToTurn_69 (by decide) ?_
        rw [sTurn, if_neg c46, if_pos c58]
        exact ih (i + 1) (by omega) _ rfl
      · skip
        refine g_iload dX4_secondsToTurn_61 rfl ?_
        refine g_iload_n dX4_secondsToTurn_63 rfl ?_
        refine g_isub dX4_secondsToTurn_64 ?_
        exact g_iret dX4_secondsToTurn_65 (m_ret (by rw [sTurn, if_neg c46, if_neg c58]))
set_option maxHeartbeats 4000000 in
set_option maxRecDepth 100000 in
theorem c_turn {L : Nat} {F : Nat → Nat → Int32} {g : Nat → Option Nat} (d : Nat) (n : Nat) (hn : F 7 0 = nI n) (h10 : n ≤ 10) (h3 : F 3 = mMB) (t : Nat) (ht : t < 3) (c : Nat) (hc : c ≤ 4) (ec : sComp (F 8) (F 9) (nI t) (-6) n = nI c) : mCall (d + 2) yX4_secondsToTurn MX4_secondsToTurn [.ref 5, .int (nI t)] (mHX L F g) (some (.int (sTurn (F 6) c (F 19 t) 0 4))) (mHX L F g) := by
  refine mCall_of sX4_secondsToTurn.1 (Nat.le_of_ble_eq_true rfl) ⟨_, rfl, rfl⟩ ?_
  show mGo _ _ (0, [some (.ref 5), some (.int (nI t)), none, none, none, none, none], [], _) _
  refine g_aload_n dX4_secondsToTurn_0 rfl ?_
  refine g_gR (r := 7) dX4_secondsToTurn_1 fl_X4_30 (fun _ _ => rfl) rfl (by decide) rfl ?_
  refine g_iload_n dX4_secondsToTurn_4 rfl ?_
  refine g_bipushv (v := (-6)) dX4_secondsToTurn_5 rfl ?_
  refine g_V2i dX4_secondsToTurn_7 ml_X4_90 sX0_companyOf rfl (by decide) (Nat.le_of_ble_eq_true rfl) (c_companyOf (d + 1) n hn h10 (nI t) (-6)) ?_
  rw [ec]
  refine g_istore_n dX4_secondsToTurn_10 (by decide) rfl ?_
  refine g_aload_n dX4_secondsToTurn_11 rfl ?_
  refine g_gR (r := 19) dX4_secondsToTurn_12 fl_X4_41 (fun _ _ => rfl) rfl (by decide) rfl ?_
  refine g_iload_n dX4_secondsToTurn_15 rfl ?_
  refine g_ialdN (gx := t) dX4_secondsToTurn_16 rfl (by decide) rfl (by omega) (by decide) ?_
  refine g_istore_n dX4_secondsToTurn_17 (by decide) rfl ?_
  refine g_aload_n dX4_secondsToTurn_18 rfl ?_
  refine g_iload_n dX4_secondsToTurn_19 rfl ?_
  refine g_iload_n dX4_secondsToTurn_20 rfl ?_
  refine g_V2i dX4_secondsToTurn_21 ml_X4_130 sX4_meaningFor rfl (by decide) (Nat.le_of_ble_eq_true rfl) (c_meaningFor d c hc h3 (F 19 t)) ?_
  refine g_istore dX4_secondsToTurn_24 (by decide) rfl ?_
  refine g_iconstv (v := 0) dX4_secondsToTurn_26 rfl ?_
  refine g_istore dX4_secondsToTurn_27 (by decide) rfl ?_
  exact lp_turn d n hn h10 h3 t ht c hc 4 0 rfl _ rfl
