theorem m_ne6 {t : Nat} (h : t < 2 ^ 31) : ¬ nI t = (-6) := by
  intro q
  have h1 := congrArg Int32.toInt q
  rw [i_n h, show ((-6) : Int32).toInt = -6 from by decide] at h1
  omega
set_option maxHeartbeats 4000000 in
set_option maxRecDepth 100000 in
theorem c_set_no {L : Nat} {F : Nat → Nat → Int32} {g : Nat → Option Nat} (d : Nat) (x v : Int32) (hb : ¬ (0 ≤ x ∧ x < 4)) : mCall (d) yX4_changeSetting MX4_changeSetting [.ref 5, .int x, .int v] (mHX L F g) (some (.int (-2))) (mHX L F g) := by
  refine mCall_of sX4_changeSetting.1 (Nat.le_of_ble_eq_true rfl) ⟨_, rfl, rfl⟩ ?_
  show mGo _ _ (0, [some (.ref 5), some (.int x), some (.int v), none], [], _) _
  refine g_iload_n dX4_changeSetting_0 rfl ?_
  refine g_if_lt (tgt := 13) dX4_changeSetting_1 (by decide) (fun c1 => ?_) (fun c1 => ?_)
  · skip
    refine g_bipushv (v := (-2)) dX4_changeSetting_13 rfl ?_
    exact g_iret dX4_changeSetting_15 rfl
  · skip
    refine g_iload_n dX4_changeSetting_4 rfl ?_
    refine g_aload_n dX4_changeSetting_5 rfl ?_
    refine g_gR (r := 6) dX4_changeSetting_6 fl_X4_24 (fun _ _ => rfl) rfl (by decide) rfl ?_
    refine g_alen dX4_changeSetting_9 rfl (by decide) (by decide) ?_
    refine g_icmp_lt (tgt := 16) dX4_changeSetting_10 (by decide) (fun c10 => absurd c10 (fun q => hb ⟨Int32.not_lt.mp c1, q⟩)) (fun c10 => ?_)
    refine g_bipushv (v := (-2)) dX4_changeSetting_13 rfl ?_
    exact g_iret dX4_changeSetting_15 rfl
set_option maxHeartbeats 4000000 in
set_option maxRecDepth 100000 in
theorem c_set_bad {L : Nat} {F : Nat → Nat → Int32} {g : Nat → Option Nat} (d : Nat) (j : Nat) (hj : j < 4) (v : Int32) (h2 : F 2 = mHS) (hb : ¬ (1 ≤ v ∧ v ≤ mHS j)) : mCall (d) yX4_changeSetting MX4_changeSetting [.ref 5, .int (nI j), .int v] (mHX L F g) (some (.int (-2))) (mHX L F g) := by
  refine mCall_of sX4_changeSetting.1 (Nat.le_of_ble_eq_true rfl) ⟨_, rfl, rfl⟩ ?_
  show mGo _ _ (0, [some (.ref 5), some (.int (nI j)), some (.int v), none], [], _) _
  refine g_iload_n dX4_changeSetting_0 rfl ?_
  refine g_if_lt (tgt := 13) dX4_changeSetting_1 (by decide) (fun c1 => absurd c1 (nI_pos (by omega))) (fun c1 => ?_)
  refine g_iload_n dX4_changeSetting_4 rfl ?_
  refine g_aload_n dX4_changeSetting_5 rfl ?_
  refine g_gR (r := 6) dX4_changeSetting_6 fl_X4_24 (fun _ _ => rfl) rfl (by decide) rfl ?_
  refine g_alen dX4_changeSetting_9 rfl (by decide) (by decide) ?_
  refine g_icmp_lt (tgt := 16) dX4_changeSetting_10 (by decide) (fun c10 => ?_) (fun c10 => absurd (nI_lt (a := j) (b := 4) hj (by decide)) c10)
  refine g_iload_n dX4_changeSetting_16 rfl ?_
  refine g_iconstv (v := 1) dX4_changeSetting_17 rfl ?_
  refine g_icmp_lt (tgt := 30) dX4_changeSetting_18 (by decide) (fun c18 => ?_) (fun c18 => ?_)
  · skip
    refine g_bipushv (v := (-2)) dX4_changeSetting_30 rfl ?_
    exact g_iret dX4_changeSetting_32 rfl
  · skip
    refine g_iload_n dX4_changeSetting_21 rfl ?_
    refine g_gets (j := 1) dX4_changeSetting_22 sl_X4_60 (by decide) ?_
    refine g_iload_n dX4_changeSetting_25 rfl ?_
    refine g_saldN (gx := j) dX4_changeSetting_26 rfl (by decide) rfl (by omega) (by decide) ?_
    refine g_icmp_le (tgt := 33) dX4_changeSetting_27 (by decide) (fun c27 => absurd c27 (fun q => hb ⟨Int32.not_lt.mp c18, by rw [← h2]; exact q⟩)) (fun c27 => ?_)
    refine g_bipushv (v := (-2)) dX4_changeSetting_30 rfl ?_
    exact g_iret dX4_changeSetting_32 rfl
set_option maxHeartbeats 4000000 in
set_option maxRecDepth 100000 in
theorem c_set_ok {L : Nat} {F : Nat → Nat → Int32} {g : Nat → Option Nat} (d : Nat) (j : Nat) (hj : j < 4) (v : Int32) (h2 : F 2 = mHS) (h1 : 1 ≤ v) (h3 : v ≤ mHS j) : mCall (d) yX4_changeSetting MX4_changeSetting [.ref 5, .int (nI j), .int v] (mHX L F g) (some (.int (F 6 j))) (mHX L (pe F 6 j v) g) := by
  refine mCall_of sX4_changeSetting.1 (Nat.le_of_ble_eq_true rfl) ⟨_, rfl, rfl⟩ ?_
  show mGo _ _ (0, [some (.ref 5), some (.int (nI j)), some (.int v), none], [], _) _
  refine g_iload_n dX4_changeSetting_0 rfl ?_
  refine g_if_lt (tgt := 13) dX4_changeSetting_1 (by decide) (fun c1 => absurd c1 (nI_pos (by omega))) (fun c1 => ?_)
  refine g_iload_n dX4_changeSetting_4 rfl ?_
  refine g_aload_n dX4_changeSetting_5 rfl ?_
  refine g_gR (r := 6) dX4_changeSetting_6 fl_X4_24 (fun _ _ => rfl) rfl (by decide) rfl ?_
  refine g_alen dX4_changeSetting_9 rfl (by decide) (by decide) ?_
  refine g_icmp_lt (tgt := 16) dX4_changeSetting_10 (by decide) (fun c10 => ?_) (fun c10 => absurd (nI_lt (a := j) (b := 4) hj (by decide)) c10)
  refine g_iload_n dX4_changeSetting_16 rfl ?_
  refine g_iconstv (v := 1) dX4_changeSetting_17 rfl ?_
  refine g_icmp_lt (tgt := 30) dX4_changeSetting_18 (by decide) (fun c18 => absurd c18 (Int32.not_lt.mpr h1)) (fun c18 => ?_)
  refine g_iload_n dX4_changeSetting_21 rfl ?_
  refine g_gets (j := 1) dX4_changeSetting_22 sl_X4_60 (by decide) ?_
  refine g_iload_n dX4_changeSetting_25 rfl ?_
  refine g_saldN (gx := j) dX4_changeSetting_26 rfl (by decide) rfl (by omega) (by decide) ?_
  refine g_icmp_le (tgt := 33) dX4_changeSetting_27 (by decide) (fun c27 => ?_) (fun c27 => absurd (by rw [h2]; exact h3) c27)
  refine g_aload_n dX4_changeSetting_33 rfl ?_
  refine g_gR (r := 6) dX4_changeSetting_34 fl_X4_24 (fun _ _ => rfl) rfl (by decide) rfl ?_
  refine g_iload_n dX4_changeSetting_37 rfl ?_
  refine g_ialdN (gx := j) dX4_changeSetting_38 rfl (by decide) rfl (by omega) (by decide) ?_
  refine g_istore_n dX4_changeSetting_39 (by decide) rfl ?_
  refine g_aload_n dX4_changeSetting_40 rfl ?_
  refine g_gR (r := 6) dX4_changeSetting_41 fl_X4_24 (fun _ _ => rfl) rfl (by decide) rfl ?_
  refine g_iload_n dX4_changeSetting_44 rfl ?_
  refine g_iload_n dX4_changeSetting_45 rfl ?_
  refine g_iastN (gx := j) dX4_changeSetting_46 rfl (by decide) rfl (by omega) (by decide) ?_
  refine g_iload_n dX4_changeSetting_47 rfl ?_
  exact g_iret dX4_changeSetting_48 rfl
set_option maxHeartbeats 4000000 in
set_option maxRecDepth 100000 in
theorem c_wel_no {L : Nat} {F : Nat → Nat → Int32} {g : Nat → Option Nat} (d : Nat) (x v : Int32) (hb : ¬ (0 ≤ x ∧ x < 3)) : mCall (d + 1) yX4_welcome MX4_welcome [.ref 5, .int x, .int v] (mHX L F g) (some (.int (-1))) (mHX L F g) := by
  refine mCall_of sX4_welcome.1 (Nat.le_of_ble_eq_true rfl) ⟨_, rfl, rfl⟩ ?_
  show mGo _ _ (0, [some (.ref 5), some (.int x), some (.int v)], [], _) _
  refine g_iload_n dX4_welcome_0 rfl ?_
  refine g_SN1i dX4_welcome_1 ml_X4_63 sX6_isTable (Nat.le_of_ble_eq_true rfl) (c_isTable d x) ?_
  refine g_if_ne (tgt := 9) dX4_welcome_4 (by decide) (fun c4 => absurd (mbi_f hb) c4) (fun c4 => ?_)
  refine g_iconstv (v := (-1)) dX4_welcome_7 rfl ?_
  exact g_iret dX4_welcome_8 rfl
set_option maxHeartbeats 4000000 in
set_option maxRecDepth 100000 in
theorem c_wel_bad {L : Nat} {F : Nat → Nat → Int32} {g : Nat → Option Nat} (d : Nat) (x v : Int32) (ht : 0 ≤ x ∧ x < 3) (hb : ¬ (1 ≤ v ∧ v ≤ 9)) : mCall (d + 1) yX4_welcome MX4_welcome [.ref 5, .int x, .int v] (mHX L F g) (some (.int (-2))) (mHX L F g) := by
  refine mCall_of sX4_welcome.1 (Nat.le_of_ble_eq_true rfl) ⟨_, rfl, rfl⟩ ?_
  show mGo _ _ (0, [some (.ref 5), some (.int x), some (.int v)], [], _) _
  refine g_iload_n dX4_welcome_0 rfl ?_
  refine g_SN1i dX4_welcome_1 ml_X4_63 sX6_isTable (Nat.le_of_ble_eq_true rfl) (c_isTable d x) ?_
  refine g_if_ne (tgt := 9) dX4_welcome_4 (by decide) (fun c4 => ?_) (fun c4 => absurd c4 (mbi_n0.mpr ht))
  refine g_iload_n dX4_welcome_9 rfl ?_
  refine g_iconstv (v := 1) dX4_welcome_10 rfl ?_
  refine g_icmp_lt (tgt := 20) dX4_welcome_11 (by decide) (fun c11 => ?_) (fun c11 => ?_)
  · skip
    refine g_bipushv (v := (-2)) dX4_welcome_20 rfl ?_
    exact g_iret dX4_welcome_22 rfl
  · skip
    refine g_iload_n dX4_welcome_14 rfl ?_
    refine g_bipushv (v := 9) dX4_welcome_15 rfl ?_
    refine g_icmp_le (tgt := 23) dX4_welcome_17 (by decide) (fun c17 => absurd c17 (fun q => hb ⟨Int32.not_lt.mp c11, q⟩)) (fun c17 => ?_)
    refine g_bipushv (v := (-2)) dX4_welcome_20 rfl ?_
    exact g_iret dX4_welcome_22 rfl
set_option maxHeartbeats 4000000 in
set_option maxRecDepth 100000 in
theorem c_wel_full {L : Nat} {F : Nat → Nat → Int32} {g : Nat → Option Nat} (d : Nat) (x v : Int32) (ht : 0 ≤ x ∧ x < 3) (hv : 1 ≤ v ∧ v ≤ 9) (h : F 7 0 = nI 10) : mCall (d + 1) yX4_welcome MX4_welcome [.ref 5, .int x, .int v] (mHX L F g) (some (.int (-4))) (mHX L F g) := by
  refine mCall_of sX4_welcome.1 (Nat.le_of_ble_eq_true rfl) ⟨_, rfl, rfl⟩ ?_
  show mGo _ _ (0, [some (.ref 5), some (.int x), some (.int v)], [], _) _
  refine g_iload_n dX4_welcome_0 rfl ?_
  refine g_SN1i dX4_welcome_1 ml_X4_63 sX6_isTable (Nat.le_of_ble_eq_true rfl) (c_isTable d x) ?_
  refine g_if_ne (tgt := 9) dX4_welcome_4 (by decide) (fun c4 => ?_) (fun c4 => absurd c4 (mbi_n0.mpr ht))
  refine g_iload_n dX4_welcome_9 rfl ?_
  refine g_iconstv (v := 1) dX4_welcome_10 rfl ?_
  refine g_icmp_lt (tgt := 20) dX4_welcome_11 (by decide) (fun c11 => absurd c11 (Int32.not_lt.mpr hv.1)) (fun c11 => ?_)
  refine g_iload_n dX4_welcome_14 rfl ?_
  refine g_bipushv (v := 9) dX4_welcome_15 rfl ?_
  refine g_icmp_le (tgt := 23) dX4_welcome_17 (by decide) (fun c17 => ?_) (fun c17 => absurd hv.2 c17)
  refine g_aload_n dX4_welcome_23 rfl ?_
  refine g_gR (r := 7) dX4_welcome_24 fl_X4_30 (fun _ _ => rfl) rfl (by decide) rfl ?_
  refine g_iload_n dX4_welcome_27 rfl ?_
  refine g_iload_n dX4_welcome_28 rfl ?_
  refine g_aload_n dX4_welcome_29 rfl ?_
  refine g_gR (r := 6) dX4_welcome_30 fl_X4_24 (fun _ _ => rfl) rfl (by decide) rfl ?_
  refine g_iconstv (v := 2) dX4_welcome_33 rfl ?_
  refine g_ialdN (gx := 2) dX4_welcome_34 rfl (by decide) rfl (by omega) (by decide) ?_
  refine g_V3i dX4_welcome_35 ml_X4_67 sX0_add rfl (by decide) (Nat.le_of_ble_eq_true rfl) (c_add_full d x v (F 6 2) h) ?_
  exact g_iret dX4_welcome_38 rfl
def xAdd (F : Nat → Nat → Int32) (n : Nat) (a1 a2 : Int32) : Nat → Nat → Int32 := pe (pe (pe (pe F 8 n a1) 9 n a2) 11 n (F 6 2)) 7 0 (F 7 0 + 1)
set_option maxHeartbeats 4000000 in
set_option maxRecDepth 100000 in
theorem c_wel_ok {L : Nat} {F : Nat → Nat → Int32} {g : Nat → Option Nat} (d : Nat) (x v : Int32) (ht : 0 ≤ x ∧ x < 3) (hv : 1 ≤ v ∧ v ≤ 9) (n : Nat) (hn : F 7 0 = nI n) (h10 : n < 10) : mCall (d + 1) yX4_welcome MX4_welcome [.ref 5, .int x, .int v] (mHX L F g) (some (.int (nI n))) (mHX L (xAdd F n x v) g) := by
  refine mCall_of sX4_welcome.1 (Nat.le_of_ble_eq_true rfl) ⟨_, rfl, rfl⟩ ?_
  show mGo _ _ (0, [some (.ref 5), some (.int x), some (.int v)], [], _) _
  refine g_iload_n dX4_welcome_0 rfl ?_
  refine g_SN1i dX4_welcome_1 ml_X4_63 sX6_isTable (Nat.le_of_ble_eq_true rfl) (c_isTable d x) ?_
  refine g_if_ne (tgt := 9) dX4_welcome_4 (by decide) (fun c4 => ?_) (fun c4 => absurd c4 (mbi_n0.mpr ht))
  refine g_iload_n dX4_welcome_9 rfl ?_
  refine g_iconstv (v := 1) dX4_welcome_10 rfl ?_
  refine g_icmp_lt (tgt := 20) dX4_welcome_11 (by decide) (fun c11 => absurd c11 (Int32.not_lt.mpr hv.1)) (fun c11 => ?_)
  refine g_iload_n dX4_welcome_14 rfl ?_
  refine g_bipushv (v := 9) dX4_welcome_15 rfl ?_
  refine g_icmp_le (tgt := 23) dX4_welcome_17 (by decide) (fun c17 => ?_) (fun c17 => absurd hv.2 c17)
  refine g_aload_n dX4_welcome_23 rfl ?_
  refine g_gR (r := 7) dX4_welcome_24 fl_X4_30 (fun _ _ => rfl) rfl (by decide) rfl ?_
  refine g_iload_n dX4_welcome_27 rfl ?_
  refine g_iload_n dX4_welcome_28 rfl ?_
  refine g_aload_n dX4_welcome_29 rfl ?_
  refine g_gR (r := 6) dX4_welcome_30 fl_X4_24 (fun _ _ => rfl) rfl (by decide) rfl ?_
  refine g_iconstv (v := 2) dX4_welcome_33 rfl ?_
  refine g_ialdN (gx := 2) dX4_welcome_34 rfl (by decide) rfl (by omega) (by decide) ?_
  refine g_V3i dX4_welcome_35 ml_X4_67 sX0_add rfl (by decide) (Nat.le_of_ble_eq_true rfl) (c_add d x v (F 6 2) n hn h10) ?_
  exact g_iret dX4_welcome_38 rfl
set_option maxHeartbeats 4000000 in
set_option maxRecDepth 100000 in
theorem c_off_no {L : Nat} {F : Nat → Nat → Int32} {g : Nat → Option Nat} (d : Nat) (x : Int32) (hb : ¬ (0 ≤ x ∧ x < F 7 0)) : mCall (d + 1) yX4_seeOff MX4_seeOff [.ref 5, .int x] (mHX L F g) (some (.int (-1))) (mHX L F g) := by
  refine mCall_of sX4_seeOff.1 (Nat.le_of_ble_eq_true rfl) ⟨_, rfl, rfl⟩ ?_
  show mGo _ _ (0, [some (.ref 5), some (.int x), none], [], _) _
  refine g_aload_n dX4_seeOff_0 rfl ?_
  refine g_gR (r := 7) dX4_seeOff_1 fl_X4_30 (fun _ _ => rfl) rfl (by decide) rfl ?_
  refine g_iload_n dX4_seeOff_4 rfl ?_
  refine g_V1i dX4_seeOff_5 ml_X4_71 sX0_isKnown rfl (by decide) (Nat.le_of_ble_eq_true rfl) (c_isKnown d x) ?_
  refine g_if_ne (tgt := 13) dX4_seeOff_8 (by decide) (fun c8 => absurd (mbi_f hb) c8) (fun c8 => ?_)
  refine g_iconstv (v := (-1)) dX4_seeOff_11 rfl ?_
  exact g_iret dX4_seeOff_12 rfl
set_option maxHeartbeats 4000000 in
set_option maxRecDepth 100000 in
theorem c_off_gone {L : Nat} {F : Nat → Nat → Int32} {g : Nat → Option Nat} (d : Nat) (n : Nat) (hn : F 7 0 = nI n) (h10 : n ≤ 10) (k : Nat) (hk : k < n) (hs : F 8 k = (-6)) : mCall (d + 1) yX4_seeOff MX4_seeOff [.ref 5, .int (nI k)] (mHX L F g) (some (.int (-5))) (mHX L F g) := by
  refine mCall_of sX4_seeOff.1 (Nat.le_of_ble_eq_true rfl) ⟨_, rfl, rfl⟩ ?_
  show mGo _ _ (0, [some (.ref 5), some (.int (nI k)), none], [], _) _
  have hk0 : 0 ≤ nI k ∧ nI k < F 7 0 := ⟨nI_pos' (by omega), by rw [hn]; exact nI_lt hk (by omega)⟩
  refine g_aload_n dX4_seeOff_0 rfl ?_
  refine g_gR (r := 7) dX4_seeOff_1 fl_X4_30 (fun _ _ => rfl) rfl (by decide) rfl ?_
  refine g_iload_n dX4_seeOff_4 rfl ?_
  refine g_V1i dX4_seeOff_5 ml_X4_71 sX0_isKnown rfl (by decide) (Nat.le_of_ble_eq_true rfl) (c_isKnown d (nI k)) ?_
  refine g_if_ne (tgt := 13) dX4_seeOff_8 (by decide) (fun c8 => ?_) (fun c8 => absurd c8 (mbi_n0.mpr hk0))
  refine g_aload_n dX4_seeOff_13 rfl ?_
  refine g_gR (r := 7) dX4_seeOff_14 fl_X4_30 (fun _ _ => rfl) rfl (by decide) rfl ?_
  refine g_gR (r := 8) dX4_seeOff_17 fl_X4_74 (fun _ _ => rfl) rfl (by decide) rfl ?_
  refine g_iload_n dX4_seeOff_20 rfl ?_
  refine g_ialdN (gx := k) dX4_seeOff_21 rfl (by decide) rfl (by omega) (by decide) ?_
  refine g_istore_n dX4_seeOff_22 (by decide) rfl ?_
  refine g_iload_n dX4_seeOff_23 rfl ?_
  refine g_bipushv (v := (-6)) dX4_seeOff_24 rfl ?_
  refine g_icmp_ne (tgt := 32) dX4_seeOff_26 (by decide) (fun c26 => absurd hs c26) (fun c26 => ?_)
  refine g_bipushv (v := (-5)) dX4_seeOff_29 rfl ?_
  exact g_iret dX4_seeOff_31 rfl
set_option maxHeartbeats 4000000 in
set_option maxRecDepth 100000 in
theorem c_off_0 {L : Nat} {F : Nat → Nat → Int32} {g : Nat → Option Nat} (d : Nat) (n : Nat) (hn : F 7 0 = nI n) (h10 : n ≤ 10) (k : Nat) (hk : k < n) (t : Nat) (ht : t < 3) (hs : F 8 k = nI t) (h0 : sSet (va_up (F 8) k (-6)) (nI t) n = 0) : mCall (d + 2) yX4_seeOff MX4_seeOff [.ref 5, .int (nI k)] (mHX L F g) (some (.int (sPop (sSet (va_up (F 8) k (-6)) (nI t) n)))) (mHX L (pe (pe F 8 k (-6)) 19 t (-6)) g) := by
  refine mCall_of sX4_seeOff.1 (Nat.le_of_ble_eq_true rfl) ⟨_, rfl, rfl⟩ ?_
  show mGo _ _ (0, [some (.ref 5), some (.int (nI k)), none], [], _) _
  have hk0 : 0 ≤ nI k ∧ nI k < F 7 0 := ⟨nI_pos' (by omega), by rw [hn]; exact nI_lt hk (by omega)⟩
  refine g_aload_n dX4_seeOff_0 rfl ?_
  refine g_gR (r := 7) dX4_seeOff_1 fl_X4_30 (fun _ _ => rfl) rfl (by decide) rfl ?_
  refine g_iload_n dX4_seeOff_4 rfl ?_
  refine g_V1i dX4_seeOff_5 ml_X4_71 sX0_isKnown rfl (by decide) (Nat.le_of_ble_eq_true rfl) (c_isKnown (d + 1) (nI k)) ?_
  refine g_if_ne (tgt := 13) dX4_seeOff_8 (by decide) (fun c8 => ?_) (fun c8 => absurd c8 (mbi_n0.mpr hk0))
  refine g_aload_n dX4_seeOff_13 rfl ?_
  refine g_gR (r := 7) dX4_seeOff_14 fl_X4_30 (fun _ _ => rfl) rfl (by decide) rfl ?_
  refine g_gR (r := 8) dX4_seeOff_17 fl_X4_74 (fun _ _ => rfl) rfl (by decide) rfl ?_
  refine g_iload_n dX4_seeOff_20 rfl ?_
  refine g_ialdN (gx := k) dX4_seeOff_21 rfl (by decide) rfl (by omega) (by decide) ?_
  rw [hs]
  refine g_istore_n dX4_seeOff_22 (by decide) rfl ?_
  refine g_iload_n dX4_seeOff_23 rfl ?_
  refine g_bipushv (v := (-6)) dX4_seeOff_24 rfl ?_
  refine g_icmp_ne (tgt := 32) dX4_seeOff_26 (by decide) (fun c26 => ?_) (fun c26 => absurd c26 (m_ne6 (by omega)))
  refine g_aload_n dX4_seeOff_32 rfl ?_
  refine g_gR (r := 7) dX4_seeOff_33 fl_X4_30 (fun _ _ => rfl) rfl (by decide) rfl ?_
  refine g_gR (r := 8) dX4_seeOff_36 fl_X4_74 (fun _ _ => rfl) rfl (by decide) rfl ?_
  refine g_iload_n dX4_seeOff_39 rfl ?_
  refine g_bipushv (v := (-6)) dX4_seeOff_40 rfl ?_
  refine g_iastN (gx := k) dX4_seeOff_42 rfl (by decide) rfl (by omega) (by decide) ?_
  refine g_aload_n dX4_seeOff_43 rfl ?_
  refine g_iload_n dX4_seeOff_44 rfl ?_
  refine g_V1v dX4_seeOff_45 ml_X4_77 sX4_dropPauseOfNobody rfl (by decide) (Nat.le_of_ble_eq_true rfl) (c_drop_0 (F := (pe F 8 k (-6))) d n hn h10 t ht h0) ?_
  refine g_aload_n dX4_seeOff_48 rfl ?_
  refine g_gR (r := 7) dX4_seeOff_49 fl_X4_30 (fun _ _ => rfl) rfl (by decide) rfl ?_
  refine g_iload_n dX4_seeOff_52 rfl ?_
  refine g_V1i dX4_seeOff_53 ml_X4_81 sX0_setAt rfl (by decide) (Nat.le_of_ble_eq_true rfl) (c_setAt (F := (pe (pe F 8 k (-6)) 19 t (-6))) (d + 1) n hn h10 (nI t)) ?_
  refine g_S1i dX4_seeOff_56 ml_X4_85 sJ6_bitCount_0f7a4 (Nat.le_of_ble_eq_true rfl) (c_bitCount (d + 1) _) ?_
  exact g_iret dX4_seeOff_59 rfl
set_option maxHeartbeats 4000000 in
set_option maxRecDepth 100000 in
theorem c_off_n {L : Nat} {F : Nat → Nat → Int32} {g : Nat → Option Nat} (d : Nat) (n : Nat) (hn : F 7 0 = nI n) (h10 : n ≤ 10) (k : Nat) (hk : k < n) (t : Nat) (ht : t < 3) (hs : F 8 k = nI t) (h0 : ¬ sSet (va_up (F 8) k (-6)) (nI t) n = 0) : mCall (d + 2) yX4_seeOff MX4_seeOff [.ref 5, .int (nI k)] (mHX L F g) (some (.int (sPop (sSet (va_up (F 8) k (-6)) (nI t) n)))) (mHX L (pe F 8 k (-6)) g) := by
  refine mCall_of sX4_seeOff.1 (Nat.le_of_ble_eq_true rfl) ⟨_, rfl, rfl⟩ ?_
  show mGo _ _ (0, [some (.ref 5), some (.int (nI k)), none], [], _) _
  have hk0 : 0 ≤ nI k ∧ nI k < F 7 0 := ⟨nI_pos' (by omega), by rw [hn]; exact nI_lt hk (by omega)⟩
  refine g_aload_n dX4_seeOff_0 rfl ?_
  refine g_gR (r := 7) dX4_seeOff_1 fl_X4_30 (fun _ _ => rfl) rfl (by decide) rfl ?_
  refine g_iload_n dX4_seeOff_4 rfl ?_
  refine g_V1i dX4_seeOff_5 ml_X4_71 sX0_isKnown rfl (by decide) (Nat.le_of_ble_eq_true rfl) (c_isKnown (d + 1) (nI k)) ?_
  refine g_if_ne (tgt := 13) dX4_seeOff_8 (by decide) (fun c8 => ?_) (fun c8 => absurd c8 (mbi_n0.mpr hk0))
  refine g_aload_n dX4_seeOff_13 rfl ?_
  refine g_gR (r := 7) dX4_seeOff_14 fl_X4_30 (fun _ _ => rfl) rfl (by decide) rfl ?_
  refine g_gR (r := 8) dX4_seeOff_17 fl_X4_74 (fun _ _ => rfl) rfl (by decide) rfl ?_
  refine g_iload_n dX4_seeOff_20 rfl ?_
  refine g_ialdN (gx := k) dX4_seeOff_21 rfl (by decide) rfl (by omega) (by decide) ?_
  rw [hs]
  refine g_istore_n dX4_seeOff_22 (by decide) rfl ?_
  refine g_iload_n dX4_seeOff_23 rfl ?_
  refine g_bipushv (v := (-6)) dX4_seeOff_24 rfl ?_
  refine g_icmp_ne (tgt := 32) dX4_seeOff_26 (by decide) (fun c26 => ?_) (fun c26 => absurd c26 (m_ne6 (by omega)))
  refine g_aload_n dX4_seeOff_32 rfl ?_
  refine g_gR (r := 7) dX4_seeOff_33 fl_X4_30 (fun _ _ => rfl) rfl (by decide) rfl ?_
  refine g_gR (r := 8) dX4_seeOff_36 fl_X4_74 (fun _ _ => rfl) rfl (by decide) rfl ?_
  refine g_iload_n dX4_seeOff_39 rfl ?_
  refine g_bipushv (v := (-6)) dX4_seeOff_40 rfl ?_
  refine g_iastN (gx := k) dX4_seeOff_42 rfl (by decide) rfl (by omega) (by decide) ?_
  refine g_aload_n dX4_seeOff_43 rfl ?_
  refine g_iload_n dX4_seeOff_44 rfl ?_
  refine g_V1v dX4_seeOff_45 ml_X4_77 sX4_dropPauseOfNobody rfl (by decide) (Nat.le_of_ble_eq_true rfl) (c_drop_n (F := (pe F 8 k (-6))) d n hn h10 t ht h0) ?_
  refine g_aload_n dX4_seeOff_48 rfl ?_
  refine g_gR (r := 7) dX4_seeOff_49 fl_X4_30 (fun _ _ => rfl) rfl (by decide) rfl ?_
  refine g_iload_n dX4_seeOff_52 rfl ?_
  refine g_V1i dX4_seeOff_53 ml_X4_81 sX0_setAt rfl (by decide) (Nat.le_of_ble_eq_true rfl) (c_setAt (F := (pe F 8 k (-6))) (d + 1) n hn h10 (nI t)) ?_
  refine g_S1i dX4_seeOff_56 ml_X4_85 sJ6_bitCount_0f7a4 (Nat.le_of_ble_eq_true rfl) (c_bitCount (d + 1) _) ?_
  exact g_iret dX4_seeOff_59 rfl
set_option maxHeartbeats 4000000 in
set_option maxRecDepth 100000 in
theorem c_mov_no {L : Nat} {F : Nat → Nat → Int32} {g : Nat → Option Nat} (d : Nat) (x y : Int32) (hb : ¬ (0 ≤ x ∧ x < F 7 0)) : mCall (d + 1) yX4_reseat MX4_reseat [.ref 5, .int x, .int y] (mHX L F g) (some (.int (-1))) (mHX L F g) := by
  refine mCall_of sX4_reseat.1 (Nat.le_of_ble_eq_true rfl) ⟨_, rfl, rfl⟩ ?_
  show mGo _ _ (0, [some (.ref 5), some (.int x), some (.int y), none], [], _) _
  refine g_aload_n dX4_reseat_0 rfl ?_
  refine g_gR (r := 7) dX4_reseat_1 fl_X4_30 (fun _ _ => rfl) rfl (by decide) rfl ?_
  refine g_iload_n dX4_reseat_4 rfl ?_
  refine g_V1i dX4_reseat_5 ml_X4_71 sX0_isKnown rfl (by decide) (Nat.le_of_ble_eq_true rfl) (c_isKnown d x) ?_
  refine g_if_eq (tgt := 18) dX4_reseat_8 (by decide) (fun c8 => ?_) (fun c8 => absurd (mbi_f hb) c8)
  refine g_iconstv (v := (-1)) dX4_reseat_18 rfl ?_
  exact g_iret dX4_reseat_19 rfl
set_option maxHeartbeats 4000000 in
set_option maxRecDepth 100000 in
theorem c_mov_notab {L : Nat} {F : Nat → Nat → Int32} {g : Nat → Option Nat} (d : Nat) (x y : Int32) (hk : 0 ≤ x ∧ x < F 7 0) (hb : ¬ (0 ≤ y ∧ y < 3)) : mCall (d + 1) yX4_reseat MX4_reseat [.ref 5, .int x, .int y] (mHX L F g) (some (.int (-1))) (mHX L F g) := by
  refine mCall_of sX4_reseat.1 (Nat.le_of_ble_eq_true rfl) ⟨_, rfl, rfl⟩ ?_
  show mGo _ _ (0, [some (.ref 5), some (.int x), some (.int y), none], [], _) _
  refine g_aload_n dX4_reseat_0 rfl ?_
  refine g_gR (r := 7) dX4_reseat_1 fl_X4_30 (fun _ _ => rfl) rfl (by decide) rfl ?_
  refine g_iload_n dX4_reseat_4 rfl ?_
  refine g_V1i dX4_reseat_5 ml_X4_71 sX0_isKnown rfl (by decide) (Nat.le_of_ble_eq_true rfl) (c_isKnown d x) ?_
  refine g_if_eq (tgt := 18) dX4_reseat_8 (by decide) (fun c8 => absurd c8 (mbi_n0.mpr hk)) (fun c8 => ?_)
  refine g_iload_n dX4_reseat_11 rfl ?_
  refine g_SN1i dX4_reseat_12 ml_X4_63 sX6_isTable (Nat.le_of_ble_eq_true rfl) (c_isTable d y) ?_
  refine g_if_ne (tgt := 20) dX4_reseat_15 (by decide) (fun c15 => absurd (mbi_f hb) c15) (fun c15 => ?_)
  refine g_iconstv (v := (-1)) dX4_reseat_18 rfl ?_
  exact g_iret dX4_reseat_19 rfl
set_option maxHeartbeats 4000000 in
set_option maxRecDepth 100000 in
theorem c_mov_gone {L : Nat} {F : Nat → Nat → Int32} {g : Nat → Option Nat} (d : Nat) (n : Nat) (hn : F 7 0 = nI n) (h10 : n ≤ 10) (k : Nat) (hk : k < n) (u : Nat) (hu : u < 3) (hs : F 8 k = (-6)) : mCall (d + 1) yX4_reseat MX4_reseat [.ref 5, .int (nI k), .int (nI u)] (mHX L F g) (some (.int (-5))) (mHX L F g) := by
  refine mCall_of sX4_reseat.1 (Nat.le_of_ble_eq_true rfl) ⟨_, rfl, rfl⟩ ?_
  show mGo _ _ (0, [some (.ref 5), some (.int (nI k)), some (.int (nI u)), none], [], _) _
  have hk0 : 0 ≤ nI k ∧ nI k < F 7 0 := ⟨nI_pos' (by omega), by rw [hn]; exact nI_lt hk (by omega)⟩
  have hu0 : 0 ≤ nI u ∧ nI u < 3 := ⟨nI_pos' (by omega), nI_lt (b := 3) hu (by decide)⟩
  refine g_aload_n dX4_reseat_0 rfl ?_
  refine g_gR (r := 7) dX4_reseat_1 fl_X4_30 (fun _ _ => rfl) rfl (by decide) rfl ?_
  refine g_iload_n dX4_reseat_4 rfl ?_
  refine g_V1i dX4_reseat_5 ml_X4_71 sX0_isKnown rfl (by decide) (Nat.le_of_ble_eq_true rfl) (c_isKnown d (nI k)) ?_
  refine g_if_eq (tgt := 18) dX4_reseat_8 (by decide) (fun c8 => absurd c8 (mbi_n0.mpr hk0)) (fun c8 => ?_)
  refine g_iload_n dX4_reseat_11 rfl ?_
  refine g_SN1i dX4_reseat_12 ml_X4_63 sX6_isTable (Nat.le_of_ble_eq_true rfl) (c_isTable d (nI u)) ?_
  refine g_if_ne (tgt := 20) dX4_reseat_15 (by decide) (fun c15 => ?_) (fun c15 => absurd c15 (mbi_n0.mpr hu0))
  refine g_aload_n dX4_reseat_20 rfl ?_
  refine g_gR (r := 7) dX4_reseat_21 fl_X4_30 (fun _ _ => rfl) rfl (by decide) rfl ?_
  refine g_gR (r := 8) dX4_reseat_24 fl_X4_74 (fun _ _ => rfl) rfl (by decide) rfl ?_
  refine g_iload_n dX4_reseat_27 rfl ?_
  refine g_ialdN (gx := k) dX4_reseat_28 rfl (by decide) rfl (by omega) (by decide) ?_
  refine g_istore_n dX4_reseat_29 (by decide) rfl ?_
  refine g_iload_n dX4_reseat_30 rfl ?_
  refine g_bipushv (v := (-6)) dX4_reseat_31 rfl ?_
  refine g_icmp_eq (tgt := 41) dX4_reseat_33 (by decide) (fun c33 => ?_) (fun c33 => absurd hs c33)
  refine g_bipushv (v := (-5)) dX4_reseat_41 rfl ?_
  exact g_iret dX4_reseat_43 rfl
set_option maxHeartbeats 4000000 in
set_option maxRecDepth 100000 in
theorem c_mov_same {L : Nat} {F : Nat → Nat → Int32} {g : Nat → Option Nat} (d : Nat) (n : Nat) (hn : F 7 0 = nI n) (h10 : n ≤ 10) (k : Nat) (hk : k < n) (u : Nat) (hu : u < 3) (hs : F 8 k = nI u) : mCall (d + 1) yX4_reseat MX4_reseat [.ref 5, .int (nI k), .int (nI u)] (mHX L F g) (some (.int (-5))) (mHX L F g) := by
  refine mCall_of sX4_reseat.1 (Nat.le_of_ble_eq_true rfl) ⟨_, rfl, rfl⟩ ?_
  show mGo _ _ (0, [some (.ref 5), some (.int (nI k)), some (.int (nI u)), none], [], _) _
  have hk0 : 0 ≤ nI k ∧ nI k < F 7 0 := ⟨nI_pos' (by omega), by rw [hn]; exact nI_lt hk (by omega)⟩
  have hu0 : 0 ≤ nI u ∧ nI u < 3 := ⟨nI_pos' (by omega), nI_lt (b := 3) hu (by decide)⟩
  refine g_aload_n dX4_reseat_0 rfl ?_
  refine g_gR (r := 7) dX4_reseat_1 fl_X4_30 (fun _ _ => rfl) rfl (by decide) rfl ?_
  refine g_iload_n dX4_reseat_4 rfl ?_
  refine g_V1i dX4_reseat_5 ml_X4_71 sX0_isKnown rfl (by decide) (Nat.le_of_ble_eq_true rfl) (c_isKnown d (nI k)) ?_
  refine g_if_eq (tgt := 18) dX4_reseat_8 (by decide) (fun c8 => absurd c8 (mbi_n0.mpr hk0)) (fun c8 => ?_)
  refine g_iload_n dX4_reseat_11 rfl ?_
  refine g_SN1i dX4_reseat_12 ml_X4_63 sX6_isTable (Nat.le_of_ble_eq_true rfl) (c_isTable d (nI u)) ?_
  refine g_if_ne (tgt := 20) dX4_reseat_15 (by decide) (fun c15 => ?_) (fun c15 => absurd c15 (mbi_n0.mpr hu0))
  refine g_aload_n dX4_reseat_20 rfl ?_
  refine g_gR (r := 7) dX4_reseat_21 fl_X4_30 (fun _ _ => rfl) rfl (by decide) rfl ?_
  refine g_gR (r := 8) dX4_reseat_24 fl_X4_74 (fun _ _ => rfl) rfl (by decide) rfl ?_
  refine g_iload_n dX4_reseat_27 rfl ?_
  refine g_ialdN (gx := k) dX4_reseat_28 rfl (by decide) rfl (by omega) (by decide) ?_
  rw [hs]
  refine g_istore_n dX4_reseat_29 (by decide) rfl ?_
  refine g_iload_n dX4_reseat_30 rfl ?_
  refine g_bipushv (v := (-6)) dX4_reseat_31 rfl ?_
  refine g_icmp_eq (tgt := 41) dX4_reseat_33 (by decide) (fun c33 => absurd c33 (m_ne6 (by omega))) (fun c33 => ?_)
  refine g_iload_n dX4_reseat_36 rfl ?_
  refine g_iload_n dX4_reseat_37 rfl ?_
  refine g_icmp_ne (tgt := 44) dX4_reseat_38 (by decide) (fun c38 => absurd rfl c38) (fun c38 => ?_)
  refine g_bipushv (v := (-5)) dX4_reseat_41 rfl ?_
  exact g_iret dX4_reseat_43 rfl
set_option maxHeartbeats 4000000 in
set_option maxRecDepth 100000 in
theorem c_mov_0 {L : Nat} {F : Nat → Nat → Int32} {g : Nat → Option Nat} (d : Nat) (n : Nat) (hn : F 7 0 = nI n) (h10 : n ≤ 10) (k : Nat) (hk : k < n) (t u : Nat) (ht : t < 3) (hu : u < 3) (htu : t ≠ u) (hs : F 8 k = nI t) (h0 : sSet (va_up (F 8) k (nI u)) (nI t) n = 0) : mCall (d + 2) yX4_reseat MX4_reseat [.ref 5, .int (nI k), .int (nI u)] (mHX L F g) (some (.int (nI t))) (mHX L (pe (pe F 8 k (nI u)) 19 t (-6)) g) := by
  refine mCall_of sX4_reseat.1 (Nat.le_of_ble_eq_true rfl) ⟨_, rfl, rfl⟩ ?_
  show mGo _ _ (0, [some (.ref 5), some (.int (nI k)), some (.int (nI u)), none], [], _) _
  have hk0 : 0 ≤ nI k ∧ nI k < F 7 0 := ⟨nI_pos' (by omega), by rw [hn]; exact nI_lt hk (by omega)⟩
  have hu0 : 0 ≤ nI u ∧ nI u < 3 := ⟨nI_pos' (by omega), nI_lt (b := 3) hu (by decide)⟩
  refine g_aload_n dX4_reseat_0 rfl ?_
  refine g_gR (r := 7) dX4_reseat_1 fl_X4_30 (fun _ _ => rfl) rfl (by decide) rfl ?_
  refine g_iload_n dX4_reseat_4 rfl ?_
  refine g_V1i dX4_reseat_5 ml_X4_71 sX0_isKnown rfl (by decide) (Nat.le_of_ble_eq_true rfl) (c_isKnown (d + 1) (nI k)) ?_
  refine g_if_eq (tgt := 18) dX4_reseat_8 (by decide) (fun c8 => absurd c8 (mbi_n0.mpr hk0)) (fun c8 => ?_)
  refine g_iload_n dX4_reseat_11 rfl ?_
  refine g_SN1i dX4_reseat_12 ml_X4_63 sX6_isTable (Nat.le_of_ble_eq_true rfl) (c_isTable (d + 1) (nI u)) ?_
  refine g_if_ne (tgt := 20) dX4_reseat_15 (by decide) (fun c15 => ?_) (fun c15 => absurd c15 (mbi_n0.mpr hu0))
  refine g_aload_n dX4_reseat_20 rfl ?_
  refine g_gR (r := 7) dX4_reseat_21 fl_X4_30 (fun _ _ => rfl) rfl (by decide) rfl ?_
  refine g_gR (r := 8) dX4_reseat_24 fl_X4_74 (fun _ _ => rfl) rfl (by decide) rfl ?_
  refine g_iload_n dX4_reseat_27 rfl ?_
  refine g_ialdN (gx := k) dX4_reseat_28 rfl (by decide) rfl (by omega) (by decide) ?_
  rw [hs]
  refine g_istore_n dX4_reseat_29 (by decide) rfl ?_
  refine g_iload_n dX4_reseat_30 rfl ?_
  refine g_bipushv (v := (-6)) dX4_reseat_31 rfl ?_
  refine g_icmp_eq (tgt := 41) dX4_reseat_33 (by decide) (fun c33 => absurd c33 (m_ne6 (by omega))) (fun c33 => ?_)
  refine g_iload_n dX4_reseat_36 rfl ?_
  refine g_iload_n dX4_reseat_37 rfl ?_
  refine g_icmp_ne (tgt := 44) dX4_reseat_38 (by decide) (fun c38 => ?_) (fun c38 => absurd c38 (fun q => htu ((nI_eq (by omega) (by omega)).mp q)))
  refine g_aload_n dX4_reseat_44 rfl ?_
  refine g_gR (r := 7) dX4_reseat_45 fl_X4_30 (fun _ _ => rfl) rfl (by decide) rfl ?_
  refine g_gR (r := 8) dX4_reseat_48 fl_X4_74 (fun _ _ => rfl) rfl (by decide) rfl ?_
  refine g_iload_n dX4_reseat_51 rfl ?_
  refine g_iload_n dX4_reseat_52 rfl ?_
  refine g_iastN (gx := k) dX4_reseat_53 rfl (by decide) rfl (by omega) (by decide) ?_
  refine g_aload_n dX4_reseat_54 rfl ?_
  refine g_iload_n dX4_reseat_55 rfl ?_
  refine g_V1v dX4_reseat_56 ml_X4_77 sX4_dropPauseOfNobody rfl (by decide) (Nat.le_of_ble_eq_true rfl) (c_drop_0 (F := (pe F 8 k (nI u))) d n hn h10 t ht h0) ?_
  refine g_iload_n dX4_reseat_59 rfl ?_
  exact g_iret dX4_reseat_60 rfl
set_option maxHeartbeats 4000000 in
set_option maxRecDepth 100000 in
theorem c_mov_n {L : Nat} {F : Nat → Nat → Int32} {g : Nat → Option Nat} (d : Nat) (n : Nat) (hn : F 7 0 = nI n) (h10 : n ≤ 10) (k : Nat) (hk : k < n) (t u : Nat) (ht : t < 3) (hu : u < 3) (htu : t ≠ u) (hs : F 8 k = nI t) (h0 : ¬ sSet (va_up (F 8) k (nI u)) (nI t) n = 0) : mCall (d + 2) yX4_reseat MX4_reseat [.ref 5, .int (nI k), .int (nI u)] (mHX L F g) (some (.int (nI t))) (mHX L (pe F 8 k (nI u)) g) := by
  refine mCall_of sX4_reseat.1 (Nat.le_of_ble_eq_true rfl) ⟨_, rfl, rfl⟩ ?_
  show mGo _ _ (0, [some (.ref 5), some (.int (nI k)), some (.int (nI u)), none], [], _) _
  have hk0 : 0 ≤ nI k ∧ nI k < F 7 0 := ⟨nI_pos' (by omega), by rw [hn]; exact nI_lt hk (by omega)⟩
  have hu0 : 0 ≤ nI u ∧ nI u < 3 := ⟨nI_pos' (by omega), nI_lt (b := 3) hu (by decide)⟩
  refine g_aload_n dX4_reseat_0 rfl ?_
  refine g_gR (r := 7) dX4_reseat_1 fl_X4_30 (fun _ _ => rfl) rfl (by decide) rfl ?_
  refine g_iload_n dX4_reseat_4 rfl ?_
  refine g_V1i dX4_reseat_5 ml_X4_71 sX0_isKnown rfl (by decide) (Nat.le_of_ble_eq_true rfl) (c_isKnown (d + 1) (nI k)) ?_
  refine g_if_eq (tgt := 18) dX4_reseat_8 (by decide) (fun c8 => absurd c8 (mbi_n0.mpr hk0)) (fun c8 => ?_)
  refine g_iload_n dX4_reseat_11 rfl ?_
  refine g_SN1i dX4_reseat_12 ml_X4_63 sX6_isTable (Nat.le_of_ble_eq_true rfl) (c_isTable (d + 1) (nI u)) ?_
  refine g_if_ne (tgt := 20) dX4_reseat_15 (by decide) (fun c15 => ?_) (fun c15 => absurd c15 (mbi_n0.mpr hu0))
  refine g_aload_n dX4_reseat_20 rfl ?_
  refine g_gR (r := 7) dX4_reseat_21 fl_X4_30 (fun _ _ => rfl) rfl (by decide) rfl ?_
  refine g_gR (r := 8) dX4_reseat_24 fl_X4_74 (fun _ _ => rfl) rfl (by decide) rfl ?_
  refine g_iload_n dX4_reseat_27 rfl ?_
  refine g_ialdN (gx := k) dX4_reseat_28 rfl (by decide) rfl (by omega) (by decide) ?_
  rw [hs]
  refine g_istore_n dX4_reseat_29 (by decide) rfl ?_
  refine g_iload_n dX4_reseat_30 rfl ?_
  refine g_bipushv (v := (-6)) dX4_reseat_31 rfl ?_
  refine g_icmp_eq (tgt := 41) dX4_reseat_33 (by decide) (fun c33 => absurd c33 (m_ne6 (by omega))) (fun c33 => ?_)
  refine g_iload_n dX4_reseat_36 rfl ?_
  refine g_iload_n dX4_reseat_37 rfl ?_
  refine g_icmp_ne (tgt := 44) dX4_reseat_38 (by decide) (fun c38 => ?_) (fun c38 => absurd c38 (fun q => htu ((nI_eq (by omega) (by omega)).mp q)))
  refine g_aload_n dX4_reseat_44 rfl ?_
  refine g_gR (r := 7) dX4_reseat_45 fl_X4_30 (fun _ _ => rfl) rfl (by decide) rfl ?_
  refine g_gR (r := 8) dX4_reseat_48 fl_X4_74 (fun _ _ => rfl) rfl (by decide) rfl ?_
  refine g_iload_n dX4_reseat_51 rfl ?_
  refine g_iload_n dX4_reseat_52 rfl ?_
  refine g_iastN (gx := k) dX4_reseat_53 rfl (by decide) rfl (by omega) (by decide) ?_
  refine g_aload_n dX4_reseat_54 rfl ?_
  refine g_iload_n dX4_reseat_55 rfl ?_
  refine g_V1v dX4_reseat_56 ml_X4_77 sX4_dropPauseOfNobody rfl (by decide) (Nat.le_of_ble_eq_true rfl) (c_drop_n (F := (pe F 8 k (nI u))) d n hn h10 t ht h0) ?_
  refine g_iload_n dX4_reseat_59 rfl ?_
  exact g_iret dX4_reseat_60 rfl
set_option maxHeartbeats 4000000 in
set_option maxRecDepth 100000 in
theorem c_beg_no {L : Nat} {F : Nat → Nat → Int32} {g : Nat → Option Nat} (d : Nat) (x : Int32) (hb : ¬ (0 ≤ x ∧ x < 3)) : mCall (d + 1) yX4_beginPause MX4_beginPause [.ref 5, .int x] (mHX L F g) (some (.int (-1))) (mHX L F g) := by
  refine mCall_of sX4_beginPause.1 (Nat.le_of_ble_eq_true rfl) ⟨_, rfl, rfl⟩ ?_
  show mGo _ _ (0, [some (.ref 5), some (.int x), none], [], _) _
  refine g_iload_n dX4_beginPause_0 rfl ?_
  refine g_SN1i dX4_beginPause_1 ml_X4_63 sX6_isTable (Nat.le_of_ble_eq_true rfl) (c_isTable d x) ?_
  refine g_if_ne (tgt := 9) dX4_beginPause_4 (by decide) (fun c4 => absurd (mbi_f hb) c4) (fun c4 => ?_)
  refine g_iconstv (v := (-1)) dX4_beginPause_7 rfl ?_
  exact g_iret dX4_beginPause_8 rfl
set_option maxHeartbeats 4000000 in
set_option maxRecDepth 100000 in
theorem c_beg_is {L : Nat} {F : Nat → Nat → Int32} {g : Nat → Option Nat} (d : Nat) (n : Nat) (hn : F 7 0 = nI n) (h10 : n ≤ 10) (t : Nat) (ht : t < 3) (c : Nat) (hc : c ≤ 4) (ec : sComp (F 8) (F 9) (nI t) (-6) n = nI c) (hp : ¬ F 19 t = (-6)) : mCall (d + 1) yX4_beginPause MX4_beginPause [.ref 5, .int (nI t)] (mHX L F g) (some (.int (-5))) (mHX L F g) := by
  refine mCall_of sX4_beginPause.1 (Nat.le_of_ble_eq_true rfl) ⟨_, rfl, rfl⟩ ?_
  show mGo _ _ (0, [some (.ref 5), some (.int (nI t)), none], [], _) _
  have ht0 : 0 ≤ nI t ∧ nI t < 3 := ⟨nI_pos' (by omega), nI_lt (b := 3) ht (by decide)⟩
  refine g_iload_n dX4_beginPause_0 rfl ?_
  refine g_SN1i dX4_beginPause_1 ml_X4_63 sX6_isTable (Nat.le_of_ble_eq_true rfl) (c_isTable d (nI t)) ?_
  refine g_if_ne (tgt := 9) dX4_beginPause_4 (by decide) (fun c4 => ?_) (fun c4 => absurd c4 (mbi_n0.mpr ht0))
  refine g_aload_n dX4_beginPause_9 rfl ?_
  refine g_gR (r := 7) dX4_beginPause_10 fl_X4_30 (fun _ _ => rfl) rfl (by decide) rfl ?_
  refine g_iload_n dX4_beginPause_13 rfl ?_
  refine g_bipushv (v := (-6)) dX4_beginPause_14 rfl ?_
  refine g_V2i dX4_beginPause_16 ml_X4_90 sX0_companyOf rfl (by decide) (Nat.le_of_ble_eq_true rfl) (c_companyOf d n hn h10 (nI t) (-6)) ?_
  rw [ec]
  refine g_istore_n dX4_beginPause_19 (by decide) rfl ?_
  refine g_aload_n dX4_beginPause_20 rfl ?_
  refine g_gR (r := 19) dX4_beginPause_21 fl_X4_41 (fun _ _ => rfl) rfl (by decide) rfl ?_
  refine g_iload_n dX4_beginPause_24 rfl ?_
  refine g_ialdN (gx := t) dX4_beginPause_25 rfl (by decide) rfl (by omega) (by decide) ?_
  refine g_bipushv (v := (-6)) dX4_beginPause_26 rfl ?_
  refine g_icmp_ne (tgt := 35) dX4_beginPause_28 (by decide) (fun c28 => ?_) (fun c28 => absurd c28 hp)
  refine g_bipushv (v := (-5)) dX4_beginPause_35 rfl ?_
  exact g_iret dX4_beginPause_37 rfl
set_option maxHeartbeats 4000000 in
set_option maxRecDepth 100000 in
theorem c_beg_nobody {L : Nat} {F : Nat → Nat → Int32} {g : Nat → Option Nat} (d : Nat) (n : Nat) (hn : F 7 0 = nI n) (h10 : n ≤ 10) (t : Nat) (ht : t < 3) (c : Nat) (hc : c ≤ 4) (ec : sComp (F 8) (F 9) (nI t) (-6) n = nI c) (hp : F 19 t = (-6)) (h0 : c = 0) : mCall (d + 1) yX4_beginPause MX4_beginPause [.ref 5, .int (nI t)] (mHX L F g) (some (.int (-5))) (mHX L F g) := by
  refine mCall_of sX4_beginPause.1 (Nat.le_of_ble_eq_true rfl) ⟨_, rfl, rfl⟩ ?_
  show mGo _ _ (0, [some (.ref 5), some (.int (nI t)), none], [], _) _
  have ht0 : 0 ≤ nI t ∧ nI t < 3 := ⟨nI_pos' (by omega), nI_lt (b := 3) ht (by decide)⟩
  refine g_iload_n dX4_beginPause_0 rfl ?_
  refine g_SN1i dX4_beginPause_1 ml_X4_63 sX6_isTable (Nat.le_of_ble_eq_true rfl) (c_isTable d (nI t)) ?_
  refine g_if_ne (tgt := 9) dX4_beginPause_4 (by decide) (fun c4 => ?_) (fun c4 => absurd c4 (mbi_n0.mpr ht0))
  refine g_aload_n dX4_beginPause_9 rfl ?_
  refine g_gR (r := 7) dX4_beginPause_10 fl_X4_30 (fun _ _ => rfl) rfl (by decide) rfl ?_
  refine g_iload_n dX4_beginPause_13 rfl ?_
  refine g_bipushv (v := (-6)) dX4_beginPause_14 rfl ?_
  refine g_V2i dX4_beginPause_16 ml_X4_90 sX0_companyOf rfl (by decide) (Nat.le_of_ble_eq_true rfl) (c_companyOf d n hn h10 (nI t) (-6)) ?_
  rw [ec]
  refine g_istore_n dX4_beginPause_19 (by decide) rfl ?_
  refine g_aload_n dX4_beginPause_20 rfl ?_
  refine g_gR (r := 19) dX4_beginPause_21 fl_X4_41 (fun _ _ => rfl) rfl (by decide) rfl ?_
  refine g_iload_n dX4_beginPause_24 rfl ?_
  refine g_ialdN (gx := t) dX4_beginPause_25 rfl (by decide) rfl (by omega) (by decide) ?_
  refine g_bipushv (v := (-6)) dX4_beginPause_26 rfl ?_
  refine g_icmp_ne (tgt := 35) dX4_beginPause_28 (by decide) (fun c28 => absurd hp c28) (fun c28 => ?_)
  refine g_iload_n dX4_beginPause_31 rfl ?_
  refine g_if_ne (tgt := 38) dX4_beginPause_32 (by decide) (fun c32 => absurd (by rw [h0]; rfl) c32) (fun c32 => ?_)
  refine g_bipushv (v := (-5)) dX4_beginPause_35 rfl ?_
  exact g_iret dX4_beginPause_37 rfl
set_option maxHeartbeats 4000000 in
set_option maxRecDepth 100000 in
theorem c_beg_ok {L : Nat} {F : Nat → Nat → Int32} {g : Nat → Option Nat} (d : Nat) (n : Nat) (hn : F 7 0 = nI n) (h10 : n ≤ 10) (t : Nat) (ht : t < 3) (c : Nat) (hc : c ≤ 4) (ec : sComp (F 8) (F 9) (nI t) (-6) n = nI c) (hp : F 19 t = (-6)) (h0 : ¬ c = 0) : mCall (d + 1) yX4_beginPause MX4_beginPause [.ref 5, .int (nI t)] (mHX L F g) (some (.int (nI c))) (mHX L (pe F 19 t 0) g) := by
  refine mCall_of sX4_beginPause.1 (Nat.le_of_ble_eq_true rfl) ⟨_, rfl, rfl⟩ ?_
  show mGo _ _ (0, [some (.ref 5), some (.int (nI t)), none], [], _) _
  have ht0 : 0 ≤ nI t ∧ nI t < 3 := ⟨nI_pos' (by omega), nI_lt (b := 3) ht (by decide)⟩
  refine g_iload_n dX4_beginPause_0 rfl ?_
  refine g_SN1i dX4_beginPause_1 ml_X4_63 sX6_isTable (Nat.le_of_ble_eq_true rfl) (c_isTable d (nI t)) ?_
  refine g_if_ne (tgt := 9) dX4_beginPause_4 (by decide) (fun c4 => ?_) (fun c4 => absurd c4 (mbi_n0.mpr ht0))
  refine g_aload_n dX4_beginPause_9 rfl ?_
  refine g_gR (r := 7) dX4_beginPause_10 fl_X4_30 (fun _ _ => rfl) rfl (by decide) rfl ?_
  refine g_iload_n dX4_beginPause_13 rfl ?_
  refine g_bipushv (v := (-6)) dX4_beginPause_14 rfl ?_
  refine g_V2i dX4_beginPause_16 ml_X4_90 sX0_companyOf rfl (by decide) (Nat.le_of_ble_eq_true rfl) (c_companyOf d n hn h10 (nI t) (-6)) ?_
  rw [ec]
  refine g_istore_n dX4_beginPause_19 (by decide) rfl ?_
  refine g_aload_n dX4_beginPause_20 rfl ?_
  refine g_gR (r := 19) dX4_beginPause_21 fl_X4_41 (fun _ _ => rfl) rfl (by decide) rfl ?_
  refine g_iload_n dX4_beginPause_24 rfl ?_
  refine g_ialdN (gx := t) dX4_beginPause_25 rfl (by decide) rfl (by omega) (by decide) ?_
  refine g_bipushv (v := (-6)) dX4_beginPause_26 rfl ?_
  refine g_icmp_ne (tgt := 35) dX4_beginPause_28 (by decide) (fun c28 => absurd hp c28) (fun c28 => ?_)
  refine g_iload_n dX4_beginPause_31 rfl ?_
  refine g_if_ne (tgt := 38) dX4_beginPause_32 (by decide) (fun c32 => ?_) (fun c32 => absurd c32 (nI_ne0 (by omega) (by omega)))
  refine g_aload_n dX4_beginPause_38 rfl ?_
  refine g_gR (r := 19) dX4_beginPause_39 fl_X4_41 (fun _ _ => rfl) rfl (by decide) rfl ?_
  refine g_iload_n dX4_beginPause_42 rfl ?_
  refine g_iconstv (v := 0) dX4_beginPause_43 rfl ?_
  refine g_iastN (gx := t) dX4_beginPause_44 rfl (by decide) rfl (by omega) (by decide) ?_
  refine g_iload_n dX4_beginPause_45 rfl ?_
  exact g_iret dX4_beginPause_46 rfl
set_option maxHeartbeats 4000000 in
set_option maxRecDepth 100000 in
theorem c_clo_no {L : Nat} {F : Nat → Nat → Int32} {g : Nat → Option Nat} (d : Nat) (x : Int32) (hb : ¬ (0 ≤ x ∧ x < 3)) : mCall (d + 1) yX4_closePause MX4_closePause [.ref 5, .int x] (mHX L F g) (some (.int (-1))) (mHX L F g) := by
  refine mCall_of sX4_closePause.1 (Nat.le_of_ble_eq_true rfl) ⟨_, rfl, rfl⟩ ?_
  show mGo _ _ (0, [some (.ref 5), some (.int x), none], [], _) _
  refine g_iload_n dX4_closePause_0 rfl ?_
  refine g_SN1i dX4_closePause_1 ml_X4_63 sX6_isTable (Nat.le_of_ble_eq_true rfl) (c_isTable d x) ?_
  refine g_if_ne (tgt := 9) dX4_closePause_4 (by decide) (fun c4 => absurd (mbi_f hb) c4) (fun c4 => ?_)
  refine g_iconstv (v := (-1)) dX4_closePause_7 rfl ?_
  exact g_iret dX4_closePause_8 rfl
set_option maxHeartbeats 4000000 in
set_option maxRecDepth 100000 in
theorem c_clo_none {L : Nat} {F : Nat → Nat → Int32} {g : Nat → Option Nat} (d : Nat) (t : Nat) (ht : t < 3) (hp : F 19 t = (-6)) : mCall (d + 1) yX4_closePause MX4_closePause [.ref 5, .int (nI t)] (mHX L F g) (some (.int (-5))) (mHX L F g) := by
  refine mCall_of sX4_closePause.1 (Nat.le_of_ble_eq_true rfl) ⟨_, rfl, rfl⟩ ?_
  show mGo _ _ (0, [some (.ref 5), some (.int (nI t)), none], [], _) _
  have ht0 : 0 ≤ nI t ∧ nI t < 3 := ⟨nI_pos' (by omega), nI_lt (b := 3) ht (by decide)⟩
  refine g_iload_n dX4_closePause_0 rfl ?_
  refine g_SN1i dX4_closePause_1 ml_X4_63 sX6_isTable (Nat.le_of_ble_eq_true rfl) (c_isTable d (nI t)) ?_
  refine g_if_ne (tgt := 9) dX4_closePause_4 (by decide) (fun c4 => ?_) (fun c4 => absurd c4 (mbi_n0.mpr ht0))
  refine g_aload_n dX4_closePause_9 rfl ?_
  refine g_gR (r := 19) dX4_closePause_10 fl_X4_41 (fun _ _ => rfl) rfl (by decide) rfl ?_
  refine g_iload_n dX4_closePause_13 rfl ?_
  refine g_ialdN (gx := t) dX4_closePause_14 rfl (by decide) rfl (by omega) (by decide) ?_
  refine g_bipushv (v := (-6)) dX4_closePause_15 rfl ?_
  refine g_icmp_ne (tgt := 23) dX4_closePause_17 (by decide) (fun c17 => absurd hp c17) (fun c17 => ?_)
  refine g_bipushv (v := (-5)) dX4_closePause_20 rfl ?_
  exact g_iret dX4_closePause_22 rfl
set_option maxHeartbeats 4000000 in
set_option maxRecDepth 100000 in
theorem c_clo_0 {L : Nat} {F : Nat → Nat → Int32} {g : Nat → Option Nat} (d : Nat) (n : Nat) (hn : F 7 0 = nI n) (h10 : n ≤ 10) (h3 : F 3 = mMB) (t : Nat) (ht : t < 3) (c : Nat) (hc : c ≤ 4) (ec : sComp (F 8) (F 9) (nI t) (-6) n = nI c) (hp : ¬ F 19 t = (-6)) (em : sMean (F 6) c (F 19 t) = 0) : mCall (d + 3) yX4_closePause MX4_closePause [.ref 5, .int (nI t)] (mHX L F g) (some (.int 0)) (mHX L (xEnd F 0 t 0 (-6)) g) := by
  refine mCall_of sX4_closePause.1 (Nat.le_of_ble_eq_true rfl) ⟨_, rfl, rfl⟩ ?_
  show mGo _ _ (0, [some (.ref 5), some (.int (nI t)), none], [], _) _
  have ht0 : 0 ≤ nI t ∧ nI t < 3 := ⟨nI_pos' (by omega), nI_lt (b := 3) ht (by decide)⟩
  refine g_iload_n dX4_closePause_0 rfl ?_
  refine g_SN1i dX4_closePause_1 ml_X4_63 sX6_isTable (Nat.le_of_ble_eq_true rfl) (c_isTable (d + 2) (nI t)) ?_
  refine g_if_ne (tgt := 9) dX4_closePause_4 (by decide) (fun c4 => ?_) (fun c4 => absurd c4 (mbi_n0.mpr ht0))
  refine g_aload_n dX4_closePause_9 rfl ?_
  refine g_gR (r := 19) dX4_closePause_10 fl_X4_41 (fun _ _ => rfl) rfl (by decide) rfl ?_
  refine g_iload_n dX4_closePause_13 rfl ?_
  refine g_ialdN (gx := t) dX4_closePause_14 rfl (by decide) rfl (by omega) (by decide) ?_
  refine g_bipushv (v := (-6)) dX4_closePause_15 rfl ?_
  refine g_icmp_ne (tgt := 23) dX4_closePause_17 (by decide) (fun c17 => ?_) (fun c17 => absurd c17 hp)
  refine g_aload_n dX4_closePause_23 rfl ?_
  refine g_iload_n dX4_closePause_24 rfl ?_
  refine g_bipushv (v := (-6)) dX4_closePause_25 rfl ?_
  refine g_V2i dX4_closePause_27 ml_X4_94 sX4_meaningNow rfl (by decide) (Nat.le_of_ble_eq_true rfl) (c_meaningNow d n hn h10 h3 t ht (-6) c hc ec) ?_
  rw [em]
  refine g_istore_n dX4_closePause_30 (by decide) rfl ?_
  refine g_aload_n dX4_closePause_31 rfl ?_
  refine g_gR (r := 14) dX4_closePause_32 fl_X4_37 (fun _ _ => rfl) rfl (by decide) rfl ?_
  refine g_iload_n dX4_closePause_35 rfl ?_
  refine g_aload_n dX4_closePause_36 rfl ?_
  refine g_gR (r := 19) dX4_closePause_37 fl_X4_41 (fun _ _ => rfl) rfl (by decide) rfl ?_
  refine g_iload_n dX4_closePause_40 rfl ?_
  refine g_ialdN (gx := t) dX4_closePause_41 rfl (by decide) rfl (by omega) (by decide) ?_
  refine g_V2v dX4_closePause_42 ml_X4_97 sX2_enterMeaning rfl (by decide) (Nat.le_of_ble_eq_true rfl) (c_enter0 (d + 2) (F 19 t)) ?_
  refine g_aload_n dX4_closePause_45 rfl ?_
  refine g_iconstv (v := 0) dX4_closePause_46 rfl ?_
  refine g_iload_n dX4_closePause_47 rfl ?_
  refine g_iload_n dX4_closePause_48 rfl ?_
  refine g_bipushv (v := (-6)) dX4_closePause_49 rfl ?_
  refine g_V4v dX4_closePause_51 ml_X4_101 sX4_endPause rfl (by decide) (Nat.le_of_ble_eq_true rfl) (c_endPause (F := F) d 0 (by decide) t ht 0 (-6)) ?_
  refine g_iload_n dX4_closePause_54 rfl ?_
  exact g_iret dX4_closePause_55 rfl
set_option maxHeartbeats 4000000 in
set_option maxRecDepth 100000 in
theorem c_clo_n {L : Nat} {F : Nat → Nat → Int32} {g : Nat → Option Nat} (d : Nat) (n : Nat) (hn : F 7 0 = nI n) (h10 : n ≤ 10) (h3 : F 3 = mMB) (t : Nat) (ht : t < 3) (c : Nat) (hc : c ≤ 4) (ec : sComp (F 8) (F 9) (nI t) (-6) n = nI c) (hp : ¬ F 19 t = (-6)) (mm : Nat) (h1 : 1 ≤ mm) (h11 : mm ≤ 11) (em : sMean (F 6) c (F 19 t) = nI mm) : mCall (d + 3) yX4_closePause MX4_closePause [.ref 5, .int (nI t)] (mHX L F g) (some (.int (nI mm))) (mHX L (xEnd (xEnter F mm (F 19 t)) 0 t (nI mm) (-6)) g) := by
  refine mCall_of sX4_closePause.1 (Nat.le_of_ble_eq_true rfl) ⟨_, rfl, rfl⟩ ?_
  show mGo _ _ (0, [some (.ref 5), some (.int (nI t)), none], [], _) _
  have ht0 : 0 ≤ nI t ∧ nI t < 3 := ⟨nI_pos' (by omega), nI_lt (b := 3) ht (by decide)⟩
  refine g_iload_n dX4_closePause_0 rfl ?_
  refine g_SN1i dX4_closePause_1 ml_X4_63 sX6_isTable (Nat.le_of_ble_eq_true rfl) (c_isTable (d + 2) (nI t)) ?_
  refine g_if_ne (tgt := 9) dX4_closePause_4 (by decide) (fun c4 => ?_) (fun c4 => absurd c4 (mbi_n0.mpr ht0))
  refine g_aload_n dX4_closePause_9 rfl ?_
  refine g_gR (r := 19) dX4_closePause_10 fl_X4_41 (fun _ _ => rfl) rfl (by decide) rfl ?_
  refine g_iload_n dX4_closePause_13 rfl ?_
  refine g_ialdN (gx := t) dX4_closePause_14 rfl (by decide) rfl (by omega) (by decide) ?_
  refine g_bipushv (v := (-6)) dX4_closePause_15 rfl ?_
  refine g_icmp_ne (tgt := 23) dX4_closePause_17 (by decide) (fun c17 => ?_) (fun c17 => absurd c17 hp)
  refine g_aload_n dX4_closePause_23 rfl ?_
  refine g_iload_n dX4_closePause_24 rfl ?_
  refine g_bipushv (v := (-6)) dX4_closePause_25 rfl ?_
  refine g_V2i dX4_closePause_27 ml_X4_94 sX4_meaningNow rfl (by decide) (Nat.le_of_ble_eq_true rfl) (c_meaningNow d n hn h10 h3 t ht (-6) c hc ec) ?_
  rw [em]
  refine g_istore_n dX4_closePause_30 (by decide) rfl ?_
  refine g_aload_n dX4_closePause_31 rfl ?_
  refine g_gR (r := 14) dX4_closePause_32 fl_X4_37 (fun _ _ => rfl) rfl (by decide) rfl ?_
  refine g_iload_n dX4_closePause_35 rfl ?_
  refine g_aload_n dX4_closePause_36 rfl ?_
  refine g_gR (r := 19) dX4_closePause_37 fl_X4_41 (fun _ _ => rfl) rfl (by decide) rfl ?_
  refine g_iload_n dX4_closePause_40 rfl ?_
  refine g_ialdN (gx := t) dX4_closePause_41 rfl (by decide) rfl (by omega) (by decide) ?_
  refine g_V2v dX4_closePause_42 ml_X4_97 sX2_enterMeaning rfl (by decide) (Nat.le_of_ble_eq_true rfl) (c_enter (d + 1) mm h1 h11 (F 19 t)) ?_
  refine g_aload_n dX4_closePause_45 rfl ?_
  refine g_iconstv (v := 0) dX4_closePause_46 rfl ?_
  refine g_iload_n dX4_closePause_47 rfl ?_
  refine g_iload_n dX4_closePause_48 rfl ?_
  refine g_bipushv (v := (-6)) dX4_closePause_49 rfl ?_
  refine g_V4v dX4_closePause_51 ml_X4_101 sX4_endPause rfl (by decide) (Nat.le_of_ble_eq_true rfl) (c_endPause (F := (xEnter F mm (F 19 t))) d 0 (by decide) t ht (nI mm) (-6)) ?_
  refine g_iload_n dX4_closePause_54 rfl ?_
  exact g_iret dX4_closePause_55 rfl
