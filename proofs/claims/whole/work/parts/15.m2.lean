set_option maxHeartbeats 4000000 in
set_option maxRecDepth 100000 in
theorem c_rG_no {L : Nat} {F : Nat → Nat → Int32} {g : Nat → Option Nat} (d : Nat) (x v : Int32) (hb : ¬ (0 ≤ x ∧ x ≤ 2)) : mCall (d + 3) yX7_refusesGuest MX7_refusesGuest [.ref 172, .int x, .int v] (mHX L F g) (some (.int (-1))) (mHX L F g) := by
  refine mCall_of sX7_refusesGuest.1 (Nat.le_of_ble_eq_true rfl) ⟨_, rfl, rfl⟩ ?_
  show mGo _ _ (0, [some (.ref 172), some (.int x), some (.int v)], [], _) _
  refine g_iload_n dX7_refusesGuest_0 rfl ?_
  refine g_S1i dX7_refusesGuest_1 ml_X7_63 sX7_isTable (Nat.le_of_ble_eq_true rfl) (c_mTab (d + 1) x) ?_
  refine g_if_ne (tgt := 11) dX7_refusesGuest_4 (by decide) (fun c4 => absurd (mbi_f hb) c4) (fun c4 => ?_)
  refine g_iconstv (v := (-1)) dX7_refusesGuest_7 rfl ?_
  refine g_goto (tgt := 43) dX7_refusesGuest_8 (by decide) ?_
  exact g_iret dX7_refusesGuest_43 rfl
set_option maxHeartbeats 4000000 in
set_option maxRecDepth 100000 in
theorem c_rG_bad {L : Nat} {F : Nat → Nat → Int32} {g : Nat → Option Nat} (d : Nat) (x v : Int32) (ht : 0 ≤ x ∧ x ≤ 2) (hb : ¬ (1 ≤ v ∧ v ≤ 9)) : mCall (d + 3) yX7_refusesGuest MX7_refusesGuest [.ref 172, .int x, .int v] (mHX L F g) (some (.int (-2))) (mHX L F g) := by
  refine mCall_of sX7_refusesGuest.1 (Nat.le_of_ble_eq_true rfl) ⟨_, rfl, rfl⟩ ?_
  show mGo _ _ (0, [some (.ref 172), some (.int x), some (.int v)], [], _) _
  refine g_iload_n dX7_refusesGuest_0 rfl ?_
  refine g_S1i dX7_refusesGuest_1 ml_X7_63 sX7_isTable (Nat.le_of_ble_eq_true rfl) (c_mTab (d + 1) x) ?_
  refine g_if_ne (tgt := 11) dX7_refusesGuest_4 (by decide) (fun c4 => ?_) (fun c4 => absurd c4 (mbi_n0.mpr ht))
  refine g_iload_n dX7_refusesGuest_11 rfl ?_
  refine g_iconstv (v := 1) dX7_refusesGuest_12 rfl ?_
  refine g_bipushv (v := 9) dX7_refusesGuest_13 rfl ?_
  refine g_S3i dX7_refusesGuest_15 ml_X7_33 sX7_in (Nat.le_of_ble_eq_true rfl) (c_in (d + 2) v 1 9) ?_
  refine g_if_ne (tgt := 26) dX7_refusesGuest_18 (by decide) (fun c18 => absurd (mbi_f hb) c18) (fun c18 => ?_)
  refine g_bipushv (v := (-2)) dX7_refusesGuest_21 rfl ?_
  refine g_goto (tgt := 43) dX7_refusesGuest_23 (by decide) ?_
  exact g_iret dX7_refusesGuest_43 rfl
set_option maxHeartbeats 4000000 in
set_option maxRecDepth 100000 in
theorem c_rG_full {L : Nat} {F : Nat → Nat → Int32} {g : Nat → Option Nat} (d : Nat) (x v : Int32) (ht : 0 ≤ x ∧ x ≤ 2) (hv : 1 ≤ v ∧ v ≤ 9) (h : F 173 5 = nI 10) : mCall (d + 3) yX7_refusesGuest MX7_refusesGuest [.ref 172, .int x, .int v] (mHX L F g) (some (.int (-4))) (mHX L F g) := by
  refine mCall_of sX7_refusesGuest.1 (Nat.le_of_ble_eq_true rfl) ⟨_, rfl, rfl⟩ ?_
  show mGo _ _ (0, [some (.ref 172), some (.int x), some (.int v)], [], _) _
  refine g_iload_n dX7_refusesGuest_0 rfl ?_
  refine g_S1i dX7_refusesGuest_1 ml_X7_63 sX7_isTable (Nat.le_of_ble_eq_true rfl) (c_mTab (d + 1) x) ?_
  refine g_if_ne (tgt := 11) dX7_refusesGuest_4 (by decide) (fun c4 => ?_) (fun c4 => absurd c4 (mbi_n0.mpr ht))
  refine g_iload_n dX7_refusesGuest_11 rfl ?_
  refine g_iconstv (v := 1) dX7_refusesGuest_12 rfl ?_
  refine g_bipushv (v := 9) dX7_refusesGuest_13 rfl ?_
  refine g_S3i dX7_refusesGuest_15 ml_X7_33 sX7_in (Nat.le_of_ble_eq_true rfl) (c_in (d + 2) v 1 9) ?_
  refine g_if_ne (tgt := 26) dX7_refusesGuest_18 (by decide) (fun c18 => ?_) (fun c18 => absurd c18 (mbi_n0.mpr hv))
  refine g_aload_n dX7_refusesGuest_26 rfl ?_
  refine g_gR (r := 173) dX7_refusesGuest_27 fl_X7_7 (fun _ _ => rfl) rfl (by decide) rfl ?_
  refine g_iconstv (v := 5) dX7_refusesGuest_30 rfl ?_
  refine g_ialdN (gx := 5) dX7_refusesGuest_31 rfl (by decide) rfl (by omega) (by decide) ?_
  refine g_bipushv (v := 10) dX7_refusesGuest_32 rfl ?_
  refine g_icmp_ne (tgt := 42) dX7_refusesGuest_34 (by decide) (fun c34 => absurd h c34) (fun c34 => ?_)
  refine g_bipushv (v := (-4)) dX7_refusesGuest_37 rfl ?_
  refine g_goto (tgt := 43) dX7_refusesGuest_39 (by decide) ?_
  exact g_iret dX7_refusesGuest_43 rfl
set_option maxHeartbeats 4000000 in
set_option maxRecDepth 100000 in
theorem c_rG_ok {L : Nat} {F : Nat → Nat → Int32} {g : Nat → Option Nat} (d : Nat) (x v : Int32) (ht : 0 ≤ x ∧ x ≤ 2) (hv : 1 ≤ v ∧ v ≤ 9) (h : ¬ F 173 5 = nI 10) : mCall (d + 3) yX7_refusesGuest MX7_refusesGuest [.ref 172, .int x, .int v] (mHX L F g) (some (.int 0)) (mHX L F g) := by
  refine mCall_of sX7_refusesGuest.1 (Nat.le_of_ble_eq_true rfl) ⟨_, rfl, rfl⟩ ?_
  show mGo _ _ (0, [some (.ref 172), some (.int x), some (.int v)], [], _) _
  refine g_iload_n dX7_refusesGuest_0 rfl ?_
  refine g_S1i dX7_refusesGuest_1 ml_X7_63 sX7_isTable (Nat.le_of_ble_eq_true rfl) (c_mTab (d + 1) x) ?_
  refine g_if_ne (tgt := 11) dX7_refusesGuest_4 (by decide) (fun c4 => ?_) (fun c4 => absurd c4 (mbi_n0.mpr ht))
  refine g_iload_n dX7_refusesGuest_11 rfl ?_
  refine g_iconstv (v := 1) dX7_refusesGuest_12 rfl ?_
  refine g_bipushv (v := 9) dX7_refusesGuest_13 rfl ?_
  refine g_S3i dX7_refusesGuest_15 ml_X7_33 sX7_in (Nat.le_of_ble_eq_true rfl) (c_in (d + 2) v 1 9) ?_
  refine g_if_ne (tgt := 26) dX7_refusesGuest_18 (by decide) (fun c18 => ?_) (fun c18 => absurd c18 (mbi_n0.mpr hv))
  refine g_aload_n dX7_refusesGuest_26 rfl ?_
  refine g_gR (r := 173) dX7_refusesGuest_27 fl_X7_7 (fun _ _ => rfl) rfl (by decide) rfl ?_
  refine g_iconstv (v := 5) dX7_refusesGuest_30 rfl ?_
  refine g_ialdN (gx := 5) dX7_refusesGuest_31 rfl (by decide) rfl (by omega) (by decide) ?_
  refine g_bipushv (v := 10) dX7_refusesGuest_32 rfl ?_
  refine g_icmp_ne (tgt := 42) dX7_refusesGuest_34 (by decide) (fun c34 => ?_) (fun c34 => absurd c34 h)
  refine g_iconstv (v := 0) dX7_refusesGuest_42 rfl ?_
  exact g_iret dX7_refusesGuest_43 rfl
def yComes (F : Nat → Nat → Int32) (n : Nat) (x v : Int32) : Nat → Nat → Int32 := (pe (pe (pe (pe F 173 5 ((F 173 5) + 1)) 173 (88 + 6 * n + 0) x) 173 (88 + 6 * n + 1) v) 173 (88 + 6 * n + 3) ((pe (pe (pe F 173 5 ((F 173 5) + 1)) 173 (88 + 6 * n + 0) x) 173 (88 + 6 * n + 1) v) 173 2))
set_option maxHeartbeats 4000000 in
set_option maxRecDepth 100000 in
theorem c_comes {L : Nat} {F : Nat → Nat → Int32} {g : Nat → Option Nat} (d : Nat) (n : Nat) (hm : F 173 5 = nI n) (h10 : n < 10) (x v : Int32) : mCall (d + 1) yX7_comes MX7_comes [.ref 172, .int x, .int v] (mHX L F g) (some (.int (nI n))) (mHX L (yComes F n x v) g) := by
  refine mCall_of sX7_comes.1 (Nat.le_of_ble_eq_true rfl) ⟨_, rfl, rfl⟩ ?_
  show mGo _ _ (0, [some (.ref 172), some (.int x), some (.int v), none], [], _) _
  refine g_aload_n dX7_comes_0 rfl ?_
  refine g_gR (r := 173) dX7_comes_1 fl_X7_7 (fun _ _ => rfl) rfl (by decide) rfl ?_
  refine g_iconstv (v := 5) dX7_comes_4 rfl ?_
  refine g_ialdN (gx := 5) dX7_comes_5 rfl (by decide) rfl (by omega) (by decide) ?_
  rw [hm]
  refine g_istore_n dX7_comes_6 (by decide) rfl ?_
  refine g_aload_n dX7_comes_7 rfl ?_
  refine g_gR (r := 173) dX7_comes_8 fl_X7_7 (fun _ _ => rfl) rfl (by decide) rfl ?_
  refine g_iconstv (v := 5) dX7_comes_11 rfl ?_
  refine g_dup2 dX7_comes_12 rfl rfl ?_
  refine g_ialdN (gx := 5) dX7_comes_13 rfl (by decide) rfl (by omega) (by decide) ?_
  refine g_iconstv (v := 1) dX7_comes_14 rfl ?_
  refine g_iadd dX7_comes_15 ?_
  refine g_iastN (gx := 5) dX7_comes_16 rfl (by decide) rfl (by omega) (by decide) ?_
  refine g_aload_n dX7_comes_17 rfl ?_
  refine g_iload_n dX7_comes_18 rfl ?_
  refine g_iconstv (v := 0) dX7_comes_19 rfl ?_
  refine g_iload_n dX7_comes_20 rfl ?_
  refine g_V3v dX7_comes_21 ml_X7_67 sX7_lay rfl (by decide) (Nat.le_of_ble_eq_true rfl) (c_lay (F := (pe F 173 5 ((F 173 5) + 1))) (d) n 0 (by omega) (by decide) x) ?_
  refine g_aload_n dX7_comes_24 rfl ?_
  refine g_iload_n dX7_comes_25 rfl ?_
  refine g_iconstv (v := 1) dX7_comes_26 rfl ?_
  refine g_iload_n dX7_comes_27 rfl ?_
  refine g_V3v dX7_comes_28 ml_X7_67 sX7_lay rfl (by decide) (Nat.le_of_ble_eq_true rfl) (c_lay (F := (pe (pe F 173 5 ((F 173 5) + 1)) 173 (88 + 6 * n + 0) x)) (d) n 1 (by omega) (by decide) v) ?_
  refine g_aload_n dX7_comes_31 rfl ?_
  refine g_iload_n dX7_comes_32 rfl ?_
  refine g_iconstv (v := 3) dX7_comes_33 rfl ?_
  refine g_aload_n dX7_comes_34 rfl ?_
  refine g_gR (r := 173) dX7_comes_35 fl_X7_7 (fun _ _ => rfl) rfl (by decide) rfl ?_
  refine g_iconstv (v := 2) dX7_comes_38 rfl ?_
  refine g_ialdN (gx := 2) dX7_comes_39 rfl (by decide) rfl (by omega) (by decide) ?_
  refine g_V3v dX7_comes_40 ml_X7_67 sX7_lay rfl (by decide) (Nat.le_of_ble_eq_true rfl) (c_lay (F := (pe (pe (pe F 173 5 ((F 173 5) + 1)) 173 (88 + 6 * n + 0) x) 173 (88 + 6 * n + 1) v)) (d) n 3 (by omega) (by decide) ((pe (pe (pe F 173 5 ((F 173 5) + 1)) 173 (88 + 6 * n + 0) x) 173 (88 + 6 * n + 1) v) 173 2)) ?_
  refine g_iload_n dX7_comes_43 rfl ?_
  exact g_iret dX7_comes_44 rfl
set_option maxHeartbeats 4000000 in
set_option maxRecDepth 100000 in
theorem c_rL_no {L : Nat} {F : Nat → Nat → Int32} {g : Nat → Option Nat} (d : Nat) (n : Nat) (hm : F 173 5 = nI n) (h10 : n ≤ 10) (x : Int32) (hb : ¬ (0 ≤ x ∧ x < nI n)) : mCall (d + 3) yX7_refusesLeaving MX7_refusesLeaving [.ref 172, .int x] (mHX L F g) (some (.int (-1))) (mHX L F g) := by
  refine mCall_of sX7_refusesLeaving.1 (Nat.le_of_ble_eq_true rfl) ⟨_, rfl, rfl⟩ ?_
  show mGo _ _ (0, [some (.ref 172), some (.int x)], [], _) _
  refine g_aload_n dX7_refusesLeaving_0 rfl ?_
  refine g_iload_n dX7_refusesLeaving_1 rfl ?_
  refine g_V1i dX7_refusesLeaving_2 ml_X7_77 sX7_isGuest rfl (by decide) (Nat.le_of_ble_eq_true rfl) (c_mIs (d + 1) n hm h10 x) ?_
  refine g_if_ne (tgt := 12) dX7_refusesLeaving_5 (by decide) (fun c5 => absurd (mbi_f hb) c5) (fun c5 => ?_)
  refine g_iconstv (v := (-1)) dX7_refusesLeaving_8 rfl ?_
  refine g_goto (tgt := 29) dX7_refusesLeaving_9 (by decide) ?_
  exact g_iret dX7_refusesLeaving_29 rfl
set_option maxHeartbeats 4000000 in
set_option maxRecDepth 100000 in
theorem c_rL_gone {L : Nat} {F : Nat → Nat → Int32} {g : Nat → Option Nat} (d : Nat) (n : Nat) (hm : F 173 5 = nI n) (h10 : n ≤ 10) (k : Nat) (hk : k < n) (hs : mC (F 173) 0 k = (-6)) : mCall (d + 3) yX7_refusesLeaving MX7_refusesLeaving [.ref 172, .int (nI k)] (mHX L F g) (some (.int (-5))) (mHX L F g) := by
  refine mCall_of sX7_refusesLeaving.1 (Nat.le_of_ble_eq_true rfl) ⟨_, rfl, rfl⟩ ?_
  show mGo _ _ (0, [some (.ref 172), some (.int (nI k))], [], _) _
  have hk0 : 0 ≤ nI k ∧ nI k < nI n := ⟨nI_pos' (by omega), nI_lt hk (by omega)⟩
  refine g_aload_n dX7_refusesLeaving_0 rfl ?_
  refine g_iload_n dX7_refusesLeaving_1 rfl ?_
  refine g_V1i dX7_refusesLeaving_2 ml_X7_77 sX7_isGuest rfl (by decide) (Nat.le_of_ble_eq_true rfl) (c_mIs (d + 1) n hm h10 (nI k)) ?_
  refine g_if_ne (tgt := 12) dX7_refusesLeaving_5 (by decide) (fun c5 => ?_) (fun c5 => absurd c5 (mbi_n0.mpr hk0))
  refine g_aload_n dX7_refusesLeaving_12 rfl ?_
  refine g_iload_n dX7_refusesLeaving_13 rfl ?_
  refine g_iconstv (v := 0) dX7_refusesLeaving_14 rfl ?_
  refine g_V2i dX7_refusesLeaving_15 ml_X7_40 sX7_has rfl (by decide) (Nat.le_of_ble_eq_true rfl) (c_has (F := F) (d + 2) k 0 (by omega) (by decide)) ?_
  refine g_bipushv (v := (-6)) dX7_refusesLeaving_18 rfl ?_
  refine g_icmp_ne (tgt := 28) dX7_refusesLeaving_20 (by decide) (fun c20 => absurd hs c20) (fun c20 => ?_)
  refine g_bipushv (v := (-5)) dX7_refusesLeaving_23 rfl ?_
  refine g_goto (tgt := 29) dX7_refusesLeaving_25 (by decide) ?_
  exact g_iret dX7_refusesLeaving_29 rfl
set_option maxHeartbeats 4000000 in
set_option maxRecDepth 100000 in
theorem c_rL_ok {L : Nat} {F : Nat → Nat → Int32} {g : Nat → Option Nat} (d : Nat) (n : Nat) (hm : F 173 5 = nI n) (h10 : n ≤ 10) (k : Nat) (hk : k < n) (hs : ¬ mC (F 173) 0 k = (-6)) : mCall (d + 3) yX7_refusesLeaving MX7_refusesLeaving [.ref 172, .int (nI k)] (mHX L F g) (some (.int 0)) (mHX L F g) := by
  refine mCall_of sX7_refusesLeaving.1 (Nat.le_of_ble_eq_true rfl) ⟨_, rfl, rfl⟩ ?_
  show mGo _ _ (0, [some (.ref 172), some (.int (nI k))], [], _) _
  have hk0 : 0 ≤ nI k ∧ nI k < nI n := ⟨nI_pos' (by omega), nI_lt hk (by omega)⟩
  refine g_aload_n dX7_refusesLeaving_0 rfl ?_
  refine g_iload_n dX7_refusesLeaving_1 rfl ?_
  refine g_V1i dX7_refusesLeaving_2 ml_X7_77 sX7_isGuest rfl (by decide) (Nat.le_of_ble_eq_true rfl) (c_mIs (d + 1) n hm h10 (nI k)) ?_
  refine g_if_ne (tgt := 12) dX7_refusesLeaving_5 (by decide) (fun c5 => ?_) (fun c5 => absurd c5 (mbi_n0.mpr hk0))
  refine g_aload_n dX7_refusesLeaving_12 rfl ?_
  refine g_iload_n dX7_refusesLeaving_13 rfl ?_
  refine g_iconstv (v := 0) dX7_refusesLeaving_14 rfl ?_
  refine g_V2i dX7_refusesLeaving_15 ml_X7_40 sX7_has rfl (by decide) (Nat.le_of_ble_eq_true rfl) (c_has (F := F) (d + 2) k 0 (by omega) (by decide)) ?_
  refine g_bipushv (v := (-6)) dX7_refusesLeaving_18 rfl ?_
  refine g_icmp_ne (tgt := 28) dX7_refusesLeaving_20 (by decide) (fun c20 => ?_) (fun c20 => absurd c20 hs)
  refine g_iconstv (v := 0) dX7_refusesLeaving_28 rfl ?_
  exact g_iret dX7_refusesLeaving_29 rfl
theorem m_lay5 {F : Nat → Nat → Int32} {k w j : Nat} {v : Int32} (h : j < 88) : pe F 173 (88 + 6 * k + w) v 173 j = F 173 j := pe_ne (by omega)
theorem m_row {F : Nat → Nat → Int32} {c : Nat} {v : Int32} {x : Nat} (h : x ≠ c) : pe F 173 c v 173 x = F 173 x := pe_ne (fun q => h q.2)
theorem mC_lo {F : Nat → Nat → Int32} {j : Nat} {v : Int32} (h : j < 88) (w : Nat) : mC (pe F 173 j v 173) w = mC (F 173) w := by
  funext k
  exact pe_ne (by omega)
theorem mC_hi {F : Nat → Nat → Int32} {k w : Nat} {v : Int32} (hw : w < 6) : mC (pe F 173 (88 + 6 * k + w) v 173) w = va_up (mC (F 173) w) k v := by
  funext j
  by_cases h : j = k
  · subst h
    rw [va_up_self]
    exact pe_eq _ _ _ _
  · rw [va_up_ne _ _ h]
    exact pe_ne (by omega)
theorem mC_ne {F : Nat → Nat → Int32} {k w u : Nat} {v : Int32} (hw : w < 6) (hu : u < 6) (h : u ≠ w) : mC (pe F 173 (88 + 6 * k + w) v 173) u = mC (F 173) u := by
  funext j
  exact pe_ne (by omega)
set_option maxHeartbeats 4000000 in
set_option maxRecDepth 100000 in
theorem c_goes_0 {L : Nat} {F : Nat → Nat → Int32} {g : Nat → Option Nat} (d : Nat) (n : Nat) (hm : F 173 5 = nI n) (h10 : n ≤ 10) (k : Nat) (hk : k < n) (t : Nat) (ht : t < 3) (to : Int32) (hs : mC (F 173) 0 k = nI t) (h0 : sOnes (sSet (mC ((pe F 173 (88 + 6 * k + 0) to) 173) 0) (nI t) n) = 0) : mCall (d + 2) yX7_goes MX7_goes [.ref 172, .int (nI k), .int to] (mHX L F g) (some (.int ((sOnes (sSet (mC ((pe F 173 (88 + 6 * k + 0) to) 173) 0) (nI t) n))))) (mHX L (pe (pe F 173 (88 + 6 * k + 0) to) 173 (10 + t) (-6)) g) := by
  refine mCall_of sX7_goes.1 (Nat.le_of_ble_eq_true rfl) ⟨_, rfl, rfl⟩ ?_
  show mGo _ _ (0, [some (.ref 172), some (.int (nI k)), some (.int to), none, none], [], _) _
  refine g_aload_n dX7_goes_0 rfl ?_
  refine g_iload_n dX7_goes_1 rfl ?_
  refine g_iconstv (v := 0) dX7_goes_2 rfl ?_
  refine g_V2i dX7_goes_3 ml_X7_40 sX7_has rfl (by decide) (Nat.le_of_ble_eq_true rfl) (c_has (F := F) (d + 1) k 0 (by omega) (by decide)) ?_
  rw [hs]
  refine g_istore_n dX7_goes_6 (by decide) rfl ?_
  refine g_aload_n dX7_goes_7 rfl ?_
  refine g_iload_n dX7_goes_8 rfl ?_
  refine g_iconstv (v := 0) dX7_goes_9 rfl ?_
  refine g_iload_n dX7_goes_10 rfl ?_
  refine g_V3v dX7_goes_11 ml_X7_67 sX7_lay rfl (by decide) (Nat.le_of_ble_eq_true rfl) (c_lay (F := F) (d + 1) k 0 (by omega) (by decide) to) ?_
  refine g_aload_n dX7_goes_14 rfl ?_
  refine g_iload_n dX7_goes_15 rfl ?_
  refine g_V1i dX7_goes_16 ml_X7_48 sX7_guestsAt rfl (by decide) (Nat.le_of_ble_eq_true rfl) (c_mSet (F := (pe F 173 (88 + 6 * k + 0) to)) d n (by rw [m_lay5 (by decide)]; exact hm) h10 (nI t)) ?_
  refine g_S1i dX7_goes_19 ml_X7_44 sX7_ones (Nat.le_of_ble_eq_true rfl) (c_ones (d + 1) (sSet (mC ((pe F 173 (88 + 6 * k + 0) to) 173) 0) (nI t) n)) ?_
  refine g_istore dX7_goes_22 (by decide) rfl ?_
  refine g_aload_n dX7_goes_24 rfl ?_
  refine g_gR (r := 173) dX7_goes_25 fl_X7_7 (fun _ _ => rfl) rfl (by decide) rfl ?_
  refine g_bipushv (v := 10) dX7_goes_28 rfl ?_
  refine g_iload_n dX7_goes_30 rfl ?_
  refine g_iadd dX7_goes_31 ?_
  refine g_iload dX7_goes_32 rfl ?_
  refine g_if_ne (tgt := 42) dX7_goes_34 (by decide) (fun c34 => absurd h0 c34) (fun c34 => ?_)
  refine g_bipushv (v := (-6)) dX7_goes_37 rfl ?_
  refine g_goto (tgt := 51) dX7_goes_39 (by decide) ?_
  refine g_iastN (gx := (10 + t)) dX7_goes_51 rfl (by decide) (nI_add 10 t) (by omega) (by decide) ?_
  refine g_iload dX7_goes_52 rfl ?_
  exact g_iret dX7_goes_54 rfl
set_option maxHeartbeats 4000000 in
set_option maxRecDepth 100000 in
theorem c_goes_n {L : Nat} {F : Nat → Nat → Int32} {g : Nat → Option Nat} (d : Nat) (n : Nat) (hm : F 173 5 = nI n) (h10 : n ≤ 10) (k : Nat) (hk : k < n) (t : Nat) (ht : t < 3) (to : Int32) (hs : mC (F 173) 0 k = nI t) (h0 : ¬ sOnes (sSet (mC ((pe F 173 (88 + 6 * k + 0) to) 173) 0) (nI t) n) = 0) : mCall (d + 2) yX7_goes MX7_goes [.ref 172, .int (nI k), .int to] (mHX L F g) (some (.int (sOnes (sSet (mC ((pe F 173 (88 + 6 * k + 0) to) 173) 0) (nI t) n)))) (mHX L (pe F 173 (88 + 6 * k + 0) to) g) := by
  refine mCall_of sX7_goes.1 (Nat.le_of_ble_eq_true rfl) ⟨_, rfl, rfl⟩ ?_
  show mGo _ _ (0, [some (.ref 172), some (.int (nI k)), some (.int to), none, none], [], _) _
  refine g_aload_n dX7_goes_0 rfl ?_
  refine g_iload_n dX7_goes_1 rfl ?_
  refine g_iconstv (v := 0) dX7_goes_2 rfl ?_
  refine g_V2i dX7_goes_3 ml_X7_40 sX7_has rfl (by decide) (Nat.le_of_ble_eq_true rfl) (c_has (F := F) (d + 1) k 0 (by omega) (by decide)) ?_
  rw [hs]
  refine g_istore_n dX7_goes_6 (by decide) rfl ?_
  refine g_aload_n dX7_goes_7 rfl ?_
  refine g_iload_n dX7_goes_8 rfl ?_
  refine g_iconstv (v := 0) dX7_goes_9 rfl ?_
  refine g_iload_n dX7_goes_10 rfl ?_
  refine g_V3v dX7_goes_11 ml_X7_67 sX7_lay rfl (by decide) (Nat.le_of_ble_eq_true rfl) (c_lay (F := F) (d + 1) k 0 (by omega) (by decide) to) ?_
  refine g_aload_n dX7_goes_14 rfl ?_
  refine g_iload_n dX7_goes_15 rfl ?_
  refine g_V1i dX7_goes_16 ml_X7_48 sX7_guestsAt rfl (by decide) (Nat.le_of_ble_eq_true rfl) (c_mSet (F := (pe F 173 (88 + 6 * k + 0) to)) d n (by rw [m_lay5 (by decide)]; exact hm) h10 (nI t)) ?_
  refine g_S1i dX7_goes_19 ml_X7_44 sX7_ones (Nat.le_of_ble_eq_true rfl) (c_ones (d + 1) (sSet (mC ((pe F 173 (88 + 6 * k + 0) to) 173) 0) (nI t) n)) ?_
  refine g_istore dX7_goes_22 (by decide) rfl ?_
  refine g_aload_n dX7_goes_24 rfl ?_
  refine g_gR (r := 173) dX7_goes_25 fl_X7_7 (fun _ _ => rfl) rfl (by decide) rfl ?_
  refine g_bipushv (v := 10) dX7_goes_28 rfl ?_
  refine g_iload_n dX7_goes_30 rfl ?_
  refine g_iadd dX7_goes_31 ?_
  refine g_iload dX7_goes_32 rfl ?_
  refine g_if_ne (tgt := 42) dX7_goes_34 (by decide) (fun c34 => ?_) (fun c34 => absurd c34 h0)
  refine g_aload_n dX7_goes_42 rfl ?_
  refine g_gR (r := 173) dX7_goes_43 fl_X7_7 (fun _ _ => rfl) rfl (by decide) rfl ?_
  refine g_bipushv (v := 10) dX7_goes_46 rfl ?_
  refine g_iload_n dX7_goes_48 rfl ?_
  refine g_iadd dX7_goes_49 ?_
  refine g_ialdN (gx := (10 + t)) dX7_goes_50 rfl (by decide) (nI_add 10 t) (by omega) (by decide) ?_
  refine g_iastN (gx := (10 + t)) dX7_goes_51 rfl (by decide) (nI_add 10 t) (by omega) (by decide) ?_
  refine g_iload dX7_goes_52 rfl ?_
  exact g_iret dX7_goes_54 (m_ret2 rfl (m_hx (pe_id rfl).symm))
set_option maxHeartbeats 4000000 in
set_option maxRecDepth 100000 in
theorem c_rP_no {L : Nat} {F : Nat → Nat → Int32} {g : Nat → Option Nat} (d : Nat) (x : Int32) (hb : ¬ (0 ≤ x ∧ x ≤ 2)) : mCall (d + 3) yX7_refusesPause MX7_refusesPause [.ref 172, .int x] (mHX L F g) (some (.int (-1))) (mHX L F g) := by
  refine mCall_of sX7_refusesPause.1 (Nat.le_of_ble_eq_true rfl) ⟨_, rfl, rfl⟩ ?_
  show mGo _ _ (0, [some (.ref 172), some (.int x)], [], _) _
  refine g_iload_n dX7_refusesPause_0 rfl ?_
  refine g_S1i dX7_refusesPause_1 ml_X7_63 sX7_isTable (Nat.le_of_ble_eq_true rfl) (c_mTab (d + 1) x) ?_
  refine g_if_ne (tgt := 11) dX7_refusesPause_4 (by decide) (fun c4 => absurd (mbi_f hb) c4) (fun c4 => ?_)
  refine g_iconstv (v := (-1)) dX7_refusesPause_7 rfl ?_
  refine g_goto (tgt := 33) dX7_refusesPause_8 (by decide) ?_
  exact g_iret dX7_refusesPause_33 rfl
set_option maxHeartbeats 4000000 in
set_option maxRecDepth 100000 in
theorem c_rP_is {L : Nat} {F : Nat → Nat → Int32} {g : Nat → Option Nat} (d : Nat) (t : Nat) (ht : t < 3) (hp : ¬ F 173 (10 + t) = (-6)) : mCall (d + 3) yX7_refusesPause MX7_refusesPause [.ref 172, .int (nI t)] (mHX L F g) (some (.int (-5))) (mHX L F g) := by
  refine mCall_of sX7_refusesPause.1 (Nat.le_of_ble_eq_true rfl) ⟨_, rfl, rfl⟩ ?_
  show mGo _ _ (0, [some (.ref 172), some (.int (nI t))], [], _) _
  have ht0 : 0 ≤ nI t ∧ nI t ≤ 2 := ⟨nI_pos' (by omega), nI_le (b := 2) (by omega) (by decide)⟩
  refine g_iload_n dX7_refusesPause_0 rfl ?_
  refine g_S1i dX7_refusesPause_1 ml_X7_63 sX7_isTable (Nat.le_of_ble_eq_true rfl) (c_mTab (d + 1) (nI t)) ?_
  refine g_if_ne (tgt := 11) dX7_refusesPause_4 (by decide) (fun c4 => ?_) (fun c4 => absurd c4 (mbi_n0.mpr ht0))
  refine g_aload_n dX7_refusesPause_11 rfl ?_
  refine g_iload_n dX7_refusesPause_12 rfl ?_
  refine g_V1i dX7_refusesPause_13 ml_X7_86 sX7_isPause rfl (by decide) (Nat.le_of_ble_eq_true rfl) (c_mPa (d + 2) t ht) ?_
  refine g_if_ne (tgt := 27) dX7_refusesPause_16 (by decide) (fun c16 => ?_) (fun c16 => absurd c16 (mbi_n0.mpr hp))
  refine g_bipushv (v := (-5)) dX7_refusesPause_27 rfl ?_
  refine g_goto (tgt := 33) dX7_refusesPause_29 (by decide) ?_
  exact g_iret dX7_refusesPause_33 rfl
set_option maxHeartbeats 4000000 in
set_option maxRecDepth 100000 in
theorem c_rP_nobody {L : Nat} {F : Nat → Nat → Int32} {g : Nat → Option Nat} (d : Nat) (n : Nat) (hm : F 173 5 = nI n) (h10 : n ≤ 10) (t : Nat) (ht : t < 3) (hp : F 173 (10 + t) = (-6)) (h0 : sSet (mC (F 173) 0) (nI t) n = 0) : mCall (d + 3) yX7_refusesPause MX7_refusesPause [.ref 172, .int (nI t)] (mHX L F g) (some (.int (-5))) (mHX L F g) := by
  refine mCall_of sX7_refusesPause.1 (Nat.le_of_ble_eq_true rfl) ⟨_, rfl, rfl⟩ ?_
  show mGo _ _ (0, [some (.ref 172), some (.int (nI t))], [], _) _
  have ht0 : 0 ≤ nI t ∧ nI t ≤ 2 := ⟨nI_pos' (by omega), nI_le (b := 2) (by omega) (by decide)⟩
  refine g_iload_n dX7_refusesPause_0 rfl ?_
  refine g_S1i dX7_refusesPause_1 ml_X7_63 sX7_isTable (Nat.le_of_ble_eq_true rfl) (c_mTab (d + 1) (nI t)) ?_
  refine g_if_ne (tgt := 11) dX7_refusesPause_4 (by decide) (fun c4 => ?_) (fun c4 => absurd c4 (mbi_n0.mpr ht0))
  refine g_aload_n dX7_refusesPause_11 rfl ?_
  refine g_iload_n dX7_refusesPause_12 rfl ?_
  refine g_V1i dX7_refusesPause_13 ml_X7_86 sX7_isPause rfl (by decide) (Nat.le_of_ble_eq_true rfl) (c_mPa (d + 2) t ht) ?_
  refine g_if_ne (tgt := 27) dX7_refusesPause_16 (by decide) (fun c16 => absurd (mbi_f (fun q => q hp)) c16) (fun c16 => ?_)
  refine g_aload_n dX7_refusesPause_19 rfl ?_
  refine g_iload_n dX7_refusesPause_20 rfl ?_
  refine g_V1i dX7_refusesPause_21 ml_X7_48 sX7_guestsAt rfl (by decide) (Nat.le_of_ble_eq_true rfl) (c_mSet (d + 1) n hm h10 (nI t)) ?_
  refine g_if_ne (tgt := 32) dX7_refusesPause_24 (by decide) (fun c24 => absurd h0 c24) (fun c24 => ?_)
  refine g_bipushv (v := (-5)) dX7_refusesPause_27 rfl ?_
  refine g_goto (tgt := 33) dX7_refusesPause_29 (by decide) ?_
  exact g_iret dX7_refusesPause_33 rfl
set_option maxHeartbeats 4000000 in
set_option maxRecDepth 100000 in
theorem c_rP_ok {L : Nat} {F : Nat → Nat → Int32} {g : Nat → Option Nat} (d : Nat) (n : Nat) (hm : F 173 5 = nI n) (h10 : n ≤ 10) (t : Nat) (ht : t < 3) (hp : F 173 (10 + t) = (-6)) (h0 : ¬ sSet (mC (F 173) 0) (nI t) n = 0) : mCall (d + 3) yX7_refusesPause MX7_refusesPause [.ref 172, .int (nI t)] (mHX L F g) (some (.int 0)) (mHX L F g) := by
  refine mCall_of sX7_refusesPause.1 (Nat.le_of_ble_eq_true rfl) ⟨_, rfl, rfl⟩ ?_
  show mGo _ _ (0, [some (.ref 172), some (.int (nI t))], [], _) _
  have ht0 : 0 ≤ nI t ∧ nI t ≤ 2 := ⟨nI_pos' (by omega), nI_le (b := 2) (by omega) (by decide)⟩
  refine g_iload_n dX7_refusesPause_0 rfl ?_
  refine g_S1i dX7_refusesPause_1 ml_X7_63 sX7_isTable (Nat.le_of_ble_eq_true rfl) (c_mTab (d + 1) (nI t)) ?_
  refine g_if_ne (tgt := 11) dX7_refusesPause_4 (by decide) (fun c4 => ?_) (fun c4 => absurd c4 (mbi_n0.mpr ht0))
  refine g_aload_n dX7_refusesPause_11 rfl ?_
  refine g_iload_n dX7_refusesPause_12 rfl ?_
  refine g_V1i dX7_refusesPause_13 ml_X7_86 sX7_isPause rfl (by decide) (Nat.le_of_ble_eq_true rfl) (c_mPa (d + 2) t ht) ?_
  refine g_if_ne (tgt := 27) dX7_refusesPause_16 (by decide) (fun c16 => absurd (mbi_f (fun q => q hp)) c16) (fun c16 => ?_)
  refine g_aload_n dX7_refusesPause_19 rfl ?_
  refine g_iload_n dX7_refusesPause_20 rfl ?_
  refine g_V1i dX7_refusesPause_21 ml_X7_48 sX7_guestsAt rfl (by decide) (Nat.le_of_ble_eq_true rfl) (c_mSet (d + 1) n hm h10 (nI t)) ?_
  refine g_if_ne (tgt := 32) dX7_refusesPause_24 (by decide) (fun c24 => ?_) (fun c24 => absurd c24 h0)
  refine g_iconstv (v := 0) dX7_refusesPause_32 rfl ?_
  exact g_iret dX7_refusesPause_33 rfl
set_option maxHeartbeats 4000000 in
set_option maxRecDepth 100000 in
theorem c_begins {L : Nat} {F : Nat → Nat → Int32} {g : Nat → Option Nat} (d : Nat) (n : Nat) (hm : F 173 5 = nI n) (h10 : n ≤ 10) (t : Nat) (ht : t < 3) : mCall (d + 3) yX7_begins MX7_begins [.ref 172, .int (nI t)] (mHX L F g) (some (.int (mSC (F 173) n (nI t)))) (mHX L (pe F 173 (10 + t) 0) g) := by
  refine mCall_of sX7_begins.1 (Nat.le_of_ble_eq_true rfl) ⟨_, rfl, rfl⟩ ?_
  show mGo _ _ (0, [some (.ref 172), some (.int (nI t))], [], _) _
  refine g_aload_n dX7_begins_0 rfl ?_
  refine g_gR (r := 173) dX7_begins_1 fl_X7_7 (fun _ _ => rfl) rfl (by decide) rfl ?_
  refine g_bipushv (v := 10) dX7_begins_4 rfl ?_
  refine g_iload_n dX7_begins_6 rfl ?_
  refine g_iadd dX7_begins_7 ?_
  refine g_iconstv (v := 0) dX7_begins_8 rfl ?_
  refine g_iastN (gx := (10 + t)) dX7_begins_9 rfl (by decide) (nI_add 10 t) (by omega) (by decide) ?_
  refine g_aload_n dX7_begins_10 rfl ?_
  refine g_aload_n dX7_begins_11 rfl ?_
  refine g_iload_n dX7_begins_12 rfl ?_
  refine g_V1i dX7_begins_13 ml_X7_48 sX7_guestsAt rfl (by decide) (Nat.le_of_ble_eq_true rfl) (c_mSet (F := (pe F 173 (10 + t) 0)) (d + 1) n (by rw [pe_ne (by omega)]; exact hm) h10 (nI t)) ?_
  refine g_V1i dX7_begins_16 ml_X7_51 sX7_companyOf rfl (by decide) (Nat.le_of_ble_eq_true rfl) (c_mComp (F := (pe F 173 (10 + t) 0)) (d + 1) n (by rw [pe_ne (by omega)]; exact hm) h10 (sSet (mC ((pe F 173 (10 + t) 0) 173) 0) (nI t) n)) ?_
  exact g_iret dX7_begins_19 (m_ret (by rw [mC_lo (by omega), mC_lo (by omega)]; rfl))
def yEn1 (F : Nat → Nat → Int32) (e t h : Nat) (m w : Int32) : Nat → Nat → Int32 := (pe (pe (pe (pe (pe (pe (pe (pe (pe F 173 (38 + 5 * e) (nI h)) 173 ((38 + 5 * e) + 1) (nI t)) 173 ((38 + 5 * e) + 2) ((pe (pe F 173 (38 + 5 * e) (nI h)) 173 ((38 + 5 * e) + 1) (nI t)) 173 (10 + t))) 173 ((38 + 5 * e) + 3) m) 173 ((38 + 5 * e) + 4) w) 173 9 (((pe (pe (pe (pe (pe F 173 (38 + 5 * e) (nI h)) 173 ((38 + 5 * e) + 1) (nI t)) 173 ((38 + 5 * e) + 2) ((pe (pe F 173 (38 + 5 * e) (nI h)) 173 ((38 + 5 * e) + 1) (nI t)) 173 (10 + t))) 173 ((38 + 5 * e) + 3) m) 173 ((38 + 5 * e) + 4) w) 173 9) + 1)) 173 (6 + h) (((pe (pe (pe (pe (pe (pe F 173 (38 + 5 * e) (nI h)) 173 ((38 + 5 * e) + 1) (nI t)) 173 ((38 + 5 * e) + 2) ((pe (pe F 173 (38 + 5 * e) (nI h)) 173 ((38 + 5 * e) + 1) (nI t)) 173 (10 + t))) 173 ((38 + 5 * e) + 3) m) 173 ((38 + 5 * e) + 4) w) 173 9 (((pe (pe (pe (pe (pe F 173 (38 + 5 * e) (nI h)) 173 ((38 + 5 * e) + 1) (nI t)) 173 ((38 + 5 * e) + 2) ((pe (pe F 173 (38 + 5 * e) (nI h)) 173 ((38 + 5 * e) + 1) (nI t)) 173 (10 + t))) 173 ((38 + 5 * e) + 3) m) 173 ((38 + 5 * e) + 4) w) 173 9) + 1)) 173 (6 + h)) + 1)) 173 (13 + t) (((pe (pe (pe (pe (pe (pe (pe F 173 (38 + 5 * e) (nI h)) 173 ((38 + 5 * e) + 1) (nI t)) 173 ((38 + 5 * e) + 2) ((pe (pe F 173 (38 + 5 * e) (nI h)) 173 ((38 + 5 * e) + 1) (nI t)) 173 (10 + t))) 173 ((38 + 5 * e) + 3) m) 173 ((38 + 5 * e) + 4) w) 173 9 (((pe (pe (pe (pe (pe F 173 (38 + 5 * e) (nI h)) 173 ((38 + 5 * e) + 1) (nI t)) 173 ((38 + 5 * e) + 2) ((pe (pe F 173 (38 + 5 * e) (nI h)) 173 ((38 + 5 * e) + 1) (nI t)) 173 (10 + t))) 173 ((38 + 5 * e) + 3) m) 173 ((38 + 5 * e) + 4) w) 173 9) + 1)) 173 (6 + h) (((pe (pe (pe (pe (pe (pe F 173 (38 + 5 * e) (nI h)) 173 ((38 + 5 * e) + 1) (nI t)) 173 ((38 + 5 * e) + 2) ((pe (pe F 173 (38 + 5 * e) (nI h)) 173 ((38 + 5 * e) + 1) (nI t)) 173 (10 + t))) 173 ((38 + 5 * e) + 3) m) 173 ((38 + 5 * e) + 4) w) 173 9 (((pe (pe (pe (pe (pe F 173 (38 + 5 * e) (nI h)) 173 ((38 + 5 * e) + 1) (nI t)) 173 ((38 + 5 * e) + 2) ((pe (pe F 173 (38 + 5 * e) (nI h)) 173 ((38 + 5 * e) + 1) (nI t)) 173 (10 + t))) 173 ((38 + 5 * e) + 3) m) 173 ((38 + 5 * e) + 4) w) 173 9) + 1)) 173 (6 + h)) + 1)) 173 (13 + t)) + 1)) 173 (10 + t) (-6))
set_option maxHeartbeats 4000000 in
set_option maxRecDepth 100000 in
theorem lp_en1 {L : Nat} {F : Nat → Nat → Int32} {g : Nat → Option Nat} (d : Nat) (e : Nat) (he : e < 10) (ee : F 173 9 = nI e) (t : Nat) (ht : t < 3) (h : Nat) (hh : h < 3) (m w : Int32) (j : Option Value) : mGo MX7_ends (d) (68, [some (.ref 172), some (.int (nI t)), some (.int (nI h)), some (.int m), some (.int w), j], [], mHX L F g) (none, mHX L (yEn1 F e t h m w) g) := by
  refine g_bipushv (v := 38) dX7_ends_68 rfl ?_
  refine g_iconstv (v := 5) dX7_ends_70 rfl ?_
  refine g_aload_n dX7_ends_71 rfl ?_
  refine g_gR (r := 173) dX7_ends_72 fl_X7_7 (fun _ _ => rfl) rfl (by decide) rfl ?_
  refine g_bipushv (v := 9) dX7_ends_75 rfl ?_
  refine g_ialdN (gx := 9) dX7_ends_77 rfl (by decide) rfl (by omega) (by decide) ?_
  refine g_imul dX7_ends_78 ?_
  refine g_iadd dX7_ends_79 ?_
  rw [ee, show (5 : Int32) = nI 5 from rfl, show (38 : Int32) = nI 38 from rfl, pk_mul, nI_add]
  refine g_istore dX7_ends_80 (by decide) rfl ?_
  refine g_aload_n dX7_ends_82 rfl ?_
  refine g_gR (r := 173) dX7_ends_83 fl_X7_7 (fun _ _ => rfl) rfl (by decide) rfl ?_
  refine g_iload dX7_ends_86 rfl ?_
  refine g_iload_n dX7_ends_88 rfl ?_
  refine g_iastN (gx := (38 + 5 * e)) dX7_ends_89 rfl (by decide) rfl (by omega) (by decide) ?_
  refine g_aload_n dX7_ends_90 rfl ?_
  refine g_gR (r := 173) dX7_ends_91 fl_X7_7 (fun _ _ => rfl) rfl (by decide) rfl ?_
  refine g_iload dX7_ends_94 rfl ?_
  refine g_iconstv (v := 1) dX7_ends_96 rfl ?_
  refine g_iadd dX7_ends_97 ?_
  refine g_iload_n dX7_ends_98 rfl ?_
  refine g_iastN (gx := ((38 + 5 * e) + 1)) dX7_ends_99 rfl (by decide) (nI_add (38 + 5 * e) 1) (by omega) (by decide) ?_
  refine g_aload_n dX7_ends_100 rfl ?_
  refine g_gR (r := 173) dX7_ends_101 fl_X7_7 (fun _ _ => rfl) rfl (by decide) rfl ?_
  refine g_iload dX7_ends_104 rfl ?_
  refine g_iconstv (v := 2) dX7_ends_106 rfl ?_
  refine g_iadd dX7_ends_107 ?_
  refine g_aload_n dX7_ends_108 rfl ?_
  refine g_gR (r := 173) dX7_ends_109 fl_X7_7 (fun _ _ => rfl) rfl (by decide) rfl ?_
  refine g_bipushv (v := 10) dX7_ends_112 rfl ?_
  refine g_iload_n dX7_ends_114 rfl ?_
  refine g_iadd dX7_ends_115 ?_
  refine g_ialdN (gx := (10 + t)) dX7_ends_116 rfl (by decide) (nI_add 10 t) (by omega) (by decide) ?_
  refine g_iastN (gx := ((38 + 5 * e) + 2)) dX7_ends_117 rfl (by decide) (nI_add (38 + 5 * e) 2) (by omega) (by decide) ?_
  refine g_aload_n dX7_ends_118 rfl ?_
  refine g_gR (r := 173) dX7_ends_119 fl_X7_7 (fun _ _ => rfl) rfl (by decide) rfl ?_
  refine g_iload dX7_ends_122 rfl ?_
  refine g_iconstv (v := 3) dX7_ends_124 rfl ?_
  refine g_iadd dX7_ends_125 ?_
  refine g_iload_n dX7_ends_126 rfl ?_
  refine g_iastN (gx := ((38 + 5 * e) + 3)) dX7_ends_127 rfl (by decide) (nI_add (38 + 5 * e) 3) (by omega) (by decide) ?_
  refine g_aload_n dX7_ends_128 rfl ?_
  refine g_gR (r := 173) dX7_ends_129 fl_X7_7 (fun _ _ => rfl) rfl (by decide) rfl ?_
  refine g_iload dX7_ends_132 rfl ?_
  refine g_iconstv (v := 4) dX7_ends_134 rfl ?_
  refine g_iadd dX7_ends_135 ?_
  refine g_iload dX7_ends_136 rfl ?_
  refine g_iastN (gx := ((38 + 5 * e) + 4)) dX7_ends_138 rfl (by decide) (nI_add (38 + 5 * e) 4) (by omega) (by decide) ?_
  refine g_aload_n dX7_ends_139 rfl ?_
  refine g_gR (r := 173) dX7_ends_140 fl_X7_7 (fun _ _ => rfl) rfl (by decide) rfl ?_
  refine g_bipushv (v := 9) dX7_ends_143 rfl ?_
  refine g_dup2 dX7_ends_145 rfl rfl ?_
  refine g_ialdN (gx := 9) dX7_ends_146 rfl (by decide) rfl (by omega) (by decide) ?_
  refine g_iconstv (v := 1) dX7_ends_147 rfl ?_
  refine g_iadd dX7_ends_148 ?_
  refine g_iastN (gx := 9) dX7_ends_149 rfl (by decide) rfl (by omega) (by decide) ?_
  refine g_aload_n dX7_ends_150 rfl ?_
  refine g_gR (r := 173) dX7_ends_151 fl_X7_7 (fun _ _ => rfl) rfl (by decide) rfl ?_
  refine g_bipushv (v := 6) dX7_ends_154 rfl ?_
  refine g_iload_n dX7_ends_156 rfl ?_
  refine g_iadd dX7_ends_157 ?_
  refine g_dup2 dX7_ends_158 rfl rfl ?_
  refine g_ialdN (gx := (6 + h)) dX7_ends_159 rfl (by decide) (nI_add 6 h) (by omega) (by decide) ?_
  refine g_iconstv (v := 1) dX7_ends_160 rfl ?_
  refine g_iadd dX7_ends_161 ?_
  refine g_iastN (gx := (6 + h)) dX7_ends_162 rfl (by decide) (nI_add 6 h) (by omega) (by decide) ?_
  refine g_aload_n dX7_ends_163 rfl ?_
  refine g_gR (r := 173) dX7_ends_164 fl_X7_7 (fun _ _ => rfl) rfl (by decide) rfl ?_
  refine g_bipushv (v := 13) dX7_ends_167 rfl ?_
  refine g_iload_n dX7_ends_169 rfl ?_
  refine g_iadd dX7_ends_170 ?_
  refine g_dup2 dX7_ends_171 rfl rfl ?_
  refine g_ialdN (gx := (13 + t)) dX7_ends_172 rfl (by decide) (nI_add 13 t) (by omega) (by decide) ?_
  refine g_iconstv (v := 1) dX7_ends_173 rfl ?_
  refine g_iadd dX7_ends_174 ?_
  refine g_iastN (gx := (13 + t)) dX7_ends_175 rfl (by decide) (nI_add 13 t) (by omega) (by decide) ?_
  refine g_aload_n dX7_ends_176 rfl ?_
  refine g_gR (r := 173) dX7_ends_177 fl_X7_7 (fun _ _ => rfl) rfl (by decide) rfl ?_
  refine g_bipushv (v := 10) dX7_ends_180 rfl ?_
  refine g_iload_n dX7_ends_182 rfl ?_
  refine g_iadd dX7_ends_183 ?_
  refine g_bipushv (v := (-6)) dX7_ends_184 rfl ?_
  refine g_iastN (gx := (10 + t)) dX7_ends_186 rfl (by decide) (nI_add 10 t) (by omega) (by decide) ?_
  exact g_vret dX7_ends_187 rfl
def yShE (F : Nat → Nat → Int32) : Nat → Nat → Int32 := cpB (pe F 173 9 (F 173 9 - 1)) 173 173 43 38 45
def yEnds (F : Nat → Nat → Int32) (e t h : Nat) (m w : Int32) : Nat → Nat → Int32 := if e < 10 then yEn1 F e t h m w else yEn1 (yShE F) 9 t h m w
set_option maxHeartbeats 4000000 in
set_option maxRecDepth 100000 in
theorem lp_enS {L : Nat} {F : Nat → Nat → Int32} {g : Nat → Option Nat} (d : Nat) (ee : F 173 9 = nI 10) (t : Nat) (ht : t < 3) (h : Nat) (hh : h < 3) (m w : Int32) : ∀ (r k : Nat) (G : Nat → Nat → Int32), k + r = 45 → G = cpB (pe F 173 9 (F 173 9 - 1)) 173 173 43 38 k → mGo MX7_ends d (26, [some (.ref 172), some (.int (nI t)), some (.int (nI h)), some (.int m), some (.int w), some (.int (nI k))], [], mHX L G g) (none, mHX L (yEn1 (yShE F) 9 t h m w) g) := by
  intro r
  induction r with
  | zero =>
    intro k G hk eG
    obtain rfl : k = 45 := by omega
    have e9 : G 173 9 = nI 9 := by rw [eG, cpB_at, if_neg (by decide), pe_eq, ee]; rfl
    refine g_iload dX7_ends_26 rfl ?_
    refine g_iconstv (v := 5) dX7_ends_28 rfl ?_
    refine g_aload_n dX7_ends_29 rfl ?_
    refine g_gR (r := 173) dX7_ends_30 fl_X7_7 (fun _ _ => rfl) rfl (by decide) rfl ?_
    refine g_bipushv (v := 9) dX7_ends_33 rfl ?_
    refine g_ialdN (gx := 9) dX7_ends_35 rfl (by decide) rfl (by omega) (by decide) ?_
    refine g_imul dX7_ends_36 ?_
    refine g_icmp_ge (tgt := 68) dX7_ends_37 (by decide) (fun c37 => ?_) (fun c37 => absurd (by rw [e9]; decide) c37)
    subst eG
    exact lp_en1 (F := yShE F) d 9 (by decide) e9 t ht h hh m w _
  | succ r ih =>
    intro k G hk eG
    have e9 : G 173 9 = nI 9 := by rw [eG, cpB_at, if_neg (by omega), pe_eq, ee]; rfl
    refine g_iload dX7_ends_26 rfl ?_
    refine g_iconstv (v := 5) dX7_ends_28 rfl ?_
    refine g_aload_n dX7_ends_29 rfl ?_
    refine g_gR (r := 173) dX7_ends_30 fl_X7_7 (fun _ _ => rfl) rfl (by decide) rfl ?_
    refine g_bipushv (v := 9) dX7_ends_33 rfl ?_
    refine g_ialdN (gx := 9) dX7_ends_35 rfl (by decide) rfl (by omega) (by decide) ?_
    refine g_imul dX7_ends_36 ?_
    refine g_icmp_ge (tgt := 68) dX7_ends_37 (by decide) (fun c37 => absurd c37 (by rw [e9, show (5 : Int32) = nI 5 from rfl, pk_mul]; exact nI_ge (a := k) (b := 5 * 9) (by omega) (by decide))) (fun c37 => ?_)
    refine g_aload_n dX7_ends_40 rfl ?_
    refine g_gR (r := 173) dX7_ends_41 fl_X7_7 (fun _ _ => rfl) rfl (by decide) rfl ?_
    refine g_bipushv (v := 38) dX7_ends_44 rfl ?_
    refine g_iload dX7_ends_46 rfl ?_
    refine g_iadd dX7_ends_48 ?_
    refine g_aload_n dX7_ends_49 rfl ?_
    refine g_gR (r := 173) dX7_ends_50 fl_X7_7 (fun _ _ => rfl) rfl (by decide) rfl ?_
    refine g_bipushv (v := 38) dX7_ends_53 rfl ?_
    refine g_iload dX7_ends_55 rfl ?_
    refine g_iadd dX7_ends_57 ?_
    refine g_iconstv (v := 5) dX7_ends_58 rfl ?_
    refine g_iadd dX7_ends_59 ?_
    refine g_ialdN (gx := (43 + k)) dX7_ends_60 rfl (by decide) (by rw [show (38 : Int32) = nI 38 from rfl, show (5 : Int32) = nI 5 from rfl, nI_add, nI_add, show 38 + k + 5 = 43 + k by omega]) (by omega) (by decide) ?_
    refine g_iastN (gx := (38 + k)) dX7_ends_61 rfl (by decide) (nI_add 38 k) (by omega) (by decide) ?_
    refine g_iincN dX7_ends_62 rfl (by decide) rfl ?_
    refine g_goto (tgt := 26) dX7_ends_65 (by decide) ?_
    refine ih (k + 1) _ (by omega) ?_
    subst eG
    exact cpB_step (by rw [cpB_at, if_neg (by omega)])
set_option maxHeartbeats 4000000 in
set_option maxRecDepth 100000 in
theorem c_en_lo {L : Nat} {F : Nat → Nat → Int32} {g : Nat → Option Nat} (d : Nat) (e : Nat) (he : e < 10) (ee : F 173 9 = nI e) (t : Nat) (ht : t < 3) (h : Nat) (hh : h < 3) (m w : Int32) : mCall (d) yX7_ends MX7_ends [.ref 172, .int (nI t), .int (nI h), .int m, .int w] (mHX L F g) (none) (mHX L (yEn1 F e t h m w) g) := by
  refine mCall_of sX7_ends.1 (Nat.le_of_ble_eq_true rfl) rfl ?_
  show mGo _ _ (0, [some (.ref 172), some (.int (nI t)), some (.int (nI h)), some (.int m), some (.int w), none], [], _) _
  refine g_aload_n dX7_ends_0 rfl ?_
  refine g_gR (r := 173) dX7_ends_1 fl_X7_7 (fun _ _ => rfl) rfl (by decide) rfl ?_
  refine g_bipushv (v := 9) dX7_ends_4 rfl ?_
  refine g_ialdN (gx := 9) dX7_ends_6 rfl (by decide) rfl (by omega) (by decide) ?_
  refine g_bipushv (v := 10) dX7_ends_7 rfl ?_
  refine g_icmp_ne (tgt := 68) dX7_ends_9 (by decide) (fun c9 => ?_) (fun c9 => absurd c9 (by rw [ee]; exact fun z => absurd ((nI_eq (a := e) (b := 10) (by omega) (by decide)).mp z) (by omega)))
  exact lp_en1 d e he ee t ht h hh m w _
set_option maxHeartbeats 4000000 in
set_option maxRecDepth 100000 in
theorem c_en_hi {L : Nat} {F : Nat → Nat → Int32} {g : Nat → Option Nat} (d : Nat) (ee : F 173 9 = nI 10) (t : Nat) (ht : t < 3) (h : Nat) (hh : h < 3) (m w : Int32) : mCall (d) yX7_ends MX7_ends [.ref 172, .int (nI t), .int (nI h), .int m, .int w] (mHX L F g) (none) (mHX L (yEn1 (yShE F) 9 t h m w) g) := by
  refine mCall_of sX7_ends.1 (Nat.le_of_ble_eq_true rfl) rfl ?_
  show mGo _ _ (0, [some (.ref 172), some (.int (nI t)), some (.int (nI h)), some (.int m), some (.int w), none], [], _) _
  refine g_aload_n dX7_ends_0 rfl ?_
  refine g_gR (r := 173) dX7_ends_1 fl_X7_7 (fun _ _ => rfl) rfl (by decide) rfl ?_
  refine g_bipushv (v := 9) dX7_ends_4 rfl ?_
  refine g_ialdN (gx := 9) dX7_ends_6 rfl (by decide) rfl (by omega) (by decide) ?_
  refine g_bipushv (v := 10) dX7_ends_7 rfl ?_
  refine g_icmp_ne (tgt := 68) dX7_ends_9 (by decide) (fun c9 => absurd ee c9) (fun c9 => ?_)
  refine g_aload_n dX7_ends_12 rfl ?_
  refine g_gR (r := 173) dX7_ends_13 fl_X7_7 (fun _ _ => rfl) rfl (by decide) rfl ?_
  refine g_bipushv (v := 9) dX7_ends_16 rfl ?_
  refine g_dup2 dX7_ends_18 rfl rfl ?_
  refine g_ialdN (gx := 9) dX7_ends_19 rfl (by decide) rfl (by omega) (by decide) ?_
  refine g_iconstv (v := 1) dX7_ends_20 rfl ?_
  refine g_isub dX7_ends_21 ?_
  refine g_iastN (gx := 9) dX7_ends_22 rfl (by decide) rfl (by omega) (by decide) ?_
  refine g_iconstv (v := 0) dX7_ends_23 rfl ?_
  refine g_istore dX7_ends_24 (by decide) rfl ?_
  exact lp_enS d ee t ht h hh m w 45 0 _ (by decide) (cpB_zero _ _ _ _ _).symm
theorem c_ends {L : Nat} {F : Nat → Nat → Int32} {g : Nat → Option Nat} (d : Nat) (e : Nat) (he : e ≤ 10) (ee : F 173 9 = nI e) (t : Nat) (ht : t < 3) (h : Nat) (hh : h < 3) (m w : Int32) : mCall d yX7_ends MX7_ends [.ref 172, .int (nI t), .int (nI h), .int m, .int w] (mHX L F g) none (mHX L (yEnds F e t h m w) g) := by
  by_cases q : e < 10
  · simp only [yEnds, if_pos q]
    exact c_en_lo d e q ee t ht h hh m w
  · simp only [yEnds, if_neg q]
    exact c_en_hi d (by rw [ee, show e = 10 by omega]) t ht h hh m w
set_option maxHeartbeats 4000000 in
set_option maxRecDepth 100000 in
theorem c_rC_no {L : Nat} {F : Nat → Nat → Int32} {g : Nat → Option Nat} (d : Nat) (x : Int32) (hb : ¬ (0 ≤ x ∧ x ≤ 2)) : mCall (d + 3) yX7_refusesClosing MX7_refusesClosing [.ref 172, .int x] (mHX L F g) (some (.int (-1))) (mHX L F g) := by
  refine mCall_of sX7_refusesClosing.1 (Nat.le_of_ble_eq_true rfl) ⟨_, rfl, rfl⟩ ?_
  show mGo _ _ (0, [some (.ref 172), some (.int x)], [], _) _
  refine g_iload_n dX7_refusesClosing_0 rfl ?_
  refine g_S1i dX7_refusesClosing_1 ml_X7_63 sX7_isTable (Nat.le_of_ble_eq_true rfl) (c_mTab (d + 1) x) ?_
  refine g_if_ne (tgt := 11) dX7_refusesClosing_4 (by decide) (fun c4 => absurd (mbi_f hb) c4) (fun c4 => ?_)
  refine g_iconstv (v := (-1)) dX7_refusesClosing_7 rfl ?_
  refine g_goto (tgt := 25) dX7_refusesClosing_8 (by decide) ?_
  exact g_iret dX7_refusesClosing_25 rfl
set_option maxHeartbeats 4000000 in
set_option maxRecDepth 100000 in
theorem c_rC_none {L : Nat} {F : Nat → Nat → Int32} {g : Nat → Option Nat} (d : Nat) (t : Nat) (ht : t < 3) (hp : F 173 (10 + t) = (-6)) : mCall (d + 3) yX7_refusesClosing MX7_refusesClosing [.ref 172, .int (nI t)] (mHX L F g) (some (.int (-5))) (mHX L F g) := by
  refine mCall_of sX7_refusesClosing.1 (Nat.le_of_ble_eq_true rfl) ⟨_, rfl, rfl⟩ ?_
  show mGo _ _ (0, [some (.ref 172), some (.int (nI t))], [], _) _
  have ht0 : 0 ≤ nI t ∧ nI t ≤ 2 := ⟨nI_pos' (by omega), nI_le (b := 2) (by omega) (by decide)⟩
  refine g_iload_n dX7_refusesClosing_0 rfl ?_
  refine g_S1i dX7_refusesClosing_1 ml_X7_63 sX7_isTable (Nat.le_of_ble_eq_true rfl) (c_mTab (d + 1) (nI t)) ?_
  refine g_if_ne (tgt := 11) dX7_refusesClosing_4 (by decide) (fun c4 => ?_) (fun c4 => absurd c4 (mbi_n0.mpr ht0))
  refine g_aload_n dX7_refusesClosing_11 rfl ?_
  refine g_iload_n dX7_refusesClosing_12 rfl ?_
  refine g_V1i dX7_refusesClosing_13 ml_X7_86 sX7_isPause rfl (by decide) (Nat.le_of_ble_eq_true rfl) (c_mPa (d + 2) t ht) ?_
  refine g_if_ne (tgt := 24) dX7_refusesClosing_16 (by decide) (fun c16 => absurd (mbi_f (fun q => q hp)) c16) (fun c16 => ?_)
  refine g_bipushv (v := (-5)) dX7_refusesClosing_19 rfl ?_
  refine g_goto (tgt := 25) dX7_refusesClosing_21 (by decide) ?_
  exact g_iret dX7_refusesClosing_25 rfl
set_option maxHeartbeats 4000000 in
set_option maxRecDepth 100000 in
theorem c_rC_ok {L : Nat} {F : Nat → Nat → Int32} {g : Nat → Option Nat} (d : Nat) (t : Nat) (ht : t < 3) (hp : ¬ F 173 (10 + t) = (-6)) : mCall (d + 3) yX7_refusesClosing MX7_refusesClosing [.ref 172, .int (nI t)] (mHX L F g) (some (.int 0)) (mHX L F g) := by
  refine mCall_of sX7_refusesClosing.1 (Nat.le_of_ble_eq_true rfl) ⟨_, rfl, rfl⟩ ?_
  show mGo _ _ (0, [some (.ref 172), some (.int (nI t))], [], _) _
  have ht0 : 0 ≤ nI t ∧ nI t ≤ 2 := ⟨nI_pos' (by omega), nI_le (b := 2) (by omega) (by decide)⟩
  refine g_iload_n dX7_refusesClosing_0 rfl ?_
  refine g_S1i dX7_refusesClosing_1 ml_X7_63 sX7_isTable (Nat.le_of_ble_eq_true rfl) (c_mTab (d + 1) (nI t)) ?_
  refine g_if_ne (tgt := 11) dX7_refusesClosing_4 (by decide) (fun c4 => ?_) (fun c4 => absurd c4 (mbi_n0.mpr ht0))
  refine g_aload_n dX7_refusesClosing_11 rfl ?_
  refine g_iload_n dX7_refusesClosing_12 rfl ?_
  refine g_V1i dX7_refusesClosing_13 ml_X7_86 sX7_isPause rfl (by decide) (Nat.le_of_ble_eq_true rfl) (c_mPa (d + 2) t ht) ?_
  refine g_if_ne (tgt := 24) dX7_refusesClosing_16 (by decide) (fun c16 => ?_) (fun c16 => absurd c16 (mbi_n0.mpr hp))
  refine g_iconstv (v := 0) dX7_refusesClosing_24 rfl ?_
  exact g_iret dX7_refusesClosing_25 rfl
set_option maxHeartbeats 4000000 in
set_option maxRecDepth 100000 in
theorem c_closes_0 {L : Nat} {F : Nat → Nat → Int32} {g : Nat → Option Nat} (d : Nat) (n : Nat) (hm : F 173 5 = nI n) (h10 : n ≤ 10) (a b c q : Nat) (ea : F 173 0 = nI a) (eb : F 173 1 = nI b) (ha : a ≤ 20) (hb : 1 ≤ b) (hb2 : b ≤ 20) (hq : q ≤ 20000) (hc : c ≤ 4) (t : Nat) (ht : t < 3) (ec : mSC (F 173) n (nI t) = nI c) (eq : F 173 (10 + t) = nI q) (e : Nat) (he : e ≤ 10) (ee : F 173 9 = nI e) (em : mMean a b c q = 0) : mCall (d + 3) yX7_closes MX7_closes [.ref 172, .int (nI t)] (mHX L F g) (some (.int (0))) (mHX L (yEnds F e t 0 0 (-6)) g) := by
  refine mCall_of sX7_closes.1 (Nat.le_of_ble_eq_true rfl) ⟨_, rfl, rfl⟩ ?_
  show mGo _ _ (0, [some (.ref 172), some (.int (nI t)), none, none, none], [], _) _
  refine g_aload_n dX7_closes_0 rfl ?_
  refine g_iload_n dX7_closes_1 rfl ?_
  refine g_V1i dX7_closes_2 ml_X7_95 sX7_meansNow rfl (by decide) (Nat.le_of_ble_eq_true rfl) (c_mNow (d) n hm h10 a b c q ea eb ha hb hb2 hq hc t ht ec eq) ?_
  rw [em]
  refine g_istore_n dX7_closes_5 (by decide) rfl ?_
  refine g_aload_n dX7_closes_6 rfl ?_
  refine g_gR (r := 173) dX7_closes_7 fl_X7_7 (fun _ _ => rfl) rfl (by decide) rfl ?_
  refine g_bipushv (v := 10) dX7_closes_10 rfl ?_
  refine g_iload_n dX7_closes_12 rfl ?_
  refine g_iadd dX7_closes_13 ?_
  refine g_ialdN (gx := (10 + t)) dX7_closes_14 rfl (by decide) (nI_add 10 t) (by omega) (by decide) ?_
  refine g_istore_n dX7_closes_15 (by decide) rfl ?_
  refine g_iload_n dX7_closes_16 rfl ?_
  refine g_if_le (tgt := 76) dX7_closes_17 (by decide) (fun c17 => ?_) (fun c17 => absurd (by decide) c17)
  refine g_aload_n dX7_closes_76 rfl ?_
  refine g_iload_n dX7_closes_77 rfl ?_
  refine g_iconstv (v := 0) dX7_closes_78 rfl ?_
  refine g_iload_n dX7_closes_79 rfl ?_
  refine g_bipushv (v := (-6)) dX7_closes_80 rfl ?_
  refine g_V4v dX7_closes_82 ml_X7_98 sX7_ends rfl (by decide) (Nat.le_of_ble_eq_true rfl) (c_ends (F := F) (d + 2) e he (by first | exact ee | ((repeat (rw [m_lay5 (by decide)])); exact ee) | (rw [pe_ne (by omega), pe_ne (by omega)]; exact ee)) t ht 0 (by decide) 0 (-6)) ?_
  refine g_iload_n dX7_closes_85 rfl ?_
  exact g_iret dX7_closes_86 rfl
def yMt (F : Nat → Nat → Int32) (mm q : Nat) : Nat → Nat → Int32 := pe (pe F 173 (16 + 2 * (mm - 1)) (F 173 (16 + 2 * (mm - 1)) + 1)) 173 (16 + 2 * (mm - 1) + 1) (if nI q ≤ (pe F 173 (16 + 2 * (mm - 1)) (F 173 (16 + 2 * (mm - 1)) + 1)) 173 (16 + 2 * (mm - 1) + 1) then (pe F 173 (16 + 2 * (mm - 1)) (F 173 (16 + 2 * (mm - 1)) + 1)) 173 (16 + 2 * (mm - 1) + 1) else nI q)
set_option maxHeartbeats 4000000 in
set_option maxRecDepth 100000 in
theorem lp_clo {L : Nat} {F : Nat → Nat → Int32} {g : Nat → Option Nat} (d : Nat)  (q : Nat) (t : Nat) (ht : t < 3)  (e : Nat) (he : e ≤ 10) (ee : F 173 9 = nI e) (mm : Nat) (h11 : mm ≤ 11) (o : Option Value) : mGo MX7_closes (d + 3) (76, [some (.ref 172), some (.int (nI t)), some (.int (nI mm)), some (.int (nI q)), o], [], mHX L F g) (some (.int (nI mm)), mHX L (yEnds F e t 0 (nI mm) (-6)) g) := by
  refine g_aload_n dX7_closes_76 rfl ?_
  refine g_iload_n dX7_closes_77 rfl ?_
  refine g_iconstv (v := 0) dX7_closes_78 rfl ?_
  refine g_iload_n dX7_closes_79 rfl ?_
  refine g_bipushv (v := (-6)) dX7_closes_80 rfl ?_
  refine g_V4v dX7_closes_82 ml_X7_98 sX7_ends rfl (by decide) (Nat.le_of_ble_eq_true rfl) (c_ends (F := F) (d + 2) e he (by first | exact ee | ((repeat (rw [m_lay5 (by decide)])); exact ee) | (rw [pe_ne (by omega), pe_ne (by omega)]; exact ee)) t ht 0 (by decide) (nI mm) (-6)) ?_
  refine g_iload_n dX7_closes_85 rfl ?_
  exact g_iret dX7_closes_86 rfl
set_option maxHeartbeats 4000000 in
set_option maxRecDepth 100000 in
theorem c_closes_n {L : Nat} {F : Nat → Nat → Int32} {g : Nat → Option Nat} (d : Nat) (n : Nat) (hm : F 173 5 = nI n) (h10 : n ≤ 10) (a b c q : Nat) (ea : F 173 0 = nI a) (eb : F 173 1 = nI b) (ha : a ≤ 20) (hb : 1 ≤ b) (hb2 : b ≤ 20) (hq : q ≤ 20000) (hc : c ≤ 4) (t : Nat) (ht : t < 3) (ec : mSC (F 173) n (nI t) = nI c) (eq : F 173 (10 + t) = nI q) (e : Nat) (he : e ≤ 10) (ee : F 173 9 = nI e) (mm : Nat) (h1 : 1 ≤ mm) (h11 : mm ≤ 11) (em : mMean a b c q = nI mm) : mCall (d + 3) yX7_closes MX7_closes [.ref 172, .int (nI t)] (mHX L F g) (some (.int (nI mm))) (mHX L (yEnds (yMt F mm q) e t 0 (nI mm) (-6)) g) := by
  refine mCall_of sX7_closes.1 (Nat.le_of_ble_eq_true rfl) ⟨_, rfl, rfl⟩ ?_
  show mGo _ _ (0, [some (.ref 172), some (.int (nI t)), none, none, none], [], _) _
  have z1 : 16 + 2 * (mm - 1) + 1 ≤ 37 := by omega
  have eM : ∀ v, v = (if nI q ≤ (pe F 173 (16 + 2 * (mm - 1)) (F 173 (16 + 2 * (mm - 1)) + 1)) 173 (16 + 2 * (mm - 1) + 1) then (pe F 173 (16 + 2 * (mm - 1)) (F 173 (16 + 2 * (mm - 1)) + 1)) 173 (16 + 2 * (mm - 1) + 1) else nI q) → pe (pe F 173 (16 + 2 * (mm - 1)) (F 173 (16 + 2 * (mm - 1)) + 1)) 173 (16 + 2 * (mm - 1) + 1) v = (yMt F mm q) := by
    intro v ev
    rw [ev]
    rfl
  refine g_aload_n dX7_closes_0 rfl ?_
  refine g_iload_n dX7_closes_1 rfl ?_
  refine g_V1i dX7_closes_2 ml_X7_95 sX7_meansNow rfl (by decide) (Nat.le_of_ble_eq_true rfl) (c_mNow (d) n hm h10 a b c q ea eb ha hb hb2 hq hc t ht ec eq) ?_
  rw [em]
  refine g_istore_n dX7_closes_5 (by decide) rfl ?_
  refine g_aload_n dX7_closes_6 rfl ?_
  refine g_gR (r := 173) dX7_closes_7 fl_X7_7 (fun _ _ => rfl) rfl (by decide) rfl ?_
  refine g_bipushv (v := 10) dX7_closes_10 rfl ?_
  refine g_iload_n dX7_closes_12 rfl ?_
  refine g_iadd dX7_closes_13 ?_
  refine g_ialdN (gx := (10 + t)) dX7_closes_14 rfl (by decide) (nI_add 10 t) (by omega) (by decide) ?_
  rw [eq]
  refine g_istore_n dX7_closes_15 (by decide) rfl ?_
  refine g_iload_n dX7_closes_16 rfl ?_
  refine g_if_le (tgt := 76) dX7_closes_17 (by decide) (fun c17 => absurd c17 (nI_nle (by omega) (by omega))) (fun c17 => ?_)
  refine g_bipushv (v := 16) dX7_closes_20 rfl ?_
  refine g_iconstv (v := 2) dX7_closes_22 rfl ?_
  refine g_iload_n dX7_closes_23 rfl ?_
  refine g_iconstv (v := 1) dX7_closes_24 rfl ?_
  refine g_isub dX7_closes_25 ?_
  refine g_imul dX7_closes_26 ?_
  refine g_iadd dX7_closes_27 ?_
  rw [show (16 : Int32) = nI 16 from rfl, show (2 : Int32) = nI 2 from rfl, show (1 : Int32) = nI 1 from rfl, pk_sub (show 1 ≤ mm from h1), pk_mul, nI_add]
  refine g_istore dX7_closes_28 (by decide) rfl ?_
  refine g_aload_n dX7_closes_30 rfl ?_
  refine g_gR (r := 173) dX7_closes_31 fl_X7_7 (fun _ _ => rfl) rfl (by decide) rfl ?_
  refine g_iload dX7_closes_34 rfl ?_
  refine g_dup2 dX7_closes_36 rfl rfl ?_
  refine g_ialdN (gx := (16 + 2 * (mm - 1))) dX7_closes_37 rfl (by decide) rfl (by omega) (by decide) ?_
  refine g_iconstv (v := 1) dX7_closes_38 rfl ?_
  refine g_iadd dX7_closes_39 ?_
  refine g_iastN (gx := (16 + 2 * (mm - 1))) dX7_closes_40 rfl (by decide) rfl (by omega) (by decide) ?_
  refine g_aload_n dX7_closes_41 rfl ?_
  refine g_gR (r := 173) dX7_closes_42 fl_X7_7 (fun _ _ => rfl) rfl (by decide) rfl ?_
  refine g_iload dX7_closes_45 rfl ?_
  refine g_iconstv (v := 1) dX7_closes_47 rfl ?_
  refine g_iadd dX7_closes_48 ?_
  refine g_iload_n dX7_closes_49 rfl ?_
  refine g_aload_n dX7_closes_50 rfl ?_
  refine g_gR (r := 173) dX7_closes_51 fl_X7_7 (fun _ _ => rfl) rfl (by decide) rfl ?_
  refine g_iload dX7_closes_54 rfl ?_
  refine g_iconstv (v := 1) dX7_closes_56 rfl ?_
  refine g_iadd dX7_closes_57 ?_
  refine g_ialdN (gx := (16 + 2 * (mm - 1) + 1)) dX7_closes_58 rfl (by decide) (nI_1 (16 + 2 * (mm - 1))) (by omega) (by decide) ?_
  refine g_icmp_le (tgt := 66) dX7_closes_59 (by decide) (fun c59 => ?_) (fun c59 => ?_)
  · skip
    refine g_aload_n dX7_closes_66 rfl ?_
    refine g_gR (r := 173) dX7_closes_67 fl_X7_7 (fun _ _ => rfl) rfl (by decide) rfl ?_
    refine g_iload dX7_closes_70 rfl ?_
    refine g_iconstv (v := 1) dX7_closes_72 rfl ?_
    refine g_iadd dX7_closes_73 ?_
    refine g_ialdN (gx := (16 + 2 * (mm - 1) + 1)) dX7_closes_74 rfl (by decide) (nI_1 (16 + 2 * (mm - 1))) (by omega) (by decide) ?_
    refine g_iastN (gx := (16 + 2 * (mm - 1) + 1)) dX7_closes_75 rfl (by decide) (nI_1 (16 + 2 * (mm - 1))) (by omega) (by decide) ?_
    rw [eM _ (by first | rw [if_pos c59] | rw [if_neg c59])]
    exact lp_clo (F := (yMt F mm q)) d q t ht e he (by unfold yMt; rw [pe_ne (by omega), pe_ne (by omega)]; exact ee) mm h11 _
  · skip
    refine g_iload_n dX7_closes_62 rfl ?_
    refine g_goto (tgt := 75) dX7_closes_63 (by decide) ?_
    refine g_iastN (gx := (16 + 2 * (mm - 1) + 1)) dX7_closes_75 rfl (by decide) (nI_1 (16 + 2 * (mm - 1))) (by omega) (by decide) ?_
    rw [eM _ (by first | rw [if_pos c59] | rw [if_neg c59])]
    exact lp_clo (F := (yMt F mm q)) d q t ht e he (by unfold yMt; rw [pe_ne (by omega), pe_ne (by omega)]; exact ee) mm h11 _
set_option maxHeartbeats 4000000 in
set_option maxRecDepth 100000 in
theorem c_rB_no {L : Nat} {F : Nat → Nat → Int32} {g : Nat → Option Nat} (d : Nat) (n : Nat) (hm : F 173 5 = nI n) (h10 : n ≤ 10) (x : Int32) (hb : ¬ (0 ≤ x ∧ x < nI n)) : mCall (d + 3) yX7_refusesBreak MX7_refusesBreak [.ref 172, .int x] (mHX L F g) (some (.int (-1))) (mHX L F g) := by
  refine mCall_of sX7_refusesBreak.1 (Nat.le_of_ble_eq_true rfl) ⟨_, rfl, rfl⟩ ?_
  show mGo _ _ (0, [some (.ref 172), some (.int x)], [], _) _
  refine g_aload_n dX7_refusesBreak_0 rfl ?_
  refine g_iload_n dX7_refusesBreak_1 rfl ?_
  refine g_V1i dX7_refusesBreak_2 ml_X7_77 sX7_isGuest rfl (by decide) (Nat.le_of_ble_eq_true rfl) (c_mIs (d + 1) n hm h10 x) ?_
  refine g_if_ne (tgt := 10) dX7_refusesBreak_5 (by decide) (fun c5 => absurd (mbi_f hb) c5) (fun c5 => ?_)
  refine g_iconstv (v := (-1)) dX7_refusesBreak_8 rfl ?_
  exact g_iret dX7_refusesBreak_9 rfl
set_option maxHeartbeats 4000000 in
set_option maxRecDepth 100000 in
theorem c_rB_gone {L : Nat} {F : Nat → Nat → Int32} {g : Nat → Option Nat} (d : Nat) (n : Nat) (hm : F 173 5 = nI n) (h10 : n ≤ 10) (k : Nat) (hk : k < n) (hs : mC (F 173) 0 k = (-6)) : mCall (d + 3) yX7_refusesBreak MX7_refusesBreak [.ref 172, .int (nI k)] (mHX L F g) (some (.int (-5))) (mHX L F g) := by
  refine mCall_of sX7_refusesBreak.1 (Nat.le_of_ble_eq_true rfl) ⟨_, rfl, rfl⟩ ?_
  show mGo _ _ (0, [some (.ref 172), some (.int (nI k))], [], _) _
  have hk0 : 0 ≤ nI k ∧ nI k < nI n := ⟨nI_pos' (by omega), nI_lt hk (by omega)⟩
  refine g_aload_n dX7_refusesBreak_0 rfl ?_
  refine g_iload_n dX7_refusesBreak_1 rfl ?_
  refine g_V1i dX7_refusesBreak_2 ml_X7_77 sX7_isGuest rfl (by decide) (Nat.le_of_ble_eq_true rfl) (c_mIs (d + 1) n hm h10 (nI k)) ?_
  refine g_if_ne (tgt := 10) dX7_refusesBreak_5 (by decide) (fun c5 => ?_) (fun c5 => absurd c5 (mbi_n0.mpr hk0))
  refine g_aload_n dX7_refusesBreak_10 rfl ?_
  refine g_iload_n dX7_refusesBreak_11 rfl ?_
  refine g_iconstv (v := 0) dX7_refusesBreak_12 rfl ?_
  refine g_V2i dX7_refusesBreak_13 ml_X7_40 sX7_has rfl (by decide) (Nat.le_of_ble_eq_true rfl) (c_has (F := F) (d + 2) k 0 (by omega) (by decide)) ?_
  refine g_bipushv (v := (-6)) dX7_refusesBreak_16 rfl ?_
  refine g_icmp_eq (tgt := 34) dX7_refusesBreak_18 (by decide) (fun c18 => ?_) (fun c18 => absurd hs c18)
  refine g_bipushv (v := (-5)) dX7_refusesBreak_34 rfl ?_
  refine g_goto (tgt := 40) dX7_refusesBreak_36 (by decide) ?_
  exact g_iret dX7_refusesBreak_40 rfl
set_option maxHeartbeats 4000000 in
set_option maxRecDepth 100000 in
theorem c_rB_quiet {L : Nat} {F : Nat → Nat → Int32} {g : Nat → Option Nat} (d : Nat) (n : Nat) (hm : F 173 5 = nI n) (h10 : n ≤ 10) (k : Nat) (hk : k < n) (t : Nat) (ht : t < 3) (hs : mC (F 173) 0 k = nI t) (hp : F 173 (10 + t) = (-6)) : mCall (d + 3) yX7_refusesBreak MX7_refusesBreak [.ref 172, .int (nI k)] (mHX L F g) (some (.int (-5))) (mHX L F g) := by
  refine mCall_of sX7_refusesBreak.1 (Nat.le_of_ble_eq_true rfl) ⟨_, rfl, rfl⟩ ?_
  show mGo _ _ (0, [some (.ref 172), some (.int (nI k))], [], _) _
  have hk0 : 0 ≤ nI k ∧ nI k < nI n := ⟨nI_pos' (by omega), nI_lt hk (by omega)⟩
  refine g_aload_n dX7_refusesBreak_0 rfl ?_
  refine g_iload_n dX7_refusesBreak_1 rfl ?_
  refine g_V1i dX7_refusesBreak_2 ml_X7_77 sX7_isGuest rfl (by decide) (Nat.le_of_ble_eq_true rfl) (c_mIs (d + 1) n hm h10 (nI k)) ?_
  refine g_if_ne (tgt := 10) dX7_refusesBreak_5 (by decide) (fun c5 => ?_) (fun c5 => absurd c5 (mbi_n0.mpr hk0))
  refine g_aload_n dX7_refusesBreak_10 rfl ?_
  refine g_iload_n dX7_refusesBreak_11 rfl ?_
  refine g_iconstv (v := 0) dX7_refusesBreak_12 rfl ?_
  refine g_V2i dX7_refusesBreak_13 ml_X7_40 sX7_has rfl (by decide) (Nat.le_of_ble_eq_true rfl) (c_has (F := F) (d + 2) k 0 (by omega) (by decide)) ?_
  rw [hs]
  refine g_bipushv (v := (-6)) dX7_refusesBreak_16 rfl ?_
  refine g_icmp_eq (tgt := 34) dX7_refusesBreak_18 (by decide) (fun c18 => absurd c18 (m_ne6 (by omega))) (fun c18 => ?_)
  refine g_aload_n dX7_refusesBreak_21 rfl ?_
  refine g_aload_n dX7_refusesBreak_22 rfl ?_
  refine g_iload_n dX7_refusesBreak_23 rfl ?_
  refine g_iconstv (v := 0) dX7_refusesBreak_24 rfl ?_
  refine g_V2i dX7_refusesBreak_25 ml_X7_40 sX7_has rfl (by decide) (Nat.le_of_ble_eq_true rfl) (c_has (F := F) (d + 2) k 0 (by omega) (by decide)) ?_
  rw [hs]
  refine g_V1i dX7_refusesBreak_28 ml_X7_86 sX7_isPause rfl (by decide) (Nat.le_of_ble_eq_true rfl) (c_mPa (d + 2) t ht) ?_
  refine g_if_ne (tgt := 39) dX7_refusesBreak_31 (by decide) (fun c31 => absurd (mbi_f (fun q => q hp)) c31) (fun c31 => ?_)
  refine g_bipushv (v := (-5)) dX7_refusesBreak_34 rfl ?_
  refine g_goto (tgt := 40) dX7_refusesBreak_36 (by decide) ?_
  exact g_iret dX7_refusesBreak_40 rfl
set_option maxHeartbeats 4000000 in
set_option maxRecDepth 100000 in
theorem c_rB_ok {L : Nat} {F : Nat → Nat → Int32} {g : Nat → Option Nat} (d : Nat) (n : Nat) (hm : F 173 5 = nI n) (h10 : n ≤ 10) (k : Nat) (hk : k < n) (t : Nat) (ht : t < 3) (hs : mC (F 173) 0 k = nI t) (hp : ¬ F 173 (10 + t) = (-6)) : mCall (d + 3) yX7_refusesBreak MX7_refusesBreak [.ref 172, .int (nI k)] (mHX L F g) (some (.int 0)) (mHX L F g) := by
  refine mCall_of sX7_refusesBreak.1 (Nat.le_of_ble_eq_true rfl) ⟨_, rfl, rfl⟩ ?_
  show mGo _ _ (0, [some (.ref 172), some (.int (nI k))], [], _) _
  have hk0 : 0 ≤ nI k ∧ nI k < nI n := ⟨nI_pos' (by omega), nI_lt hk (by omega)⟩
  refine g_aload_n dX7_refusesBreak_0 rfl ?_
  refine g_iload_n dX7_refusesBreak_1 rfl ?_
  refine g_V1i dX7_refusesBreak_2 ml_X7_77 sX7_isGuest rfl (by decide) (Nat.le_of_ble_eq_true rfl) (c_mIs (d + 1) n hm h10 (nI k)) ?_
  refine g_if_ne (tgt := 10) dX7_refusesBreak_5 (by decide) (fun c5 => ?_) (fun c5 => absurd c5 (mbi_n0.mpr hk0))
  refine g_aload_n dX7_refusesBreak_10 rfl ?_
  refine g_iload_n dX7_refusesBreak_11 rfl ?_
  refine g_iconstv (v := 0) dX7_refusesBreak_12 rfl ?_
  refine g_V2i dX7_refusesBreak_13 ml_X7_40 sX7_has rfl (by decide) (Nat.le_of_ble_eq_true rfl) (c_has (F := F) (d + 2) k 0 (by omega) (by decide)) ?_
  rw [hs]
  refine g_bipushv (v := (-6)) dX7_refusesBreak_16 rfl ?_
  refine g_icmp_eq (tgt := 34) dX7_refusesBreak_18 (by decide) (fun c18 => absurd c18 (m_ne6 (by omega))) (fun c18 => ?_)
  refine g_aload_n dX7_refusesBreak_21 rfl ?_
  refine g_aload_n dX7_refusesBreak_22 rfl ?_
  refine g_iload_n dX7_refusesBreak_23 rfl ?_
  refine g_iconstv (v := 0) dX7_refusesBreak_24 rfl ?_
  refine g_V2i dX7_refusesBreak_25 ml_X7_40 sX7_has rfl (by decide) (Nat.le_of_ble_eq_true rfl) (c_has (F := F) (d + 2) k 0 (by omega) (by decide)) ?_
  rw [hs]
  refine g_V1i dX7_refusesBreak_28 ml_X7_86 sX7_isPause rfl (by decide) (Nat.le_of_ble_eq_true rfl) (c_mPa (d + 2) t ht) ?_
  refine g_if_ne (tgt := 39) dX7_refusesBreak_31 (by decide) (fun c31 => ?_) (fun c31 => absurd c31 (mbi_n0.mpr hp))
  refine g_iconstv (v := 0) dX7_refusesBreak_39 rfl ?_
  exact g_iret dX7_refusesBreak_40 rfl
def ySpk1 (F : Nat → Nat → Int32) (e t h k : Nat) : Nat → Nat → Int32 := (yEnds (pe (pe (pe F 173 (88 + 6 * k + 2) ((mC (F 173) 2 k) + (F 173 3))) 173 (88 + 6 * h + 2) ((mC ((pe F 173 (88 + 6 * k + 2) ((mC (F 173) 2 k) + (F 173 3))) 173) 2 h) + 0)) 173 (88 + 6 * k + 4) ((mC ((pe (pe F 173 (88 + 6 * k + 2) ((mC (F 173) 2 k) + (F 173 3))) 173 (88 + 6 * h + 2) ((mC ((pe F 173 (88 + 6 * k + 2) ((mC (F 173) 2 k) + (F 173 3))) 173) 2 h) + 0)) 173) 4 k) + 1)) e t 1 0 (nI k))
set_option maxHeartbeats 4000000 in
set_option maxRecDepth 100000 in
theorem c_spk_self {L : Nat} {F : Nat → Nat → Int32} {g : Nat → Option Nat} (d : Nat) (n : Nat) (hm : F 173 5 = nI n) (h10 : n ≤ 10) (k : Nat) (hk : k < n) (t : Nat) (ht : t < 3) (hs : mC (F 173) 0 k = nI t) (e : Nat) (he : e ≤ 10) (ee : F 173 9 = nI e) (h : Nat) (hh : h < 10) (eh : mHost (mC (F 173) 0) (mC (F 173) 1) (nI t) n = some h) (hhk : h = k) : mCall (d + 2) yX7_speaks MX7_speaks [.ref 172, .int (nI k)] (mHX L F g) (some (.int ((mC ((yEnds (pe (pe (pe F 173 (88 + 6 * k + 2) ((mC (F 173) 2 k) + (F 173 3))) 173 (88 + 6 * h + 2) ((mC ((pe F 173 (88 + 6 * k + 2) ((mC (F 173) 2 k) + (F 173 3))) 173) 2 h) + 0)) 173 (88 + 6 * k + 4) ((mC ((pe (pe F 173 (88 + 6 * k + 2) ((mC (F 173) 2 k) + (F 173 3))) 173 (88 + 6 * h + 2) ((mC ((pe F 173 (88 + 6 * k + 2) ((mC (F 173) 2 k) + (F 173 3))) 173) 2 h) + 0)) 173) 4 k) + 1)) e t 1 0 (nI k)) 173) 2 k)))) (mHX L (ySpk1 F e t h k) g) := by
  refine mCall_of sX7_speaks.1 (Nat.le_of_ble_eq_true rfl) ⟨_, rfl, rfl⟩ ?_
  show mGo _ _ (0, [some (.ref 172), some (.int (nI k)), none, none], [], _) _
  refine g_aload_n dX7_speaks_0 rfl ?_
  refine g_iload_n dX7_speaks_1 rfl ?_
  refine g_iconstv (v := 0) dX7_speaks_2 rfl ?_
  refine g_V2i dX7_speaks_3 ml_X7_40 sX7_has rfl (by decide) (Nat.le_of_ble_eq_true rfl) (c_has (F := F) (d + 1) k 0 (by omega) (by decide)) ?_
  rw [hs]
  refine g_istore_n dX7_speaks_6 (by decide) rfl ?_
  refine g_aload_n dX7_speaks_7 rfl ?_
  refine g_iload_n dX7_speaks_8 rfl ?_
  refine g_V1i dX7_speaks_9 ml_X7_108 sX7_hostOf rfl (by decide) (Nat.le_of_ble_eq_true rfl) (c_mHost d n hm h10 (nI t)) ?_
  rw [show oI (mHost (mC (F 173) 0) (mC (F 173) 1) (nI t) n) = nI h by rw [eh]; rfl]
  refine g_istore_n dX7_speaks_12 (by decide) rfl ?_
  refine g_aload_n dX7_speaks_13 rfl ?_
  refine g_iload_n dX7_speaks_14 rfl ?_
  refine g_iconstv (v := 2) dX7_speaks_15 rfl ?_
  refine g_aload_n dX7_speaks_16 rfl ?_
  refine g_iload_n dX7_speaks_17 rfl ?_
  refine g_iconstv (v := 2) dX7_speaks_18 rfl ?_
  refine g_V2i dX7_speaks_19 ml_X7_40 sX7_has rfl (by decide) (Nat.le_of_ble_eq_true rfl) (c_has (F := F) (d + 1) k 2 (by omega) (by decide)) ?_
  refine g_aload_n dX7_speaks_22 rfl ?_
  refine g_gR (r := 173) dX7_speaks_23 fl_X7_7 (fun _ _ => rfl) rfl (by decide) rfl ?_
  refine g_iconstv (v := 3) dX7_speaks_26 rfl ?_
  refine g_ialdN (gx := 3) dX7_speaks_27 rfl (by decide) rfl (by omega) (by decide) ?_
  refine g_iadd dX7_speaks_28 ?_
  refine g_V3v dX7_speaks_29 ml_X7_67 sX7_lay rfl (by decide) (Nat.le_of_ble_eq_true rfl) (c_lay (F := F) (d + 1) k 2 (by omega) (by decide) ((mC (F 173) 2 k) + (F 173 3))) ?_
  refine g_aload_n dX7_speaks_32 rfl ?_
  refine g_iload_n dX7_speaks_33 rfl ?_
  refine g_iconstv (v := 2) dX7_speaks_34 rfl ?_
  refine g_aload_n dX7_speaks_35 rfl ?_
  refine g_iload_n dX7_speaks_36 rfl ?_
  refine g_iconstv (v := 2) dX7_speaks_37 rfl ?_
  refine g_V2i dX7_speaks_38 ml_X7_40 sX7_has rfl (by decide) (Nat.le_of_ble_eq_true rfl) (c_has (F := (pe F 173 (88 + 6 * k + 2) ((mC (F 173) 2 k) + (F 173 3)))) (d + 1) h 2 (by omega) (by decide)) ?_
  refine g_iload_n dX7_speaks_41 rfl ?_
  refine g_iload_n dX7_speaks_42 rfl ?_
  refine g_icmp_ne (tgt := 50) dX7_speaks_43 (by decide) (fun c43 => absurd (by rw [hhk]) c43) (fun c43 => ?_)
  refine g_iconstv (v := 0) dX7_speaks_46 rfl ?_
  refine g_goto (tgt := 51) dX7_speaks_47 (by decide) ?_
  refine g_iadd dX7_speaks_51 ?_
  refine g_V3v dX7_speaks_52 ml_X7_67 sX7_lay rfl (by decide) (Nat.le_of_ble_eq_true rfl) (c_lay (F := (pe F 173 (88 + 6 * k + 2) ((mC (F 173) 2 k) + (F 173 3)))) (d + 1) h 2 (by omega) (by decide) ((mC ((pe F 173 (88 + 6 * k + 2) ((mC (F 173) 2 k) + (F 173 3))) 173) 2 h) + 0)) ?_
  refine g_aload_n dX7_speaks_55 rfl ?_
  refine g_iload_n dX7_speaks_56 rfl ?_
  refine g_iconstv (v := 4) dX7_speaks_57 rfl ?_
  refine g_aload_n dX7_speaks_58 rfl ?_
  refine g_iload_n dX7_speaks_59 rfl ?_
  refine g_iconstv (v := 4) dX7_speaks_60 rfl ?_
  refine g_V2i dX7_speaks_61 ml_X7_40 sX7_has rfl (by decide) (Nat.le_of_ble_eq_true rfl) (c_has (F := (pe (pe F 173 (88 + 6 * k + 2) ((mC (F 173) 2 k) + (F 173 3))) 173 (88 + 6 * h + 2) ((mC ((pe F 173 (88 + 6 * k + 2) ((mC (F 173) 2 k) + (F 173 3))) 173) 2 h) + 0))) (d + 1) k 4 (by omega) (by decide)) ?_
  refine g_iconstv (v := 1) dX7_speaks_64 rfl ?_
  refine g_iadd dX7_speaks_65 ?_
  refine g_V3v dX7_speaks_66 ml_X7_67 sX7_lay rfl (by decide) (Nat.le_of_ble_eq_true rfl) (c_lay (F := (pe (pe F 173 (88 + 6 * k + 2) ((mC (F 173) 2 k) + (F 173 3))) 173 (88 + 6 * h + 2) ((mC ((pe F 173 (88 + 6 * k + 2) ((mC (F 173) 2 k) + (F 173 3))) 173) 2 h) + 0))) (d + 1) k 4 (by omega) (by decide) ((mC ((pe (pe F 173 (88 + 6 * k + 2) ((mC (F 173) 2 k) + (F 173 3))) 173 (88 + 6 * h + 2) ((mC ((pe F 173 (88 + 6 * k + 2) ((mC (F 173) 2 k) + (F 173 3))) 173) 2 h) + 0)) 173) 4 k) + 1)) ?_
  refine g_aload_n dX7_speaks_69 rfl ?_
  refine g_iload_n dX7_speaks_70 rfl ?_
  refine g_iconstv (v := 1) dX7_speaks_71 rfl ?_
  refine g_iconstv (v := 0) dX7_speaks_72 rfl ?_
  refine g_iload_n dX7_speaks_73 rfl ?_
  refine g_V4v dX7_speaks_74 ml_X7_98 sX7_ends rfl (by decide) (Nat.le_of_ble_eq_true rfl) (c_ends (F := (pe (pe (pe F 173 (88 + 6 * k + 2) ((mC (F 173) 2 k) + (F 173 3))) 173 (88 + 6 * h + 2) ((mC ((pe F 173 (88 + 6 * k + 2) ((mC (F 173) 2 k) + (F 173 3))) 173) 2 h) + 0)) 173 (88 + 6 * k + 4) ((mC ((pe (pe F 173 (88 + 6 * k + 2) ((mC (F 173) 2 k) + (F 173 3))) 173 (88 + 6 * h + 2) ((mC ((pe F 173 (88 + 6 * k + 2) ((mC (F 173) 2 k) + (F 173 3))) 173) 2 h) + 0)) 173) 4 k) + 1))) (d + 1) e he (by first | exact ee | ((repeat (rw [m_lay5 (by decide)])); exact ee) | (rw [pe_ne (by omega), pe_ne (by omega)]; exact ee)) t ht 1 (by decide) 0 (nI k)) ?_
  refine g_aload_n dX7_speaks_77 rfl ?_
  refine g_iload_n dX7_speaks_78 rfl ?_
  refine g_iconstv (v := 2) dX7_speaks_79 rfl ?_
  refine g_V2i dX7_speaks_80 ml_X7_40 sX7_has rfl (by decide) (Nat.le_of_ble_eq_true rfl) (c_has (F := (yEnds (pe (pe (pe F 173 (88 + 6 * k + 2) ((mC (F 173) 2 k) + (F 173 3))) 173 (88 + 6 * h + 2) ((mC ((pe F 173 (88 + 6 * k + 2) ((mC (F 173) 2 k) + (F 173 3))) 173) 2 h) + 0)) 173 (88 + 6 * k + 4) ((mC ((pe (pe F 173 (88 + 6 * k + 2) ((mC (F 173) 2 k) + (F 173 3))) 173 (88 + 6 * h + 2) ((mC ((pe F 173 (88 + 6 * k + 2) ((mC (F 173) 2 k) + (F 173 3))) 173) 2 h) + 0)) 173) 4 k) + 1)) e t 1 0 (nI k))) (d + 1) k 2 (by omega) (by decide)) ?_
  exact g_iret dX7_speaks_83 rfl
def ySpk2 (F : Nat → Nat → Int32) (e t h k : Nat) : Nat → Nat → Int32 := (yEnds (pe (pe (pe F 173 (88 + 6 * k + 2) ((mC (F 173) 2 k) + (F 173 3))) 173 (88 + 6 * h + 2) ((mC ((pe F 173 (88 + 6 * k + 2) ((mC (F 173) 2 k) + (F 173 3))) 173) 2 h) + 1)) 173 (88 + 6 * k + 4) ((mC ((pe (pe F 173 (88 + 6 * k + 2) ((mC (F 173) 2 k) + (F 173 3))) 173 (88 + 6 * h + 2) ((mC ((pe F 173 (88 + 6 * k + 2) ((mC (F 173) 2 k) + (F 173 3))) 173) 2 h) + 1)) 173) 4 k) + 1)) e t 1 0 (nI k))
set_option maxHeartbeats 4000000 in
set_option maxRecDepth 100000 in
theorem c_spk_other {L : Nat} {F : Nat → Nat → Int32} {g : Nat → Option Nat} (d : Nat) (n : Nat) (hm : F 173 5 = nI n) (h10 : n ≤ 10) (k : Nat) (hk : k < n) (t : Nat) (ht : t < 3) (hs : mC (F 173) 0 k = nI t) (e : Nat) (he : e ≤ 10) (ee : F 173 9 = nI e) (h : Nat) (hh : h < 10) (eh : mHost (mC (F 173) 0) (mC (F 173) 1) (nI t) n = some h) (hhk : h ≠ k) : mCall (d + 2) yX7_speaks MX7_speaks [.ref 172, .int (nI k)] (mHX L F g) (some (.int ((mC ((yEnds (pe (pe (pe F 173 (88 + 6 * k + 2) ((mC (F 173) 2 k) + (F 173 3))) 173 (88 + 6 * h + 2) ((mC ((pe F 173 (88 + 6 * k + 2) ((mC (F 173) 2 k) + (F 173 3))) 173) 2 h) + 1)) 173 (88 + 6 * k + 4) ((mC ((pe (pe F 173 (88 + 6 * k + 2) ((mC (F 173) 2 k) + (F 173 3))) 173 (88 + 6 * h + 2) ((mC ((pe F 173 (88 + 6 * k + 2) ((mC (F 173) 2 k) + (F 173 3))) 173) 2 h) + 1)) 173) 4 k) + 1)) e t 1 0 (nI k)) 173) 2 k)))) (mHX L (ySpk2 F e t h k) g) := by
  refine mCall_of sX7_speaks.1 (Nat.le_of_ble_eq_true rfl) ⟨_, rfl, rfl⟩ ?_
  show mGo _ _ (0, [some (.ref 172), some (.int (nI k)), none, none], [], _) _
  refine g_aload_n dX7_speaks_0 rfl ?_
  refine g_iload_n dX7_speaks_1 rfl ?_
  refine g_iconstv (v := 0) dX7_speaks_2 rfl ?_
  refine g_V2i dX7_speaks_3 ml_X7_40 sX7_has rfl (by decide) (Nat.le_of_ble_eq_true rfl) (c_has (F := F) (d + 1) k 0 (by omega) (by decide)) ?_
  rw [hs]
  refine g_istore_n dX7_speaks_6 (by decide) rfl ?_
  refine g_aload_n dX7_speaks_7 rfl ?_
  refine g_iload_n dX7_speaks_8 rfl ?_
  refine g_V1i dX7_speaks_9 ml_X7_108 sX7_hostOf rfl (by decide) (Nat.le_of_ble_eq_true rfl) (c_mHost d n hm h10 (nI t)) ?_
  rw [show oI (mHost (mC (F 173) 0) (mC (F 173) 1) (nI t) n) = nI h by rw [eh]; rfl]
  refine g_istore_n dX7_speaks_12 (by decide) rfl ?_
  refine g_aload_n dX7_speaks_13 rfl ?_
  refine g_iload_n dX7_speaks_14 rfl ?_
  refine g_iconstv (v := 2) dX7_speaks_15 rfl ?_
  refine g_aload_n dX7_speaks_16 rfl ?_
  refine g_iload_n dX7_speaks_17 rfl ?_
  refine g_iconstv (v := 2) dX7_speaks_18 rfl ?_
  refine g_V2i dX7_speaks_19 ml_X7_40 sX7_has rfl (by decide) (Nat.le_of_ble_eq_true rfl) (c_has (F := F) (d + 1) k 2 (by omega) (by decide)) ?_
  refine g_aload_n dX7_speaks_22 rfl ?_
  refine g_gR (r := 173) dX7_speaks_23 fl_X7_7 (fun _ _ => rfl) rfl (by decide) rfl ?_
  refine g_iconstv (v := 3) dX7_speaks_26 rfl ?_
  refine g_ialdN (gx := 3) dX7_speaks_27 rfl (by decide) rfl (by omega) (by decide) ?_
  refine g_iadd dX7_speaks_28 ?_
  refine g_V3v dX7_speaks_29 ml_X7_67 sX7_lay rfl (by decide) (Nat.le_of_ble_eq_true rfl) (c_lay (F := F) (d + 1) k 2 (by omega) (by decide) ((mC (F 173) 2 k) + (F 173 3))) ?_
  refine g_aload_n dX7_speaks_32 rfl ?_
  refine g_iload_n dX7_speaks_33 rfl ?_
  refine g_iconstv (v := 2) dX7_speaks_34 rfl ?_
  refine g_aload_n dX7_speaks_35 rfl ?_
  refine g_iload_n dX7_speaks_36 rfl ?_
  refine g_iconstv (v := 2) dX7_speaks_37 rfl ?_
  refine g_V2i dX7_speaks_38 ml_X7_40 sX7_has rfl (by decide) (Nat.le_of_ble_eq_true rfl) (c_has (F := (pe F 173 (88 + 6 * k + 2) ((mC (F 173) 2 k) + (F 173 3)))) (d + 1) h 2 (by omega) (by decide)) ?_
  refine g_iload_n dX7_speaks_41 rfl ?_
  refine g_iload_n dX7_speaks_42 rfl ?_
  refine g_icmp_ne (tgt := 50) dX7_speaks_43 (by decide) (fun c43 => ?_) (fun c43 => absurd c43 (fun q => hhk ((nI_eq (by omega) (by omega)).mp q)))
  refine g_iconstv (v := 1) dX7_speaks_50 rfl ?_
  refine g_iadd dX7_speaks_51 ?_
  refine g_V3v dX7_speaks_52 ml_X7_67 sX7_lay rfl (by decide) (Nat.le_of_ble_eq_true rfl) (c_lay (F := (pe F 173 (88 + 6 * k + 2) ((mC (F 173) 2 k) + (F 173 3)))) (d + 1) h 2 (by omega) (by decide) ((mC ((pe F 173 (88 + 6 * k + 2) ((mC (F 173) 2 k) + (F 173 3))) 173) 2 h) + 1)) ?_
  refine g_aload_n dX7_speaks_55 rfl ?_
  refine g_iload_n dX7_speaks_56 rfl ?_
  refine g_iconstv (v := 4) dX7_speaks_57 rfl ?_
  refine g_aload_n dX7_speaks_58 rfl ?_
  refine g_iload_n dX7_speaks_59 rfl ?_
  refine g_iconstv (v := 4) dX7_speaks_60 rfl ?_
  refine g_V2i dX7_speaks_61 ml_X7_40 sX7_has rfl (by decide) (Nat.le_of_ble_eq_true rfl) (c_has (F := (pe (pe F 173 (88 + 6 * k + 2) ((mC (F 173) 2 k) + (F 173 3))) 173 (88 + 6 * h + 2) ((mC ((pe F 173 (88 + 6 * k + 2) ((mC (F 173) 2 k) + (F 173 3))) 173) 2 h) + 1))) (d + 1) k 4 (by omega) (by decide)) ?_
  refine g_iconstv (v := 1) dX7_speaks_64 rfl ?_
  refine g_iadd dX7_speaks_65 ?_
  refine g_V3v dX7_speaks_66 ml_X7_67 sX7_lay rfl (by decide) (Nat.le_of_ble_eq_true rfl) (c_lay (F := (pe (pe F 173 (88 + 6 * k + 2) ((mC (F 173) 2 k) + (F 173 3))) 173 (88 + 6 * h + 2) ((mC ((pe F 173 (88 + 6 * k + 2) ((mC (F 173) 2 k) + (F 173 3))) 173) 2 h) + 1))) (d + 1) k 4 (by omega) (by decide) ((mC ((pe (pe F 173 (88 + 6 * k + 2) ((mC (F 173) 2 k) + (F 173 3))) 173 (88 + 6 * h + 2) ((mC ((pe F 173 (88 + 6 * k + 2) ((mC (F 173) 2 k) + (F 173 3))) 173) 2 h) + 1)) 173) 4 k) + 1)) ?_
  refine g_aload_n dX7_speaks_69 rfl ?_
  refine g_iload_n dX7_speaks_70 rfl ?_
  refine g_iconstv (v := 1) dX7_speaks_71 rfl ?_
  refine g_iconstv (v := 0) dX7_speaks_72 rfl ?_
  refine g_iload_n dX7_speaks_73 rfl ?_
  refine g_V4v dX7_speaks_74 ml_X7_98 sX7_ends rfl (by decide) (Nat.le_of_ble_eq_true rfl) (c_ends (F := (pe (pe (pe F 173 (88 + 6 * k + 2) ((mC (F 173) 2 k) + (F 173 3))) 173 (88 + 6 * h + 2) ((mC ((pe F 173 (88 + 6 * k + 2) ((mC (F 173) 2 k) + (F 173 3))) 173) 2 h) + 1)) 173 (88 + 6 * k + 4) ((mC ((pe (pe F 173 (88 + 6 * k + 2) ((mC (F 173) 2 k) + (F 173 3))) 173 (88 + 6 * h + 2) ((mC ((pe F 173 (88 + 6 * k + 2) ((mC (F 173) 2 k) + (F 173 3))) 173) 2 h) + 1)) 173) 4 k) + 1))) (d + 1) e he (by first | exact ee | ((repeat (rw [m_lay5 (by decide)])); exact ee) | (rw [pe_ne (by omega), pe_ne (by omega)]; exact ee)) t ht 1 (by decide) 0 (nI k)) ?_
  refine g_aload_n dX7_speaks_77 rfl ?_
  refine g_iload_n dX7_speaks_78 rfl ?_
  refine g_iconstv (v := 2) dX7_speaks_79 rfl ?_
  refine g_V2i dX7_speaks_80 ml_X7_40 sX7_has rfl (by decide) (Nat.le_of_ble_eq_true rfl) (c_has (F := (yEnds (pe (pe (pe F 173 (88 + 6 * k + 2) ((mC (F 173) 2 k) + (F 173 3))) 173 (88 + 6 * h + 2) ((mC ((pe F 173 (88 + 6 * k + 2) ((mC (F 173) 2 k) + (F 173 3))) 173) 2 h) + 1)) 173 (88 + 6 * k + 4) ((mC ((pe (pe F 173 (88 + 6 * k + 2) ((mC (F 173) 2 k) + (F 173 3))) 173 (88 + 6 * h + 2) ((mC ((pe F 173 (88 + 6 * k + 2) ((mC (F 173) 2 k) + (F 173 3))) 173) 2 h) + 1)) 173) 4 k) + 1)) e t 1 0 (nI k))) (d + 1) k 2 (by omega) (by decide)) ?_
  exact g_iret dX7_speaks_83 rfl
theorem mC_0 {F : Nat → Nat → Int32} {k w j : Nat} {v : Int32} (hw : w < 6) (h : w ≠ 0) : mC (pe F 173 (88 + 6 * k + w) v 173) 0 j = mC (F 173) 0 j := by rw [mC_ne hw (by decide) (by omega)]
def yCg1 (F : Nat → Nat → Int32) (e t k : Nat) : Nat → Nat → Int32 := (yEnds (pe (pe F 173 (88 + 6 * k + 2) ((mC (F 173) 2 k) + (F 173 3))) 173 (88 + 6 * k + 4) ((mC ((pe F 173 (88 + 6 * k + 2) ((mC (F 173) 2 k) + (F 173 3))) 173) 4 k) + 1)) e t 2 0 (nI k))
set_option maxHeartbeats 4000000 in
set_option maxRecDepth 100000 in
theorem c_cgs_none {L : Nat} {F : Nat → Nat → Int32} {g : Nat → Option Nat} (d : Nat) (n : Nat) (hm : F 173 5 = nI n) (h10 : n ≤ 10) (k : Nat) (hk : k < n) (t : Nat) (ht : t < 3) (hs : mC (F 173) 0 k = nI t) (e : Nat) (he : e ≤ 10) (ee : F 173 9 = nI e) (el : mLend (mC (F 173) 0) (mC (F 173) 1) (mC (F 173) 3) k n = none) : mCall (d + 2) yX7_coughs MX7_coughs [.ref 172, .int (nI k)] (mHX L F g) (some (.int ((-6)))) (mHX L (yCg1 F e t k) g) := by
  refine mCall_of sX7_coughs.1 (Nat.le_of_ble_eq_true rfl) ⟨_, rfl, rfl⟩ ?_
  show mGo _ _ (0, [some (.ref 172), some (.int (nI k)), none], [], _) _
  have eS : mC ((pe (pe F 173 (88 + 6 * k + 2) ((mC (F 173) 2 k) + (F 173 3))) 173 (88 + 6 * k + 4) ((mC ((pe F 173 (88 + 6 * k + 2) ((mC (F 173) 2 k) + (F 173 3))) 173) 4 k) + 1)) 173) 0 k = nI t := by rw [mC_0 (by decide) (by decide), mC_0 (by decide) (by decide)]; exact hs
  refine g_aload_n dX7_coughs_0 rfl ?_
  refine g_iload_n dX7_coughs_1 rfl ?_
  refine g_V1i dX7_coughs_2 ml_X7_117 sX7_lenderFor rfl (by decide) (Nat.le_of_ble_eq_true rfl) (c_mLend d n hm h10 k (by omega)) ?_
  rw [show oI (mLend (mC (F 173) 0) (mC (F 173) 1) (mC (F 173) 3) k n) = (-6) by rw [el]; rfl]
  refine g_istore_n dX7_coughs_5 (by decide) rfl ?_
  refine g_iload_n dX7_coughs_6 rfl ?_
  refine g_bipushv (v := (-6)) dX7_coughs_7 rfl ?_
  refine g_icmp_ne (tgt := 34) dX7_coughs_9 (by decide) (fun c9 => absurd rfl c9) (fun c9 => ?_)
  refine g_aload_n dX7_coughs_12 rfl ?_
  refine g_iload_n dX7_coughs_13 rfl ?_
  refine g_iconstv (v := 2) dX7_coughs_14 rfl ?_
  refine g_aload_n dX7_coughs_15 rfl ?_
  refine g_iload_n dX7_coughs_16 rfl ?_
  refine g_iconstv (v := 2) dX7_coughs_17 rfl ?_
  refine g_V2i dX7_coughs_18 ml_X7_40 sX7_has rfl (by decide) (Nat.le_of_ble_eq_true rfl) (c_has (F := F) (d + 1) k 2 (by omega) (by decide)) ?_
  refine g_aload_n dX7_coughs_21 rfl ?_
  refine g_gR (r := 173) dX7_coughs_22 fl_X7_7 (fun _ _ => rfl) rfl (by decide) rfl ?_
  refine g_iconstv (v := 3) dX7_coughs_25 rfl ?_
  refine g_ialdN (gx := 3) dX7_coughs_26 rfl (by decide) rfl (by omega) (by decide) ?_
  refine g_iadd dX7_coughs_27 ?_
  refine g_V3v dX7_coughs_28 ml_X7_67 sX7_lay rfl (by decide) (Nat.le_of_ble_eq_true rfl) (c_lay (F := F) (d + 1) k 2 (by omega) (by decide) ((mC (F 173) 2 k) + (F 173 3))) ?_
  refine g_goto (tgt := 62) dX7_coughs_31 (by decide) ?_
  refine g_aload_n dX7_coughs_62 rfl ?_
  refine g_iload_n dX7_coughs_63 rfl ?_
  refine g_iconstv (v := 4) dX7_coughs_64 rfl ?_
  refine g_aload_n dX7_coughs_65 rfl ?_
  refine g_iload_n dX7_coughs_66 rfl ?_
  refine g_iconstv (v := 4) dX7_coughs_67 rfl ?_
  refine g_V2i dX7_coughs_68 ml_X7_40 sX7_has rfl (by decide) (Nat.le_of_ble_eq_true rfl) (c_has (F := (pe F 173 (88 + 6 * k + 2) ((mC (F 173) 2 k) + (F 173 3)))) (d + 1) k 4 (by omega) (by decide)) ?_
  refine g_iconstv (v := 1) dX7_coughs_71 rfl ?_
  refine g_iadd dX7_coughs_72 ?_
  refine g_V3v dX7_coughs_73 ml_X7_67 sX7_lay rfl (by decide) (Nat.le_of_ble_eq_true rfl) (c_lay (F := (pe F 173 (88 + 6 * k + 2) ((mC (F 173) 2 k) + (F 173 3)))) (d + 1) k 4 (by omega) (by decide) ((mC ((pe F 173 (88 + 6 * k + 2) ((mC (F 173) 2 k) + (F 173 3))) 173) 4 k) + 1)) ?_
  refine g_aload_n dX7_coughs_76 rfl ?_
  refine g_aload_n dX7_coughs_77 rfl ?_
  refine g_iload_n dX7_coughs_78 rfl ?_
  refine g_iconstv (v := 0) dX7_coughs_79 rfl ?_
  refine g_V2i dX7_coughs_80 ml_X7_40 sX7_has rfl (by decide) (Nat.le_of_ble_eq_true rfl) (c_has (F := (pe (pe F 173 (88 + 6 * k + 2) ((mC (F 173) 2 k) + (F 173 3))) 173 (88 + 6 * k + 4) ((mC ((pe F 173 (88 + 6 * k + 2) ((mC (F 173) 2 k) + (F 173 3))) 173) 4 k) + 1))) (d + 1) k 0 (by omega) (by decide)) ?_
  rw [eS]
  refine g_iconstv (v := 2) dX7_coughs_83 rfl ?_
  refine g_iconstv (v := 0) dX7_coughs_84 rfl ?_
  refine g_iload_n dX7_coughs_85 rfl ?_
  refine g_V4v dX7_coughs_86 ml_X7_98 sX7_ends rfl (by decide) (Nat.le_of_ble_eq_true rfl) (c_ends (F := (pe (pe F 173 (88 + 6 * k + 2) ((mC (F 173) 2 k) + (F 173 3))) 173 (88 + 6 * k + 4) ((mC ((pe F 173 (88 + 6 * k + 2) ((mC (F 173) 2 k) + (F 173 3))) 173) 4 k) + 1))) (d + 1) e he (by first | exact ee | ((repeat (rw [m_lay5 (by decide)])); exact ee) | (rw [pe_ne (by omega), pe_ne (by omega)]; exact ee)) t ht 2 (by decide) 0 (nI k)) ?_
  refine g_iload_n dX7_coughs_89 rfl ?_
  exact g_iret dX7_coughs_90 rfl
def yCg2 (F : Nat → Nat → Int32) (e t h k : Nat) : Nat → Nat → Int32 := (yEnds (pe (pe (pe F 173 (88 + 6 * h + 3) ((mC (F 173) 3 h) - 1)) 173 (88 + 6 * h + 5) ((mC ((pe F 173 (88 + 6 * h + 3) ((mC (F 173) 3 h) - 1)) 173) 5 h) + 1)) 173 (88 + 6 * k + 4) ((mC ((pe (pe F 173 (88 + 6 * h + 3) ((mC (F 173) 3 h) - 1)) 173 (88 + 6 * h + 5) ((mC ((pe F 173 (88 + 6 * h + 3) ((mC (F 173) 3 h) - 1)) 173) 5 h) + 1)) 173) 4 k) + 1)) e t 2 0 (nI k))
set_option maxHeartbeats 4000000 in
set_option maxRecDepth 100000 in
theorem c_cgs_some {L : Nat} {F : Nat → Nat → Int32} {g : Nat → Option Nat} (d : Nat) (n : Nat) (hm : F 173 5 = nI n) (h10 : n ≤ 10) (k : Nat) (hk : k < n) (t : Nat) (ht : t < 3) (hs : mC (F 173) 0 k = nI t) (e : Nat) (he : e ≤ 10) (ee : F 173 9 = nI e) (h : Nat) (hh : h < 10) (el : mLend (mC (F 173) 0) (mC (F 173) 1) (mC (F 173) 3) k n = some h) : mCall (d + 2) yX7_coughs MX7_coughs [.ref 172, .int (nI k)] (mHX L F g) (some (.int ((nI h)))) (mHX L (yCg2 F e t h k) g) := by
  refine mCall_of sX7_coughs.1 (Nat.le_of_ble_eq_true rfl) ⟨_, rfl, rfl⟩ ?_
  show mGo _ _ (0, [some (.ref 172), some (.int (nI k)), none], [], _) _
  have eS : mC ((pe (pe (pe F 173 (88 + 6 * h + 3) ((mC (F 173) 3 h) - 1)) 173 (88 + 6 * h + 5) ((mC ((pe F 173 (88 + 6 * h + 3) ((mC (F 173) 3 h) - 1)) 173) 5 h) + 1)) 173 (88 + 6 * k + 4) ((mC ((pe (pe F 173 (88 + 6 * h + 3) ((mC (F 173) 3 h) - 1)) 173 (88 + 6 * h + 5) ((mC ((pe F 173 (88 + 6 * h + 3) ((mC (F 173) 3 h) - 1)) 173) 5 h) + 1)) 173) 4 k) + 1)) 173) 0 k = nI t := by rw [mC_0 (by decide) (by decide)]; rw [mC_0 (by decide) (by decide), mC_0 (by decide) (by decide)]; exact hs
  refine g_aload_n dX7_coughs_0 rfl ?_
  refine g_iload_n dX7_coughs_1 rfl ?_
  refine g_V1i dX7_coughs_2 ml_X7_117 sX7_lenderFor rfl (by decide) (Nat.le_of_ble_eq_true rfl) (c_mLend d n hm h10 k (by omega)) ?_
  rw [show oI (mLend (mC (F 173) 0) (mC (F 173) 1) (mC (F 173) 3) k n) = (nI h) by rw [el]; rfl]
  refine g_istore_n dX7_coughs_5 (by decide) rfl ?_
  refine g_iload_n dX7_coughs_6 rfl ?_
  refine g_bipushv (v := (-6)) dX7_coughs_7 rfl ?_
  refine g_icmp_ne (tgt := 34) dX7_coughs_9 (by decide) (fun c9 => ?_) (fun c9 => absurd c9 (m_ne6 (by omega)))
  refine g_aload_n dX7_coughs_34 rfl ?_
  refine g_iload_n dX7_coughs_35 rfl ?_
  refine g_iconstv (v := 3) dX7_coughs_36 rfl ?_
  refine g_aload_n dX7_coughs_37 rfl ?_
  refine g_iload_n dX7_coughs_38 rfl ?_
  refine g_iconstv (v := 3) dX7_coughs_39 rfl ?_
  refine g_V2i dX7_coughs_40 ml_X7_40 sX7_has rfl (by decide) (Nat.le_of_ble_eq_true rfl) (c_has (F := F) (d + 1) h 3 (by omega) (by decide)) ?_
  refine g_iconstv (v := 1) dX7_coughs_43 rfl ?_
  refine g_isub dX7_coughs_44 ?_
  refine g_V3v dX7_coughs_45 ml_X7_67 sX7_lay rfl (by decide) (Nat.le_of_ble_eq_true rfl) (c_lay (F := F) (d + 1) h 3 (by omega) (by decide) ((mC (F 173) 3 h) - 1)) ?_
  refine g_aload_n dX7_coughs_48 rfl ?_
  refine g_iload_n dX7_coughs_49 rfl ?_
  refine g_iconstv (v := 5) dX7_coughs_50 rfl ?_
  refine g_aload_n dX7_coughs_51 rfl ?_
  refine g_iload_n dX7_coughs_52 rfl ?_
  refine g_iconstv (v := 5) dX7_coughs_53 rfl ?_
  refine g_V2i dX7_coughs_54 ml_X7_40 sX7_has rfl (by decide) (Nat.le_of_ble_eq_true rfl) (c_has (F := (pe F 173 (88 + 6 * h + 3) ((mC (F 173) 3 h) - 1))) (d + 1) h 5 (by omega) (by decide)) ?_
  refine g_iconstv (v := 1) dX7_coughs_57 rfl ?_
  refine g_iadd dX7_coughs_58 ?_
  refine g_V3v dX7_coughs_59 ml_X7_67 sX7_lay rfl (by decide) (Nat.le_of_ble_eq_true rfl) (c_lay (F := (pe F 173 (88 + 6 * h + 3) ((mC (F 173) 3 h) - 1))) (d + 1) h 5 (by omega) (by decide) ((mC ((pe F 173 (88 + 6 * h + 3) ((mC (F 173) 3 h) - 1)) 173) 5 h) + 1)) ?_
  refine g_aload_n dX7_coughs_62 rfl ?_
  refine g_iload_n dX7_coughs_63 rfl ?_
  refine g_iconstv (v := 4) dX7_coughs_64 rfl ?_
  refine g_aload_n dX7_coughs_65 rfl ?_
  refine g_iload_n dX7_coughs_66 rfl ?_
  refine g_iconstv (v := 4) dX7_coughs_67 rfl ?_
  refine g_V2i dX7_coughs_68 ml_X7_40 sX7_has rfl (by decide) (Nat.le_of_ble_eq_true rfl) (c_has (F := (pe (pe F 173 (88 + 6 * h + 3) ((mC (F 173) 3 h) - 1)) 173 (88 + 6 * h + 5) ((mC ((pe F 173 (88 + 6 * h + 3) ((mC (F 173) 3 h) - 1)) 173) 5 h) + 1))) (d + 1) k 4 (by omega) (by decide)) ?_
  refine g_iconstv (v := 1) dX7_coughs_71 rfl ?_
  refine g_iadd dX7_coughs_72 ?_
  refine g_V3v dX7_coughs_73 ml_X7_67 sX7_lay rfl (by decide) (Nat.le_of_ble_eq_true rfl) (c_lay (F := (pe (pe F 173 (88 + 6 * h + 3) ((mC (F 173) 3 h) - 1)) 173 (88 + 6 * h + 5) ((mC ((pe F 173 (88 + 6 * h + 3) ((mC (F 173) 3 h) - 1)) 173) 5 h) + 1))) (d + 1) k 4 (by omega) (by decide) ((mC ((pe (pe F 173 (88 + 6 * h + 3) ((mC (F 173) 3 h) - 1)) 173 (88 + 6 * h + 5) ((mC ((pe F 173 (88 + 6 * h + 3) ((mC (F 173) 3 h) - 1)) 173) 5 h) + 1)) 173) 4 k) + 1)) ?_
  refine g_aload_n dX7_coughs_76 rfl ?_
  refine g_aload_n dX7_coughs_77 rfl ?_
  refine g_iload_n dX7_coughs_78 rfl ?_
  refine g_iconstv (v := 0) dX7_coughs_79 rfl ?_
  refine g_V2i dX7_coughs_80 ml_X7_40 sX7_has rfl (by decide) (Nat.le_of_ble_eq_true rfl) (c_has (F := (pe (pe (pe F 173 (88 + 6 * h + 3) ((mC (F 173) 3 h) - 1)) 173 (88 + 6 * h + 5) ((mC ((pe F 173 (88 + 6 * h + 3) ((mC (F 173) 3 h) - 1)) 173) 5 h) + 1)) 173 (88 + 6 * k + 4) ((mC ((pe (pe F 173 (88 + 6 * h + 3) ((mC (F 173) 3 h) - 1)) 173 (88 + 6 * h + 5) ((mC ((pe F 173 (88 + 6 * h + 3) ((mC (F 173) 3 h) - 1)) 173) 5 h) + 1)) 173) 4 k) + 1))) (d + 1) k 0 (by omega) (by decide)) ?_
  rw [eS]
  refine g_iconstv (v := 2) dX7_coughs_83 rfl ?_
  refine g_iconstv (v := 0) dX7_coughs_84 rfl ?_
  refine g_iload_n dX7_coughs_85 rfl ?_
  refine g_V4v dX7_coughs_86 ml_X7_98 sX7_ends rfl (by decide) (Nat.le_of_ble_eq_true rfl) (c_ends (F := (pe (pe (pe F 173 (88 + 6 * h + 3) ((mC (F 173) 3 h) - 1)) 173 (88 + 6 * h + 5) ((mC ((pe F 173 (88 + 6 * h + 3) ((mC (F 173) 3 h) - 1)) 173) 5 h) + 1)) 173 (88 + 6 * k + 4) ((mC ((pe (pe F 173 (88 + 6 * h + 3) ((mC (F 173) 3 h) - 1)) 173 (88 + 6 * h + 5) ((mC ((pe F 173 (88 + 6 * h + 3) ((mC (F 173) 3 h) - 1)) 173) 5 h) + 1)) 173) 4 k) + 1))) (d + 1) e he (by first | exact ee | ((repeat (rw [m_lay5 (by decide)])); exact ee) | (rw [pe_ne (by omega), pe_ne (by omega)]; exact ee)) t ht 2 (by decide) 0 (nI k)) ?_
  refine g_iload_n dX7_coughs_89 rfl ?_
  exact g_iret dX7_coughs_90 rfl
set_option maxHeartbeats 4000000 in
set_option maxRecDepth 100000 in
theorem c_rS_bad {L : Nat} {F : Nat → Nat → Int32} {g : Nat → Option Nat} (d : Nat) (s : Int32) (hb : ¬ (1 ≤ s ∧ s ≤ 99)) : mCall (d + 3) yX7_refusesSeconds MX7_refusesSeconds [.ref 172, .int s] (mHX L F g) (some (.int (-2))) (mHX L F g) := by
  refine mCall_of sX7_refusesSeconds.1 (Nat.le_of_ble_eq_true rfl) ⟨_, rfl, rfl⟩ ?_
  show mGo _ _ (0, [some (.ref 172), some (.int s)], [], _) _
  refine g_iload_n dX7_refusesSeconds_0 rfl ?_
  refine g_iconstv (v := 1) dX7_refusesSeconds_1 rfl ?_
  refine g_bipushv (v := 99) dX7_refusesSeconds_2 rfl ?_
  refine g_S3i dX7_refusesSeconds_4 ml_X7_33 sX7_in (Nat.le_of_ble_eq_true rfl) (c_in (d + 2) s 1 99) ?_
  refine g_if_ne (tgt := 15) dX7_refusesSeconds_7 (by decide) (fun c7 => absurd (mbi_f hb) c7) (fun c7 => ?_)
  refine g_bipushv (v := (-2)) dX7_refusesSeconds_10 rfl ?_
  refine g_goto (tgt := 35) dX7_refusesSeconds_12 (by decide) ?_
  exact g_iret dX7_refusesSeconds_35 rfl
set_option maxHeartbeats 4000000 in
set_option maxRecDepth 100000 in
theorem c_rS_over {L : Nat} {F : Nat → Nat → Int32} {g : Nat → Option Nat} (d : Nat) (s : Int32) (hv : 1 ≤ s ∧ s ≤ 99) (ho : ¬ F 173 4 + s ≤ 9999) : mCall (d + 3) yX7_refusesSeconds MX7_refusesSeconds [.ref 172, .int s] (mHX L F g) (some (.int (-5))) (mHX L F g) := by
  refine mCall_of sX7_refusesSeconds.1 (Nat.le_of_ble_eq_true rfl) ⟨_, rfl, rfl⟩ ?_
  show mGo _ _ (0, [some (.ref 172), some (.int s)], [], _) _
  refine g_iload_n dX7_refusesSeconds_0 rfl ?_
  refine g_iconstv (v := 1) dX7_refusesSeconds_1 rfl ?_
  refine g_bipushv (v := 99) dX7_refusesSeconds_2 rfl ?_
  refine g_S3i dX7_refusesSeconds_4 ml_X7_33 sX7_in (Nat.le_of_ble_eq_true rfl) (c_in (d + 2) s 1 99) ?_
  refine g_if_ne (tgt := 15) dX7_refusesSeconds_7 (by decide) (fun c7 => ?_) (fun c7 => absurd c7 (mbi_n0.mpr hv))
  refine g_aload_n dX7_refusesSeconds_15 rfl ?_
  refine g_gR (r := 173) dX7_refusesSeconds_16 fl_X7_7 (fun _ _ => rfl) rfl (by decide) rfl ?_
  refine g_iconstv (v := 4) dX7_refusesSeconds_19 rfl ?_
  refine g_ialdN (gx := 4) dX7_refusesSeconds_20 rfl (by decide) rfl (by omega) (by decide) ?_
  refine g_iload_n dX7_refusesSeconds_21 rfl ?_
  refine g_iadd dX7_refusesSeconds_22 ?_
  refine g_sipushv (v := 9999) dX7_refusesSeconds_23 rfl ?_
  refine g_icmp_le (tgt := 34) dX7_refusesSeconds_26 (by decide) (fun c26 => absurd c26 ho) (fun c26 => ?_)
  refine g_bipushv (v := (-5)) dX7_refusesSeconds_29 rfl ?_
  refine g_goto (tgt := 35) dX7_refusesSeconds_31 (by decide) ?_
  exact g_iret dX7_refusesSeconds_35 rfl
set_option maxHeartbeats 4000000 in
set_option maxRecDepth 100000 in
theorem c_rS_ok {L : Nat} {F : Nat → Nat → Int32} {g : Nat → Option Nat} (d : Nat) (s : Int32) (hv : 1 ≤ s ∧ s ≤ 99) (ho : F 173 4 + s ≤ 9999) : mCall (d + 3) yX7_refusesSeconds MX7_refusesSeconds [.ref 172, .int s] (mHX L F g) (some (.int 0)) (mHX L F g) := by
  refine mCall_of sX7_refusesSeconds.1 (Nat.le_of_ble_eq_true rfl) ⟨_, rfl, rfl⟩ ?_
  show mGo _ _ (0, [some (.ref 172), some (.int s)], [], _) _
  refine g_iload_n dX7_refusesSeconds_0 rfl ?_
  refine g_iconstv (v := 1) dX7_refusesSeconds_1 rfl ?_
  refine g_bipushv (v := 99) dX7_refusesSeconds_2 rfl ?_
  refine g_S3i dX7_refusesSeconds_4 ml_X7_33 sX7_in (Nat.le_of_ble_eq_true rfl) (c_in (d + 2) s 1 99) ?_
  refine g_if_ne (tgt := 15) dX7_refusesSeconds_7 (by decide) (fun c7 => ?_) (fun c7 => absurd c7 (mbi_n0.mpr hv))
  refine g_aload_n dX7_refusesSeconds_15 rfl ?_
  refine g_gR (r := 173) dX7_refusesSeconds_16 fl_X7_7 (fun _ _ => rfl) rfl (by decide) rfl ?_
  refine g_iconstv (v := 4) dX7_refusesSeconds_19 rfl ?_
  refine g_ialdN (gx := 4) dX7_refusesSeconds_20 rfl (by decide) rfl (by omega) (by decide) ?_
  refine g_iload_n dX7_refusesSeconds_21 rfl ?_
  refine g_iadd dX7_refusesSeconds_22 ?_
  refine g_sipushv (v := 9999) dX7_refusesSeconds_23 rfl ?_
  refine g_icmp_le (tgt := 34) dX7_refusesSeconds_26 (by decide) (fun c26 => ?_) (fun c26 => absurd ho c26)
  refine g_iconstv (v := 0) dX7_refusesSeconds_34 rfl ?_
  exact g_iret dX7_refusesSeconds_35 rfl
set_option maxHeartbeats 4000000 in
set_option maxRecDepth 100000 in
theorem lp_ps_q {L : Nat} {F : Nat → Nat → Int32} {g : Nat → Option Nat} (d : Nat) (t : Nat) (ht : t < 3) (s z : Int32) (hp : F 173 (10 + t) = (-6)) (out : mOut) (K : mGo MX7_passes (d + 3) (14, [some (.ref 172), some (.int s), some (.int z), some (.int (nI (t + 1)))], [], mHX L F g) out) : mGo MX7_passes (d + 3) (14, [some (.ref 172), some (.int s), some (.int z), some (.int (nI t))], [], mHX L F g) out := by
  refine g_iload_n dX7_passes_14 rfl ?_
  refine g_iconstv (v := 3) dX7_passes_15 rfl ?_
  refine g_icmp_ge (tgt := 74) dX7_passes_16 (by decide) (fun c16 => absurd c16 (nI_ge (a := t) (b := 3) ht (by decide))) (fun c16 => ?_)
  refine g_aload_n dX7_passes_19 rfl ?_
  refine g_gR (r := 173) dX7_passes_20 fl_X7_7 (fun _ _ => rfl) rfl (by decide) rfl ?_
  refine g_bipushv (v := 10) dX7_passes_23 rfl ?_
  refine g_iload_n dX7_passes_25 rfl ?_
  refine g_iadd dX7_passes_26 ?_
  refine g_dup2 dX7_passes_27 rfl rfl ?_
  refine g_ialdN (gx := (10 + t)) dX7_passes_28 rfl (by decide) (nI_add 10 t) (by omega) (by decide) ?_
  refine g_aload_n dX7_passes_29 rfl ?_
  refine g_iload_n dX7_passes_30 rfl ?_
  refine g_V1i dX7_passes_31 ml_X7_86 sX7_isPause rfl (by decide) (Nat.le_of_ble_eq_true rfl) (c_mPa (d + 2) t ht) ?_
  refine g_if_eq (tgt := 41) dX7_passes_34 (by decide) (fun c34 => ?_) (fun c34 => absurd (mbi_f (fun q => q hp)) c34)
  refine g_iconstv (v := 0) dX7_passes_41 rfl ?_
  refine g_iadd dX7_passes_42 ?_
  rw [Int32.add_zero]
  refine g_iastN (gx := (10 + t)) dX7_passes_43 rfl (by decide) (nI_add 10 t) (by omega) (by decide) ?_
  rw [pe_id rfl]
  refine g_iload_n dX7_passes_44 rfl ?_
  refine g_aload_n dX7_passes_45 rfl ?_
  refine g_iload_n dX7_passes_46 rfl ?_
  refine g_V1i dX7_passes_47 ml_X7_86 sX7_isPause rfl (by decide) (Nat.le_of_ble_eq_true rfl) (c_mPa (F := F) (d + 2) t ht) ?_
  refine g_if_eq (tgt := 65) dX7_passes_50 (by decide) (fun c50 => ?_) (fun c50 => absurd (mbi_f (fun q => q hp)) c50)
  refine g_iconstv (v := 0) dX7_passes_65 rfl ?_
  refine g_iadd dX7_passes_66 ?_
  rw [Int32.add_zero]
  refine g_istore_n dX7_passes_67 (by decide) rfl ?_
  refine g_iincN dX7_passes_68 rfl (by decide) rfl ?_
  refine g_goto (tgt := 14) dX7_passes_71 (by decide) ?_
  exact K
set_option maxHeartbeats 4000000 in
set_option maxRecDepth 100000 in
theorem lp_ps_0 {L : Nat} {F : Nat → Nat → Int32} {g : Nat → Option Nat} (d : Nat) (n : Nat) (hm : F 173 5 = nI n) (h10 : n ≤ 10) (a b c q : Nat) (ea : F 173 0 = nI a) (eb : F 173 1 = nI b) (ha : a ≤ 20) (hb : 1 ≤ b) (hb2 : b ≤ 20) (hq : q ≤ 20000) (hc : c ≤ 4) (t : Nat) (ht : t < 3) (s z : Int32) (ec : mSC (F 173) n (nI t) = nI c) (hp : ¬ F 173 (10 + t) = (-6)) (eq : F 173 (10 + t) + s = nI q) (em : mMean a b c q = 0) (out : mOut) (K : mGo MX7_passes (d + 3) (14, [some (.ref 172), some (.int s), some (.int z), some (.int (nI (t + 1)))], [], mHX L (pe F 173 (10 + t) (F 173 (10 + t) + s)) g) out) : mGo MX7_passes (d + 3) (14, [some (.ref 172), some (.int s), some (.int z), some (.int (nI t))], [], mHX L F g) out := by
  refine g_iload_n dX7_passes_14 rfl ?_
  refine g_iconstv (v := 3) dX7_passes_15 rfl ?_
  refine g_icmp_ge (tgt := 74) dX7_passes_16 (by decide) (fun c16 => absurd c16 (nI_ge (a := t) (b := 3) ht (by decide))) (fun c16 => ?_)
  refine g_aload_n dX7_passes_19 rfl ?_
  refine g_gR (r := 173) dX7_passes_20 fl_X7_7 (fun _ _ => rfl) rfl (by decide) rfl ?_
  refine g_bipushv (v := 10) dX7_passes_23 rfl ?_
  refine g_iload_n dX7_passes_25 rfl ?_
  refine g_iadd dX7_passes_26 ?_
  refine g_dup2 dX7_passes_27 rfl rfl ?_
  refine g_ialdN (gx := (10 + t)) dX7_passes_28 rfl (by decide) (nI_add 10 t) (by omega) (by decide) ?_
  refine g_aload_n dX7_passes_29 rfl ?_
  refine g_iload_n dX7_passes_30 rfl ?_
  refine g_V1i dX7_passes_31 ml_X7_86 sX7_isPause rfl (by decide) (Nat.le_of_ble_eq_true rfl) (c_mPa (d + 2) t ht) ?_
  refine g_if_eq (tgt := 41) dX7_passes_34 (by decide) (fun c34 => absurd c34 (mbi_n0.mpr hp)) (fun c34 => ?_)
  refine g_iload_n dX7_passes_37 rfl ?_
  refine g_goto (tgt := 42) dX7_passes_38 (by decide) ?_
  refine g_iadd dX7_passes_42 ?_
  refine g_iastN (gx := (10 + t)) dX7_passes_43 rfl (by decide) (nI_add 10 t) (by omega) (by decide) ?_
  refine g_iload_n dX7_passes_44 rfl ?_
  refine g_aload_n dX7_passes_45 rfl ?_
  refine g_iload_n dX7_passes_46 rfl ?_
  refine g_V1i dX7_passes_47 ml_X7_86 sX7_isPause rfl (by decide) (Nat.le_of_ble_eq_true rfl) (c_mPa (F := (pe F 173 (10 + t) (F 173 (10 + t) + s))) (d + 2) t ht) ?_
  refine g_if_eq (tgt := 65) dX7_passes_50 (by decide) (fun c50 => absurd c50 (mbi_n0.mpr (by rw [pe_eq, eq]; exact m_ne6 (by omega)))) (fun c50 => ?_)
  refine g_aload_n dX7_passes_53 rfl ?_
  refine g_iload_n dX7_passes_54 rfl ?_
  refine g_V1i dX7_passes_55 ml_X7_95 sX7_meansNow rfl (by decide) (Nat.le_of_ble_eq_true rfl) (c_mNow (F := (pe F 173 (10 + t) (F 173 (10 + t) + s))) d n (by rw [m_row (by omega)]; exact hm) h10 a b c q (by rw [m_row (by omega)]; exact ea) (by rw [m_row (by omega)]; exact eb) ha hb hb2 hq hc t ht (by rw [show mSC ((pe F 173 (10 + t) (F 173 (10 + t) + s)) 173) n (nI t) = mSC (F 173) n (nI t) by unfold mSC; rw [mC_lo (by omega), mC_lo (by omega)]]; exact ec) (by rw [pe_eq]; exact eq)) ?_
  rw [em]
  refine g_if_le (tgt := 65) dX7_passes_58 (by decide) (fun c58 => ?_) (fun c58 => absurd (by decide) c58)
  refine g_iconstv (v := 0) dX7_passes_65 rfl ?_
  refine g_iadd dX7_passes_66 ?_
  rw [Int32.add_zero]
  refine g_istore_n dX7_passes_67 (by decide) rfl ?_
  refine g_iincN dX7_passes_68 rfl (by decide) rfl ?_
  refine g_goto (tgt := 14) dX7_passes_71 (by decide) ?_
  exact K
set_option maxHeartbeats 4000000 in
set_option maxRecDepth 100000 in
theorem lp_ps_n {L : Nat} {F : Nat → Nat → Int32} {g : Nat → Option Nat} (d : Nat) (n : Nat) (hm : F 173 5 = nI n) (h10 : n ≤ 10) (a b c q : Nat) (ea : F 173 0 = nI a) (eb : F 173 1 = nI b) (ha : a ≤ 20) (hb : 1 ≤ b) (hb2 : b ≤ 20) (hq : q ≤ 20000) (hc : c ≤ 4) (t : Nat) (ht : t < 3) (s z : Int32) (ec : mSC (F 173) n (nI t) = nI c) (hp : ¬ F 173 (10 + t) = (-6)) (eq : F 173 (10 + t) + s = nI q) (mm : Nat) (h1 : 1 ≤ mm) (h11 : mm ≤ 11) (em : mMean a b c q = nI mm) (out : mOut) (K : mGo MX7_passes (d + 3) (14, [some (.ref 172), some (.int s), some (.int (z + 1)), some (.int (nI (t + 1)))], [], mHX L (pe F 173 (10 + t) (F 173 (10 + t) + s)) g) out) : mGo MX7_passes (d + 3) (14, [some (.ref 172), some (.int s), some (.int z), some (.int (nI t))], [], mHX L F g) out := by
  refine g_iload_n dX7_passes_14 rfl ?_
  refine g_iconstv (v := 3) dX7_passes_15 rfl ?_
  refine g_icmp_ge (tgt := 74) dX7_passes_16 (by decide) (fun c16 => absurd c16 (nI_ge (a := t) (b := 3) ht (by decide))) (fun c16 => ?_)
  refine g_aload_n dX7_passes_19 rfl ?_
  refine g_gR (r := 173) dX7_passes_20 fl_X7_7 (fun _ _ => rfl) rfl (by decide) rfl ?_
  refine g_bipushv (v := 10) dX7_passes_23 rfl ?_
  refine g_iload_n dX7_passes_25 rfl ?_
  refine g_iadd dX7_passes_26 ?_
  refine g_dup2 dX7_passes_27 rfl rfl ?_
  refine g_ialdN (gx := (10 + t)) dX7_passes_28 rfl (by decide) (nI_add 10 t) (by omega) (by decide) ?_
  refine g_aload_n dX7_passes_29 rfl ?_
  refine g_iload_n dX7_passes_30 rfl ?_
  refine g_V1i dX7_passes_31 ml_X7_86 sX7_isPause rfl (by decide) (Nat.le_of_ble_eq_true rfl) (c_mPa (d + 2) t ht) ?_
  refine g_if_eq (tgt := 41) dX7_passes_34 (by decide) (fun c34 => absurd c34 (mbi_n0.mpr hp)) (fun c34 => ?_)
  refine g_iload_n dX7_passes_37 rfl ?_
  refine g_goto (tgt := 42) dX7_passes_38 (by decide) ?_
  refine g_iadd dX7_passes_42 ?_
  refine g_iastN (gx := (10 + t)) dX7_passes_43 rfl (by decide) (nI_add 10 t) (by omega) (by decide) ?_
  refine g_iload_n dX7_passes_44 rfl ?_
  refine g_aload_n dX7_passes_45 rfl ?_
  refine g_iload_n dX7_passes_46 rfl ?_
  refine g_V1i dX7_passes_47 ml_X7_86 sX7_isPause rfl (by decide) (Nat.le_of_ble_eq_true rfl) (c_mPa (F := (pe F 173 (10 + t) (F 173 (10 + t) + s))) (d + 2) t ht) ?_
  refine g_if_eq (tgt := 65) dX7_passes_50 (by decide) (fun c50 => absurd c50 (mbi_n0.mpr (by rw [pe_eq, eq]; exact m_ne6 (by omega)))) (fun c50 => ?_)
  refine g_aload_n dX7_passes_53 rfl ?_
  refine g_iload_n dX7_passes_54 rfl ?_
  refine g_V1i dX7_passes_55 ml_X7_95 sX7_meansNow rfl (by decide) (Nat.le_of_ble_eq_true rfl) (c_mNow (F := (pe F 173 (10 + t) (F 173 (10 + t) + s))) d n (by rw [m_row (by omega)]; exact hm) h10 a b c q (by rw [m_row (by omega)]; exact ea) (by rw [m_row (by omega)]; exact eb) ha hb hb2 hq hc t ht (by rw [show mSC ((pe F 173 (10 + t) (F 173 (10 + t) + s)) 173) n (nI t) = mSC (F 173) n (nI t) by unfold mSC; rw [mC_lo (by omega), mC_lo (by omega)]]; exact ec) (by rw [pe_eq]; exact eq)) ?_
  rw [em]
  refine g_if_le (tgt := 65) dX7_passes_58 (by decide) (fun c58 => absurd c58 (nI_nle (by omega) (by omega))) (fun c58 => ?_)
  refine g_iconstv (v := 1) dX7_passes_61 rfl ?_
  refine g_goto (tgt := 66) dX7_passes_62 (by decide) ?_
  refine g_iadd dX7_passes_66 ?_
  refine g_istore_n dX7_passes_67 (by decide) rfl ?_
  refine g_iincN dX7_passes_68 rfl (by decide) rfl ?_
  refine g_goto (tgt := 14) dX7_passes_71 (by decide) ?_
  exact K
set_option maxHeartbeats 4000000 in
set_option maxRecDepth 100000 in
theorem lp_ps_e {L : Nat} {F : Nat → Nat → Int32} {g : Nat → Option Nat} (d : Nat) (s z : Int32) : mGo MX7_passes (d + 3) (14, [some (.ref 172), some (.int s), some (.int z), some (.int (nI 3))], [], mHX L F g) (some (.int z), mHX L F g) := by
  refine g_iload_n dX7_passes_14 rfl ?_
  refine g_iconstv (v := 3) dX7_passes_15 rfl ?_
  refine g_icmp_ge (tgt := 74) dX7_passes_16 (by decide) (fun c16 => ?_) (fun c16 => absurd (Int32.le_refl _) c16)
  refine g_iload_n dX7_passes_74 rfl ?_
  exact g_iret dX7_passes_75 rfl
set_option maxHeartbeats 4000000 in
set_option maxRecDepth 100000 in
theorem c_passes {L : Nat} {F : Nat → Nat → Int32} {g : Nat → Option Nat} (d : Nat) (s r : Int32) (hp1 : mHp) (K : mGo MX7_passes (d + 3) (14, [some (.ref 172), some (.int s), some (.int 0), some (.int (nI 0))], [], mHX L (pe F 173 4 (F 173 4 + s)) g) (some (.int r), hp1)) : mCall (d + 3) yX7_passes MX7_passes [.ref 172, .int s] (mHX L F g) (some (.int r)) (hp1) := by
  refine mCall_of sX7_passes.1 (Nat.le_of_ble_eq_true rfl) ⟨_, rfl, rfl⟩ ?_
  show mGo _ _ (0, [some (.ref 172), some (.int s), none, none], [], _) _
  refine g_iconstv (v := 0) dX7_passes_0 rfl ?_
  refine g_istore_n dX7_passes_1 (by decide) rfl ?_
  refine g_aload_n dX7_passes_2 rfl ?_
  refine g_gR (r := 173) dX7_passes_3 fl_X7_7 (fun _ _ => rfl) rfl (by decide) rfl ?_
  refine g_iconstv (v := 4) dX7_passes_6 rfl ?_
  refine g_dup2 dX7_passes_7 rfl rfl ?_
  refine g_ialdN (gx := 4) dX7_passes_8 rfl (by decide) rfl (by omega) (by decide) ?_
  refine g_iload_n dX7_passes_9 rfl ?_
  refine g_iadd dX7_passes_10 ?_
  refine g_iastN (gx := 4) dX7_passes_11 rfl (by decide) rfl (by omega) (by decide) ?_
  refine g_iconstv (v := 0) dX7_passes_12 rfl ?_
  refine g_istore_n dX7_passes_13 (by decide) rfl ?_
  exact K
