def mSg (P : Nat → Int32) (l i : Nat) : Int32 := if i < l then P i else 0
theorem pe_pe (F : Nat → Nat → Int32) (c k : Nat) (v w : Int32) : pe (pe F c k v) c k w = pe F c k w := by
  funext a b
  rw [pe_at, pe_at, pe_at]
  split <;> rfl
theorem i_48' : (48 : Int32).toInt = 48 := by decide
def mDb (x : Int32) : Bool := decide (48 ≤ x ∧ x ≤ 57)
theorem mDb_t {x : Int32} (h : mDb x = true) : 48 ≤ x ∧ x ≤ 57 := of_decide_eq_true h
theorem mDb_f {x : Int32} (h : mDb x = false) : ¬ (48 ≤ x ∧ x ≤ 57) := of_decide_eq_false h
set_option maxHeartbeats 4000000 in
set_option maxRecDepth 100000 in
theorem c_sg_i {L : Nat} {F : Nat → Nat → Int32} {g : Nat → Option Nat} (d : Nat) (l i : Nat) (el : F 172 7 = nI l) (hl : l ≤ 80) (ea : F 172 8 = nI i) (hi : i ≤ 100) (x : Int32) (es : mSg (F 177) l i = x) (h : i < l) : mCall (d) yX7_sign MX7_sign [.ref 172] (mHX L F g) (some (.int x)) (mHX L F g) := by
  refine mCall_of sX7_sign.1 (Nat.le_of_ble_eq_true rfl) ⟨_, rfl, rfl⟩ ?_
  show mGo _ _ (0, [some (.ref 172)], [], _) _
  refine g_aload_n dX7_sign_0 rfl ?_
  refine g_gI dX7_sign_1 fl_X7_151 (fun _ _ => rfl) rfl (by decide) ?_
  refine g_aload_n dX7_sign_4 rfl ?_
  refine g_gI dX7_sign_5 fl_X7_146 (fun _ _ => rfl) rfl (by decide) ?_
  refine g_icmp_ge (tgt := 23) dX7_sign_8 (by decide) (fun c8 => absurd c8 (by rw [ea, el]; exact nI_ge h (by omega))) (fun c8 => ?_)
  refine g_aload_n dX7_sign_11 rfl ?_
  refine g_gR (r := 177) dX7_sign_12 fl_X7_23 (fun _ _ => rfl) rfl (by decide) rfl ?_
  refine g_aload_n dX7_sign_15 rfl ?_
  refine g_gI dX7_sign_16 fl_X7_151 (fun _ _ => rfl) rfl (by decide) ?_
  refine g_ialdN (gx := i) dX7_sign_19 rfl (by decide) ea (by omega) (by decide) ?_
  refine g_goto (tgt := 24) dX7_sign_20 (by decide) ?_
  exact g_iret dX7_sign_24 (m_ret (by rw [← es]; exact (if_pos h)))
set_option maxHeartbeats 4000000 in
set_option maxRecDepth 100000 in
theorem c_sg_o {L : Nat} {F : Nat → Nat → Int32} {g : Nat → Option Nat} (d : Nat) (l i : Nat) (el : F 172 7 = nI l) (hl : l ≤ 80) (ea : F 172 8 = nI i) (hi : i ≤ 100) (x : Int32) (es : mSg (F 177) l i = x) (h : ¬ i < l) : mCall (d) yX7_sign MX7_sign [.ref 172] (mHX L F g) (some (.int x)) (mHX L F g) := by
  refine mCall_of sX7_sign.1 (Nat.le_of_ble_eq_true rfl) ⟨_, rfl, rfl⟩ ?_
  show mGo _ _ (0, [some (.ref 172)], [], _) _
  refine g_aload_n dX7_sign_0 rfl ?_
  refine g_gI dX7_sign_1 fl_X7_151 (fun _ _ => rfl) rfl (by decide) ?_
  refine g_aload_n dX7_sign_4 rfl ?_
  refine g_gI dX7_sign_5 fl_X7_146 (fun _ _ => rfl) rfl (by decide) ?_
  refine g_icmp_ge (tgt := 23) dX7_sign_8 (by decide) (fun c8 => ?_) (fun c8 => absurd (by rw [ea, el]; exact nI_le (by omega) (by omega)) c8)
  refine g_iconstv (v := 0) dX7_sign_23 rfl ?_
  exact g_iret dX7_sign_24 (m_ret (by rw [← es]; exact (if_neg h)))
theorem c_sign {L : Nat} {F : Nat → Nat → Int32} {g : Nat → Option Nat} (d : Nat) (l i : Nat) (el : F 172 7 = nI l) (hl : l ≤ 80) (ea : F 172 8 = nI i) (hi : i ≤ 100) (x : Int32) (es : mSg (F 177) l i = x) : mCall d yX7_sign MX7_sign [.ref 172] (mHX L F g) (some (.int x)) (mHX L F g) := by
  by_cases h : i < l
  · exact c_sg_i d l i el hl ea hi x es h
  · exact c_sg_o d l i el hl ea hi x es h
set_option maxHeartbeats 4000000 in
set_option maxRecDepth 100000 in
theorem c_dg_off {L : Nat} {F : Nat → Nat → Int32} {g : Nat → Option Nat} (d : Nat) (l i : Nat) (el : F 172 7 = nI l) (hl : l ≤ 80) (ea : F 172 8 = nI i) (hi : i ≤ 90) (x : Int32) (es : mSg (F 177) l i = x) (hw : F 172 9 = 0) : mCall (d + 1) yX7_digit MX7_digit [.ref 172] (mHX L F g) (some (.int (x - 48))) (mHX L F g) := by
  refine mCall_of sX7_digit.1 (Nat.le_of_ble_eq_true rfl) ⟨_, rfl, rfl⟩ ?_
  show mGo _ _ (0, [some (.ref 172), none], [], _) _
  refine g_aload_n dX7_digit_0 rfl ?_
  refine g_aload_n dX7_digit_1 rfl ?_
  refine g_gI dX7_digit_2 fl_X7_154 (fun _ _ => rfl) rfl (by decide) ?_
  refine g_if_eq (tgt := 26) dX7_digit_5 (by decide) (fun c5 => ?_) (fun c5 => absurd hw c5)
  refine g_iconstv (v := 0) dX7_digit_26 rfl ?_
  refine g_pZ dX7_digit_27 fl_X7_154 (Or.inl rfl) rfl (by decide) rfl (by first | exact Or.inl rfl | exact Or.inr rfl) ?_
  rw [pe_id hw]
  refine g_aload_n dX7_digit_30 rfl ?_
  refine g_V0i dX7_digit_31 ml_X7_158 sX7_sign rfl (by decide) (Nat.le_of_ble_eq_true rfl) (c_sign (F := F) (d) l i el hl ea (by omega) x es) ?_
  refine g_bipushv (v := 48) dX7_digit_34 rfl ?_
  refine g_isub dX7_digit_36 ?_
  refine g_istore_n dX7_digit_37 (by decide) rfl ?_
  refine g_aload_n dX7_digit_38 rfl ?_
  refine g_dup dX7_digit_39 rfl ?_
  refine g_gI dX7_digit_40 fl_X7_151 (fun _ _ => rfl) rfl (by decide) ?_
  refine g_aload_n dX7_digit_43 rfl ?_
  refine g_gI dX7_digit_44 fl_X7_154 (fun _ _ => rfl) rfl (by decide) ?_
  refine g_if_eq (tgt := 54) dX7_digit_47 (by decide) (fun c47 => ?_) (fun c47 => absurd hw c47)
  refine g_iconstv (v := 0) dX7_digit_54 rfl ?_
  refine g_iadd dX7_digit_55 ?_
  rw [Int32.add_zero]
  refine g_pI dX7_digit_56 fl_X7_151 (Or.inl rfl) rfl (by decide) rfl ?_
  rw [pe_id rfl]
  refine g_iload_n dX7_digit_59 rfl ?_
  exact g_iret dX7_digit_60 rfl
set_option maxHeartbeats 4000000 in
set_option maxRecDepth 100000 in
theorem c_dg_no {L : Nat} {F : Nat → Nat → Int32} {g : Nat → Option Nat} (d : Nat) (l i : Nat) (el : F 172 7 = nI l) (hl : l ≤ 80) (ea : F 172 8 = nI i) (hi : i ≤ 90) (x : Int32) (es : mSg (F 177) l i = x) (hw : F 172 9 = 1) (hd : ¬ (48 ≤ x ∧ x ≤ 57)) : mCall (d + 1) yX7_digit MX7_digit [.ref 172] (mHX L F g) (some (.int (x - 48))) (mHX L (pe F 172 9 0) g) := by
  refine mCall_of sX7_digit.1 (Nat.le_of_ble_eq_true rfl) ⟨_, rfl, rfl⟩ ?_
  show mGo _ _ (0, [some (.ref 172), none], [], _) _
  refine g_aload_n dX7_digit_0 rfl ?_
  refine g_aload_n dX7_digit_1 rfl ?_
  refine g_gI dX7_digit_2 fl_X7_154 (fun _ _ => rfl) rfl (by decide) ?_
  refine g_if_eq (tgt := 26) dX7_digit_5 (by decide) (fun c5 => absurd c5 (by rw [hw]; decide)) (fun c5 => ?_)
  refine g_aload_n dX7_digit_8 rfl ?_
  refine g_V0i dX7_digit_9 ml_X7_158 sX7_sign rfl (by decide) (Nat.le_of_ble_eq_true rfl) (c_sign (F := F) (d) l i el hl ea (by omega) x es) ?_
  refine g_bipushv (v := 48) dX7_digit_12 rfl ?_
  refine g_bipushv (v := 57) dX7_digit_14 rfl ?_
  refine g_S3i dX7_digit_16 ml_X7_33 sX7_in (Nat.le_of_ble_eq_true rfl) (c_in (d) x 48 57) ?_
  refine g_if_eq (tgt := 26) dX7_digit_19 (by decide) (fun c19 => ?_) (fun c19 => absurd (mbi_f hd) c19)
  refine g_iconstv (v := 0) dX7_digit_26 rfl ?_
  refine g_pZ dX7_digit_27 fl_X7_154 (Or.inl rfl) rfl (by decide) rfl (by first | exact Or.inl rfl | exact Or.inr rfl) ?_
  refine g_aload_n dX7_digit_30 rfl ?_
  refine g_V0i dX7_digit_31 ml_X7_158 sX7_sign rfl (by decide) (Nat.le_of_ble_eq_true rfl) (c_sign (F := (pe F 172 9 0)) (d) l i (by rw [pe_ne (by decide)]; exact el) hl (by rw [pe_ne (by decide)]; exact ea) (by omega) x es) ?_
  refine g_bipushv (v := 48) dX7_digit_34 rfl ?_
  refine g_isub dX7_digit_36 ?_
  refine g_istore_n dX7_digit_37 (by decide) rfl ?_
  refine g_aload_n dX7_digit_38 rfl ?_
  refine g_dup dX7_digit_39 rfl ?_
  refine g_gI dX7_digit_40 fl_X7_151 (fun _ _ => rfl) rfl (by decide) ?_
  refine g_aload_n dX7_digit_43 rfl ?_
  refine g_gI dX7_digit_44 fl_X7_154 (fun _ _ => rfl) rfl (by decide) ?_
  refine g_if_eq (tgt := 54) dX7_digit_47 (by decide) (fun c47 => ?_) (fun c47 => absurd (pe_eq _ _ _ _) c47)
  refine g_iconstv (v := 0) dX7_digit_54 rfl ?_
  refine g_iadd dX7_digit_55 ?_
  rw [Int32.add_zero]
  refine g_pI dX7_digit_56 fl_X7_151 (Or.inl rfl) rfl (by decide) rfl ?_
  rw [pe_id rfl]
  refine g_iload_n dX7_digit_59 rfl ?_
  exact g_iret dX7_digit_60 rfl
set_option maxHeartbeats 4000000 in
set_option maxRecDepth 100000 in
theorem c_dg_yes {L : Nat} {F : Nat → Nat → Int32} {g : Nat → Option Nat} (d : Nat) (l i : Nat) (el : F 172 7 = nI l) (hl : l ≤ 80) (ea : F 172 8 = nI i) (hi : i ≤ 90) (x : Int32) (es : mSg (F 177) l i = x) (hw : F 172 9 = 1) (hd : 48 ≤ x ∧ x ≤ 57) : mCall (d + 1) yX7_digit MX7_digit [.ref 172] (mHX L F g) (some (.int (x - 48))) (mHX L (pe F 172 8 (nI (i + 1))) g) := by
  refine mCall_of sX7_digit.1 (Nat.le_of_ble_eq_true rfl) ⟨_, rfl, rfl⟩ ?_
  show mGo _ _ (0, [some (.ref 172), none], [], _) _
  refine g_aload_n dX7_digit_0 rfl ?_
  refine g_aload_n dX7_digit_1 rfl ?_
  refine g_gI dX7_digit_2 fl_X7_154 (fun _ _ => rfl) rfl (by decide) ?_
  refine g_if_eq (tgt := 26) dX7_digit_5 (by decide) (fun c5 => absurd c5 (by rw [hw]; decide)) (fun c5 => ?_)
  refine g_aload_n dX7_digit_8 rfl ?_
  refine g_V0i dX7_digit_9 ml_X7_158 sX7_sign rfl (by decide) (Nat.le_of_ble_eq_true rfl) (c_sign (F := F) (d) l i el hl ea (by omega) x es) ?_
  refine g_bipushv (v := 48) dX7_digit_12 rfl ?_
  refine g_bipushv (v := 57) dX7_digit_14 rfl ?_
  refine g_S3i dX7_digit_16 ml_X7_33 sX7_in (Nat.le_of_ble_eq_true rfl) (c_in (d) x 48 57) ?_
  refine g_if_eq (tgt := 26) dX7_digit_19 (by decide) (fun c19 => absurd c19 (mbi_n0.mpr hd)) (fun c19 => ?_)
  refine g_iconstv (v := 1) dX7_digit_22 rfl ?_
  refine g_goto (tgt := 27) dX7_digit_23 (by decide) ?_
  refine g_pZ dX7_digit_27 fl_X7_154 (Or.inl rfl) rfl (by decide) rfl (by first | exact Or.inl rfl | exact Or.inr rfl) ?_
  rw [pe_id hw]
  refine g_aload_n dX7_digit_30 rfl ?_
  refine g_V0i dX7_digit_31 ml_X7_158 sX7_sign rfl (by decide) (Nat.le_of_ble_eq_true rfl) (c_sign (F := F) (d) l i el hl ea (by omega) x es) ?_
  refine g_bipushv (v := 48) dX7_digit_34 rfl ?_
  refine g_isub dX7_digit_36 ?_
  refine g_istore_n dX7_digit_37 (by decide) rfl ?_
  refine g_aload_n dX7_digit_38 rfl ?_
  refine g_dup dX7_digit_39 rfl ?_
  refine g_gI dX7_digit_40 fl_X7_151 (fun _ _ => rfl) rfl (by decide) ?_
  refine g_aload_n dX7_digit_43 rfl ?_
  refine g_gI dX7_digit_44 fl_X7_154 (fun _ _ => rfl) rfl (by decide) ?_
  refine g_if_eq (tgt := 54) dX7_digit_47 (by decide) (fun c47 => absurd c47 (by rw [hw]; decide)) (fun c47 => ?_)
  refine g_iconstv (v := 1) dX7_digit_50 rfl ?_
  refine g_goto (tgt := 55) dX7_digit_51 (by decide) ?_
  refine g_iadd dX7_digit_55 ?_
  rw [ea, nI_1]
  refine g_pI dX7_digit_56 fl_X7_151 (Or.inl rfl) rfl (by decide) rfl ?_
  refine g_iload_n dX7_digit_59 rfl ?_
  exact g_iret dX7_digit_60 rfl
set_option maxHeartbeats 4000000 in
set_option maxRecDepth 100000 in
theorem c_nu_off {L : Nat} {F : Nat → Nat → Int32} {g : Nat → Option Nat} (d : Nat) (l i : Nat) (el : F 172 7 = nI l) (hl : l ≤ 80) (ea : F 172 8 = nI i) (hi : i ≤ 90) (x : Int32) (es : mSg (F 177) l i = x) (hw : F 172 9 = 0) : mCall (d + 2) yX7_number MX7_number [.ref 172] (mHX L F g) (some (.int (x - 48))) (mHX L F g) := by
  refine mCall_of sX7_number.1 (Nat.le_of_ble_eq_true rfl) ⟨_, rfl, rfl⟩ ?_
  show mGo _ _ (0, [some (.ref 172), none], [], _) _
  refine g_aload_n dX7_number_0 rfl ?_
  refine g_V0i dX7_number_1 ml_X7_161 sX7_digit rfl (by decide) (Nat.le_of_ble_eq_true rfl) (c_dg_off d l i el hl ea hi x es hw ) ?_
  refine g_istore_n dX7_number_4 (by decide) rfl ?_
  refine g_aload_n dX7_number_5 rfl ?_
  refine g_gI dX7_number_6 fl_X7_154 (fun _ _ => rfl) rfl (by decide) ?_
  refine g_if_eq (tgt := 53) dX7_number_9 (by decide) (fun c9 => ?_) (fun c9 => absurd hw c9)
  refine g_iload_n dX7_number_53 rfl ?_
  exact g_iret dX7_number_54 rfl
set_option maxHeartbeats 4000000 in
set_option maxRecDepth 100000 in
theorem c_nu_no {L : Nat} {F : Nat → Nat → Int32} {g : Nat → Option Nat} (d : Nat) (l i : Nat) (el : F 172 7 = nI l) (hl : l ≤ 80) (ea : F 172 8 = nI i) (hi : i ≤ 90) (x : Int32) (es : mSg (F 177) l i = x) (hw : F 172 9 = 1) (hd : ¬ (48 ≤ x ∧ x ≤ 57)) : mCall (d + 2) yX7_number MX7_number [.ref 172] (mHX L F g) (some (.int (x - 48))) (mHX L (pe F 172 9 0) g) := by
  refine mCall_of sX7_number.1 (Nat.le_of_ble_eq_true rfl) ⟨_, rfl, rfl⟩ ?_
  show mGo _ _ (0, [some (.ref 172), none], [], _) _
  refine g_aload_n dX7_number_0 rfl ?_
  refine g_V0i dX7_number_1 ml_X7_161 sX7_digit rfl (by decide) (Nat.le_of_ble_eq_true rfl) (c_dg_no d l i el hl ea hi x es hw hd) ?_
  refine g_istore_n dX7_number_4 (by decide) rfl ?_
  refine g_aload_n dX7_number_5 rfl ?_
  refine g_gI dX7_number_6 fl_X7_154 (fun _ _ => rfl) rfl (by decide) ?_
  refine g_if_eq (tgt := 53) dX7_number_9 (by decide) (fun c9 => ?_) (fun c9 => absurd (pe_eq _ _ _ _) c9)
  refine g_iload_n dX7_number_53 rfl ?_
  exact g_iret dX7_number_54 rfl
set_option maxHeartbeats 4000000 in
set_option maxRecDepth 100000 in
theorem c_nu_0 {L : Nat} {F : Nat → Nat → Int32} {g : Nat → Option Nat} (d : Nat) (l i : Nat) (el : F 172 7 = nI l) (hl : l ≤ 80) (ea : F 172 8 = nI i) (hi : i ≤ 90) (x : Int32) (es : mSg (F 177) l i = x) (hw : F 172 9 = 1) (hd : 48 ≤ x ∧ x ≤ 57) (hx : x = 48) : mCall (d + 2) yX7_number MX7_number [.ref 172] (mHX L F g) (some (.int (x - 48))) (mHX L (pe F 172 8 (nI (i + 1))) g) := by
  refine mCall_of sX7_number.1 (Nat.le_of_ble_eq_true rfl) ⟨_, rfl, rfl⟩ ?_
  show mGo _ _ (0, [some (.ref 172), none], [], _) _
  refine g_aload_n dX7_number_0 rfl ?_
  refine g_V0i dX7_number_1 ml_X7_161 sX7_digit rfl (by decide) (Nat.le_of_ble_eq_true rfl) (c_dg_yes d l i el hl ea hi x es hw hd) ?_
  refine g_istore_n dX7_number_4 (by decide) rfl ?_
  refine g_aload_n dX7_number_5 rfl ?_
  refine g_gI dX7_number_6 fl_X7_154 (fun _ _ => rfl) rfl (by decide) ?_
  refine g_if_eq (tgt := 53) dX7_number_9 (by decide) (fun c9 => absurd c9 (by rw [pe_ne (by decide), hw]; decide)) (fun c9 => ?_)
  refine g_iload_n dX7_number_12 rfl ?_
  refine g_if_le (tgt := 53) dX7_number_13 (by decide) (fun c13 => ?_) (fun c13 => absurd (by rw [hx]; decide) c13)
  refine g_iload_n dX7_number_53 rfl ?_
  exact g_iret dX7_number_54 rfl
theorem m_p48 {x : Int32} (h : 48 ≤ x) : ¬ x < 0 := by
  have e : (48 : Int32).toInt = 48 := by decide
  have e0 : (0 : Int32).toInt = 0 := by decide
  rw [i_le] at h
  rw [i_lt]
  omega
theorem m_x48 {x : Int32} (hd : 48 ≤ x ∧ x ≤ 57) (hx : ¬ x = 48) : ¬ x - 48 ≤ 0 := by
  obtain ⟨j, hj, rfl⟩ := nI_of2 (x := x) (M := 57) (n := 57) (by decide) (m_p48 hd.1) hd.2
  have h1 : 48 ≤ j := (nI_leI (a := 48) (by decide) (by omega)).mp hd.1
  have h2 : j ≠ 48 := fun q => hx (by rw [q]; rfl)
  rw [show (48 : Int32) = nI 48 from rfl, pk_sub h1]
  exact nI_nle (by omega) (by omega)
set_option maxHeartbeats 4000000 in
set_option maxRecDepth 100000 in
theorem c_nu_1 {L : Nat} {F : Nat → Nat → Int32} {g : Nat → Option Nat} (d : Nat) (l i : Nat) (el : F 172 7 = nI l) (hl : l ≤ 80) (ea : F 172 8 = nI i) (hi : i ≤ 90) (x : Int32) (es : mSg (F 177) l i = x) (hw : F 172 9 = 1) (hd : 48 ≤ x ∧ x ≤ 57) (hx : ¬ x = 48) (y : Int32) (es2 : mSg (F 177) l (i + 1) = y) (hd2 : ¬ (48 ≤ y ∧ y ≤ 57)) : mCall (d + 2) yX7_number MX7_number [.ref 172] (mHX L F g) (some (.int (x - 48))) (mHX L (pe F 172 8 (nI (i + 1))) g) := by
  refine mCall_of sX7_number.1 (Nat.le_of_ble_eq_true rfl) ⟨_, rfl, rfl⟩ ?_
  show mGo _ _ (0, [some (.ref 172), none], [], _) _
  have hx0 : ¬ x - 48 ≤ 0 := m_x48 hd hx
  refine g_aload_n dX7_number_0 rfl ?_
  refine g_V0i dX7_number_1 ml_X7_161 sX7_digit rfl (by decide) (Nat.le_of_ble_eq_true rfl) (c_dg_yes d l i el hl ea hi x es hw hd) ?_
  refine g_istore_n dX7_number_4 (by decide) rfl ?_
  refine g_aload_n dX7_number_5 rfl ?_
  refine g_gI dX7_number_6 fl_X7_154 (fun _ _ => rfl) rfl (by decide) ?_
  refine g_if_eq (tgt := 53) dX7_number_9 (by decide) (fun c9 => absurd c9 (by rw [pe_ne (by decide), hw]; decide)) (fun c9 => ?_)
  refine g_iload_n dX7_number_12 rfl ?_
  refine g_if_le (tgt := 53) dX7_number_13 (by decide) (fun c13 => absurd c13 hx0) (fun c13 => ?_)
  refine g_aload_n dX7_number_16 rfl ?_
  refine g_V0i dX7_number_17 ml_X7_158 sX7_sign rfl (by decide) (Nat.le_of_ble_eq_true rfl) (c_sign (F := (pe F 172 8 (nI (i + 1)))) (d + 1) l (i + 1) (by rw [pe_ne (by decide)]; exact el) hl (pe_eq _ _ _ _) (by omega) y es2) ?_
  refine g_bipushv (v := 48) dX7_number_20 rfl ?_
  refine g_bipushv (v := 57) dX7_number_22 rfl ?_
  refine g_S3i dX7_number_24 ml_X7_33 sX7_in (Nat.le_of_ble_eq_true rfl) (c_in (d + 1) y 48 57) ?_
  refine g_if_eq (tgt := 53) dX7_number_27 (by decide) (fun c27 => ?_) (fun c27 => absurd (mbi_f hd2) c27)
  refine g_iload_n dX7_number_53 rfl ?_
  exact g_iret dX7_number_54 rfl
set_option maxHeartbeats 4000000 in
set_option maxRecDepth 100000 in
theorem c_nu_2 {L : Nat} {F : Nat → Nat → Int32} {g : Nat → Option Nat} (d : Nat) (l i : Nat) (el : F 172 7 = nI l) (hl : l ≤ 80) (ea : F 172 8 = nI i) (hi : i ≤ 90) (x : Int32) (es : mSg (F 177) l i = x) (hw : F 172 9 = 1) (hd : 48 ≤ x ∧ x ≤ 57) (hx : ¬ x = 48) (y : Int32) (es2 : mSg (F 177) l (i + 1) = y) (hd2 : 48 ≤ y ∧ y ≤ 57) : mCall (d + 2) yX7_number MX7_number [.ref 172] (mHX L F g) (some (.int (10 * (x - 48) + y - 48))) (mHX L (pe F 172 8 (nI (i + 2))) g) := by
  refine mCall_of sX7_number.1 (Nat.le_of_ble_eq_true rfl) ⟨_, rfl, rfl⟩ ?_
  show mGo _ _ (0, [some (.ref 172), none], [], _) _
  have hx0 : ¬ x - 48 ≤ 0 := m_x48 hd hx
  refine g_aload_n dX7_number_0 rfl ?_
  refine g_V0i dX7_number_1 ml_X7_161 sX7_digit rfl (by decide) (Nat.le_of_ble_eq_true rfl) (c_dg_yes d l i el hl ea hi x es hw hd) ?_
  refine g_istore_n dX7_number_4 (by decide) rfl ?_
  refine g_aload_n dX7_number_5 rfl ?_
  refine g_gI dX7_number_6 fl_X7_154 (fun _ _ => rfl) rfl (by decide) ?_
  refine g_if_eq (tgt := 53) dX7_number_9 (by decide) (fun c9 => absurd c9 (by rw [pe_ne (by decide), hw]; decide)) (fun c9 => ?_)
  refine g_iload_n dX7_number_12 rfl ?_
  refine g_if_le (tgt := 53) dX7_number_13 (by decide) (fun c13 => absurd c13 hx0) (fun c13 => ?_)
  refine g_aload_n dX7_number_16 rfl ?_
  refine g_V0i dX7_number_17 ml_X7_158 sX7_sign rfl (by decide) (Nat.le_of_ble_eq_true rfl) (c_sign (F := (pe F 172 8 (nI (i + 1)))) (d + 1) l (i + 1) (by rw [pe_ne (by decide)]; exact el) hl (pe_eq _ _ _ _) (by omega) y es2) ?_
  refine g_bipushv (v := 48) dX7_number_20 rfl ?_
  refine g_bipushv (v := 57) dX7_number_22 rfl ?_
  refine g_S3i dX7_number_24 ml_X7_33 sX7_in (Nat.le_of_ble_eq_true rfl) (c_in (d + 1) y 48 57) ?_
  refine g_if_eq (tgt := 53) dX7_number_27 (by decide) (fun c27 => absurd c27 (mbi_n0.mpr hd2)) (fun c27 => ?_)
  refine g_bipushv (v := 10) dX7_number_30 rfl ?_
  refine g_iload_n dX7_number_32 rfl ?_
  refine g_imul dX7_number_33 ?_
  refine g_aload_n dX7_number_34 rfl ?_
  refine g_V0i dX7_number_35 ml_X7_158 sX7_sign rfl (by decide) (Nat.le_of_ble_eq_true rfl) (c_sign (F := (pe F 172 8 (nI (i + 1)))) (d + 1) l (i + 1) (by rw [pe_ne (by decide)]; exact el) hl (pe_eq _ _ _ _) (by omega) y es2) ?_
  refine g_iadd dX7_number_38 ?_
  refine g_bipushv (v := 48) dX7_number_39 rfl ?_
  refine g_isub dX7_number_41 ?_
  refine g_istore_n dX7_number_42 (by decide) rfl ?_
  refine g_aload_n dX7_number_43 rfl ?_
  refine g_dup dX7_number_44 rfl ?_
  refine g_gI dX7_number_45 fl_X7_151 (fun _ _ => rfl) rfl (by decide) ?_
  refine g_iconstv (v := 1) dX7_number_48 rfl ?_
  refine g_iadd dX7_number_49 ?_
  rw [pe_eq, nI_1]
  refine g_pI dX7_number_50 fl_X7_151 (Or.inl rfl) rfl (by decide) rfl ?_
  rw [pe_pe]
  refine g_iload_n dX7_number_53 rfl ?_
  exact g_iret dX7_number_54 rfl
def yro_p0 (F : Nat → Nat → Int32) (i m : Nat) (x y z : Int32) : Nat → Nat → Int32 := (pe (pe (pe (pe (pe (pe F 172 9 1) 172 8 (nI (i + 1))) 178 (3 * m) 112) 172 9 0) 178 (3 * m + 1) (y - 48)) 172 11 (nI m))
set_option maxHeartbeats 4000000 in
set_option maxRecDepth 100000 in
theorem c_ro_p0 {L : Nat} {F : Nat → Nat → Int32} {g : Nat → Option Nat} (d : Nat) (l i m : Nat) (el : F 172 7 = nI l) (hl : l ≤ 80) (ea : F 172 8 = nI i) (hi : i ≤ 80) (em : F 172 11 = nI m) (hm : m ≤ 40) (x y z : Int32) (es : mSg (F 177) l i = 112)  (es_y : mSg (F 177) l (i + 1) = y) (hy : ¬ (48 ≤ y ∧ y ≤ 57)) : mCall (d + 3) yX7_readsOrder MX7_readsOrder [.ref 172] (mHX L F g) (none) (mHX L (yro_p0 F i m x y z) g) := by
  refine mCall_of sX7_readsOrder.1 (Nat.le_of_ble_eq_true rfl) rfl ?_
  show mGo _ _ (0, [some (.ref 172), none, none], [], _) _
  refine g_iconstv (v := 3) dX7_readsOrder_0 rfl ?_
  refine g_aload_n dX7_readsOrder_1 rfl ?_
  refine g_gI dX7_readsOrder_2 fl_X7_164 (fun _ _ => rfl) rfl (by decide) ?_
  refine g_imul dX7_readsOrder_5 ?_
  rw [em, show (3 : Int32) = nI 3 from rfl, pk_mul]
  refine g_istore_n dX7_readsOrder_6 (by decide) rfl ?_
  refine g_aload_n dX7_readsOrder_7 rfl ?_
  refine g_V0i dX7_readsOrder_8 ml_X7_158 sX7_sign rfl (by decide) (Nat.le_of_ble_eq_true rfl) (c_sign (d + 2) l i el hl ea (by omega) 112 es) ?_
  refine g_istore_n dX7_readsOrder_11 (by decide) rfl ?_
  refine g_aload_n dX7_readsOrder_12 rfl ?_
  refine g_iload_n dX7_readsOrder_13 rfl ?_
  refine g_bipushv (v := 103) dX7_readsOrder_14 rfl ?_
  refine g_icmp_eq (tgt := 55) dX7_readsOrder_16 (by decide) (fun c16 => absurd c16 (by decide)) (fun c16 => ?_)
  refine g_iload_n dX7_readsOrder_19 rfl ?_
  refine g_bipushv (v := 120) dX7_readsOrder_20 rfl ?_
  refine g_icmp_eq (tgt := 55) dX7_readsOrder_22 (by decide) (fun c22 => absurd c22 (by decide)) (fun c22 => ?_)
  refine g_iload_n dX7_readsOrder_25 rfl ?_
  refine g_bipushv (v := 112) dX7_readsOrder_26 rfl ?_
  refine g_icmp_eq (tgt := 55) dX7_readsOrder_28 (by decide) (fun c28 => ?_) (fun c28 => absurd (by decide) c28)
  refine g_iconstv (v := 1) dX7_readsOrder_55 rfl ?_
  refine g_goto (tgt := 60) dX7_readsOrder_56 (by decide) ?_
  refine g_pZ dX7_readsOrder_60 fl_X7_154 (Or.inl rfl) rfl (by decide) rfl (by first | exact Or.inl rfl | exact Or.inr rfl) ?_
  refine g_aload_n dX7_readsOrder_63 rfl ?_
  refine g_dup dX7_readsOrder_64 rfl ?_
  refine g_gI dX7_readsOrder_65 fl_X7_151 (fun _ _ => rfl) rfl (by decide) ?_
  refine g_aload_n dX7_readsOrder_68 rfl ?_
  refine g_gI dX7_readsOrder_69 fl_X7_154 (fun _ _ => rfl) rfl (by decide) ?_
  refine g_if_eq (tgt := 79) dX7_readsOrder_72 (by decide) (fun c72 => absurd c72 (by simp [pe_at])) (fun c72 => ?_)
  refine g_iconstv (v := 1) dX7_readsOrder_75 rfl ?_
  refine g_goto (tgt := 80) dX7_readsOrder_76 (by decide) ?_
  refine g_iadd dX7_readsOrder_80 ?_
  rw [show (pe F 172 9 1) 172 8 = nI i by simp [pe_at, el, ea, em], nI_1]
  refine g_pI dX7_readsOrder_81 fl_X7_151 (Or.inl rfl) rfl (by decide) rfl ?_
  refine g_aload_n dX7_readsOrder_84 rfl ?_
  refine g_gR (r := 178) dX7_readsOrder_85 fl_X7_26 (fun _ _ => rfl) rfl (by decide) rfl ?_
  refine g_iload_n dX7_readsOrder_88 rfl ?_
  refine g_iload_n dX7_readsOrder_89 rfl ?_
  refine g_iastN (gx := (3 * m)) dX7_readsOrder_90 rfl (by decide) rfl (by omega) (by decide) ?_
  refine g_aload_n dX7_readsOrder_91 rfl ?_
  refine g_gR (r := 178) dX7_readsOrder_92 fl_X7_26 (fun _ _ => rfl) rfl (by decide) rfl ?_
  refine g_iload_n dX7_readsOrder_95 rfl ?_
  refine g_iconstv (v := 1) dX7_readsOrder_96 rfl ?_
  refine g_iadd dX7_readsOrder_97 ?_
  refine g_iload_n dX7_readsOrder_98 rfl ?_
  refine g_bipushv (v := 103) dX7_readsOrder_99 rfl ?_
  refine g_icmp_eq (tgt := 116) dX7_readsOrder_101 (by decide) (fun c101 => absurd c101 (by decide)) (fun c101 => ?_)
  refine g_iload_n dX7_readsOrder_104 rfl ?_
  refine g_bipushv (v := 112) dX7_readsOrder_105 rfl ?_
  refine g_icmp_eq (tgt := 116) dX7_readsOrder_107 (by decide) (fun c107 => ?_) (fun c107 => absurd (by decide) c107)
  refine g_aload_n dX7_readsOrder_116 rfl ?_
  refine g_V0i dX7_readsOrder_117 ml_X7_161 sX7_digit rfl (by decide) (Nat.le_of_ble_eq_true rfl) (c_dg_no (F := (pe (pe (pe F 172 9 1) 172 8 (nI (i + 1))) 178 (3 * m) 112)) (d + 1) l (i + 1) (by simp [pe_at, el]) hl (by simp [pe_at]) (by omega) y (by first | exact es_y | (simp [pe_at]; exact es_y)) (by simp [pe_at]) hy) ?_
  refine g_goto (tgt := 127) dX7_readsOrder_120 (by decide) ?_
  refine g_iastN (gx := (3 * m + 1)) dX7_readsOrder_127 rfl (by decide) (nI_1 (3 * m)) (by omega) (by decide) ?_
  refine g_iload_n dX7_readsOrder_128 rfl ?_
  refine g_bipushv (v := 103) dX7_readsOrder_129 rfl ?_
  refine g_icmp_ne (tgt := 192) dX7_readsOrder_131 (by decide) (fun c131 => ?_) (fun c131 => absurd c131 (by decide))
  refine g_aload_n dX7_readsOrder_192 rfl ?_
  refine g_dup dX7_readsOrder_193 rfl ?_
  refine g_gI dX7_readsOrder_194 fl_X7_164 (fun _ _ => rfl) rfl (by decide) ?_
  refine g_aload_n dX7_readsOrder_197 rfl ?_
  refine g_gI dX7_readsOrder_198 fl_X7_154 (fun _ _ => rfl) rfl (by decide) ?_
  refine g_if_eq (tgt := 208) dX7_readsOrder_201 (by decide) (fun c201 => ?_) (fun c201 => absurd (by simp [pe_at]) c201)
  refine g_iconstv (v := 0) dX7_readsOrder_208 rfl ?_
  refine g_iadd dX7_readsOrder_209 ?_
  rw [show (pe (pe (pe (pe (pe F 172 9 1) 172 8 (nI (i + 1))) 178 (3 * m) 112) 172 9 0) 178 (3 * m + 1) (y - 48)) 172 11 = nI m by simp [pe_at, el, ea, em], Int32.add_zero]
  refine g_pI dX7_readsOrder_210 fl_X7_164 (Or.inl rfl) rfl (by decide) rfl ?_
  exact g_vret dX7_readsOrder_213 rfl
def yro_p1 (F : Nat → Nat → Int32) (i m : Nat) (x y z : Int32) : Nat → Nat → Int32 := (pe (pe (pe (pe (pe (pe F 172 9 1) 172 8 (nI (i + 1))) 178 (3 * m) 112) 172 8 (nI (i + 1 + 1))) 178 (3 * m + 1) (y - 48)) 172 11 (nI (m + 1)))
set_option maxHeartbeats 4000000 in
set_option maxRecDepth 100000 in
theorem c_ro_p1 {L : Nat} {F : Nat → Nat → Int32} {g : Nat → Option Nat} (d : Nat) (l i m : Nat) (el : F 172 7 = nI l) (hl : l ≤ 80) (ea : F 172 8 = nI i) (hi : i ≤ 80) (em : F 172 11 = nI m) (hm : m ≤ 40) (x y z : Int32) (es : mSg (F 177) l i = 112)  (es_y : mSg (F 177) l (i + 1) = y) (hy : 48 ≤ y ∧ y ≤ 57) : mCall (d + 3) yX7_readsOrder MX7_readsOrder [.ref 172] (mHX L F g) (none) (mHX L (yro_p1 F i m x y z) g) := by
  refine mCall_of sX7_readsOrder.1 (Nat.le_of_ble_eq_true rfl) rfl ?_
  show mGo _ _ (0, [some (.ref 172), none, none], [], _) _
  refine g_iconstv (v := 3) dX7_readsOrder_0 rfl ?_
  refine g_aload_n dX7_readsOrder_1 rfl ?_
  refine g_gI dX7_readsOrder_2 fl_X7_164 (fun _ _ => rfl) rfl (by decide) ?_
  refine g_imul dX7_readsOrder_5 ?_
  rw [em, show (3 : Int32) = nI 3 from rfl, pk_mul]
  refine g_istore_n dX7_readsOrder_6 (by decide) rfl ?_
  refine g_aload_n dX7_readsOrder_7 rfl ?_
  refine g_V0i dX7_readsOrder_8 ml_X7_158 sX7_sign rfl (by decide) (Nat.le_of_ble_eq_true rfl) (c_sign (d + 2) l i el hl ea (by omega) 112 es) ?_
  refine g_istore_n dX7_readsOrder_11 (by decide) rfl ?_
  refine g_aload_n dX7_readsOrder_12 rfl ?_
  refine g_iload_n dX7_readsOrder_13 rfl ?_
  refine g_bipushv (v := 103) dX7_readsOrder_14 rfl ?_
  refine g_icmp_eq (tgt := 55) dX7_readsOrder_16 (by decide) (fun c16 => absurd c16 (by decide)) (fun c16 => ?_)
  refine g_iload_n dX7_readsOrder_19 rfl ?_
  refine g_bipushv (v := 120) dX7_readsOrder_20 rfl ?_
  refine g_icmp_eq (tgt := 55) dX7_readsOrder_22 (by decide) (fun c22 => absurd c22 (by decide)) (fun c22 => ?_)
  refine g_iload_n dX7_readsOrder_25 rfl ?_
  refine g_bipushv (v := 112) dX7_readsOrder_26 rfl ?_
  refine g_icmp_eq (tgt := 55) dX7_readsOrder_28 (by decide) (fun c28 => ?_) (fun c28 => absurd (by decide) c28)
  refine g_iconstv (v := 1) dX7_readsOrder_55 rfl ?_
  refine g_goto (tgt := 60) dX7_readsOrder_56 (by decide) ?_
  refine g_pZ dX7_readsOrder_60 fl_X7_154 (Or.inl rfl) rfl (by decide) rfl (by first | exact Or.inl rfl | exact Or.inr rfl) ?_
  refine g_aload_n dX7_readsOrder_63 rfl ?_
  refine g_dup dX7_readsOrder_64 rfl ?_
  refine g_gI dX7_readsOrder_65 fl_X7_151 (fun _ _ => rfl) rfl (by decide) ?_
  refine g_aload_n dX7_readsOrder_68 rfl ?_
  refine g_gI dX7_readsOrder_69 fl_X7_154 (fun _ _ => rfl) rfl (by decide) ?_
  refine g_if_eq (tgt := 79) dX7_readsOrder_72 (by decide) (fun c72 => absurd c72 (by simp [pe_at])) (fun c72 => ?_)
  refine g_iconstv (v := 1) dX7_readsOrder_75 rfl ?_
  refine g_goto (tgt := 80) dX7_readsOrder_76 (by decide) ?_
  refine g_iadd dX7_readsOrder_80 ?_
  rw [show (pe F 172 9 1) 172 8 = nI i by simp [pe_at, el, ea, em], nI_1]
  refine g_pI dX7_readsOrder_81 fl_X7_151 (Or.inl rfl) rfl (by decide) rfl ?_
  refine g_aload_n dX7_readsOrder_84 rfl ?_
  refine g_gR (r := 178) dX7_readsOrder_85 fl_X7_26 (fun _ _ => rfl) rfl (by decide) rfl ?_
  refine g_iload_n dX7_readsOrder_88 rfl ?_
  refine g_iload_n dX7_readsOrder_89 rfl ?_
  refine g_iastN (gx := (3 * m)) dX7_readsOrder_90 rfl (by decide) rfl (by omega) (by decide) ?_
  refine g_aload_n dX7_readsOrder_91 rfl ?_
  refine g_gR (r := 178) dX7_readsOrder_92 fl_X7_26 (fun _ _ => rfl) rfl (by decide) rfl ?_
  refine g_iload_n dX7_readsOrder_95 rfl ?_
  refine g_iconstv (v := 1) dX7_readsOrder_96 rfl ?_
  refine g_iadd dX7_readsOrder_97 ?_
  refine g_iload_n dX7_readsOrder_98 rfl ?_
  refine g_bipushv (v := 103) dX7_readsOrder_99 rfl ?_
  refine g_icmp_eq (tgt := 116) dX7_readsOrder_101 (by decide) (fun c101 => absurd c101 (by decide)) (fun c101 => ?_)
  refine g_iload_n dX7_readsOrder_104 rfl ?_
  refine g_bipushv (v := 112) dX7_readsOrder_105 rfl ?_
  refine g_icmp_eq (tgt := 116) dX7_readsOrder_107 (by decide) (fun c107 => ?_) (fun c107 => absurd (by decide) c107)
  refine g_aload_n dX7_readsOrder_116 rfl ?_
  refine g_V0i dX7_readsOrder_117 ml_X7_161 sX7_digit rfl (by decide) (Nat.le_of_ble_eq_true rfl) (c_dg_yes (F := (pe (pe (pe F 172 9 1) 172 8 (nI (i + 1))) 178 (3 * m) 112)) (d + 1) l (i + 1) (by simp [pe_at, el]) hl (by simp [pe_at]) (by omega) y (by first | exact es_y | (simp [pe_at]; exact es_y)) (by simp [pe_at]) hy) ?_
  refine g_goto (tgt := 127) dX7_readsOrder_120 (by decide) ?_
  refine g_iastN (gx := (3 * m + 1)) dX7_readsOrder_127 rfl (by decide) (nI_1 (3 * m)) (by omega) (by decide) ?_
  refine g_iload_n dX7_readsOrder_128 rfl ?_
  refine g_bipushv (v := 103) dX7_readsOrder_129 rfl ?_
  refine g_icmp_ne (tgt := 192) dX7_readsOrder_131 (by decide) (fun c131 => ?_) (fun c131 => absurd c131 (by decide))
  refine g_aload_n dX7_readsOrder_192 rfl ?_
  refine g_dup dX7_readsOrder_193 rfl ?_
  refine g_gI dX7_readsOrder_194 fl_X7_164 (fun _ _ => rfl) rfl (by decide) ?_
  refine g_aload_n dX7_readsOrder_197 rfl ?_
  refine g_gI dX7_readsOrder_198 fl_X7_154 (fun _ _ => rfl) rfl (by decide) ?_
  refine g_if_eq (tgt := 208) dX7_readsOrder_201 (by decide) (fun c201 => absurd c201 (by simp [pe_at])) (fun c201 => ?_)
  refine g_iconstv (v := 1) dX7_readsOrder_204 rfl ?_
  refine g_goto (tgt := 209) dX7_readsOrder_205 (by decide) ?_
  refine g_iadd dX7_readsOrder_209 ?_
  rw [show (pe (pe (pe (pe (pe F 172 9 1) 172 8 (nI (i + 1))) 178 (3 * m) 112) 172 8 (nI (i + 1 + 1))) 178 (3 * m + 1) (y - 48)) 172 11 = nI m by simp [pe_at, el, ea, em], nI_1]
  refine g_pI dX7_readsOrder_210 fl_X7_164 (Or.inl rfl) rfl (by decide) rfl ?_
  exact g_vret dX7_readsOrder_213 rfl
def yro_e0 (F : Nat → Nat → Int32) (i m : Nat) (x y z : Int32) : Nat → Nat → Int32 := (pe (pe (pe (pe (pe (pe F 172 9 1) 172 8 (nI (i + 1))) 178 (3 * m) 101) 172 9 0) 178 (3 * m + 1) (y - 48)) 172 11 (nI m))
set_option maxHeartbeats 4000000 in
set_option maxRecDepth 100000 in
theorem c_ro_e0 {L : Nat} {F : Nat → Nat → Int32} {g : Nat → Option Nat} (d : Nat) (l i m : Nat) (el : F 172 7 = nI l) (hl : l ≤ 80) (ea : F 172 8 = nI i) (hi : i ≤ 80) (em : F 172 11 = nI m) (hm : m ≤ 40) (x y z : Int32) (es : mSg (F 177) l i = 101)  (es_y : mSg (F 177) l (i + 1) = y) (hy : ¬ (48 ≤ y ∧ y ≤ 57)) : mCall (d + 3) yX7_readsOrder MX7_readsOrder [.ref 172] (mHX L F g) (none) (mHX L (yro_e0 F i m x y z) g) := by
  refine mCall_of sX7_readsOrder.1 (Nat.le_of_ble_eq_true rfl) rfl ?_
  show mGo _ _ (0, [some (.ref 172), none, none], [], _) _
  refine g_iconstv (v := 3) dX7_readsOrder_0 rfl ?_
  refine g_aload_n dX7_readsOrder_1 rfl ?_
  refine g_gI dX7_readsOrder_2 fl_X7_164 (fun _ _ => rfl) rfl (by decide) ?_
  refine g_imul dX7_readsOrder_5 ?_
  rw [em, show (3 : Int32) = nI 3 from rfl, pk_mul]
  refine g_istore_n dX7_readsOrder_6 (by decide) rfl ?_
  refine g_aload_n dX7_readsOrder_7 rfl ?_
  refine g_V0i dX7_readsOrder_8 ml_X7_158 sX7_sign rfl (by decide) (Nat.le_of_ble_eq_true rfl) (c_sign (d + 2) l i el hl ea (by omega) 101 es) ?_
  refine g_istore_n dX7_readsOrder_11 (by decide) rfl ?_
  refine g_aload_n dX7_readsOrder_12 rfl ?_
  refine g_iload_n dX7_readsOrder_13 rfl ?_
  refine g_bipushv (v := 103) dX7_readsOrder_14 rfl ?_
  refine g_icmp_eq (tgt := 55) dX7_readsOrder_16 (by decide) (fun c16 => absurd c16 (by decide)) (fun c16 => ?_)
  refine g_iload_n dX7_readsOrder_19 rfl ?_
  refine g_bipushv (v := 120) dX7_readsOrder_20 rfl ?_
  refine g_icmp_eq (tgt := 55) dX7_readsOrder_22 (by decide) (fun c22 => absurd c22 (by decide)) (fun c22 => ?_)
  refine g_iload_n dX7_readsOrder_25 rfl ?_
  refine g_bipushv (v := 112) dX7_readsOrder_26 rfl ?_
  refine g_icmp_eq (tgt := 55) dX7_readsOrder_28 (by decide) (fun c28 => absurd c28 (by decide)) (fun c28 => ?_)
  refine g_iload_n dX7_readsOrder_31 rfl ?_
  refine g_bipushv (v := 101) dX7_readsOrder_32 rfl ?_
  refine g_icmp_eq (tgt := 55) dX7_readsOrder_34 (by decide) (fun c34 => ?_) (fun c34 => absurd (by decide) c34)
  refine g_iconstv (v := 1) dX7_readsOrder_55 rfl ?_
  refine g_goto (tgt := 60) dX7_readsOrder_56 (by decide) ?_
  refine g_pZ dX7_readsOrder_60 fl_X7_154 (Or.inl rfl) rfl (by decide) rfl (by first | exact Or.inl rfl | exact Or.inr rfl) ?_
  refine g_aload_n dX7_readsOrder_63 rfl ?_
  refine g_dup dX7_readsOrder_64 rfl ?_
  refine g_gI dX7_readsOrder_65 fl_X7_151 (fun _ _ => rfl) rfl (by decide) ?_
  refine g_aload_n dX7_readsOrder_68 rfl ?_
  refine g_gI dX7_readsOrder_69 fl_X7_154 (fun _ _ => rfl) rfl (by decide) ?_
  refine g_if_eq (tgt := 79) dX7_readsOrder_72 (by decide) (fun c72 => absurd c72 (by simp [pe_at])) (fun c72 => ?_)
  refine g_iconstv (v := 1) dX7_readsOrder_75 rfl ?_
  refine g_goto (tgt := 80) dX7_readsOrder_76 (by decide) ?_
  refine g_iadd dX7_readsOrder_80 ?_
  rw [show (pe F 172 9 1) 172 8 = nI i by simp [pe_at, el, ea, em], nI_1]
  refine g_pI dX7_readsOrder_81 fl_X7_151 (Or.inl rfl) rfl (by decide) rfl ?_
  refine g_aload_n dX7_readsOrder_84 rfl ?_
  refine g_gR (r := 178) dX7_readsOrder_85 fl_X7_26 (fun _ _ => rfl) rfl (by decide) rfl ?_
  refine g_iload_n dX7_readsOrder_88 rfl ?_
  refine g_iload_n dX7_readsOrder_89 rfl ?_
  refine g_iastN (gx := (3 * m)) dX7_readsOrder_90 rfl (by decide) rfl (by omega) (by decide) ?_
  refine g_aload_n dX7_readsOrder_91 rfl ?_
  refine g_gR (r := 178) dX7_readsOrder_92 fl_X7_26 (fun _ _ => rfl) rfl (by decide) rfl ?_
  refine g_iload_n dX7_readsOrder_95 rfl ?_
  refine g_iconstv (v := 1) dX7_readsOrder_96 rfl ?_
  refine g_iadd dX7_readsOrder_97 ?_
  refine g_iload_n dX7_readsOrder_98 rfl ?_
  refine g_bipushv (v := 103) dX7_readsOrder_99 rfl ?_
  refine g_icmp_eq (tgt := 116) dX7_readsOrder_101 (by decide) (fun c101 => absurd c101 (by decide)) (fun c101 => ?_)
  refine g_iload_n dX7_readsOrder_104 rfl ?_
  refine g_bipushv (v := 112) dX7_readsOrder_105 rfl ?_
  refine g_icmp_eq (tgt := 116) dX7_readsOrder_107 (by decide) (fun c107 => absurd c107 (by decide)) (fun c107 => ?_)
  refine g_iload_n dX7_readsOrder_110 rfl ?_
  refine g_bipushv (v := 101) dX7_readsOrder_111 rfl ?_
  refine g_icmp_ne (tgt := 123) dX7_readsOrder_113 (by decide) (fun c113 => absurd (by decide) c113) (fun c113 => ?_)
  refine g_aload_n dX7_readsOrder_116 rfl ?_
  refine g_V0i dX7_readsOrder_117 ml_X7_161 sX7_digit rfl (by decide) (Nat.le_of_ble_eq_true rfl) (c_dg_no (F := (pe (pe (pe F 172 9 1) 172 8 (nI (i + 1))) 178 (3 * m) 101)) (d + 1) l (i + 1) (by simp [pe_at, el]) hl (by simp [pe_at]) (by omega) y (by first | exact es_y | (simp [pe_at]; exact es_y)) (by simp [pe_at]) hy) ?_
  refine g_goto (tgt := 127) dX7_readsOrder_120 (by decide) ?_
  refine g_iastN (gx := (3 * m + 1)) dX7_readsOrder_127 rfl (by decide) (nI_1 (3 * m)) (by omega) (by decide) ?_
  refine g_iload_n dX7_readsOrder_128 rfl ?_
  refine g_bipushv (v := 103) dX7_readsOrder_129 rfl ?_
  refine g_icmp_ne (tgt := 192) dX7_readsOrder_131 (by decide) (fun c131 => ?_) (fun c131 => absurd c131 (by decide))
  refine g_aload_n dX7_readsOrder_192 rfl ?_
  refine g_dup dX7_readsOrder_193 rfl ?_
  refine g_gI dX7_readsOrder_194 fl_X7_164 (fun _ _ => rfl) rfl (by decide) ?_
  refine g_aload_n dX7_readsOrder_197 rfl ?_
  refine g_gI dX7_readsOrder_198 fl_X7_154 (fun _ _ => rfl) rfl (by decide) ?_
  refine g_if_eq (tgt := 208) dX7_readsOrder_201 (by decide) (fun c201 => ?_) (fun c201 => absurd (by simp [pe_at]) c201)
  refine g_iconstv (v := 0) dX7_readsOrder_208 rfl ?_
  refine g_iadd dX7_readsOrder_209 ?_
  rw [show (pe (pe (pe (pe (pe F 172 9 1) 172 8 (nI (i + 1))) 178 (3 * m) 101) 172 9 0) 178 (3 * m + 1) (y - 48)) 172 11 = nI m by simp [pe_at, el, ea, em], Int32.add_zero]
  refine g_pI dX7_readsOrder_210 fl_X7_164 (Or.inl rfl) rfl (by decide) rfl ?_
  exact g_vret dX7_readsOrder_213 rfl
def yro_e1 (F : Nat → Nat → Int32) (i m : Nat) (x y z : Int32) : Nat → Nat → Int32 := (pe (pe (pe (pe (pe (pe F 172 9 1) 172 8 (nI (i + 1))) 178 (3 * m) 101) 172 8 (nI (i + 1 + 1))) 178 (3 * m + 1) (y - 48)) 172 11 (nI (m + 1)))
set_option maxHeartbeats 4000000 in
set_option maxRecDepth 100000 in
theorem c_ro_e1 {L : Nat} {F : Nat → Nat → Int32} {g : Nat → Option Nat} (d : Nat) (l i m : Nat) (el : F 172 7 = nI l) (hl : l ≤ 80) (ea : F 172 8 = nI i) (hi : i ≤ 80) (em : F 172 11 = nI m) (hm : m ≤ 40) (x y z : Int32) (es : mSg (F 177) l i = 101)  (es_y : mSg (F 177) l (i + 1) = y) (hy : 48 ≤ y ∧ y ≤ 57) : mCall (d + 3) yX7_readsOrder MX7_readsOrder [.ref 172] (mHX L F g) (none) (mHX L (yro_e1 F i m x y z) g) := by
  refine mCall_of sX7_readsOrder.1 (Nat.le_of_ble_eq_true rfl) rfl ?_
  show mGo _ _ (0, [some (.ref 172), none, none], [], _) _
  refine g_iconstv (v := 3) dX7_readsOrder_0 rfl ?_
  refine g_aload_n dX7_readsOrder_1 rfl ?_
  refine g_gI dX7_readsOrder_2 fl_X7_164 (fun _ _ => rfl) rfl (by decide) ?_
  refine g_imul dX7_readsOrder_5 ?_
  rw [em, show (3 : Int32) = nI 3 from rfl, pk_mul]
  refine g_istore_n dX7_readsOrder_6 (by decide) rfl ?_
  refine g_aload_n dX7_readsOrder_7 rfl ?_
  refine g_V0i dX7_readsOrder_8 ml_X7_158 sX7_sign rfl (by decide) (Nat.le_of_ble_eq_true rfl) (c_sign (d + 2) l i el hl ea (by omega) 101 es) ?_
  refine g_istore_n dX7_readsOrder_11 (by decide) rfl ?_
  refine g_aload_n dX7_readsOrder_12 rfl ?_
  refine g_iload_n dX7_readsOrder_13 rfl ?_
  refine g_bipushv (v := 103) dX7_readsOrder_14 rfl ?_
  refine g_icmp_eq (tgt := 55) dX7_readsOrder_16 (by decide) (fun c16 => absurd c16 (by decide)) (fun c16 => ?_)
  refine g_iload_n dX7_readsOrder_19 rfl ?_
  refine g_bipushv (v := 120) dX7_readsOrder_20 rfl ?_
  refine g_icmp_eq (tgt := 55) dX7_readsOrder_22 (by decide) (fun c22 => absurd c22 (by decide)) (fun c22 => ?_)
  refine g_iload_n dX7_readsOrder_25 rfl ?_
  refine g_bipushv (v := 112) dX7_readsOrder_26 rfl ?_
  refine g_icmp_eq (tgt := 55) dX7_readsOrder_28 (by decide) (fun c28 => absurd c28 (by decide)) (fun c28 => ?_)
  refine g_iload_n dX7_readsOrder_31 rfl ?_
  refine g_bipushv (v := 101) dX7_readsOrder_32 rfl ?_
  refine g_icmp_eq (tgt := 55) dX7_readsOrder_34 (by decide) (fun c34 => ?_) (fun c34 => absurd (by decide) c34)
  refine g_iconstv (v := 1) dX7_readsOrder_55 rfl ?_
  refine g_goto (tgt := 60) dX7_readsOrder_56 (by decide) ?_
  refine g_pZ dX7_readsOrder_60 fl_X7_154 (Or.inl rfl) rfl (by decide) rfl (by first | exact Or.inl rfl | exact Or.inr rfl) ?_
  refine g_aload_n dX7_readsOrder_63 rfl ?_
  refine g_dup dX7_readsOrder_64 rfl ?_
  refine g_gI dX7_readsOrder_65 fl_X7_151 (fun _ _ => rfl) rfl (by decide) ?_
  refine g_aload_n dX7_readsOrder_68 rfl ?_
  refine g_gI dX7_readsOrder_69 fl_X7_154 (fun _ _ => rfl) rfl (by decide) ?_
  refine g_if_eq (tgt := 79) dX7_readsOrder_72 (by decide) (fun c72 => absurd c72 (by simp [pe_at])) (fun c72 => ?_)
  refine g_iconstv (v := 1) dX7_readsOrder_75 rfl ?_
  refine g_goto (tgt := 80) dX7_readsOrder_76 (by decide) ?_
  refine g_iadd dX7_readsOrder_80 ?_
  rw [show (pe F 172 9 1) 172 8 = nI i by simp [pe_at, el, ea, em], nI_1]
  refine g_pI dX7_readsOrder_81 fl_X7_151 (Or.inl rfl) rfl (by decide) rfl ?_
  refine g_aload_n dX7_readsOrder_84 rfl ?_
  refine g_gR (r := 178) dX7_readsOrder_85 fl_X7_26 (fun _ _ => rfl) rfl (by decide) rfl ?_
  refine g_iload_n dX7_readsOrder_88 rfl ?_
  refine g_iload_n dX7_readsOrder_89 rfl ?_
  refine g_iastN (gx := (3 * m)) dX7_readsOrder_90 rfl (by decide) rfl (by omega) (by decide) ?_
  refine g_aload_n dX7_readsOrder_91 rfl ?_
  refine g_gR (r := 178) dX7_readsOrder_92 fl_X7_26 (fun _ _ => rfl) rfl (by decide) rfl ?_
  refine g_iload_n dX7_readsOrder_95 rfl ?_
  refine g_iconstv (v := 1) dX7_readsOrder_96 rfl ?_
  refine g_iadd dX7_readsOrder_97 ?_
  refine g_iload_n dX7_readsOrder_98 rfl ?_
  refine g_bipushv (v := 103) dX7_readsOrder_99 rfl ?_
  refine g_icmp_eq (tgt := 116) dX7_readsOrder_101 (by decide) (fun c101 => absurd c101 (by decide)) (fun c101 => ?_)
  refine g_iload_n dX7_readsOrder_104 rfl ?_
  refine g_bipushv (v := 112) dX7_readsOrder_105 rfl ?_
  refine g_icmp_eq (tgt := 116) dX7_readsOrder_107 (by decide) (fun c107 => absurd c107 (by decide)) (fun c107 => ?_)
  refine g_iload_n dX7_readsOrder_110 rfl ?_
  refine g_bipushv (v := 101) dX7_readsOrder_111 rfl ?_
  refine g_icmp_ne (tgt := 123) dX7_readsOrder_113 (by decide) (fun c113 => absurd (by decide) c113) (fun c113 => ?_)
  refine g_aload_n dX7_readsOrder_116 rfl ?_
  refine g_V0i dX7_readsOrder_117 ml_X7_161 sX7_digit rfl (by decide) (Nat.le_of_ble_eq_true rfl) (c_dg_yes (F := (pe (pe (pe F 172 9 1) 172 8 (nI (i + 1))) 178 (3 * m) 101)) (d + 1) l (i + 1) (by simp [pe_at, el]) hl (by simp [pe_at]) (by omega) y (by first | exact es_y | (simp [pe_at]; exact es_y)) (by simp [pe_at]) hy) ?_
  refine g_goto (tgt := 127) dX7_readsOrder_120 (by decide) ?_
  refine g_iastN (gx := (3 * m + 1)) dX7_readsOrder_127 rfl (by decide) (nI_1 (3 * m)) (by omega) (by decide) ?_
  refine g_iload_n dX7_readsOrder_128 rfl ?_
  refine g_bipushv (v := 103) dX7_readsOrder_129 rfl ?_
  refine g_icmp_ne (tgt := 192) dX7_readsOrder_131 (by decide) (fun c131 => ?_) (fun c131 => absurd c131 (by decide))
  refine g_aload_n dX7_readsOrder_192 rfl ?_
  refine g_dup dX7_readsOrder_193 rfl ?_
  refine g_gI dX7_readsOrder_194 fl_X7_164 (fun _ _ => rfl) rfl (by decide) ?_
  refine g_aload_n dX7_readsOrder_197 rfl ?_
  refine g_gI dX7_readsOrder_198 fl_X7_154 (fun _ _ => rfl) rfl (by decide) ?_
  refine g_if_eq (tgt := 208) dX7_readsOrder_201 (by decide) (fun c201 => absurd c201 (by simp [pe_at])) (fun c201 => ?_)
  refine g_iconstv (v := 1) dX7_readsOrder_204 rfl ?_
  refine g_goto (tgt := 209) dX7_readsOrder_205 (by decide) ?_
  refine g_iadd dX7_readsOrder_209 ?_
  rw [show (pe (pe (pe (pe (pe F 172 9 1) 172 8 (nI (i + 1))) 178 (3 * m) 101) 172 8 (nI (i + 1 + 1))) 178 (3 * m + 1) (y - 48)) 172 11 = nI m by simp [pe_at, el, ea, em], nI_1]
  refine g_pI dX7_readsOrder_210 fl_X7_164 (Or.inl rfl) rfl (by decide) rfl ?_
  exact g_vret dX7_readsOrder_213 rfl
def yro_x0 (F : Nat → Nat → Int32) (i m : Nat) (x y z : Int32) : Nat → Nat → Int32 := (pe (pe (pe (pe (pe (pe F 172 9 1) 172 8 (nI (i + 1))) 178 (3 * m) 120) 172 9 0) 178 (3 * m + 1) (y - 48)) 172 11 (nI m))
set_option maxHeartbeats 4000000 in
set_option maxRecDepth 100000 in
theorem c_ro_x0 {L : Nat} {F : Nat → Nat → Int32} {g : Nat → Option Nat} (d : Nat) (l i m : Nat) (el : F 172 7 = nI l) (hl : l ≤ 80) (ea : F 172 8 = nI i) (hi : i ≤ 80) (em : F 172 11 = nI m) (hm : m ≤ 40) (x y z : Int32) (es : mSg (F 177) l i = 120)  (es_y : mSg (F 177) l (i + 1) = y) (hy : ¬ (48 ≤ y ∧ y ≤ 57)) : mCall (d + 3) yX7_readsOrder MX7_readsOrder [.ref 172] (mHX L F g) (none) (mHX L (yro_x0 F i m x y z) g) := by
  refine mCall_of sX7_readsOrder.1 (Nat.le_of_ble_eq_true rfl) rfl ?_
  show mGo _ _ (0, [some (.ref 172), none, none], [], _) _
  refine g_iconstv (v := 3) dX7_readsOrder_0 rfl ?_
  refine g_aload_n dX7_readsOrder_1 rfl ?_
  refine g_gI dX7_readsOrder_2 fl_X7_164 (fun _ _ => rfl) rfl (by decide) ?_
  refine g_imul dX7_readsOrder_5 ?_
  rw [em, show (3 : Int32) = nI 3 from rfl, pk_mul]
  refine g_istore_n dX7_readsOrder_6 (by decide) rfl ?_
  refine g_aload_n dX7_readsOrder_7 rfl ?_
  refine g_V0i dX7_readsOrder_8 ml_X7_158 sX7_sign rfl (by decide) (Nat.le_of_ble_eq_true rfl) (c_sign (d + 2) l i el hl ea (by omega) 120 es) ?_
  refine g_istore_n dX7_readsOrder_11 (by decide) rfl ?_
  refine g_aload_n dX7_readsOrder_12 rfl ?_
  refine g_iload_n dX7_readsOrder_13 rfl ?_
  refine g_bipushv (v := 103) dX7_readsOrder_14 rfl ?_
  refine g_icmp_eq (tgt := 55) dX7_readsOrder_16 (by decide) (fun c16 => absurd c16 (by decide)) (fun c16 => ?_)
  refine g_iload_n dX7_readsOrder_19 rfl ?_
  refine g_bipushv (v := 120) dX7_readsOrder_20 rfl ?_
  refine g_icmp_eq (tgt := 55) dX7_readsOrder_22 (by decide) (fun c22 => ?_) (fun c22 => absurd (by decide) c22)
  refine g_iconstv (v := 1) dX7_readsOrder_55 rfl ?_
  refine g_goto (tgt := 60) dX7_readsOrder_56 (by decide) ?_
  refine g_pZ dX7_readsOrder_60 fl_X7_154 (Or.inl rfl) rfl (by decide) rfl (by first | exact Or.inl rfl | exact Or.inr rfl) ?_
  refine g_aload_n dX7_readsOrder_63 rfl ?_
  refine g_dup dX7_readsOrder_64 rfl ?_
  refine g_gI dX7_readsOrder_65 fl_X7_151 (fun _ _ => rfl) rfl (by decide) ?_
  refine g_aload_n dX7_readsOrder_68 rfl ?_
  refine g_gI dX7_readsOrder_69 fl_X7_154 (fun _ _ => rfl) rfl (by decide) ?_
  refine g_if_eq (tgt := 79) dX7_readsOrder_72 (by decide) (fun c72 => absurd c72 (by simp [pe_at])) (fun c72 => ?_)
  refine g_iconstv (v := 1) dX7_readsOrder_75 rfl ?_
  refine g_goto (tgt := 80) dX7_readsOrder_76 (by decide) ?_
  refine g_iadd dX7_readsOrder_80 ?_
  rw [show (pe F 172 9 1) 172 8 = nI i by simp [pe_at, el, ea, em], nI_1]
  refine g_pI dX7_readsOrder_81 fl_X7_151 (Or.inl rfl) rfl (by decide) rfl ?_
  refine g_aload_n dX7_readsOrder_84 rfl ?_
  refine g_gR (r := 178) dX7_readsOrder_85 fl_X7_26 (fun _ _ => rfl) rfl (by decide) rfl ?_
  refine g_iload_n dX7_readsOrder_88 rfl ?_
  refine g_iload_n dX7_readsOrder_89 rfl ?_
  refine g_iastN (gx := (3 * m)) dX7_readsOrder_90 rfl (by decide) rfl (by omega) (by decide) ?_
  refine g_aload_n dX7_readsOrder_91 rfl ?_
  refine g_gR (r := 178) dX7_readsOrder_92 fl_X7_26 (fun _ _ => rfl) rfl (by decide) rfl ?_
  refine g_iload_n dX7_readsOrder_95 rfl ?_
  refine g_iconstv (v := 1) dX7_readsOrder_96 rfl ?_
  refine g_iadd dX7_readsOrder_97 ?_
  refine g_iload_n dX7_readsOrder_98 rfl ?_
  refine g_bipushv (v := 103) dX7_readsOrder_99 rfl ?_
  refine g_icmp_eq (tgt := 116) dX7_readsOrder_101 (by decide) (fun c101 => absurd c101 (by decide)) (fun c101 => ?_)
  refine g_iload_n dX7_readsOrder_104 rfl ?_
  refine g_bipushv (v := 112) dX7_readsOrder_105 rfl ?_
  refine g_icmp_eq (tgt := 116) dX7_readsOrder_107 (by decide) (fun c107 => absurd c107 (by decide)) (fun c107 => ?_)
  refine g_iload_n dX7_readsOrder_110 rfl ?_
  refine g_bipushv (v := 101) dX7_readsOrder_111 rfl ?_
  refine g_icmp_ne (tgt := 123) dX7_readsOrder_113 (by decide) (fun c113 => ?_) (fun c113 => absurd c113 (by decide))
  refine g_aload_n dX7_readsOrder_123 rfl ?_
  refine g_V0i dX7_readsOrder_124 ml_X7_167 sX7_number rfl (by decide) (Nat.le_of_ble_eq_true rfl) (c_nu_no (F := (pe (pe (pe F 172 9 1) 172 8 (nI (i + 1))) 178 (3 * m) 120)) (d) l (i + 1) (by simp [pe_at, el]) hl (by simp [pe_at]) (by omega) y es_y (by simp [pe_at]) hy) ?_
  refine g_iastN (gx := (3 * m + 1)) dX7_readsOrder_127 rfl (by decide) (nI_1 (3 * m)) (by omega) (by decide) ?_
  refine g_iload_n dX7_readsOrder_128 rfl ?_
  refine g_bipushv (v := 103) dX7_readsOrder_129 rfl ?_
  refine g_icmp_ne (tgt := 192) dX7_readsOrder_131 (by decide) (fun c131 => ?_) (fun c131 => absurd c131 (by decide))
  refine g_aload_n dX7_readsOrder_192 rfl ?_
  refine g_dup dX7_readsOrder_193 rfl ?_
  refine g_gI dX7_readsOrder_194 fl_X7_164 (fun _ _ => rfl) rfl (by decide) ?_
  refine g_aload_n dX7_readsOrder_197 rfl ?_
  refine g_gI dX7_readsOrder_198 fl_X7_154 (fun _ _ => rfl) rfl (by decide) ?_
  refine g_if_eq (tgt := 208) dX7_readsOrder_201 (by decide) (fun c201 => ?_) (fun c201 => absurd (by simp [pe_at]) c201)
  refine g_iconstv (v := 0) dX7_readsOrder_208 rfl ?_
  refine g_iadd dX7_readsOrder_209 ?_
  rw [show (pe (pe (pe (pe (pe F 172 9 1) 172 8 (nI (i + 1))) 178 (3 * m) 120) 172 9 0) 178 (3 * m + 1) (y - 48)) 172 11 = nI m by simp [pe_at, el, ea, em], Int32.add_zero]
  refine g_pI dX7_readsOrder_210 fl_X7_164 (Or.inl rfl) rfl (by decide) rfl ?_
  exact g_vret dX7_readsOrder_213 rfl
def yro_x1 (F : Nat → Nat → Int32) (i m : Nat) (x y z : Int32) : Nat → Nat → Int32 := (pe (pe (pe (pe (pe (pe F 172 9 1) 172 8 (nI (i + 1))) 178 (3 * m) 120) 172 8 (nI (i + 1 + 1))) 178 (3 * m + 1) (y - 48)) 172 11 (nI (m + 1)))
set_option maxHeartbeats 4000000 in
set_option maxRecDepth 100000 in
theorem c_ro_x1 {L : Nat} {F : Nat → Nat → Int32} {g : Nat → Option Nat} (d : Nat) (l i m : Nat) (el : F 172 7 = nI l) (hl : l ≤ 80) (ea : F 172 8 = nI i) (hi : i ≤ 80) (em : F 172 11 = nI m) (hm : m ≤ 40) (x y z : Int32) (es : mSg (F 177) l i = 120)  (es_y : mSg (F 177) l (i + 1) = y) (hy : 48 ≤ y ∧ y ≤ 57) (hx : y = 48) : mCall (d + 3) yX7_readsOrder MX7_readsOrder [.ref 172] (mHX L F g) (none) (mHX L (yro_x1 F i m x y z) g) := by
  refine mCall_of sX7_readsOrder.1 (Nat.le_of_ble_eq_true rfl) rfl ?_
  show mGo _ _ (0, [some (.ref 172), none, none], [], _) _
  refine g_iconstv (v := 3) dX7_readsOrder_0 rfl ?_
  refine g_aload_n dX7_readsOrder_1 rfl ?_
  refine g_gI dX7_readsOrder_2 fl_X7_164 (fun _ _ => rfl) rfl (by decide) ?_
  refine g_imul dX7_readsOrder_5 ?_
  rw [em, show (3 : Int32) = nI 3 from rfl, pk_mul]
  refine g_istore_n dX7_readsOrder_6 (by decide) rfl ?_
  refine g_aload_n dX7_readsOrder_7 rfl ?_
  refine g_V0i dX7_readsOrder_8 ml_X7_158 sX7_sign rfl (by decide) (Nat.le_of_ble_eq_true rfl) (c_sign (d + 2) l i el hl ea (by omega) 120 es) ?_
  refine g_istore_n dX7_readsOrder_11 (by decide) rfl ?_
  refine g_aload_n dX7_readsOrder_12 rfl ?_
  refine g_iload_n dX7_readsOrder_13 rfl ?_
  refine g_bipushv (v := 103) dX7_readsOrder_14 rfl ?_
  refine g_icmp_eq (tgt := 55) dX7_readsOrder_16 (by decide) (fun c16 => absurd c16 (by decide)) (fun c16 => ?_)
  refine g_iload_n dX7_readsOrder_19 rfl ?_
  refine g_bipushv (v := 120) dX7_readsOrder_20 rfl ?_
  refine g_icmp_eq (tgt := 55) dX7_readsOrder_22 (by decide) (fun c22 => ?_) (fun c22 => absurd (by decide) c22)
  refine g_iconstv (v := 1) dX7_readsOrder_55 rfl ?_
  refine g_goto (tgt := 60) dX7_readsOrder_56 (by decide) ?_
  refine g_pZ dX7_readsOrder_60 fl_X7_154 (Or.inl rfl) rfl (by decide) rfl (by first | exact Or.inl rfl | exact Or.inr rfl) ?_
  refine g_aload_n dX7_readsOrder_63 rfl ?_
  refine g_dup dX7_readsOrder_64 rfl ?_
  refine g_gI dX7_readsOrder_65 fl_X7_151 (fun _ _ => rfl) rfl (by decide) ?_
  refine g_aload_n dX7_readsOrder_68 rfl ?_
  refine g_gI dX7_readsOrder_69 fl_X7_154 (fun _ _ => rfl) rfl (by decide) ?_
  refine g_if_eq (tgt := 79) dX7_readsOrder_72 (by decide) (fun c72 => absurd c72 (by simp [pe_at])) (fun c72 => ?_)
  refine g_iconstv (v := 1) dX7_readsOrder_75 rfl ?_
  refine g_goto (tgt := 80) dX7_readsOrder_76 (by decide) ?_
  refine g_iadd dX7_readsOrder_80 ?_
  rw [show (pe F 172 9 1) 172 8 = nI i by simp [pe_at, el, ea, em], nI_1]
  refine g_pI dX7_readsOrder_81 fl_X7_151 (Or.inl rfl) rfl (by decide) rfl ?_
  refine g_aload_n dX7_readsOrder_84 rfl ?_
  refine g_gR (r := 178) dX7_readsOrder_85 fl_X7_26 (fun _ _ => rfl) rfl (by decide) rfl ?_
  refine g_iload_n dX7_readsOrder_88 rfl ?_
  refine g_iload_n dX7_readsOrder_89 rfl ?_
  refine g_iastN (gx := (3 * m)) dX7_readsOrder_90 rfl (by decide) rfl (by omega) (by decide) ?_
  refine g_aload_n dX7_readsOrder_91 rfl ?_
  refine g_gR (r := 178) dX7_readsOrder_92 fl_X7_26 (fun _ _ => rfl) rfl (by decide) rfl ?_
  refine g_iload_n dX7_readsOrder_95 rfl ?_
  refine g_iconstv (v := 1) dX7_readsOrder_96 rfl ?_
  refine g_iadd dX7_readsOrder_97 ?_
  refine g_iload_n dX7_readsOrder_98 rfl ?_
  refine g_bipushv (v := 103) dX7_readsOrder_99 rfl ?_
  refine g_icmp_eq (tgt := 116) dX7_readsOrder_101 (by decide) (fun c101 => absurd c101 (by decide)) (fun c101 => ?_)
  refine g_iload_n dX7_readsOrder_104 rfl ?_
  refine g_bipushv (v := 112) dX7_readsOrder_105 rfl ?_
  refine g_icmp_eq (tgt := 116) dX7_readsOrder_107 (by decide) (fun c107 => absurd c107 (by decide)) (fun c107 => ?_)
  refine g_iload_n dX7_readsOrder_110 rfl ?_
  refine g_bipushv (v := 101) dX7_readsOrder_111 rfl ?_
  refine g_icmp_ne (tgt := 123) dX7_readsOrder_113 (by decide) (fun c113 => ?_) (fun c113 => absurd c113 (by decide))
  refine g_aload_n dX7_readsOrder_123 rfl ?_
  refine g_V0i dX7_readsOrder_124 ml_X7_167 sX7_number rfl (by decide) (Nat.le_of_ble_eq_true rfl) (c_nu_0 (F := (pe (pe (pe F 172 9 1) 172 8 (nI (i + 1))) 178 (3 * m) 120)) (d) l (i + 1) (by simp [pe_at, el]) hl (by simp [pe_at]) (by omega) y es_y (by simp [pe_at]) hy hx) ?_
  refine g_iastN (gx := (3 * m + 1)) dX7_readsOrder_127 rfl (by decide) (nI_1 (3 * m)) (by omega) (by decide) ?_
  refine g_iload_n dX7_readsOrder_128 rfl ?_
  refine g_bipushv (v := 103) dX7_readsOrder_129 rfl ?_
  refine g_icmp_ne (tgt := 192) dX7_readsOrder_131 (by decide) (fun c131 => ?_) (fun c131 => absurd c131 (by decide))
  refine g_aload_n dX7_readsOrder_192 rfl ?_
  refine g_dup dX7_readsOrder_193 rfl ?_
  refine g_gI dX7_readsOrder_194 fl_X7_164 (fun _ _ => rfl) rfl (by decide) ?_
  refine g_aload_n dX7_readsOrder_197 rfl ?_
  refine g_gI dX7_readsOrder_198 fl_X7_154 (fun _ _ => rfl) rfl (by decide) ?_
  refine g_if_eq (tgt := 208) dX7_readsOrder_201 (by decide) (fun c201 => absurd c201 (by simp [pe_at])) (fun c201 => ?_)
  refine g_iconstv (v := 1) dX7_readsOrder_204 rfl ?_
  refine g_goto (tgt := 209) dX7_readsOrder_205 (by decide) ?_
  refine g_iadd dX7_readsOrder_209 ?_
  rw [show (pe (pe (pe (pe (pe F 172 9 1) 172 8 (nI (i + 1))) 178 (3 * m) 120) 172 8 (nI (i + 1 + 1))) 178 (3 * m + 1) (y - 48)) 172 11 = nI m by simp [pe_at, el, ea, em], nI_1]
  refine g_pI dX7_readsOrder_210 fl_X7_164 (Or.inl rfl) rfl (by decide) rfl ?_
  exact g_vret dX7_readsOrder_213 rfl
def yro_x2 (F : Nat → Nat → Int32) (i m : Nat) (x y z : Int32) : Nat → Nat → Int32 := (pe (pe (pe (pe (pe (pe F 172 9 1) 172 8 (nI (i + 1))) 178 (3 * m) 120) 172 8 (nI (i + 1 + 1))) 178 (3 * m + 1) (y - 48)) 172 11 (nI (m + 1)))
set_option maxHeartbeats 4000000 in
set_option maxRecDepth 100000 in
theorem c_ro_x2 {L : Nat} {F : Nat → Nat → Int32} {g : Nat → Option Nat} (d : Nat) (l i m : Nat) (el : F 172 7 = nI l) (hl : l ≤ 80) (ea : F 172 8 = nI i) (hi : i ≤ 80) (em : F 172 11 = nI m) (hm : m ≤ 40) (x y z : Int32) (es : mSg (F 177) l i = 120)  (es_y : mSg (F 177) l (i + 1) = y) (hy : 48 ≤ y ∧ y ≤ 57) (hx : ¬ y = 48) (es_z : mSg (F 177) l (i + 2) = z) (hz : ¬ (48 ≤ z ∧ z ≤ 57)) : mCall (d + 3) yX7_readsOrder MX7_readsOrder [.ref 172] (mHX L F g) (none) (mHX L (yro_x2 F i m x y z) g) := by
  refine mCall_of sX7_readsOrder.1 (Nat.le_of_ble_eq_true rfl) rfl ?_
  show mGo _ _ (0, [some (.ref 172), none, none], [], _) _
  refine g_iconstv (v := 3) dX7_readsOrder_0 rfl ?_
  refine g_aload_n dX7_readsOrder_1 rfl ?_
  refine g_gI dX7_readsOrder_2 fl_X7_164 (fun _ _ => rfl) rfl (by decide) ?_
  refine g_imul dX7_readsOrder_5 ?_
  rw [em, show (3 : Int32) = nI 3 from rfl, pk_mul]
  refine g_istore_n dX7_readsOrder_6 (by decide) rfl ?_
  refine g_aload_n dX7_readsOrder_7 rfl ?_
  refine g_V0i dX7_readsOrder_8 ml_X7_158 sX7_sign rfl (by decide) (Nat.le_of_ble_eq_true rfl) (c_sign (d + 2) l i el hl ea (by omega) 120 es) ?_
  refine g_istore_n dX7_readsOrder_11 (by decide) rfl ?_
  refine g_aload_n dX7_readsOrder_12 rfl ?_
  refine g_iload_n dX7_readsOrder_13 rfl ?_
  refine g_bipushv (v := 103) dX7_readsOrder_14 rfl ?_
  refine g_icmp_eq (tgt := 55) dX7_readsOrder_16 (by decide) (fun c16 => absurd c16 (by decide)) (fun c16 => ?_)
  refine g_iload_n dX7_readsOrder_19 rfl ?_
  refine g_bipushv (v := 120) dX7_readsOrder_20 rfl ?_
  refine g_icmp_eq (tgt := 55) dX7_readsOrder_22 (by decide) (fun c22 => ?_) (fun c22 => absurd (by decide) c22)
  refine g_iconstv (v := 1) dX7_readsOrder_55 rfl ?_
  refine g_goto (tgt := 60) dX7_readsOrder_56 (by decide) ?_
  refine g_pZ dX7_readsOrder_60 fl_X7_154 (Or.inl rfl) rfl (by decide) rfl (by first | exact Or.inl rfl | exact Or.inr rfl) ?_
  refine g_aload_n dX7_readsOrder_63 rfl ?_
  refine g_dup dX7_readsOrder_64 rfl ?_
  refine g_gI dX7_readsOrder_65 fl_X7_151 (fun _ _ => rfl) rfl (by decide) ?_
  refine g_aload_n dX7_readsOrder_68 rfl ?_
  refine g_gI dX7_readsOrder_69 fl_X7_154 (fun _ _ => rfl) rfl (by decide) ?_
  refine g_if_eq (tgt := 79) dX7_readsOrder_72 (by decide) (fun c72 => absurd c72 (by simp [pe_at])) (fun c72 => ?_)
  refine g_iconstv (v := 1) dX7_readsOrder_75 rfl ?_
  refine g_goto (tgt := 80) dX7_readsOrder_76 (by decide) ?_
  refine g_iadd dX7_readsOrder_80 ?_
  rw [show (pe F 172 9 1) 172 8 = nI i by simp [pe_at, el, ea, em], nI_1]
  refine g_pI dX7_readsOrder_81 fl_X7_151 (Or.inl rfl) rfl (by decide) rfl ?_
  refine g_aload_n dX7_readsOrder_84 rfl ?_
  refine g_gR (r := 178) dX7_readsOrder_85 fl_X7_26 (fun _ _ => rfl) rfl (by decide) rfl ?_
  refine g_iload_n dX7_readsOrder_88 rfl ?_
  refine g_iload_n dX7_readsOrder_89 rfl ?_
  refine g_iastN (gx := (3 * m)) dX7_readsOrder_90 rfl (by decide) rfl (by omega) (by decide) ?_
  refine g_aload_n dX7_readsOrder_91 rfl ?_
  refine g_gR (r := 178) dX7_readsOrder_92 fl_X7_26 (fun _ _ => rfl) rfl (by decide) rfl ?_
  refine g_iload_n dX7_readsOrder_95 rfl ?_
  refine g_iconstv (v := 1) dX7_readsOrder_96 rfl ?_
  refine g_iadd dX7_readsOrder_97 ?_
  refine g_iload_n dX7_readsOrder_98 rfl ?_
  refine g_bipushv (v := 103) dX7_readsOrder_99 rfl ?_
  refine g_icmp_eq (tgt := 116) dX7_readsOrder_101 (by decide) (fun c101 => absurd c101 (by decide)) (fun c101 => ?_)
  refine g_iload_n dX7_readsOrder_104 rfl ?_
  refine g_bipushv (v := 112) dX7_readsOrder_105 rfl ?_
  refine g_icmp_eq (tgt := 116) dX7_readsOrder_107 (by decide) (fun c107 => absurd c107 (by decide)) (fun c107 => ?_)
  refine g_iload_n dX7_readsOrder_110 rfl ?_
  refine g_bipushv (v := 101) dX7_readsOrder_111 rfl ?_
  refine g_icmp_ne (tgt := 123) dX7_readsOrder_113 (by decide) (fun c113 => ?_) (fun c113 => absurd c113 (by decide))
  refine g_aload_n dX7_readsOrder_123 rfl ?_
  refine g_V0i dX7_readsOrder_124 ml_X7_167 sX7_number rfl (by decide) (Nat.le_of_ble_eq_true rfl) (c_nu_1 (F := (pe (pe (pe F 172 9 1) 172 8 (nI (i + 1))) 178 (3 * m) 120)) (d) l (i + 1) (by simp [pe_at, el]) hl (by simp [pe_at]) (by omega) y es_y (by simp [pe_at]) hy hx z es_z hz) ?_
  refine g_iastN (gx := (3 * m + 1)) dX7_readsOrder_127 rfl (by decide) (nI_1 (3 * m)) (by omega) (by decide) ?_
  refine g_iload_n dX7_readsOrder_128 rfl ?_
  refine g_bipushv (v := 103) dX7_readsOrder_129 rfl ?_
  refine g_icmp_ne (tgt := 192) dX7_readsOrder_131 (by decide) (fun c131 => ?_) (fun c131 => absurd c131 (by decide))
  refine g_aload_n dX7_readsOrder_192 rfl ?_
  refine g_dup dX7_readsOrder_193 rfl ?_
  refine g_gI dX7_readsOrder_194 fl_X7_164 (fun _ _ => rfl) rfl (by decide) ?_
  refine g_aload_n dX7_readsOrder_197 rfl ?_
  refine g_gI dX7_readsOrder_198 fl_X7_154 (fun _ _ => rfl) rfl (by decide) ?_
  refine g_if_eq (tgt := 208) dX7_readsOrder_201 (by decide) (fun c201 => absurd c201 (by simp [pe_at])) (fun c201 => ?_)
  refine g_iconstv (v := 1) dX7_readsOrder_204 rfl ?_
  refine g_goto (tgt := 209) dX7_readsOrder_205 (by decide) ?_
  refine g_iadd dX7_readsOrder_209 ?_
  rw [show (pe (pe (pe (pe (pe F 172 9 1) 172 8 (nI (i + 1))) 178 (3 * m) 120) 172 8 (nI (i + 1 + 1))) 178 (3 * m + 1) (y - 48)) 172 11 = nI m by simp [pe_at, el, ea, em], nI_1]
  refine g_pI dX7_readsOrder_210 fl_X7_164 (Or.inl rfl) rfl (by decide) rfl ?_
  exact g_vret dX7_readsOrder_213 rfl
def yro_x3 (F : Nat → Nat → Int32) (i m : Nat) (x y z : Int32) : Nat → Nat → Int32 := (pe (pe (pe (pe (pe (pe F 172 9 1) 172 8 (nI (i + 1))) 178 (3 * m) 120) 172 8 (nI (i + 1 + 2))) 178 (3 * m + 1) (10 * (y - 48) + z - 48)) 172 11 (nI (m + 1)))
set_option maxHeartbeats 4000000 in
set_option maxRecDepth 100000 in
theorem c_ro_x3 {L : Nat} {F : Nat → Nat → Int32} {g : Nat → Option Nat} (d : Nat) (l i m : Nat) (el : F 172 7 = nI l) (hl : l ≤ 80) (ea : F 172 8 = nI i) (hi : i ≤ 80) (em : F 172 11 = nI m) (hm : m ≤ 40) (x y z : Int32) (es : mSg (F 177) l i = 120)  (es_y : mSg (F 177) l (i + 1) = y) (hy : 48 ≤ y ∧ y ≤ 57) (hx : ¬ y = 48) (es_z : mSg (F 177) l (i + 2) = z) (hz : 48 ≤ z ∧ z ≤ 57) : mCall (d + 3) yX7_readsOrder MX7_readsOrder [.ref 172] (mHX L F g) (none) (mHX L (yro_x3 F i m x y z) g) := by
  refine mCall_of sX7_readsOrder.1 (Nat.le_of_ble_eq_true rfl) rfl ?_
  show mGo _ _ (0, [some (.ref 172), none, none], [], _) _
  refine g_iconstv (v := 3) dX7_readsOrder_0 rfl ?_
  refine g_aload_n dX7_readsOrder_1 rfl ?_
  refine g_gI dX7_readsOrder_2 fl_X7_164 (fun _ _ => rfl) rfl (by decide) ?_
  refine g_imul dX7_readsOrder_5 ?_
  rw [em, show (3 : Int32) = nI 3 from rfl, pk_mul]
  refine g_istore_n dX7_readsOrder_6 (by decide) rfl ?_
  refine g_aload_n dX7_readsOrder_7 rfl ?_
  refine g_V0i dX7_readsOrder_8 ml_X7_158 sX7_sign rfl (by decide) (Nat.le_of_ble_eq_true rfl) (c_sign (d + 2) l i el hl ea (by omega) 120 es) ?_
  refine g_istore_n dX7_readsOrder_11 (by decide) rfl ?_
  refine g_aload_n dX7_readsOrder_12 rfl ?_
  refine g_iload_n dX7_readsOrder_13 rfl ?_
  refine g_bipushv (v := 103) dX7_readsOrder_14 rfl ?_
  refine g_icmp_eq (tgt := 55) dX7_readsOrder_16 (by decide) (fun c16 => absurd c16 (by decide)) (fun c16 => ?_)
  refine g_iload_n dX7_readsOrder_19 rfl ?_
  refine g_bipushv (v := 120) dX7_readsOrder_20 rfl ?_
  refine g_icmp_eq (tgt := 55) dX7_readsOrder_22 (by decide) (fun c22 => ?_) (fun c22 => absurd (by decide) c22)
  refine g_iconstv (v := 1) dX7_readsOrder_55 rfl ?_
  refine g_goto (tgt := 60) dX7_readsOrder_56 (by decide) ?_
  refine g_pZ dX7_readsOrder_60 fl_X7_154 (Or.inl rfl) rfl (by decide) rfl (by first | exact Or.inl rfl | exact Or.inr rfl) ?_
  refine g_aload_n dX7_readsOrder_63 rfl ?_
  refine g_dup dX7_readsOrder_64 rfl ?_
  refine g_gI dX7_readsOrder_65 fl_X7_151 (fun _ _ => rfl) rfl (by decide) ?_
  refine g_aload_n dX7_readsOrder_68 rfl ?_
  refine g_gI dX7_readsOrder_69 fl_X7_154 (fun _ _ => rfl) rfl (by decide) ?_
  refine g_if_eq (tgt := 79) dX7_readsOrder_72 (by decide) (fun c72 => absurd c72 (by simp [pe_at])) (fun c72 => ?_)
  refine g_iconstv (v := 1) dX7_readsOrder_75 rfl ?_
  refine g_goto (tgt := 80) dX7_readsOrder_76 (by decide) ?_
  refine g_iadd dX7_readsOrder_80 ?_
  rw [show (pe F 172 9 1) 172 8 = nI i by simp [pe_at, el, ea, em], nI_1]
  refine g_pI dX7_readsOrder_81 fl_X7_151 (Or.inl rfl) rfl (by decide) rfl ?_
  refine g_aload_n dX7_readsOrder_84 rfl ?_
  refine g_gR (r := 178) dX7_readsOrder_85 fl_X7_26 (fun _ _ => rfl) rfl (by decide) rfl ?_
  refine g_iload_n dX7_readsOrder_88 rfl ?_
  refine g_iload_n dX7_readsOrder_89 rfl ?_
  refine g_iastN (gx := (3 * m)) dX7_readsOrder_90 rfl (by decide) rfl (by omega) (by decide) ?_
  refine g_aload_n dX7_readsOrder_91 rfl ?_
  refine g_gR (r := 178) dX7_readsOrder_92 fl_X7_26 (fun _ _ => rfl) rfl (by decide) rfl ?_
  refine g_iload_n dX7_readsOrder_95 rfl ?_
  refine g_iconstv (v := 1) dX7_readsOrder_96 rfl ?_
  refine g_iadd dX7_readsOrder_97 ?_
  refine g_iload_n dX7_readsOrder_98 rfl ?_
  refine g_bipushv (v := 103) dX7_readsOrder_99 rfl ?_
  refine g_icmp_eq (tgt := 116) dX7_readsOrder_101 (by decide) (fun c101 => absurd c101 (by decide)) (fun c101 => ?_)
  refine g_iload_n dX7_readsOrder_104 rfl ?_
  refine g_bipushv (v := 112) dX7_readsOrder_105 rfl ?_
  refine g_icmp_eq (tgt := 116) dX7_readsOrder_107 (by decide) (fun c107 => absurd c107 (by decide)) (fun c107 => ?_)
  refine g_iload_n dX7_readsOrder_110 rfl ?_
  refine g_bipushv (v := 101) dX7_readsOrder_111 rfl ?_
  refine g_icmp_ne (tgt := 123) dX7_readsOrder_113 (by decide) (fun c113 => ?_) (fun c113 => absurd c113 (by decide))
  refine g_aload_n dX7_readsOrder_123 rfl ?_
  refine g_V0i dX7_readsOrder_124 ml_X7_167 sX7_number rfl (by decide) (Nat.le_of_ble_eq_true rfl) (c_nu_2 (F := (pe (pe (pe F 172 9 1) 172 8 (nI (i + 1))) 178 (3 * m) 120)) (d) l (i + 1) (by simp [pe_at, el]) hl (by simp [pe_at]) (by omega) y es_y (by simp [pe_at]) hy hx z es_z hz) ?_
  refine g_iastN (gx := (3 * m + 1)) dX7_readsOrder_127 rfl (by decide) (nI_1 (3 * m)) (by omega) (by decide) ?_
  refine g_iload_n dX7_readsOrder_128 rfl ?_
  refine g_bipushv (v := 103) dX7_readsOrder_129 rfl ?_
  refine g_icmp_ne (tgt := 192) dX7_readsOrder_131 (by decide) (fun c131 => ?_) (fun c131 => absurd c131 (by decide))
  refine g_aload_n dX7_readsOrder_192 rfl ?_
  refine g_dup dX7_readsOrder_193 rfl ?_
  refine g_gI dX7_readsOrder_194 fl_X7_164 (fun _ _ => rfl) rfl (by decide) ?_
  refine g_aload_n dX7_readsOrder_197 rfl ?_
  refine g_gI dX7_readsOrder_198 fl_X7_154 (fun _ _ => rfl) rfl (by decide) ?_
  refine g_if_eq (tgt := 208) dX7_readsOrder_201 (by decide) (fun c201 => absurd c201 (by simp [pe_at])) (fun c201 => ?_)
  refine g_iconstv (v := 1) dX7_readsOrder_204 rfl ?_
  refine g_goto (tgt := 209) dX7_readsOrder_205 (by decide) ?_
  refine g_iadd dX7_readsOrder_209 ?_
  rw [show (pe (pe (pe (pe (pe F 172 9 1) 172 8 (nI (i + 1))) 178 (3 * m) 120) 172 8 (nI (i + 1 + 2))) 178 (3 * m + 1) (10 * (y - 48) + z - 48)) 172 11 = nI m by simp [pe_at, el, ea, em], nI_1]
  refine g_pI dX7_readsOrder_210 fl_X7_164 (Or.inl rfl) rfl (by decide) rfl ?_
  exact g_vret dX7_readsOrder_213 rfl
def yro_w0 (F : Nat → Nat → Int32) (i m : Nat) (x y z : Int32) : Nat → Nat → Int32 := (pe (pe (pe (pe (pe (pe F 172 9 1) 172 8 (nI (i + 1))) 178 (3 * m) 119) 172 9 0) 178 (3 * m + 1) (y - 48)) 172 11 (nI m))
set_option maxHeartbeats 4000000 in
set_option maxRecDepth 100000 in
theorem c_ro_w0 {L : Nat} {F : Nat → Nat → Int32} {g : Nat → Option Nat} (d : Nat) (l i m : Nat) (el : F 172 7 = nI l) (hl : l ≤ 80) (ea : F 172 8 = nI i) (hi : i ≤ 80) (em : F 172 11 = nI m) (hm : m ≤ 40) (x y z : Int32) (es : mSg (F 177) l i = 119)  (es_y : mSg (F 177) l (i + 1) = y) (hy : ¬ (48 ≤ y ∧ y ≤ 57)) : mCall (d + 3) yX7_readsOrder MX7_readsOrder [.ref 172] (mHX L F g) (none) (mHX L (yro_w0 F i m x y z) g) := by
  refine mCall_of sX7_readsOrder.1 (Nat.le_of_ble_eq_true rfl) rfl ?_
  show mGo _ _ (0, [some (.ref 172), none, none], [], _) _
  refine g_iconstv (v := 3) dX7_readsOrder_0 rfl ?_
  refine g_aload_n dX7_readsOrder_1 rfl ?_
  refine g_gI dX7_readsOrder_2 fl_X7_164 (fun _ _ => rfl) rfl (by decide) ?_
  refine g_imul dX7_readsOrder_5 ?_
  rw [em, show (3 : Int32) = nI 3 from rfl, pk_mul]
  refine g_istore_n dX7_readsOrder_6 (by decide) rfl ?_
  refine g_aload_n dX7_readsOrder_7 rfl ?_
  refine g_V0i dX7_readsOrder_8 ml_X7_158 sX7_sign rfl (by decide) (Nat.le_of_ble_eq_true rfl) (c_sign (d + 2) l i el hl ea (by omega) 119 es) ?_
  refine g_istore_n dX7_readsOrder_11 (by decide) rfl ?_
  refine g_aload_n dX7_readsOrder_12 rfl ?_
  refine g_iload_n dX7_readsOrder_13 rfl ?_
  refine g_bipushv (v := 103) dX7_readsOrder_14 rfl ?_
  refine g_icmp_eq (tgt := 55) dX7_readsOrder_16 (by decide) (fun c16 => absurd c16 (by decide)) (fun c16 => ?_)
  refine g_iload_n dX7_readsOrder_19 rfl ?_
  refine g_bipushv (v := 120) dX7_readsOrder_20 rfl ?_
  refine g_icmp_eq (tgt := 55) dX7_readsOrder_22 (by decide) (fun c22 => absurd c22 (by decide)) (fun c22 => ?_)
  refine g_iload_n dX7_readsOrder_25 rfl ?_
  refine g_bipushv (v := 112) dX7_readsOrder_26 rfl ?_
  refine g_icmp_eq (tgt := 55) dX7_readsOrder_28 (by decide) (fun c28 => absurd c28 (by decide)) (fun c28 => ?_)
  refine g_iload_n dX7_readsOrder_31 rfl ?_
  refine g_bipushv (v := 101) dX7_readsOrder_32 rfl ?_
  refine g_icmp_eq (tgt := 55) dX7_readsOrder_34 (by decide) (fun c34 => absurd c34 (by decide)) (fun c34 => ?_)
  refine g_iload_n dX7_readsOrder_37 rfl ?_
  refine g_bipushv (v := 119) dX7_readsOrder_38 rfl ?_
  refine g_icmp_eq (tgt := 55) dX7_readsOrder_40 (by decide) (fun c40 => ?_) (fun c40 => absurd (by decide) c40)
  refine g_iconstv (v := 1) dX7_readsOrder_55 rfl ?_
  refine g_goto (tgt := 60) dX7_readsOrder_56 (by decide) ?_
  refine g_pZ dX7_readsOrder_60 fl_X7_154 (Or.inl rfl) rfl (by decide) rfl (by first | exact Or.inl rfl | exact Or.inr rfl) ?_
  refine g_aload_n dX7_readsOrder_63 rfl ?_
  refine g_dup dX7_readsOrder_64 rfl ?_
  refine g_gI dX7_readsOrder_65 fl_X7_151 (fun _ _ => rfl) rfl (by decide) ?_
  refine g_aload_n dX7_readsOrder_68 rfl ?_
  refine g_gI dX7_readsOrder_69 fl_X7_154 (fun _ _ => rfl) rfl (by decide) ?_
  refine g_if_eq (tgt := 79) dX7_readsOrder_72 (by decide) (fun c72 => absurd c72 (by simp [pe_at])) (fun c72 => ?_)
  refine g_iconstv (v := 1) dX7_readsOrder_75 rfl ?_
  refine g_goto (tgt := 80) dX7_readsOrder_76 (by decide) ?_
  refine g_iadd dX7_readsOrder_80 ?_
  rw [show (pe F 172 9 1) 172 8 = nI i by simp [pe_at, el, ea, em], nI_1]
  refine g_pI dX7_readsOrder_81 fl_X7_151 (Or.inl rfl) rfl (by decide) rfl ?_
  refine g_aload_n dX7_readsOrder_84 rfl ?_
  refine g_gR (r := 178) dX7_readsOrder_85 fl_X7_26 (fun _ _ => rfl) rfl (by decide) rfl ?_
  refine g_iload_n dX7_readsOrder_88 rfl ?_
  refine g_iload_n dX7_readsOrder_89 rfl ?_
  refine g_iastN (gx := (3 * m)) dX7_readsOrder_90 rfl (by decide) rfl (by omega) (by decide) ?_
  refine g_aload_n dX7_readsOrder_91 rfl ?_
  refine g_gR (r := 178) dX7_readsOrder_92 fl_X7_26 (fun _ _ => rfl) rfl (by decide) rfl ?_
  refine g_iload_n dX7_readsOrder_95 rfl ?_
  refine g_iconstv (v := 1) dX7_readsOrder_96 rfl ?_
  refine g_iadd dX7_readsOrder_97 ?_
  refine g_iload_n dX7_readsOrder_98 rfl ?_
  refine g_bipushv (v := 103) dX7_readsOrder_99 rfl ?_
  refine g_icmp_eq (tgt := 116) dX7_readsOrder_101 (by decide) (fun c101 => absurd c101 (by decide)) (fun c101 => ?_)
  refine g_iload_n dX7_readsOrder_104 rfl ?_
  refine g_bipushv (v := 112) dX7_readsOrder_105 rfl ?_
  refine g_icmp_eq (tgt := 116) dX7_readsOrder_107 (by decide) (fun c107 => absurd c107 (by decide)) (fun c107 => ?_)
  refine g_iload_n dX7_readsOrder_110 rfl ?_
  refine g_bipushv (v := 101) dX7_readsOrder_111 rfl ?_
  refine g_icmp_ne (tgt := 123) dX7_readsOrder_113 (by decide) (fun c113 => ?_) (fun c113 => absurd c113 (by decide))
  refine g_aload_n dX7_readsOrder_123 rfl ?_
  refine g_V0i dX7_readsOrder_124 ml_X7_167 sX7_number rfl (by decide) (Nat.le_of_ble_eq_true rfl) (c_nu_no (F := (pe (pe (pe F 172 9 1) 172 8 (nI (i + 1))) 178 (3 * m) 119)) (d) l (i + 1) (by simp [pe_at, el]) hl (by simp [pe_at]) (by omega) y es_y (by simp [pe_at]) hy) ?_
  refine g_iastN (gx := (3 * m + 1)) dX7_readsOrder_127 rfl (by decide) (nI_1 (3 * m)) (by omega) (by decide) ?_
  refine g_iload_n dX7_readsOrder_128 rfl ?_
  refine g_bipushv (v := 103) dX7_readsOrder_129 rfl ?_
  refine g_icmp_ne (tgt := 192) dX7_readsOrder_131 (by decide) (fun c131 => ?_) (fun c131 => absurd c131 (by decide))
  refine g_aload_n dX7_readsOrder_192 rfl ?_
  refine g_dup dX7_readsOrder_193 rfl ?_
  refine g_gI dX7_readsOrder_194 fl_X7_164 (fun _ _ => rfl) rfl (by decide) ?_
  refine g_aload_n dX7_readsOrder_197 rfl ?_
  refine g_gI dX7_readsOrder_198 fl_X7_154 (fun _ _ => rfl) rfl (by decide) ?_
  refine g_if_eq (tgt := 208) dX7_readsOrder_201 (by decide) (fun c201 => ?_) (fun c201 => absurd (by simp [pe_at]) c201)
  refine g_iconstv (v := 0) dX7_readsOrder_208 rfl ?_
  refine g_iadd dX7_readsOrder_209 ?_
  rw [show (pe (pe (pe (pe (pe F 172 9 1) 172 8 (nI (i + 1))) 178 (3 * m) 119) 172 9 0) 178 (3 * m + 1) (y - 48)) 172 11 = nI m by simp [pe_at, el, ea, em], Int32.add_zero]
  refine g_pI dX7_readsOrder_210 fl_X7_164 (Or.inl rfl) rfl (by decide) rfl ?_
  exact g_vret dX7_readsOrder_213 rfl
def yro_w1 (F : Nat → Nat → Int32) (i m : Nat) (x y z : Int32) : Nat → Nat → Int32 := (pe (pe (pe (pe (pe (pe F 172 9 1) 172 8 (nI (i + 1))) 178 (3 * m) 119) 172 8 (nI (i + 1 + 1))) 178 (3 * m + 1) (y - 48)) 172 11 (nI (m + 1)))
set_option maxHeartbeats 4000000 in
set_option maxRecDepth 100000 in
theorem c_ro_w1 {L : Nat} {F : Nat → Nat → Int32} {g : Nat → Option Nat} (d : Nat) (l i m : Nat) (el : F 172 7 = nI l) (hl : l ≤ 80) (ea : F 172 8 = nI i) (hi : i ≤ 80) (em : F 172 11 = nI m) (hm : m ≤ 40) (x y z : Int32) (es : mSg (F 177) l i = 119)  (es_y : mSg (F 177) l (i + 1) = y) (hy : 48 ≤ y ∧ y ≤ 57) (hx : y = 48) : mCall (d + 3) yX7_readsOrder MX7_readsOrder [.ref 172] (mHX L F g) (none) (mHX L (yro_w1 F i m x y z) g) := by
  refine mCall_of sX7_readsOrder.1 (Nat.le_of_ble_eq_true rfl) rfl ?_
  show mGo _ _ (0, [some (.ref 172), none, none], [], _) _
  refine g_iconstv (v := 3) dX7_readsOrder_0 rfl ?_
  refine g_aload_n dX7_readsOrder_1 rfl ?_
  refine g_gI dX7_readsOrder_2 fl_X7_164 (fun _ _ => rfl) rfl (by decide) ?_
  refine g_imul dX7_readsOrder_5 ?_
  rw [em, show (3 : Int32) = nI 3 from rfl, pk_mul]
  refine g_istore_n dX7_readsOrder_6 (by decide) rfl ?_
  refine g_aload_n dX7_readsOrder_7 rfl ?_
  refine g_V0i dX7_readsOrder_8 ml_X7_158 sX7_sign rfl (by decide) (Nat.le_of_ble_eq_true rfl) (c_sign (d + 2) l i el hl ea (by omega) 119 es) ?_
  refine g_istore_n dX7_readsOrder_11 (by decide) rfl ?_
  refine g_aload_n dX7_readsOrder_12 rfl ?_
  refine g_iload_n dX7_readsOrder_13 rfl ?_
  refine g_bipushv (v := 103) dX7_readsOrder_14 rfl ?_
  refine g_icmp_eq (tgt := 55) dX7_readsOrder_16 (by decide) (fun c16 => absurd c16 (by decide)) (fun c16 => ?_)
  refine g_iload_n dX7_readsOrder_19 rfl ?_
  refine g_bipushv (v := 120) dX7_readsOrder_20 rfl ?_
  refine g_icmp_eq (tgt := 55) dX7_readsOrder_22 (by decide) (fun c22 => absurd c22 (by decide)) (fun c22 => ?_)
  refine g_iload_n dX7_readsOrder_25 rfl ?_
  refine g_bipushv (v := 112) dX7_readsOrder_26 rfl ?_
  refine g_icmp_eq (tgt := 55) dX7_readsOrder_28 (by decide) (fun c28 => absurd c28 (by decide)) (fun c28 => ?_)
  refine g_iload_n dX7_readsOrder_31 rfl ?_
  refine g_bipushv (v := 101) dX7_readsOrder_32 rfl ?_
  refine g_icmp_eq (tgt := 55) dX7_readsOrder_34 (by decide) (fun c34 => absurd c34 (by decide)) (fun c34 => ?_)
  refine g_iload_n dX7_readsOrder_37 rfl ?_
  refine g_bipushv (v := 119) dX7_readsOrder_38 rfl ?_
  refine g_icmp_eq (tgt := 55) dX7_readsOrder_40 (by decide) (fun c40 => ?_) (fun c40 => absurd (by decide) c40)
  refine g_iconstv (v := 1) dX7_readsOrder_55 rfl ?_
  refine g_goto (tgt := 60) dX7_readsOrder_56 (by decide) ?_
  refine g_pZ dX7_readsOrder_60 fl_X7_154 (Or.inl rfl) rfl (by decide) rfl (by first | exact Or.inl rfl | exact Or.inr rfl) ?_
  refine g_aload_n dX7_readsOrder_63 rfl ?_
  refine g_dup dX7_readsOrder_64 rfl ?_
  refine g_gI dX7_readsOrder_65 fl_X7_151 (fun _ _ => rfl) rfl (by decide) ?_
  refine g_aload_n dX7_readsOrder_68 rfl ?_
  refine g_gI dX7_readsOrder_69 fl_X7_154 (fun _ _ => rfl) rfl (by decide) ?_
  refine g_if_eq (tgt := 79) dX7_readsOrder_72 (by decide) (fun c72 => absurd c72 (by simp [pe_at])) (fun c72 => ?_)
  refine g_iconstv (v := 1) dX7_readsOrder_75 rfl ?_
  refine g_goto (tgt := 80) dX7_readsOrder_76 (by decide) ?_
  refine g_iadd dX7_readsOrder_80 ?_
  rw [show (pe F 172 9 1) 172 8 = nI i by simp [pe_at, el, ea, em], nI_1]
  refine g_pI dX7_readsOrder_81 fl_X7_151 (Or.inl rfl) rfl (by decide) rfl ?_
  refine g_aload_n dX7_readsOrder_84 rfl ?_
  refine g_gR (r := 178) dX7_readsOrder_85 fl_X7_26 (fun _ _ => rfl) rfl (by decide) rfl ?_
  refine g_iload_n dX7_readsOrder_88 rfl ?_
  refine g_iload_n dX7_readsOrder_89 rfl ?_
  refine g_iastN (gx := (3 * m)) dX7_readsOrder_90 rfl (by decide) rfl (by omega) (by decide) ?_
  refine g_aload_n dX7_readsOrder_91 rfl ?_
  refine g_gR (r := 178) dX7_readsOrder_92 fl_X7_26 (fun _ _ => rfl) rfl (by decide) rfl ?_
  refine g_iload_n dX7_readsOrder_95 rfl ?_
  refine g_iconstv (v := 1) dX7_readsOrder_96 rfl ?_
  refine g_iadd dX7_readsOrder_97 ?_
  refine g_iload_n dX7_readsOrder_98 rfl ?_
  refine g_bipushv (v := 103) dX7_readsOrder_99 rfl ?_
  refine g_icmp_eq (tgt := 116) dX7_readsOrder_101 (by decide) (fun c101 => absurd c101 (by decide)) (fun c101 => ?_)
  refine g_iload_n dX7_readsOrder_104 rfl ?_
  refine g_bipushv (v := 112) dX7_readsOrder_105 rfl ?_
  refine g_icmp_eq (tgt := 116) dX7_readsOrder_107 (by decide) (fun c107 => absurd c107 (by decide)) (fun c107 => ?_)
  refine g_iload_n dX7_readsOrder_110 rfl ?_
  refine g_bipushv (v := 101) dX7_readsOrder_111 rfl ?_
  refine g_icmp_ne (tgt := 123) dX7_readsOrder_113 (by decide) (fun c113 => ?_) (fun c113 => absurd c113 (by decide))
  refine g_aload_n dX7_readsOrder_123 rfl ?_
  refine g_V0i dX7_readsOrder_124 ml_X7_167 sX7_number rfl (by decide) (Nat.le_of_ble_eq_true rfl) (c_nu_0 (F := (pe (pe (pe F 172 9 1) 172 8 (nI (i + 1))) 178 (3 * m) 119)) (d) l (i + 1) (by simp [pe_at, el]) hl (by simp [pe_at]) (by omega) y es_y (by simp [pe_at]) hy hx) ?_
  refine g_iastN (gx := (3 * m + 1)) dX7_readsOrder_127 rfl (by decide) (nI_1 (3 * m)) (by omega) (by decide) ?_
  refine g_iload_n dX7_readsOrder_128 rfl ?_
  refine g_bipushv (v := 103) dX7_readsOrder_129 rfl ?_
  refine g_icmp_ne (tgt := 192) dX7_readsOrder_131 (by decide) (fun c131 => ?_) (fun c131 => absurd c131 (by decide))
  refine g_aload_n dX7_readsOrder_192 rfl ?_
  refine g_dup dX7_readsOrder_193 rfl ?_
  refine g_gI dX7_readsOrder_194 fl_X7_164 (fun _ _ => rfl) rfl (by decide) ?_
  refine g_aload_n dX7_readsOrder_197 rfl ?_
  refine g_gI dX7_readsOrder_198 fl_X7_154 (fun _ _ => rfl) rfl (by decide) ?_
  refine g_if_eq (tgt := 208) dX7_readsOrder_201 (by decide) (fun c201 => absurd c201 (by simp [pe_at])) (fun c201 => ?_)
  refine g_iconstv (v := 1) dX7_readsOrder_204 rfl ?_
  refine g_goto (tgt := 209) dX7_readsOrder_205 (by decide) ?_
  refine g_iadd dX7_readsOrder_209 ?_
  rw [show (pe (pe (pe (pe (pe F 172 9 1) 172 8 (nI (i + 1))) 178 (3 * m) 119) 172 8 (nI (i + 1 + 1))) 178 (3 * m + 1) (y - 48)) 172 11 = nI m by simp [pe_at, el, ea, em], nI_1]
  refine g_pI dX7_readsOrder_210 fl_X7_164 (Or.inl rfl) rfl (by decide) rfl ?_
  exact g_vret dX7_readsOrder_213 rfl
def yro_w2 (F : Nat → Nat → Int32) (i m : Nat) (x y z : Int32) : Nat → Nat → Int32 := (pe (pe (pe (pe (pe (pe F 172 9 1) 172 8 (nI (i + 1))) 178 (3 * m) 119) 172 8 (nI (i + 1 + 1))) 178 (3 * m + 1) (y - 48)) 172 11 (nI (m + 1)))
set_option maxHeartbeats 4000000 in
set_option maxRecDepth 100000 in
theorem c_ro_w2 {L : Nat} {F : Nat → Nat → Int32} {g : Nat → Option Nat} (d : Nat) (l i m : Nat) (el : F 172 7 = nI l) (hl : l ≤ 80) (ea : F 172 8 = nI i) (hi : i ≤ 80) (em : F 172 11 = nI m) (hm : m ≤ 40) (x y z : Int32) (es : mSg (F 177) l i = 119)  (es_y : mSg (F 177) l (i + 1) = y) (hy : 48 ≤ y ∧ y ≤ 57) (hx : ¬ y = 48) (es_z : mSg (F 177) l (i + 2) = z) (hz : ¬ (48 ≤ z ∧ z ≤ 57)) : mCall (d + 3) yX7_readsOrder MX7_readsOrder [.ref 172] (mHX L F g) (none) (mHX L (yro_w2 F i m x y z) g) := by
  refine mCall_of sX7_readsOrder.1 (Nat.le_of_ble_eq_true rfl) rfl ?_
  show mGo _ _ (0, [some (.ref 172), none, none], [], _) _
  refine g_iconstv (v := 3) dX7_readsOrder_0 rfl ?_
  refine g_aload_n dX7_readsOrder_1 rfl ?_
  refine g_gI dX7_readsOrder_2 fl_X7_164 (fun _ _ => rfl) rfl (by decide) ?_
  refine g_imul dX7_readsOrder_5 ?_
  rw [em, show (3 : Int32) = nI 3 from rfl, pk_mul]
  refine g_istore_n dX7_readsOrder_6 (by decide) rfl ?_
  refine g_aload_n dX7_readsOrder_7 rfl ?_
  refine g_V0i dX7_readsOrder_8 ml_X7_158 sX7_sign rfl (by decide) (Nat.le_of_ble_eq_true rfl) (c_sign (d + 2) l i el hl ea (by omega) 119 es) ?_
  refine g_istore_n dX7_readsOrder_11 (by decide) rfl ?_
  refine g_aload_n dX7_readsOrder_12 rfl ?_
  refine g_iload_n dX7_readsOrder_13 rfl ?_
  refine g_bipushv (v := 103) dX7_readsOrder_14 rfl ?_
  refine g_icmp_eq (tgt := 55) dX7_readsOrder_16 (by decide) (fun c16 => absurd c16 (by decide)) (fun c16 => ?_)
  refine g_iload_n dX7_readsOrder_19 rfl ?_
  refine g_bipushv (v := 120) dX7_readsOrder_20 rfl ?_
  refine g_icmp_eq (tgt := 55) dX7_readsOrder_22 (by decide) (fun c22 => absurd c22 (by decide)) (fun c22 => ?_)
  refine g_iload_n dX7_readsOrder_25 rfl ?_
  refine g_bipushv (v := 112) dX7_readsOrder_26 rfl ?_
  refine g_icmp_eq (tgt := 55) dX7_readsOrder_28 (by decide) (fun c28 => absurd c28 (by decide)) (fun c28 => ?_)
  refine g_iload_n dX7_readsOrder_31 rfl ?_
  refine g_bipushv (v := 101) dX7_readsOrder_32 rfl ?_
  refine g_icmp_eq (tgt := 55) dX7_readsOrder_34 (by decide) (fun c34 => absurd c34 (by decide)) (fun c34 => ?_)
  refine g_iload_n dX7_readsOrder_37 rfl ?_
  refine g_bipushv (v := 119) dX7_readsOrder_38 rfl ?_
  refine g_icmp_eq (tgt := 55) dX7_readsOrder_40 (by decide) (fun c40 => ?_) (fun c40 => absurd (by decide) c40)
  refine g_iconstv (v := 1) dX7_readsOrder_55 rfl ?_
  refine g_goto (tgt := 60) dX7_readsOrder_56 (by decide) ?_
  refine g_pZ dX7_readsOrder_60 fl_X7_154 (Or.inl rfl) rfl (by decide) rfl (by first | exact Or.inl rfl | exact Or.inr rfl) ?_
  refine g_aload_n dX7_readsOrder_63 rfl ?_
  refine g_dup dX7_readsOrder_64 rfl ?_
  refine g_gI dX7_readsOrder_65 fl_X7_151 (fun _ _ => rfl) rfl (by decide) ?_
  refine g_aload_n dX7_readsOrder_68 rfl ?_
  refine g_gI dX7_readsOrder_69 fl_X7_154 (fun _ _ => rfl) rfl (by decide) ?_
  refine g_if_eq (tgt := 79) dX7_readsOrder_72 (by decide) (fun c72 => absurd c72 (by simp [pe_at])) (fun c72 => ?_)
  refine g_iconstv (v := 1) dX7_readsOrder_75 rfl ?_
  refine g_goto (tgt := 80) dX7_readsOrder_76 (by decide) ?_
  refine g_iadd dX7_readsOrder_80 ?_
  rw [show (pe F 172 9 1) 172 8 = nI i by simp [pe_at, el, ea, em], nI_1]
  refine g_pI dX7_readsOrder_81 fl_X7_151 (Or.inl rfl) rfl (by decide) rfl ?_
  refine g_aload_n dX7_readsOrder_84 rfl ?_
  refine g_gR (r := 178) dX7_readsOrder_85 fl_X7_26 (fun _ _ => rfl) rfl (by decide) rfl ?_
  refine g_iload_n dX7_readsOrder_88 rfl ?_
  refine g_iload_n dX7_readsOrder_89 rfl ?_
  refine g_iastN (gx := (3 * m)) dX7_readsOrder_90 rfl (by decide) rfl (by omega) (by decide) ?_
  refine g_aload_n dX7_readsOrder_91 rfl ?_
  refine g_gR (r := 178) dX7_readsOrder_92 fl_X7_26 (fun _ _ => rfl) rfl (by decide) rfl ?_
  refine g_iload_n dX7_readsOrder_95 rfl ?_
  refine g_iconstv (v := 1) dX7_readsOrder_96 rfl ?_
  refine g_iadd dX7_readsOrder_97 ?_
  refine g_iload_n dX7_readsOrder_98 rfl ?_
  refine g_bipushv (v := 103) dX7_readsOrder_99 rfl ?_
  refine g_icmp_eq (tgt := 116) dX7_readsOrder_101 (by decide) (fun c101 => absurd c101 (by decide)) (fun c101 => ?_)
  refine g_iload_n dX7_readsOrder_104 rfl ?_
  refine g_bipushv (v := 112) dX7_readsOrder_105 rfl ?_
  refine g_icmp_eq (tgt := 116) dX7_readsOrder_107 (by decide) (fun c107 => absurd c107 (by decide)) (fun c107 => ?_)
  refine g_iload_n dX7_readsOrder_110 rfl ?_
  refine g_bipushv (v := 101) dX7_readsOrder_111 rfl ?_
  refine g_icmp_ne (tgt := 123) dX7_readsOrder_113 (by decide) (fun c113 => ?_) (fun c113 => absurd c113 (by decide))
  refine g_aload_n dX7_readsOrder_123 rfl ?_
  refine g_V0i dX7_readsOrder_124 ml_X7_167 sX7_number rfl (by decide) (Nat.le_of_ble_eq_true rfl) (c_nu_1 (F := (pe (pe (pe F 172 9 1) 172 8 (nI (i + 1))) 178 (3 * m) 119)) (d) l (i + 1) (by simp [pe_at, el]) hl (by simp [pe_at]) (by omega) y es_y (by simp [pe_at]) hy hx z es_z hz) ?_
  refine g_iastN (gx := (3 * m + 1)) dX7_readsOrder_127 rfl (by decide) (nI_1 (3 * m)) (by omega) (by decide) ?_
  refine g_iload_n dX7_readsOrder_128 rfl ?_
  refine g_bipushv (v := 103) dX7_readsOrder_129 rfl ?_
  refine g_icmp_ne (tgt := 192) dX7_readsOrder_131 (by decide) (fun c131 => ?_) (fun c131 => absurd c131 (by decide))
  refine g_aload_n dX7_readsOrder_192 rfl ?_
  refine g_dup dX7_readsOrder_193 rfl ?_
  refine g_gI dX7_readsOrder_194 fl_X7_164 (fun _ _ => rfl) rfl (by decide) ?_
  refine g_aload_n dX7_readsOrder_197 rfl ?_
  refine g_gI dX7_readsOrder_198 fl_X7_154 (fun _ _ => rfl) rfl (by decide) ?_
  refine g_if_eq (tgt := 208) dX7_readsOrder_201 (by decide) (fun c201 => absurd c201 (by simp [pe_at])) (fun c201 => ?_)
  refine g_iconstv (v := 1) dX7_readsOrder_204 rfl ?_
  refine g_goto (tgt := 209) dX7_readsOrder_205 (by decide) ?_
  refine g_iadd dX7_readsOrder_209 ?_
  rw [show (pe (pe (pe (pe (pe F 172 9 1) 172 8 (nI (i + 1))) 178 (3 * m) 119) 172 8 (nI (i + 1 + 1))) 178 (3 * m + 1) (y - 48)) 172 11 = nI m by simp [pe_at, el, ea, em], nI_1]
  refine g_pI dX7_readsOrder_210 fl_X7_164 (Or.inl rfl) rfl (by decide) rfl ?_
  exact g_vret dX7_readsOrder_213 rfl
def yro_w3 (F : Nat → Nat → Int32) (i m : Nat) (x y z : Int32) : Nat → Nat → Int32 := (pe (pe (pe (pe (pe (pe F 172 9 1) 172 8 (nI (i + 1))) 178 (3 * m) 119) 172 8 (nI (i + 1 + 2))) 178 (3 * m + 1) (10 * (y - 48) + z - 48)) 172 11 (nI (m + 1)))
set_option maxHeartbeats 4000000 in
set_option maxRecDepth 100000 in
theorem c_ro_w3 {L : Nat} {F : Nat → Nat → Int32} {g : Nat → Option Nat} (d : Nat) (l i m : Nat) (el : F 172 7 = nI l) (hl : l ≤ 80) (ea : F 172 8 = nI i) (hi : i ≤ 80) (em : F 172 11 = nI m) (hm : m ≤ 40) (x y z : Int32) (es : mSg (F 177) l i = 119)  (es_y : mSg (F 177) l (i + 1) = y) (hy : 48 ≤ y ∧ y ≤ 57) (hx : ¬ y = 48) (es_z : mSg (F 177) l (i + 2) = z) (hz : 48 ≤ z ∧ z ≤ 57) : mCall (d + 3) yX7_readsOrder MX7_readsOrder [.ref 172] (mHX L F g) (none) (mHX L (yro_w3 F i m x y z) g) := by
  refine mCall_of sX7_readsOrder.1 (Nat.le_of_ble_eq_true rfl) rfl ?_
  show mGo _ _ (0, [some (.ref 172), none, none], [], _) _
  refine g_iconstv (v := 3) dX7_readsOrder_0 rfl ?_
  refine g_aload_n dX7_readsOrder_1 rfl ?_
  refine g_gI dX7_readsOrder_2 fl_X7_164 (fun _ _ => rfl) rfl (by decide) ?_
  refine g_imul dX7_readsOrder_5 ?_
  rw [em, show (3 : Int32) = nI 3 from rfl, pk_mul]
  refine g_istore_n dX7_readsOrder_6 (by decide) rfl ?_
  refine g_aload_n dX7_readsOrder_7 rfl ?_
  refine g_V0i dX7_readsOrder_8 ml_X7_158 sX7_sign rfl (by decide) (Nat.le_of_ble_eq_true rfl) (c_sign (d + 2) l i el hl ea (by omega) 119 es) ?_
  refine g_istore_n dX7_readsOrder_11 (by decide) rfl ?_
  refine g_aload_n dX7_readsOrder_12 rfl ?_
  refine g_iload_n dX7_readsOrder_13 rfl ?_
  refine g_bipushv (v := 103) dX7_readsOrder_14 rfl ?_
  refine g_icmp_eq (tgt := 55) dX7_readsOrder_16 (by decide) (fun c16 => absurd c16 (by decide)) (fun c16 => ?_)
  refine g_iload_n dX7_readsOrder_19 rfl ?_
  refine g_bipushv (v := 120) dX7_readsOrder_20 rfl ?_
  refine g_icmp_eq (tgt := 55) dX7_readsOrder_22 (by decide) (fun c22 => absurd c22 (by decide)) (fun c22 => ?_)
  refine g_iload_n dX7_readsOrder_25 rfl ?_
  refine g_bipushv (v := 112) dX7_readsOrder_26 rfl ?_
  refine g_icmp_eq (tgt := 55) dX7_readsOrder_28 (by decide) (fun c28 => absurd c28 (by decide)) (fun c28 => ?_)
  refine g_iload_n dX7_readsOrder_31 rfl ?_
  refine g_bipushv (v := 101) dX7_readsOrder_32 rfl ?_
  refine g_icmp_eq (tgt := 55) dX7_readsOrder_34 (by decide) (fun c34 => absurd c34 (by decide)) (fun c34 => ?_)
  refine g_iload_n dX7_readsOrder_37 rfl ?_
  refine g_bipushv (v := 119) dX7_readsOrder_38 rfl ?_
  refine g_icmp_eq (tgt := 55) dX7_readsOrder_40 (by decide) (fun c40 => ?_) (fun c40 => absurd (by decide) c40)
  refine g_iconstv (v := 1) dX7_readsOrder_55 rfl ?_
  refine g_goto (tgt := 60) dX7_readsOrder_56 (by decide) ?_
  refine g_pZ dX7_readsOrder_60 fl_X7_154 (Or.inl rfl) rfl (by decide) rfl (by first | exact Or.inl rfl | exact Or.inr rfl) ?_
  refine g_aload_n dX7_readsOrder_63 rfl ?_
  refine g_dup dX7_readsOrder_64 rfl ?_
  refine g_gI dX7_readsOrder_65 fl_X7_151 (fun _ _ => rfl) rfl (by decide) ?_
  refine g_aload_n dX7_readsOrder_68 rfl ?_
  refine g_gI dX7_readsOrder_69 fl_X7_154 (fun _ _ => rfl) rfl (by decide) ?_
  refine g_if_eq (tgt := 79) dX7_readsOrder_72 (by decide) (fun c72 => absurd c72 (by simp [pe_at])) (fun c72 => ?_)
  refine g_iconstv (v := 1) dX7_readsOrder_75 rfl ?_
  refine g_goto (tgt := 80) dX7_readsOrder_76 (by decide) ?_
  refine g_iadd dX7_readsOrder_80 ?_
  rw [show (pe F 172 9 1) 172 8 = nI i by simp [pe_at, el, ea, em], nI_1]
  refine g_pI dX7_readsOrder_81 fl_X7_151 (Or.inl rfl) rfl (by decide) rfl ?_
  refine g_aload_n dX7_readsOrder_84 rfl ?_
  refine g_gR (r := 178) dX7_readsOrder_85 fl_X7_26 (fun _ _ => rfl) rfl (by decide) rfl ?_
  refine g_iload_n dX7_readsOrder_88 rfl ?_
  refine g_iload_n dX7_readsOrder_89 rfl ?_
  refine g_iastN (gx := (3 * m)) dX7_readsOrder_90 rfl (by decide) rfl (by omega) (by decide) ?_
  refine g_aload_n dX7_readsOrder_91 rfl ?_
  refine g_gR (r := 178) dX7_readsOrder_92 fl_X7_26 (fun _ _ => rfl) rfl (by decide) rfl ?_
  refine g_iload_n dX7_readsOrder_95 rfl ?_
  refine g_iconstv (v := 1) dX7_readsOrder_96 rfl ?_
  refine g_iadd dX7_readsOrder_97 ?_
  refine g_iload_n dX7_readsOrder_98 rfl ?_
  refine g_bipushv (v := 103) dX7_readsOrder_99 rfl ?_
  refine g_icmp_eq (tgt := 116) dX7_readsOrder_101 (by decide) (fun c101 => absurd c101 (by decide)) (fun c101 => ?_)
  refine g_iload_n dX7_readsOrder_104 rfl ?_
  refine g_bipushv (v := 112) dX7_readsOrder_105 rfl ?_
  refine g_icmp_eq (tgt := 116) dX7_readsOrder_107 (by decide) (fun c107 => absurd c107 (by decide)) (fun c107 => ?_)
  refine g_iload_n dX7_readsOrder_110 rfl ?_
  refine g_bipushv (v := 101) dX7_readsOrder_111 rfl ?_
  refine g_icmp_ne (tgt := 123) dX7_readsOrder_113 (by decide) (fun c113 => ?_) (fun c113 => absurd c113 (by decide))
  refine g_aload_n dX7_readsOrder_123 rfl ?_
  refine g_V0i dX7_readsOrder_124 ml_X7_167 sX7_number rfl (by decide) (Nat.le_of_ble_eq_true rfl) (c_nu_2 (F := (pe (pe (pe F 172 9 1) 172 8 (nI (i + 1))) 178 (3 * m) 119)) (d) l (i + 1) (by simp [pe_at, el]) hl (by simp [pe_at]) (by omega) y es_y (by simp [pe_at]) hy hx z es_z hz) ?_
  refine g_iastN (gx := (3 * m + 1)) dX7_readsOrder_127 rfl (by decide) (nI_1 (3 * m)) (by omega) (by decide) ?_
  refine g_iload_n dX7_readsOrder_128 rfl ?_
  refine g_bipushv (v := 103) dX7_readsOrder_129 rfl ?_
  refine g_icmp_ne (tgt := 192) dX7_readsOrder_131 (by decide) (fun c131 => ?_) (fun c131 => absurd c131 (by decide))
  refine g_aload_n dX7_readsOrder_192 rfl ?_
  refine g_dup dX7_readsOrder_193 rfl ?_
  refine g_gI dX7_readsOrder_194 fl_X7_164 (fun _ _ => rfl) rfl (by decide) ?_
  refine g_aload_n dX7_readsOrder_197 rfl ?_
  refine g_gI dX7_readsOrder_198 fl_X7_154 (fun _ _ => rfl) rfl (by decide) ?_
  refine g_if_eq (tgt := 208) dX7_readsOrder_201 (by decide) (fun c201 => absurd c201 (by simp [pe_at])) (fun c201 => ?_)
  refine g_iconstv (v := 1) dX7_readsOrder_204 rfl ?_
  refine g_goto (tgt := 209) dX7_readsOrder_205 (by decide) ?_
  refine g_iadd dX7_readsOrder_209 ?_
  rw [show (pe (pe (pe (pe (pe F 172 9 1) 172 8 (nI (i + 1))) 178 (3 * m) 119) 172 8 (nI (i + 1 + 2))) 178 (3 * m + 1) (10 * (y - 48) + z - 48)) 172 11 = nI m by simp [pe_at, el, ea, em], nI_1]
  refine g_pI dX7_readsOrder_210 fl_X7_164 (Or.inl rfl) rfl (by decide) rfl ?_
  exact g_vret dX7_readsOrder_213 rfl
def yro_c0 (F : Nat → Nat → Int32) (i m : Nat) (x y z : Int32) : Nat → Nat → Int32 := (pe (pe (pe (pe (pe (pe F 172 9 1) 172 8 (nI (i + 1))) 178 (3 * m) 99) 172 9 0) 178 (3 * m + 1) (y - 48)) 172 11 (nI m))
set_option maxHeartbeats 4000000 in
set_option maxRecDepth 100000 in
theorem c_ro_c0 {L : Nat} {F : Nat → Nat → Int32} {g : Nat → Option Nat} (d : Nat) (l i m : Nat) (el : F 172 7 = nI l) (hl : l ≤ 80) (ea : F 172 8 = nI i) (hi : i ≤ 80) (em : F 172 11 = nI m) (hm : m ≤ 40) (x y z : Int32) (es : mSg (F 177) l i = 99)  (es_y : mSg (F 177) l (i + 1) = y) (hy : ¬ (48 ≤ y ∧ y ≤ 57)) : mCall (d + 3) yX7_readsOrder MX7_readsOrder [.ref 172] (mHX L F g) (none) (mHX L (yro_c0 F i m x y z) g) := by
  refine mCall_of sX7_readsOrder.1 (Nat.le_of_ble_eq_true rfl) rfl ?_
  show mGo _ _ (0, [some (.ref 172), none, none], [], _) _
  refine g_iconstv (v := 3) dX7_readsOrder_0 rfl ?_
  refine g_aload_n dX7_readsOrder_1 rfl ?_
  refine g_gI dX7_readsOrder_2 fl_X7_164 (fun _ _ => rfl) rfl (by decide) ?_
  refine g_imul dX7_readsOrder_5 ?_
  rw [em, show (3 : Int32) = nI 3 from rfl, pk_mul]
  refine g_istore_n dX7_readsOrder_6 (by decide) rfl ?_
  refine g_aload_n dX7_readsOrder_7 rfl ?_
  refine g_V0i dX7_readsOrder_8 ml_X7_158 sX7_sign rfl (by decide) (Nat.le_of_ble_eq_true rfl) (c_sign (d + 2) l i el hl ea (by omega) 99 es) ?_
  refine g_istore_n dX7_readsOrder_11 (by decide) rfl ?_
  refine g_aload_n dX7_readsOrder_12 rfl ?_
  refine g_iload_n dX7_readsOrder_13 rfl ?_
  refine g_bipushv (v := 103) dX7_readsOrder_14 rfl ?_
  refine g_icmp_eq (tgt := 55) dX7_readsOrder_16 (by decide) (fun c16 => absurd c16 (by decide)) (fun c16 => ?_)
  refine g_iload_n dX7_readsOrder_19 rfl ?_
  refine g_bipushv (v := 120) dX7_readsOrder_20 rfl ?_
  refine g_icmp_eq (tgt := 55) dX7_readsOrder_22 (by decide) (fun c22 => absurd c22 (by decide)) (fun c22 => ?_)
  refine g_iload_n dX7_readsOrder_25 rfl ?_
  refine g_bipushv (v := 112) dX7_readsOrder_26 rfl ?_
  refine g_icmp_eq (tgt := 55) dX7_readsOrder_28 (by decide) (fun c28 => absurd c28 (by decide)) (fun c28 => ?_)
  refine g_iload_n dX7_readsOrder_31 rfl ?_
  refine g_bipushv (v := 101) dX7_readsOrder_32 rfl ?_
  refine g_icmp_eq (tgt := 55) dX7_readsOrder_34 (by decide) (fun c34 => absurd c34 (by decide)) (fun c34 => ?_)
  refine g_iload_n dX7_readsOrder_37 rfl ?_
  refine g_bipushv (v := 119) dX7_readsOrder_38 rfl ?_
  refine g_icmp_eq (tgt := 55) dX7_readsOrder_40 (by decide) (fun c40 => absurd c40 (by decide)) (fun c40 => ?_)
  refine g_iload_n dX7_readsOrder_43 rfl ?_
  refine g_bipushv (v := 99) dX7_readsOrder_44 rfl ?_
  refine g_icmp_eq (tgt := 55) dX7_readsOrder_46 (by decide) (fun c46 => ?_) (fun c46 => absurd (by decide) c46)
  refine g_iconstv (v := 1) dX7_readsOrder_55 rfl ?_
  refine g_goto (tgt := 60) dX7_readsOrder_56 (by decide) ?_
  refine g_pZ dX7_readsOrder_60 fl_X7_154 (Or.inl rfl) rfl (by decide) rfl (by first | exact Or.inl rfl | exact Or.inr rfl) ?_
  refine g_aload_n dX7_readsOrder_63 rfl ?_
  refine g_dup dX7_readsOrder_64 rfl ?_
  refine g_gI dX7_readsOrder_65 fl_X7_151 (fun _ _ => rfl) rfl (by decide) ?_
  refine g_aload_n dX7_readsOrder_68 rfl ?_
  refine g_gI dX7_readsOrder_69 fl_X7_154 (fun _ _ => rfl) rfl (by decide) ?_
  refine g_if_eq (tgt := 79) dX7_readsOrder_72 (by decide) (fun c72 => absurd c72 (by simp [pe_at])) (fun c72 => ?_)
  refine g_iconstv (v := 1) dX7_readsOrder_75 rfl ?_
  refine g_goto (tgt := 80) dX7_readsOrder_76 (by decide) ?_
  refine g_iadd dX7_readsOrder_80 ?_
  rw [show (pe F 172 9 1) 172 8 = nI i by simp [pe_at, el, ea, em], nI_1]
  refine g_pI dX7_readsOrder_81 fl_X7_151 (Or.inl rfl) rfl (by decide) rfl ?_
  refine g_aload_n dX7_readsOrder_84 rfl ?_
  refine g_gR (r := 178) dX7_readsOrder_85 fl_X7_26 (fun _ _ => rfl) rfl (by decide) rfl ?_
  refine g_iload_n dX7_readsOrder_88 rfl ?_
  refine g_iload_n dX7_readsOrder_89 rfl ?_
  refine g_iastN (gx := (3 * m)) dX7_readsOrder_90 rfl (by decide) rfl (by omega) (by decide) ?_
  refine g_aload_n dX7_readsOrder_91 rfl ?_
  refine g_gR (r := 178) dX7_readsOrder_92 fl_X7_26 (fun _ _ => rfl) rfl (by decide) rfl ?_
  refine g_iload_n dX7_readsOrder_95 rfl ?_
  refine g_iconstv (v := 1) dX7_readsOrder_96 rfl ?_
  refine g_iadd dX7_readsOrder_97 ?_
  refine g_iload_n dX7_readsOrder_98 rfl ?_
  refine g_bipushv (v := 103) dX7_readsOrder_99 rfl ?_
  refine g_icmp_eq (tgt := 116) dX7_readsOrder_101 (by decide) (fun c101 => absurd c101 (by decide)) (fun c101 => ?_)
  refine g_iload_n dX7_readsOrder_104 rfl ?_
  refine g_bipushv (v := 112) dX7_readsOrder_105 rfl ?_
  refine g_icmp_eq (tgt := 116) dX7_readsOrder_107 (by decide) (fun c107 => absurd c107 (by decide)) (fun c107 => ?_)
  refine g_iload_n dX7_readsOrder_110 rfl ?_
  refine g_bipushv (v := 101) dX7_readsOrder_111 rfl ?_
  refine g_icmp_ne (tgt := 123) dX7_readsOrder_113 (by decide) (fun c113 => ?_) (fun c113 => absurd c113 (by decide))
  refine g_aload_n dX7_readsOrder_123 rfl ?_
  refine g_V0i dX7_readsOrder_124 ml_X7_167 sX7_number rfl (by decide) (Nat.le_of_ble_eq_true rfl) (c_nu_no (F := (pe (pe (pe F 172 9 1) 172 8 (nI (i + 1))) 178 (3 * m) 99)) (d) l (i + 1) (by simp [pe_at, el]) hl (by simp [pe_at]) (by omega) y es_y (by simp [pe_at]) hy) ?_
  refine g_iastN (gx := (3 * m + 1)) dX7_readsOrder_127 rfl (by decide) (nI_1 (3 * m)) (by omega) (by decide) ?_
  refine g_iload_n dX7_readsOrder_128 rfl ?_
  refine g_bipushv (v := 103) dX7_readsOrder_129 rfl ?_
  refine g_icmp_ne (tgt := 192) dX7_readsOrder_131 (by decide) (fun c131 => ?_) (fun c131 => absurd c131 (by decide))
  refine g_aload_n dX7_readsOrder_192 rfl ?_
  refine g_dup dX7_readsOrder_193 rfl ?_
  refine g_gI dX7_readsOrder_194 fl_X7_164 (fun _ _ => rfl) rfl (by decide) ?_
  refine g_aload_n dX7_readsOrder_197 rfl ?_
  refine g_gI dX7_readsOrder_198 fl_X7_154 (fun _ _ => rfl) rfl (by decide) ?_
  refine g_if_eq (tgt := 208) dX7_readsOrder_201 (by decide) (fun c201 => ?_) (fun c201 => absurd (by simp [pe_at]) c201)
  refine g_iconstv (v := 0) dX7_readsOrder_208 rfl ?_
  refine g_iadd dX7_readsOrder_209 ?_
  rw [show (pe (pe (pe (pe (pe F 172 9 1) 172 8 (nI (i + 1))) 178 (3 * m) 99) 172 9 0) 178 (3 * m + 1) (y - 48)) 172 11 = nI m by simp [pe_at, el, ea, em], Int32.add_zero]
  refine g_pI dX7_readsOrder_210 fl_X7_164 (Or.inl rfl) rfl (by decide) rfl ?_
  exact g_vret dX7_readsOrder_213 rfl
def yro_c1 (F : Nat → Nat → Int32) (i m : Nat) (x y z : Int32) : Nat → Nat → Int32 := (pe (pe (pe (pe (pe (pe F 172 9 1) 172 8 (nI (i + 1))) 178 (3 * m) 99) 172 8 (nI (i + 1 + 1))) 178 (3 * m + 1) (y - 48)) 172 11 (nI (m + 1)))
set_option maxHeartbeats 4000000 in
set_option maxRecDepth 100000 in
theorem c_ro_c1 {L : Nat} {F : Nat → Nat → Int32} {g : Nat → Option Nat} (d : Nat) (l i m : Nat) (el : F 172 7 = nI l) (hl : l ≤ 80) (ea : F 172 8 = nI i) (hi : i ≤ 80) (em : F 172 11 = nI m) (hm : m ≤ 40) (x y z : Int32) (es : mSg (F 177) l i = 99)  (es_y : mSg (F 177) l (i + 1) = y) (hy : 48 ≤ y ∧ y ≤ 57) (hx : y = 48) : mCall (d + 3) yX7_readsOrder MX7_readsOrder [.ref 172] (mHX L F g) (none) (mHX L (yro_c1 F i m x y z) g) := by
  refine mCall_of sX7_readsOrder.1 (Nat.le_of_ble_eq_true rfl) rfl ?_
  show mGo _ _ (0, [some (.ref 172), none, none], [], _) _
  refine g_iconstv (v := 3) dX7_readsOrder_0 rfl ?_
  refine g_aload_n dX7_readsOrder_1 rfl ?_
  refine g_gI dX7_readsOrder_2 fl_X7_164 (fun _ _ => rfl) rfl (by decide) ?_
  refine g_imul dX7_readsOrder_5 ?_
  rw [em, show (3 : Int32) = nI 3 from rfl, pk_mul]
  refine g_istore_n dX7_readsOrder_6 (by decide) rfl ?_
  refine g_aload_n dX7_readsOrder_7 rfl ?_
  refine g_V0i dX7_readsOrder_8 ml_X7_158 sX7_sign rfl (by decide) (Nat.le_of_ble_eq_true rfl) (c_sign (d + 2) l i el hl ea (by omega) 99 es) ?_
  refine g_istore_n dX7_readsOrder_11 (by decide) rfl ?_
  refine g_aload_n dX7_readsOrder_12 rfl ?_
  refine g_iload_n dX7_readsOrder_13 rfl ?_
  refine g_bipushv (v := 103) dX7_readsOrder_14 rfl ?_
  refine g_icmp_eq (tgt := 55) dX7_readsOrder_16 (by decide) (fun c16 => absurd c16 (by decide)) (fun c16 => ?_)
  refine g_iload_n dX7_readsOrder_19 rfl ?_
  refine g_bipushv (v := 120) dX7_readsOrder_20 rfl ?_
  refine g_icmp_eq (tgt := 55) dX7_readsOrder_22 (by decide) (fun c22 => absurd c22 (by decide)) (fun c22 => ?_)
  refine g_iload_n dX7_readsOrder_25 rfl ?_
  refine g_bipushv (v := 112) dX7_readsOrder_26 rfl ?_
  refine g_icmp_eq (tgt := 55) dX7_readsOrder_28 (by decide) (fun c28 => absurd c28 (by decide)) (fun c28 => ?_)
  refine g_iload_n dX7_readsOrder_31 rfl ?_
  refine g_bipushv (v := 101) dX7_readsOrder_32 rfl ?_
  refine g_icmp_eq (tgt := 55) dX7_readsOrder_34 (by decide) (fun c34 => absurd c34 (by decide)) (fun c34 => ?_)
  refine g_iload_n dX7_readsOrder_37 rfl ?_
  refine g_bipushv (v := 119) dX7_readsOrder_38 rfl ?_
  refine g_icmp_eq (tgt := 55) dX7_readsOrder_40 (by decide) (fun c40 => absurd c40 (by decide)) (fun c40 => ?_)
  refine g_iload_n dX7_readsOrder_43 rfl ?_
  refine g_bipushv (v := 99) dX7_readsOrder_44 rfl ?_
  refine g_icmp_eq (tgt := 55) dX7_readsOrder_46 (by decide) (fun c46 => ?_) (fun c46 => absurd (by decide) c46)
  refine g_iconstv (v := 1) dX7_readsOrder_55 rfl ?_
  refine g_goto (tgt := 60) dX7_readsOrder_56 (by decide) ?_
  refine g_pZ dX7_readsOrder_60 fl_X7_154 (Or.inl rfl) rfl (by decide) rfl (by first | exact Or.inl rfl | exact Or.inr rfl) ?_
  refine g_aload_n dX7_readsOrder_63 rfl ?_
  refine g_dup dX7_readsOrder_64 rfl ?_
  refine g_gI dX7_readsOrder_65 fl_X7_151 (fun _ _ => rfl) rfl (by decide) ?_
  refine g_aload_n dX7_readsOrder_68 rfl ?_
  refine g_gI dX7_readsOrder_69 fl_X7_154 (fun _ _ => rfl) rfl (by decide) ?_
  refine g_if_eq (tgt := 79) dX7_readsOrder_72 (by decide) (fun c72 => absurd c72 (by simp [pe_at])) (fun c72 => ?_)
  refine g_iconstv (v := 1) dX7_readsOrder_75 rfl ?_
  refine g_goto (tgt := 80) dX7_readsOrder_76 (by decide) ?_
  refine g_iadd dX7_readsOrder_80 ?_
  rw [show (pe F 172 9 1) 172 8 = nI i by simp [pe_at, el, ea, em], nI_1]
  refine g_pI dX7_readsOrder_81 fl_X7_151 (Or.inl rfl) rfl (by decide) rfl ?_
  refine g_aload_n dX7_readsOrder_84 rfl ?_
  refine g_gR (r := 178) dX7_readsOrder_85 fl_X7_26 (fun _ _ => rfl) rfl (by decide) rfl ?_
  refine g_iload_n dX7_readsOrder_88 rfl ?_
  refine g_iload_n dX7_readsOrder_89 rfl ?_
  refine g_iastN (gx := (3 * m)) dX7_readsOrder_90 rfl (by decide) rfl (by omega) (by decide) ?_
  refine g_aload_n dX7_readsOrder_91 rfl ?_
  refine g_gR (r := 178) dX7_readsOrder_92 fl_X7_26 (fun _ _ => rfl) rfl (by decide) rfl ?_
  refine g_iload_n dX7_readsOrder_95 rfl ?_
  refine g_iconstv (v := 1) dX7_readsOrder_96 rfl ?_
  refine g_iadd dX7_readsOrder_97 ?_
  refine g_iload_n dX7_readsOrder_98 rfl ?_
  refine g_bipushv (v := 103) dX7_readsOrder_99 rfl ?_
  refine g_icmp_eq (tgt := 116) dX7_readsOrder_101 (by decide) (fun c101 => absurd c101 (by decide)) (fun c101 => ?_)
  refine g_iload_n dX7_readsOrder_104 rfl ?_
  refine g_bipushv (v := 112) dX7_readsOrder_105 rfl ?_
  refine g_icmp_eq (tgt := 116) dX7_readsOrder_107 (by decide) (fun c107 => absurd c107 (by decide)) (fun c107 => ?_)
  refine g_iload_n dX7_readsOrder_110 rfl ?_
  refine g_bipushv (v := 101) dX7_readsOrder_111 rfl ?_
  refine g_icmp_ne (tgt := 123) dX7_readsOrder_113 (by decide) (fun c113 => ?_) (fun c113 => absurd c113 (by decide))
  refine g_aload_n dX7_readsOrder_123 rfl ?_
  refine g_V0i dX7_readsOrder_124 ml_X7_167 sX7_number rfl (by decide) (Nat.le_of_ble_eq_true rfl) (c_nu_0 (F := (pe (pe (pe F 172 9 1) 172 8 (nI (i + 1))) 178 (3 * m) 99)) (d) l (i + 1) (by simp [pe_at, el]) hl (by simp [pe_at]) (by omega) y es_y (by simp [pe_at]) hy hx) ?_
  refine g_iastN (gx := (3 * m + 1)) dX7_readsOrder_127 rfl (by decide) (nI_1 (3 * m)) (by omega) (by decide) ?_
  refine g_iload_n dX7_readsOrder_128 rfl ?_
  refine g_bipushv (v := 103) dX7_readsOrder_129 rfl ?_
  refine g_icmp_ne (tgt := 192) dX7_readsOrder_131 (by decide) (fun c131 => ?_) (fun c131 => absurd c131 (by decide))
  refine g_aload_n dX7_readsOrder_192 rfl ?_
  refine g_dup dX7_readsOrder_193 rfl ?_
  refine g_gI dX7_readsOrder_194 fl_X7_164 (fun _ _ => rfl) rfl (by decide) ?_
  refine g_aload_n dX7_readsOrder_197 rfl ?_
  refine g_gI dX7_readsOrder_198 fl_X7_154 (fun _ _ => rfl) rfl (by decide) ?_
  refine g_if_eq (tgt := 208) dX7_readsOrder_201 (by decide) (fun c201 => absurd c201 (by simp [pe_at])) (fun c201 => ?_)
  refine g_iconstv (v := 1) dX7_readsOrder_204 rfl ?_
  refine g_goto (tgt := 209) dX7_readsOrder_205 (by decide) ?_
  refine g_iadd dX7_readsOrder_209 ?_
  rw [show (pe (pe (pe (pe (pe F 172 9 1) 172 8 (nI (i + 1))) 178 (3 * m) 99) 172 8 (nI (i + 1 + 1))) 178 (3 * m + 1) (y - 48)) 172 11 = nI m by simp [pe_at, el, ea, em], nI_1]
  refine g_pI dX7_readsOrder_210 fl_X7_164 (Or.inl rfl) rfl (by decide) rfl ?_
  exact g_vret dX7_readsOrder_213 rfl
def yro_c2 (F : Nat → Nat → Int32) (i m : Nat) (x y z : Int32) : Nat → Nat → Int32 := (pe (pe (pe (pe (pe (pe F 172 9 1) 172 8 (nI (i + 1))) 178 (3 * m) 99) 172 8 (nI (i + 1 + 1))) 178 (3 * m + 1) (y - 48)) 172 11 (nI (m + 1)))
set_option maxHeartbeats 4000000 in
set_option maxRecDepth 100000 in
theorem c_ro_c2 {L : Nat} {F : Nat → Nat → Int32} {g : Nat → Option Nat} (d : Nat) (l i m : Nat) (el : F 172 7 = nI l) (hl : l ≤ 80) (ea : F 172 8 = nI i) (hi : i ≤ 80) (em : F 172 11 = nI m) (hm : m ≤ 40) (x y z : Int32) (es : mSg (F 177) l i = 99)  (es_y : mSg (F 177) l (i + 1) = y) (hy : 48 ≤ y ∧ y ≤ 57) (hx : ¬ y = 48) (es_z : mSg (F 177) l (i + 2) = z) (hz : ¬ (48 ≤ z ∧ z ≤ 57)) : mCall (d + 3) yX7_readsOrder MX7_readsOrder [.ref 172] (mHX L F g) (none) (mHX L (yro_c2 F i m x y z) g) := by
  refine mCall_of sX7_readsOrder.1 (Nat.le_of_ble_eq_true rfl) rfl ?_
  show mGo _ _ (0, [some (.ref 172), none, none], [], _) _
  refine g_iconstv (v := 3) dX7_readsOrder_0 rfl ?_
  refine g_aload_n dX7_readsOrder_1 rfl ?_
  refine g_gI dX7_readsOrder_2 fl_X7_164 (fun _ _ => rfl) rfl (by decide) ?_
  refine g_imul dX7_readsOrder_5 ?_
  rw [em, show (3 : Int32) = nI 3 from rfl, pk_mul]
  refine g_istore_n dX7_readsOrder_6 (by decide) rfl ?_
  refine g_aload_n dX7_readsOrder_7 rfl ?_
  refine g_V0i dX7_readsOrder_8 ml_X7_158 sX7_sign rfl (by decide) (Nat.le_of_ble_eq_true rfl) (c_sign (d + 2) l i el hl ea (by omega) 99 es) ?_
  refine g_istore_n dX7_readsOrder_11 (by decide) rfl ?_
  refine g_aload_n dX7_readsOrder_12 rfl ?_
  refine g_iload_n dX7_readsOrder_13 rfl ?_
  refine g_bipushv (v := 103) dX7_readsOrder_14 rfl ?_
  refine g_icmp_eq (tgt := 55) dX7_readsOrder_16 (by decide) (fun c16 => absurd c16 (by decide)) (fun c16 => ?_)
  refine g_iload_n dX7_readsOrder_19 rfl ?_
  refine g_bipushv (v := 120) dX7_readsOrder_20 rfl ?_
  refine g_icmp_eq (tgt := 55) dX7_readsOrder_22 (by decide) (fun c22 => absurd c22 (by decide)) (fun c22 => ?_)
  refine g_iload_n dX7_readsOrder_25 rfl ?_
  refine g_bipushv (v := 112) dX7_readsOrder_26 rfl ?_
  refine g_icmp_eq (tgt := 55) dX7_readsOrder_28 (by decide) (fun c28 => absurd c28 (by decide)) (fun c28 => ?_)
  refine g_iload_n dX7_readsOrder_31 rfl ?_
  refine g_bipushv (v := 101) dX7_readsOrder_32 rfl ?_
  refine g_icmp_eq (tgt := 55) dX7_readsOrder_34 (by decide) (fun c34 => absurd c34 (by decide)) (fun c34 => ?_)
  refine g_iload_n dX7_readsOrder_37 rfl ?_
  refine g_bipushv (v := 119) dX7_readsOrder_38 rfl ?_
  refine g_icmp_eq (tgt := 55) dX7_readsOrder_40 (by decide) (fun c40 => absurd c40 (by decide)) (fun c40 => ?_)
  refine g_iload_n dX7_readsOrder_43 rfl ?_
  refine g_bipushv (v := 99) dX7_readsOrder_44 rfl ?_
  refine g_icmp_eq (tgt := 55) dX7_readsOrder_46 (by decide) (fun c46 => ?_) (fun c46 => absurd (by decide) c46)
  refine g_iconstv (v := 1) dX7_readsOrder_55 rfl ?_
  refine g_goto (tgt := 60) dX7_readsOrder_56 (by decide) ?_
  refine g_pZ dX7_readsOrder_60 fl_X7_154 (Or.inl rfl) rfl (by decide) rfl (by first | exact Or.inl rfl | exact Or.inr rfl) ?_
  refine g_aload_n dX7_readsOrder_63 rfl ?_
  refine g_dup dX7_readsOrder_64 rfl ?_
  refine g_gI dX7_readsOrder_65 fl_X7_151 (fun _ _ => rfl) rfl (by decide) ?_
  refine g_aload_n dX7_readsOrder_68 rfl ?_
  refine g_gI dX7_readsOrder_69 fl_X7_154 (fun _ _ => rfl) rfl (by decide) ?_
  refine g_if_eq (tgt := 79) dX7_readsOrder_72 (by decide) (fun c72 => absurd c72 (by simp [pe_at])) (fun c72 => ?_)
  refine g_iconstv (v := 1) dX7_readsOrder_75 rfl ?_
  refine g_goto (tgt := 80) dX7_readsOrder_76 (by decide) ?_
  refine g_iadd dX7_readsOrder_80 ?_
  rw [show (pe F 172 9 1) 172 8 = nI i by simp [pe_at, el, ea, em], nI_1]
  refine g_pI dX7_readsOrder_81 fl_X7_151 (Or.inl rfl) rfl (by decide) rfl ?_
  refine g_aload_n dX7_readsOrder_84 rfl ?_
  refine g_gR (r := 178) dX7_readsOrder_85 fl_X7_26 (fun _ _ => rfl) rfl (by decide) rfl ?_
  refine g_iload_n dX7_readsOrder_88 rfl ?_
  refine g_iload_n dX7_readsOrder_89 rfl ?_
  refine g_iastN (gx := (3 * m)) dX7_readsOrder_90 rfl (by decide) rfl (by omega) (by decide) ?_
  refine g_aload_n dX7_readsOrder_91 rfl ?_
  refine g_gR (r := 178) dX7_readsOrder_92 fl_X7_26 (fun _ _ => rfl) rfl (by decide) rfl ?_
  refine g_iload_n dX7_readsOrder_95 rfl ?_
  refine g_iconstv (v := 1) dX7_readsOrder_96 rfl ?_
  refine g_iadd dX7_readsOrder_97 ?_
  refine g_iload_n dX7_readsOrder_98 rfl ?_
  refine g_bipushv (v := 103) dX7_readsOrder_99 rfl ?_
  refine g_icmp_eq (tgt := 116) dX7_readsOrder_101 (by decide) (fun c101 => absurd c101 (by decide)) (fun c101 => ?_)
  refine g_iload_n dX7_readsOrder_104 rfl ?_
  refine g_bipushv (v := 112) dX7_readsOrder_105 rfl ?_
  refine g_icmp_eq (tgt := 116) dX7_readsOrder_107 (by decide) (fun c107 => absurd c107 (by decide)) (fun c107 => ?_)
  refine g_iload_n dX7_readsOrder_110 rfl ?_
  refine g_bipushv (v := 101) dX7_readsOrder_111 rfl ?_
  refine g_icmp_ne (tgt := 123) dX7_readsOrder_113 (by decide) (fun c113 => ?_) (fun c113 => absurd c113 (by decide))
  refine g_aload_n dX7_readsOrder_123 rfl ?_
  refine g_V0i dX7_readsOrder_124 ml_X7_167 sX7_number rfl (by decide) (Nat.le_of_ble_eq_true rfl) (c_nu_1 (F := (pe (pe (pe F 172 9 1) 172 8 (nI (i + 1))) 178 (3 * m) 99)) (d) l (i + 1) (by simp [pe_at, el]) hl (by simp [pe_at]) (by omega) y es_y (by simp [pe_at]) hy hx z es_z hz) ?_
  refine g_iastN (gx := (3 * m + 1)) dX7_readsOrder_127 rfl (by decide) (nI_1 (3 * m)) (by omega) (by decide) ?_
  refine g_iload_n dX7_readsOrder_128 rfl ?_
  refine g_bipushv (v := 103) dX7_readsOrder_129 rfl ?_
  refine g_icmp_ne (tgt := 192) dX7_readsOrder_131 (by decide) (fun c131 => ?_) (fun c131 => absurd c131 (by decide))
  refine g_aload_n dX7_readsOrder_192 rfl ?_
  refine g_dup dX7_readsOrder_193 rfl ?_
  refine g_gI dX7_readsOrder_194 fl_X7_164 (fun _ _ => rfl) rfl (by decide) ?_
  refine g_aload_n dX7_readsOrder_197 rfl ?_
  refine g_gI dX7_readsOrder_198 fl_X7_154 (fun _ _ => rfl) rfl (by decide) ?_
  refine g_if_eq (tgt := 208) dX7_readsOrder_201 (by decide) (fun c201 => absurd c201 (by simp [pe_at])) (fun c201 => ?_)
  refine g_iconstv (v := 1) dX7_readsOrder_204 rfl ?_
  refine g_goto (tgt := 209) dX7_readsOrder_205 (by decide) ?_
  refine g_iadd dX7_readsOrder_209 ?_
  rw [show (pe (pe (pe (pe (pe F 172 9 1) 172 8 (nI (i + 1))) 178 (3 * m) 99) 172 8 (nI (i + 1 + 1))) 178 (3 * m + 1) (y - 48)) 172 11 = nI m by simp [pe_at, el, ea, em], nI_1]
  refine g_pI dX7_readsOrder_210 fl_X7_164 (Or.inl rfl) rfl (by decide) rfl ?_
  exact g_vret dX7_readsOrder_213 rfl
def yro_c3 (F : Nat → Nat → Int32) (i m : Nat) (x y z : Int32) : Nat → Nat → Int32 := (pe (pe (pe (pe (pe (pe F 172 9 1) 172 8 (nI (i + 1))) 178 (3 * m) 99) 172 8 (nI (i + 1 + 2))) 178 (3 * m + 1) (10 * (y - 48) + z - 48)) 172 11 (nI (m + 1)))
set_option maxHeartbeats 4000000 in
set_option maxRecDepth 100000 in
theorem c_ro_c3 {L : Nat} {F : Nat → Nat → Int32} {g : Nat → Option Nat} (d : Nat) (l i m : Nat) (el : F 172 7 = nI l) (hl : l ≤ 80) (ea : F 172 8 = nI i) (hi : i ≤ 80) (em : F 172 11 = nI m) (hm : m ≤ 40) (x y z : Int32) (es : mSg (F 177) l i = 99)  (es_y : mSg (F 177) l (i + 1) = y) (hy : 48 ≤ y ∧ y ≤ 57) (hx : ¬ y = 48) (es_z : mSg (F 177) l (i + 2) = z) (hz : 48 ≤ z ∧ z ≤ 57) : mCall (d + 3) yX7_readsOrder MX7_readsOrder [.ref 172] (mHX L F g) (none) (mHX L (yro_c3 F i m x y z) g) := by
  refine mCall_of sX7_readsOrder.1 (Nat.le_of_ble_eq_true rfl) rfl ?_
  show mGo _ _ (0, [some (.ref 172), none, none], [], _) _
  refine g_iconstv (v := 3) dX7_readsOrder_0 rfl ?_
  refine g_aload_n dX7_readsOrder_1 rfl ?_
  refine g_gI dX7_readsOrder_2 fl_X7_164 (fun _ _ => rfl) rfl (by decide) ?_
  refine g_imul dX7_readsOrder_5 ?_
  rw [em, show (3 : Int32) = nI 3 from rfl, pk_mul]
  refine g_istore_n dX7_readsOrder_6 (by decide) rfl ?_
  refine g_aload_n dX7_readsOrder_7 rfl ?_
  refine g_V0i dX7_readsOrder_8 ml_X7_158 sX7_sign rfl (by decide) (Nat.le_of_ble_eq_true rfl) (c_sign (d + 2) l i el hl ea (by omega) 99 es) ?_
  refine g_istore_n dX7_readsOrder_11 (by decide) rfl ?_
  refine g_aload_n dX7_readsOrder_12 rfl ?_
  refine g_iload_n dX7_readsOrder_13 rfl ?_
  refine g_bipushv (v := 103) dX7_readsOrder_14 rfl ?_
  refine g_icmp_eq (tgt := 55) dX7_readsOrder_16 (by decide) (fun c16 => absurd c16 (by decide)) (fun c16 => ?_)
  refine g_iload_n dX7_readsOrder_19 rfl ?_
  refine g_bipushv (v := 120) dX7_readsOrder_20 rfl ?_
  refine g_icmp_eq (tgt := 55) dX7_readsOrder_22 (by decide) (fun c22 => absurd c22 (by decide)) (fun c22 => ?_)
  refine g_iload_n dX7_readsOrder_25 rfl ?_
  refine g_bipushv (v := 112) dX7_readsOrder_26 rfl ?_
  refine g_icmp_eq (tgt := 55) dX7_readsOrder_28 (by decide) (fun c28 => absurd c28 (by decide)) (fun c28 => ?_)
  refine g_iload_n dX7_readsOrder_31 rfl ?_
  refine g_bipushv (v := 101) dX7_readsOrder_32 rfl ?_
  refine g_icmp_eq (tgt := 55) dX7_readsOrder_34 (by decide) (fun c34 => absurd c34 (by decide)) (fun c34 => ?_)
  refine g_iload_n dX7_readsOrder_37 rfl ?_
  refine g_bipushv (v := 119) dX7_readsOrder_38 rfl ?_
  refine g_icmp_eq (tgt := 55) dX7_readsOrder_40 (by decide) (fun c40 => absurd c40 (by decide)) (fun c40 => ?_)
  refine g_iload_n dX7_readsOrder_43 rfl ?_
  refine g_bipushv (v := 99) dX7_readsOrder_44 rfl ?_
  refine g_icmp_eq (tgt := 55) dX7_readsOrder_46 (by decide) (fun c46 => ?_) (fun c46 => absurd (by decide) c46)
  refine g_iconstv (v := 1) dX7_readsOrder_55 rfl ?_
  refine g_goto (tgt := 60) dX7_readsOrder_56 (by decide) ?_
  refine g_pZ dX7_readsOrder_60 fl_X7_154 (Or.inl rfl) rfl (by decide) rfl (by first | exact Or.inl rfl | exact Or.inr rfl) ?_
  refine g_aload_n dX7_readsOrder_63 rfl ?_
  refine g_dup dX7_readsOrder_64 rfl ?_
  refine g_gI dX7_readsOrder_65 fl_X7_151 (fun _ _ => rfl) rfl (by decide) ?_
  refine g_aload_n dX7_readsOrder_68 rfl ?_
  refine g_gI dX7_readsOrder_69 fl_X7_154 (fun _ _ => rfl) rfl (by decide) ?_
  refine g_if_eq (tgt := 79) dX7_readsOrder_72 (by decide) (fun c72 => absurd c72 (by simp [pe_at])) (fun c72 => ?_)
  refine g_iconstv (v := 1) dX7_readsOrder_75 rfl ?_
  refine g_goto (tgt := 80) dX7_readsOrder_76 (by decide) ?_
  refine g_iadd dX7_readsOrder_80 ?_
  rw [show (pe F 172 9 1) 172 8 = nI i by simp [pe_at, el, ea, em], nI_1]
  refine g_pI dX7_readsOrder_81 fl_X7_151 (Or.inl rfl) rfl (by decide) rfl ?_
  refine g_aload_n dX7_readsOrder_84 rfl ?_
  refine g_gR (r := 178) dX7_readsOrder_85 fl_X7_26 (fun _ _ => rfl) rfl (by decide) rfl ?_
  refine g_iload_n dX7_readsOrder_88 rfl ?_
  refine g_iload_n dX7_readsOrder_89 rfl ?_
  refine g_iastN (gx := (3 * m)) dX7_readsOrder_90 rfl (by decide) rfl (by omega) (by decide) ?_
  refine g_aload_n dX7_readsOrder_91 rfl ?_
  refine g_gR (r := 178) dX7_readsOrder_92 fl_X7_26 (fun _ _ => rfl) rfl (by decide) rfl ?_
  refine g_iload_n dX7_readsOrder_95 rfl ?_
  refine g_iconstv (v := 1) dX7_readsOrder_96 rfl ?_
  refine g_iadd dX7_readsOrder_97 ?_
  refine g_iload_n dX7_readsOrder_98 rfl ?_
  refine g_bipushv (v := 103) dX7_readsOrder_99 rfl ?_
  refine g_icmp_eq (tgt := 116) dX7_readsOrder_101 (by decide) (fun c101 => absurd c101 (by decide)) (fun c101 => ?_)
  refine g_iload_n dX7_readsOrder_104 rfl ?_
  refine g_bipushv (v := 112) dX7_readsOrder_105 rfl ?_
  refine g_icmp_eq (tgt := 116) dX7_readsOrder_107 (by decide) (fun c107 => absurd c107 (by decide)) (fun c107 => ?_)
  refine g_iload_n dX7_readsOrder_110 rfl ?_
  refine g_bipushv (v := 101) dX7_readsOrder_111 rfl ?_
  refine g_icmp_ne (tgt := 123) dX7_readsOrder_113 (by decide) (fun c113 => ?_) (fun c113 => absurd c113 (by decide))
  refine g_aload_n dX7_readsOrder_123 rfl ?_
  refine g_V0i dX7_readsOrder_124 ml_X7_167 sX7_number rfl (by decide) (Nat.le_of_ble_eq_true rfl) (c_nu_2 (F := (pe (pe (pe F 172 9 1) 172 8 (nI (i + 1))) 178 (3 * m) 99)) (d) l (i + 1) (by simp [pe_at, el]) hl (by simp [pe_at]) (by omega) y es_y (by simp [pe_at]) hy hx z es_z hz) ?_
  refine g_iastN (gx := (3 * m + 1)) dX7_readsOrder_127 rfl (by decide) (nI_1 (3 * m)) (by omega) (by decide) ?_
  refine g_iload_n dX7_readsOrder_128 rfl ?_
  refine g_bipushv (v := 103) dX7_readsOrder_129 rfl ?_
  refine g_icmp_ne (tgt := 192) dX7_readsOrder_131 (by decide) (fun c131 => ?_) (fun c131 => absurd c131 (by decide))
  refine g_aload_n dX7_readsOrder_192 rfl ?_
  refine g_dup dX7_readsOrder_193 rfl ?_
  refine g_gI dX7_readsOrder_194 fl_X7_164 (fun _ _ => rfl) rfl (by decide) ?_
  refine g_aload_n dX7_readsOrder_197 rfl ?_
  refine g_gI dX7_readsOrder_198 fl_X7_154 (fun _ _ => rfl) rfl (by decide) ?_
  refine g_if_eq (tgt := 208) dX7_readsOrder_201 (by decide) (fun c201 => absurd c201 (by simp [pe_at])) (fun c201 => ?_)
  refine g_iconstv (v := 1) dX7_readsOrder_204 rfl ?_
  refine g_goto (tgt := 209) dX7_readsOrder_205 (by decide) ?_
  refine g_iadd dX7_readsOrder_209 ?_
  rw [show (pe (pe (pe (pe (pe F 172 9 1) 172 8 (nI (i + 1))) 178 (3 * m) 99) 172 8 (nI (i + 1 + 2))) 178 (3 * m + 1) (10 * (y - 48) + z - 48)) 172 11 = nI m by simp [pe_at, el, ea, em], nI_1]
  refine g_pI dX7_readsOrder_210 fl_X7_164 (Or.inl rfl) rfl (by decide) rfl ?_
  exact g_vret dX7_readsOrder_213 rfl
def yro_t0 (F : Nat → Nat → Int32) (i m : Nat) (x y z : Int32) : Nat → Nat → Int32 := (pe (pe (pe (pe (pe (pe F 172 9 1) 172 8 (nI (i + 1))) 178 (3 * m) 116) 172 9 0) 178 (3 * m + 1) (y - 48)) 172 11 (nI m))
set_option maxHeartbeats 4000000 in
set_option maxRecDepth 100000 in
theorem c_ro_t0 {L : Nat} {F : Nat → Nat → Int32} {g : Nat → Option Nat} (d : Nat) (l i m : Nat) (el : F 172 7 = nI l) (hl : l ≤ 80) (ea : F 172 8 = nI i) (hi : i ≤ 80) (em : F 172 11 = nI m) (hm : m ≤ 40) (x y z : Int32) (es : mSg (F 177) l i = 116)  (es_y : mSg (F 177) l (i + 1) = y) (hy : ¬ (48 ≤ y ∧ y ≤ 57)) : mCall (d + 3) yX7_readsOrder MX7_readsOrder [.ref 172] (mHX L F g) (none) (mHX L (yro_t0 F i m x y z) g) := by
  refine mCall_of sX7_readsOrder.1 (Nat.le_of_ble_eq_true rfl) rfl ?_
  show mGo _ _ (0, [some (.ref 172), none, none], [], _) _
  refine g_iconstv (v := 3) dX7_readsOrder_0 rfl ?_
  refine g_aload_n dX7_readsOrder_1 rfl ?_
  refine g_gI dX7_readsOrder_2 fl_X7_164 (fun _ _ => rfl) rfl (by decide) ?_
  refine g_imul dX7_readsOrder_5 ?_
  rw [em, show (3 : Int32) = nI 3 from rfl, pk_mul]
  refine g_istore_n dX7_readsOrder_6 (by decide) rfl ?_
  refine g_aload_n dX7_readsOrder_7 rfl ?_
  refine g_V0i dX7_readsOrder_8 ml_X7_158 sX7_sign rfl (by decide) (Nat.le_of_ble_eq_true rfl) (c_sign (d + 2) l i el hl ea (by omega) 116 es) ?_
  refine g_istore_n dX7_readsOrder_11 (by decide) rfl ?_
  refine g_aload_n dX7_readsOrder_12 rfl ?_
  refine g_iload_n dX7_readsOrder_13 rfl ?_
  refine g_bipushv (v := 103) dX7_readsOrder_14 rfl ?_
  refine g_icmp_eq (tgt := 55) dX7_readsOrder_16 (by decide) (fun c16 => absurd c16 (by decide)) (fun c16 => ?_)
  refine g_iload_n dX7_readsOrder_19 rfl ?_
  refine g_bipushv (v := 120) dX7_readsOrder_20 rfl ?_
  refine g_icmp_eq (tgt := 55) dX7_readsOrder_22 (by decide) (fun c22 => absurd c22 (by decide)) (fun c22 => ?_)
  refine g_iload_n dX7_readsOrder_25 rfl ?_
  refine g_bipushv (v := 112) dX7_readsOrder_26 rfl ?_
  refine g_icmp_eq (tgt := 55) dX7_readsOrder_28 (by decide) (fun c28 => absurd c28 (by decide)) (fun c28 => ?_)
  refine g_iload_n dX7_readsOrder_31 rfl ?_
  refine g_bipushv (v := 101) dX7_readsOrder_32 rfl ?_
  refine g_icmp_eq (tgt := 55) dX7_readsOrder_34 (by decide) (fun c34 => absurd c34 (by decide)) (fun c34 => ?_)
  refine g_iload_n dX7_readsOrder_37 rfl ?_
  refine g_bipushv (v := 119) dX7_readsOrder_38 rfl ?_
  refine g_icmp_eq (tgt := 55) dX7_readsOrder_40 (by decide) (fun c40 => absurd c40 (by decide)) (fun c40 => ?_)
  refine g_iload_n dX7_readsOrder_43 rfl ?_
  refine g_bipushv (v := 99) dX7_readsOrder_44 rfl ?_
  refine g_icmp_eq (tgt := 55) dX7_readsOrder_46 (by decide) (fun c46 => absurd c46 (by decide)) (fun c46 => ?_)
  refine g_iload_n dX7_readsOrder_49 rfl ?_
  refine g_bipushv (v := 116) dX7_readsOrder_50 rfl ?_
  refine g_icmp_ne (tgt := 59) dX7_readsOrder_52 (by decide) (fun c52 => absurd (by decide) c52) (fun c52 => ?_)
  refine g_iconstv (v := 1) dX7_readsOrder_55 rfl ?_
  refine g_goto (tgt := 60) dX7_readsOrder_56 (by decide) ?_
  refine g_pZ dX7_readsOrder_60 fl_X7_154 (Or.inl rfl) rfl (by decide) rfl (by first | exact Or.inl rfl | exact Or.inr rfl) ?_
  refine g_aload_n dX7_readsOrder_63 rfl ?_
  refine g_dup dX7_readsOrder_64 rfl ?_
  refine g_gI dX7_readsOrder_65 fl_X7_151 (fun _ _ => rfl) rfl (by decide) ?_
  refine g_aload_n dX7_readsOrder_68 rfl ?_
  refine g_gI dX7_readsOrder_69 fl_X7_154 (fun _ _ => rfl) rfl (by decide) ?_
  refine g_if_eq (tgt := 79) dX7_readsOrder_72 (by decide) (fun c72 => absurd c72 (by simp [pe_at])) (fun c72 => ?_)
  refine g_iconstv (v := 1) dX7_readsOrder_75 rfl ?_
  refine g_goto (tgt := 80) dX7_readsOrder_76 (by decide) ?_
  refine g_iadd dX7_readsOrder_80 ?_
  rw [show (pe F 172 9 1) 172 8 = nI i by simp [pe_at, el, ea, em], nI_1]
  refine g_pI dX7_readsOrder_81 fl_X7_151 (Or.inl rfl) rfl (by decide) rfl ?_
  refine g_aload_n dX7_readsOrder_84 rfl ?_
  refine g_gR (r := 178) dX7_readsOrder_85 fl_X7_26 (fun _ _ => rfl) rfl (by decide) rfl ?_
  refine g_iload_n dX7_readsOrder_88 rfl ?_
  refine g_iload_n dX7_readsOrder_89 rfl ?_
  refine g_iastN (gx := (3 * m)) dX7_readsOrder_90 rfl (by decide) rfl (by omega) (by decide) ?_
  refine g_aload_n dX7_readsOrder_91 rfl ?_
  refine g_gR (r := 178) dX7_readsOrder_92 fl_X7_26 (fun _ _ => rfl) rfl (by decide) rfl ?_
  refine g_iload_n dX7_readsOrder_95 rfl ?_
  refine g_iconstv (v := 1) dX7_readsOrder_96 rfl ?_
  refine g_iadd dX7_readsOrder_97 ?_
  refine g_iload_n dX7_readsOrder_98 rfl ?_
  refine g_bipushv (v := 103) dX7_readsOrder_99 rfl ?_
  refine g_icmp_eq (tgt := 116) dX7_readsOrder_101 (by decide) (fun c101 => absurd c101 (by decide)) (fun c101 => ?_)
  refine g_iload_n dX7_readsOrder_104 rfl ?_
  refine g_bipushv (v := 112) dX7_readsOrder_105 rfl ?_
  refine g_icmp_eq (tgt := 116) dX7_readsOrder_107 (by decide) (fun c107 => absurd c107 (by decide)) (fun c107 => ?_)
  refine g_iload_n dX7_readsOrder_110 rfl ?_
  refine g_bipushv (v := 101) dX7_readsOrder_111 rfl ?_
  refine g_icmp_ne (tgt := 123) dX7_readsOrder_113 (by decide) (fun c113 => ?_) (fun c113 => absurd c113 (by decide))
  refine g_aload_n dX7_readsOrder_123 rfl ?_
  refine g_V0i dX7_readsOrder_124 ml_X7_167 sX7_number rfl (by decide) (Nat.le_of_ble_eq_true rfl) (c_nu_no (F := (pe (pe (pe F 172 9 1) 172 8 (nI (i + 1))) 178 (3 * m) 116)) (d) l (i + 1) (by simp [pe_at, el]) hl (by simp [pe_at]) (by omega) y es_y (by simp [pe_at]) hy) ?_
  refine g_iastN (gx := (3 * m + 1)) dX7_readsOrder_127 rfl (by decide) (nI_1 (3 * m)) (by omega) (by decide) ?_
  refine g_iload_n dX7_readsOrder_128 rfl ?_
  refine g_bipushv (v := 103) dX7_readsOrder_129 rfl ?_
  refine g_icmp_ne (tgt := 192) dX7_readsOrder_131 (by decide) (fun c131 => ?_) (fun c131 => absurd c131 (by decide))
  refine g_aload_n dX7_readsOrder_192 rfl ?_
  refine g_dup dX7_readsOrder_193 rfl ?_
  refine g_gI dX7_readsOrder_194 fl_X7_164 (fun _ _ => rfl) rfl (by decide) ?_
  refine g_aload_n dX7_readsOrder_197 rfl ?_
  refine g_gI dX7_readsOrder_198 fl_X7_154 (fun _ _ => rfl) rfl (by decide) ?_
  refine g_if_eq (tgt := 208) dX7_readsOrder_201 (by decide) (fun c201 => ?_) (fun c201 => absurd (by simp [pe_at]) c201)
  refine g_iconstv (v := 0) dX7_readsOrder_208 rfl ?_
  refine g_iadd dX7_readsOrder_209 ?_
  rw [show (pe (pe (pe (pe (pe F 172 9 1) 172 8 (nI (i + 1))) 178 (3 * m) 116) 172 9 0) 178 (3 * m + 1) (y - 48)) 172 11 = nI m by simp [pe_at, el, ea, em], Int32.add_zero]
  refine g_pI dX7_readsOrder_210 fl_X7_164 (Or.inl rfl) rfl (by decide) rfl ?_
  exact g_vret dX7_readsOrder_213 rfl
def yro_t1 (F : Nat → Nat → Int32) (i m : Nat) (x y z : Int32) : Nat → Nat → Int32 := (pe (pe (pe (pe (pe (pe F 172 9 1) 172 8 (nI (i + 1))) 178 (3 * m) 116) 172 8 (nI (i + 1 + 1))) 178 (3 * m + 1) (y - 48)) 172 11 (nI (m + 1)))
set_option maxHeartbeats 4000000 in
set_option maxRecDepth 100000 in
theorem c_ro_t1 {L : Nat} {F : Nat → Nat → Int32} {g : Nat → Option Nat} (d : Nat) (l i m : Nat) (el : F 172 7 = nI l) (hl : l ≤ 80) (ea : F 172 8 = nI i) (hi : i ≤ 80) (em : F 172 11 = nI m) (hm : m ≤ 40) (x y z : Int32) (es : mSg (F 177) l i = 116)  (es_y : mSg (F 177) l (i + 1) = y) (hy : 48 ≤ y ∧ y ≤ 57) (hx : y = 48) : mCall (d + 3) yX7_readsOrder MX7_readsOrder [.ref 172] (mHX L F g) (none) (mHX L (yro_t1 F i m x y z) g) := by
  refine mCall_of sX7_readsOrder.1 (Nat.le_of_ble_eq_true rfl) rfl ?_
  show mGo _ _ (0, [some (.ref 172), none, none], [], _) _
  refine g_iconstv (v := 3) dX7_readsOrder_0 rfl ?_
  refine g_aload_n dX7_readsOrder_1 rfl ?_
  refine g_gI dX7_readsOrder_2 fl_X7_164 (fun _ _ => rfl) rfl (by decide) ?_
  refine g_imul dX7_readsOrder_5 ?_
  rw [em, show (3 : Int32) = nI 3 from rfl, pk_mul]
  refine g_istore_n dX7_readsOrder_6 (by decide) rfl ?_
  refine g_aload_n dX7_readsOrder_7 rfl ?_
  refine g_V0i dX7_readsOrder_8 ml_X7_158 sX7_sign rfl (by decide) (Nat.le_of_ble_eq_true rfl) (c_sign (d + 2) l i el hl ea (by omega) 116 es) ?_
  refine g_istore_n dX7_readsOrder_11 (by decide) rfl ?_
  refine g_aload_n dX7_readsOrder_12 rfl ?_
  refine g_iload_n dX7_readsOrder_13 rfl ?_
  refine g_bipushv (v := 103) dX7_readsOrder_14 rfl ?_
  refine g_icmp_eq (tgt := 55) dX7_readsOrder_16 (by decide) (fun c16 => absurd c16 (by decide)) (fun c16 => ?_)
  refine g_iload_n dX7_readsOrder_19 rfl ?_
  refine g_bipushv (v := 120) dX7_readsOrder_20 rfl ?_
  refine g_icmp_eq (tgt := 55) dX7_readsOrder_22 (by decide) (fun c22 => absurd c22 (by decide)) (fun c22 => ?_)
  refine g_iload_n dX7_readsOrder_25 rfl ?_
  refine g_bipushv (v := 112) dX7_readsOrder_26 rfl ?_
  refine g_icmp_eq (tgt := 55) dX7_readsOrder_28 (by decide) (fun c28 => absurd c28 (by decide)) (fun c28 => ?_)
  refine g_iload_n dX7_readsOrder_31 rfl ?_
  refine g_bipushv (v := 101) dX7_readsOrder_32 rfl ?_
  refine g_icmp_eq (tgt := 55) dX7_readsOrder_34 (by decide) (fun c34 => absurd c34 (by decide)) (fun c34 => ?_)
  refine g_iload_n dX7_readsOrder_37 rfl ?_
  refine g_bipushv (v := 119) dX7_readsOrder_38 rfl ?_
  refine g_icmp_eq (tgt := 55) dX7_readsOrder_40 (by decide) (fun c40 => absurd c40 (by decide)) (fun c40 => ?_)
  refine g_iload_n dX7_readsOrder_43 rfl ?_
  refine g_bipushv (v := 99) dX7_readsOrder_44 rfl ?_
  refine g_icmp_eq (tgt := 55) dX7_readsOrder_46 (by decide) (fun c46 => absurd c46 (by decide)) (fun c46 => ?_)
  refine g_iload_n dX7_readsOrder_49 rfl ?_
  refine g_bipushv (v := 116) dX7_readsOrder_50 rfl ?_
  refine g_icmp_ne (tgt := 59) dX7_readsOrder_52 (by decide) (fun c52 => absurd (by decide) c52) (fun c52 => ?_)
  refine g_iconstv (v := 1) dX7_readsOrder_55 rfl ?_
  refine g_goto (tgt := 60) dX7_readsOrder_56 (by decide) ?_
  refine g_pZ dX7_readsOrder_60 fl_X7_154 (Or.inl rfl) rfl (by decide) rfl (by first | exact Or.inl rfl | exact Or.inr rfl) ?_
  refine g_aload_n dX7_readsOrder_63 rfl ?_
  refine g_dup dX7_readsOrder_64 rfl ?_
  refine g_gI dX7_readsOrder_65 fl_X7_151 (fun _ _ => rfl) rfl (by decide) ?_
  refine g_aload_n dX7_readsOrder_68 rfl ?_
  refine g_gI dX7_readsOrder_69 fl_X7_154 (fun _ _ => rfl) rfl (by decide) ?_
  refine g_if_eq (tgt := 79) dX7_readsOrder_72 (by decide) (fun c72 => absurd c72 (by simp [pe_at])) (fun c72 => ?_)
  refine g_iconstv (v := 1) dX7_readsOrder_75 rfl ?_
  refine g_goto (tgt := 80) dX7_readsOrder_76 (by decide) ?_
  refine g_iadd dX7_readsOrder_80 ?_
  rw [show (pe F 172 9 1) 172 8 = nI i by simp [pe_at, el, ea, em], nI_1]
  refine g_pI dX7_readsOrder_81 fl_X7_151 (Or.inl rfl) rfl (by decide) rfl ?_
  refine g_aload_n dX7_readsOrder_84 rfl ?_
  refine g_gR (r := 178) dX7_readsOrder_85 fl_X7_26 (fun _ _ => rfl) rfl (by decide) rfl ?_
  refine g_iload_n dX7_readsOrder_88 rfl ?_
  refine g_iload_n dX7_readsOrder_89 rfl ?_
  refine g_iastN (gx := (3 * m)) dX7_readsOrder_90 rfl (by decide) rfl (by omega) (by decide) ?_
  refine g_aload_n dX7_readsOrder_91 rfl ?_
  refine g_gR (r := 178) dX7_readsOrder_92 fl_X7_26 (fun _ _ => rfl) rfl (by decide) rfl ?_
  refine g_iload_n dX7_readsOrder_95 rfl ?_
  refine g_iconstv (v := 1) dX7_readsOrder_96 rfl ?_
  refine g_iadd dX7_readsOrder_97 ?_
  refine g_iload_n dX7_readsOrder_98 rfl ?_
  refine g_bipushv (v := 103) dX7_readsOrder_99 rfl ?_
  refine g_icmp_eq (tgt := 116) dX7_readsOrder_101 (by decide) (fun c101 => absurd c101 (by decide)) (fun c101 => ?_)
  refine g_iload_n dX7_readsOrder_104 rfl ?_
  refine g_bipushv (v := 112) dX7_readsOrder_105 rfl ?_
  refine g_icmp_eq (tgt := 116) dX7_readsOrder_107 (by decide) (fun c107 => absurd c107 (by decide)) (fun c107 => ?_)
  refine g_iload_n dX7_readsOrder_110 rfl ?_
  refine g_bipushv (v := 101) dX7_readsOrder_111 rfl ?_
  refine g_icmp_ne (tgt := 123) dX7_readsOrder_113 (by decide) (fun c113 => ?_) (fun c113 => absurd c113 (by decide))
  refine g_aload_n dX7_readsOrder_123 rfl ?_
  refine g_V0i dX7_readsOrder_124 ml_X7_167 sX7_number rfl (by decide) (Nat.le_of_ble_eq_true rfl) (c_nu_0 (F := (pe (pe (pe F 172 9 1) 172 8 (nI (i + 1))) 178 (3 * m) 116)) (d) l (i + 1) (by simp [pe_at, el]) hl (by simp [pe_at]) (by omega) y es_y (by simp [pe_at]) hy hx) ?_
  refine g_iastN (gx := (3 * m + 1)) dX7_readsOrder_127 rfl (by decide) (nI_1 (3 * m)) (by omega) (by decide) ?_
  refine g_iload_n dX7_readsOrder_128 rfl ?_
  refine g_bipushv (v := 103) dX7_readsOrder_129 rfl ?_
  refine g_icmp_ne (tgt := 192) dX7_readsOrder_131 (by decide) (fun c131 => ?_) (fun c131 => absurd c131 (by decide))
  refine g_aload_n dX7_readsOrder_192 rfl ?_
  refine g_dup dX7_readsOrder_193 rfl ?_
  refine g_gI dX7_readsOrder_194 fl_X7_164 (fun _ _ => rfl) rfl (by decide) ?_
  refine g_aload_n dX7_readsOrder_197 rfl ?_
  refine g_gI dX7_readsOrder_198 fl_X7_154 (fun _ _ => rfl) rfl (by decide) ?_
  refine g_if_eq (tgt := 208) dX7_readsOrder_201 (by decide) (fun c201 => absurd c201 (by simp [pe_at])) (fun c201 => ?_)
  refine g_iconstv (v := 1) dX7_readsOrder_204 rfl ?_
  refine g_goto (tgt := 209) dX7_readsOrder_205 (by decide) ?_
  refine g_iadd dX7_readsOrder_209 ?_
  rw [show (pe (pe (pe (pe (pe F 172 9 1) 172 8 (nI (i + 1))) 178 (3 * m) 116) 172 8 (nI (i + 1 + 1))) 178 (3 * m + 1) (y - 48)) 172 11 = nI m by simp [pe_at, el, ea, em], nI_1]
  refine g_pI dX7_readsOrder_210 fl_X7_164 (Or.inl rfl) rfl (by decide) rfl ?_
  exact g_vret dX7_readsOrder_213 rfl
def yro_t2 (F : Nat → Nat → Int32) (i m : Nat) (x y z : Int32) : Nat → Nat → Int32 := (pe (pe (pe (pe (pe (pe F 172 9 1) 172 8 (nI (i + 1))) 178 (3 * m) 116) 172 8 (nI (i + 1 + 1))) 178 (3 * m + 1) (y - 48)) 172 11 (nI (m + 1)))
set_option maxHeartbeats 4000000 in
set_option maxRecDepth 100000 in
theorem c_ro_t2 {L : Nat} {F : Nat → Nat → Int32} {g : Nat → Option Nat} (d : Nat) (l i m : Nat) (el : F 172 7 = nI l) (hl : l ≤ 80) (ea : F 172 8 = nI i) (hi : i ≤ 80) (em : F 172 11 = nI m) (hm : m ≤ 40) (x y z : Int32) (es : mSg (F 177) l i = 116)  (es_y : mSg (F 177) l (i + 1) = y) (hy : 48 ≤ y ∧ y ≤ 57) (hx : ¬ y = 48) (es_z : mSg (F 177) l (i + 2) = z) (hz : ¬ (48 ≤ z ∧ z ≤ 57)) : mCall (d + 3) yX7_readsOrder MX7_readsOrder [.ref 172] (mHX L F g) (none) (mHX L (yro_t2 F i m x y z) g) := by
  refine mCall_of sX7_readsOrder.1 (Nat.le_of_ble_eq_true rfl) rfl ?_
  show mGo _ _ (0, [some (.ref 172), none, none], [], _) _
  refine g_iconstv (v := 3) dX7_readsOrder_0 rfl ?_
  refine g_aload_n dX7_readsOrder_1 rfl ?_
  refine g_gI dX7_readsOrder_2 fl_X7_164 (fun _ _ => rfl) rfl (by decide) ?_
  refine g_imul dX7_readsOrder_5 ?_
  rw [em, show (3 : Int32) = nI 3 from rfl, pk_mul]
  refine g_istore_n dX7_readsOrder_6 (by decide) rfl ?_
  refine g_aload_n dX7_readsOrder_7 rfl ?_
  refine g_V0i dX7_readsOrder_8 ml_X7_158 sX7_sign rfl (by decide) (Nat.le_of_ble_eq_true rfl) (c_sign (d + 2) l i el hl ea (by omega) 116 es) ?_
  refine g_istore_n dX7_readsOrder_11 (by decide) rfl ?_
  refine g_aload_n dX7_readsOrder_12 rfl ?_
  refine g_iload_n dX7_readsOrder_13 rfl ?_
  refine g_bipushv (v := 103) dX7_readsOrder_14 rfl ?_
  refine g_icmp_eq (tgt := 55) dX7_readsOrder_16 (by decide) (fun c16 => absurd c16 (by decide)) (fun c16 => ?_)
  refine g_iload_n dX7_readsOrder_19 rfl ?_
  refine g_bipushv (v := 120) dX7_readsOrder_20 rfl ?_
  refine g_icmp_eq (tgt := 55) dX7_readsOrder_22 (by decide) (fun c22 => absurd c22 (by decide)) (fun c22 => ?_)
  refine g_iload_n dX7_readsOrder_25 rfl ?_
  refine g_bipushv (v := 112) dX7_readsOrder_26 rfl ?_
  refine g_icmp_eq (tgt := 55) dX7_readsOrder_28 (by decide) (fun c28 => absurd c28 (by decide)) (fun c28 => ?_)
  refine g_iload_n dX7_readsOrder_31 rfl ?_
  refine g_bipushv (v := 101) dX7_readsOrder_32 rfl ?_
  refine g_icmp_eq (tgt := 55) dX7_readsOrder_34 (by decide) (fun c34 => absurd c34 (by decide)) (fun c34 => ?_)
  refine g_iload_n dX7_readsOrder_37 rfl ?_
  refine g_bipushv (v := 119) dX7_readsOrder_38 rfl ?_
  refine g_icmp_eq (tgt := 55) dX7_readsOrder_40 (by decide) (fun c40 => absurd c40 (by decide)) (fun c40 => ?_)
  refine g_iload_n dX7_readsOrder_43 rfl ?_
  refine g_bipushv (v := 99) dX7_readsOrder_44 rfl ?_
  refine g_icmp_eq (tgt := 55) dX7_readsOrder_46 (by decide) (fun c46 => absurd c46 (by decide)) (fun c46 => ?_)
  refine g_iload_n dX7_readsOrder_49 rfl ?_
  refine g_bipushv (v := 116) dX7_readsOrder_50 rfl ?_
  refine g_icmp_ne (tgt := 59) dX7_readsOrder_52 (by decide) (fun c52 => absurd (by decide) c52) (fun c52 => ?_)
  refine g_iconstv (v := 1) dX7_readsOrder_55 rfl ?_
  refine g_goto (tgt := 60) dX7_readsOrder_56 (by decide) ?_
  refine g_pZ dX7_readsOrder_60 fl_X7_154 (Or.inl rfl) rfl (by decide) rfl (by first | exact Or.inl rfl | exact Or.inr rfl) ?_
  refine g_aload_n dX7_readsOrder_63 rfl ?_
  refine g_dup dX7_readsOrder_64 rfl ?_
  refine g_gI dX7_readsOrder_65 fl_X7_151 (fun _ _ => rfl) rfl (by decide) ?_
  refine g_aload_n dX7_readsOrder_68 rfl ?_
  refine g_gI dX7_readsOrder_69 fl_X7_154 (fun _ _ => rfl) rfl (by decide) ?_
  refine g_if_eq (tgt := 79) dX7_readsOrder_72 (by decide) (fun c72 => absurd c72 (by simp [pe_at])) (fun c72 => ?_)
  refine g_iconstv (v := 1) dX7_readsOrder_75 rfl ?_
  refine g_goto (tgt := 80) dX7_readsOrder_76 (by decide) ?_
  refine g_iadd dX7_readsOrder_80 ?_
  rw [show (pe F 172 9 1) 172 8 = nI i by simp [pe_at, el, ea, em], nI_1]
  refine g_pI dX7_readsOrder_81 fl_X7_151 (Or.inl rfl) rfl (by decide) rfl ?_
  refine g_aload_n dX7_readsOrder_84 rfl ?_
  refine g_gR (r := 178) dX7_readsOrder_85 fl_X7_26 (fun _ _ => rfl) rfl (by decide) rfl ?_
  refine g_iload_n dX7_readsOrder_88 rfl ?_
  refine g_iload_n dX7_readsOrder_89 rfl ?_
  refine g_iastN (gx := (3 * m)) dX7_readsOrder_90 rfl (by decide) rfl (by omega) (by decide) ?_
  refine g_aload_n dX7_readsOrder_91 rfl ?_
  refine g_gR (r := 178) dX7_readsOrder_92 fl_X7_26 (fun _ _ => rfl) rfl (by decide) rfl ?_
  refine g_iload_n dX7_readsOrder_95 rfl ?_
  refine g_iconstv (v := 1) dX7_readsOrder_96 rfl ?_
  refine g_iadd dX7_readsOrder_97 ?_
  refine g_iload_n dX7_readsOrder_98 rfl ?_
  refine g_bipushv (v := 103) dX7_readsOrder_99 rfl ?_
  refine g_icmp_eq (tgt := 116) dX7_readsOrder_101 (by decide) (fun c101 => absurd c101 (by decide)) (fun c101 => ?_)
  refine g_iload_n dX7_readsOrder_104 rfl ?_
  refine g_bipushv (v := 112) dX7_readsOrder_105 rfl ?_
  refine g_icmp_eq (tgt := 116) dX7_readsOrder_107 (by decide) (fun c107 => absurd c107 (by decide)) (fun c107 => ?_)
  refine g_iload_n dX7_readsOrder_110 rfl ?_
  refine g_bipushv (v := 101) dX7_readsOrder_111 rfl ?_
  refine g_icmp_ne (tgt := 123) dX7_readsOrder_113 (by decide) (fun c113 => ?_) (fun c113 => absurd c113 (by decide))
  refine g_aload_n dX7_readsOrder_123 rfl ?_
  refine g_V0i dX7_readsOrder_124 ml_X7_167 sX7_number rfl (by decide) (Nat.le_of_ble_eq_true rfl) (c_nu_1 (F := (pe (pe (pe F 172 9 1) 172 8 (nI (i + 1))) 178 (3 * m) 116)) (d) l (i + 1) (by simp [pe_at, el]) hl (by simp [pe_at]) (by omega) y es_y (by simp [pe_at]) hy hx z es_z hz) ?_
  refine g_iastN (gx := (3 * m + 1)) dX7_readsOrder_127 rfl (by decide) (nI_1 (3 * m)) (by omega) (by decide) ?_
  refine g_iload_n dX7_readsOrder_128 rfl ?_
  refine g_bipushv (v := 103) dX7_readsOrder_129 rfl ?_
  refine g_icmp_ne (tgt := 192) dX7_readsOrder_131 (by decide) (fun c131 => ?_) (fun c131 => absurd c131 (by decide))
  refine g_aload_n dX7_readsOrder_192 rfl ?_
  refine g_dup dX7_readsOrder_193 rfl ?_
  refine g_gI dX7_readsOrder_194 fl_X7_164 (fun _ _ => rfl) rfl (by decide) ?_
  refine g_aload_n dX7_readsOrder_197 rfl ?_
  refine g_gI dX7_readsOrder_198 fl_X7_154 (fun _ _ => rfl) rfl (by decide) ?_
  refine g_if_eq (tgt := 208) dX7_readsOrder_201 (by decide) (fun c201 => absurd c201 (by simp [pe_at])) (fun c201 => ?_)
  refine g_iconstv (v := 1) dX7_readsOrder_204 rfl ?_
  refine g_goto (tgt := 209) dX7_readsOrder_205 (by decide) ?_
  refine g_iadd dX7_readsOrder_209 ?_
  rw [show (pe (pe (pe (pe (pe F 172 9 1) 172 8 (nI (i + 1))) 178 (3 * m) 116) 172 8 (nI (i + 1 + 1))) 178 (3 * m + 1) (y - 48)) 172 11 = nI m by simp [pe_at, el, ea, em], nI_1]
  refine g_pI dX7_readsOrder_210 fl_X7_164 (Or.inl rfl) rfl (by decide) rfl ?_
  exact g_vret dX7_readsOrder_213 rfl
def yro_t3 (F : Nat → Nat → Int32) (i m : Nat) (x y z : Int32) : Nat → Nat → Int32 := (pe (pe (pe (pe (pe (pe F 172 9 1) 172 8 (nI (i + 1))) 178 (3 * m) 116) 172 8 (nI (i + 1 + 2))) 178 (3 * m + 1) (10 * (y - 48) + z - 48)) 172 11 (nI (m + 1)))
set_option maxHeartbeats 4000000 in
set_option maxRecDepth 100000 in
theorem c_ro_t3 {L : Nat} {F : Nat → Nat → Int32} {g : Nat → Option Nat} (d : Nat) (l i m : Nat) (el : F 172 7 = nI l) (hl : l ≤ 80) (ea : F 172 8 = nI i) (hi : i ≤ 80) (em : F 172 11 = nI m) (hm : m ≤ 40) (x y z : Int32) (es : mSg (F 177) l i = 116)  (es_y : mSg (F 177) l (i + 1) = y) (hy : 48 ≤ y ∧ y ≤ 57) (hx : ¬ y = 48) (es_z : mSg (F 177) l (i + 2) = z) (hz : 48 ≤ z ∧ z ≤ 57) : mCall (d + 3) yX7_readsOrder MX7_readsOrder [.ref 172] (mHX L F g) (none) (mHX L (yro_t3 F i m x y z) g) := by
  refine mCall_of sX7_readsOrder.1 (Nat.le_of_ble_eq_true rfl) rfl ?_
  show mGo _ _ (0, [some (.ref 172), none, none], [], _) _
  refine g_iconstv (v := 3) dX7_readsOrder_0 rfl ?_
  refine g_aload_n dX7_readsOrder_1 rfl ?_
  refine g_gI dX7_readsOrder_2 fl_X7_164 (fun _ _ => rfl) rfl (by decide) ?_
  refine g_imul dX7_readsOrder_5 ?_
  rw [em, show (3 : Int32) = nI 3 from rfl, pk_mul]
  refine g_istore_n dX7_readsOrder_6 (by decide) rfl ?_
  refine g_aload_n dX7_readsOrder_7 rfl ?_
  refine g_V0i dX7_readsOrder_8 ml_X7_158 sX7_sign rfl (by decide) (Nat.le_of_ble_eq_true rfl) (c_sign (d + 2) l i el hl ea (by omega) 116 es) ?_
  refine g_istore_n dX7_readsOrder_11 (by decide) rfl ?_
  refine g_aload_n dX7_readsOrder_12 rfl ?_
  refine g_iload_n dX7_readsOrder_13 rfl ?_
  refine g_bipushv (v := 103) dX7_readsOrder_14 rfl ?_
  refine g_icmp_eq (tgt := 55) dX7_readsOrder_16 (by decide) (fun c16 => absurd c16 (by decide)) (fun c16 => ?_)
  refine g_iload_n dX7_readsOrder_19 rfl ?_
  refine g_bipushv (v := 120) dX7_readsOrder_20 rfl ?_
  refine g_icmp_eq (tgt := 55) dX7_readsOrder_22 (by decide) (fun c22 => absurd c22 (by decide)) (fun c22 => ?_)
  refine g_iload_n dX7_readsOrder_25 rfl ?_
  refine g_bipushv (v := 112) dX7_readsOrder_26 rfl ?_
  refine g_icmp_eq (tgt := 55) dX7_readsOrder_28 (by decide) (fun c28 => absurd c28 (by decide)) (fun c28 => ?_)
  refine g_iload_n dX7_readsOrder_31 rfl ?_
  refine g_bipushv (v := 101) dX7_readsOrder_32 rfl ?_
  refine g_icmp_eq (tgt := 55) dX7_readsOrder_34 (by decide) (fun c34 => absurd c34 (by decide)) (fun c34 => ?_)
  refine g_iload_n dX7_readsOrder_37 rfl ?_
  refine g_bipushv (v := 119) dX7_readsOrder_38 rfl ?_
  refine g_icmp_eq (tgt := 55) dX7_readsOrder_40 (by decide) (fun c40 => absurd c40 (by decide)) (fun c40 => ?_)
  refine g_iload_n dX7_readsOrder_43 rfl ?_
  refine g_bipushv (v := 99) dX7_readsOrder_44 rfl ?_
  refine g_icmp_eq (tgt := 55) dX7_readsOrder_46 (by decide) (fun c46 => absurd c46 (by decide)) (fun c46 => ?_)
  refine g_iload_n dX7_readsOrder_49 rfl ?_
  refine g_bipushv (v := 116) dX7_readsOrder_50 rfl ?_
  refine g_icmp_ne (tgt := 59) dX7_readsOrder_52 (by decide) (fun c52 => absurd (by decide) c52) (fun c52 => ?_)
  refine g_iconstv (v := 1) dX7_readsOrder_55 rfl ?_
  refine g_goto (tgt := 60) dX7_readsOrder_56 (by decide) ?_
  refine g_pZ dX7_readsOrder_60 fl_X7_154 (Or.inl rfl) rfl (by decide) rfl (by first | exact Or.inl rfl | exact Or.inr rfl) ?_
  refine g_aload_n dX7_readsOrder_63 rfl ?_
  refine g_dup dX7_readsOrder_64 rfl ?_
  refine g_gI dX7_readsOrder_65 fl_X7_151 (fun _ _ => rfl) rfl (by decide) ?_
  refine g_aload_n dX7_readsOrder_68 rfl ?_
  refine g_gI dX7_readsOrder_69 fl_X7_154 (fun _ _ => rfl) rfl (by decide) ?_
  refine g_if_eq (tgt := 79) dX7_readsOrder_72 (by decide) (fun c72 => absurd c72 (by simp [pe_at])) (fun c72 => ?_)
  refine g_iconstv (v := 1) dX7_readsOrder_75 rfl ?_
  refine g_goto (tgt := 80) dX7_readsOrder_76 (by decide) ?_
  refine g_iadd dX7_readsOrder_80 ?_
  rw [show (pe F 172 9 1) 172 8 = nI i by simp [pe_at, el, ea, em], nI_1]
  refine g_pI dX7_readsOrder_81 fl_X7_151 (Or.inl rfl) rfl (by decide) rfl ?_
  refine g_aload_n dX7_readsOrder_84 rfl ?_
  refine g_gR (r := 178) dX7_readsOrder_85 fl_X7_26 (fun _ _ => rfl) rfl (by decide) rfl ?_
  refine g_iload_n dX7_readsOrder_88 rfl ?_
  refine g_iload_n dX7_readsOrder_89 rfl ?_
  refine g_iastN (gx := (3 * m)) dX7_readsOrder_90 rfl (by decide) rfl (by omega) (by decide) ?_
  refine g_aload_n dX7_readsOrder_91 rfl ?_
  refine g_gR (r := 178) dX7_readsOrder_92 fl_X7_26 (fun _ _ => rfl) rfl (by decide) rfl ?_
  refine g_iload_n dX7_readsOrder_95 rfl ?_
  refine g_iconstv (v := 1) dX7_readsOrder_96 rfl ?_
  refine g_iadd dX7_readsOrder_97 ?_
  refine g_iload_n dX7_readsOrder_98 rfl ?_
  refine g_bipushv (v := 103) dX7_readsOrder_99 rfl ?_
  refine g_icmp_eq (tgt := 116) dX7_readsOrder_101 (by decide) (fun c101 => absurd c101 (by decide)) (fun c101 => ?_)
  refine g_iload_n dX7_readsOrder_104 rfl ?_
  refine g_bipushv (v := 112) dX7_readsOrder_105 rfl ?_
  refine g_icmp_eq (tgt := 116) dX7_readsOrder_107 (by decide) (fun c107 => absurd c107 (by decide)) (fun c107 => ?_)
  refine g_iload_n dX7_readsOrder_110 rfl ?_
  refine g_bipushv (v := 101) dX7_readsOrder_111 rfl ?_
  refine g_icmp_ne (tgt := 123) dX7_readsOrder_113 (by decide) (fun c113 => ?_) (fun c113 => absurd c113 (by decide))
  refine g_aload_n dX7_readsOrder_123 rfl ?_
  refine g_V0i dX7_readsOrder_124 ml_X7_167 sX7_number rfl (by decide) (Nat.le_of_ble_eq_true rfl) (c_nu_2 (F := (pe (pe (pe F 172 9 1) 172 8 (nI (i + 1))) 178 (3 * m) 116)) (d) l (i + 1) (by simp [pe_at, el]) hl (by simp [pe_at]) (by omega) y es_y (by simp [pe_at]) hy hx z es_z hz) ?_
  refine g_iastN (gx := (3 * m + 1)) dX7_readsOrder_127 rfl (by decide) (nI_1 (3 * m)) (by omega) (by decide) ?_
  refine g_iload_n dX7_readsOrder_128 rfl ?_
  refine g_bipushv (v := 103) dX7_readsOrder_129 rfl ?_
  refine g_icmp_ne (tgt := 192) dX7_readsOrder_131 (by decide) (fun c131 => ?_) (fun c131 => absurd c131 (by decide))
  refine g_aload_n dX7_readsOrder_192 rfl ?_
  refine g_dup dX7_readsOrder_193 rfl ?_
  refine g_gI dX7_readsOrder_194 fl_X7_164 (fun _ _ => rfl) rfl (by decide) ?_
  refine g_aload_n dX7_readsOrder_197 rfl ?_
  refine g_gI dX7_readsOrder_198 fl_X7_154 (fun _ _ => rfl) rfl (by decide) ?_
  refine g_if_eq (tgt := 208) dX7_readsOrder_201 (by decide) (fun c201 => absurd c201 (by simp [pe_at])) (fun c201 => ?_)
  refine g_iconstv (v := 1) dX7_readsOrder_204 rfl ?_
  refine g_goto (tgt := 209) dX7_readsOrder_205 (by decide) ?_
  refine g_iadd dX7_readsOrder_209 ?_
  rw [show (pe (pe (pe (pe (pe F 172 9 1) 172 8 (nI (i + 1))) 178 (3 * m) 116) 172 8 (nI (i + 1 + 2))) 178 (3 * m + 1) (10 * (y - 48) + z - 48)) 172 11 = nI m by simp [pe_at, el, ea, em], nI_1]
  refine g_pI dX7_readsOrder_210 fl_X7_164 (Or.inl rfl) rfl (by decide) rfl ?_
  exact g_vret dX7_readsOrder_213 rfl
def yro_no (F : Nat → Nat → Int32) (i m : Nat) (x y z : Int32) : Nat → Nat → Int32 := (pe (pe (pe (pe (pe F 172 9 0) 172 8 (nI i)) 178 (3 * m) x) 178 (3 * m + 1) (x - 48)) 172 11 (nI m))
set_option maxHeartbeats 4000000 in
set_option maxRecDepth 100000 in
theorem c_ro_no {L : Nat} {F : Nat → Nat → Int32} {g : Nat → Option Nat} (d : Nat) (l i m : Nat) (el : F 172 7 = nI l) (hl : l ≤ 80) (ea : F 172 8 = nI i) (hi : i ≤ 80) (em : F 172 11 = nI m) (hm : m ≤ 40) (x y z : Int32) (es : mSg (F 177) l i = x) (n103 : ¬ x = 103) (n120 : ¬ x = 120) (n112 : ¬ x = 112) (n101 : ¬ x = 101) (n119 : ¬ x = 119) (n99 : ¬ x = 99) (n116 : ¬ x = 116) : mCall (d + 3) yX7_readsOrder MX7_readsOrder [.ref 172] (mHX L F g) (none) (mHX L (yro_no F i m x y z) g) := by
  refine mCall_of sX7_readsOrder.1 (Nat.le_of_ble_eq_true rfl) rfl ?_
  show mGo _ _ (0, [some (.ref 172), none, none], [], _) _
  refine g_iconstv (v := 3) dX7_readsOrder_0 rfl ?_
  refine g_aload_n dX7_readsOrder_1 rfl ?_
  refine g_gI dX7_readsOrder_2 fl_X7_164 (fun _ _ => rfl) rfl (by decide) ?_
  refine g_imul dX7_readsOrder_5 ?_
  rw [em, show (3 : Int32) = nI 3 from rfl, pk_mul]
  refine g_istore_n dX7_readsOrder_6 (by decide) rfl ?_
  refine g_aload_n dX7_readsOrder_7 rfl ?_
  refine g_V0i dX7_readsOrder_8 ml_X7_158 sX7_sign rfl (by decide) (Nat.le_of_ble_eq_true rfl) (c_sign (d + 2) l i el hl ea (by omega) x es) ?_
  refine g_istore_n dX7_readsOrder_11 (by decide) rfl ?_
  refine g_aload_n dX7_readsOrder_12 rfl ?_
  refine g_iload_n dX7_readsOrder_13 rfl ?_
  refine g_bipushv (v := 103) dX7_readsOrder_14 rfl ?_
  refine g_icmp_eq (tgt := 55) dX7_readsOrder_16 (by decide) (fun c16 => absurd c16 n103) (fun c16 => ?_)
  refine g_iload_n dX7_readsOrder_19 rfl ?_
  refine g_bipushv (v := 120) dX7_readsOrder_20 rfl ?_
  refine g_icmp_eq (tgt := 55) dX7_readsOrder_22 (by decide) (fun c22 => absurd c22 n120) (fun c22 => ?_)
  refine g_iload_n dX7_readsOrder_25 rfl ?_
  refine g_bipushv (v := 112) dX7_readsOrder_26 rfl ?_
  refine g_icmp_eq (tgt := 55) dX7_readsOrder_28 (by decide) (fun c28 => absurd c28 n112) (fun c28 => ?_)
  refine g_iload_n dX7_readsOrder_31 rfl ?_
  refine g_bipushv (v := 101) dX7_readsOrder_32 rfl ?_
  refine g_icmp_eq (tgt := 55) dX7_readsOrder_34 (by decide) (fun c34 => absurd c34 n101) (fun c34 => ?_)
  refine g_iload_n dX7_readsOrder_37 rfl ?_
  refine g_bipushv (v := 119) dX7_readsOrder_38 rfl ?_
  refine g_icmp_eq (tgt := 55) dX7_readsOrder_40 (by decide) (fun c40 => absurd c40 n119) (fun c40 => ?_)
  refine g_iload_n dX7_readsOrder_43 rfl ?_
  refine g_bipushv (v := 99) dX7_readsOrder_44 rfl ?_
  refine g_icmp_eq (tgt := 55) dX7_readsOrder_46 (by decide) (fun c46 => absurd c46 n99) (fun c46 => ?_)
  refine g_iload_n dX7_readsOrder_49 rfl ?_
  refine g_bipushv (v := 116) dX7_readsOrder_50 rfl ?_
  refine g_icmp_ne (tgt := 59) dX7_readsOrder_52 (by decide) (fun c52 => ?_) (fun c52 => absurd c52 n116)
  refine g_iconstv (v := 0) dX7_readsOrder_59 rfl ?_
  refine g_pZ dX7_readsOrder_60 fl_X7_154 (Or.inl rfl) rfl (by decide) rfl (by first | exact Or.inl rfl | exact Or.inr rfl) ?_
  refine g_aload_n dX7_readsOrder_63 rfl ?_
  refine g_dup dX7_readsOrder_64 rfl ?_
  refine g_gI dX7_readsOrder_65 fl_X7_151 (fun _ _ => rfl) rfl (by decide) ?_
  refine g_aload_n dX7_readsOrder_68 rfl ?_
  refine g_gI dX7_readsOrder_69 fl_X7_154 (fun _ _ => rfl) rfl (by decide) ?_
  refine g_if_eq (tgt := 79) dX7_readsOrder_72 (by decide) (fun c72 => ?_) (fun c72 => absurd (by simp [pe_at]) c72)
  refine g_iconstv (v := 0) dX7_readsOrder_79 rfl ?_
  refine g_iadd dX7_readsOrder_80 ?_
  rw [show (pe F 172 9 0) 172 8 = nI i by simp [pe_at, el, ea, em], Int32.add_zero]
  refine g_pI dX7_readsOrder_81 fl_X7_151 (Or.inl rfl) rfl (by decide) rfl ?_
  refine g_aload_n dX7_readsOrder_84 rfl ?_
  refine g_gR (r := 178) dX7_readsOrder_85 fl_X7_26 (fun _ _ => rfl) rfl (by decide) rfl ?_
  refine g_iload_n dX7_readsOrder_88 rfl ?_
  refine g_iload_n dX7_readsOrder_89 rfl ?_
  refine g_iastN (gx := (3 * m)) dX7_readsOrder_90 rfl (by decide) rfl (by omega) (by decide) ?_
  refine g_aload_n dX7_readsOrder_91 rfl ?_
  refine g_gR (r := 178) dX7_readsOrder_92 fl_X7_26 (fun _ _ => rfl) rfl (by decide) rfl ?_
  refine g_iload_n dX7_readsOrder_95 rfl ?_
  refine g_iconstv (v := 1) dX7_readsOrder_96 rfl ?_
  refine g_iadd dX7_readsOrder_97 ?_
  refine g_iload_n dX7_readsOrder_98 rfl ?_
  refine g_bipushv (v := 103) dX7_readsOrder_99 rfl ?_
  refine g_icmp_eq (tgt := 116) dX7_readsOrder_101 (by decide) (fun c101 => absurd c101 n103) (fun c101 => ?_)
  refine g_iload_n dX7_readsOrder_104 rfl ?_
  refine g_bipushv (v := 112) dX7_readsOrder_105 rfl ?_
  refine g_icmp_eq (tgt := 116) dX7_readsOrder_107 (by decide) (fun c107 => absurd c107 n112) (fun c107 => ?_)
  refine g_iload_n dX7_readsOrder_110 rfl ?_
  refine g_bipushv (v := 101) dX7_readsOrder_111 rfl ?_
  refine g_icmp_ne (tgt := 123) dX7_readsOrder_113 (by decide) (fun c113 => ?_) (fun c113 => absurd c113 n101)
  refine g_aload_n dX7_readsOrder_123 rfl ?_
  refine g_V0i dX7_readsOrder_124 ml_X7_167 sX7_number rfl (by decide) (Nat.le_of_ble_eq_true rfl) (c_nu_off (F := (pe (pe (pe F 172 9 0) 172 8 (nI i)) 178 (3 * m) x)) d l i (by simp [pe_at, el]) hl (by simp [pe_at]) (by omega) x es (by simp [pe_at])) ?_
  refine g_iastN (gx := (3 * m + 1)) dX7_readsOrder_127 rfl (by decide) (nI_1 (3 * m)) (by omega) (by decide) ?_
  refine g_iload_n dX7_readsOrder_128 rfl ?_
  refine g_bipushv (v := 103) dX7_readsOrder_129 rfl ?_
  refine g_icmp_ne (tgt := 192) dX7_readsOrder_131 (by decide) (fun c131 => ?_) (fun c131 => absurd c131 n103)
  refine g_aload_n dX7_readsOrder_192 rfl ?_
  refine g_dup dX7_readsOrder_193 rfl ?_
  refine g_gI dX7_readsOrder_194 fl_X7_164 (fun _ _ => rfl) rfl (by decide) ?_
  refine g_aload_n dX7_readsOrder_197 rfl ?_
  refine g_gI dX7_readsOrder_198 fl_X7_154 (fun _ _ => rfl) rfl (by decide) ?_
  refine g_if_eq (tgt := 208) dX7_readsOrder_201 (by decide) (fun c201 => ?_) (fun c201 => absurd (by simp [pe_at]) c201)
  refine g_iconstv (v := 0) dX7_readsOrder_208 rfl ?_
  refine g_iadd dX7_readsOrder_209 ?_
  rw [show (pe (pe (pe (pe F 172 9 0) 172 8 (nI i)) 178 (3 * m) x) 178 (3 * m + 1) (x - 48)) 172 11 = nI m by simp [pe_at, el, ea, em], Int32.add_zero]
  refine g_pI dX7_readsOrder_210 fl_X7_164 (Or.inl rfl) rfl (by decide) rfl ?_
  exact g_vret dX7_readsOrder_213 rfl
def yro_g0 (F : Nat → Nat → Int32) (i m : Nat) (x y z u : Int32) : Nat → Nat → Int32 := (pe (pe (pe (pe (pe (pe (pe (pe (pe F 172 9 1) 172 8 (nI (i + 1))) 178 (3 * m) 103) 172 9 0) 178 (3 * m + 1) (y - 48)) 172 9 0) 172 8 (nI (i + 1))) 178 (3 * m + 2) (y - 48)) 172 11 (nI m))
set_option maxHeartbeats 4000000 in
set_option maxRecDepth 100000 in
theorem c_ro_g0 {L : Nat} {F : Nat → Nat → Int32} {g : Nat → Option Nat} (d : Nat) (l i m : Nat) (el : F 172 7 = nI l) (hl : l ≤ 80) (ea : F 172 8 = nI i) (hi : i ≤ 80) (em : F 172 11 = nI m) (hm : m ≤ 40) (x y z u : Int32) (es : mSg (F 177) l i = 103)  (es_y : mSg (F 177) l (i + 1) = y) (hy : ¬ (48 ≤ y ∧ y ≤ 57)) : mCall (d + 3) yX7_readsOrder MX7_readsOrder [.ref 172] (mHX L F g) (none) (mHX L (yro_g0 F i m x y z u) g) := by
  refine mCall_of sX7_readsOrder.1 (Nat.le_of_ble_eq_true rfl) rfl ?_
  show mGo _ _ (0, [some (.ref 172), none, none], [], _) _
  refine g_iconstv (v := 3) dX7_readsOrder_0 rfl ?_
  refine g_aload_n dX7_readsOrder_1 rfl ?_
  refine g_gI dX7_readsOrder_2 fl_X7_164 (fun _ _ => rfl) rfl (by decide) ?_
  refine g_imul dX7_readsOrder_5 ?_
  rw [em, show (3 : Int32) = nI 3 from rfl, pk_mul]
  refine g_istore_n dX7_readsOrder_6 (by decide) rfl ?_
  refine g_aload_n dX7_readsOrder_7 rfl ?_
  refine g_V0i dX7_readsOrder_8 ml_X7_158 sX7_sign rfl (by decide) (Nat.le_of_ble_eq_true rfl) (c_sign (d + 2) l i el hl ea (by omega) 103 es) ?_
  refine g_istore_n dX7_readsOrder_11 (by decide) rfl ?_
  refine g_aload_n dX7_readsOrder_12 rfl ?_
  refine g_iload_n dX7_readsOrder_13 rfl ?_
  refine g_bipushv (v := 103) dX7_readsOrder_14 rfl ?_
  refine g_icmp_eq (tgt := 55) dX7_readsOrder_16 (by decide) (fun c16 => ?_) (fun c16 => absurd (by decide) c16)
  refine g_iconstv (v := 1) dX7_readsOrder_55 rfl ?_
  refine g_goto (tgt := 60) dX7_readsOrder_56 (by decide) ?_
  refine g_pZ dX7_readsOrder_60 fl_X7_154 (Or.inl rfl) rfl (by decide) rfl (by first | exact Or.inl rfl | exact Or.inr rfl) ?_
  refine g_aload_n dX7_readsOrder_63 rfl ?_
  refine g_dup dX7_readsOrder_64 rfl ?_
  refine g_gI dX7_readsOrder_65 fl_X7_151 (fun _ _ => rfl) rfl (by decide) ?_
  refine g_aload_n dX7_readsOrder_68 rfl ?_
  refine g_gI dX7_readsOrder_69 fl_X7_154 (fun _ _ => rfl) rfl (by decide) ?_
  refine g_if_eq (tgt := 79) dX7_readsOrder_72 (by decide) (fun c72 => absurd c72 (by simp [pe_at])) (fun c72 => ?_)
  refine g_iconstv (v := 1) dX7_readsOrder_75 rfl ?_
  refine g_goto (tgt := 80) dX7_readsOrder_76 (by decide) ?_
  refine g_iadd dX7_readsOrder_80 ?_
  rw [show (pe F 172 9 1) 172 8 = nI i by simp [pe_at, el, ea, em], nI_1]
  refine g_pI dX7_readsOrder_81 fl_X7_151 (Or.inl rfl) rfl (by decide) rfl ?_
  refine g_aload_n dX7_readsOrder_84 rfl ?_
  refine g_gR (r := 178) dX7_readsOrder_85 fl_X7_26 (fun _ _ => rfl) rfl (by decide) rfl ?_
  refine g_iload_n dX7_readsOrder_88 rfl ?_
  refine g_iload_n dX7_readsOrder_89 rfl ?_
  refine g_iastN (gx := (3 * m)) dX7_readsOrder_90 rfl (by decide) rfl (by omega) (by decide) ?_
  refine g_aload_n dX7_readsOrder_91 rfl ?_
  refine g_gR (r := 178) dX7_readsOrder_92 fl_X7_26 (fun _ _ => rfl) rfl (by decide) rfl ?_
  refine g_iload_n dX7_readsOrder_95 rfl ?_
  refine g_iconstv (v := 1) dX7_readsOrder_96 rfl ?_
  refine g_iadd dX7_readsOrder_97 ?_
  refine g_iload_n dX7_readsOrder_98 rfl ?_
  refine g_bipushv (v := 103) dX7_readsOrder_99 rfl ?_
  refine g_icmp_eq (tgt := 116) dX7_readsOrder_101 (by decide) (fun c101 => ?_) (fun c101 => absurd (by decide) c101)
  refine g_aload_n dX7_readsOrder_116 rfl ?_
  refine g_V0i dX7_readsOrder_117 ml_X7_161 sX7_digit rfl (by decide) (Nat.le_of_ble_eq_true rfl) (c_dg_no (F := (pe (pe (pe F 172 9 1) 172 8 (nI (i + 1))) 178 (3 * m) 103)) (d + 1) l (i + 1) (by simp [pe_at, el]) hl (by simp [pe_at]) (by omega) y (by first | exact es_y | (simp [pe_at]; exact es_y)) (by simp [pe_at]) hy) ?_
  refine g_goto (tgt := 127) dX7_readsOrder_120 (by decide) ?_
  refine g_iastN (gx := (3 * m + 1)) dX7_readsOrder_127 rfl (by decide) (nI_1 (3 * m)) (by omega) (by decide) ?_
  refine g_iload_n dX7_readsOrder_128 rfl ?_
  refine g_bipushv (v := 103) dX7_readsOrder_129 rfl ?_
  refine g_icmp_ne (tgt := 192) dX7_readsOrder_131 (by decide) (fun c131 => absurd (by decide) c131) (fun c131 => ?_)
  refine g_aload_n dX7_readsOrder_134 rfl ?_
  refine g_aload_n dX7_readsOrder_135 rfl ?_
  refine g_gI dX7_readsOrder_136 fl_X7_154 (fun _ _ => rfl) rfl (by decide) ?_
  refine g_if_eq (tgt := 155) dX7_readsOrder_139 (by decide) (fun c139 => ?_) (fun c139 => absurd (by simp [pe_at]) c139)
  refine g_iconstv (v := 0) dX7_readsOrder_155 rfl ?_
  refine g_pZ dX7_readsOrder_156 fl_X7_154 (Or.inl rfl) rfl (by decide) rfl (by first | exact Or.inl rfl | exact Or.inr rfl) ?_
  refine g_aload_n dX7_readsOrder_159 rfl ?_
  refine g_dup dX7_readsOrder_160 rfl ?_
  refine g_gI dX7_readsOrder_161 fl_X7_151 (fun _ _ => rfl) rfl (by decide) ?_
  refine g_aload_n dX7_readsOrder_164 rfl ?_
  refine g_gI dX7_readsOrder_165 fl_X7_154 (fun _ _ => rfl) rfl (by decide) ?_
  refine g_if_eq (tgt := 175) dX7_readsOrder_168 (by decide) (fun c168 => ?_) (fun c168 => absurd (by simp [pe_at]) c168)
  refine g_iconstv (v := 0) dX7_readsOrder_175 rfl ?_
  refine g_iadd dX7_readsOrder_176 ?_
  rw [show (pe (pe (pe (pe (pe (pe F 172 9 1) 172 8 (nI (i + 1))) 178 (3 * m) 103) 172 9 0) 178 (3 * m + 1) (y - 48)) 172 9 0) 172 8 = nI (i + 1) by simp [pe_at], Int32.add_zero]
  refine g_pI dX7_readsOrder_177 fl_X7_151 (Or.inl rfl) rfl (by decide) rfl ?_
  refine g_aload_n dX7_readsOrder_180 rfl ?_
  refine g_gR (r := 178) dX7_readsOrder_181 fl_X7_26 (fun _ _ => rfl) rfl (by decide) rfl ?_
  refine g_iload_n dX7_readsOrder_184 rfl ?_
  refine g_iconstv (v := 2) dX7_readsOrder_185 rfl ?_
  refine g_iadd dX7_readsOrder_186 ?_
  refine g_aload_n dX7_readsOrder_187 rfl ?_
  refine g_V0i dX7_readsOrder_188 ml_X7_161 sX7_digit rfl (by decide) (Nat.le_of_ble_eq_true rfl) (c_dg_off (F := (pe (pe (pe (pe (pe (pe (pe F 172 9 1) 172 8 (nI (i + 1))) 178 (3 * m) 103) 172 9 0) 178 (3 * m + 1) (y - 48)) 172 9 0) 172 8 (nI (i + 1)))) (d + 1) l (i + 1) (by simp [pe_at, el]) hl (by simp [pe_at]) (by omega) y es_y (by simp [pe_at])) ?_
  refine g_iastN (gx := (3 * m + 2)) dX7_readsOrder_191 rfl (by decide) (nI_add (3 * m) 2) (by omega) (by decide) ?_
  refine g_aload_n dX7_readsOrder_192 rfl ?_
  refine g_dup dX7_readsOrder_193 rfl ?_
  refine g_gI dX7_readsOrder_194 fl_X7_164 (fun _ _ => rfl) rfl (by decide) ?_
  refine g_aload_n dX7_readsOrder_197 rfl ?_
  refine g_gI dX7_readsOrder_198 fl_X7_154 (fun _ _ => rfl) rfl (by decide) ?_
  refine g_if_eq (tgt := 208) dX7_readsOrder_201 (by decide) (fun c201 => ?_) (fun c201 => absurd (by simp [pe_at]) c201)
  refine g_iconstv (v := 0) dX7_readsOrder_208 rfl ?_
  refine g_iadd dX7_readsOrder_209 ?_
  rw [show (pe (pe (pe (pe (pe (pe (pe (pe F 172 9 1) 172 8 (nI (i + 1))) 178 (3 * m) 103) 172 9 0) 178 (3 * m + 1) (y - 48)) 172 9 0) 172 8 (nI (i + 1))) 178 (3 * m + 2) (y - 48)) 172 11 = nI m by simp [pe_at, el, ea, em], Int32.add_zero]
  refine g_pI dX7_readsOrder_210 fl_X7_164 (Or.inl rfl) rfl (by decide) rfl ?_
  exact g_vret dX7_readsOrder_213 rfl
def yro_g1 (F : Nat → Nat → Int32) (i m : Nat) (x y z u : Int32) : Nat → Nat → Int32 := (pe (pe (pe (pe (pe (pe (pe (pe (pe F 172 9 1) 172 8 (nI (i + 1))) 178 (3 * m) 103) 172 8 (nI (i + 1 + 1))) 178 (3 * m + 1) (y - 48)) 172 9 0) 172 8 (nI (i + 2))) 178 (3 * m + 2) (z - 48)) 172 11 (nI m))
set_option maxHeartbeats 4000000 in
set_option maxRecDepth 100000 in
theorem c_ro_g1 {L : Nat} {F : Nat → Nat → Int32} {g : Nat → Option Nat} (d : Nat) (l i m : Nat) (el : F 172 7 = nI l) (hl : l ≤ 80) (ea : F 172 8 = nI i) (hi : i ≤ 80) (em : F 172 11 = nI m) (hm : m ≤ 40) (x y z u : Int32) (es : mSg (F 177) l i = 103)  (es_y : mSg (F 177) l (i + 1) = y) (hy : 48 ≤ y ∧ y ≤ 57) (es_z : mSg (F 177) l (i + 2) = z) (hz : ¬ z = 46) : mCall (d + 3) yX7_readsOrder MX7_readsOrder [.ref 172] (mHX L F g) (none) (mHX L (yro_g1 F i m x y z u) g) := by
  refine mCall_of sX7_readsOrder.1 (Nat.le_of_ble_eq_true rfl) rfl ?_
  show mGo _ _ (0, [some (.ref 172), none, none], [], _) _
  refine g_iconstv (v := 3) dX7_readsOrder_0 rfl ?_
  refine g_aload_n dX7_readsOrder_1 rfl ?_
  refine g_gI dX7_readsOrder_2 fl_X7_164 (fun _ _ => rfl) rfl (by decide) ?_
  refine g_imul dX7_readsOrder_5 ?_
  rw [em, show (3 : Int32) = nI 3 from rfl, pk_mul]
  refine g_istore_n dX7_readsOrder_6 (by decide) rfl ?_
  refine g_aload_n dX7_readsOrder_7 rfl ?_
  refine g_V0i dX7_readsOrder_8 ml_X7_158 sX7_sign rfl (by decide) (Nat.le_of_ble_eq_true rfl) (c_sign (d + 2) l i el hl ea (by omega) 103 es) ?_
  refine g_istore_n dX7_readsOrder_11 (by decide) rfl ?_
  refine g_aload_n dX7_readsOrder_12 rfl ?_
  refine g_iload_n dX7_readsOrder_13 rfl ?_
  refine g_bipushv (v := 103) dX7_readsOrder_14 rfl ?_
  refine g_icmp_eq (tgt := 55) dX7_readsOrder_16 (by decide) (fun c16 => ?_) (fun c16 => absurd (by decide) c16)
  refine g_iconstv (v := 1) dX7_readsOrder_55 rfl ?_
  refine g_goto (tgt := 60) dX7_readsOrder_56 (by decide) ?_
  refine g_pZ dX7_readsOrder_60 fl_X7_154 (Or.inl rfl) rfl (by decide) rfl (by first | exact Or.inl rfl | exact Or.inr rfl) ?_
  refine g_aload_n dX7_readsOrder_63 rfl ?_
  refine g_dup dX7_readsOrder_64 rfl ?_
  refine g_gI dX7_readsOrder_65 fl_X7_151 (fun _ _ => rfl) rfl (by decide) ?_
  refine g_aload_n dX7_readsOrder_68 rfl ?_
  refine g_gI dX7_readsOrder_69 fl_X7_154 (fun _ _ => rfl) rfl (by decide) ?_
  refine g_if_eq (tgt := 79) dX7_readsOrder_72 (by decide) (fun c72 => absurd c72 (by simp [pe_at])) (fun c72 => ?_)
  refine g_iconstv (v := 1) dX7_readsOrder_75 rfl ?_
  refine g_goto (tgt := 80) dX7_readsOrder_76 (by decide) ?_
  refine g_iadd dX7_readsOrder_80 ?_
  rw [show (pe F 172 9 1) 172 8 = nI i by simp [pe_at, el, ea, em], nI_1]
  refine g_pI dX7_readsOrder_81 fl_X7_151 (Or.inl rfl) rfl (by decide) rfl ?_
  refine g_aload_n dX7_readsOrder_84 rfl ?_
  refine g_gR (r := 178) dX7_readsOrder_85 fl_X7_26 (fun _ _ => rfl) rfl (by decide) rfl ?_
  refine g_iload_n dX7_readsOrder_88 rfl ?_
  refine g_iload_n dX7_readsOrder_89 rfl ?_
  refine g_iastN (gx := (3 * m)) dX7_readsOrder_90 rfl (by decide) rfl (by omega) (by decide) ?_
  refine g_aload_n dX7_readsOrder_91 rfl ?_
  refine g_gR (r := 178) dX7_readsOrder_92 fl_X7_26 (fun _ _ => rfl) rfl (by decide) rfl ?_
  refine g_iload_n dX7_readsOrder_95 rfl ?_
  refine g_iconstv (v := 1) dX7_readsOrder_96 rfl ?_
  refine g_iadd dX7_readsOrder_97 ?_
  refine g_iload_n dX7_readsOrder_98 rfl ?_
  refine g_bipushv (v := 103) dX7_readsOrder_99 rfl ?_
  refine g_icmp_eq (tgt := 116) dX7_readsOrder_101 (by decide) (fun c101 => ?_) (fun c101 => absurd (by decide) c101)
  refine g_aload_n dX7_readsOrder_116 rfl ?_
  refine g_V0i dX7_readsOrder_117 ml_X7_161 sX7_digit rfl (by decide) (Nat.le_of_ble_eq_true rfl) (c_dg_yes (F := (pe (pe (pe F 172 9 1) 172 8 (nI (i + 1))) 178 (3 * m) 103)) (d + 1) l (i + 1) (by simp [pe_at, el]) hl (by simp [pe_at]) (by omega) y (by first | exact es_y | (simp [pe_at]; exact es_y)) (by simp [pe_at]) hy) ?_
  refine g_goto (tgt := 127) dX7_readsOrder_120 (by decide) ?_
  refine g_iastN (gx := (3 * m + 1)) dX7_readsOrder_127 rfl (by decide) (nI_1 (3 * m)) (by omega) (by decide) ?_
  refine g_iload_n dX7_readsOrder_128 rfl ?_
  refine g_bipushv (v := 103) dX7_readsOrder_129 rfl ?_
  refine g_icmp_ne (tgt := 192) dX7_readsOrder_131 (by decide) (fun c131 => absurd (by decide) c131) (fun c131 => ?_)
  refine g_aload_n dX7_readsOrder_134 rfl ?_
  refine g_aload_n dX7_readsOrder_135 rfl ?_
  refine g_gI dX7_readsOrder_136 fl_X7_154 (fun _ _ => rfl) rfl (by decide) ?_
  refine g_if_eq (tgt := 155) dX7_readsOrder_139 (by decide) (fun c139 => absurd c139 (by simp [pe_at])) (fun c139 => ?_)
  refine g_aload_n dX7_readsOrder_142 rfl ?_
  refine g_V0i dX7_readsOrder_143 ml_X7_158 sX7_sign rfl (by decide) (Nat.le_of_ble_eq_true rfl) (c_sign (F := (pe (pe (pe (pe (pe F 172 9 1) 172 8 (nI (i + 1))) 178 (3 * m) 103) 172 8 (nI (i + 1 + 1))) 178 (3 * m + 1) (y - 48))) (d + 2) l (i + 2) (by simp [pe_at, el]) hl (by simp [pe_at]) (by omega) z es_z) ?_
  refine g_bipushv (v := 46) dX7_readsOrder_146 rfl ?_
  refine g_icmp_ne (tgt := 155) dX7_readsOrder_148 (by decide) (fun c148 => ?_) (fun c148 => absurd c148 hz)
  refine g_iconstv (v := 0) dX7_readsOrder_155 rfl ?_
  refine g_pZ dX7_readsOrder_156 fl_X7_154 (Or.inl rfl) rfl (by decide) rfl (by first | exact Or.inl rfl | exact Or.inr rfl) ?_
  refine g_aload_n dX7_readsOrder_159 rfl ?_
  refine g_dup dX7_readsOrder_160 rfl ?_
  refine g_gI dX7_readsOrder_161 fl_X7_151 (fun _ _ => rfl) rfl (by decide) ?_
  refine g_aload_n dX7_readsOrder_164 rfl ?_
  refine g_gI dX7_readsOrder_165 fl_X7_154 (fun _ _ => rfl) rfl (by decide) ?_
  refine g_if_eq (tgt := 175) dX7_readsOrder_168 (by decide) (fun c168 => ?_) (fun c168 => absurd (by simp [pe_at]) c168)
  refine g_iconstv (v := 0) dX7_readsOrder_175 rfl ?_
  refine g_iadd dX7_readsOrder_176 ?_
  rw [show (pe (pe (pe (pe (pe (pe F 172 9 1) 172 8 (nI (i + 1))) 178 (3 * m) 103) 172 8 (nI (i + 1 + 1))) 178 (3 * m + 1) (y - 48)) 172 9 0) 172 8 = nI (i + 2) by simp [pe_at], Int32.add_zero]
  refine g_pI dX7_readsOrder_177 fl_X7_151 (Or.inl rfl) rfl (by decide) rfl ?_
  refine g_aload_n dX7_readsOrder_180 rfl ?_
  refine g_gR (r := 178) dX7_readsOrder_181 fl_X7_26 (fun _ _ => rfl) rfl (by decide) rfl ?_
  refine g_iload_n dX7_readsOrder_184 rfl ?_
  refine g_iconstv (v := 2) dX7_readsOrder_185 rfl ?_
  refine g_iadd dX7_readsOrder_186 ?_
  refine g_aload_n dX7_readsOrder_187 rfl ?_
  refine g_V0i dX7_readsOrder_188 ml_X7_161 sX7_digit rfl (by decide) (Nat.le_of_ble_eq_true rfl) (c_dg_off (F := (pe (pe (pe (pe (pe (pe (pe F 172 9 1) 172 8 (nI (i + 1))) 178 (3 * m) 103) 172 8 (nI (i + 1 + 1))) 178 (3 * m + 1) (y - 48)) 172 9 0) 172 8 (nI (i + 2)))) (d + 1) l (i + 2) (by simp [pe_at, el]) hl (by simp [pe_at]) (by omega) z es_z (by simp [pe_at])) ?_
  refine g_iastN (gx := (3 * m + 2)) dX7_readsOrder_191 rfl (by decide) (nI_add (3 * m) 2) (by omega) (by decide) ?_
  refine g_aload_n dX7_readsOrder_192 rfl ?_
  refine g_dup dX7_readsOrder_193 rfl ?_
  refine g_gI dX7_readsOrder_194 fl_X7_164 (fun _ _ => rfl) rfl (by decide) ?_
  refine g_aload_n dX7_readsOrder_197 rfl ?_
  refine g_gI dX7_readsOrder_198 fl_X7_154 (fun _ _ => rfl) rfl (by decide) ?_
  refine g_if_eq (tgt := 208) dX7_readsOrder_201 (by decide) (fun c201 => ?_) (fun c201 => absurd (by simp [pe_at]) c201)
  refine g_iconstv (v := 0) dX7_readsOrder_208 rfl ?_
  refine g_iadd dX7_readsOrder_209 ?_
  rw [show (pe (pe (pe (pe (pe (pe (pe (pe F 172 9 1) 172 8 (nI (i + 1))) 178 (3 * m) 103) 172 8 (nI (i + 1 + 1))) 178 (3 * m + 1) (y - 48)) 172 9 0) 172 8 (nI (i + 2))) 178 (3 * m + 2) (z - 48)) 172 11 = nI m by simp [pe_at, el, ea, em], Int32.add_zero]
  refine g_pI dX7_readsOrder_210 fl_X7_164 (Or.inl rfl) rfl (by decide) rfl ?_
  exact g_vret dX7_readsOrder_213 rfl
def yro_g2 (F : Nat → Nat → Int32) (i m : Nat) (x y z u : Int32) : Nat → Nat → Int32 := (pe (pe (pe (pe (pe (pe (pe (pe (pe (pe F 172 9 1) 172 8 (nI (i + 1))) 178 (3 * m) 103) 172 8 (nI (i + 1 + 1))) 178 (3 * m + 1) (y - 48)) 172 9 1) 172 8 (nI ((i + 2) + 1))) 172 9 0) 178 (3 * m + 2) (u - 48)) 172 11 (nI m))
set_option maxHeartbeats 4000000 in
set_option maxRecDepth 100000 in
theorem c_ro_g2 {L : Nat} {F : Nat → Nat → Int32} {g : Nat → Option Nat} (d : Nat) (l i m : Nat) (el : F 172 7 = nI l) (hl : l ≤ 80) (ea : F 172 8 = nI i) (hi : i ≤ 80) (em : F 172 11 = nI m) (hm : m ≤ 40) (x y z u : Int32) (es : mSg (F 177) l i = 103)  (es_y : mSg (F 177) l (i + 1) = y) (hy : 48 ≤ y ∧ y ≤ 57) (es_z : mSg (F 177) l (i + 2) = z) (hz : z = 46) (es_u : mSg (F 177) l (i + 3) = u) (hu : ¬ (48 ≤ u ∧ u ≤ 57)) : mCall (d + 3) yX7_readsOrder MX7_readsOrder [.ref 172] (mHX L F g) (none) (mHX L (yro_g2 F i m x y z u) g) := by
  refine mCall_of sX7_readsOrder.1 (Nat.le_of_ble_eq_true rfl) rfl ?_
  show mGo _ _ (0, [some (.ref 172), none, none], [], _) _
  refine g_iconstv (v := 3) dX7_readsOrder_0 rfl ?_
  refine g_aload_n dX7_readsOrder_1 rfl ?_
  refine g_gI dX7_readsOrder_2 fl_X7_164 (fun _ _ => rfl) rfl (by decide) ?_
  refine g_imul dX7_readsOrder_5 ?_
  rw [em, show (3 : Int32) = nI 3 from rfl, pk_mul]
  refine g_istore_n dX7_readsOrder_6 (by decide) rfl ?_
  refine g_aload_n dX7_readsOrder_7 rfl ?_
  refine g_V0i dX7_readsOrder_8 ml_X7_158 sX7_sign rfl (by decide) (Nat.le_of_ble_eq_true rfl) (c_sign (d + 2) l i el hl ea (by omega) 103 es) ?_
  refine g_istore_n dX7_readsOrder_11 (by decide) rfl ?_
  refine g_aload_n dX7_readsOrder_12 rfl ?_
  refine g_iload_n dX7_readsOrder_13 rfl ?_
  refine g_bipushv (v := 103) dX7_readsOrder_14 rfl ?_
  refine g_icmp_eq (tgt := 55) dX7_readsOrder_16 (by decide) (fun c16 => ?_) (fun c16 => absurd (by decide) c16)
  refine g_iconstv (v := 1) dX7_readsOrder_55 rfl ?_
  refine g_goto (tgt := 60) dX7_readsOrder_56 (by decide) ?_
  refine g_pZ dX7_readsOrder_60 fl_X7_154 (Or.inl rfl) rfl (by decide) rfl (by first | exact Or.inl rfl | exact Or.inr rfl) ?_
  refine g_aload_n dX7_readsOrder_63 rfl ?_
  refine g_dup dX7_readsOrder_64 rfl ?_
  refine g_gI dX7_readsOrder_65 fl_X7_151 (fun _ _ => rfl) rfl (by decide) ?_
  refine g_aload_n dX7_readsOrder_68 rfl ?_
  refine g_gI dX7_readsOrder_69 fl_X7_154 (fun _ _ => rfl) rfl (by decide) ?_
  refine g_if_eq (tgt := 79) dX7_readsOrder_72 (by decide) (fun c72 => absurd c72 (by simp [pe_at])) (fun c72 => ?_)
  refine g_iconstv (v := 1) dX7_readsOrder_75 rfl ?_
  refine g_goto (tgt := 80) dX7_readsOrder_76 (by decide) ?_
  refine g_iadd dX7_readsOrder_80 ?_
  rw [show (pe F 172 9 1) 172 8 = nI i by simp [pe_at, el, ea, em], nI_1]
  refine g_pI dX7_readsOrder_81 fl_X7_151 (Or.inl rfl) rfl (by decide) rfl ?_
  refine g_aload_n dX7_readsOrder_84 rfl ?_
  refine g_gR (r := 178) dX7_readsOrder_85 fl_X7_26 (fun _ _ => rfl) rfl (by decide) rfl ?_
  refine g_iload_n dX7_readsOrder_88 rfl ?_
  refine g_iload_n dX7_readsOrder_89 rfl ?_
  refine g_iastN (gx := (3 * m)) dX7_readsOrder_90 rfl (by decide) rfl (by omega) (by decide) ?_
  refine g_aload_n dX7_readsOrder_91 rfl ?_
  refine g_gR (r := 178) dX7_readsOrder_92 fl_X7_26 (fun _ _ => rfl) rfl (by decide) rfl ?_
  refine g_iload_n dX7_readsOrder_95 rfl ?_
  refine g_iconstv (v := 1) dX7_readsOrder_96 rfl ?_
  refine g_iadd dX7_readsOrder_97 ?_
  refine g_iload_n dX7_readsOrder_98 rfl ?_
  refine g_bipushv (v := 103) dX7_readsOrder_99 rfl ?_
  refine g_icmp_eq (tgt := 116) dX7_readsOrder_101 (by decide) (fun c101 => ?_) (fun c101 => absurd (by decide) c101)
  refine g_aload_n dX7_readsOrder_116 rfl ?_
  refine g_V0i dX7_readsOrder_117 ml_X7_161 sX7_digit rfl (by decide) (Nat.le_of_ble_eq_true rfl) (c_dg_yes (F := (pe (pe (pe F 172 9 1) 172 8 (nI (i + 1))) 178 (3 * m) 103)) (d + 1) l (i + 1) (by simp [pe_at, el]) hl (by simp [pe_at]) (by omega) y (by first | exact es_y | (simp [pe_at]; exact es_y)) (by simp [pe_at]) hy) ?_
  refine g_goto (tgt := 127) dX7_readsOrder_120 (by decide) ?_
  refine g_iastN (gx := (3 * m + 1)) dX7_readsOrder_127 rfl (by decide) (nI_1 (3 * m)) (by omega) (by decide) ?_
  refine g_iload_n dX7_readsOrder_128 rfl ?_
  refine g_bipushv (v := 103) dX7_readsOrder_129 rfl ?_
  refine g_icmp_ne (tgt := 192) dX7_readsOrder_131 (by decide) (fun c131 => absurd (by decide) c131) (fun c131 => ?_)
  refine g_aload_n dX7_readsOrder_134 rfl ?_
  refine g_aload_n dX7_readsOrder_135 rfl ?_
  refine g_gI dX7_readsOrder_136 fl_X7_154 (fun _ _ => rfl) rfl (by decide) ?_
  refine g_if_eq (tgt := 155) dX7_readsOrder_139 (by decide) (fun c139 => absurd c139 (by simp [pe_at])) (fun c139 => ?_)
  refine g_aload_n dX7_readsOrder_142 rfl ?_
  refine g_V0i dX7_readsOrder_143 ml_X7_158 sX7_sign rfl (by decide) (Nat.le_of_ble_eq_true rfl) (c_sign (F := (pe (pe (pe (pe (pe F 172 9 1) 172 8 (nI (i + 1))) 178 (3 * m) 103) 172 8 (nI (i + 1 + 1))) 178 (3 * m + 1) (y - 48))) (d + 2) l (i + 2) (by simp [pe_at, el]) hl (by simp [pe_at]) (by omega) z es_z) ?_
  refine g_bipushv (v := 46) dX7_readsOrder_146 rfl ?_
  refine g_icmp_ne (tgt := 155) dX7_readsOrder_148 (by decide) (fun c148 => absurd hz c148) (fun c148 => ?_)
  refine g_iconstv (v := 1) dX7_readsOrder_151 rfl ?_
  refine g_goto (tgt := 156) dX7_readsOrder_152 (by decide) ?_
  refine g_pZ dX7_readsOrder_156 fl_X7_154 (Or.inl rfl) rfl (by decide) rfl (by first | exact Or.inl rfl | exact Or.inr rfl) ?_
  refine g_aload_n dX7_readsOrder_159 rfl ?_
  refine g_dup dX7_readsOrder_160 rfl ?_
  refine g_gI dX7_readsOrder_161 fl_X7_151 (fun _ _ => rfl) rfl (by decide) ?_
  refine g_aload_n dX7_readsOrder_164 rfl ?_
  refine g_gI dX7_readsOrder_165 fl_X7_154 (fun _ _ => rfl) rfl (by decide) ?_
  refine g_if_eq (tgt := 175) dX7_readsOrder_168 (by decide) (fun c168 => absurd c168 (by simp [pe_at])) (fun c168 => ?_)
  refine g_iconstv (v := 1) dX7_readsOrder_171 rfl ?_
  refine g_goto (tgt := 176) dX7_readsOrder_172 (by decide) ?_
  refine g_iadd dX7_readsOrder_176 ?_
  rw [show (pe (pe (pe (pe (pe (pe F 172 9 1) 172 8 (nI (i + 1))) 178 (3 * m) 103) 172 8 (nI (i + 1 + 1))) 178 (3 * m + 1) (y - 48)) 172 9 1) 172 8 = nI (i + 2) by simp [pe_at], nI_1]
  refine g_pI dX7_readsOrder_177 fl_X7_151 (Or.inl rfl) rfl (by decide) rfl ?_
  refine g_aload_n dX7_readsOrder_180 rfl ?_
  refine g_gR (r := 178) dX7_readsOrder_181 fl_X7_26 (fun _ _ => rfl) rfl (by decide) rfl ?_
  refine g_iload_n dX7_readsOrder_184 rfl ?_
  refine g_iconstv (v := 2) dX7_readsOrder_185 rfl ?_
  refine g_iadd dX7_readsOrder_186 ?_
  refine g_aload_n dX7_readsOrder_187 rfl ?_
  refine g_V0i dX7_readsOrder_188 ml_X7_161 sX7_digit rfl (by decide) (Nat.le_of_ble_eq_true rfl) (c_dg_no (F := (pe (pe (pe (pe (pe (pe (pe F 172 9 1) 172 8 (nI (i + 1))) 178 (3 * m) 103) 172 8 (nI (i + 1 + 1))) 178 (3 * m + 1) (y - 48)) 172 9 1) 172 8 (nI ((i + 2) + 1)))) (d + 1) l (i + 2 + 1) (by simp [pe_at, el]) hl (by simp [pe_at]) (by omega) u (by first | exact es_u | (simp [pe_at]; exact es_u)) (by simp [pe_at]) hu) ?_
  refine g_iastN (gx := (3 * m + 2)) dX7_readsOrder_191 rfl (by decide) (nI_add (3 * m) 2) (by omega) (by decide) ?_
  refine g_aload_n dX7_readsOrder_192 rfl ?_
  refine g_dup dX7_readsOrder_193 rfl ?_
  refine g_gI dX7_readsOrder_194 fl_X7_164 (fun _ _ => rfl) rfl (by decide) ?_
  refine g_aload_n dX7_readsOrder_197 rfl ?_
  refine g_gI dX7_readsOrder_198 fl_X7_154 (fun _ _ => rfl) rfl (by decide) ?_
  refine g_if_eq (tgt := 208) dX7_readsOrder_201 (by decide) (fun c201 => ?_) (fun c201 => absurd (by simp [pe_at]) c201)
  refine g_iconstv (v := 0) dX7_readsOrder_208 rfl ?_
  refine g_iadd dX7_readsOrder_209 ?_
  rw [show (pe (pe (pe (pe (pe (pe (pe (pe (pe F 172 9 1) 172 8 (nI (i + 1))) 178 (3 * m) 103) 172 8 (nI (i + 1 + 1))) 178 (3 * m + 1) (y - 48)) 172 9 1) 172 8 (nI ((i + 2) + 1))) 172 9 0) 178 (3 * m + 2) (u - 48)) 172 11 = nI m by simp [pe_at, el, ea, em], Int32.add_zero]
  refine g_pI dX7_readsOrder_210 fl_X7_164 (Or.inl rfl) rfl (by decide) rfl ?_
  exact g_vret dX7_readsOrder_213 rfl
def yro_g3 (F : Nat → Nat → Int32) (i m : Nat) (x y z u : Int32) : Nat → Nat → Int32 := (pe (pe (pe (pe (pe (pe (pe (pe (pe (pe F 172 9 1) 172 8 (nI (i + 1))) 178 (3 * m) 103) 172 8 (nI (i + 1 + 1))) 178 (3 * m + 1) (y - 48)) 172 9 1) 172 8 (nI ((i + 2) + 1))) 172 8 (nI (i + 2 + 1 + 1))) 178 (3 * m + 2) (u - 48)) 172 11 (nI (m + 1)))
set_option maxHeartbeats 4000000 in
set_option maxRecDepth 100000 in
theorem c_ro_g3 {L : Nat} {F : Nat → Nat → Int32} {g : Nat → Option Nat} (d : Nat) (l i m : Nat) (el : F 172 7 = nI l) (hl : l ≤ 80) (ea : F 172 8 = nI i) (hi : i ≤ 80) (em : F 172 11 = nI m) (hm : m ≤ 40) (x y z u : Int32) (es : mSg (F 177) l i = 103)  (es_y : mSg (F 177) l (i + 1) = y) (hy : 48 ≤ y ∧ y ≤ 57) (es_z : mSg (F 177) l (i + 2) = z) (hz : z = 46) (es_u : mSg (F 177) l (i + 3) = u) (hu : 48 ≤ u ∧ u ≤ 57) : mCall (d + 3) yX7_readsOrder MX7_readsOrder [.ref 172] (mHX L F g) (none) (mHX L (yro_g3 F i m x y z u) g) := by
  refine mCall_of sX7_readsOrder.1 (Nat.le_of_ble_eq_true rfl) rfl ?_
  show mGo _ _ (0, [some (.ref 172), none, none], [], _) _
  refine g_iconstv (v := 3) dX7_readsOrder_0 rfl ?_
  refine g_aload_n dX7_readsOrder_1 rfl ?_
  refine g_gI dX7_readsOrder_2 fl_X7_164 (fun _ _ => rfl) rfl (by decide) ?_
  refine g_imul dX7_readsOrder_5 ?_
  rw [em, show (3 : Int32) = nI 3 from rfl, pk_mul]
  refine g_istore_n dX7_readsOrder_6 (by decide) rfl ?_
  refine g_aload_n dX7_readsOrder_7 rfl ?_
  refine g_V0i dX7_readsOrder_8 ml_X7_158 sX7_sign rfl (by decide) (Nat.le_of_ble_eq_true rfl) (c_sign (d + 2) l i el hl ea (by omega) 103 es) ?_
  refine g_istore_n dX7_readsOrder_11 (by decide) rfl ?_
  refine g_aload_n dX7_readsOrder_12 rfl ?_
  refine g_iload_n dX7_readsOrder_13 rfl ?_
  refine g_bipushv (v := 103) dX7_readsOrder_14 rfl ?_
  refine g_icmp_eq (tgt := 55) dX7_readsOrder_16 (by decide) (fun c16 => ?_) (fun c16 => absurd (by decide) c16)
  refine g_iconstv (v := 1) dX7_readsOrder_55 rfl ?_
  refine g_goto (tgt := 60) dX7_readsOrder_56 (by decide) ?_
  refine g_pZ dX7_readsOrder_60 fl_X7_154 (Or.inl rfl) rfl (by decide) rfl (by first | exact Or.inl rfl | exact Or.inr rfl) ?_
  refine g_aload_n dX7_readsOrder_63 rfl ?_
  refine g_dup dX7_readsOrder_64 rfl ?_
  refine g_gI dX7_readsOrder_65 fl_X7_151 (fun _ _ => rfl) rfl (by decide) ?_
  refine g_aload_n dX7_readsOrder_68 rfl ?_
  refine g_gI dX7_readsOrder_69 fl_X7_154 (fun _ _ => rfl) rfl (by decide) ?_
  refine g_if_eq (tgt := 79) dX7_readsOrder_72 (by decide) (fun c72 => absurd c72 (by simp [pe_at])) (fun c72 => ?_)
  refine g_iconstv (v := 1) dX7_readsOrder_75 rfl ?_
  refine g_goto (tgt := 80) dX7_readsOrder_76 (by decide) ?_
  refine g_iadd dX7_readsOrder_80 ?_
  rw [show (pe F 172 9 1) 172 8 = nI i by simp [pe_at, el, ea, em], nI_1]
  refine g_pI dX7_readsOrder_81 fl_X7_151 (Or.inl rfl) rfl (by decide) rfl ?_
  refine g_aload_n dX7_readsOrder_84 rfl ?_
  refine g_gR (r := 178) dX7_readsOrder_85 fl_X7_26 (fun _ _ => rfl) rfl (by decide) rfl ?_
  refine g_iload_n dX7_readsOrder_88 rfl ?_
  refine g_iload_n dX7_readsOrder_89 rfl ?_
  refine g_iastN (gx := (3 * m)) dX7_readsOrder_90 rfl (by decide) rfl (by omega) (by decide) ?_
  refine g_aload_n dX7_readsOrder_91 rfl ?_
  refine g_gR (r := 178) dX7_readsOrder_92 fl_X7_26 (fun _ _ => rfl) rfl (by decide) rfl ?_
  refine g_iload_n dX7_readsOrder_95 rfl ?_
  refine g_iconstv (v := 1) dX7_readsOrder_96 rfl ?_
  refine g_iadd dX7_readsOrder_97 ?_
  refine g_iload_n dX7_readsOrder_98 rfl ?_
  refine g_bipushv (v := 103) dX7_readsOrder_99 rfl ?_
  refine g_icmp_eq (tgt := 116) dX7_readsOrder_101 (by decide) (fun c101 => ?_) (fun c101 => absurd (by decide) c101)
  refine g_aload_n dX7_readsOrder_116 rfl ?_
  refine g_V0i dX7_readsOrder_117 ml_X7_161 sX7_digit rfl (by decide) (Nat.le_of_ble_eq_true rfl) (c_dg_yes (F := (pe (pe (pe F 172 9 1) 172 8 (nI (i + 1))) 178 (3 * m) 103)) (d + 1) l (i + 1) (by simp [pe_at, el]) hl (by simp [pe_at]) (by omega) y (by first | exact es_y | (simp [pe_at]; exact es_y)) (by simp [pe_at]) hy) ?_
  refine g_goto (tgt := 127) dX7_readsOrder_120 (by decide) ?_
  refine g_iastN (gx := (3 * m + 1)) dX7_readsOrder_127 rfl (by decide) (nI_1 (3 * m)) (by omega) (by decide) ?_
  refine g_iload_n dX7_readsOrder_128 rfl ?_
  refine g_bipushv (v := 103) dX7_readsOrder_129 rfl ?_
  refine g_icmp_ne (tgt := 192) dX7_readsOrder_131 (by decide) (fun c131 => absurd (by decide) c131) (fun c131 => ?_)
  refine g_aload_n dX7_readsOrder_134 rfl ?_
  refine g_aload_n dX7_readsOrder_135 rfl ?_
  refine g_gI dX7_readsOrder_136 fl_X7_154 (fun _ _ => rfl) rfl (by decide) ?_
  refine g_if_eq (tgt := 155) dX7_readsOrder_139 (by decide) (fun c139 => absurd c139 (by simp [pe_at])) (fun c139 => ?_)
  refine g_aload_n dX7_readsOrder_142 rfl ?_
  refine g_V0i dX7_readsOrder_143 ml_X7_158 sX7_sign rfl (by decide) (Nat.le_of_ble_eq_true rfl) (c_sign (F := (pe (pe (pe (pe (pe F 172 9 1) 172 8 (nI (i + 1))) 178 (3 * m) 103) 172 8 (nI (i + 1 + 1))) 178 (3 * m + 1) (y - 48))) (d + 2) l (i + 2) (by simp [pe_at, el]) hl (by simp [pe_at]) (by omega) z es_z) ?_
  refine g_bipushv (v := 46) dX7_readsOrder_146 rfl ?_
  refine g_icmp_ne (tgt := 155) dX7_readsOrder_148 (by decide) (fun c148 => absurd hz c148) (fun c148 => ?_)
  refine g_iconstv (v := 1) dX7_readsOrder_151 rfl ?_
  refine g_goto (tgt := 156) dX7_readsOrder_152 (by decide) ?_
  refine g_pZ dX7_readsOrder_156 fl_X7_154 (Or.inl rfl) rfl (by decide) rfl (by first | exact Or.inl rfl | exact Or.inr rfl) ?_
  refine g_aload_n dX7_readsOrder_159 rfl ?_
  refine g_dup dX7_readsOrder_160 rfl ?_
  refine g_gI dX7_readsOrder_161 fl_X7_151 (fun _ _ => rfl) rfl (by decide) ?_
  refine g_aload_n dX7_readsOrder_164 rfl ?_
  refine g_gI dX7_readsOrder_165 fl_X7_154 (fun _ _ => rfl) rfl (by decide) ?_
  refine g_if_eq (tgt := 175) dX7_readsOrder_168 (by decide) (fun c168 => absurd c168 (by simp [pe_at])) (fun c168 => ?_)
  refine g_iconstv (v := 1) dX7_readsOrder_171 rfl ?_
  refine g_goto (tgt := 176) dX7_readsOrder_172 (by decide) ?_
  refine g_iadd dX7_readsOrder_176 ?_
  rw [show (pe (pe (pe (pe (pe (pe F 172 9 1) 172 8 (nI (i + 1))) 178 (3 * m) 103) 172 8 (nI (i + 1 + 1))) 178 (3 * m + 1) (y - 48)) 172 9 1) 172 8 = nI (i + 2) by simp [pe_at], nI_1]
  refine g_pI dX7_readsOrder_177 fl_X7_151 (Or.inl rfl) rfl (by decide) rfl ?_
  refine g_aload_n dX7_readsOrder_180 rfl ?_
  refine g_gR (r := 178) dX7_readsOrder_181 fl_X7_26 (fun _ _ => rfl) rfl (by decide) rfl ?_
  refine g_iload_n dX7_readsOrder_184 rfl ?_
  refine g_iconstv (v := 2) dX7_readsOrder_185 rfl ?_
  refine g_iadd dX7_readsOrder_186 ?_
  refine g_aload_n dX7_readsOrder_187 rfl ?_
  refine g_V0i dX7_readsOrder_188 ml_X7_161 sX7_digit rfl (by decide) (Nat.le_of_ble_eq_true rfl) (c_dg_yes (F := (pe (pe (pe (pe (pe (pe (pe F 172 9 1) 172 8 (nI (i + 1))) 178 (3 * m) 103) 172 8 (nI (i + 1 + 1))) 178 (3 * m + 1) (y - 48)) 172 9 1) 172 8 (nI ((i + 2) + 1)))) (d + 1) l (i + 2 + 1) (by simp [pe_at, el]) hl (by simp [pe_at]) (by omega) u (by first | exact es_u | (simp [pe_at]; exact es_u)) (by simp [pe_at]) hu) ?_
  refine g_iastN (gx := (3 * m + 2)) dX7_readsOrder_191 rfl (by decide) (nI_add (3 * m) 2) (by omega) (by decide) ?_
  refine g_aload_n dX7_readsOrder_192 rfl ?_
  refine g_dup dX7_readsOrder_193 rfl ?_
  refine g_gI dX7_readsOrder_194 fl_X7_164 (fun _ _ => rfl) rfl (by decide) ?_
  refine g_aload_n dX7_readsOrder_197 rfl ?_
  refine g_gI dX7_readsOrder_198 fl_X7_154 (fun _ _ => rfl) rfl (by decide) ?_
  refine g_if_eq (tgt := 208) dX7_readsOrder_201 (by decide) (fun c201 => absurd c201 (by simp [pe_at])) (fun c201 => ?_)
  refine g_iconstv (v := 1) dX7_readsOrder_204 rfl ?_
  refine g_goto (tgt := 209) dX7_readsOrder_205 (by decide) ?_
  refine g_iadd dX7_readsOrder_209 ?_
  rw [show (pe (pe (pe (pe (pe (pe (pe (pe (pe F 172 9 1) 172 8 (nI (i + 1))) 178 (3 * m) 103) 172 8 (nI (i + 1 + 1))) 178 (3 * m + 1) (y - 48)) 172 9 1) 172 8 (nI ((i + 2) + 1))) 172 8 (nI (i + 2 + 1 + 1))) 178 (3 * m + 2) (u - 48)) 172 11 = nI m by simp [pe_at, el, ea, em], nI_1]
  refine g_pI dX7_readsOrder_210 fl_X7_164 (Or.inl rfl) rfl (by decide) rfl ?_
  exact g_vret dX7_readsOrder_213 rfl
