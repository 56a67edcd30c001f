set_option maxHeartbeats 4000000 in
set_option maxRecDepth 100000 in
theorem c_isTable {L : Nat} {F : Nat → Nat → Int32} {g : Nat → Option Nat} (d : Nat) (x : Int32) : mCall (d) yX6_isTable MX6_isTable [.int x] (mHX L F g) (some (.int (mbi (0 ≤ x ∧ x < 3)))) (mHX L F g) := by
  refine mCall_of sX6_isTable.1 (Nat.le_of_ble_eq_true rfl) ⟨_, rfl, mbi_ok⟩ ?_
  show mGo _ _ (0, [some (.int x)], [], _) _
  refine g_iload_n dX6_isTable_0 rfl ?_
  refine g_if_lt (tgt := 13) dX6_isTable_1 (by decide) (fun c1 => ?_) (fun c1 => ?_)
  · skip
    refine g_iconstv (v := 0) dX6_isTable_13 rfl ?_
    exact g_iret dX6_isTable_14 (m_ret (by unfold mbi; split <;> first | rfl | (exfalso; simp only [i_eq, i_lt, i_le, i_0, show (3 : Int32).toInt = 3 from by decide] at *; omega)))
  · skip
    refine g_iload_n dX6_isTable_4 rfl ?_
    refine g_iconstv (v := 3) dX6_isTable_5 rfl ?_
    refine g_icmp_ge (tgt := 13) dX6_isTable_6 (by decide) (fun c6 => ?_) (fun c6 => ?_)
    · skip
      refine g_iconstv (v := 0) dX6_isTable_13 rfl ?_
      exact g_iret dX6_isTable_14 (m_ret (by unfold mbi; split <;> first | rfl | (exfalso; simp only [i_eq, i_lt, i_le, i_0, show (3 : Int32).toInt = 3 from by decide] at *; omega)))
    · skip
      refine g_iconstv (v := 1) dX6_isTable_9 rfl ?_
      refine g_goto (tgt := 14) dX6_isTable_10 (by decide) ?_
      exact g_iret dX6_isTable_14 (m_ret (by unfold mbi; split <;> first | rfl | (exfalso; simp only [i_eq, i_lt, i_le, i_0, show (3 : Int32).toInt = 3 from by decide] at *; omega)))
def sB1 (x : Int32) : Int32 := x - ((x.toUInt32 >>> ((1 : Int32).toUInt32 &&& Int32.toUInt32 31)).toInt32 &&& 1431655765)
def sB2 (x : Int32) : Int32 := (x &&& 858993459) + ((x.toUInt32 >>> ((2 : Int32).toUInt32 &&& Int32.toUInt32 31)).toInt32 &&& 858993459)
def sB3 (x : Int32) : Int32 := (x + (x.toUInt32 >>> ((4 : Int32).toUInt32 &&& Int32.toUInt32 31)).toInt32) &&& 252645135
def sB4 (x : Int32) : Int32 := x + (x.toUInt32 >>> ((8 : Int32).toUInt32 &&& Int32.toUInt32 31)).toInt32
def sB5 (x : Int32) : Int32 := x + (x.toUInt32 >>> ((16 : Int32).toUInt32 &&& Int32.toUInt32 31)).toInt32
def sPop (x : Int32) : Int32 := sB5 (sB4 (sB3 (sB2 (sB1 x)))) &&& 63
set_option maxHeartbeats 4000000 in
set_option maxRecDepth 100000 in
theorem c_bitCount {hp : mHp} (d : Nat) (x : Int32) : mCall (d) yJ6_bitCount_0f7a4 MJ6_bitCount_0f7a4 [.int x] (hp) (some (.int (sPop x))) (hp) := by
  refine mCall_of sJ6_bitCount_0f7a4.1 (Nat.le_of_ble_eq_true rfl) ⟨_, rfl, rfl⟩ ?_
  show mGo _ _ (0, [some (.int x)], [], _) _
  refine g_iload_n dJ6_bitCount_0f7a4_0 rfl ?_
  refine g_iload_n dJ6_bitCount_0f7a4_1 rfl ?_
  refine g_iconstv (v := 1) dJ6_bitCount_0f7a4_2 rfl ?_
  refine g_iushr dJ6_bitCount_0f7a4_3 ?_
  refine g_ldcw dJ6_bitCount_0f7a4_4 kc_J6_265 ?_
  refine g_iand dJ6_bitCount_0f7a4_7 ?_
  refine g_isub dJ6_bitCount_0f7a4_8 ?_
  refine g_topi (fun x1 e1 => ?_)
  refine g_istore_n dJ6_bitCount_0f7a4_9 (by decide) rfl ?_
  refine g_iload_n dJ6_bitCount_0f7a4_10 rfl ?_
  refine g_ldcw dJ6_bitCount_0f7a4_11 kc_J6_266 ?_
  refine g_iand dJ6_bitCount_0f7a4_14 ?_
  refine g_iload_n dJ6_bitCount_0f7a4_15 rfl ?_
  refine g_iconstv (v := 2) dJ6_bitCount_0f7a4_16 rfl ?_
  refine g_iushr dJ6_bitCount_0f7a4_17 ?_
  refine g_ldcw dJ6_bitCount_0f7a4_18 kc_J6_266 ?_
  refine g_iand dJ6_bitCount_0f7a4_21 ?_
  refine g_iadd dJ6_bitCount_0f7a4_22 ?_
  refine g_topi (fun x2 e2 => ?_)
  refine g_istore_n dJ6_bitCount_0f7a4_23 (by decide) rfl ?_
  refine g_iload_n dJ6_bitCount_0f7a4_24 rfl ?_
  refine g_iload_n dJ6_bitCount_0f7a4_25 rfl ?_
  refine g_iconstv (v := 4) dJ6_bitCount_0f7a4_26 rfl ?_
  refine g_iushr dJ6_bitCount_0f7a4_27 ?_
  refine g_iadd dJ6_bitCount_0f7a4_28 ?_
  refine g_ldcw dJ6_bitCount_0f7a4_29 kc_J6_267 ?_
  refine g_iand dJ6_bitCount_0f7a4_32 ?_
  refine g_topi (fun x3 e3 => ?_)
  refine g_istore_n dJ6_bitCount_0f7a4_33 (by decide) rfl ?_
  refine g_iload_n dJ6_bitCount_0f7a4_34 rfl ?_
  refine g_iload_n dJ6_bitCount_0f7a4_35 rfl ?_
  refine g_bipushv (v := 8) dJ6_bitCount_0f7a4_36 rfl ?_
  refine g_iushr dJ6_bitCount_0f7a4_38 ?_
  refine g_iadd dJ6_bitCount_0f7a4_39 ?_
  refine g_topi (fun x4 e4 => ?_)
  refine g_istore_n dJ6_bitCount_0f7a4_40 (by decide) rfl ?_
  refine g_iload_n dJ6_bitCount_0f7a4_41 rfl ?_
  refine g_iload_n dJ6_bitCount_0f7a4_42 rfl ?_
  refine g_bipushv (v := 16) dJ6_bitCount_0f7a4_43 rfl ?_
  refine g_iushr dJ6_bitCount_0f7a4_45 ?_
  refine g_iadd dJ6_bitCount_0f7a4_46 ?_
  refine g_topi (fun x5 e5 => ?_)
  refine g_istore_n dJ6_bitCount_0f7a4_47 (by decide) rfl ?_
  refine g_iload_n dJ6_bitCount_0f7a4_48 rfl ?_
  refine g_bipushv (v := 63) dJ6_bitCount_0f7a4_49 rfl ?_
  refine g_iand dJ6_bitCount_0f7a4_51 ?_
  exact g_iret dJ6_bitCount_0f7a4_52 (m_ret (by rw [e5, e4, e3, e2, e1]; rfl))
def xTell (F : Nat → Nat → Int32) (h : Nat) (t s m w : Int32) : Nat → Nat → Int32 := (pe (pe (pe (pe (pe (pe (pe (cpB F 18 18 0 5 45) 18 0 (nI h)) 18 1 t) 18 2 s) 18 3 m) 18 4 w) 14 4 (if 10 < (((pe (pe (pe (pe (pe (cpB F 18 18 0 5 45) 18 0 (nI h)) 18 1 t) 18 2 s) 18 3 m) 18 4 w) 14 4) + 1) then 10 else (((pe (pe (pe (pe (pe (cpB F 18 18 0 5 45) 18 0 (nI h)) 18 1 t) 18 2 s) 18 3 m) 18 4 w) 14 4) + 1))) 17 h (((pe (pe (pe (pe (pe (pe (cpB F 18 18 0 5 45) 18 0 (nI h)) 18 1 t) 18 2 s) 18 3 m) 18 4 w) 14 4 (if 10 < (((pe (pe (pe (pe (pe (cpB F 18 18 0 5 45) 18 0 (nI h)) 18 1 t) 18 2 s) 18 3 m) 18 4 w) 14 4) + 1) then 10 else (((pe (pe (pe (pe (pe (cpB F 18 18 0 5 45) 18 0 (nI h)) 18 1 t) 18 2 s) 18 3 m) 18 4 w) 14 4) + 1))) 17 h) + 1))
set_option maxHeartbeats 4000000 in
set_option maxRecDepth 100000 in
theorem c_tellEnd {L : Nat} {F : Nat → Nat → Int32} {g : Nat → Option Nat} (d : Nat) (h : Nat) (hh : h < 3) (t s m w : Int32) : mCall (d + 1) yX2_tellEnd MX2_tellEnd [.ref 14, .int (nI h), .int t, .int s, .int m, .int w] (mHX L F g) (none) (mHX L (xTell F h t s m w) g) := by
  refine mCall_of sX2_tellEnd.1 (Nat.le_of_ble_eq_true rfl) rfl ?_
  show mGo _ _ (0, [some (.ref 14), some (.int (nI h)), some (.int t), some (.int s), some (.int m), some (.int w)], [], _) _
  refine g_aload_n dX2_tellEnd_0 rfl ?_
  refine g_gR (r := 18) dX2_tellEnd_1 fl_X2_21 (fun _ _ => rfl) rfl (by decide) rfl ?_
  refine g_iconstv (v := 0) dX2_tellEnd_4 rfl ?_
  refine g_aload_n dX2_tellEnd_5 rfl ?_
  refine g_gR (r := 18) dX2_tellEnd_6 fl_X2_21 (fun _ _ => rfl) rfl (by decide) rfl ?_
  refine g_iconstv (v := 5) dX2_tellEnd_9 rfl ?_
  refine g_aload_n dX2_tellEnd_10 rfl ?_
  refine g_gR (r := 18) dX2_tellEnd_11 fl_X2_21 (fun _ _ => rfl) rfl (by decide) rfl ?_
  refine g_alen dX2_tellEnd_14 rfl (by decide) (by decide) ?_
  refine g_iconstv (v := 5) dX2_tellEnd_15 rfl ?_
  refine g_isub dX2_tellEnd_16 ?_
  refine g_copyN 0 5 45 dX2_tellEnd_17 ml_X2_28 rfl rfl (by decide) (by decide) rfl rfl rfl (by decide) (by decide) (by decide) (by decide) (Nat.le_of_ble_eq_true rfl) ?_
  refine g_aload_n dX2_tellEnd_20 rfl ?_
  refine g_gR (r := 18) dX2_tellEnd_21 fl_X2_21 (fun _ _ => rfl) rfl (by decide) rfl ?_
  refine g_iconstv (v := 0) dX2_tellEnd_24 rfl ?_
  refine g_iload_n dX2_tellEnd_25 rfl ?_
  refine g_iastN (gx := 0) dX2_tellEnd_26 rfl (by decide) rfl (by omega) (by decide) ?_
  refine g_aload_n dX2_tellEnd_27 rfl ?_
  refine g_gR (r := 18) dX2_tellEnd_28 fl_X2_21 (fun _ _ => rfl) rfl (by decide) rfl ?_
  refine g_iconstv (v := 1) dX2_tellEnd_31 rfl ?_
  refine g_iload_n dX2_tellEnd_32 rfl ?_
  refine g_iastN (gx := 1) dX2_tellEnd_33 rfl (by decide) rfl (by omega) (by decide) ?_
  refine g_aload_n dX2_tellEnd_34 rfl ?_
  refine g_gR (r := 18) dX2_tellEnd_35 fl_X2_21 (fun _ _ => rfl) rfl (by decide) rfl ?_
  refine g_iconstv (v := 2) dX2_tellEnd_38 rfl ?_
  refine g_iload_n dX2_tellEnd_39 rfl ?_
  refine g_iastN (gx := 2) dX2_tellEnd_40 rfl (by decide) rfl (by omega) (by decide) ?_
  refine g_aload_n dX2_tellEnd_41 rfl ?_
  refine g_gR (r := 18) dX2_tellEnd_42 fl_X2_21 (fun _ _ => rfl) rfl (by decide) rfl ?_
  refine g_iconstv (v := 3) dX2_tellEnd_45 rfl ?_
  refine g_iload dX2_tellEnd_46 rfl ?_
  refine g_iastN (gx := 3) dX2_tellEnd_48 rfl (by decide) rfl (by omega) (by decide) ?_
  refine g_aload_n dX2_tellEnd_49 rfl ?_
  refine g_gR (r := 18) dX2_tellEnd_50 fl_X2_21 (fun _ _ => rfl) rfl (by decide) rfl ?_
  refine g_iconstv (v := 4) dX2_tellEnd_53 rfl ?_
  refine g_iload dX2_tellEnd_54 rfl ?_
  refine g_iastN (gx := 4) dX2_tellEnd_56 rfl (by decide) rfl (by omega) (by decide) ?_
  refine g_aload_n dX2_tellEnd_57 rfl ?_
  refine g_aload_n dX2_tellEnd_58 rfl ?_
  refine g_gI dX2_tellEnd_59 fl_X2_24 (fun _ _ => rfl) rfl (by decide) ?_
  refine g_iconstv (v := 1) dX2_tellEnd_62 rfl ?_
  refine g_iadd dX2_tellEnd_63 ?_
  refine g_bipushv (v := 10) dX2_tellEnd_64 rfl ?_
  refine g_min dX2_tellEnd_66 ml_X2_40 wm_min_stat wm_ini wm_min_code (Nat.le_of_ble_eq_true rfl) ?_
  refine g_pI dX2_tellEnd_69 fl_X2_24 (Or.inl rfl) rfl (by decide) rfl ?_
  refine g_aload_n dX2_tellEnd_72 rfl ?_
  refine g_gR (r := 17) dX2_tellEnd_73 fl_X2_18 (fun _ _ => rfl) rfl (by decide) rfl ?_
  refine g_iload_n dX2_tellEnd_76 rfl ?_
  refine g_dup2 dX2_tellEnd_77 rfl rfl ?_
  refine g_ialdN (gx := h) dX2_tellEnd_78 rfl (by decide) rfl (by omega) (by decide) ?_
  refine g_iconstv (v := 1) dX2_tellEnd_79 rfl ?_
  refine g_iadd dX2_tellEnd_80 ?_
  refine g_iastN (gx := h) dX2_tellEnd_81 rfl (by decide) rfl (by omega) (by decide) ?_
  exact g_vret dX2_tellEnd_82 rfl
def xEnter (F : Nat → Nat → Int32) (m : Nat) (s : Int32) : Nat → Nat → Int32 := (pe (pe F 15 m ((F 15 m) + 1)) 16 m (if ((pe F 15 m ((F 15 m) + 1)) 16 m) < s then s else ((pe F 15 m ((F 15 m) + 1)) 16 m)))
set_option maxHeartbeats 4000000 in
set_option maxRecDepth 100000 in
theorem c_enter {L : Nat} {F : Nat → Nat → Int32} {g : Nat → Option Nat} (d : Nat) (m : Nat) (h1 : 1 ≤ m) (h11 : m ≤ 11) (s : Int32) : mCall (d + 1) yX2_enterMeaning MX2_enterMeaning [.ref 14, .int (nI m), .int s] (mHX L F g) (none) (mHX L (xEnter F m s) g) := by
  refine mCall_of sX2_enterMeaning.1 (Nat.le_of_ble_eq_true rfl) rfl ?_
  show mGo _ _ (0, [some (.ref 14), some (.int (nI m)), some (.int s)], [], _) _
  refine g_iload_n dX2_enterMeaning_0 rfl ?_
  refine g_iconstv (v := 1) dX2_enterMeaning_1 rfl ?_
  refine g_icmp_lt (tgt := 11) dX2_enterMeaning_2 (by decide) (fun c2 => absurd c2 (nI_nlt (a := m) (b := 1) (by omega) (by omega))) (fun c2 => ?_)
  refine g_iload_n dX2_enterMeaning_5 rfl ?_
  refine g_bipushv (v := 11) dX2_enterMeaning_6 rfl ?_
  refine g_icmp_le (tgt := 12) dX2_enterMeaning_8 (by decide) (fun c8 => ?_) (fun c8 => absurd (nI_le (a := m) (b := 11) (by omega) (by omega)) c8)
  refine g_aload_n dX2_enterMeaning_12 rfl ?_
  refine g_gR (r := 15) dX2_enterMeaning_13 fl_X2_9 (fun _ _ => rfl) rfl (by decide) rfl ?_
  refine g_iload_n dX2_enterMeaning_16 rfl ?_
  refine g_dup2 dX2_enterMeaning_17 rfl rfl ?_
  refine g_ialdN (gx := m) dX2_enterMeaning_18 rfl (by decide) rfl (by omega) (by decide) ?_
  refine g_iconstv (v := 1) dX2_enterMeaning_19 rfl ?_
  refine g_iadd dX2_enterMeaning_20 ?_
  refine g_iastN (gx := m) dX2_enterMeaning_21 rfl (by decide) rfl (by omega) (by decide) ?_
  refine g_aload_n dX2_enterMeaning_22 rfl ?_
  refine g_gR (r := 16) dX2_enterMeaning_23 fl_X2_15 (fun _ _ => rfl) rfl (by decide) rfl ?_
  refine g_iload_n dX2_enterMeaning_26 rfl ?_
  refine g_aload_n dX2_enterMeaning_27 rfl ?_
  refine g_gR (r := 16) dX2_enterMeaning_28 fl_X2_15 (fun _ _ => rfl) rfl (by decide) rfl ?_
  refine g_iload_n dX2_enterMeaning_31 rfl ?_
  refine g_ialdN (gx := m) dX2_enterMeaning_32 rfl (by decide) rfl (by omega) (by decide) ?_
  refine g_iload_n dX2_enterMeaning_33 rfl ?_
  refine g_max dX2_enterMeaning_34 ml_X2_34 wm_max_stat wm_ini wm_max_code (Nat.le_of_ble_eq_true rfl) ?_
  refine g_iastN (gx := m) dX2_enterMeaning_37 rfl (by decide) rfl (by omega) (by decide) ?_
  exact g_vret dX2_enterMeaning_38 rfl
set_option maxHeartbeats 4000000 in
set_option maxRecDepth 100000 in
theorem c_enter0 {L : Nat} {F : Nat → Nat → Int32} {g : Nat → Option Nat} (d : Nat) (s : Int32) : mCall (d) yX2_enterMeaning MX2_enterMeaning [.ref 14, .int 0, .int s] (mHX L F g) (none) (mHX L F g) := by
  refine mCall_of sX2_enterMeaning.1 (Nat.le_of_ble_eq_true rfl) rfl ?_
  show mGo _ _ (0, [some (.ref 14), some (.int 0), some (.int s)], [], _) _
  refine g_iload_n dX2_enterMeaning_0 rfl ?_
  refine g_iconstv (v := 1) dX2_enterMeaning_1 rfl ?_
  refine g_icmp_lt (tgt := 11) dX2_enterMeaning_2 (by decide) (fun c2 => ?_) (fun c2 => absurd (by decide) c2)
  exact g_vret dX2_enterMeaning_11 rfl
def sMeantF (o : Nat → Int32) (a : Int32) (k : Nat) : Int32 := if o (k + 1) ≤ 0 then a else a ||| ((1 : Int32) <<< (nI (k + 1) &&& 31))
def sMeant (o : Nat → Int32) : Int32 := mfold (sMeantF o) 0 11
def sMostF (o : Nat → Int32) (a : Int32 × Int32) (k : Nat) : Int32 × Int32 := if o (k + 1) ≤ a.2 then a else (nI (k + 1), o (k + 1))
def sMost (o : Nat → Int32) : Int32 := (mfold (sMostF o) (-6, 0) 11).1
set_option maxHeartbeats 4000000 in
set_option maxRecDepth 100000 in
theorem lp_setOfMeant {L : Nat} {F : Nat → Nat → Int32} {g : Nat → Option Nat} (d : Nat) : ∀ (m k : Nat) (a : Int32), k + m = 11 → a = mfold (sMeantF (F 15)) 0 k → mGo MX2_setOfMeant (d) (4, [some (.ref 14), some (.int a), some (.int (nI (k + 1)))], [], mHX L F g) (some (.int (sMeant (F 15))), mHX L F g) := by
  intro m
  induction m with
  | zero =>
    intro k a hk ea
    obtain rfl : k = 11 := by omega
    refine g_iload_n dX2_setOfMeant_4 rfl ?_
    refine g_bipushv (v := 11) dX2_setOfMeant_5 rfl ?_
    refine g_icmp_gt (tgt := 31) dX2_setOfMeant_7 (by decide) (fun c7 => ?_) (fun c7 => absurd (nI_lt (a := 11) (b := 11 + 1) (by omega) (by omega)) c7)
    refine g_iload_n dX2_setOfMeant_31 rfl ?_
    exact g_iret dX2_setOfMeant_32 (m_ret ea.symm)
  | succ m ih =>
    intro k a hk ea
    refine g_iload_n dX2_setOfMeant_4 rfl ?_
    refine g_bipushv (v := 11) dX2_setOfMeant_5 rfl ?_
    refine g_icmp_gt (tgt := 31) dX2_setOfMeant_7 (by decide) (fun c7 => absurd c7 (nI_nlt (a := 11) (b := k + 1) (by omega) (by omega))) (fun c7 => ?_)
    refine g_aload_n dX2_setOfMeant_10 rfl ?_
    refine g_gR (r := 15) dX2_setOfMeant_11 fl_X2_9 (fun _ _ => rfl) rfl (by decide) rfl ?_
    refine g_iload_n dX2_setOfMeant_14 rfl ?_
    refine g_ialdN (gx := (k + 1)) dX2_setOfMeant_15 rfl (by decide) rfl (by omega) (by decide) ?_
    refine g_if_le (tgt := 25) dX2_setOfMeant_16 (by decide) (fun c16 => ?_) (fun c16 => ?_)
    · skip
      refine g_iincN dX2_setOfMeant_25 rfl (by decide) rfl ?_
      refine g_goto (tgt := 4) dX2_setOfMeant_28 (by decide) ?_
      exact ih (k + 1) _ (by omega) (by subst ea; rw [mfold_succ]; simp only [sMeantF, c16, if_true, if_false, reduceIte, eq_self])
    · skip
      refine g_iload_n dX2_setOfMeant_19 rfl ?_
      refine g_iconstv (v := 1) dX2_setOfMeant_20 rfl ?_
      refine g_iload_n dX2_setOfMeant_21 rfl ?_
      refine g_ishl dX2_setOfMeant_22 ?_
      refine g_ior dX2_setOfMeant_23 ?_
      refine g_istore_n dX2_setOfMeant_24 (by decide) rfl ?_
      refine g_iincN dX2_setOfMeant_25 rfl (by decide) rfl ?_
      refine g_goto (tgt := 4) dX2_setOfMeant_28 (by decide) ?_
      exact ih (k + 1) _ (by omega) (by subst ea; rw [mfold_succ]; simp only [sMeantF, c16, if_true, if_false, reduceIte, eq_self])
set_option maxHeartbeats 4000000 in
set_option maxRecDepth 100000 in
theorem c_setOfMeant {L : Nat} {F : Nat → Nat → Int32} {g : Nat → Option Nat} (d : Nat) : mCall (d) yX2_setOfMeant MX2_setOfMeant [.ref 14] (mHX L F g) (some (.int (sMeant (F 15)))) (mHX L F g) := by
  refine mCall_of sX2_setOfMeant.1 (Nat.le_of_ble_eq_true rfl) ⟨_, rfl, rfl⟩ ?_
  show mGo _ _ (0, [some (.ref 14), none, none], [], _) _
  refine g_iconstv (v := 0) dX2_setOfMeant_0 rfl ?_
  refine g_istore_n dX2_setOfMeant_1 (by decide) rfl ?_
  refine g_iconstv (v := 1) dX2_setOfMeant_2 rfl ?_
  refine g_istore_n dX2_setOfMeant_3 (by decide) rfl ?_
  exact lp_setOfMeant d 11 0 _ rfl rfl
set_option maxHeartbeats 4000000 in
set_option maxRecDepth 100000 in
theorem lp_mostMeant {L : Nat} {F : Nat → Nat → Int32} {g : Nat → Option Nat} (d : Nat) : ∀ (m k : Nat) (a : Int32) (b : Int32), k + m = 11 → a = (mfold (sMostF (F 15)) (-6, 0) k).1 → b = (mfold (sMostF (F 15)) (-6, 0) k).2 → mGo MX2_mostMeant (d) (7, [some (.ref 14), some (.int a), some (.int b), some (.int (nI (k + 1)))], [], mHX L F g) (some (.int (sMost (F 15))), mHX L F g) := by
  intro m
  induction m with
  | zero =>
    intro k a b hk ea eb
    obtain rfl : k = 11 := by omega
    refine g_iload_n dX2_mostMeant_7 rfl ?_
    refine g_bipushv (v := 11) dX2_mostMeant_8 rfl ?_
    refine g_icmp_gt (tgt := 38) dX2_mostMeant_10 (by decide) (fun c10 => ?_) (fun c10 => absurd (nI_lt (a := 11) (b := 11 + 1) (by omega) (by omega)) c10)
    refine g_iload_n dX2_mostMeant_38 rfl ?_
    exact g_iret dX2_mostMeant_39 (m_ret ea.symm)
  | succ m ih =>
    intro k a b hk ea eb
    refine g_iload_n dX2_mostMeant_7 rfl ?_
    refine g_bipushv (v := 11) dX2_mostMeant_8 rfl ?_
    refine g_icmp_gt (tgt := 38) dX2_mostMeant_10 (by decide) (fun c10 => absurd c10 (nI_nlt (a := 11) (b := k + 1) (by omega) (by omega))) (fun c10 => ?_)
    refine g_aload_n dX2_mostMeant_13 rfl ?_
    refine g_gR (r := 15) dX2_mostMeant_14 fl_X2_9 (fun _ _ => rfl) rfl (by decide) rfl ?_
    refine g_iload_n dX2_mostMeant_17 rfl ?_
    refine g_ialdN (gx := (k + 1)) dX2_mostMeant_18 rfl (by decide) rfl (by omega) (by decide) ?_
    refine g_iload_n dX2_mostMeant_19 rfl ?_
    refine g_icmp_le (tgt := 32) dX2_mostMeant_20 (by decide) (fun c20 => ?_) (fun c20 => ?_)
    · skip
      refine g_iincN dX2_mostMeant_32 rfl (by decide) rfl ?_
      refine g_goto (tgt := 7) dX2_mostMeant_35 (by decide) ?_
      exact ih (k + 1) _ _ (by omega) (by subst ea; subst eb; rw [mfold_succ]; simp only [sMostF, c20, if_true, if_false, reduceIte, eq_self]) (by subst ea; subst eb; rw [mfold_succ]; simp only [sMostF, c20, if_true, if_false, reduceIte, eq_self])
    · skip
      refine g_iload_n dX2_mostMeant_23 rfl ?_
      refine g_istore_n dX2_mostMeant_24 (by decide) rfl ?_
      refine g_aload_n dX2_mostMeant_25 rfl ?_
      refine g_gR (r := 15) dX2_mostMeant_26 fl_X2_9 (fun _ _ => rfl) rfl (by decide) rfl ?_
      refine g_iload_n dX2_mostMeant_29 rfl ?_
      refine g_ialdN (gx := (k + 1)) dX2_mostMeant_30 rfl (by decide) rfl (by omega) (by decide) ?_
      refine g_istore_n dX2_mostMeant_31 (by decide) rfl ?_
      refine g_iincN dX2_mostMeant_32 rfl (by decide) rfl ?_
      refine g_goto (tgt := 7) dX2_mostMeant_35 (by decide) ?_
      exact ih (k + 1) _ _ (by omega) (by subst ea; subst eb; rw [mfold_succ]; simp only [sMostF, c20, if_true, if_false, reduceIte, eq_self]) (by subst ea; subst eb; rw [mfold_succ]; simp only [sMostF, c20, if_true, if_false, reduceIte, eq_self])
set_option maxHeartbeats 4000000 in
set_option maxRecDepth 100000 in
theorem c_mostMeant {L : Nat} {F : Nat → Nat → Int32} {g : Nat → Option Nat} (d : Nat) : mCall (d) yX2_mostMeant MX2_mostMeant [.ref 14] (mHX L F g) (some (.int (sMost (F 15)))) (mHX L F g) := by
  refine mCall_of sX2_mostMeant.1 (Nat.le_of_ble_eq_true rfl) ⟨_, rfl, rfl⟩ ?_
  show mGo _ _ (0, [some (.ref 14), none, none, none], [], _) _
  refine g_bipushv (v := (-6)) dX2_mostMeant_0 rfl ?_
  refine g_istore_n dX2_mostMeant_2 (by decide) rfl ?_
  refine g_iconstv (v := 0) dX2_mostMeant_3 rfl ?_
  refine g_istore_n dX2_mostMeant_4 (by decide) rfl ?_
  refine g_iconstv (v := 1) dX2_mostMeant_5 rfl ?_
  refine g_istore_n dX2_mostMeant_6 (by decide) rfl ?_
  exact lp_mostMeant d 11 0 _ _ rfl rfl rfl
