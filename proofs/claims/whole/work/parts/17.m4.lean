set_option maxHeartbeats 4000000 in
set_option maxRecDepth 100000 in
theorem c_there {L : Nat} {F : Nat → Nat → Int32} {g : Nat → Option Nat} (d : Nat) (n : Nat) (hm : F 173 5 = nI n) (h10 : n ≤ 10) : mCall (d + 2) yX7_there MX7_there [.ref 172] (mHX L F g) (some (.int (((sSet (mC (F 173) 0) 0 n) ||| sSet (mC (F 173) 0) 1 n) ||| sSet (mC (F 173) 0) 2 n))) (mHX L F g) := by
  refine mCall_of sX7_there.1 (Nat.le_of_ble_eq_true rfl) ⟨_, rfl, rfl⟩ ?_
  show mGo _ _ (0, [some (.ref 172)], [], _) _
  refine g_aload_n dX7_there_0 rfl ?_
  refine g_iconstv (v := 0) dX7_there_1 rfl ?_
  refine g_V1i dX7_there_2 ml_X7_48 sX7_guestsAt rfl (by decide) (Nat.le_of_ble_eq_true rfl) (c_mSet d n hm h10 0) ?_
  refine g_aload_n dX7_there_5 rfl ?_
  refine g_iconstv (v := 1) dX7_there_6 rfl ?_
  refine g_V1i dX7_there_7 ml_X7_48 sX7_guestsAt rfl (by decide) (Nat.le_of_ble_eq_true rfl) (c_mSet d n hm h10 1) ?_
  refine g_ior dX7_there_10 ?_
  refine g_aload_n dX7_there_11 rfl ?_
  refine g_iconstv (v := 2) dX7_there_12 rfl ?_
  refine g_V1i dX7_there_13 ml_X7_48 sX7_guestsAt rfl (by decide) (Nat.le_of_ble_eq_true rfl) (c_mSet d n hm h10 2) ?_
  refine g_ior dX7_there_16 ?_
  exact g_iret dX7_there_17 rfl
def mP (S : Nat → Int32) (k : Nat) : Int32 := S (10 + k)
def mO (S : Nat → Int32) (j m : Nat) : Int32 := S (16 + 2 * (m - 1) + j)
set_option maxHeartbeats 4000000 in
set_option maxRecDepth 100000 in
theorem lp_mpauses {L : Nat} {F : Nat → Nat → Int32} {g : Nat → Option Nat} (d : Nat) : ∀ (m k : Nat) (a : Int32), k + m = 3 → a = mfold (sGoF (mP (F 173))) 0 k → mGo MX7_pauses (d + 1) (4, [some (.ref 172), some (.int a), some (.int (nI k))], [], mHX L F g) (some (.int (sGo (mP (F 173)))), mHX L F g) := by
  intro m
  induction m with
  | zero =>
    intro k a hk ea
    obtain rfl : k = 3 := by omega
    refine g_iload_n dX7_pauses_4 rfl ?_
    refine g_iconstv (v := 3) dX7_pauses_5 rfl ?_
    refine g_icmp_ge (tgt := 31) dX7_pauses_6 (by decide) (fun c6 => ?_) (fun c6 => absurd (nI_le (a := 3) (b := 3) (by omega) (by omega)) c6)
    refine g_iload_n dX7_pauses_31 rfl ?_
    exact g_iret dX7_pauses_32 (m_ret ea.symm)
  | succ m ih =>
    intro k a hk ea
    refine g_iload_n dX7_pauses_4 rfl ?_
    refine g_iconstv (v := 3) dX7_pauses_5 rfl ?_
    refine g_icmp_ge (tgt := 31) dX7_pauses_6 (by decide) (fun c6 => absurd c6 (nI_ge (a := k) (b := 3) (by omega) (by omega))) (fun c6 => ?_)
    refine g_iload_n dX7_pauses_9 rfl ?_
    refine g_aload_n dX7_pauses_10 rfl ?_
    refine g_iload_n dX7_pauses_11 rfl ?_
    refine g_V1i dX7_pauses_12 ml_X7_86 sX7_isPause rfl (by decide) (Nat.le_of_ble_eq_true rfl) (c_mPa d k (by omega)) ?_
    refine g_if_eq (tgt := 22) dX7_pauses_15 (by decide) (fun c15 => ?_) (fun c15 => ?_)
    · skip
      refine g_iconstv (v := 0) dX7_pauses_22 rfl ?_
      refine g_iadd dX7_pauses_23 ?_
      refine g_istore_n dX7_pauses_24 (by decide) rfl ?_
      refine g_iincN dX7_pauses_25 rfl (by decide) rfl ?_
      refine g_goto (tgt := 4) dX7_pauses_28 (by decide) ?_
      exact ih (k + 1) _ (by omega) (by subst ea; exact congrArg (fun y => mfold (sGoF (mP (F 173))) 0 k + y) (if_pos (show mP (F 173) k = (-6) from Decidable.not_not.mp (mbi_0.mp c15))).symm)
    · skip
      refine g_iconstv (v := 1) dX7_pauses_18 rfl ?_
      refine g_goto (tgt := 23) dX7_pauses_19 (by decide) ?_
      refine g_iadd dX7_pauses_23 ?_
      refine g_istore_n dX7_pauses_24 (by decide) rfl ?_
      refine g_iincN dX7_pauses_25 rfl (by decide) rfl ?_
      refine g_goto (tgt := 4) dX7_pauses_28 (by decide) ?_
      exact ih (k + 1) _ (by omega) (by subst ea; exact congrArg (fun y => mfold (sGoF (mP (F 173))) 0 k + y) (if_neg (show ¬ mP (F 173) k = (-6) from mbi_n0.mp c15)).symm)
set_option maxHeartbeats 4000000 in
set_option maxRecDepth 100000 in
theorem c_mpauses {L : Nat} {F : Nat → Nat → Int32} {g : Nat → Option Nat} (d : Nat) : mCall (d + 1) yX7_pauses MX7_pauses [.ref 172] (mHX L F g) (some (.int (sGo (mP (F 173))))) (mHX L F g) := by
  refine mCall_of sX7_pauses.1 (Nat.le_of_ble_eq_true rfl) ⟨_, rfl, rfl⟩ ?_
  show mGo _ _ (0, [some (.ref 172), none, none], [], _) _
  refine g_iconstv (v := 0) dX7_pauses_0 rfl ?_
  refine g_istore_n dX7_pauses_1 (by decide) rfl ?_
  refine g_iconstv (v := 0) dX7_pauses_2 rfl ?_
  refine g_istore_n dX7_pauses_3 (by decide) rfl ?_
  exact lp_mpauses d 3 0 _ rfl rfl
set_option maxHeartbeats 4000000 in
set_option maxRecDepth 100000 in
theorem lp_sumA {L : Nat} {F : Nat → Nat → Int32} {g : Nat → Option Nat} (d : Nat) (n : Nat) (hm : F 173 5 = nI n) (h10 : n ≤ 10) : ∀ (m k : Nat) (a : Int32), k + m = n → a = sSum (mC (F 173) 2) k → mGo MX7_sumOf (d + 1) (5, [some (.ref 172), some (.int 2), some (.int 1), some (.int a), some (.int (nI k))], [], mHX L F g) (some (.int (sSum (mC (F 173) 2) n)), mHX L F g) := by
  intro m
  induction m with
  | zero =>
    intro k a hk ea
    obtain rfl : k = n := by omega
    refine g_iload dX7_sumOf_5 rfl ?_
    refine g_aload_n dX7_sumOf_7 rfl ?_
    refine g_gR (r := 173) dX7_sumOf_8 fl_X7_7 (fun _ _ => rfl) rfl (by decide) rfl ?_
    refine g_iconstv (v := 5) dX7_sumOf_11 rfl ?_
    refine g_ialdN (gx := 5) dX7_sumOf_12 rfl (by decide) rfl (by omega) (by decide) ?_
    refine g_icmp_ge (tgt := 52) dX7_sumOf_13 (by decide) (fun c13 => ?_) (fun c13 => absurd (by rw [hm]; exact Int32.le_refl _) c13)
    refine g_iload_n dX7_sumOf_52 rfl ?_
    exact g_iret dX7_sumOf_53 (m_ret ea.symm)
  | succ m ih =>
    intro k a hk ea
    refine g_iload dX7_sumOf_5 rfl ?_
    refine g_aload_n dX7_sumOf_7 rfl ?_
    refine g_gR (r := 173) dX7_sumOf_8 fl_X7_7 (fun _ _ => rfl) rfl (by decide) rfl ?_
    refine g_iconstv (v := 5) dX7_sumOf_11 rfl ?_
    refine g_ialdN (gx := 5) dX7_sumOf_12 rfl (by decide) rfl (by omega) (by decide) ?_
    refine g_icmp_ge (tgt := 52) dX7_sumOf_13 (by decide) (fun c13 => absurd c13 (by rw [hm]; exact nI_ge (by omega) (by omega))) (fun c13 => ?_)
    refine g_iload_n dX7_sumOf_16 rfl ?_
    refine g_iload_n dX7_sumOf_17 rfl ?_
    refine g_if_ne (tgt := 33) dX7_sumOf_18 (by decide) (fun c18 => ?_) (fun c18 => absurd c18 (by decide))
    refine g_aload_n dX7_sumOf_33 rfl ?_
    refine g_iload dX7_sumOf_34 rfl ?_
    refine g_iload_n dX7_sumOf_36 rfl ?_
    refine g_V2i dX7_sumOf_37 ml_X7_40 sX7_has rfl (by decide) (Nat.le_of_ble_eq_true rfl) (c_has (F := F) (d) k 2 (by omega) (by decide)) ?_
    refine g_goto (tgt := 44) dX7_sumOf_40 (by decide) ?_
    refine g_iadd dX7_sumOf_44 ?_
    refine g_istore_n dX7_sumOf_45 (by decide) rfl ?_
    refine g_iincN dX7_sumOf_46 rfl (by decide) rfl ?_
    refine g_goto (tgt := 5) dX7_sumOf_49 (by decide) ?_
    exact ih (k + 1) _ (by omega) (by subst ea; simp [sSum, sSumHere, mfold, ])
set_option maxHeartbeats 4000000 in
set_option maxRecDepth 100000 in
theorem c_sumA {L : Nat} {F : Nat → Nat → Int32} {g : Nat → Option Nat} (d : Nat) (n : Nat) (hm : F 173 5 = nI n) (h10 : n ≤ 10) : mCall (d + 1) yX7_sumOf MX7_sumOf [.ref 172, .int 2, .int 1] (mHX L F g) (some (.int (sSum (mC (F 173) 2) n))) (mHX L F g) := by
  refine mCall_of sX7_sumOf.1 (Nat.le_of_ble_eq_true rfl) ⟨_, rfl, rfl⟩ ?_
  show mGo _ _ (0, [some (.ref 172), some (.int 2), some (.int 1), none, none], [], _) _
  refine g_iconstv (v := 0) dX7_sumOf_0 rfl ?_
  refine g_istore_n dX7_sumOf_1 (by decide) rfl ?_
  refine g_iconstv (v := 0) dX7_sumOf_2 rfl ?_
  refine g_istore dX7_sumOf_3 (by decide) rfl ?_
  exact lp_sumA d n hm h10 n 0 _ (Nat.zero_add n) rfl
set_option maxHeartbeats 4000000 in
set_option maxRecDepth 100000 in
theorem lp_sumH {L : Nat} {F : Nat → Nat → Int32} {g : Nat → Option Nat} (d : Nat) (n : Nat) (hm : F 173 5 = nI n) (h10 : n ≤ 10) : ∀ (m k : Nat) (a : Int32), k + m = n → a = sSumHere (mC (F 173) 0) (mC (F 173) 3) k → mGo MX7_sumOf (d + 1) (5, [some (.ref 172), some (.int 3), some (.int 0), some (.int a), some (.int (nI k))], [], mHX L F g) (some (.int (sSumHere (mC (F 173) 0) (mC (F 173) 3) n)), mHX L F g) := by
  intro m
  induction m with
  | zero =>
    intro k a hk ea
    obtain rfl : k = n := by omega
    refine g_iload dX7_sumOf_5 rfl ?_
    refine g_aload_n dX7_sumOf_7 rfl ?_
    refine g_gR (r := 173) dX7_sumOf_8 fl_X7_7 (fun _ _ => rfl) rfl (by decide) rfl ?_
    refine g_iconstv (v := 5) dX7_sumOf_11 rfl ?_
    refine g_ialdN (gx := 5) dX7_sumOf_12 rfl (by decide) rfl (by omega) (by decide) ?_
    refine g_icmp_ge (tgt := 52) dX7_sumOf_13 (by decide) (fun c13 => ?_) (fun c13 => absurd (by rw [hm]; exact Int32.le_refl _) c13)
    refine g_iload_n dX7_sumOf_52 rfl ?_
    exact g_iret dX7_sumOf_53 (m_ret ea.symm)
  | succ m ih =>
    intro k a hk ea
    refine g_iload dX7_sumOf_5 rfl ?_
    refine g_aload_n dX7_sumOf_7 rfl ?_
    refine g_gR (r := 173) dX7_sumOf_8 fl_X7_7 (fun _ _ => rfl) rfl (by decide) rfl ?_
    refine g_iconstv (v := 5) dX7_sumOf_11 rfl ?_
    refine g_ialdN (gx := 5) dX7_sumOf_12 rfl (by decide) rfl (by omega) (by decide) ?_
    refine g_icmp_ge (tgt := 52) dX7_sumOf_13 (by decide) (fun c13 => absurd c13 (by rw [hm]; exact nI_ge (by omega) (by omega))) (fun c13 => ?_)
    refine g_iload_n dX7_sumOf_16 rfl ?_
    refine g_iload_n dX7_sumOf_17 rfl ?_
    refine g_if_ne (tgt := 33) dX7_sumOf_18 (by decide) (fun c18 => absurd (by decide) c18) (fun c18 => ?_)
    refine g_aload_n dX7_sumOf_21 rfl ?_
    refine g_iload dX7_sumOf_22 rfl ?_
    refine g_iconstv (v := 0) dX7_sumOf_24 rfl ?_
    refine g_V2i dX7_sumOf_25 ml_X7_40 sX7_has rfl (by decide) (Nat.le_of_ble_eq_true rfl) (c_has (F := F) (d) k 0 (by omega) (by decide)) ?_
    refine g_bipushv (v := (-6)) dX7_sumOf_28 rfl ?_
    refine g_icmp_eq (tgt := 43) dX7_sumOf_30 (by decide) (fun c30 => ?_) (fun c30 => ?_)
    · skip
      refine g_iconstv (v := 0) dX7_sumOf_43 rfl ?_
      refine g_iadd dX7_sumOf_44 ?_
      refine g_istore_n dX7_sumOf_45 (by decide) rfl ?_
      refine g_iincN dX7_sumOf_46 rfl (by decide) rfl ?_
      refine g_goto (tgt := 5) dX7_sumOf_49 (by decide) ?_
      exact ih (k + 1) _ (by omega) (by subst ea; simp [sSum, sSumHere, mfold, c30])
    · skip
      refine g_aload_n dX7_sumOf_33 rfl ?_
      refine g_iload dX7_sumOf_34 rfl ?_
      refine g_iload_n dX7_sumOf_36 rfl ?_
      refine g_V2i dX7_sumOf_37 ml_X7_40 sX7_has rfl (by decide) (Nat.le_of_ble_eq_true rfl) (c_has (F := F) (d) k 3 (by omega) (by decide)) ?_
      refine g_goto (tgt := 44) dX7_sumOf_40 (by decide) ?_
      refine g_iadd dX7_sumOf_44 ?_
      refine g_istore_n dX7_sumOf_45 (by decide) rfl ?_
      refine g_iincN dX7_sumOf_46 rfl (by decide) rfl ?_
      refine g_goto (tgt := 5) dX7_sumOf_49 (by decide) ?_
      exact ih (k + 1) _ (by omega) (by subst ea; simp [sSum, sSumHere, mfold, c30])
set_option maxHeartbeats 4000000 in
set_option maxRecDepth 100000 in
theorem c_sumH {L : Nat} {F : Nat → Nat → Int32} {g : Nat → Option Nat} (d : Nat) (n : Nat) (hm : F 173 5 = nI n) (h10 : n ≤ 10) : mCall (d + 1) yX7_sumOf MX7_sumOf [.ref 172, .int 3, .int 0] (mHX L F g) (some (.int (sSumHere (mC (F 173) 0) (mC (F 173) 3) n))) (mHX L F g) := by
  refine mCall_of sX7_sumOf.1 (Nat.le_of_ble_eq_true rfl) ⟨_, rfl, rfl⟩ ?_
  show mGo _ _ (0, [some (.ref 172), some (.int 3), some (.int 0), none, none], [], _) _
  refine g_iconstv (v := 0) dX7_sumOf_0 rfl ?_
  refine g_istore_n dX7_sumOf_1 (by decide) rfl ?_
  refine g_iconstv (v := 0) dX7_sumOf_2 rfl ?_
  refine g_istore dX7_sumOf_3 (by decide) rfl ?_
  exact lp_sumH d n hm h10 n 0 _ (Nat.zero_add n) rfl
set_option maxHeartbeats 4000000 in
set_option maxRecDepth 100000 in
theorem lp_mmeant {L : Nat} {F : Nat → Nat → Int32} {g : Nat → Option Nat} (d : Nat) : ∀ (m k : Nat) (a : Int32), k + m = 11 → a = mfold (sMeantF (mO (F 173) 0)) 0 k → mGo MX7_meantSet (d) (4, [some (.ref 172), some (.int a), some (.int (nI (k + 1)))], [], mHX L F g) (some (.int (sMeant (mO (F 173) 0))), mHX L F g) := by
  intro m
  induction m with
  | zero =>
    intro k a hk ea
    obtain rfl : k = 11 := by omega
    refine g_iload_n dX7_meantSet_4 rfl ?_
    refine g_bipushv (v := 11) dX7_meantSet_5 rfl ?_
    refine g_icmp_gt (tgt := 42) dX7_meantSet_7 (by decide) (fun c7 => ?_) (fun c7 => absurd (nI_lt (a := 11) (b := 11 + 1) (by omega) (by omega)) c7)
    refine g_iload_n dX7_meantSet_42 rfl ?_
    exact g_iret dX7_meantSet_43 (m_ret ea.symm)
  | succ m ih =>
    intro k a hk ea
    refine g_iload_n dX7_meantSet_4 rfl ?_
    refine g_bipushv (v := 11) dX7_meantSet_5 rfl ?_
    refine g_icmp_gt (tgt := 42) dX7_meantSet_7 (by decide) (fun c7 => absurd c7 (nI_nlt (a := 11) (b := k + 1) (by omega) (by omega))) (fun c7 => ?_)
    refine g_iload_n dX7_meantSet_10 rfl ?_
    refine g_aload_n dX7_meantSet_11 rfl ?_
    refine g_gR (r := 173) dX7_meantSet_12 fl_X7_7 (fun _ _ => rfl) rfl (by decide) rfl ?_
    refine g_bipushv (v := 16) dX7_meantSet_15 rfl ?_
    refine g_iconstv (v := 2) dX7_meantSet_17 rfl ?_
    refine g_iload_n dX7_meantSet_18 rfl ?_
    refine g_iconstv (v := 1) dX7_meantSet_19 rfl ?_
    refine g_isub dX7_meantSet_20 ?_
    refine g_imul dX7_meantSet_21 ?_
    refine g_iadd dX7_meantSet_22 ?_
    refine g_ialdN (gx := (16 + 2 * (k + 1 - 1) + 0)) dX7_meantSet_23 rfl (by decide) (by rw [show (nI (k + 1) - 1 : Int32) = nI (k + 1 - 1) from pk_sub (b := 1) (by omega), show (2 : Int32) = nI 2 from rfl, pk_mul, show (16 : Int32) = nI 16 from rfl, nI_add]; rfl) (by omega) (by decide) ?_
    refine g_if_le (tgt := 33) dX7_meantSet_24 (by decide) (fun c24 => ?_) (fun c24 => ?_)
    · skip
      refine g_iconstv (v := 0) dX7_meantSet_33 rfl ?_
      refine g_ior dX7_meantSet_34 ?_
      refine g_istore_n dX7_meantSet_35 (by decide) rfl ?_
      refine g_iincN dX7_meantSet_36 rfl (by decide) rfl ?_
      refine g_goto (tgt := 4) dX7_meantSet_39 (by decide) ?_
      exact ih (k + 1) _ (by omega) (by subst ea; rw [mfold_succ]; simp only [sMeantF, mO, Int32.or_zero, c24, if_true, if_false, reduceIte, eq_self])
    · skip
      refine g_iconstv (v := 1) dX7_meantSet_27 rfl ?_
      refine g_iload_n dX7_meantSet_28 rfl ?_
      refine g_ishl dX7_meantSet_29 ?_
      refine g_goto (tgt := 34) dX7_meantSet_30 (by decide) ?_
      refine g_ior dX7_meantSet_34 ?_
      refine g_istore_n dX7_meantSet_35 (by decide) rfl ?_
      refine g_iincN dX7_meantSet_36 rfl (by decide) rfl ?_
      refine g_goto (tgt := 4) dX7_meantSet_39 (by decide) ?_
      exact ih (k + 1) _ (by omega) (by subst ea; rw [mfold_succ]; simp only [sMeantF, mO, Int32.or_zero, c24, if_true, if_false, reduceIte, eq_self])
set_option maxHeartbeats 4000000 in
set_option maxRecDepth 100000 in
theorem c_mmeant {L : Nat} {F : Nat → Nat → Int32} {g : Nat → Option Nat} (d : Nat) : mCall (d) yX7_meantSet MX7_meantSet [.ref 172] (mHX L F g) (some (.int (sMeant (mO (F 173) 0)))) (mHX L F g) := by
  refine mCall_of sX7_meantSet.1 (Nat.le_of_ble_eq_true rfl) ⟨_, rfl, rfl⟩ ?_
  show mGo _ _ (0, [some (.ref 172), none, none], [], _) _
  refine g_iconstv (v := 0) dX7_meantSet_0 rfl ?_
  refine g_istore_n dX7_meantSet_1 (by decide) rfl ?_
  refine g_iconstv (v := 1) dX7_meantSet_2 rfl ?_
  refine g_istore_n dX7_meantSet_3 (by decide) rfl ?_
  exact lp_mmeant d 11 0 _ rfl rfl
set_option maxHeartbeats 4000000 in
set_option maxRecDepth 100000 in
theorem lp_musual {L : Nat} {F : Nat → Nat → Int32} {g : Nat → Option Nat} (d : Nat)  : ∀ (m k : Nat) (a : Int32) (b : Int32) (j : Option Value), k + m = 11 → a = (mfold (sMostF (mO (F 173) 0)) (-6, 0) k).1 → b = (mfold (sMostF (mO (F 173) 0)) (-6, 0) k).2 → j = j → mGo MX7_usual (d) (12, [some (.ref 172), some (.int a), some (.int b), some (.int (nI (k + 1))), j], [], mHX L F g) (some (.int (sMost (mO (F 173) 0))), mHX L F g) := by
  intro m
  induction m with
  | zero =>
    intro k a b j hk ea eb ej
    obtain rfl : k = 11 := by omega
    refine g_iload_n dX7_usual_12 rfl ?_
    refine g_bipushv (v := 11) dX7_usual_13 rfl ?_
    refine g_icmp_gt (tgt := 64) dX7_usual_15 (by decide) (fun c15 => ?_) (fun c15 => absurd (nI_lt (a := 11) (b := 11 + 1) (by omega) (by omega)) c15)
    refine g_iload_n dX7_usual_64 rfl ?_
    exact g_iret dX7_usual_65 (m_ret ea.symm)
  | succ m ih =>
    intro k a b j hk ea eb ej
    refine g_iload_n dX7_usual_12 rfl ?_
    refine g_bipushv (v := 11) dX7_usual_13 rfl ?_
    refine g_icmp_gt (tgt := 64) dX7_usual_15 (by decide) (fun c15 => absurd c15 (nI_nlt (a := 11) (b := k + 1) (by omega) (by omega))) (fun c15 => ?_)
    refine g_aload_n dX7_usual_18 rfl ?_
    refine g_gR (r := 173) dX7_usual_19 fl_X7_7 (fun _ _ => rfl) rfl (by decide) rfl ?_
    refine g_bipushv (v := 16) dX7_usual_22 rfl ?_
    refine g_iconstv (v := 2) dX7_usual_24 rfl ?_
    refine g_iload_n dX7_usual_25 rfl ?_
    refine g_iconstv (v := 1) dX7_usual_26 rfl ?_
    refine g_isub dX7_usual_27 ?_
    refine g_imul dX7_usual_28 ?_
    refine g_iadd dX7_usual_29 ?_
    refine g_ialdN (gx := (16 + 2 * (k + 1 - 1) + 0)) dX7_usual_30 rfl (by decide) (by rw [show (nI (k + 1) - 1 : Int32) = nI (k + 1 - 1) from pk_sub (b := 1) (by omega), show (2 : Int32) = nI 2 from rfl, pk_mul, show (16 : Int32) = nI 16 from rfl, nI_add]; rfl) (by omega) (by decide) ?_
    refine g_istore dX7_usual_31 (by decide) rfl ?_
    refine g_iload dX7_usual_33 rfl ?_
    refine g_iload_n dX7_usual_35 rfl ?_
    refine g_icmp_le (tgt := 43) dX7_usual_36 (by decide) (fun c36 => ?_) (fun c36 => ?_)
    · skip
      refine g_iload_n dX7_usual_43 rfl ?_
      refine g_istore_n dX7_usual_44 (by decide) rfl ?_
      refine g_iload dX7_usual_45 rfl ?_
      refine g_iload_n dX7_usual_47 rfl ?_
      refine g_icmp_le (tgt := 56) dX7_usual_48 (by decide) (fun c48 => ?_) (fun c48 => ?_)
      · skip
        refine g_iload_n dX7_usual_56 rfl ?_
        refine g_istore_n dX7_usual_57 (by decide) rfl ?_
        refine g_iincN dX7_usual_58 rfl (by decide) rfl ?_
        refine g_goto (tgt := 12) dX7_usual_61 (by decide) ?_
        exact ih (k + 1) _ _ _ (by omega) (by first | exact absurd c36 c48 | exact absurd c48 c36 | (subst ea; subst eb; rw [mfold_succ]; simp only [sMostF, mO, c36, c48, if_true, if_false, reduceIte, eq_self])) (by first | exact absurd c36 c48 | exact absurd c48 c36 | (subst ea; subst eb; rw [mfold_succ]; simp only [sMostF, mO, c36, c48, if_true, if_false, reduceIte, eq_self])) rfl
      · skip
        refine g_iload dX7_usual_51 rfl ?_
        refine g_goto (tgt := 57) dX7_usual_53 (by decide) ?_
        refine g_istore_n dX7_usual_57 (by decide) rfl ?_
        refine g_iincN dX7_usual_58 rfl (by decide) rfl ?_
        refine g_goto (tgt := 12) dX7_usual_61 (by decide) ?_
        exact ih (k + 1) _ _ _ (by omega) (by first | exact absurd c36 c48 | exact absurd c48 c36 | (subst ea; subst eb; rw [mfold_succ]; simp only [sMostF, mO, c36, c48, if_true, if_false, reduceIte, eq_self])) (by first | exact absurd c36 c48 | exact absurd c48 c36 | (subst ea; subst eb; rw [mfold_succ]; simp only [sMostF, mO, c36, c48, if_true, if_false, reduceIte, eq_self])) rfl
    · skip
      refine g_iload_n dX7_usual_39 rfl ?_
      refine g_goto (tgt := 44) dX7_usual_40 (by decide) ?_
      refine g_istore_n dX7_usual_44 (by decide) rfl ?_
      refine g_iload dX7_usual_45 rfl ?_
      refine g_iload_n dX7_usual_47 rfl ?_
      refine g_icmp_le (tgt := 56) dX7_usual_48 (by decide) (fun c48 => ?_) (fun c48 => ?_)
      · skip
        refine g_iload_n dX7_usual_56 rfl ?_
        refine g_istore_n dX7_usual_57 (by decide) rfl ?_
        refine g_iincN dX7_usual_58 rfl (by decide) rfl ?_
        refine g_goto (tgt := 12) dX7_usual_61 (by decide) ?_
        exact ih (k + 1) _ _ _ (by omega) (by first | exact absurd c36 c48 | exact absurd c48 c36 | (subst ea; subst eb; rw [mfold_succ]; simp only [sMostF, mO, c36, c48, if_true, if_false, reduceIte, eq_self])) (by first | exact absurd c36 c48 | exact absurd c48 c36 | (subst ea; subst eb; rw [mfold_succ]; simp only [sMostF, mO, c36, c48, if_true, if_false, reduceIte, eq_self])) rfl
      · skip
        refine g_iload dX7_usual_51 rfl ?_
        refine g_goto (tgt := 57) dX7_usual_53 (by decide) ?_
        refine g_istore_n dX7_usual_57 (by decide) rfl ?_
        refine g_iincN dX7_usual_58 rfl (by decide) rfl ?_
        refine g_goto (tgt := 12) dX7_usual_61 (by decide) ?_
        exact ih (k + 1) _ _ _ (by omega) (by first | exact absurd c36 c48 | exact absurd c48 c36 | (subst ea; subst eb; rw [mfold_succ]; simp only [sMostF, mO, c36, c48, if_true, if_false, reduceIte, eq_self])) (by first | exact absurd c36 c48 | exact absurd c48 c36 | (subst ea; subst eb; rw [mfold_succ]; simp only [sMostF, mO, c36, c48, if_true, if_false, reduceIte, eq_self])) rfl
set_option maxHeartbeats 4000000 in
set_option maxRecDepth 100000 in
theorem c_musual {L : Nat} {F : Nat → Nat → Int32} {g : Nat → Option Nat} (d : Nat) (h0 : F 172 0 = 0) : mCall (d) yX7_usual MX7_usual [.ref 172] (mHX L F g) (some (.int (sMost (mO (F 173) 0)))) (mHX L F g) := by
  refine mCall_of sX7_usual.1 (Nat.le_of_ble_eq_true rfl) ⟨_, rfl, rfl⟩ ?_
  show mGo _ _ (0, [some (.ref 172), none, none, none, none], [], _) _
  refine g_aload_n dX7_usual_0 rfl ?_
  refine g_iconstv (v := 0) dX7_usual_1 rfl ?_
  refine g_pI dX7_usual_2 fl_X7_29 (Or.inl rfl) rfl (by decide) rfl ?_
  rw [pe_id h0]
  refine g_bipushv (v := (-6)) dX7_usual_5 rfl ?_
  refine g_istore_n dX7_usual_7 (by decide) rfl ?_
  refine g_iconstv (v := 0) dX7_usual_8 rfl ?_
  refine g_istore_n dX7_usual_9 (by decide) rfl ?_
  refine g_iconstv (v := 1) dX7_usual_10 rfl ?_
  refine g_istore_n dX7_usual_11 (by decide) rfl ?_
  exact lp_musual d 11 0 _ _ _ rfl rfl rfl rfl
set_option maxHeartbeats 4000000 in
set_option maxRecDepth 100000 in
theorem c_mcnt_bad {L : Nat} {F : Nat → Nat → Int32} {g : Nat → Option Nat} (d : Nat) (h0 : F 172 0 = 0) (v : Int32) (hw : v.toInt < 0 ∨ 14 < v.toInt) : mCall (d + 4) yX7_count MX7_count [.ref 172, .int v] (mHX L F g) (some (.int (-2))) (mHX L F g) := by
  refine mCall_of sX7_count.1 (Nat.le_of_ble_eq_true rfl) ⟨_, rfl, rfl⟩ ?_
  show mGo _ _ (0, [some (.ref 172), some (.int v)], [], _) _
  refine g_aload_n dX7_count_0 rfl ?_
  refine g_iconstv (v := 0) dX7_count_1 rfl ?_
  refine g_pI dX7_count_2 fl_X7_29 (Or.inl rfl) rfl (by decide) rfl ?_
  rw [pe_id h0]
  refine g_iload_n dX7_count_5 rfl ?_
  refine g_tabOut (tgt := 148) dX7_count_6 (hw) (by decide) ?_
  refine g_bipushv (v := (-2)) dX7_count_148 rfl ?_
  exact g_iret dX7_count_150 rfl
set_option maxHeartbeats 4000000 in
set_option maxRecDepth 100000 in
theorem c_mcnt_0 {L : Nat} {F : Nat → Nat → Int32} {g : Nat → Option Nat} (d : Nat) (h0 : F 172 0 = 0) : mCall (d + 4) yX7_count MX7_count [.ref 172, .int 0] (mHX L F g) (some (.int (F 173 4))) (mHX L F g) := by
  refine mCall_of sX7_count.1 (Nat.le_of_ble_eq_true rfl) ⟨_, rfl, rfl⟩ ?_
  show mGo _ _ (0, [some (.ref 172), some (.int 0)], [], _) _
  refine g_aload_n dX7_count_0 rfl ?_
  refine g_iconstv (v := 0) dX7_count_1 rfl ?_
  refine g_pI dX7_count_2 fl_X7_29 (Or.inl rfl) rfl (by decide) rfl ?_
  rw [pe_id h0]
  refine g_iload_n dX7_count_5 rfl ?_
  refine g_tabIn (off := 74) (tgt := 80) dX7_count_6 (by decide) (by decide) rfl (by decide) ?_
  refine g_aload_n dX7_count_80 rfl ?_
  refine g_gR (r := 173) dX7_count_81 fl_X7_7 (fun _ _ => rfl) rfl (by decide) rfl ?_
  refine g_iconstv (v := 4) dX7_count_84 rfl ?_
  refine g_ialdN (gx := 4) dX7_count_85 rfl (by decide) rfl (by omega) (by decide) ?_
  exact g_iret dX7_count_86 rfl
set_option maxHeartbeats 4000000 in
set_option maxRecDepth 100000 in
theorem c_mcnt_1 {L : Nat} {F : Nat → Nat → Int32} {g : Nat → Option Nat} (d : Nat) (h0 : F 172 0 = 0) (n : Nat) (hm : F 173 5 = nI n) (h10 : n ≤ 10) : mCall (d + 4) yX7_count MX7_count [.ref 172, .int 1] (mHX L F g) (some (.int (((sSet (mC (F 173) 0) 0 n) ||| sSet (mC (F 173) 0) 1 n) ||| sSet (mC (F 173) 0) 2 n))) (mHX L F g) := by
  refine mCall_of sX7_count.1 (Nat.le_of_ble_eq_true rfl) ⟨_, rfl, rfl⟩ ?_
  show mGo _ _ (0, [some (.ref 172), some (.int 1)], [], _) _
  refine g_aload_n dX7_count_0 rfl ?_
  refine g_iconstv (v := 0) dX7_count_1 rfl ?_
  refine g_pI dX7_count_2 fl_X7_29 (Or.inl rfl) rfl (by decide) rfl ?_
  rw [pe_id h0]
  refine g_iload_n dX7_count_5 rfl ?_
  refine g_tabIn (off := 81) (tgt := 87) dX7_count_6 (by decide) (by decide) rfl (by decide) ?_
  refine g_aload_n dX7_count_87 rfl ?_
  refine g_V0i dX7_count_88 ml_X7_132 sX7_there rfl (by decide) (Nat.le_of_ble_eq_true rfl) (c_there (d + 1) n hm h10) ?_
  exact g_iret dX7_count_91 rfl
set_option maxHeartbeats 4000000 in
set_option maxRecDepth 100000 in
theorem c_mcnt_2 {L : Nat} {F : Nat → Nat → Int32} {g : Nat → Option Nat} (d : Nat) (h0 : F 172 0 = 0) : mCall (d + 4) yX7_count MX7_count [.ref 172, .int 2] (mHX L F g) (some (.int (sGo (mP (F 173))))) (mHX L F g) := by
  refine mCall_of sX7_count.1 (Nat.le_of_ble_eq_true rfl) ⟨_, rfl, rfl⟩ ?_
  show mGo _ _ (0, [some (.ref 172), some (.int 2)], [], _) _
  refine g_aload_n dX7_count_0 rfl ?_
  refine g_iconstv (v := 0) dX7_count_1 rfl ?_
  refine g_pI dX7_count_2 fl_X7_29 (Or.inl rfl) rfl (by decide) rfl ?_
  rw [pe_id h0]
  refine g_iload_n dX7_count_5 rfl ?_
  refine g_tabIn (off := 86) (tgt := 92) dX7_count_6 (by decide) (by decide) rfl (by decide) ?_
  refine g_aload_n dX7_count_92 rfl ?_
  refine g_V0i dX7_count_93 ml_X7_136 sX7_pauses rfl (by decide) (Nat.le_of_ble_eq_true rfl) (c_mpauses (d + 2)) ?_
  exact g_iret dX7_count_96 rfl
set_option maxHeartbeats 4000000 in
set_option maxRecDepth 100000 in
theorem c_mcnt_3 {L : Nat} {F : Nat → Nat → Int32} {g : Nat → Option Nat} (d : Nat) (h0 : F 172 0 = 0) : mCall (d + 4) yX7_count MX7_count [.ref 172, .int 3] (mHX L F g) (some (.int (F 173 6))) (mHX L F g) := by
  refine mCall_of sX7_count.1 (Nat.le_of_ble_eq_true rfl) ⟨_, rfl, rfl⟩ ?_
  show mGo _ _ (0, [some (.ref 172), some (.int 3)], [], _) _
  refine g_aload_n dX7_count_0 rfl ?_
  refine g_iconstv (v := 0) dX7_count_1 rfl ?_
  refine g_pI dX7_count_2 fl_X7_29 (Or.inl rfl) rfl (by decide) rfl ?_
  rw [pe_id h0]
  refine g_iload_n dX7_count_5 rfl ?_
  refine g_tabIn (off := 91) (tgt := 97) dX7_count_6 (by decide) (by decide) rfl (by decide) ?_
  refine g_aload_n dX7_count_97 rfl ?_
  refine g_gR (r := 173) dX7_count_98 fl_X7_7 (fun _ _ => rfl) rfl (by decide) rfl ?_
  refine g_bipushv (v := 6) dX7_count_101 rfl ?_
  refine g_iload_n dX7_count_103 rfl ?_
  refine g_iadd dX7_count_104 ?_
  refine g_iconstv (v := 3) dX7_count_105 rfl ?_
  refine g_isub dX7_count_106 ?_
  refine g_ialdN (gx := 6) dX7_count_107 rfl (by decide) rfl (by omega) (by decide) ?_
  exact g_iret dX7_count_108 rfl
set_option maxHeartbeats 4000000 in
set_option maxRecDepth 100000 in
theorem c_mcnt_4 {L : Nat} {F : Nat → Nat → Int32} {g : Nat → Option Nat} (d : Nat) (h0 : F 172 0 = 0) : mCall (d + 4) yX7_count MX7_count [.ref 172, .int 4] (mHX L F g) (some (.int (F 173 7))) (mHX L F g) := by
  refine mCall_of sX7_count.1 (Nat.le_of_ble_eq_true rfl) ⟨_, rfl, rfl⟩ ?_
  show mGo _ _ (0, [some (.ref 172), some (.int 4)], [], _) _
  refine g_aload_n dX7_count_0 rfl ?_
  refine g_iconstv (v := 0) dX7_count_1 rfl ?_
  refine g_pI dX7_count_2 fl_X7_29 (Or.inl rfl) rfl (by decide) rfl ?_
  rw [pe_id h0]
  refine g_iload_n dX7_count_5 rfl ?_
  refine g_tabIn (off := 91) (tgt := 97) dX7_count_6 (by decide) (by decide) rfl (by decide) ?_
  refine g_aload_n dX7_count_97 rfl ?_
  refine g_gR (r := 173) dX7_count_98 fl_X7_7 (fun _ _ => rfl) rfl (by decide) rfl ?_
  refine g_bipushv (v := 6) dX7_count_101 rfl ?_
  refine g_iload_n dX7_count_103 rfl ?_
  refine g_iadd dX7_count_104 ?_
  refine g_iconstv (v := 3) dX7_count_105 rfl ?_
  refine g_isub dX7_count_106 ?_
  refine g_ialdN (gx := 7) dX7_count_107 rfl (by decide) rfl (by omega) (by decide) ?_
  exact g_iret dX7_count_108 rfl
set_option maxHeartbeats 4000000 in
set_option maxRecDepth 100000 in
theorem c_mcnt_5 {L : Nat} {F : Nat → Nat → Int32} {g : Nat → Option Nat} (d : Nat) (h0 : F 172 0 = 0) : mCall (d + 4) yX7_count MX7_count [.ref 172, .int 5] (mHX L F g) (some (.int (F 173 8))) (mHX L F g) := by
  refine mCall_of sX7_count.1 (Nat.le_of_ble_eq_true rfl) ⟨_, rfl, rfl⟩ ?_
  show mGo _ _ (0, [some (.ref 172), some (.int 5)], [], _) _
  refine g_aload_n dX7_count_0 rfl ?_
  refine g_iconstv (v := 0) dX7_count_1 rfl ?_
  refine g_pI dX7_count_2 fl_X7_29 (Or.inl rfl) rfl (by decide) rfl ?_
  rw [pe_id h0]
  refine g_iload_n dX7_count_5 rfl ?_
  refine g_tabIn (off := 91) (tgt := 97) dX7_count_6 (by decide) (by decide) rfl (by decide) ?_
  refine g_aload_n dX7_count_97 rfl ?_
  refine g_gR (r := 173) dX7_count_98 fl_X7_7 (fun _ _ => rfl) rfl (by decide) rfl ?_
  refine g_bipushv (v := 6) dX7_count_101 rfl ?_
  refine g_iload_n dX7_count_103 rfl ?_
  refine g_iadd dX7_count_104 ?_
  refine g_iconstv (v := 3) dX7_count_105 rfl ?_
  refine g_isub dX7_count_106 ?_
  refine g_ialdN (gx := 8) dX7_count_107 rfl (by decide) rfl (by omega) (by decide) ?_
  exact g_iret dX7_count_108 rfl
set_option maxHeartbeats 4000000 in
set_option maxRecDepth 100000 in
theorem c_mcnt_6 {L : Nat} {F : Nat → Nat → Int32} {g : Nat → Option Nat} (d : Nat) (h0 : F 172 0 = 0) (n : Nat) (hm : F 173 5 = nI n) (h10 : n ≤ 10) : mCall (d + 4) yX7_count MX7_count [.ref 172, .int 6] (mHX L F g) (some (.int (sSum (mC (F 173) 2) n))) (mHX L F g) := by
  refine mCall_of sX7_count.1 (Nat.le_of_ble_eq_true rfl) ⟨_, rfl, rfl⟩ ?_
  show mGo _ _ (0, [some (.ref 172), some (.int 6)], [], _) _
  refine g_aload_n dX7_count_0 rfl ?_
  refine g_iconstv (v := 0) dX7_count_1 rfl ?_
  refine g_pI dX7_count_2 fl_X7_29 (Or.inl rfl) rfl (by decide) rfl ?_
  rw [pe_id h0]
  refine g_iload_n dX7_count_5 rfl ?_
  refine g_tabIn (off := 103) (tgt := 109) dX7_count_6 (by decide) (by decide) rfl (by decide) ?_
  refine g_aload_n dX7_count_109 rfl ?_
  refine g_iconstv (v := 2) dX7_count_110 rfl ?_
  refine g_iconstv (v := 1) dX7_count_111 rfl ?_
  refine g_V2i dX7_count_112 ml_X7_139 sX7_sumOf rfl (by decide) (Nat.le_of_ble_eq_true rfl) (c_sumA (d + 2) n hm h10) ?_
  exact g_iret dX7_count_115 rfl
set_option maxHeartbeats 4000000 in
set_option maxRecDepth 100000 in
theorem c_mcnt_7 {L : Nat} {F : Nat → Nat → Int32} {g : Nat → Option Nat} (d : Nat) (h0 : F 172 0 = 0) : mCall (d + 4) yX7_count MX7_count [.ref 172, .int 7] (mHX L F g) (some (.int (sMeant (mO (F 173) 0)))) (mHX L F g) := by
  refine mCall_of sX7_count.1 (Nat.le_of_ble_eq_true rfl) ⟨_, rfl, rfl⟩ ?_
  show mGo _ _ (0, [some (.ref 172), some (.int 7)], [], _) _
  refine g_aload_n dX7_count_0 rfl ?_
  refine g_iconstv (v := 0) dX7_count_1 rfl ?_
  refine g_pI dX7_count_2 fl_X7_29 (Or.inl rfl) rfl (by decide) rfl ?_
  rw [pe_id h0]
  refine g_iload_n dX7_count_5 rfl ?_
  refine g_tabIn (off := 110) (tgt := 116) dX7_count_6 (by decide) (by decide) rfl (by decide) ?_
  refine g_aload_n dX7_count_116 rfl ?_
  refine g_V0i dX7_count_117 ml_X7_143 sX7_meantSet rfl (by decide) (Nat.le_of_ble_eq_true rfl) (c_mmeant (d + 3)) ?_
  exact g_iret dX7_count_120 rfl
set_option maxHeartbeats 4000000 in
set_option maxRecDepth 100000 in
theorem c_mcnt_8 {L : Nat} {F : Nat → Nat → Int32} {g : Nat → Option Nat} (d : Nat) (h0 : F 172 0 = 0) (n : Nat) (hm : F 173 5 = nI n) (h10 : n ≤ 10) : mCall (d + 4) yX7_count MX7_count [.ref 172, .int 8] (mHX L F g) (some (.int (sSumHere (mC (F 173) 0) (mC (F 173) 3) n))) (mHX L F g) := by
  refine mCall_of sX7_count.1 (Nat.le_of_ble_eq_true rfl) ⟨_, rfl, rfl⟩ ?_
  show mGo _ _ (0, [some (.ref 172), some (.int 8)], [], _) _
  refine g_aload_n dX7_count_0 rfl ?_
  refine g_iconstv (v := 0) dX7_count_1 rfl ?_
  refine g_pI dX7_count_2 fl_X7_29 (Or.inl rfl) rfl (by decide) rfl ?_
  rw [pe_id h0]
  refine g_iload_n dX7_count_5 rfl ?_
  refine g_tabIn (off := 115) (tgt := 121) dX7_count_6 (by decide) (by decide) rfl (by decide) ?_
  refine g_aload_n dX7_count_121 rfl ?_
  refine g_iconstv (v := 3) dX7_count_122 rfl ?_
  refine g_iconstv (v := 0) dX7_count_123 rfl ?_
  refine g_V2i dX7_count_124 ml_X7_139 sX7_sumOf rfl (by decide) (Nat.le_of_ble_eq_true rfl) (c_sumH (d + 2) n hm h10) ?_
  exact g_iret dX7_count_127 rfl
set_option maxHeartbeats 4000000 in
set_option maxRecDepth 100000 in
theorem c_mcnt_9 {L : Nat} {F : Nat → Nat → Int32} {g : Nat → Option Nat} (d : Nat) (h0 : F 172 0 = 0) : mCall (d + 4) yX7_count MX7_count [.ref 172, .int 9] (mHX L F g) (some (.int (F 173 0))) (mHX L F g) := by
  refine mCall_of sX7_count.1 (Nat.le_of_ble_eq_true rfl) ⟨_, rfl, rfl⟩ ?_
  show mGo _ _ (0, [some (.ref 172), some (.int 9)], [], _) _
  refine g_aload_n dX7_count_0 rfl ?_
  refine g_iconstv (v := 0) dX7_count_1 rfl ?_
  refine g_pI dX7_count_2 fl_X7_29 (Or.inl rfl) rfl (by decide) rfl ?_
  rw [pe_id h0]
  refine g_iload_n dX7_count_5 rfl ?_
  refine g_tabIn (off := 122) (tgt := 128) dX7_count_6 (by decide) (by decide) rfl (by decide) ?_
  refine g_aload_n dX7_count_128 rfl ?_
  refine g_gR (r := 173) dX7_count_129 fl_X7_7 (fun _ _ => rfl) rfl (by decide) rfl ?_
  refine g_iload_n dX7_count_132 rfl ?_
  refine g_bipushv (v := 9) dX7_count_133 rfl ?_
  refine g_isub dX7_count_135 ?_
  refine g_ialdN (gx := 0) dX7_count_136 rfl (by decide) rfl (by omega) (by decide) ?_
  exact g_iret dX7_count_137 rfl
set_option maxHeartbeats 4000000 in
set_option maxRecDepth 100000 in
theorem c_mcnt_10 {L : Nat} {F : Nat → Nat → Int32} {g : Nat → Option Nat} (d : Nat) (h0 : F 172 0 = 0) : mCall (d + 4) yX7_count MX7_count [.ref 172, .int 10] (mHX L F g) (some (.int (F 173 1))) (mHX L F g) := by
  refine mCall_of sX7_count.1 (Nat.le_of_ble_eq_true rfl) ⟨_, rfl, rfl⟩ ?_
  show mGo _ _ (0, [some (.ref 172), some (.int 10)], [], _) _
  refine g_aload_n dX7_count_0 rfl ?_
  refine g_iconstv (v := 0) dX7_count_1 rfl ?_
  refine g_pI dX7_count_2 fl_X7_29 (Or.inl rfl) rfl (by decide) rfl ?_
  rw [pe_id h0]
  refine g_iload_n dX7_count_5 rfl ?_
  refine g_tabIn (off := 122) (tgt := 128) dX7_count_6 (by decide) (by decide) rfl (by decide) ?_
  refine g_aload_n dX7_count_128 rfl ?_
  refine g_gR (r := 173) dX7_count_129 fl_X7_7 (fun _ _ => rfl) rfl (by decide) rfl ?_
  refine g_iload_n dX7_count_132 rfl ?_
  refine g_bipushv (v := 9) dX7_count_133 rfl ?_
  refine g_isub dX7_count_135 ?_
  refine g_ialdN (gx := 1) dX7_count_136 rfl (by decide) rfl (by omega) (by decide) ?_
  exact g_iret dX7_count_137 rfl
set_option maxHeartbeats 4000000 in
set_option maxRecDepth 100000 in
theorem c_mcnt_11 {L : Nat} {F : Nat → Nat → Int32} {g : Nat → Option Nat} (d : Nat) (h0 : F 172 0 = 0) : mCall (d + 4) yX7_count MX7_count [.ref 172, .int 11] (mHX L F g) (some (.int (F 173 2))) (mHX L F g) := by
  refine mCall_of sX7_count.1 (Nat.le_of_ble_eq_true rfl) ⟨_, rfl, rfl⟩ ?_
  show mGo _ _ (0, [some (.ref 172), some (.int 11)], [], _) _
  refine g_aload_n dX7_count_0 rfl ?_
  refine g_iconstv (v := 0) dX7_count_1 rfl ?_
  refine g_pI dX7_count_2 fl_X7_29 (Or.inl rfl) rfl (by decide) rfl ?_
  rw [pe_id h0]
  refine g_iload_n dX7_count_5 rfl ?_
  refine g_tabIn (off := 122) (tgt := 128) dX7_count_6 (by decide) (by decide) rfl (by decide) ?_
  refine g_aload_n dX7_count_128 rfl ?_
  refine g_gR (r := 173) dX7_count_129 fl_X7_7 (fun _ _ => rfl) rfl (by decide) rfl ?_
  refine g_iload_n dX7_count_132 rfl ?_
  refine g_bipushv (v := 9) dX7_count_133 rfl ?_
  refine g_isub dX7_count_135 ?_
  refine g_ialdN (gx := 2) dX7_count_136 rfl (by decide) rfl (by omega) (by decide) ?_
  exact g_iret dX7_count_137 rfl
set_option maxHeartbeats 4000000 in
set_option maxRecDepth 100000 in
theorem c_mcnt_12 {L : Nat} {F : Nat → Nat → Int32} {g : Nat → Option Nat} (d : Nat) (h0 : F 172 0 = 0) : mCall (d + 4) yX7_count MX7_count [.ref 172, .int 12] (mHX L F g) (some (.int (F 173 3))) (mHX L F g) := by
  refine mCall_of sX7_count.1 (Nat.le_of_ble_eq_true rfl) ⟨_, rfl, rfl⟩ ?_
  show mGo _ _ (0, [some (.ref 172), some (.int 12)], [], _) _
  refine g_aload_n dX7_count_0 rfl ?_
  refine g_iconstv (v := 0) dX7_count_1 rfl ?_
  refine g_pI dX7_count_2 fl_X7_29 (Or.inl rfl) rfl (by decide) rfl ?_
  rw [pe_id h0]
  refine g_iload_n dX7_count_5 rfl ?_
  refine g_tabIn (off := 122) (tgt := 128) dX7_count_6 (by decide) (by decide) rfl (by decide) ?_
  refine g_aload_n dX7_count_128 rfl ?_
  refine g_gR (r := 173) dX7_count_129 fl_X7_7 (fun _ _ => rfl) rfl (by decide) rfl ?_
  refine g_iload_n dX7_count_132 rfl ?_
  refine g_bipushv (v := 9) dX7_count_133 rfl ?_
  refine g_isub dX7_count_135 ?_
  refine g_ialdN (gx := 3) dX7_count_136 rfl (by decide) rfl (by omega) (by decide) ?_
  exact g_iret dX7_count_137 rfl
set_option maxHeartbeats 4000000 in
set_option maxRecDepth 100000 in
theorem c_mcnt_13 {L : Nat} {F : Nat → Nat → Int32} {g : Nat → Option Nat} (d : Nat) (h0 : F 172 0 = 0) : mCall (d + 4) yX7_count MX7_count [.ref 172, .int 13] (mHX L F g) (some (.int (F 172 7))) (mHX L F g) := by
  refine mCall_of sX7_count.1 (Nat.le_of_ble_eq_true rfl) ⟨_, rfl, rfl⟩ ?_
  show mGo _ _ (0, [some (.ref 172), some (.int 13)], [], _) _
  refine g_aload_n dX7_count_0 rfl ?_
  refine g_iconstv (v := 0) dX7_count_1 rfl ?_
  refine g_pI dX7_count_2 fl_X7_29 (Or.inl rfl) rfl (by decide) rfl ?_
  rw [pe_id h0]
  refine g_iload_n dX7_count_5 rfl ?_
  refine g_tabIn (off := 132) (tgt := 138) dX7_count_6 (by decide) (by decide) rfl (by decide) ?_
  refine g_aload_n dX7_count_138 rfl ?_
  refine g_gI dX7_count_139 fl_X7_146 (fun _ _ => rfl) rfl (by decide) ?_
  exact g_iret dX7_count_142 rfl
set_option maxHeartbeats 4000000 in
set_option maxRecDepth 100000 in
theorem c_mcnt_14 {L : Nat} {F : Nat → Nat → Int32} {g : Nat → Option Nat} (d : Nat) (h0 : F 172 0 = 0) : mCall (d + 4) yX7_count MX7_count [.ref 172, .int 14] (mHX L F g) (some (.int (F 172 3))) (mHX L F g) := by
  refine mCall_of sX7_count.1 (Nat.le_of_ble_eq_true rfl) ⟨_, rfl, rfl⟩ ?_
  show mGo _ _ (0, [some (.ref 172), some (.int 14)], [], _) _
  refine g_aload_n dX7_count_0 rfl ?_
  refine g_iconstv (v := 0) dX7_count_1 rfl ?_
  refine g_pI dX7_count_2 fl_X7_29 (Or.inl rfl) rfl (by decide) rfl ?_
  rw [pe_id h0]
  refine g_iload_n dX7_count_5 rfl ?_
  refine g_tabIn (off := 137) (tgt := 143) dX7_count_6 (by decide) (by decide) rfl (by decide) ?_
  refine g_aload_n dX7_count_143 rfl ?_
  refine g_gI dX7_count_144 fl_X7_37 (fun _ _ => rfl) rfl (by decide) ?_
  exact g_iret dX7_count_147 rfl
set_option maxHeartbeats 4000000 in
set_option maxRecDepth 100000 in
theorem c_mwm_no {L : Nat} {F : Nat → Nat → Int32} {g : Nat → Option Nat} (d : Nat) (h0 : F 172 0 = 0) (x v : Int32) (hb : ¬ (0 ≤ x ∧ x ≤ 2)) : mCall (d + 4) yX7_wouldMean MX7_wouldMean [.ref 172, .int x, .int v] (mHX L F g) (some (.int (-1))) (mHX L F g) := by
  refine mCall_of sX7_wouldMean.1 (Nat.le_of_ble_eq_true rfl) ⟨_, rfl, rfl⟩ ?_
  show mGo _ _ (0, [some (.ref 172), some (.int x), some (.int v)], [], _) _
  refine g_aload_n dX7_wouldMean_0 rfl ?_
  refine g_iconstv (v := 0) dX7_wouldMean_1 rfl ?_
  refine g_pI dX7_wouldMean_2 fl_X7_29 (Or.inl rfl) rfl (by decide) rfl ?_
  rw [pe_id h0]
  refine g_iload_n dX7_wouldMean_5 rfl ?_
  refine g_S1i dX7_wouldMean_6 ml_X7_63 sX7_isTable (Nat.le_of_ble_eq_true rfl) (c_mTab (d + 2) x) ?_
  refine g_if_ne (tgt := 14) dX7_wouldMean_9 (by decide) (fun c9 => absurd (mbi_f hb) c9) (fun c9 => ?_)
  refine g_iconstv (v := (-1)) dX7_wouldMean_12 rfl ?_
  exact g_iret dX7_wouldMean_13 rfl
set_option maxHeartbeats 4000000 in
set_option maxRecDepth 100000 in
theorem c_mwm_bad {L : Nat} {F : Nat → Nat → Int32} {g : Nat → Option Nat} (d : Nat) (h0 : F 172 0 = 0) (x v : Int32) (hx : 0 ≤ x ∧ x ≤ 2) (hb : ¬ (0 ≤ v ∧ v ≤ 999)) : mCall (d + 4) yX7_wouldMean MX7_wouldMean [.ref 172, .int x, .int v] (mHX L F g) (some (.int (-2))) (mHX L F g) := by
  refine mCall_of sX7_wouldMean.1 (Nat.le_of_ble_eq_true rfl) ⟨_, rfl, rfl⟩ ?_
  show mGo _ _ (0, [some (.ref 172), some (.int x), some (.int v)], [], _) _
  refine g_aload_n dX7_wouldMean_0 rfl ?_
  refine g_iconstv (v := 0) dX7_wouldMean_1 rfl ?_
  refine g_pI dX7_wouldMean_2 fl_X7_29 (Or.inl rfl) rfl (by decide) rfl ?_
  rw [pe_id h0]
  refine g_iload_n dX7_wouldMean_5 rfl ?_
  refine g_S1i dX7_wouldMean_6 ml_X7_63 sX7_isTable (Nat.le_of_ble_eq_true rfl) (c_mTab (d + 2) x) ?_
  refine g_if_ne (tgt := 14) dX7_wouldMean_9 (by decide) (fun c9 => ?_) (fun c9 => absurd c9 (mbi_n0.mpr hx))
  refine g_iload_n dX7_wouldMean_14 rfl ?_
  refine g_iconstv (v := 0) dX7_wouldMean_15 rfl ?_
  refine g_sipushv (v := 999) dX7_wouldMean_16 rfl ?_
  refine g_S3i dX7_wouldMean_19 ml_X7_33 sX7_in (Nat.le_of_ble_eq_true rfl) (c_in (d + 3) v 0 999) ?_
  refine g_if_eq (tgt := 42) dX7_wouldMean_22 (by decide) (fun c22 => ?_) (fun c22 => absurd (mbi_f hb) c22)
  refine g_bipushv (v := (-2)) dX7_wouldMean_42 rfl ?_
  exact g_iret dX7_wouldMean_44 rfl
set_option maxHeartbeats 4000000 in
set_option maxRecDepth 100000 in
theorem c_mwm_ok {L : Nat} {F : Nat → Nat → Int32} {g : Nat → Option Nat} (d : Nat) (h0 : F 172 0 = 0) (n : Nat) (hm : F 173 5 = nI n) (h10 : n ≤ 10) (a b c q : Nat) (ea : F 173 0 = nI a) (eb : F 173 1 = nI b) (ha : a ≤ 20) (hb : 1 ≤ b) (hb2 : b ≤ 20) (hq : q ≤ 999) (hc : c ≤ 4) (t : Nat) (ht : t < 3) (ec : mSC (F 173) n (nI t) = nI c) : mCall (d + 4) yX7_wouldMean MX7_wouldMean [.ref 172, .int (nI t), .int (nI q)] (mHX L F g) (some (.int (mMean a b c q))) (mHX L F g) := by
  refine mCall_of sX7_wouldMean.1 (Nat.le_of_ble_eq_true rfl) ⟨_, rfl, rfl⟩ ?_
  show mGo _ _ (0, [some (.ref 172), some (.int (nI t)), some (.int (nI q))], [], _) _
  have ht0 : 0 ≤ nI t ∧ nI t ≤ 2 := ⟨nI_pos' (by omega), nI_le (b := 2) (by omega) (by decide)⟩
  refine g_aload_n dX7_wouldMean_0 rfl ?_
  refine g_iconstv (v := 0) dX7_wouldMean_1 rfl ?_
  refine g_pI dX7_wouldMean_2 fl_X7_29 (Or.inl rfl) rfl (by decide) rfl ?_
  rw [pe_id h0]
  refine g_iload_n dX7_wouldMean_5 rfl ?_
  refine g_S1i dX7_wouldMean_6 ml_X7_63 sX7_isTable (Nat.le_of_ble_eq_true rfl) (c_mTab (d + 2) (nI t)) ?_
  refine g_if_ne (tgt := 14) dX7_wouldMean_9 (by decide) (fun c9 => ?_) (fun c9 => absurd c9 (mbi_n0.mpr ht0))
  refine g_iload_n dX7_wouldMean_14 rfl ?_
  refine g_iconstv (v := 0) dX7_wouldMean_15 rfl ?_
  refine g_sipushv (v := 999) dX7_wouldMean_16 rfl ?_
  refine g_S3i dX7_wouldMean_19 ml_X7_33 sX7_in (Nat.le_of_ble_eq_true rfl) (c_in (d + 3) (nI q) 0 999) ?_
  refine g_if_eq (tgt := 42) dX7_wouldMean_22 (by decide) (fun c22 => absurd c22 (mbi_n0.mpr ⟨nI_pos' (by omega), nI_le (b := 999) hq (by decide)⟩)) (fun c22 => ?_)
  refine g_aload_n dX7_wouldMean_25 rfl ?_
  refine g_aload_n dX7_wouldMean_26 rfl ?_
  refine g_aload_n dX7_wouldMean_27 rfl ?_
  refine g_iload_n dX7_wouldMean_28 rfl ?_
  refine g_V1i dX7_wouldMean_29 ml_X7_48 sX7_guestsAt rfl (by decide) (Nat.le_of_ble_eq_true rfl) (c_mSet (d + 2) n hm h10 (nI t)) ?_
  refine g_V1i dX7_wouldMean_32 ml_X7_51 sX7_companyOf rfl (by decide) (Nat.le_of_ble_eq_true rfl) (c_mComp (d + 2) n hm h10 (sSet (mC (F 173) 0) (nI t) n)) ?_
  rw [show mComp (mC (F 173) 1) (sSet (mC (F 173) 0) (nI t) n) n = nI c from ec]
  refine g_iload_n dX7_wouldMean_35 rfl ?_
  refine g_V2i dX7_wouldMean_36 ml_X7_54 sX7_means rfl (by decide) (Nat.le_of_ble_eq_true rfl) (c_means (d + 3) a b c q ea eb ha hb hb2 (by omega) hc) ?_
  refine g_goto (tgt := 44) dX7_wouldMean_39 (by decide) ?_
  exact g_iret dX7_wouldMean_44 rfl
set_option maxHeartbeats 4000000 in
set_option maxRecDepth 100000 in
theorem c_mti_r {L : Nat} {F : Nat → Nat → Int32} {g : Nat → Option Nat} (d : Nat) (h0 : F 172 0 = 0) (a r : Int32) (hr : ¬ r = 0) (H : mCall (d + 3) yX7_refusesClosing MX7_refusesClosing [.ref 172, .int a] (mHX L F g) (some (.int r)) (mHX L F g)) : mCall (d + 4) yX7_turnsIn MX7_turnsIn [.ref 172, .int a] (mHX L F g) (some (.int r)) (mHX L F g) := by
  refine mCall_of sX7_turnsIn.1 (Nat.le_of_ble_eq_true rfl) ⟨_, rfl, rfl⟩ ?_
  show mGo _ _ (0, [some (.ref 172), some (.int a), none, none, none, none], [], _) _
  refine g_aload_n dX7_turnsIn_0 rfl ?_
  refine g_iconstv (v := 0) dX7_turnsIn_1 rfl ?_
  refine g_pI dX7_turnsIn_2 fl_X7_29 (Or.inl rfl) rfl (by decide) rfl ?_
  rw [pe_id h0]
  refine g_aload_n dX7_turnsIn_5 rfl ?_
  refine g_iload_n dX7_turnsIn_6 rfl ?_
  refine g_V1i dX7_turnsIn_7 ml_X7_102 sX7_refusesClosing rfl (by decide) (Nat.le_of_ble_eq_true rfl) (H) ?_
  refine g_istore_n dX7_turnsIn_10 (by decide) rfl ?_
  refine g_iload_n dX7_turnsIn_11 rfl ?_
  refine g_if_eq (tgt := 17) dX7_turnsIn_12 (by decide) (fun c12 => absurd c12 hr) (fun c12 => ?_)
  refine g_iload_n dX7_turnsIn_15 rfl ?_
  exact g_iret dX7_turnsIn_16 rfl
def mTurn (a b c q k : Nat) : Nat → Int32
  | 0 => (-6)
  | m + 1 => if mMean a b c (q + k) = mMean a b c q then mTurn a b c q (k + 1) m else nI k
set_option maxHeartbeats 4000000 in
set_option maxRecDepth 100000 in
theorem lp_mturn {L : Nat} {F : Nat → Nat → Int32} {g : Nat → Option Nat} (d : Nat) (a b c q : Nat) (ea : F 173 0 = nI a) (eb : F 173 1 = nI b) (ha : a ≤ 20) (hb : 1 ≤ b) (hb2 : b ≤ 20) (hq : q ≤ 10000) (hc : c ≤ 4) (t : Nat) (ht : t < 3) (eq : F 173 (10 + t) = nI q) (x : Int32) : ∀ (m : Nat) (k : Nat), k + m = 201 → mGo MX7_turnsIn (d + 4) (37, [some (.ref 172), some (.int (nI t)), some (.int x), some (.int (nI c)), some (.int (mMean a b c q)), some (.int (nI k))], [], mHX L F g) (some (.int (mTurn a b c q k m)), mHX L F g) := by
  intro m
  induction m with
  | zero =>
    intro k hk
    refine g_iload dX7_turnsIn_37 rfl ?_
    refine g_sipushv (v := 200) dX7_turnsIn_39 rfl ?_
    refine g_icmp_gt (tgt := 76) dX7_turnsIn_42 (by decide) (fun c42 => ?_) (fun c42 => absurd (by rw [show k = 201 by omega]; decide) c42)
    refine g_bipushv (v := (-6)) dX7_turnsIn_76 rfl ?_
    exact g_iret dX7_turnsIn_78 rfl
  | succ m ih =>
    intro k hk
    refine g_iload dX7_turnsIn_37 rfl ?_
    refine g_sipushv (v := 200) dX7_turnsIn_39 rfl ?_
    refine g_icmp_gt (tgt := 76) dX7_turnsIn_42 (by decide) (fun c42 => absurd c42 (nI_nlt (a := 200) (b := k) (by omega) (by decide))) (fun c42 => ?_)
    refine g_aload_n dX7_turnsIn_45 rfl ?_
    refine g_iload_n dX7_turnsIn_46 rfl ?_
    refine g_aload_n dX7_turnsIn_47 rfl ?_
    refine g_gR (r := 173) dX7_turnsIn_48 fl_X7_7 (fun _ _ => rfl) rfl (by decide) rfl ?_
    refine g_bipushv (v := 10) dX7_turnsIn_51 rfl ?_
    refine g_iload_n dX7_turnsIn_53 rfl ?_
    refine g_iadd dX7_turnsIn_54 ?_
    refine g_ialdN (gx := (10 + t)) dX7_turnsIn_55 rfl (by decide) (nI_add 10 t) (by omega) (by decide) ?_
    refine g_iload dX7_turnsIn_56 rfl ?_
    refine g_iadd dX7_turnsIn_58 ?_
    rw [eq, nI_add]
    refine g_V2i dX7_turnsIn_59 ml_X7_54 sX7_means rfl (by decide) (Nat.le_of_ble_eq_true rfl) (c_means (d + 3) a b c (q + k) ea eb ha hb hb2 (by omega) hc) ?_
    refine g_iload dX7_turnsIn_62 rfl ?_
    refine g_icmp_eq (tgt := 70) dX7_turnsIn_64 (by decide) (fun c64 => ?_) (fun c64 => ?_)
    · skip
      refine g_iincN dX7_turnsIn_70 rfl (by decide) rfl ?_
      refine g_goto (tgt := 37) dX7_turnsIn_73 (by decide) ?_
      rw [mTurn, if_pos c64]
      exact ih (k + 1) (by omega)
    · skip
      refine g_iload dX7_turnsIn_67 rfl ?_
      exact g_iret dX7_turnsIn_69 (m_ret (by rw [mTurn, if_neg c64]))
set_option maxHeartbeats 4000000 in
set_option maxRecDepth 100000 in
theorem c_mti_ok {L : Nat} {F : Nat → Nat → Int32} {g : Nat → Option Nat} (d : Nat) (h0 : F 172 0 = 0) (n : Nat) (hm : F 173 5 = nI n) (h10 : n ≤ 10) (a b c q : Nat) (ea : F 173 0 = nI a) (eb : F 173 1 = nI b) (ha : a ≤ 20) (hb : 1 ≤ b) (hb2 : b ≤ 20) (hq : q ≤ 10000) (hc : c ≤ 4) (t : Nat) (ht : t < 3) (ec : mSC (F 173) n (nI t) = nI c) (eq : F 173 (10 + t) = nI q) : mCall (d + 4) yX7_turnsIn MX7_turnsIn [.ref 172, .int (nI t)] (mHX L F g) (some (.int (mTurn a b c q 1 200))) (mHX L F g) := by
  refine mCall_of sX7_turnsIn.1 (Nat.le_of_ble_eq_true rfl) ⟨_, rfl, rfl⟩ ?_
  show mGo _ _ (0, [some (.ref 172), some (.int (nI t)), none, none, none, none], [], _) _
  refine g_aload_n dX7_turnsIn_0 rfl ?_
  refine g_iconstv (v := 0) dX7_turnsIn_1 rfl ?_
  refine g_pI dX7_turnsIn_2 fl_X7_29 (Or.inl rfl) rfl (by decide) rfl ?_
  rw [pe_id h0]
  refine g_aload_n dX7_turnsIn_5 rfl ?_
  refine g_iload_n dX7_turnsIn_6 rfl ?_
  refine g_V1i dX7_turnsIn_7 ml_X7_102 sX7_refusesClosing rfl (by decide) (Nat.le_of_ble_eq_true rfl) (c_rC_ok d t ht (by rw [eq]; exact m_ne6 (by omega))) ?_
  refine g_istore_n dX7_turnsIn_10 (by decide) rfl ?_
  refine g_iload_n dX7_turnsIn_11 rfl ?_
  refine g_if_eq (tgt := 17) dX7_turnsIn_12 (by decide) (fun c12 => ?_) (fun c12 => absurd (by decide) c12)
  refine g_aload_n dX7_turnsIn_17 rfl ?_
  refine g_aload_n dX7_turnsIn_18 rfl ?_
  refine g_iload_n dX7_turnsIn_19 rfl ?_
  refine g_V1i dX7_turnsIn_20 ml_X7_48 sX7_guestsAt rfl (by decide) (Nat.le_of_ble_eq_true rfl) (c_mSet (d + 2) n hm h10 (nI t)) ?_
  refine g_V1i dX7_turnsIn_23 ml_X7_51 sX7_companyOf rfl (by decide) (Nat.le_of_ble_eq_true rfl) (c_mComp (d + 2) n hm h10 (sSet (mC (F 173) 0) (nI t) n)) ?_
  rw [show mComp (mC (F 173) 1) (sSet (mC (F 173) 0) (nI t) n) n = nI c from ec]
  refine g_istore_n dX7_turnsIn_26 (by decide) rfl ?_
  refine g_aload_n dX7_turnsIn_27 rfl ?_
  refine g_iload_n dX7_turnsIn_28 rfl ?_
  refine g_V1i dX7_turnsIn_29 ml_X7_95 sX7_meansNow rfl (by decide) (Nat.le_of_ble_eq_true rfl) (c_mNow (d + 1) n hm h10 a b c q ea eb ha hb hb2 (by omega) hc t ht ec eq) ?_
  refine g_istore dX7_turnsIn_32 (by decide) rfl ?_
  refine g_iconstv (v := 1) dX7_turnsIn_34 rfl ?_
  refine g_istore dX7_turnsIn_35 (by decide) rfl ?_
  exact lp_mturn d a b c q ea eb ha hb hb2 hq hc t ht eq _ 200 1 rfl
set_option maxHeartbeats 4000000 in
set_option maxRecDepth 100000 in
theorem c_mlen_r {L : Nat} {F : Nat → Nat → Int32} {g : Nat → Option Nat} (d : Nat) (h0 : F 172 0 = 0) (a r : Int32) (hr : ¬ r = 0) (H : mCall (d + 3) yX7_refusesLeaving MX7_refusesLeaving [.ref 172, .int a] (mHX L F g) (some (.int r)) (mHX L F g)) : mCall (d + 4) yX7_lender MX7_lender [.ref 172, .int a] (mHX L F g) (some (.int r)) (mHX L F g) := by
  refine mCall_of sX7_lender.1 (Nat.le_of_ble_eq_true rfl) ⟨_, rfl, rfl⟩ ?_
  show mGo _ _ (0, [some (.ref 172), some (.int a), none], [], _) _
  refine g_aload_n dX7_lender_0 rfl ?_
  refine g_iconstv (v := 0) dX7_lender_1 rfl ?_
  refine g_pI dX7_lender_2 fl_X7_29 (Or.inl rfl) rfl (by decide) rfl ?_
  rw [pe_id h0]
  refine g_aload_n dX7_lender_5 rfl ?_
  refine g_iload_n dX7_lender_6 rfl ?_
  refine g_V1i dX7_lender_7 ml_X7_80 sX7_refusesLeaving rfl (by decide) (Nat.le_of_ble_eq_true rfl) (H) ?_
  refine g_istore_n dX7_lender_10 (by decide) rfl ?_
  refine g_iload_n dX7_lender_11 rfl ?_
  refine g_if_eq (tgt := 19) dX7_lender_12 (by decide) (fun c12 => absurd c12 hr) (fun c12 => ?_)
  refine g_iload_n dX7_lender_15 rfl ?_
  refine g_goto (tgt := 24) dX7_lender_16 (by decide) ?_
  exact g_iret dX7_lender_24 rfl
set_option maxHeartbeats 4000000 in
set_option maxRecDepth 100000 in
theorem c_mlen_ok {L : Nat} {F : Nat → Nat → Int32} {g : Nat → Option Nat} (d : Nat) (h0 : F 172 0 = 0) (n : Nat) (hm : F 173 5 = nI n) (h10 : n ≤ 10) (k : Nat) (hk : k < n) (hs : ¬ mC (F 173) 0 k = (-6)) : mCall (d + 4) yX7_lender MX7_lender [.ref 172, .int (nI k)] (mHX L F g) (some (.int (oI (mLend (mC (F 173) 0) (mC (F 173) 1) (mC (F 173) 3) k n)))) (mHX L F g) := by
  refine mCall_of sX7_lender.1 (Nat.le_of_ble_eq_true rfl) ⟨_, rfl, rfl⟩ ?_
  show mGo _ _ (0, [some (.ref 172), some (.int (nI k)), none], [], _) _
  refine g_aload_n dX7_lender_0 rfl ?_
  refine g_iconstv (v := 0) dX7_lender_1 rfl ?_
  refine g_pI dX7_lender_2 fl_X7_29 (Or.inl rfl) rfl (by decide) rfl ?_
  rw [pe_id h0]
  refine g_aload_n dX7_lender_5 rfl ?_
  refine g_iload_n dX7_lender_6 rfl ?_
  refine g_V1i dX7_lender_7 ml_X7_80 sX7_refusesLeaving rfl (by decide) (Nat.le_of_ble_eq_true rfl) (c_rL_ok d n hm h10 k hk hs) ?_
  refine g_istore_n dX7_lender_10 (by decide) rfl ?_
  refine g_iload_n dX7_lender_11 rfl ?_
  refine g_if_eq (tgt := 19) dX7_lender_12 (by decide) (fun c12 => ?_) (fun c12 => absurd (by decide) c12)
  refine g_aload_n dX7_lender_19 rfl ?_
  refine g_iload_n dX7_lender_20 rfl ?_
  refine g_V1i dX7_lender_21 ml_X7_117 sX7_lenderFor rfl (by decide) (Nat.le_of_ble_eq_true rfl) (c_mLend (d + 2) n hm h10 k (by omega)) ?_
  exact g_iret dX7_lender_24 rfl
set_option maxHeartbeats 4000000 in
set_option maxRecDepth 100000 in
theorem c_mwo_r {L : Nat} {F : Nat → Nat → Int32} {g : Nat → Option Nat} (d : Nat) (h0 : F 172 0 = 0) (a r : Int32) (hr : ¬ r = 0) (H : mCall (d + 3) yX7_refusesBreak MX7_refusesBreak [.ref 172, .int a] (mHX L F g) (some (.int r)) (mHX L F g)) : mCall (d + 4) yX7_without MX7_without [.ref 172, .int a] (mHX L F g) (some (.int r)) (mHX L F g) := by
  refine mCall_of sX7_without.1 (Nat.le_of_ble_eq_true rfl) ⟨_, rfl, rfl⟩ ?_
  show mGo _ _ (0, [some (.ref 172), some (.int a), none, none], [], _) _
  refine g_aload_n dX7_without_0 rfl ?_
  refine g_iconstv (v := 0) dX7_without_1 rfl ?_
  refine g_pI dX7_without_2 fl_X7_29 (Or.inl rfl) rfl (by decide) rfl ?_
  rw [pe_id h0]
  refine g_aload_n dX7_without_5 rfl ?_
  refine g_iload_n dX7_without_6 rfl ?_
  refine g_V1i dX7_without_7 ml_X7_111 sX7_refusesBreak rfl (by decide) (Nat.le_of_ble_eq_true rfl) (H) ?_
  refine g_istore_n dX7_without_10 (by decide) rfl ?_
  refine g_iload_n dX7_without_11 rfl ?_
  refine g_if_eq (tgt := 17) dX7_without_12 (by decide) (fun c12 => absurd c12 hr) (fun c12 => ?_)
  refine g_iload_n dX7_without_15 rfl ?_
  exact g_iret dX7_without_16 rfl
set_option maxHeartbeats 4000000 in
set_option maxRecDepth 100000 in
theorem c_mwo_ok {L : Nat} {F : Nat → Nat → Int32} {g : Nat → Option Nat} (d : Nat) (h0 : F 172 0 = 0) (n : Nat) (hm : F 173 5 = nI n) (h10 : n ≤ 10) (a b c q : Nat) (ea : F 173 0 = nI a) (eb : F 173 1 = nI b) (ha : a ≤ 20) (hb : 1 ≤ b) (hb2 : b ≤ 20) (hq : q ≤ 20000) (hc : c ≤ 4) (k : Nat) (hk : k < n) (t : Nat) (ht : t < 3) (hs : mC (F 173) 0 k = nI t) (ec : mComp (mC (F 173) 1) ((sSet (mC (F 173) 0) (nI t) n) &&& (((1 : Int32) <<< (nI k &&& 31)) ^^^ (-1))) n = nI c) (eq : F 173 (10 + t) = nI q) : mCall (d + 4) yX7_without MX7_without [.ref 172, .int (nI k)] (mHX L F g) (some (.int (mMean a b c q))) (mHX L F g) := by
  refine mCall_of sX7_without.1 (Nat.le_of_ble_eq_true rfl) ⟨_, rfl, rfl⟩ ?_
  show mGo _ _ (0, [some (.ref 172), some (.int (nI k)), none, none], [], _) _
  refine g_aload_n dX7_without_0 rfl ?_
  refine g_iconstv (v := 0) dX7_without_1 rfl ?_
  refine g_pI dX7_without_2 fl_X7_29 (Or.inl rfl) rfl (by decide) rfl ?_
  rw [pe_id h0]
  refine g_aload_n dX7_without_5 rfl ?_
  refine g_iload_n dX7_without_6 rfl ?_
  refine g_V1i dX7_without_7 ml_X7_111 sX7_refusesBreak rfl (by decide) (Nat.le_of_ble_eq_true rfl) (c_rB_ok d n hm h10 k hk t ht hs (by rw [eq]; exact m_ne6 (by omega))) ?_
  refine g_istore_n dX7_without_10 (by decide) rfl ?_
  refine g_iload_n dX7_without_11 rfl ?_
  refine g_if_eq (tgt := 17) dX7_without_12 (by decide) (fun c12 => ?_) (fun c12 => absurd (by decide) c12)
  refine g_aload_n dX7_without_17 rfl ?_
  refine g_iload_n dX7_without_18 rfl ?_
  refine g_iconstv (v := 0) dX7_without_19 rfl ?_
  refine g_V2i dX7_without_20 ml_X7_40 sX7_has rfl (by decide) (Nat.le_of_ble_eq_true rfl) (c_has (F := F) (d + 3) k 0 (by omega) (by decide)) ?_
  rw [hs]
  refine g_istore_n dX7_without_23 (by decide) rfl ?_
  refine g_aload_n dX7_without_24 rfl ?_
  refine g_aload_n dX7_without_25 rfl ?_
  refine g_aload_n dX7_without_26 rfl ?_
  refine g_iload_n dX7_without_27 rfl ?_
  refine g_V1i dX7_without_28 ml_X7_48 sX7_guestsAt rfl (by decide) (Nat.le_of_ble_eq_true rfl) (c_mSet (d + 2) n hm h10 (nI t)) ?_
  refine g_iconstv (v := 1) dX7_without_31 rfl ?_
  refine g_iload_n dX7_without_32 rfl ?_
  refine g_ishl dX7_without_33 ?_
  refine g_iconstv (v := (-1)) dX7_without_34 rfl ?_
  refine g_ixor dX7_without_35 ?_
  refine g_iand dX7_without_36 ?_
  refine g_V1i dX7_without_37 ml_X7_51 sX7_companyOf rfl (by decide) (Nat.le_of_ble_eq_true rfl) (c_mComp (d + 2) n hm h10 ((sSet (mC (F 173) 0) (nI t) n) &&& (((1 : Int32) <<< (nI k &&& 31)) ^^^ (-1)))) ?_
  rw [ec]
  refine g_aload_n dX7_without_40 rfl ?_
  refine g_gR (r := 173) dX7_without_41 fl_X7_7 (fun _ _ => rfl) rfl (by decide) rfl ?_
  refine g_bipushv (v := 10) dX7_without_44 rfl ?_
  refine g_iload_n dX7_without_46 rfl ?_
  refine g_iadd dX7_without_47 ?_
  refine g_ialdN (gx := (10 + t)) dX7_without_48 rfl (by decide) (nI_add 10 t) (by omega) (by decide) ?_
  rw [eq]
  refine g_V2i dX7_without_49 ml_X7_54 sX7_means rfl (by decide) (Nat.le_of_ble_eq_true rfl) (c_means (d + 3) a b c q ea eb ha hb hb2 hq hc) ?_
  exact g_iret dX7_without_52 rfl
set_option maxHeartbeats 4000000 in
set_option maxRecDepth 100000 in
theorem c_mwipe {L : Nat} {F : Nat → Nat → Int32} {g : Nat → Option Nat} (d : Nat) (h0 : F 172 0 = 0) : mCall (d + 4) yX7_wipe MX7_wipe [.ref 172] (mHX L F g) (some (.int (F 172 7))) (mHX L (pe F 172 7 0) g) := by
  refine mCall_of sX7_wipe.1 (Nat.le_of_ble_eq_true rfl) ⟨_, rfl, rfl⟩ ?_
  show mGo _ _ (0, [some (.ref 172), none], [], _) _
  refine g_aload_n dX7_wipe_0 rfl ?_
  refine g_iconstv (v := 0) dX7_wipe_1 rfl ?_
  refine g_pI dX7_wipe_2 fl_X7_29 (Or.inl rfl) rfl (by decide) rfl ?_
  rw [pe_id h0]
  refine g_aload_n dX7_wipe_5 rfl ?_
  refine g_gI dX7_wipe_6 fl_X7_146 (fun _ _ => rfl) rfl (by decide) ?_
  refine g_istore_n dX7_wipe_9 (by decide) rfl ?_
  refine g_aload_n dX7_wipe_10 rfl ?_
  refine g_iconstv (v := 0) dX7_wipe_11 rfl ?_
  refine g_pI dX7_wipe_12 fl_X7_146 (Or.inl rfl) rfl (by decide) rfl ?_
  refine g_iload_n dX7_wipe_15 rfl ?_
  exact g_iret dX7_wipe_16 rfl
def mCode (c : Int64) (x : Int32) : Int32 := ((c >>> ((8 * x).toInt64 &&& 63)) &&& 255).toInt32
def mPutF (c : Int64) (a : Int32 × Int32 × Int32) (k : Nat) : Int32 × Int32 × Int32 :=
  if a.2.1 = 0 ∧ ¬ mCode c (nI k) = 0 then (a.1 + 1, 0, if a.2.2 = 0 then 0 else if mbi (33 ≤ mCode c (nI k) ∧ mCode c (nI k) ≤ 126) = 0 then 0 else 1)
  else (a.1, 1, if a.2.2 = 0 then 0 else if mCode c (nI k) = 0 then 1 else 0)
def mPutL (c : Int64) (k : Nat) : Int32 × Int32 × Int32 := mfold (mPutF c) (0, 0, 1) k
theorem m_10 : ((1 : Int32) = 0) = False := by decide
set_option maxHeartbeats 4000000 in
set_option maxRecDepth 100000 in
theorem lp_pb {L : Nat} {F : Nat → Nat → Int32} {g : Nat → Option Nat} (d : Nat) (c : Int64) (z o y : Int32) (j i : Option Value) (hb : ¬ (¬ y = 0 ∧ ¬ z = 0)) : mGo MX7_put (d + 4) (110, [some (.ref 172), some (.long c), none, some (.int z), some (.int o), some (.int y), j, i], [], mHX L F g) (some (.int (-2)), mHX L F g) := by
  refine g_iload dX7_put_110 rfl ?_
  refine g_if_eq (tgt := 119) dX7_put_112 (by decide) (fun c112 => ?_) (fun c112 => ?_)
  · skip
    refine g_bipushv (v := (-2)) dX7_put_119 rfl ?_
    exact g_iret dX7_put_121 rfl
  · skip
    refine g_iload_n dX7_put_115 rfl ?_
    refine g_if_ne (tgt := 122) dX7_put_116 (by decide) (fun c116 => absurd (Decidable.byContradiction (fun q => hb ⟨c112, q⟩)) c116) (fun c116 => ?_)
    refine g_bipushv (v := (-2)) dX7_put_119 rfl ?_
    exact g_iret dX7_put_121 rfl
set_option maxHeartbeats 4000000 in
set_option maxRecDepth 100000 in
theorem lp_put_bad {L : Nat} {F : Nat → Nat → Int32} {g : Nat → Option Nat} (d : Nat) (c : Int64) (hb : ¬ (¬ (mPutL c 8).2.2 = 0 ∧ ¬ (mPutL c 8).1 = 0)) : ∀ (r k : Nat) (z o y : Int32) (j : Option Value), k + r = 8 → mPutL c k = (z, o, y) → mGo MX7_put (d + 4) (16, [some (.ref 172), some (.long c), none, some (.int z), some (.int o), some (.int y), some (.int (nI k)), j], [], mHX L F g) (some (.int (-2)), mHX L F g) := by
  intro r
  induction r with
  | zero =>
    intro k z o y j hk e
    obtain rfl : k = 8 := by omega
    refine g_iload dX7_put_16 rfl ?_
    refine g_bipushv (v := 8) dX7_put_18 rfl ?_
    refine g_icmp_ge (tgt := 110) dX7_put_20 (by decide) (fun c20 => ?_) (fun c20 => absurd (Int32.le_refl _) c20)
    exact lp_pb d c z o y _ _ (by rw [e] at hb; exact hb)
  | succ r ih =>
    intro k z o y j hk e
    refine g_iload dX7_put_16 rfl ?_
    refine g_bipushv (v := 8) dX7_put_18 rfl ?_
    refine g_icmp_ge (tgt := 110) dX7_put_20 (by decide) (fun c20 => absurd c20 (nI_ge (a := k) (b := 8) (by omega) (by decide))) (fun c20 => ?_)
    refine g_lload_n dX7_put_23 rfl ?_
    refine g_bipushv (v := 8) dX7_put_24 rfl ?_
    refine g_iload dX7_put_26 rfl ?_
    refine g_imul dX7_put_28 ?_
    refine g_lshr dX7_put_29 ?_
    refine g_ldc2 dX7_put_30 kl_X7_149 ?_
    refine g_land dX7_put_33 ?_
    refine g_l2i dX7_put_34 ?_
    show mGo _ _ (_, _, [.int (mCode c (nI k))], _) _
    refine g_istore dX7_put_35 (by decide) rfl ?_
    refine g_iload dX7_put_37 rfl ?_
    refine g_if_ne (tgt := 47) dX7_put_39 (by decide) (fun c39 => ?_) (fun c39 => ?_)
    · skip
      refine g_iconstv (v := 1) dX7_put_47 rfl ?_
      refine g_goto (tgt := 52) dX7_put_48 (by decide) ?_
      refine g_istore dX7_put_52 (by decide) rfl ?_
      refine g_iload dX7_put_54 rfl ?_
      refine g_if_eq (tgt := 88) dX7_put_56 (by decide) (fun c56 => ?_) (fun c56 => ?_)
      · skip
        refine g_iconstv (v := 0) dX7_put_88 rfl ?_
        refine g_istore dX7_put_89 (by decide) rfl ?_
        refine g_iload_n dX7_put_91 rfl ?_
        refine g_iload dX7_put_92 rfl ?_
        refine g_if_eq (tgt := 101) dX7_put_94 (by decide) (fun c94 => absurd c94 (by decide)) (fun c94 => ?_)
        refine g_iconstv (v := 0) dX7_put_97 rfl ?_
        refine g_goto (tgt := 102) dX7_put_98 (by decide) ?_
        refine g_iadd dX7_put_102 ?_
        refine g_istore_n dX7_put_103 (by decide) rfl ?_
        refine g_iincN dX7_put_104 rfl (by decide) rfl ?_
        refine g_goto (tgt := 16) dX7_put_107 (by decide) ?_
        exact ih (k + 1) _ _ _ _ (by omega) (by show mPutF c (mPutL c k) k = _; rw [e]; simp only [mPutF, c39, c56, m_10, Int32.add_zero, eq_self, not_true_eq_false, not_false_eq_true, and_true, true_and, and_false, false_and, if_true, if_false, reduceIte])
      · skip
        refine g_iload dX7_put_59 rfl ?_
        refine g_if_eq (tgt := 72) dX7_put_61 (by decide) (fun c61 => absurd c61 (by decide)) (fun c61 => ?_)
        refine g_iload dX7_put_64 rfl ?_
        refine g_if_ne (tgt := 88) dX7_put_66 (by decide) (fun c66 => ?_) (fun c66 => ?_)
        · skip
          refine g_iconstv (v := 0) dX7_put_88 rfl ?_
          refine g_istore dX7_put_89 (by decide) rfl ?_
          refine g_iload_n dX7_put_91 rfl ?_
          refine g_iload dX7_put_92 rfl ?_
          refine g_if_eq (tgt := 101) dX7_put_94 (by decide) (fun c94 => absurd c94 (by decide)) (fun c94 => ?_)
          refine g_iconstv (v := 0) dX7_put_97 rfl ?_
          refine g_goto (tgt := 102) dX7_put_98 (by decide) ?_
          refine g_iadd dX7_put_102 ?_
          refine g_istore_n dX7_put_103 (by decide) rfl ?_
          refine g_iincN dX7_put_104 rfl (by decide) rfl ?_
          refine g_goto (tgt := 16) dX7_put_107 (by decide) ?_
          exact ih (k + 1) _ _ _ _ (by omega) (by show mPutF c (mPutL c k) k = _; rw [e]; simp only [mPutF, c39, c56, c66, m_10, Int32.add_zero, eq_self, not_true_eq_false, not_false_eq_true, and_true, true_and, and_false, false_and, if_true, if_false, reduceIte])
        · skip
          refine g_goto (tgt := 84) dX7_put_69 (by decide) ?_
          refine g_iconstv (v := 1) dX7_put_84 rfl ?_
          refine g_goto (tgt := 89) dX7_put_85 (by decide) ?_
          refine g_istore dX7_put_89 (by decide) rfl ?_
          refine g_iload_n dX7_put_91 rfl ?_
          refine g_iload dX7_put_92 rfl ?_
          refine g_if_eq (tgt := 101) dX7_put_94 (by decide) (fun c94 => absurd c94 (by decide)) (fun c94 => ?_)
          refine g_iconstv (v := 0) dX7_put_97 rfl ?_
          refine g_goto (tgt := 102) dX7_put_98 (by decide) ?_
          refine g_iadd dX7_put_102 ?_
          refine g_istore_n dX7_put_103 (by decide) rfl ?_
          refine g_iincN dX7_put_104 rfl (by decide) rfl ?_
          refine g_goto (tgt := 16) dX7_put_107 (by decide) ?_
          exact ih (k + 1) _ _ _ _ (by omega) (by show mPutF c (mPutL c k) k = _; rw [e]; simp only [mPutF, c39, c56, c66, m_10, Int32.add_zero, eq_self, not_true_eq_false, not_false_eq_true, and_true, true_and, and_false, false_and, if_true, if_false, reduceIte])
    · skip
      refine g_iload dX7_put_42 rfl ?_
      refine g_if_ne (tgt := 51) dX7_put_44 (by decide) (fun c44 => ?_) (fun c44 => ?_)
      · skip
        refine g_iconstv (v := 0) dX7_put_51 rfl ?_
        refine g_istore dX7_put_52 (by decide) rfl ?_
        refine g_iload dX7_put_54 rfl ?_
        refine g_if_eq (tgt := 88) dX7_put_56 (by decide) (fun c56 => ?_) (fun c56 => ?_)
        · skip
          refine g_iconstv (v := 0) dX7_put_88 rfl ?_
          refine g_istore dX7_put_89 (by decide) rfl ?_
          refine g_iload_n dX7_put_91 rfl ?_
          refine g_iload dX7_put_92 rfl ?_
          refine g_if_eq (tgt := 101) dX7_put_94 (by decide) (fun c94 => ?_) (fun c94 => absurd (by decide) c94)
          refine g_iconstv (v := 1) dX7_put_101 rfl ?_
          refine g_iadd dX7_put_102 ?_
          refine g_istore_n dX7_put_103 (by decide) rfl ?_
          refine g_iincN dX7_put_104 rfl (by decide) rfl ?_
          refine g_goto (tgt := 16) dX7_put_107 (by decide) ?_
          exact ih (k + 1) _ _ _ _ (by omega) (by show mPutF c (mPutL c k) k = _; rw [e]; simp only [mPutF, c39, c44, c56, m_10, Int32.add_zero, eq_self, not_true_eq_false, not_false_eq_true, and_true, true_and, and_false, false_and, if_true, if_false, reduceIte])
        · skip
          refine g_iload dX7_put_59 rfl ?_
          refine g_if_eq (tgt := 72) dX7_put_61 (by decide) (fun c61 => ?_) (fun c61 => absurd (by decide) c61)
          refine g_iload dX7_put_72 rfl ?_
          refine g_bipushv (v := 33) dX7_put_74 rfl ?_
          refine g_bipushv (v := 126) dX7_put_76 rfl ?_
          refine g_S3i dX7_put_78 ml_X7_33 sX7_in (Nat.le_of_ble_eq_true rfl) (c_in (d + 3) (mCode c (nI k)) 33 126) ?_
          refine g_if_eq (tgt := 88) dX7_put_81 (by decide) (fun c81 => ?_) (fun c81 => ?_)
          · skip
            refine g_iconstv (v := 0) dX7_put_88 rfl ?_
            refine g_istore dX7_put_89 (by decide) rfl ?_
            refine g_iload_n dX7_put_91 rfl ?_
            refine g_iload dX7_put_92 rfl ?_
            refine g_if_eq (tgt := 101) dX7_put_94 (by decide) (fun c94 => ?_) (fun c94 => absurd (by decide) c94)
            refine g_iconstv (v := 1) dX7_put_101 rfl ?_
            refine g_iadd dX7_put_102 ?_
            refine g_istore_n dX7_put_103 (by decide) rfl ?_
            refine g_iincN dX7_put_104 rfl (by decide) rfl ?_
            refine g_goto (tgt := 16) dX7_put_107 (by decide) ?_
            exact ih (k + 1) _ _ _ _ (by omega) (by show mPutF c (mPutL c k) k = _; rw [e]; simp only [mPutF, c39, c44, c56, c81, m_10, Int32.add_zero, eq_self, not_true_eq_false, not_false_eq_true, and_true, true_and, and_false, false_and, if_true, if_false, reduceIte])
          · skip
            refine g_iconstv (v := 1) dX7_put_84 rfl ?_
            refine g_goto (tgt := 89) dX7_put_85 (by decide) ?_
            refine g_istore dX7_put_89 (by decide) rfl ?_
            refine g_iload_n dX7_put_91 rfl ?_
            refine g_iload dX7_put_92 rfl ?_
            refine g_if_eq (tgt := 101) dX7_put_94 (by decide) (fun c94 => ?_) (fun c94 => absurd (by decide) c94)
            refine g_iconstv (v := 1) dX7_put_101 rfl ?_
            refine g_iadd dX7_put_102 ?_
            refine g_istore_n dX7_put_103 (by decide) rfl ?_
            refine g_iincN dX7_put_104 rfl (by decide) rfl ?_
            refine g_goto (tgt := 16) dX7_put_107 (by decide) ?_
            exact ih (k + 1) _ _ _ _ (by omega) (by show mPutF c (mPutL c k) k = _; rw [e]; simp only [mPutF, c39, c44, c56, c81, m_10, Int32.add_zero, eq_self, not_true_eq_false, not_false_eq_true, and_true, true_and, and_false, false_and, if_true, if_false, reduceIte])
      · skip
        refine g_iconstv (v := 1) dX7_put_47 rfl ?_
        refine g_goto (tgt := 52) dX7_put_48 (by decide) ?_
        refine g_istore dX7_put_52 (by decide) rfl ?_
        refine g_iload dX7_put_54 rfl ?_
        refine g_if_eq (tgt := 88) dX7_put_56 (by decide) (fun c56 => ?_) (fun c56 => ?_)
        · skip
          refine g_iconstv (v := 0) dX7_put_88 rfl ?_
          refine g_istore dX7_put_89 (by decide) rfl ?_
          refine g_iload_n dX7_put_91 rfl ?_
          refine g_iload dX7_put_92 rfl ?_
          refine g_if_eq (tgt := 101) dX7_put_94 (by decide) (fun c94 => absurd c94 (by decide)) (fun c94 => ?_)
          refine g_iconstv (v := 0) dX7_put_97 rfl ?_
          refine g_goto (tgt := 102) dX7_put_98 (by decide) ?_
          refine g_iadd dX7_put_102 ?_
          refine g_istore_n dX7_put_103 (by decide) rfl ?_
          refine g_iincN dX7_put_104 rfl (by decide) rfl ?_
          refine g_goto (tgt := 16) dX7_put_107 (by decide) ?_
          exact ih (k + 1) _ _ _ _ (by omega) (by show mPutF c (mPutL c k) k = _; rw [e]; simp only [mPutF, c39, c44, c56, m_10, Int32.add_zero, eq_self, not_true_eq_false, not_false_eq_true, and_true, true_and, and_false, false_and, if_true, if_false, reduceIte])
        · skip
          refine g_iload dX7_put_59 rfl ?_
          refine g_if_eq (tgt := 72) dX7_put_61 (by decide) (fun c61 => absurd c61 (by decide)) (fun c61 => ?_)
          refine g_iload dX7_put_64 rfl ?_
          refine g_if_ne (tgt := 88) dX7_put_66 (by decide) (fun c66 => ?_) (fun c66 => ?_)
          · skip
            refine g_iconstv (v := 0) dX7_put_88 rfl ?_
            refine g_istore dX7_put_89 (by decide) rfl ?_
            refine g_iload_n dX7_put_91 rfl ?_
            refine g_iload dX7_put_92 rfl ?_
            refine g_if_eq (tgt := 101) dX7_put_94 (by decide) (fun c94 => absurd c94 (by decide)) (fun c94 => ?_)
            refine g_iconstv (v := 0) dX7_put_97 rfl ?_
            refine g_goto (tgt := 102) dX7_put_98 (by decide) ?_
            refine g_iadd dX7_put_102 ?_
            refine g_istore_n dX7_put_103 (by decide) rfl ?_
            refine g_iincN dX7_put_104 rfl (by decide) rfl ?_
            refine g_goto (tgt := 16) dX7_put_107 (by decide) ?_
            first | exact absurd c44 c66 | exact absurd c66 c44
          · skip
            refine g_goto (tgt := 84) dX7_put_69 (by decide) ?_
            refine g_iconstv (v := 1) dX7_put_84 rfl ?_
            refine g_goto (tgt := 89) dX7_put_85 (by decide) ?_
            refine g_istore dX7_put_89 (by decide) rfl ?_
            refine g_iload_n dX7_put_91 rfl ?_
            refine g_iload dX7_put_92 rfl ?_
            refine g_if_eq (tgt := 101) dX7_put_94 (by decide) (fun c94 => absurd c94 (by decide)) (fun c94 => ?_)
            refine g_iconstv (v := 0) dX7_put_97 rfl ?_
            refine g_goto (tgt := 102) dX7_put_98 (by decide) ?_
            refine g_iadd dX7_put_102 ?_
            refine g_istore_n dX7_put_103 (by decide) rfl ?_
            refine g_iincN dX7_put_104 rfl (by decide) rfl ?_
            refine g_goto (tgt := 16) dX7_put_107 (by decide) ?_
            exact ih (k + 1) _ _ _ _ (by omega) (by show mPutF c (mPutL c k) k = _; rw [e]; simp only [mPutF, c39, c44, c56, c66, m_10, Int32.add_zero, eq_self, not_true_eq_false, not_false_eq_true, and_true, true_and, and_false, false_and, if_true, if_false, reduceIte])
set_option maxHeartbeats 4000000 in
set_option maxRecDepth 100000 in
theorem lp_pm {L : Nat} {F : Nat → Nat → Int32} {g : Nat → Option Nat} (d : Nat) (c : Int64) (o y : Int32) (j i : Option Value) (hy : ¬ y = 0) (m l : Nat) (hm0 : 0 < m) (hm8 : m ≤ 8) (el : F 172 7 = nI l) (hl : l ≤ 80) (h80 : 80 < l + m) : mGo MX7_put (d + 4) (110, [some (.ref 172), some (.long c), none, some (.int (nI m)), some (.int o), some (.int y), j, i], [], mHX L F g) (some (.int (-4)), mHX L F g) := by
  refine g_iload dX7_put_110 rfl ?_
  refine g_if_eq (tgt := 119) dX7_put_112 (by decide) (fun c112 => absurd c112 hy) (fun c112 => ?_)
  refine g_iload_n dX7_put_115 rfl ?_
  refine g_if_ne (tgt := 122) dX7_put_116 (by decide) (fun c116 => ?_) (fun c116 => absurd c116 (nI_ne0 hm0 (by omega)))
  refine g_aload_n dX7_put_122 rfl ?_
  refine g_gI dX7_put_123 fl_X7_146 (fun _ _ => rfl) rfl (by decide) ?_
  refine g_iload_n dX7_put_126 rfl ?_
  refine g_iadd dX7_put_127 ?_
  refine g_bipushv (v := 80) dX7_put_128 rfl ?_
  refine g_icmp_le (tgt := 136) dX7_put_130 (by decide) (fun c130 => absurd c130 (by rw [el, nI_add]; exact nI_ge (a := 80) (b := l + m) h80 (by omega))) (fun c130 => ?_)
  refine g_bipushv (v := (-4)) dX7_put_133 rfl ?_
  exact g_iret dX7_put_135 rfl
def yPutF (c : Int64) (l m : Nat) (F : Nat → Nat → Int32) (j : Nat) : Nat → Nat → Int32 := pe (pe F 177 (l + j) (mCode c (nI (m - 1 - j)))) 172 7 (nI (l + j + 1))
def yPut (F : Nat → Nat → Int32) (c : Int64) (l m : Nat) : Nat → Nat → Int32 := mfold (yPutF c l m) F m
theorem yPut_7 {F : Nat → Nat → Int32} {c : Int64} {l m j : Nat} (el : F 172 7 = nI l) : mfold (yPutF c l m) F j 172 7 = nI (l + j) := by
  cases j with
  | zero => exact el
  | succ j =>
    rw [mfold_succ]
    exact pe_eq _ _ _ _
set_option maxHeartbeats 4000000 in
set_option maxRecDepth 100000 in
theorem lp_pw {L : Nat} {F : Nat → Nat → Int32} {g : Nat → Option Nat} (d : Nat) (c : Int64) (o y : Int32) (i : Option Value) (z : Int32) (m l : Nat) (el : F 172 7 = nI l) (h80 : l + m ≤ 80) (hm8 : m ≤ 8) : ∀ (r j : Nat) (G : Nat → Nat → Int32), j + r = m → G = mfold (yPutF c l m) F j → mGo MX7_put (d + 4) (141, [some (.ref 172), some (.long c), none, some (.int z), some (.int o), some (.int y), some (.int (nI r - 1)), i], [], mHX L G g) (some (.int (nI (l + m))), mHX L (yPut F c l m) g) := by
  intro r
  induction r with
  | zero =>
    intro j G hk eG
    obtain rfl : j = m := by omega
    have e7 : G 172 7 = nI (l + j) := by rw [eG]; exact yPut_7 el
    refine g_iload dX7_put_141 rfl ?_
    refine g_if_lt (tgt := 183) dX7_put_143 (by decide) (fun c143 => ?_) (fun c143 => absurd (by decide) c143)
    refine g_aload_n dX7_put_183 rfl ?_
    refine g_gI dX7_put_184 fl_X7_146 (fun _ _ => rfl) rfl (by decide) ?_
    exact g_iret dX7_put_187 (m_ret2 e7.symm (by rw [eG]; rfl))
  | succ r ih =>
    intro j G hk eG
    have e7 : G 172 7 = nI (l + j) := by rw [eG]; exact yPut_7 el
    rw [show (nI (r + 1) - 1 : Int32) = nI r from nI_pred r]
    refine g_iload dX7_put_141 rfl ?_
    refine g_if_lt (tgt := 183) dX7_put_143 (by decide) (fun c143 => absurd c143 (nI_pos (by omega))) (fun c143 => ?_)
    refine g_aload_n dX7_put_146 rfl ?_
    refine g_gR (r := 177) dX7_put_147 fl_X7_23 (fun _ _ => rfl) rfl (by decide) rfl ?_
    refine g_aload_n dX7_put_150 rfl ?_
    refine g_gI dX7_put_151 fl_X7_146 (fun _ _ => rfl) rfl (by decide) ?_
    refine g_lload_n dX7_put_154 rfl ?_
    refine g_bipushv (v := 8) dX7_put_155 rfl ?_
    refine g_iload dX7_put_157 rfl ?_
    refine g_imul dX7_put_159 ?_
    refine g_lshr dX7_put_160 ?_
    refine g_ldc2 dX7_put_161 kl_X7_149 ?_
    refine g_land dX7_put_164 ?_
    refine g_l2i dX7_put_165 ?_
    refine g_iastN (gx := (l + j)) dX7_put_166 rfl (by decide) e7 (by omega) (by decide) ?_
    refine g_aload_n dX7_put_167 rfl ?_
    refine g_dup dX7_put_168 rfl ?_
    refine g_gI dX7_put_169 fl_X7_146 (fun _ _ => rfl) rfl (by decide) ?_
    refine g_iconstv (v := 1) dX7_put_172 rfl ?_
    refine g_iadd dX7_put_173 ?_
    rw [pe_row (by decide), e7, nI_1]
    refine g_pI dX7_put_174 fl_X7_146 (Or.inl rfl) rfl (by decide) rfl ?_
    refine g_iincx (w := (-1)) dX7_put_177 rfl rfl (by decide) rfl ?_
    refine g_goto (tgt := 141) dX7_put_180 (by decide) ?_
    rw [show nI r + (-1) = nI r - 1 from (Int32.sub_eq_add_neg _ _).symm]
    exact ih (j + 1) _ (by omega) (by rw [eG, mfold_succ]; unfold yPutF; rw [show m - 1 - j = r by omega]; rfl)
set_option maxHeartbeats 4000000 in
set_option maxRecDepth 100000 in
theorem lp_po {L : Nat} {F : Nat → Nat → Int32} {g : Nat → Option Nat} (d : Nat) (c : Int64) (o y : Int32) (j i : Option Value) (hy : ¬ y = 0) (m l : Nat) (hm0 : 0 < m) (hm8 : m ≤ 8) (el : F 172 7 = nI l) (hl : l ≤ 80) (h80 : l + m ≤ 80) : mGo MX7_put (d + 4) (110, [some (.ref 172), some (.long c), none, some (.int (nI m)), some (.int o), some (.int y), j, i], [], mHX L F g) (some (.int (nI (l + m))), mHX L (yPut F c l m) g) := by
  refine g_iload dX7_put_110 rfl ?_
  refine g_if_eq (tgt := 119) dX7_put_112 (by decide) (fun c112 => absurd c112 hy) (fun c112 => ?_)
  refine g_iload_n dX7_put_115 rfl ?_
  refine g_if_ne (tgt := 122) dX7_put_116 (by decide) (fun c116 => ?_) (fun c116 => absurd c116 (nI_ne0 hm0 (by omega)))
  refine g_aload_n dX7_put_122 rfl ?_
  refine g_gI dX7_put_123 fl_X7_146 (fun _ _ => rfl) rfl (by decide) ?_
  refine g_iload_n dX7_put_126 rfl ?_
  refine g_iadd dX7_put_127 ?_
  refine g_bipushv (v := 80) dX7_put_128 rfl ?_
  refine g_icmp_le (tgt := 136) dX7_put_130 (by decide) (fun c130 => ?_) (fun c130 => absurd (by rw [el, nI_add]; exact nI_le (a := l + m) (b := 80) h80 (by omega)) c130)
  refine g_iload_n dX7_put_136 rfl ?_
  refine g_iconstv (v := 1) dX7_put_137 rfl ?_
  refine g_isub dX7_put_138 ?_
  refine g_istore dX7_put_139 (by decide) rfl ?_
  exact lp_pw d c o y _ _ m l el h80 hm8 m 0 _ (Nat.zero_add m) rfl
set_option maxHeartbeats 4000000 in
set_option maxRecDepth 100000 in
theorem lp_put_many {L : Nat} {F : Nat → Nat → Int32} {g : Nat → Option Nat} (d : Nat) (c : Int64) (m l : Nat) (hm0 : 0 < m) (hm8 : m ≤ 8) (el : F 172 7 = nI l) (hl : l ≤ 80) (em : (mPutL c 8).1 = nI m) (ey : ¬ (mPutL c 8).2.2 = 0) (h80 : 80 < l + m) : ∀ (r k : Nat) (z o y : Int32) (j : Option Value), k + r = 8 → mPutL c k = (z, o, y) → mGo MX7_put (d + 4) (16, [some (.ref 172), some (.long c), none, some (.int z), some (.int o), some (.int y), some (.int (nI k)), j], [], mHX L F g) (some (.int (-4)), mHX L F g) := by
  intro r
  induction r with
  | zero =>
    intro k z o y j hk e
    obtain rfl : k = 8 := by omega
    refine g_iload dX7_put_16 rfl ?_
    refine g_bipushv (v := 8) dX7_put_18 rfl ?_
    refine g_icmp_ge (tgt := 110) dX7_put_20 (by decide) (fun c20 => ?_) (fun c20 => absurd (Int32.le_refl _) c20)
    rw [e] at em ey
    rw [show z = nI m from em]
    exact lp_pm d c o y _ _ ey m l hm0 hm8 el hl h80
  | succ r ih =>
    intro k z o y j hk e
    refine g_iload dX7_put_16 rfl ?_
    refine g_bipushv (v := 8) dX7_put_18 rfl ?_
    refine g_icmp_ge (tgt := 110) dX7_put_20 (by decide) (fun c20 => absurd c20 (nI_ge (a := k) (b := 8) (by omega) (by decide))) (fun c20 => ?_)
    refine g_lload_n dX7_put_23 rfl ?_
    refine g_bipushv (v := 8) dX7_put_24 rfl ?_
    refine g_iload dX7_put_26 rfl ?_
    refine g_imul dX7_put_28 ?_
    refine g_lshr dX7_put_29 ?_
    refine g_ldc2 dX7_put_30 kl_X7_149 ?_
    refine g_land dX7_put_33 ?_
    refine g_l2i dX7_put_34 ?_
    show mGo _ _ (_, _, [.int (mCode c (nI k))], _) _
    refine g_istore dX7_put_35 (by decide) rfl ?_
    refine g_iload dX7_put_37 rfl ?_
    refine g_if_ne (tgt := 47) dX7_put_39 (by decide) (fun c39 => ?_) (fun c39 => ?_)
    · skip
      refine g_iconstv (v := 1) dX7_put_47 rfl ?_
      refine g_goto (tgt := 52) dX7_put_48 (by decide) ?_
      refine g_istore dX7_put_52 (by decide) rfl ?_
      refine g_iload dX7_put_54 rfl ?_
      refine g_if_eq (tgt := 88) dX7_put_56 (by decide) (fun c56 => ?_) (fun c56 => ?_)
      · skip
        refine g_iconstv (v := 0) dX7_put_88 rfl ?_
        refine g_istore dX7_put_89 (by decide) rfl ?_
        refine g_iload_n dX7_put_91 rfl ?_
        refine g_iload dX7_put_92 rfl ?_
        refine g_if_eq (tgt := 101) dX7_put_94 (by decide) (fun c94 => absurd c94 (by decide)) (fun c94 => ?_)
        refine g_iconstv (v := 0) dX7_put_97 rfl ?_
        refine g_goto (tgt := 102) dX7_put_98 (by decide) ?_
        refine g_iadd dX7_put_102 ?_
        refine g_istore_n dX7_put_103 (by decide) rfl ?_
        refine g_iincN dX7_put_104 rfl (by decide) rfl ?_
        refine g_goto (tgt := 16) dX7_put_107 (by decide) ?_
        exact ih (k + 1) _ _ _ _ (by omega) (by show mPutF c (mPutL c k) k = _; rw [e]; simp only [mPutF, c39, c56, m_10, Int32.add_zero, eq_self, not_true_eq_false, not_false_eq_true, and_true, true_and, and_false, false_and, if_true, if_false, reduceIte])
      · skip
        refine g_iload dX7_put_59 rfl ?_
        refine g_if_eq (tgt := 72) dX7_put_61 (by decide) (fun c61 => absurd c61 (by decide)) (fun c61 => ?_)
        refine g_iload dX7_put_64 rfl ?_
        refine g_if_ne (tgt := 88) dX7_put_66 (by decide) (fun c66 => ?_) (fun c66 => ?_)
        · skip
          refine g_iconstv (v := 0) dX7_put_88 rfl ?_
          refine g_istore dX7_put_89 (by decide) rfl ?_
          refine g_iload_n dX7_put_91 rfl ?_
          refine g_iload dX7_put_92 rfl ?_
          refine g_if_eq (tgt := 101) dX7_put_94 (by decide) (fun c94 => absurd c94 (by decide)) (fun c94 => ?_)
          refine g_iconstv (v := 0) dX7_put_97 rfl ?_
          refine g_goto (tgt := 102) dX7_put_98 (by decide) ?_
          refine g_iadd dX7_put_102 ?_
          refine g_istore_n dX7_put_103 (by decide) rfl ?_
          refine g_iincN dX7_put_104 rfl (by decide) rfl ?_
          refine g_goto (tgt := 16) dX7_put_107 (by decide) ?_
          exact ih (k + 1) _ _ _ _ (by omega) (by show mPutF c (mPutL c k) k = _; rw [e]; simp only [mPutF, c39, c56, c66, m_10, Int32.add_zero, eq_self, not_true_eq_false, not_false_eq_true, and_true, true_and, and_false, false_and, if_true, if_false, reduceIte])
        · skip
          refine g_goto (tgt := 84) dX7_put_69 (by decide) ?_
          refine g_iconstv (v := 1) dX7_put_84 rfl ?_
          refine g_goto (tgt := 89) dX7_put_85 (by decide) ?_
          refine g_istore dX7_put_89 (by decide) rfl ?_
          refine g_iload_n dX7_put_91 rfl ?_
          refine g_iload dX7_put_92 rfl ?_
          refine g_if_eq (tgt := 101) dX7_put_94 (by decide) (fun c94 => absurd c94 (by decide)) (fun c94 => ?_)
          refine g_iconstv (v := 0) dX7_put_97 rfl ?_
          refine g_goto (tgt := 102) dX7_put_98 (by decide) ?_
          refine g_iadd dX7_put_102 ?_
          refine g_istore_n dX7_put_103 (by decide) rfl ?_
          refine g_iincN dX7_put_104 rfl (by decide) rfl ?_
          refine g_goto (tgt := 16) dX7_put_107 (by decide) ?_
          exact ih (k + 1) _ _ _ _ (by omega) (by show mPutF c (mPutL c k) k = _; rw [e]; simp only [mPutF, c39, c56, c66, m_10, Int32.add_zero, eq_self, not_true_eq_false, not_false_eq_true, and_true, true_and, and_false, false_and, if_true, if_false, reduceIte])
    · skip
      refine g_iload dX7_put_42 rfl ?_
      refine g_if_ne (tgt := 51) dX7_put_44 (by decide) (fun c44 => ?_) (fun c44 => ?_)
      · skip
        refine g_iconstv (v := 0) dX7_put_51 rfl ?_
        refine g_istore dX7_put_52 (by decide) rfl ?_
        refine g_iload dX7_put_54 rfl ?_
        refine g_if_eq (tgt := 88) dX7_put_56 (by decide) (fun c56 => ?_) (fun c56 => ?_)
        · skip
          refine g_iconstv (v := 0) dX7_put_88 rfl ?_
          refine g_istore dX7_put_89 (by decide) rfl ?_
          refine g_iload_n dX7_put_91 rfl ?_
          refine g_iload dX7_put_92 rfl ?_
          refine g_if_eq (tgt := 101) dX7_put_94 (by decide) (fun c94 => ?_) (fun c94 => absurd (by decide) c94)
          refine g_iconstv (v := 1) dX7_put_101 rfl ?_
          refine g_iadd dX7_put_102 ?_
          refine g_istore_n dX7_put_103 (by decide) rfl ?_
          refine g_iincN dX7_put_104 rfl (by decide) rfl ?_
          refine g_goto (tgt := 16) dX7_put_107 (by decide) ?_
          exact ih (k + 1) _ _ _ _ (by omega) (by show mPutF c (mPutL c k) k = _; rw [e]; simp only [mPutF, c39, c44, c56, m_10, Int32.add_zero, eq_self, not_true_eq_false, not_false_eq_true, and_true, true_and, and_false, false_and, if_true, if_false, reduceIte])
        · skip
          refine g_iload dX7_put_59 rfl ?_
          refine g_if_eq (tgt := 72) dX7_put_61 (by decide) (fun c61 => ?_) (fun c61 => absurd (by decide) c61)
          refine g_iload dX7_put_72 rfl ?_
          refine g_bipushv (v := 33) dX7_put_74 rfl ?_
          refine g_bipushv (v := 126) dX7_put_76 rfl ?_
          refine g_S3i dX7_put_78 ml_X7_33 sX7_in (Nat.le_of_ble_eq_true rfl) (c_in (d + 3) (mCode c (nI k)) 33 126) ?_
          refine g_if_eq (tgt := 88) dX7_put_81 (by decide) (fun c81 => ?_) (fun c81 => ?_)
          · skip
            refine g_iconstv (v := 0) dX7_put_88 rfl ?_
            refine g_istore dX7_put_89 (by decide) rfl ?_
            refine g_iload_n dX7_put_91 rfl ?_
            refine g_iload dX7_put_92 rfl ?_
            refine g_if_eq (tgt := 101) dX7_put_94 (by decide) (fun c94 => ?_) (fun c94 => absurd (by decide) c94)
            refine g_iconstv (v := 1) dX7_put_101 rfl ?_
            refine g_iadd dX7_put_102 ?_
            refine g_istore_n dX7_put_103 (by decide) rfl ?_
            refine g_iincN dX7_put_104 rfl (by decide) rfl ?_
            refine g_goto (tgt := 16) dX7_put_107 (by decide) ?_
            exact ih (k + 1) _ _ _ _ (by omega) (by show mPutF c (mPutL c k) k = _; rw [e]; simp only [mPutF, c39, c44, c56, c81, m_10, Int32.add_zero, eq_self, not_true_eq_false, not_false_eq_true, and_true, true_and, and_false, false_and, if_true, if_false, reduceIte])
          · skip
            refine g_iconstv (v := 1) dX7_put_84 rfl ?_
            refine g_goto (tgt := 89) dX7_put_85 (by decide) ?_
            refine g_istore dX7_put_89 (by decide) rfl ?_
            refine g_iload_n dX7_put_91 rfl ?_
            refine g_iload dX7_put_92 rfl ?_
            refine g_if_eq (tgt := 101) dX7_put_94 (by decide) (fun c94 => ?_) (fun c94 => absurd (by decide) c94)
            refine g_iconstv (v := 1) dX7_put_101 rfl ?_
            refine g_iadd dX7_put_102 ?_
            refine g_istore_n dX7_put_103 (by decide) rfl ?_
            refine g_iincN dX7_put_104 rfl (by decide) rfl ?_
            refine g_goto (tgt := 16) dX7_put_107 (by decide) ?_
            exact ih (k + 1) _ _ _ _ (by omega) (by show mPutF c (mPutL c k) k = _; rw [e]; simp only [mPutF, c39, c44, c56, c81, m_10, Int32.add_zero, eq_self, not_true_eq_false, not_false_eq_true, and_true, true_and, and_false, false_and, if_true, if_false, reduceIte])
      · skip
        refine g_iconstv (v := 1) dX7_put_47 rfl ?_
        refine g_goto (tgt := 52) dX7_put_48 (by decide) ?_
        refine g_istore dX7_put_52 (by decide) rfl ?_
        refine g_iload dX7_put_54 rfl ?_
        refine g_if_eq (tgt := 88) dX7_put_56 (by decide) (fun c56 => ?_) (fun c56 => ?_)
        · skip
          refine g_iconstv (v := 0) dX7_put_88 rfl ?_
          refine g_istore dX7_put_89 (by decide) rfl ?_
          refine g_iload_n dX7_put_91 rfl ?_
          refine g_iload dX7_put_92 rfl ?_
          refine g_if_eq (tgt := 101) dX7_put_94 (by decide) (fun c94 => absurd c94 (by decide)) (fun c94 => ?_)
          refine g_iconstv (v := 0) dX7_put_97 rfl ?_
          refine g_goto (tgt := 102) dX7_put_98 (by decide) ?_
          refine g_iadd dX7_put_102 ?_
          refine g_istore_n dX7_put_103 (by decide) rfl ?_
          refine g_iincN dX7_put_104 rfl (by decide) rfl ?_
          refine g_goto (tgt := 16) dX7_put_107 (by decide) ?_
          exact ih (k + 1) _ _ _ _ (by omega) (by show mPutF c (mPutL c k) k = _; rw [e]; simp only [mPutF, c39, c44, c56, m_10, Int32.add_zero, eq_self, not_true_eq_false, not_false_eq_true, and_true, true_and, and_false, false_and, if_true, if_false, reduceIte])
        · skip
          refine g_iload dX7_put_59 rfl ?_
          refine g_if_eq (tgt := 72) dX7_put_61 (by decide) (fun c61 => absurd c61 (by decide)) (fun c61 => ?_)
          refine g_iload dX7_put_64 rfl ?_
          refine g_if_ne (tgt := 88) dX7_put_66 (by decide) (fun c66 => ?_) (fun c66 => ?_)
          · skip
            refine g_iconstv (v := 0) dX7_put_88 rfl ?_
            refine g_istore dX7_put_89 (by decide) rfl ?_
            refine g_iload_n dX7_put_91 rfl ?_
            refine g_iload dX7_put_92 rfl ?_
            refine g_if_eq (tgt := 101) dX7_put_94 (by decide) (fun c94 => absurd c94 (by decide)) (fun c94 => ?_)
            refine g_iconstv (v := 0) dX7_put_97 rfl ?_
            refine g_goto (tgt := 102) dX7_put_98 (by decide) ?_
            refine g_iadd dX7_put_102 ?_
            refine g_istore_n dX7_put_103 (by decide) rfl ?_
            refine g_iincN dX7_put_104 rfl (by decide) rfl ?_
            refine g_goto (tgt := 16) dX7_put_107 (by decide) ?_
            first | exact absurd c44 c66 | exact absurd c66 c44
          · skip
            refine g_goto (tgt := 84) dX7_put_69 (by decide) ?_
            refine g_iconstv (v := 1) dX7_put_84 rfl ?_
            refine g_goto (tgt := 89) dX7_put_85 (by decide) ?_
            refine g_istore dX7_put_89 (by decide) rfl ?_
            refine g_iload_n dX7_put_91 rfl ?_
            refine g_iload dX7_put_92 rfl ?_
            refine g_if_eq (tgt := 101) dX7_put_94 (by decide) (fun c94 => absurd c94 (by decide)) (fun c94 => ?_)
            refine g_iconstv (v := 0) dX7_put_97 rfl ?_
            refine g_goto (tgt := 102) dX7_put_98 (by decide) ?_
            refine g_iadd dX7_put_102 ?_
            refine g_istore_n dX7_put_103 (by decide) rfl ?_
            refine g_iincN dX7_put_104 rfl (by decide) rfl ?_
            refine g_goto (tgt := 16) dX7_put_107 (by decide) ?_
            exact ih (k + 1) _ _ _ _ (by omega) (by show mPutF c (mPutL c k) k = _; rw [e]; simp only [mPutF, c39, c44, c56, c66, m_10, Int32.add_zero, eq_self, not_true_eq_false, not_false_eq_true, and_true, true_and, and_false, false_and, if_true, if_false, reduceIte])
set_option maxHeartbeats 4000000 in
set_option maxRecDepth 100000 in
theorem lp_put_ok {L : Nat} {F : Nat → Nat → Int32} {g : Nat → Option Nat} (d : Nat) (c : Int64) (m l : Nat) (hm0 : 0 < m) (hm8 : m ≤ 8) (el : F 172 7 = nI l) (hl : l ≤ 80) (em : (mPutL c 8).1 = nI m) (ey : ¬ (mPutL c 8).2.2 = 0) (h80 : l + m ≤ 80) : ∀ (r k : Nat) (z o y : Int32) (j : Option Value), k + r = 8 → mPutL c k = (z, o, y) → mGo MX7_put (d + 4) (16, [some (.ref 172), some (.long c), none, some (.int z), some (.int o), some (.int y), some (.int (nI k)), j], [], mHX L F g) (some (.int (nI (l + m))), mHX L (yPut F c l m) g) := by
  intro r
  induction r with
  | zero =>
    intro k z o y j hk e
    obtain rfl : k = 8 := by omega
    refine g_iload dX7_put_16 rfl ?_
    refine g_bipushv (v := 8) dX7_put_18 rfl ?_
    refine g_icmp_ge (tgt := 110) dX7_put_20 (by decide) (fun c20 => ?_) (fun c20 => absurd (Int32.le_refl _) c20)
    rw [e] at em ey
    rw [show z = nI m from em]
    exact lp_po d c o y _ _ ey m l hm0 hm8 el hl h80
  | succ r ih =>
    intro k z o y j hk e
    refine g_iload dX7_put_16 rfl ?_
    refine g_bipushv (v := 8) dX7_put_18 rfl ?_
    refine g_icmp_ge (tgt := 110) dX7_put_20 (by decide) (fun c20 => absurd c20 (nI_ge (a := k) (b := 8) (by omega) (by decide))) (fun c20 => ?_)
    refine g_lload_n dX7_put_23 rfl ?_
    refine g_bipushv (v := 8) dX7_put_24 rfl ?_
    refine g_iload dX7_put_26 rfl ?_
    refine g_imul dX7_put_28 ?_
    refine g_lshr dX7_put_29 ?_
    refine g_ldc2 dX7_put_30 kl_X7_149 ?_
    refine g_land dX7_put_33 ?_
    refine g_l2i dX7_put_34 ?_
    show mGo _ _ (_, _, [.int (mCode c (nI k))], _) _
    refine g_istore dX7_put_35 (by decide) rfl ?_
    refine g_iload dX7_put_37 rfl ?_
    refine g_if_ne (tgt := 47) dX7_put_39 (by decide) (fun c39 => ?_) (fun c39 => ?_)
    · skip
      refine g_iconstv (v := 1) dX7_put_47 rfl ?_
      refine g_goto (tgt := 52) dX7_put_48 (by decide) ?_
      refine g_istore dX7_put_52 (by decide) rfl ?_
      refine g_iload dX7_put_54 rfl ?_
      refine g_if_eq (tgt := 88) dX7_put_56 (by decide) (fun c56 => ?_) (fun c56 => ?_)
      · skip
        refine g_iconstv (v := 0) dX7_put_88 rfl ?_
        refine g_istore dX7_put_89 (by decide) rfl ?_
        refine g_iload_n dX7_put_91 rfl ?_
        refine g_iload dX7_put_92 rfl ?_
        refine g_if_eq (tgt := 101) dX7_put_94 (by decide) (fun c94 => absurd c94 (by decide)) (fun c94 => ?_)
        refine g_iconstv (v := 0) dX7_put_97 rfl ?_
        refine g_goto (tgt := 102) dX7_put_98 (by decide) ?_
        refine g_iadd dX7_put_102 ?_
        refine g_istore_n dX7_put_103 (by decide) rfl ?_
        refine g_iincN dX7_put_104 rfl (by decide) rfl ?_
        refine g_goto (tgt := 16) dX7_put_107 (by decide) ?_
        exact ih (k + 1) _ _ _ _ (by omega) (by show mPutF c (mPutL c k) k = _; rw [e]; simp only [mPutF, c39, c56, m_10, Int32.add_zero, eq_self, not_true_eq_false, not_false_eq_true, and_true, true_and, and_false, false_and, if_true, if_false, reduceIte])
      · skip
        refine g_iload dX7_put_59 rfl ?_
        refine g_if_eq (tgt := 72) dX7_put_61 (by decide) (fun c61 => absurd c61 (by decide)) (fun c61 => ?_)
        refine g_iload dX7_put_64 rfl ?_
        refine g_if_ne (tgt := 88) dX7_put_66 (by decide) (fun c66 => ?_) (fun c66 => ?_)
        · skip
          refine g_iconstv (v := 0) dX7_put_88 rfl ?_
          refine g_istore dX7_put_89 (by decide) rfl ?_
          refine g_iload_n dX7_put_91 rfl ?_
          refine g_iload dX7_put_92 rfl ?_
          refine g_if_eq (tgt := 101) dX7_put_94 (by decide) (fun c94 => absurd c94 (by decide)) (fun c94 => ?_)
          refine g_iconstv (v := 0) dX7_put_97 rfl ?_
          refine g_goto (tgt := 102) dX7_put_98 (by decide) ?_
          refine g_iadd dX7_put_102 ?_
          refine g_istore_n dX7_put_103 (by decide) rfl ?_
          refine g_iincN dX7_put_104 rfl (by decide) rfl ?_
          refine g_goto (tgt := 16) dX7_put_107 (by decide) ?_
          exact ih (k + 1) _ _ _ _ (by omega) (by show mPutF c (mPutL c k) k = _; rw [e]; simp only [mPutF, c39, c56, c66, m_10, Int32.add_zero, eq_self, not_true_eq_false, not_false_eq_true, and_true, true_and, and_false, false_and, if_true, if_false, reduceIte])
        · skip
          refine g_goto (tgt := 84) dX7_put_69 (by decide) ?_
          refine g_iconstv (v := 1) dX7_put_84 rfl ?_
          refine g_goto (tgt := 89) dX7_put_85 (by decide) ?_
          refine g_istore dX7_put_89 (by decide) rfl ?_
          refine g_iload_n dX7_put_91 rfl ?_
          refine g_iload dX7_put_92 rfl ?_
          refine g_if_eq (tgt := 101) dX7_put_94 (by decide) (fun c94 => absurd c94 (by decide)) (fun c94 => ?_)
          refine g_iconstv (v := 0) dX7_put_97 rfl ?_
          refine g_goto (tgt := 102) dX7_put_98 (by decide) ?_
          refine g_iadd dX7_put_102 ?_
          refine g_istore_n dX7_put_103 (by decide) rfl ?_
          refine g_iincN dX7_put_104 rfl (by decide) rfl ?_
          refine g_goto (tgt := 16) dX7_put_107 (by decide) ?_
          exact ih (k + 1) _ _ _ _ (by omega) (by show mPutF c (mPutL c k) k = _; rw [e]; simp only [mPutF, c39, c56, c66, m_10, Int32.add_zero, eq_self, not_true_eq_false, not_false_eq_true, and_true, true_and, and_false, false_and, if_true, if_false, reduceIte])
    · skip
      refine g_iload dX7_put_42 rfl ?_
      refine g_if_ne (tgt := 51) dX7_put_44 (by decide) (fun c44 => ?_) (fun c44 => ?_)
      · skip
        refine g_iconstv (v := 0) dX7_put_51 rfl ?_
        refine g_istore dX7_put_52 (by decide) rfl ?_
        refine g_iload dX7_put_54 rfl ?_
        refine g_if_eq (tgt := 88) dX7_put_56 (by decide) (fun c56 => ?_) (fun c56 => ?_)
        · skip
          refine g_iconstv (v := 0) dX7_put_88 rfl ?_
          refine g_istore dX7_put_89 (by decide) rfl ?_
          refine g_iload_n dX7_put_91 rfl ?_
          refine g_iload dX7_put_92 rfl ?_
          refine g_if_eq (tgt := 101) dX7_put_94 (by decide) (fun c94 => ?_) (fun c94 => absurd (by decide) c94)
          refine g_iconstv (v := 1) dX7_put_101 rfl ?_
          refine g_iadd dX7_put_102 ?_
          refine g_istore_n dX7_put_103 (by decide) rfl ?_
          refine g_iincN dX7_put_104 rfl (by decide) rfl ?_
          refine g_goto (tgt := 16) dX7_put_107 (by decide) ?_
          exact ih (k + 1) _ _ _ _ (by omega) (by show mPutF c (mPutL c k) k = _; rw [e]; simp only [mPutF, c39, c44, c56, m_10, Int32.add_zero, eq_self, not_true_eq_false, not_false_eq_true, and_true, true_and, and_false, false_and, if_true, if_false, reduceIte])
        · skip
          refine g_iload dX7_put_59 rfl ?_
          refine g_if_eq (tgt := 72) dX7_put_61 (by decide) (fun c61 => ?_) (fun c61 => absurd (by decide) c61)
          refine g_iload dX7_put_72 rfl ?_
          refine g_bipushv (v := 33) dX7_put_74 rfl ?_
          refine g_bipushv (v := 126) dX7_put_76 rfl ?_
          refine g_S3i dX7_put_78 ml_X7_33 sX7_in (Nat.le_of_ble_eq_true rfl) (c_in (d + 3) (mCode c (nI k)) 33 126) ?_
          refine g_if_eq (tgt := 88) dX7_put_81 (by decide) (fun c81 => ?_) (fun c81 => ?_)
          · skip
            refine g_iconstv (v := 0) dX7_put_88 rfl ?_
            refine g_istore dX7_put_89 (by decide) rfl ?_
            refine g_iload_n dX7_put_91 rfl ?_
            refine g_iload dX7_put_92 rfl ?_
            refine g_if_eq (tgt := 101) dX7_put_94 (by decide) (fun c94 => ?_) (fun c94 => absurd (by decide) c94)
            refine g_iconstv (v := 1) dX7_put_101 rfl ?_
            refine g_iadd dX7_put_102 ?_
            refine g_istore_n dX7_put_103 (by decide) rfl ?_
            refine g_iincN dX7_put_104 rfl (by decide) rfl ?_
            refine g_goto (tgt := 16) dX7_put_107 (by decide) ?_
            exact ih (k + 1) _ _ _ _ (by omega) (by show mPutF c (mPutL c k) k = _; rw [e]; simp only [mPutF, c39, c44, c56, c81, m_10, Int32.add_zero, eq_self, not_true_eq_false, not_false_eq_true, and_true, true_and, and_false, false_and, if_true, if_false, reduceIte])
          · skip
            refine g_iconstv (v := 1) dX7_put_84 rfl ?_
            refine g_goto (tgt := 89) dX7_put_85 (by decide) ?_
            refine g_istore dX7_put_89 (by decide) rfl ?_
            refine g_iload_n dX7_put_91 rfl ?_
            refine g_iload dX7_put_92 rfl ?_
            refine g_if_eq (tgt := 101) dX7_put_94 (by decide) (fun c94 => ?_) (fun c94 => absurd (by decide) c94)
            refine g_iconstv (v := 1) dX7_put_101 rfl ?_
            refine g_iadd dX7_put_102 ?_
            refine g_istore_n dX7_put_103 (by decide) rfl ?_
            refine g_iincN dX7_put_104 rfl (by decide) rfl ?_
            refine g_goto (tgt := 16) dX7_put_107 (by decide) ?_
            exact ih (k + 1) _ _ _ _ (by omega) (by show mPutF c (mPutL c k) k = _; rw [e]; simp only [mPutF, c39, c44, c56, c81, m_10, Int32.add_zero, eq_self, not_true_eq_false, not_false_eq_true, and_true, true_and, and_false, false_and, if_true, if_false, reduceIte])
      · skip
        refine g_iconstv (v := 1) dX7_put_47 rfl ?_
        refine g_goto (tgt := 52) dX7_put_48 (by decide) ?_
        refine g_istore dX7_put_52 (by decide) rfl ?_
        refine g_iload dX7_put_54 rfl ?_
        refine g_if_eq (tgt := 88) dX7_put_56 (by decide) (fun c56 => ?_) (fun c56 => ?_)
        · skip
          refine g_iconstv (v := 0) dX7_put_88 rfl ?_
          refine g_istore dX7_put_89 (by decide) rfl ?_
          refine g_iload_n dX7_put_91 rfl ?_
          refine g_iload dX7_put_92 rfl ?_
          refine g_if_eq (tgt := 101) dX7_put_94 (by decide) (fun c94 => absurd c94 (by decide)) (fun c94 => ?_)
          refine g_iconstv (v := 0) dX7_put_97 rfl ?_
          refine g_goto (tgt := 102) dX7_put_98 (by decide) ?_
          refine g_iadd dX7_put_102 ?_
          refine g_istore_n dX7_put_103 (by decide) rfl ?_
          refine g_iincN dX7_put_104 rfl (by decide) rfl ?_
          refine g_goto (tgt := 16) dX7_put_107 (by decide) ?_
          exact ih (k + 1) _ _ _ _ (by omega) (by show mPutF c (mPutL c k) k = _; rw [e]; simp only [mPutF, c39, c44, c56, m_10, Int32.add_zero, eq_self, not_true_eq_false, not_false_eq_true, and_true, true_and, and_false, false_and, if_true, if_false, reduceIte])
        · skip
          refine g_iload dX7_put_59 rfl ?_
          refine g_if_eq (tgt := 72) dX7_put_61 (by decide) (fun c61 => absurd c61 (by decide)) (fun c61 => ?_)
          refine g_iload dX7_put_64 rfl ?_
          refine g_if_ne (tgt := 88) dX7_put_66 (by decide) (fun c66 => ?_) (fun c66 => ?_)
          · skip
            refine g_iconstv (v := 0) dX7_put_88 rfl ?_
            refine g_istore dX7_put_89 (by decide) rfl ?_
            refine g_iload_n dX7_put_91 rfl ?_
            refine g_iload dX7_put_92 rfl ?_
            refine g_if_eq (tgt := 101) dX7_put_94 (by decide) (fun c94 => absurd c94 (by decide)) (fun c94 => ?_)
            refine g_iconstv (v := 0) dX7_put_97 rfl ?_
            refine g_goto (tgt := 102) dX7_put_98 (by decide) ?_
            refine g_iadd dX7_put_102 ?_
            refine g_istore_n dX7_put_103 (by decide) rfl ?_
            refine g_iincN dX7_put_104 rfl (by decide) rfl ?_
            refine g_goto (tgt := 16) dX7_put_107 (by decide) ?_
            first | exact absurd c44 c66 | exact absurd c66 c44
          · skip
            refine g_goto (tgt := 84) dX7_put_69 (by decide) ?_
            refine g_iconstv (v := 1) dX7_put_84 rfl ?_
            refine g_goto (tgt := 89) dX7_put_85 (by decide) ?_
            refine g_istore dX7_put_89 (by decide) rfl ?_
            refine g_iload_n dX7_put_91 rfl ?_
            refine g_iload dX7_put_92 rfl ?_
            refine g_if_eq (tgt := 101) dX7_put_94 (by decide) (fun c94 => absurd c94 (by decide)) (fun c94 => ?_)
            refine g_iconstv (v := 0) dX7_put_97 rfl ?_
            refine g_goto (tgt := 102) dX7_put_98 (by decide) ?_
            refine g_iadd dX7_put_102 ?_
            refine g_istore_n dX7_put_103 (by decide) rfl ?_
            refine g_iincN dX7_put_104 rfl (by decide) rfl ?_
            refine g_goto (tgt := 16) dX7_put_107 (by decide) ?_
            exact ih (k + 1) _ _ _ _ (by omega) (by show mPutF c (mPutL c k) k = _; rw [e]; simp only [mPutF, c39, c44, c56, c66, m_10, Int32.add_zero, eq_self, not_true_eq_false, not_false_eq_true, and_true, true_and, and_false, false_and, if_true, if_false, reduceIte])
set_option maxHeartbeats 4000000 in
set_option maxRecDepth 100000 in
theorem c_mput_bad {L : Nat} {F : Nat → Nat → Int32} {g : Nat → Option Nat} (d : Nat) (h0 : F 172 0 = 0) (c : Int64) (hb : ¬ (¬ (mPutL c 8).2.2 = 0 ∧ ¬ (mPutL c 8).1 = 0)) : mCall (d + 4) yX7_put MX7_put [.ref 172, .long c] (mHX L F g) (some (.int (-2))) (mHX L F g) := by
  refine mCall_of sX7_put.1 (Nat.le_of_ble_eq_true rfl) ⟨_, rfl, rfl⟩ ?_
  show mGo _ _ (0, [some (.ref 172), some (.long c), none, none, none, none, none, none], [], _) _
  refine g_aload_n dX7_put_0 rfl ?_
  refine g_iconstv (v := 0) dX7_put_1 rfl ?_
  refine g_pI dX7_put_2 fl_X7_29 (Or.inl rfl) rfl (by decide) rfl ?_
  rw [pe_id h0]
  refine g_iconstv (v := 0) dX7_put_5 rfl ?_
  refine g_istore_n dX7_put_6 (by decide) rfl ?_
  refine g_iconstv (v := 0) dX7_put_7 rfl ?_
  refine g_istore dX7_put_8 (by decide) rfl ?_
  refine g_iconstv (v := 1) dX7_put_10 rfl ?_
  refine g_istore dX7_put_11 (by decide) rfl ?_
  refine g_iconstv (v := 0) dX7_put_13 rfl ?_
  refine g_istore dX7_put_14 (by decide) rfl ?_
  exact lp_put_bad d c hb 8 0 _ _ _ _ rfl rfl
set_option maxHeartbeats 4000000 in
set_option maxRecDepth 100000 in
theorem c_mput_many {L : Nat} {F : Nat → Nat → Int32} {g : Nat → Option Nat} (d : Nat) (h0 : F 172 0 = 0) (c : Int64) (m l : Nat) (hm0 : 0 < m) (hm8 : m ≤ 8) (el : F 172 7 = nI l) (hl : l ≤ 80) (em : (mPutL c 8).1 = nI m) (ey : ¬ (mPutL c 8).2.2 = 0) (h80 : 80 < l + m) : mCall (d + 4) yX7_put MX7_put [.ref 172, .long c] (mHX L F g) (some (.int (-4))) (mHX L F g) := by
  refine mCall_of sX7_put.1 (Nat.le_of_ble_eq_true rfl) ⟨_, rfl, rfl⟩ ?_
  show mGo _ _ (0, [some (.ref 172), some (.long c), none, none, none, none, none, none], [], _) _
  refine g_aload_n dX7_put_0 rfl ?_
  refine g_iconstv (v := 0) dX7_put_1 rfl ?_
  refine g_pI dX7_put_2 fl_X7_29 (Or.inl rfl) rfl (by decide) rfl ?_
  rw [pe_id h0]
  refine g_iconstv (v := 0) dX7_put_5 rfl ?_
  refine g_istore_n dX7_put_6 (by decide) rfl ?_
  refine g_iconstv (v := 0) dX7_put_7 rfl ?_
  refine g_istore dX7_put_8 (by decide) rfl ?_
  refine g_iconstv (v := 1) dX7_put_10 rfl ?_
  refine g_istore dX7_put_11 (by decide) rfl ?_
  refine g_iconstv (v := 0) dX7_put_13 rfl ?_
  refine g_istore dX7_put_14 (by decide) rfl ?_
  exact lp_put_many d c m l hm0 hm8 el hl em ey h80 8 0 _ _ _ _ rfl rfl
set_option maxHeartbeats 4000000 in
set_option maxRecDepth 100000 in
theorem c_mput_ok {L : Nat} {F : Nat → Nat → Int32} {g : Nat → Option Nat} (d : Nat) (h0 : F 172 0 = 0) (c : Int64) (m l : Nat) (hm0 : 0 < m) (hm8 : m ≤ 8) (el : F 172 7 = nI l) (hl : l ≤ 80) (em : (mPutL c 8).1 = nI m) (ey : ¬ (mPutL c 8).2.2 = 0) (h80 : l + m ≤ 80) : mCall (d + 4) yX7_put MX7_put [.ref 172, .long c] (mHX L F g) (some (.int (nI (l + m)))) (mHX L (yPut F c l m) g) := by
  refine mCall_of sX7_put.1 (Nat.le_of_ble_eq_true rfl) ⟨_, rfl, rfl⟩ ?_
  show mGo _ _ (0, [some (.ref 172), some (.long c), none, none, none, none, none, none], [], _) _
  refine g_aload_n dX7_put_0 rfl ?_
  refine g_iconstv (v := 0) dX7_put_1 rfl ?_
  refine g_pI dX7_put_2 fl_X7_29 (Or.inl rfl) rfl (by decide) rfl ?_
  rw [pe_id h0]
  refine g_iconstv (v := 0) dX7_put_5 rfl ?_
  refine g_istore_n dX7_put_6 (by decide) rfl ?_
  refine g_iconstv (v := 0) dX7_put_7 rfl ?_
  refine g_istore dX7_put_8 (by decide) rfl ?_
  refine g_iconstv (v := 1) dX7_put_10 rfl ?_
  refine g_istore dX7_put_11 (by decide) rfl ?_
  refine g_iconstv (v := 0) dX7_put_13 rfl ?_
  refine g_istore dX7_put_14 (by decide) rfl ?_
  exact lp_put_ok d c m l hm0 hm8 el hl em ey h80 8 0 _ _ _ _ rfl rfl
