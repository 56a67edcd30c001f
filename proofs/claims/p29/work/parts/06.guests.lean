set_option maxHeartbeats 4000000 in
set_option maxRecDepth 100000 in
theorem c_isKnown {L : Nat} {F : Nat → Nat → Int32} {g : Nat → Option Nat} (d : Nat) (x : Int32) : mCall (d) yX0_isKnown MX0_isKnown [.ref 7, .int x] (mHX L F g) (some (.int (mbi (0 ≤ x ∧ x < F 7 0)))) (mHX L F g) := by
  refine mCall_of sX0_isKnown.1 (Nat.le_of_ble_eq_true rfl) ⟨_, rfl, mbi_ok⟩ ?_
  show mGo _ _ (0, [some (.ref 7), some (.int x)], [], _) _
  refine g_iload_n dX0_isKnown_0 rfl ?_
  refine g_if_lt (tgt := 16) dX0_isKnown_1 (by decide) (fun c1 => ?_) (fun c1 => ?_)
  · skip
    refine g_iconstv (v := 0) dX0_isKnown_16 rfl ?_
    exact g_iret dX0_isKnown_17 (m_ret (by unfold mbi; split <;> first | rfl | (exfalso; simp only [i_eq, i_lt, i_le, i_0] at *; omega)))
  · skip
    refine g_iload_n dX0_isKnown_4 rfl ?_
    refine g_aload_n dX0_isKnown_5 rfl ?_
    refine g_gI dX0_isKnown_6 fl_X0_9 (fun _ _ => rfl) rfl (by decide) ?_
    refine g_icmp_ge (tgt := 16) dX0_isKnown_9 (by decide) (fun c9 => ?_) (fun c9 => ?_)
    · skip
      refine g_iconstv (v := 0) dX0_isKnown_16 rfl ?_
      exact g_iret dX0_isKnown_17 (m_ret (by unfold mbi; split <;> first | rfl | (exfalso; simp only [i_eq, i_lt, i_le, i_0] at *; omega)))
    · skip
      refine g_iconstv (v := 1) dX0_isKnown_12 rfl ?_
      refine g_goto (tgt := 17) dX0_isKnown_13 (by decide) ?_
      exact g_iret dX0_isKnown_17 (m_ret (by unfold mbi; split <;> first | rfl | (exfalso; simp only [i_eq, i_lt, i_le, i_0] at *; omega)))
set_option maxHeartbeats 4000000 in
set_option maxRecDepth 100000 in
theorem lp_setAt {L : Nat} {F : Nat → Nat → Int32} {g : Nat → Option Nat} (d : Nat) (n : Nat) (hn : F 7 0 = nI n) (h10 : n ≤ 10) (t : Int32) : ∀ (m k : Nat) (a : Int32), k + m = n → a = sSet (F 8) t k → mGo MX0_setAt (d) (4, [some (.ref 7), some (.int t), some (.int a), some (.int (nI k))], [], mHX L F g) (some (.int (sSet (F 8) t n)), mHX L F g) := by
  intro m
  induction m with
  | zero =>
    intro k a hk ea
    obtain rfl : k = n := by omega
    refine g_iload_n dX0_setAt_4 rfl ?_
    refine g_aload_n dX0_setAt_5 rfl ?_
    refine g_gI dX0_setAt_6 fl_X0_9 (fun _ _ => rfl) rfl (by decide) ?_
    refine g_icmp_ge (tgt := 34) dX0_setAt_9 (by decide) (fun c9 => ?_) (fun c9 => absurd (by rw [hn]; exact nI_le (by omega) (by omega)) c9)
    refine g_iload_n dX0_setAt_34 rfl ?_
    exact g_iret dX0_setAt_35 (m_ret ea.symm)
  | succ m ih =>
    intro k a hk ea
    refine g_iload_n dX0_setAt_4 rfl ?_
    refine g_aload_n dX0_setAt_5 rfl ?_
    refine g_gI dX0_setAt_6 fl_X0_9 (fun _ _ => rfl) rfl (by decide) ?_
    refine g_icmp_ge (tgt := 34) dX0_setAt_9 (by decide) (fun c9 => absurd c9 (by rw [hn]; exact nI_ge (by omega) (by omega))) (fun c9 => ?_)
    refine g_aload_n dX0_setAt_12 rfl ?_
    refine g_gR (r := 8) dX0_setAt_13 fl_X0_15 (fun _ _ => rfl) rfl (by decide) rfl ?_
    refine g_iload_n dX0_setAt_16 rfl ?_
    refine g_ialdN (gx := k) dX0_setAt_17 rfl (by decide) rfl (by omega) (by decide) ?_
    refine g_iload_n dX0_setAt_18 rfl ?_
    refine g_icmp_ne (tgt := 28) dX0_setAt_19 (by decide) (fun c19 => ?_) (fun c19 => ?_)
    · skip
      refine g_iincN dX0_setAt_28 rfl (by decide) rfl ?_
      refine g_goto (tgt := 4) dX0_setAt_31 (by decide) ?_
      exact ih (k + 1) _ (by omega) (by subst ea; simp [sSet, mfold, c19])
    · skip
      refine g_iload_n dX0_setAt_22 rfl ?_
      refine g_iconstv (v := 1) dX0_setAt_23 rfl ?_
      refine g_iload_n dX0_setAt_24 rfl ?_
      refine g_ishl dX0_setAt_25 ?_
      refine g_ior dX0_setAt_26 ?_
      refine g_istore_n dX0_setAt_27 (by decide) rfl ?_
      refine g_iincN dX0_setAt_28 rfl (by decide) rfl ?_
      refine g_goto (tgt := 4) dX0_setAt_31 (by decide) ?_
      exact ih (k + 1) _ (by omega) (by subst ea; simp [sSet, mfold, c19])
set_option maxHeartbeats 4000000 in
set_option maxRecDepth 100000 in
theorem c_setAt {L : Nat} {F : Nat → Nat → Int32} {g : Nat → Option Nat} (d : Nat) (n : Nat) (hn : F 7 0 = nI n) (h10 : n ≤ 10) (t : Int32) : mCall (d) yX0_setAt MX0_setAt [.ref 7, .int t] (mHX L F g) (some (.int (sSet (F 8) t n))) (mHX L F g) := by
  refine mCall_of sX0_setAt.1 (Nat.le_of_ble_eq_true rfl) ⟨_, rfl, rfl⟩ ?_
  show mGo _ _ (0, [some (.ref 7), some (.int t), none, none], [], _) _
  refine g_iconstv (v := 0) dX0_setAt_0 rfl ?_
  refine g_istore_n dX0_setAt_1 (by decide) rfl ?_
  refine g_iconstv (v := 0) dX0_setAt_2 rfl ?_
  refine g_istore_n dX0_setAt_3 (by decide) rfl ?_
  exact lp_setAt d n hn h10 t n 0 _ (Nat.zero_add n) rfl
set_option maxHeartbeats 4000000 in
set_option maxRecDepth 100000 in
theorem c_setOfThoseHere {L : Nat} {F : Nat → Nat → Int32} {g : Nat → Option Nat} (d : Nat) (n : Nat) (hn : F 7 0 = nI n) (h10 : n ≤ 10) : mCall (d + 1) yX0_setOfThoseHere MX0_setOfThoseHere [.ref 7] (mHX L F g) (some (.int (((0 ||| sSet (F 8) 0 n) ||| sSet (F 8) 1 n) ||| sSet (F 8) 2 n))) (mHX L F g) := by
  refine mCall_of sX0_setOfThoseHere.1 (Nat.le_of_ble_eq_true rfl) ⟨_, rfl, rfl⟩ ?_
  show mGo _ _ (0, [some (.ref 7), none, none], [], _) _
  refine g_iconstv (v := 0) dX0_setOfThoseHere_0 rfl ?_
  refine g_istore_n dX0_setOfThoseHere_1 (by decide) rfl ?_
  refine g_iconstv (v := 0) dX0_setOfThoseHere_2 rfl ?_
  refine g_istore_n dX0_setOfThoseHere_3 (by decide) rfl ?_
  refine g_iload_n dX0_setOfThoseHere_4 rfl ?_
  refine g_iconstv (v := 3) dX0_setOfThoseHere_5 rfl ?_
  refine g_icmp_ge (tgt := 23) dX0_setOfThoseHere_6 (by decide) (fun c6 => absurd c6 (by decide)) (fun c6 => ?_)
  refine g_iload_n dX0_setOfThoseHere_9 rfl ?_
  refine g_aload_n dX0_setOfThoseHere_10 rfl ?_
  refine g_iload_n dX0_setOfThoseHere_11 rfl ?_
  refine g_V1i dX0_setOfThoseHere_12 ml_X0_44 sX0_setAt rfl (by decide) (Nat.le_of_ble_eq_true rfl) (c_setAt d n hn h10 0) ?_
  refine g_ior dX0_setOfThoseHere_15 ?_
  refine g_istore_n dX0_setOfThoseHere_16 (by decide) rfl ?_
  refine g_iincv (v := 1) dX0_setOfThoseHere_17 rfl rfl (by decide) rfl ?_
  refine g_goto (tgt := 4) dX0_setOfThoseHere_20 (by decide) ?_
  refine g_iload_n dX0_setOfThoseHere_4 rfl ?_
  refine g_iconstv (v := 3) dX0_setOfThoseHere_5 rfl ?_
  refine g_icmp_ge (tgt := 23) dX0_setOfThoseHere_6 (by decide) (fun c6 => absurd c6 (by decide)) (fun c6 => ?_)
  refine g_iload_n dX0_setOfThoseHere_9 rfl ?_
  refine g_aload_n dX0_setOfThoseHere_10 rfl ?_
  refine g_iload_n dX0_setOfThoseHere_11 rfl ?_
  refine g_V1i dX0_setOfThoseHere_12 ml_X0_44 sX0_setAt rfl (by decide) (Nat.le_of_ble_eq_true rfl) (c_setAt d n hn h10 1) ?_
  refine g_ior dX0_setOfThoseHere_15 ?_
  refine g_istore_n dX0_setOfThoseHere_16 (by decide) rfl ?_
  refine g_iincv (v := 2) dX0_setOfThoseHere_17 rfl rfl (by decide) rfl ?_
  refine g_goto (tgt := 4) dX0_setOfThoseHere_20 (by decide) ?_
  refine g_iload_n dX0_setOfThoseHere_4 rfl ?_
  refine g_iconstv (v := 3) dX0_setOfThoseHere_5 rfl ?_
  refine g_icmp_ge (tgt := 23) dX0_setOfThoseHere_6 (by decide) (fun c6 => absurd c6 (by decide)) (fun c6 => ?_)
  refine g_iload_n dX0_setOfThoseHere_9 rfl ?_
  refine g_aload_n dX0_setOfThoseHere_10 rfl ?_
  refine g_iload_n dX0_setOfThoseHere_11 rfl ?_
  refine g_V1i dX0_setOfThoseHere_12 ml_X0_44 sX0_setAt rfl (by decide) (Nat.le_of_ble_eq_true rfl) (c_setAt d n hn h10 2) ?_
  refine g_ior dX0_setOfThoseHere_15 ?_
  refine g_istore_n dX0_setOfThoseHere_16 (by decide) rfl ?_
  refine g_iincv (v := 3) dX0_setOfThoseHere_17 rfl rfl (by decide) rfl ?_
  refine g_goto (tgt := 4) dX0_setOfThoseHere_20 (by decide) ?_
  refine g_iload_n dX0_setOfThoseHere_4 rfl ?_
  refine g_iconstv (v := 3) dX0_setOfThoseHere_5 rfl ?_
  refine g_icmp_ge (tgt := 23) dX0_setOfThoseHere_6 (by decide) (fun c6 => ?_) (fun c6 => absurd (by decide) c6)
  refine g_iload_n dX0_setOfThoseHere_23 rfl ?_
  exact g_iret dX0_setOfThoseHere_24 rfl
set_option maxHeartbeats 4000000 in
set_option maxRecDepth 100000 in
theorem lp_hostOf {L : Nat} {F : Nat → Nat → Int32} {g : Nat → Option Nat} (d : Nat) (n : Nat) (hn : F 7 0 = nI n) (h10 : n ≤ 10) (t : Int32) : ∀ (m k : Nat) (a : Int32) (b : Int32), k + m = n → a = (mfold (sHostF (F 8) (F 9) t) (-6, 0) k).1 → b = (mfold (sHostF (F 8) (F 9) t) (-6, 0) k).2 → mGo MX0_hostOf (d) (8, [some (.ref 7), some (.int t), some (.int a), some (.int b), some (.int (nI k))], [], mHX L F g) (some (.int (sHost (F 8) (F 9) t n)), mHX L F g) := by
  intro m
  induction m with
  | zero =>
    intro k a b hk ea eb
    obtain rfl : k = n := by omega
    refine g_iload dX0_hostOf_8 rfl ?_
    refine g_aload_n dX0_hostOf_10 rfl ?_
    refine g_gI dX0_hostOf_11 fl_X0_9 (fun _ _ => rfl) rfl (by decide) ?_
    refine g_icmp_ge (tgt := 56) dX0_hostOf_14 (by decide) (fun c14 => ?_) (fun c14 => absurd (by rw [hn]; exact nI_le (by omega) (by omega)) c14)
    refine g_iload_n dX0_hostOf_56 rfl ?_
    exact g_iret dX0_hostOf_57 (m_ret ea.symm)
  | succ m ih =>
    intro k a b hk ea eb
    refine g_iload dX0_hostOf_8 rfl ?_
    refine g_aload_n dX0_hostOf_10 rfl ?_
    refine g_gI dX0_hostOf_11 fl_X0_9 (fun _ _ => rfl) rfl (by decide) ?_
    refine g_icmp_ge (tgt := 56) dX0_hostOf_14 (by decide) (fun c14 => absurd c14 (by rw [hn]; exact nI_ge (by omega) (by omega))) (fun c14 => ?_)
    refine g_aload_n dX0_hostOf_17 rfl ?_
    refine g_gR (r := 8) dX0_hostOf_18 fl_X0_15 (fun _ _ => rfl) rfl (by decide) rfl ?_
    refine g_iload dX0_hostOf_21 rfl ?_
    refine g_ialdN (gx := k) dX0_hostOf_23 rfl (by decide) rfl (by omega) (by decide) ?_
    refine g_iload_n dX0_hostOf_24 rfl ?_
    refine g_icmp_ne (tgt := 50) dX0_hostOf_25 (by decide) (fun c25 => ?_) (fun c25 => ?_)
    · skip
      refine g_iincN dX0_hostOf_50 rfl (by decide) rfl ?_
      refine g_goto (tgt := 8) dX0_hostOf_53 (by decide) ?_
      exact ih (k + 1) _ _ (by omega) (by subst ea; subst eb; rw [mfold_succ]; simp only [sHostF, c25, if_true, if_false, reduceIte, eq_self]) (by subst ea; subst eb; rw [mfold_succ]; simp only [sHostF, c25, if_true, if_false, reduceIte, eq_self])
    · skip
      refine g_aload_n dX0_hostOf_28 rfl ?_
      refine g_gR (r := 9) dX0_hostOf_29 fl_X0_19 (fun _ _ => rfl) rfl (by decide) rfl ?_
      refine g_iload dX0_hostOf_32 rfl ?_
      refine g_ialdN (gx := k) dX0_hostOf_34 rfl (by decide) rfl (by omega) (by decide) ?_
      refine g_iload_n dX0_hostOf_35 rfl ?_
      refine g_icmp_le (tgt := 50) dX0_hostOf_36 (by decide) (fun c36 => ?_) (fun c36 => ?_)
      · skip
        refine g_iincN dX0_hostOf_50 rfl (by decide) rfl ?_
        refine g_goto (tgt := 8) dX0_hostOf_53 (by decide) ?_
        exact ih (k + 1) _ _ (by omega) (by subst ea; subst eb; rw [mfold_succ]; simp only [sHostF, c25, c36, if_true, if_false, reduceIte, eq_self]) (by subst ea; subst eb; rw [mfold_succ]; simp only [sHostF, c25, c36, if_true, if_false, reduceIte, eq_self])
      · skip
        refine g_iload dX0_hostOf_39 rfl ?_
        refine g_istore_n dX0_hostOf_41 (by decide) rfl ?_
        refine g_aload_n dX0_hostOf_42 rfl ?_
        refine g_gR (r := 9) dX0_hostOf_43 fl_X0_19 (fun _ _ => rfl) rfl (by decide) rfl ?_
        refine g_iload dX0_hostOf_46 rfl ?_
        refine g_ialdN (gx := k) dX0_hostOf_48 rfl (by decide) rfl (by omega) (by decide) ?_
        refine g_istore_n dX0_hostOf_49 (by decide) rfl ?_
        refine g_iincN dX0_hostOf_50 rfl (by decide) rfl ?_
        refine g_goto (tgt := 8) dX0_hostOf_53 (by decide) ?_
        exact ih (k + 1) _ _ (by omega) (by subst ea; subst eb; rw [mfold_succ]; simp only [sHostF, c25, c36, if_true, if_false, reduceIte, eq_self]) (by subst ea; subst eb; rw [mfold_succ]; simp only [sHostF, c25, c36, if_true, if_false, reduceIte, eq_self])
set_option maxHeartbeats 4000000 in
set_option maxRecDepth 100000 in
theorem c_hostOf {L : Nat} {F : Nat → Nat → Int32} {g : Nat → Option Nat} (d : Nat) (n : Nat) (hn : F 7 0 = nI n) (h10 : n ≤ 10) (t : Int32) : mCall (d) yX0_hostOf MX0_hostOf [.ref 7, .int t] (mHX L F g) (some (.int (sHost (F 8) (F 9) t n))) (mHX L F g) := by
  refine mCall_of sX0_hostOf.1 (Nat.le_of_ble_eq_true rfl) ⟨_, rfl, rfl⟩ ?_
  show mGo _ _ (0, [some (.ref 7), some (.int t), none, none, none], [], _) _
  refine g_bipushv (v := (-6)) dX0_hostOf_0 rfl ?_
  refine g_istore_n dX0_hostOf_2 (by decide) rfl ?_
  refine g_iconstv (v := 0) dX0_hostOf_3 rfl ?_
  refine g_istore_n dX0_hostOf_4 (by decide) rfl ?_
  refine g_iconstv (v := 0) dX0_hostOf_5 rfl ?_
  refine g_istore dX0_hostOf_6 (by decide) rfl ?_
  exact lp_hostOf d n hn h10 t n 0 _ _ (Nat.zero_add n) rfl rfl
set_option maxHeartbeats 4000000 in
set_option maxRecDepth 100000 in
theorem c_isHost {L : Nat} {F : Nat → Nat → Int32} {g : Nat → Option Nat} (d : Nat) (n : Nat) (hn : F 7 0 = nI n) (h10 : n ≤ 10) (k : Nat) (hk : k < n) : mCall (d + 1) yX0_isHost MX0_isHost [.ref 7, .int (nI k)] (mHX L F g) (some (.int (mbi (¬ F 8 k = (-6) ∧ sHost (F 8) (F 9) (F 8 k) n = nI k)))) (mHX L F g) := by
  refine mCall_of sX0_isHost.1 (Nat.le_of_ble_eq_true rfl) ⟨_, rfl, mbi_ok⟩ ?_
  show mGo _ _ (0, [some (.ref 7), some (.int (nI k))], [], _) _
  refine g_aload_n dX0_isHost_0 rfl ?_
  refine g_gR (r := 8) dX0_isHost_1 fl_X0_15 (fun _ _ => rfl) rfl (by decide) rfl ?_
  refine g_iload_n dX0_isHost_4 rfl ?_
  refine g_ialdN (gx := k) dX0_isHost_5 rfl (by decide) rfl (by omega) (by decide) ?_
  refine g_bipushv (v := (-6)) dX0_isHost_6 rfl ?_
  refine g_icmp_eq (tgt := 29) dX0_isHost_8 (by decide) (fun c8 => ?_) (fun c8 => ?_)
  · skip
    refine g_iconstv (v := 0) dX0_isHost_29 rfl ?_
    exact g_iret dX0_isHost_30 (m_ret (by simp [mbi, c8]))
  · skip
    refine g_aload_n dX0_isHost_11 rfl ?_
    refine g_aload_n dX0_isHost_12 rfl ?_
    refine g_gR (r := 8) dX0_isHost_13 fl_X0_15 (fun _ _ => rfl) rfl (by decide) rfl ?_
    refine g_iload_n dX0_isHost_16 rfl ?_
    refine g_ialdN (gx := k) dX0_isHost_17 rfl (by decide) rfl (by omega) (by decide) ?_
    refine g_V1i dX0_isHost_18 ml_X0_40 sX0_hostOf rfl (by decide) (Nat.le_of_ble_eq_true rfl) (c_hostOf d n hn h10 (F 8 k)) ?_
    refine g_iload_n dX0_isHost_21 rfl ?_
    refine g_icmp_ne (tgt := 29) dX0_isHost_22 (by decide) (fun c22 => ?_) (fun c22 => ?_)
    · skip
      refine g_iconstv (v := 0) dX0_isHost_29 rfl ?_
      exact g_iret dX0_isHost_30 (m_ret (by simp [mbi, c8, c22]))
    · skip
      refine g_iconstv (v := 1) dX0_isHost_25 rfl ?_
      refine g_goto (tgt := 30) dX0_isHost_26 (by decide) ?_
      exact g_iret dX0_isHost_30 (m_ret (by simp [mbi, c8, c22]))
set_option maxHeartbeats 4000000 in
set_option maxRecDepth 100000 in
theorem lp_companyOf {L : Nat} {F : Nat → Nat → Int32} {g : Nat → Option Nat} (d : Nat) (n : Nat) (hn : F 7 0 = nI n) (h10 : n ≤ 10) (t ab : Int32) : ∀ (m k : Nat) (a : Int32) (b : Int32) (o : Int32), k + m = n → a = (mfold (sCompF (F 8) (F 9) t ab) (0, 0, 1) k).1 → b = (mfold (sCompF (F 8) (F 9) t ab) (0, 0, 1) k).2.1 → o = (mfold (sCompF (F 8) (F 9) t ab) (0, 0, 1) k).2.2 → mGo MX0_companyOf (d) (11, [some (.ref 7), some (.int t), some (.int ab), some (.int a), some (.int b), some (.int o), some (.int (nI k))], [], mHX L F g) (some (.int (sComp (F 8) (F 9) t ab n)), mHX L F g) := by
  intro m
  induction m with
  | zero =>
    intro k a b o hk ea eb eo
    obtain rfl : k = n := by omega
    refine g_iload dX0_companyOf_11 rfl ?_
    refine g_aload_n dX0_companyOf_13 rfl ?_
    refine g_gI dX0_companyOf_14 fl_X0_9 (fun _ _ => rfl) rfl (by decide) ?_
    refine g_icmp_ge (tgt := 88) dX0_companyOf_17 (by decide) (fun c17 => ?_) (fun c17 => absurd (by rw [hn]; exact nI_le (by omega) (by omega)) c17)
    refine g_iload_n dX0_companyOf_88 rfl ?_
    refine g_iconstv (v := 3) dX0_companyOf_89 rfl ?_
    refine g_icmp_ge (tgt := 95) dX0_companyOf_90 (by decide) (fun c90 => ?_) (fun c90 => ?_)
    · skip
      refine g_iload dX0_companyOf_95 rfl ?_
      refine g_if_eq (tgt := 104) dX0_companyOf_97 (by decide) (fun c97 => ?_) (fun c97 => ?_)
      · skip
        refine g_iconstv (v := 4) dX0_companyOf_104 rfl ?_
        exact g_iret dX0_companyOf_105 (m_ret (by subst ea; subst eo; simp only [sComp, c90, c97, if_true, if_false, reduceIte, eq_self]))
      · skip
        refine g_iconstv (v := 3) dX0_companyOf_100 rfl ?_
        refine g_goto (tgt := 105) dX0_companyOf_101 (by decide) ?_
        exact g_iret dX0_companyOf_105 (m_ret (by subst ea; subst eo; simp only [sComp, c90, c97, if_true, if_false, reduceIte, eq_self]))
    · skip
      refine g_iload_n dX0_companyOf_93 rfl ?_
      exact g_iret dX0_companyOf_94 (m_ret (by subst ea; subst eo; simp only [sComp, c90, if_true, if_false, reduceIte, eq_self]))
  | succ m ih =>
    intro k a b o hk ea eb eo
    refine g_iload dX0_companyOf_11 rfl ?_
    refine g_aload_n dX0_companyOf_13 rfl ?_
    refine g_gI dX0_companyOf_14 fl_X0_9 (fun _ _ => rfl) rfl (by decide) ?_
    refine g_icmp_ge (tgt := 88) dX0_companyOf_17 (by decide) (fun c17 => absurd c17 (by rw [hn]; exact nI_ge (by omega) (by omega))) (fun c17 => ?_)
    refine g_aload_n dX0_companyOf_20 rfl ?_
    refine g_gR (r := 8) dX0_companyOf_21 fl_X0_15 (fun _ _ => rfl) rfl (by decide) rfl ?_
    refine g_iload dX0_companyOf_24 rfl ?_
    refine g_ialdN (gx := k) dX0_companyOf_26 rfl (by decide) rfl (by omega) (by decide) ?_
    refine g_iload_n dX0_companyOf_27 rfl ?_
    refine g_icmp_ne (tgt := 82) dX0_companyOf_28 (by decide) (fun c28 => ?_) (fun c28 => ?_)
    · skip
      refine g_iincN dX0_companyOf_82 rfl (by decide) rfl ?_
      refine g_goto (tgt := 11) dX0_companyOf_85 (by decide) ?_
      exact ih (k + 1) _ _ _ (by omega) (by first | (subst ea; subst eb; subst eo; rw [mfold_succ]; simp only [sCompF, c28, if_true, if_false, reduceIte, eq_self]; done) | exact absurd rfl c69) (by first | (subst ea; subst eb; subst eo; rw [mfold_succ]; simp only [sCompF, c28, if_true, if_false, reduceIte, eq_self]; done) | exact absurd rfl c69) (by first | (subst ea; subst eb; subst eo; rw [mfold_succ]; simp only [sCompF, c28, if_true, if_false, reduceIte, eq_self]; done) | exact absurd rfl c69)
    · skip
      refine g_iload dX0_companyOf_31 rfl ?_
      refine g_iload_n dX0_companyOf_33 rfl ?_
      refine g_icmp_eq (tgt := 82) dX0_companyOf_34 (by decide) (fun c34 => ?_) (fun c34 => ?_)
      · skip
        refine g_iincN dX0_companyOf_82 rfl (by decide) rfl ?_
        refine g_goto (tgt := 11) dX0_companyOf_85 (by decide) ?_
        exact ih (k + 1) _ _ _ (by omega) (by first | (subst ea; subst eb; subst eo; rw [mfold_succ]; simp only [sCompF, c28, c34, if_true, if_false, reduceIte, eq_self]; done) | exact absurd rfl c69) (by first | (subst ea; subst eb; subst eo; rw [mfold_succ]; simp only [sCompF, c28, c34, if_true, if_false, reduceIte, eq_self]; done) | exact absurd rfl c69) (by first | (subst ea; subst eb; subst eo; rw [mfold_succ]; simp only [sCompF, c28, c34, if_true, if_false, reduceIte, eq_self]; done) | exact absurd rfl c69)
      · skip
        refine g_iload_n dX0_companyOf_37 rfl ?_
        refine g_if_ne (tgt := 51) dX0_companyOf_38 (by decide) (fun c38 => ?_) (fun c38 => ?_)
        · skip
          refine g_iload dX0_companyOf_51 rfl ?_
          refine g_istore dX0_companyOf_53 (by decide) rfl ?_
          refine g_iload dX0_companyOf_55 rfl ?_
          refine g_if_eq (tgt := 76) dX0_companyOf_57 (by decide) (fun c57 => ?_) (fun c57 => ?_)
          · skip
            refine g_iconstv (v := 0) dX0_companyOf_76 rfl ?_
            refine g_istore dX0_companyOf_77 (by decide) rfl ?_
            refine g_iincx (w := 1) dX0_companyOf_79 rfl rfl (by decide) rfl ?_
            refine g_iincN dX0_companyOf_82 rfl (by decide) rfl ?_
            refine g_goto (tgt := 11) dX0_companyOf_85 (by decide) ?_
            exact ih (k + 1) _ _ _ (by omega) (by first | (subst ea; subst eb; subst eo; rw [mfold_succ]; simp only [sCompF, c28, c34, c38, c57, if_true, if_false, reduceIte, eq_self]; done) | exact absurd rfl c69) (by first | (subst ea; subst eb; subst eo; rw [mfold_succ]; simp only [sCompF, c28, c34, c38, c57, if_true, if_false, reduceIte, eq_self]; done) | exact absurd rfl c69) (by first | (subst ea; subst eb; subst eo; rw [mfold_succ]; simp only [sCompF, c28, c34, c38, c57, if_true, if_false, reduceIte, eq_self]; done) | exact absurd rfl c69)
          · skip
            refine g_aload_n dX0_companyOf_60 rfl ?_
            refine g_gR (r := 9) dX0_companyOf_61 fl_X0_19 (fun _ _ => rfl) rfl (by decide) rfl ?_
            refine g_iload dX0_companyOf_64 rfl ?_
            refine g_ialdN (gx := k) dX0_companyOf_66 rfl (by decide) rfl (by omega) (by decide) ?_
            refine g_iload dX0_companyOf_67 rfl ?_
            refine g_icmp_ne (tgt := 76) dX0_companyOf_69 (by decide) (fun c69 => ?_) (fun c69 => ?_)
            · skip
              refine g_iconstv (v := 0) dX0_companyOf_76 rfl ?_
              refine g_istore dX0_companyOf_77 (by decide) rfl ?_
              refine g_iincx (w := 1) dX0_companyOf_79 rfl rfl (by decide) rfl ?_
              refine g_iincN dX0_companyOf_82 rfl (by decide) rfl ?_
              refine g_goto (tgt := 11) dX0_companyOf_85 (by decide) ?_
              exact ih (k + 1) _ _ _ (by omega) (by first | (subst ea; subst eb; subst eo; rw [mfold_succ]; simp only [sCompF, c28, c34, c38, c57, c69, if_true, if_false, reduceIte, eq_self]; done) | exact absurd rfl c69) (by first | (subst ea; subst eb; subst eo; rw [mfold_succ]; simp only [sCompF, c28, c34, c38, c57, c69, if_true, if_false, reduceIte, eq_self]; done) | exact absurd rfl c69) (by first | (subst ea; subst eb; subst eo; rw [mfold_succ]; simp only [sCompF, c28, c34, c38, c57, c69, if_true, if_false, reduceIte, eq_self]; done) | exact absurd rfl c69)
            · skip
              refine g_iconstv (v := 1) dX0_companyOf_72 rfl ?_
              refine g_goto (tgt := 77) dX0_companyOf_73 (by decide) ?_
              refine g_istore dX0_companyOf_77 (by decide) rfl ?_
              refine g_iincx (w := 1) dX0_companyOf_79 rfl rfl (by decide) rfl ?_
              refine g_iincN dX0_companyOf_82 rfl (by decide) rfl ?_
              refine g_goto (tgt := 11) dX0_companyOf_85 (by decide) ?_
              exact ih (k + 1) _ _ _ (by omega) (by first | (subst ea; subst eb; subst eo; rw [mfold_succ]; simp only [sCompF, c28, c34, c38, c57, c69, if_true, if_false, reduceIte, eq_self]; done) | exact absurd rfl c69) (by first | (subst ea; subst eb; subst eo; rw [mfold_succ]; simp only [sCompF, c28, c34, c38, c57, c69, if_true, if_false, reduceIte, eq_self]; done) | exact absurd rfl c69) (by first | (subst ea; subst eb; subst eo; rw [mfold_succ]; simp only [sCompF, c28, c34, c38, c57, c69, if_true, if_false, reduceIte, eq_self]; done) | exact absurd rfl c69)
        · skip
          refine g_aload_n dX0_companyOf_41 rfl ?_
          refine g_gR (r := 9) dX0_companyOf_42 fl_X0_19 (fun _ _ => rfl) rfl (by decide) rfl ?_
          refine g_iload dX0_companyOf_45 rfl ?_
          refine g_ialdN (gx := k) dX0_companyOf_47 rfl (by decide) rfl (by omega) (by decide) ?_
          refine g_goto (tgt := 53) dX0_companyOf_48 (by decide) ?_
          refine g_istore dX0_companyOf_53 (by decide) rfl ?_
          refine g_iload dX0_companyOf_55 rfl ?_
          refine g_if_eq (tgt := 76) dX0_companyOf_57 (by decide) (fun c57 => ?_) (fun c57 => ?_)
          · skip
            refine g_iconstv (v := 0) dX0_companyOf_76 rfl ?_
            refine g_istore dX0_companyOf_77 (by decide) rfl ?_
            refine g_iincx (w := 1) dX0_companyOf_79 rfl rfl (by decide) rfl ?_
            refine g_iincN dX0_companyOf_82 rfl (by decide) rfl ?_
            refine g_goto (tgt := 11) dX0_companyOf_85 (by decide) ?_
            exact ih (k + 1) _ _ _ (by omega) (by first | (subst ea; subst eb; subst eo; rw [mfold_succ]; simp only [sCompF, c28, c34, c38, c57, if_true, if_false, reduceIte, eq_self]; done) | exact absurd rfl c69) (by first | (subst ea; subst eb; subst eo; rw [mfold_succ]; simp only [sCompF, c28, c34, c38, c57, if_true, if_false, reduceIte, eq_self]; done) | exact absurd rfl c69) (by first | (subst ea; subst eb; subst eo; rw [mfold_succ]; simp only [sCompF, c28, c34, c38, c57, if_true, if_false, reduceIte, eq_self]; done) | exact absurd rfl c69)
          · skip
            refine g_aload_n dX0_companyOf_60 rfl ?_
            refine g_gR (r := 9) dX0_companyOf_61 fl_X0_19 (fun _ _ => rfl) rfl (by decide) rfl ?_
            refine g_iload dX0_companyOf_64 rfl ?_
            refine g_ialdN (gx := k) dX0_companyOf_66 rfl (by decide) rfl (by omega) (by decide) ?_
            refine g_iload dX0_companyOf_67 rfl ?_
            refine g_icmp_ne (tgt := 76) dX0_companyOf_69 (by decide) (fun c69 => ?_) (fun c69 => ?_)
            · skip
              refine g_iconstv (v := 0) dX0_companyOf_76 rfl ?_
              refine g_istore dX0_companyOf_77 (by decide) rfl ?_
              refine g_iincx (w := 1) dX0_companyOf_79 rfl rfl (by decide) rfl ?_
              refine g_iincN dX0_companyOf_82 rfl (by decide) rfl ?_
              refine g_goto (tgt := 11) dX0_companyOf_85 (by decide) ?_
              exact ih (k + 1) _ _ _ (by omega) (by first | (subst ea; subst eb; subst eo; rw [mfold_succ]; simp only [sCompF, c28, c34, c38, c57, c69, if_true, if_false, reduceIte, eq_self]; done) | exact absurd rfl c69) (by first | (subst ea; subst eb; subst eo; rw [mfold_succ]; simp only [sCompF, c28, c34, c38, c57, c69, if_true, if_false, reduceIte, eq_self]; done) | exact absurd rfl c69) (by first | (subst ea; subst eb; subst eo; rw [mfold_succ]; simp only [sCompF, c28, c34, c38, c57, c69, if_true, if_false, reduceIte, eq_self]; done) | exact absurd rfl c69)
            · skip
              refine g_iconstv (v := 1) dX0_companyOf_72 rfl ?_
              refine g_goto (tgt := 77) dX0_companyOf_73 (by decide) ?_
              refine g_istore dX0_companyOf_77 (by decide) rfl ?_
              refine g_iincx (w := 1) dX0_companyOf_79 rfl rfl (by decide) rfl ?_
              refine g_iincN dX0_companyOf_82 rfl (by decide) rfl ?_
              refine g_goto (tgt := 11) dX0_companyOf_85 (by decide) ?_
              exact ih (k + 1) _ _ _ (by omega) (by first | (subst ea; subst eb; subst eo; rw [mfold_succ]; simp only [sCompF, c28, c34, c38, c57, c69, if_true, if_false, reduceIte, eq_self]; done) | exact absurd rfl c69) (by first | (subst ea; subst eb; subst eo; rw [mfold_succ]; simp only [sCompF, c28, c34, c38, c57, c69, if_true, if_false, reduceIte, eq_self]; done) | exact absurd rfl c69) (by first | (subst ea; subst eb; subst eo; rw [mfold_succ]; simp only [sCompF, c28, c34, c38, c57, c69, if_true, if_false, reduceIte, eq_self]; done) | exact absurd rfl c69)
set_option maxHeartbeats 4000000 in
set_option maxRecDepth 100000 in
theorem c_companyOf {L : Nat} {F : Nat → Nat → Int32} {g : Nat → Option Nat} (d : Nat) (n : Nat) (hn : F 7 0 = nI n) (h10 : n ≤ 10) (t ab : Int32) : mCall (d) yX0_companyOf MX0_companyOf [.ref 7, .int t, .int ab] (mHX L F g) (some (.int (sComp (F 8) (F 9) t ab n))) (mHX L F g) := by
  refine mCall_of sX0_companyOf.1 (Nat.le_of_ble_eq_true rfl) ⟨_, rfl, rfl⟩ ?_
  show mGo _ _ (0, [some (.ref 7), some (.int t), some (.int ab), none, none, none, none], [], _) _
  refine g_iconstv (v := 0) dX0_companyOf_0 rfl ?_
  refine g_istore_n dX0_companyOf_1 (by decide) rfl ?_
  refine g_iconstv (v := 0) dX0_companyOf_2 rfl ?_
  refine g_istore dX0_companyOf_3 (by decide) rfl ?_
  refine g_iconstv (v := 1) dX0_companyOf_5 rfl ?_
  refine g_istore dX0_companyOf_6 (by decide) rfl ?_
  refine g_iconstv (v := 0) dX0_companyOf_8 rfl ?_
  refine g_istore dX0_companyOf_9 (by decide) rfl ?_
  exact lp_companyOf d n hn h10 t ab n 0 _ _ _ (Nat.zero_add n) rfl rfl rfl
set_option maxHeartbeats 4000000 in
set_option maxRecDepth 100000 in
theorem lp_lenderTo {L : Nat} {F : Nat → Nat → Int32} {g : Nat → Option Nat} (d : Nat) (n : Nat) (hn : F 7 0 = nI n) (h10 : n ≤ 10) (x t : Int32) : ∀ (m k : Nat) (a : Int32) (b : Int32), k + m = n → a = (mfold (sLendF (F 8) (F 9) (F 11) x t) (-6, 10) k).1 → b = (mfold (sLendF (F 8) (F 9) (F 11) x t) (-6, 10) k).2 → mGo MX0_lenderTo (d) (10, [some (.ref 7), some (.int x), some (.int t), some (.int a), some (.int b), some (.int (nI k))], [], mHX L F g) (some (.int (sLend (F 8) (F 9) (F 11) x t n)), mHX L F g) := by
  intro m
  induction m with
  | zero =>
    intro k a b hk ea eb
    obtain rfl : k = n := by omega
    refine g_iload dX0_lenderTo_10 rfl ?_
    refine g_aload_n dX0_lenderTo_12 rfl ?_
    refine g_gI dX0_lenderTo_13 fl_X0_9 (fun _ _ => rfl) rfl (by decide) ?_
    refine g_icmp_ge (tgt := 76) dX0_lenderTo_16 (by decide) (fun c16 => ?_) (fun c16 => absurd (by rw [hn]; exact nI_le (by omega) (by omega)) c16)
    refine g_iload_n dX0_lenderTo_76 rfl ?_
    exact g_iret dX0_lenderTo_77 (m_ret ea.symm)
  | succ m ih =>
    intro k a b hk ea eb
    refine g_iload dX0_lenderTo_10 rfl ?_
    refine g_aload_n dX0_lenderTo_12 rfl ?_
    refine g_gI dX0_lenderTo_13 fl_X0_9 (fun _ _ => rfl) rfl (by decide) ?_
    refine g_icmp_ge (tgt := 76) dX0_lenderTo_16 (by decide) (fun c16 => absurd c16 (by rw [hn]; exact nI_ge (by omega) (by omega))) (fun c16 => ?_)
    refine g_iload dX0_lenderTo_19 rfl ?_
    refine g_iload_n dX0_lenderTo_21 rfl ?_
    refine g_icmp_eq (tgt := 70) dX0_lenderTo_22 (by decide) (fun c22 => ?_) (fun c22 => ?_)
    · skip
      refine g_iincN dX0_lenderTo_70 rfl (by decide) rfl ?_
      refine g_goto (tgt := 10) dX0_lenderTo_73 (by decide) ?_
      exact ih (k + 1) _ _ (by omega) (by subst ea; subst eb; rw [mfold_succ]; simp only [sLendF, c22, if_true, if_false, reduceIte, eq_self]) (by subst ea; subst eb; rw [mfold_succ]; simp only [sLendF, c22, if_true, if_false, reduceIte, eq_self])
    · skip
      refine g_aload_n dX0_lenderTo_25 rfl ?_
      refine g_gR (r := 8) dX0_lenderTo_26 fl_X0_15 (fun _ _ => rfl) rfl (by decide) rfl ?_
      refine g_iload dX0_lenderTo_29 rfl ?_
      refine g_ialdN (gx := k) dX0_lenderTo_31 rfl (by decide) rfl (by omega) (by decide) ?_
      refine g_iload_n dX0_lenderTo_32 rfl ?_
      refine g_icmp_ne (tgt := 70) dX0_lenderTo_33 (by decide) (fun c33 => ?_) (fun c33 => ?_)
      · skip
        refine g_iincN dX0_lenderTo_70 rfl (by decide) rfl ?_
        refine g_goto (tgt := 10) dX0_lenderTo_73 (by decide) ?_
        exact ih (k + 1) _ _ (by omega) (by subst ea; subst eb; rw [mfold_succ]; simp only [sLendF, c22, c33, if_true, if_false, reduceIte, eq_self]) (by subst ea; subst eb; rw [mfold_succ]; simp only [sLendF, c22, c33, if_true, if_false, reduceIte, eq_self])
      · skip
        refine g_aload_n dX0_lenderTo_36 rfl ?_
        refine g_gR (r := 11) dX0_lenderTo_37 fl_X0_25 (fun _ _ => rfl) rfl (by decide) rfl ?_
        refine g_iload dX0_lenderTo_40 rfl ?_
        refine g_ialdN (gx := k) dX0_lenderTo_42 rfl (by decide) rfl (by omega) (by decide) ?_
        refine g_if_le (tgt := 70) dX0_lenderTo_43 (by decide) (fun c43 => ?_) (fun c43 => ?_)
        · skip
          refine g_iincN dX0_lenderTo_70 rfl (by decide) rfl ?_
          refine g_goto (tgt := 10) dX0_lenderTo_73 (by decide) ?_
          exact ih (k + 1) _ _ (by omega) (by subst ea; subst eb; rw [mfold_succ]; simp only [sLendF, c22, c33, c43, if_true, if_false, reduceIte, eq_self]) (by subst ea; subst eb; rw [mfold_succ]; simp only [sLendF, c22, c33, c43, if_true, if_false, reduceIte, eq_self])
        · skip
          refine g_aload_n dX0_lenderTo_46 rfl ?_
          refine g_gR (r := 9) dX0_lenderTo_47 fl_X0_19 (fun _ _ => rfl) rfl (by decide) rfl ?_
          refine g_iload dX0_lenderTo_50 rfl ?_
          refine g_ialdN (gx := k) dX0_lenderTo_52 rfl (by decide) rfl (by omega) (by decide) ?_
          refine g_iload dX0_lenderTo_53 rfl ?_
          refine g_icmp_ge (tgt := 70) dX0_lenderTo_55 (by decide) (fun c55 => ?_) (fun c55 => ?_)
          · skip
            refine g_iincN dX0_lenderTo_70 rfl (by decide) rfl ?_
            refine g_goto (tgt := 10) dX0_lenderTo_73 (by decide) ?_
            exact ih (k + 1) _ _ (by omega) (by subst ea; subst eb; rw [mfold_succ]; simp only [sLendF, c22, c33, c43, c55, if_true, if_false, reduceIte, eq_self]) (by subst ea; subst eb; rw [mfold_succ]; simp only [sLendF, c22, c33, c43, c55, if_true, if_false, reduceIte, eq_self])
          · skip
            refine g_iload dX0_lenderTo_58 rfl ?_
            refine g_istore_n dX0_lenderTo_60 (by decide) rfl ?_
            refine g_aload_n dX0_lenderTo_61 rfl ?_
            refine g_gR (r := 9) dX0_lenderTo_62 fl_X0_19 (fun _ _ => rfl) rfl (by decide) rfl ?_
            refine g_iload dX0_lenderTo_65 rfl ?_
            refine g_ialdN (gx := k) dX0_lenderTo_67 rfl (by decide) rfl (by omega) (by decide) ?_
            refine g_istore dX0_lenderTo_68 (by decide) rfl ?_
            refine g_iincN dX0_lenderTo_70 rfl (by decide) rfl ?_
            refine g_goto (tgt := 10) dX0_lenderTo_73 (by decide) ?_
            exact ih (k + 1) _ _ (by omega) (by subst ea; subst eb; rw [mfold_succ]; simp only [sLendF, c22, c33, c43, c55, if_true, if_false, reduceIte, eq_self]) (by subst ea; subst eb; rw [mfold_succ]; simp only [sLendF, c22, c33, c43, c55, if_true, if_false, reduceIte, eq_self])
set_option maxHeartbeats 4000000 in
set_option maxRecDepth 100000 in
theorem c_lenderTo {L : Nat} {F : Nat → Nat → Int32} {g : Nat → Option Nat} (d : Nat) (n : Nat) (hn : F 7 0 = nI n) (h10 : n ≤ 10) (x t : Int32) : mCall (d) yX0_lenderTo MX0_lenderTo [.ref 7, .int x, .int t] (mHX L F g) (some (.int (sLend (F 8) (F 9) (F 11) x t n))) (mHX L F g) := by
  refine mCall_of sX0_lenderTo.1 (Nat.le_of_ble_eq_true rfl) ⟨_, rfl, rfl⟩ ?_
  show mGo _ _ (0, [some (.ref 7), some (.int x), some (.int t), none, none, none], [], _) _
  refine g_bipushv (v := (-6)) dX0_lenderTo_0 rfl ?_
  refine g_istore_n dX0_lenderTo_2 (by decide) rfl ?_
  refine g_bipushv (v := 10) dX0_lenderTo_3 rfl ?_
  refine g_istore dX0_lenderTo_5 (by decide) rfl ?_
  refine g_iconstv (v := 0) dX0_lenderTo_7 rfl ?_
  refine g_istore dX0_lenderTo_8 (by decide) rfl ?_
  exact lp_lenderTo d n hn h10 x t n 0 _ _ (Nat.zero_add n) rfl rfl
set_option maxHeartbeats 4000000 in
set_option maxRecDepth 100000 in
theorem lp_faultsOfAll {L : Nat} {F : Nat → Nat → Int32} {g : Nat → Option Nat} (d : Nat) (n : Nat) (hn : F 7 0 = nI n) (h10 : n ≤ 10)  : ∀ (m k : Nat) (a : Int32), k + m = n → a = sSum (F 10) k → mGo MX0_faultsOfAll (d) (4, [some (.ref 7), some (.int a), some (.int (nI k))], [], mHX L F g) (some (.int (sSum (F 10) n)), mHX L F g) := by
  intro m
  induction m with
  | zero =>
    intro k a hk ea
    obtain rfl : k = n := by omega
    refine g_iload_n dX0_faultsOfAll_4 rfl ?_
    refine g_aload_n dX0_faultsOfAll_5 rfl ?_
    refine g_gI dX0_faultsOfAll_6 fl_X0_9 (fun _ _ => rfl) rfl (by decide) ?_
    refine g_icmp_ge (tgt := 27) dX0_faultsOfAll_9 (by decide) (fun c9 => ?_) (fun c9 => absurd (by rw [hn]; exact nI_le (by omega) (by omega)) c9)
    refine g_iload_n dX0_faultsOfAll_27 rfl ?_
    exact g_iret dX0_faultsOfAll_28 (m_ret ea.symm)
  | succ m ih =>
    intro k a hk ea
    refine g_iload_n dX0_faultsOfAll_4 rfl ?_
    refine g_aload_n dX0_faultsOfAll_5 rfl ?_
    refine g_gI dX0_faultsOfAll_6 fl_X0_9 (fun _ _ => rfl) rfl (by decide) ?_
    refine g_icmp_ge (tgt := 27) dX0_faultsOfAll_9 (by decide) (fun c9 => absurd c9 (by rw [hn]; exact nI_ge (by omega) (by omega))) (fun c9 => ?_)
    refine g_iload_n dX0_faultsOfAll_12 rfl ?_
    refine g_aload_n dX0_faultsOfAll_13 rfl ?_
    refine g_gR (r := 10) dX0_faultsOfAll_14 fl_X0_22 (fun _ _ => rfl) rfl (by decide) rfl ?_
    refine g_iload_n dX0_faultsOfAll_17 rfl ?_
    refine g_ialdN (gx := k) dX0_faultsOfAll_18 rfl (by decide) rfl (by omega) (by decide) ?_
    refine g_iadd dX0_faultsOfAll_19 ?_
    refine g_istore_n dX0_faultsOfAll_20 (by decide) rfl ?_
    refine g_iincN dX0_faultsOfAll_21 rfl (by decide) rfl ?_
    refine g_goto (tgt := 4) dX0_faultsOfAll_24 (by decide) ?_
    exact ih (k + 1) _ (by omega) (by subst ea; rfl)
set_option maxHeartbeats 4000000 in
set_option maxRecDepth 100000 in
theorem c_faultsOfAll {L : Nat} {F : Nat → Nat → Int32} {g : Nat → Option Nat} (d : Nat) (n : Nat) (hn : F 7 0 = nI n) (h10 : n ≤ 10)  : mCall (d) yX0_faultsOfAll MX0_faultsOfAll [.ref 7] (mHX L F g) (some (.int (sSum (F 10) n))) (mHX L F g) := by
  refine mCall_of sX0_faultsOfAll.1 (Nat.le_of_ble_eq_true rfl) ⟨_, rfl, rfl⟩ ?_
  show mGo _ _ (0, [some (.ref 7), none, none], [], _) _
  refine g_iconstv (v := 0) dX0_faultsOfAll_0 rfl ?_
  refine g_istore_n dX0_faultsOfAll_1 (by decide) rfl ?_
  refine g_iconstv (v := 0) dX0_faultsOfAll_2 rfl ?_
  refine g_istore_n dX0_faultsOfAll_3 (by decide) rfl ?_
  exact lp_faultsOfAll d n hn h10  n 0 _ (Nat.zero_add n) rfl
set_option maxHeartbeats 4000000 in
set_option maxRecDepth 100000 in
theorem lp_coughsOfThoseHere {L : Nat} {F : Nat → Nat → Int32} {g : Nat → Option Nat} (d : Nat) (n : Nat) (hn : F 7 0 = nI n) (h10 : n ≤ 10)  : ∀ (m k : Nat) (a : Int32), k + m = n → a = sSumHere (F 8) (F 11) k → mGo MX0_coughsOfThoseHere (d) (4, [some (.ref 7), some (.int a), some (.int (nI k))], [], mHX L F g) (some (.int (sSumHere (F 8) (F 11) n)), mHX L F g) := by
  intro m
  induction m with
  | zero =>
    intro k a hk ea
    obtain rfl : k = n := by omega
    refine g_iload_n dX0_coughsOfThoseHere_4 rfl ?_
    refine g_aload_n dX0_coughsOfThoseHere_5 rfl ?_
    refine g_gI dX0_coughsOfThoseHere_6 fl_X0_9 (fun _ _ => rfl) rfl (by decide) ?_
    refine g_icmp_ge (tgt := 42) dX0_coughsOfThoseHere_9 (by decide) (fun c9 => ?_) (fun c9 => absurd (by rw [hn]; exact nI_le (by omega) (by omega)) c9)
    refine g_iload_n dX0_coughsOfThoseHere_42 rfl ?_
    exact g_iret dX0_coughsOfThoseHere_43 (m_ret ea.symm)
  | succ m ih =>
    intro k a hk ea
    refine g_iload_n dX0_coughsOfThoseHere_4 rfl ?_
    refine g_aload_n dX0_coughsOfThoseHere_5 rfl ?_
    refine g_gI dX0_coughsOfThoseHere_6 fl_X0_9 (fun _ _ => rfl) rfl (by decide) ?_
    refine g_icmp_ge (tgt := 42) dX0_coughsOfThoseHere_9 (by decide) (fun c9 => absurd c9 (by rw [hn]; exact nI_ge (by omega) (by omega))) (fun c9 => ?_)
    refine g_iload_n dX0_coughsOfThoseHere_12 rfl ?_
    refine g_aload_n dX0_coughsOfThoseHere_13 rfl ?_
    refine g_gR (r := 8) dX0_coughsOfThoseHere_14 fl_X0_15 (fun _ _ => rfl) rfl (by decide) rfl ?_
    refine g_iload_n dX0_coughsOfThoseHere_17 rfl ?_
    refine g_ialdN (gx := k) dX0_coughsOfThoseHere_18 rfl (by decide) rfl (by omega) (by decide) ?_
    refine g_bipushv (v := (-6)) dX0_coughsOfThoseHere_19 rfl ?_
    refine g_icmp_ne (tgt := 28) dX0_coughsOfThoseHere_21 (by decide) (fun c21 => ?_) (fun c21 => ?_)
    · skip
      refine g_aload_n dX0_coughsOfThoseHere_28 rfl ?_
      refine g_gR (r := 11) dX0_coughsOfThoseHere_29 fl_X0_25 (fun _ _ => rfl) rfl (by decide) rfl ?_
      refine g_iload_n dX0_coughsOfThoseHere_32 rfl ?_
      refine g_ialdN (gx := k) dX0_coughsOfThoseHere_33 rfl (by decide) rfl (by omega) (by decide) ?_
      refine g_iadd dX0_coughsOfThoseHere_34 ?_
      refine g_istore_n dX0_coughsOfThoseHere_35 (by decide) rfl ?_
      refine g_iincN dX0_coughsOfThoseHere_36 rfl (by decide) rfl ?_
      refine g_goto (tgt := 4) dX0_coughsOfThoseHere_39 (by decide) ?_
      exact ih (k + 1) _ (by omega) (by subst ea; simp [sSumHere, mfold, c21])
    · skip
      refine g_iconstv (v := 0) dX0_coughsOfThoseHere_24 rfl ?_
      refine g_goto (tgt := 34) dX0_coughsOfThoseHere_25 (by decide) ?_
      refine g_iadd dX0_coughsOfThoseHere_34 ?_
      refine g_istore_n dX0_coughsOfThoseHere_35 (by decide) rfl ?_
      refine g_iincN dX0_coughsOfThoseHere_36 rfl (by decide) rfl ?_
      refine g_goto (tgt := 4) dX0_coughsOfThoseHere_39 (by decide) ?_
      exact ih (k + 1) _ (by omega) (by subst ea; simp [sSumHere, mfold, c21])
set_option maxHeartbeats 4000000 in
set_option maxRecDepth 100000 in
theorem c_coughsOfThoseHere {L : Nat} {F : Nat → Nat → Int32} {g : Nat → Option Nat} (d : Nat) (n : Nat) (hn : F 7 0 = nI n) (h10 : n ≤ 10)  : mCall (d) yX0_coughsOfThoseHere MX0_coughsOfThoseHere [.ref 7] (mHX L F g) (some (.int (sSumHere (F 8) (F 11) n))) (mHX L F g) := by
  refine mCall_of sX0_coughsOfThoseHere.1 (Nat.le_of_ble_eq_true rfl) ⟨_, rfl, rfl⟩ ?_
  show mGo _ _ (0, [some (.ref 7), none, none], [], _) _
  refine g_iconstv (v := 0) dX0_coughsOfThoseHere_0 rfl ?_
  refine g_istore_n dX0_coughsOfThoseHere_1 (by decide) rfl ?_
  refine g_iconstv (v := 0) dX0_coughsOfThoseHere_2 rfl ?_
  refine g_istore_n dX0_coughsOfThoseHere_3 (by decide) rfl ?_
  exact lp_coughsOfThoseHere d n hn h10  n 0 _ (Nat.zero_add n) rfl
set_option maxHeartbeats 4000000 in
set_option maxRecDepth 100000 in
theorem c_add_full {L : Nat} {F : Nat → Nat → Int32} {g : Nat → Option Nat} (d : Nat) (a1 a2 a3 : Int32) (h : F 7 0 = nI 10) : mCall (d) yX0_add MX0_add [.ref 7, .int a1, .int a2, .int a3] (mHX L F g) (some (.int (-4))) (mHX L F g) := by
  refine mCall_of sX0_add.1 (Nat.le_of_ble_eq_true rfl) ⟨_, rfl, rfl⟩ ?_
  show mGo _ _ (0, [some (.ref 7), some (.int a1), some (.int a2), some (.int a3)], [], _) _
  refine g_aload_n dX0_add_0 rfl ?_
  refine g_gI dX0_add_1 fl_X0_9 (fun _ _ => rfl) rfl (by decide) ?_
  refine g_bipushv (v := 10) dX0_add_4 rfl ?_
  refine g_icmp_lt (tgt := 12) dX0_add_6 (by decide) (fun c6 => absurd c6 (by rw [h]; decide)) (fun c6 => ?_)
  refine g_bipushv (v := (-4)) dX0_add_9 rfl ?_
  exact g_iret dX0_add_11 rfl
set_option maxHeartbeats 4000000 in
set_option maxRecDepth 100000 in
theorem c_add {L : Nat} {F : Nat → Nat → Int32} {g : Nat → Option Nat} (d : Nat) (a1 a2 a3 : Int32) (n : Nat) (hn : F 7 0 = nI n) (h10 : n < 10) : mCall (d) yX0_add MX0_add [.ref 7, .int a1, .int a2, .int a3] (mHX L F g) (some (.int (nI n))) (mHX L (pe (pe (pe (pe F 8 n a1) 9 n a2) 11 n a3) 7 0 (F 7 0 + 1)) g) := by
  refine mCall_of sX0_add.1 (Nat.le_of_ble_eq_true rfl) ⟨_, rfl, rfl⟩ ?_
  show mGo _ _ (0, [some (.ref 7), some (.int a1), some (.int a2), some (.int a3)], [], _) _
  refine g_aload_n dX0_add_0 rfl ?_
  refine g_gI dX0_add_1 fl_X0_9 (fun _ _ => rfl) rfl (by decide) ?_
  refine g_bipushv (v := 10) dX0_add_4 rfl ?_
  refine g_icmp_lt (tgt := 12) dX0_add_6 (by decide) (fun c6 => ?_) (fun c6 => absurd (by rw [hn]; exact nI_lt h10 (by decide)) c6)
  refine g_aload_n dX0_add_12 rfl ?_
  refine g_gR (r := 8) dX0_add_13 fl_X0_15 (fun _ _ => rfl) rfl (by decide) rfl ?_
  refine g_aload_n dX0_add_16 rfl ?_
  refine g_gI dX0_add_17 fl_X0_9 (fun _ _ => rfl) rfl (by decide) ?_
  refine g_iload_n dX0_add_20 rfl ?_
  refine g_iastN (gx := n) dX0_add_21 rfl (by decide) hn (by omega) (by decide) ?_
  refine g_aload_n dX0_add_22 rfl ?_
  refine g_gR (r := 9) dX0_add_23 fl_X0_19 (fun _ _ => rfl) rfl (by decide) rfl ?_
  refine g_aload_n dX0_add_26 rfl ?_
  refine g_gI dX0_add_27 fl_X0_9 (fun _ _ => rfl) rfl (by decide) ?_
  refine g_iload_n dX0_add_30 rfl ?_
  refine g_iastN (gx := n) dX0_add_31 rfl (by decide) hn (by omega) (by decide) ?_
  refine g_aload_n dX0_add_32 rfl ?_
  refine g_gR (r := 11) dX0_add_33 fl_X0_25 (fun _ _ => rfl) rfl (by decide) rfl ?_
  refine g_aload_n dX0_add_36 rfl ?_
  refine g_gI dX0_add_37 fl_X0_9 (fun _ _ => rfl) rfl (by decide) ?_
  refine g_iload_n dX0_add_40 rfl ?_
  refine g_iastN (gx := n) dX0_add_41 rfl (by decide) hn (by omega) (by decide) ?_
  refine g_aload_n dX0_add_42 rfl ?_
  refine g_dup dX0_add_43 rfl ?_
  refine g_gI dX0_add_44 fl_X0_9 (fun _ _ => rfl) rfl (by decide) ?_
  refine g_iconstv (v := 1) dX0_add_47 rfl ?_
  refine g_iadd dX0_add_48 ?_
  refine g_pI dX0_add_49 fl_X0_9 (Or.inl rfl) rfl (by decide) rfl ?_
  refine g_aload_n dX0_add_52 rfl ?_
  refine g_gI dX0_add_53 fl_X0_9 (fun _ _ => rfl) rfl (by decide) ?_
  refine g_iconstv (v := 1) dX0_add_56 rfl ?_
  refine g_isub dX0_add_57 ?_
  exact g_iret dX0_add_58 (m_ret2 (by show nI n = F 7 0 + 1 - 1; rw [hn, nI_1]; exact (nI_pred n).symm) rfl)
