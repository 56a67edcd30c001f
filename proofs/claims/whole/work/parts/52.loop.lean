/-! the law's loop, and its start -/
theorem lw_step {B Ln i : Nat} {X : Nat → Int32} {F : Nat → Nat → Int32} {g : Nat → Option Nat} (hB : B ≤ 900000) (hL : Ln ≤ 1536) (hi : i + 3 ≤ Ln) (hI : IVx B X F g) : lwG B Ln i X F g := by
  have h0 : F 0 = X := by
    obtain ⟨π, k, l, hg, hH, hS, hP, hC, hR⟩ := hI
    exact hC.1
  obtain ⟨j, hj, ej⟩ := pk_andE (X i) (m := 31) 5 (by decide)
  have hj2 : j < 32 := hj
  by_cases h : 25 < j
  · exact ⟨F, g, IV_mono (Nat.le_add_right _ _) hI, fun out K => lw_out hL hi h0 ej h hj2 K⟩
  · rcases (by omega : j = 0 ∨ j = 1 ∨ j = 2 ∨ j = 3 ∨ j = 4 ∨ j = 5 ∨ j = 6 ∨ j = 7 ∨ j = 8 ∨ j = 9 ∨ j = 10 ∨ j = 11 ∨ j = 12 ∨ j = 13 ∨ j = 14 ∨ j = 15 ∨ j = 16 ∨ j = 17 ∨ j = 18 ∨ j = 19 ∨ j = 20 ∨ j = 21 ∨ j = 22 ∨ j = 23 ∨ j = 24 ∨ j = 25) with rfl | rfl | rfl | rfl | rfl | rfl | rfl | rfl | rfl | rfl | rfl | rfl | rfl | rfl | rfl | rfl | rfl | rfl | rfl | rfl | rfl | rfl | rfl | rfl | rfl | rfl
    · exact lgs_0 hB hL hi h0 hI ej
    · exact lgs_1 hB hL hi h0 hI ej
    · exact lgs_2 hB hL hi h0 hI ej
    · exact lgs_3 hB hL hi h0 hI ej
    · exact lgs_4 hB hL hi h0 hI ej
    · exact lgs_5 hB hL hi h0 hI ej
    · exact lgs_6 hB hL hi h0 hI ej
    · exact lgs_7 hB hL hi h0 hI ej
    · exact lgs_8 hB hL hi h0 hI ej
    · exact lgs_9 hB hL hi h0 hI ej
    · exact lgs_10 hB hL hi h0 hI ej
    · exact lgs_11 hB hL hi h0 hI ej
    · exact lgs_12 hB hL hi h0 hI ej
    · exact lgs_13 hB hL hi h0 hI ej
    · exact lgs_14 hB hL hi h0 hI ej
    · exact lgs_15 hB hL hi h0 hI ej
    · exact lgs_16 hB hL hi h0 hI ej
    · exact lgs_17 hB hL hi h0 hI ej
    · exact lgs_18 hB hL hi h0 hI ej
    · exact lgs_19 hB hL hi h0 hI ej
    · exact lgs_20 hB hL hi h0 hI ej
    · exact lgs_21 hB hL hi h0 hI ej
    · exact lgs_22 hB hL hi h0 hI ej
    · exact lgs_23 hB hL hi h0 hI ej
    · exact lgs_24 hB hL hi h0 hI ej
    · exact lgs_25 hB hL hi h0 hI ej
theorem lw_loop {Ln : Nat} {X : Nat → Int32} (hL : Ln ≤ 1536) : ∀ (m i B : Nat) (F : Nat → Nat → Int32) (g : Nat → Option Nat), i ≤ 1600 → Ln < i + 3 * m + 3 → B + 300 * m ≤ 900000 → IVx B X F g → ∃ (F2 : Nat → Nat → Int32) (g2 : Nat → Option Nat), mGo ML_law 8 (18, lwL i, [], mHX Ln F g) (some (.int 1), mHX Ln F2 g2) := by
  intro m
  induction m with
  | zero =>
    intro i B F g hi hm hB hI
    exact ⟨F, g, lwEnd hL hi (by omega)⟩
  | succ m ih =>
    intro i B F g hi hm hB hI
    by_cases h : Ln < i + 3
    · exact ⟨F, g, lwEnd hL hi h⟩
    · obtain ⟨F1, g1, hI1, K⟩ := lw_step (B := B) (i := i) (Ln := Ln) (by omega) hL (by omega) hI
      obtain ⟨F2, g2, K2⟩ := ih (i + 3) (B + 300) F1 g1 (by omega) (by omega) (by omega) hI1
      exact ⟨F2, g2, K _ (lw_next K2)⟩
theorem F00_hi {xs : Nat → Int32} {j : Nat} (h : 4 ≤ j) : F00 xs j = fun _ => 0 := by
  obtain ⟨k, rfl⟩ : ∃ k, j = k + 4 := ⟨j - 4, by omega⟩
  rfl
theorem z_lo {xs : Nat → Int32} {c : Nat} (h : c < 24) : f7 (f6 (F00 xs)) c = iF (F00 xs) 6 c := by
  unfold f7
  rw [pe_row (by omega), pe_row (by omega), pe_row (by omega), pe_row (by omega), pe_row (by omega), pe_row (by omega), pe_row (by omega)]
  unfold f6 f5 f1
  rw [iF_lo (by omega), iF_lo (by omega), iF_lo (by omega), iF_lo (by omega), iF_lo (by omega), iF_lo (by omega), iF_lo (by omega), iF_lo (by omega), iF_lo (by omega)]
theorem z_st {xs : Nat → Int32} {c : Nat} (h : c < 6) : f7 (f6 (F00 xs)) c = F00 xs c := by rw [z_lo (by omega), iF_lo h]
theorem z_6 {xs : Nat → Int32} : f7 (f6 (F00 xs)) 6 = mFS := by
  rw [z_lo (by decide)]
  unfold iF
  rw [pe_row (by decide), pe_row (by decide), pe_row (by decide), va_up_self]
  rfl
theorem z_0 {xs : Nat → Int32} {c : Nat} (h7 : 7 ≤ c) (h : c < 24) (h19 : c ≠ 19) : f7 (f6 (F00 xs)) c = fun _ => 0 := by
  rw [z_lo h]
  unfold iF
  rw [pe_row (by omega), pe_row (by omega), pe_row (by omega), va_up_ne _ _ (by omega)]
  exact F00_hi (by omega)
theorem z_19 {xs : Nat → Int32} {u : Nat} (hu : u < 3) : f7 (f6 (F00 xs)) 19 u = (-6) := by
  rw [z_lo (by decide)]
  unfold iF
  rcases (by omega : u = 0 ∨ u = 1 ∨ u = 2) with rfl | rfl | rfl
  · rw [pe_ne (by decide), pe_ne (by decide)]
    exact pe_eq _ _ _ _
  · rw [pe_ne (by decide)]
    exact pe_eq _ _ _ _
  · exact pe_eq _ _ _ _
theorem z_hi {xs : Nat → Int32} {c : Nat} (h : 169 ≤ c) (h173 : c ≠ 173) : f7 (f6 (F00 xs)) c = fun _ => 0 := by
  unfold f7
  rw [pe_row h173, pe_row h173, pe_row h173, pe_row h173, pe_row h173, pe_row h173, pe_row h173]
  unfold f6 f5
  rw [iF_hi (by omega), iF_hi (by omega), f1_hi (by omega), iF_hi (by omega)]
  exact F00_hi (by omega)
theorem z_S {xs : Nat → Int32} (j : Nat) : f7 (f6 (F00 xs)) 173 j = if j = 12 then (-6) else if j = 11 then (-6) else if j = 10 then (-6) else if j = 3 then 1 else if j = 2 then 2 else if j = 1 then 4 else if j = 0 then 3 else 0 := by
  have e : f6 (F00 xs) 173 j = 0 := by
    rw [f6_hi (by decide), F00_hi (by decide)]
  unfold f7
  simp only [pe_at, true_and, e]
theorem z_S0 {xs : Nat → Int32} {j : Nat} (h : 3 < j) (h2 : j < 10 ∨ 12 < j) : f7 (f6 (F00 xs)) 173 j = 0 := by
  rw [z_S, if_neg (by omega), if_neg (by omega), if_neg (by omega), if_neg (by omega), if_neg (by omega), if_neg (by omega), if_neg (by omega)]
theorem z_Sp {xs : Nat → Int32} {u : Nat} (h : u < 3) : f7 (f6 (F00 xs)) 173 (10 + u) = (-6) := by
  rcases (by omega : u = 0 ∨ u = 1 ∨ u = 2) with rfl | rfl | rfl <;> (rw [z_S]; rfl)
theorem iv_start (xs : Nat → Int32) : IVx 0 xs (f7 (f6 (F00 xs))) g0 := by
  have n0 : nI 0 = 0 := rfl
  have c0 : ∀ c k, 7 ≤ c → c < 24 → c ≠ 19 → f7 (f6 (F00 xs)) c k = 0 := fun c k h1 h2 h3 => by rw [z_0 h1 h2 h3]
  refine ⟨fun i => i, 0, 0, fun i hi => if_pos hi, ⟨fun i hi => hi, fun i j _ _ e => e, by decide, ?_, ?_, fun i hi => absurd hi (Nat.not_lt_zero i)⟩, ?_, ⟨by decide, ?_, ?_, ?_⟩, ⟨?_, ?_, ?_, ?_, ?_⟩, 0, 0, ?_, ?_, 2, by decide, ?_⟩
  · exact c0 21 1 (by decide) (by decide) (by decide)
  · rw [z_hi (by decide) (by decide)]
    rfl
  · intro b hb
    rw [z_hi (c := 169) (by decide) (by decide), z_hi (c := 176) (by decide) (by decide)]
    exact ⟨rfl, fun q => absurd rfl q⟩
  · rw [z_hi (by decide) (by decide)]
    rfl
  · rw [z_hi (by decide) (by decide)]
    rfl
  · rw [z_hi (c := 171) (by decide) (by decide), z_hi (c := 177) (by decide) (by decide)]
  · rw [z_st (by decide)]
    rfl
  · rw [z_st (by decide)]
    rfl
  · rw [z_st (by decide)]
    rfl
  · rw [z_st (by decide)]
    rfl
  · rw [z_hi (by decide) (by decide)]
  · refine ⟨?_, ?_, ⟨?_, ?_, by decide⟩, ?_, ⟨?_, ?_, by decide⟩, ?_, ?_, ?_, fun r w hr => absurd hr (Nat.not_lt_zero r), ?_⟩
    · intro j hj
      show f7 (f6 (F00 xs)) 173 j = f7 (f6 (F00 xs)) 6 j
      rw [z_6, z_S]
      rcases (by omega : j = 0 ∨ j = 1 ∨ j = 2 ∨ j = 3) with rfl | rfl | rfl | rfl <;> rfl
    · rw [z_S0 (by decide) (by decide), z_st (by decide)]
      rfl
    · exact z_S0 (by decide) (by decide)
    · exact c0 7 0 (by decide) (by decide) (by decide)
    · intro h hh
      rw [z_S0 (by omega) (by omega)]
      exact (c0 17 h (by decide) (by decide) (by decide)).symm
    · exact z_S0 (by decide) (by decide)
    · exact c0 14 4 (by decide) (by decide) (by decide)
    · intro k hk
      rw [z_Sp hk]
      exact (z_19 hk).symm
    · intro k hk
      rw [z_S0 (by omega) (by omega)]
      exact (c0 20 k (by decide) (by decide) (by decide)).symm
    · intro m m1 m11
      rw [z_S0 (by omega) (by omega), z_S0 (by omega) (by omega)]
      exact ⟨(c0 15 m (by decide) (by decide) (by decide)).symm, (c0 16 m (by decide) (by decide) (by decide)).symm⟩
    · intro k w hk hw
      rw [z_S0 (by omega) (by omega)]
      exact (c0 (5 + 3 + w) k (by omega) (by omega) (by omega)).symm
  · refine ⟨3, 4, 0, by rw [z_S]; rfl, by rw [z_S]; rfl, by decide, by decide, by decide, by decide, z_S0 (by decide) (by decide), by decide, fun k hk => absurd hk (Nat.not_lt_zero k), ⟨fun _ => 0, fun k hk => absurd hk (Nat.not_lt_zero k)⟩, fun u hu => Or.inl (z_Sp hu), ⟨1, by decide, by rw [z_S]; rfl⟩, fun _ => 0, fun k hk => ⟨z_S0 (by omega) (by omega), Nat.le_refl 0⟩⟩
  · rw [z_S]
    rfl
set_option maxHeartbeats 4000000 in
set_option maxRecDepth 100000 in
/-- the law from its entry to its end -/
theorem lw_all {Ln : Nat} (xs : Nat → Int32) (hL : Ln ≤ 1536) : ∃ (F2 : Nat → Nat → Int32) (g2 : Nat → Option Nat), mGo ML_law 8 (0, mEnt [.ref 0] 4, [], ((mSH Ln).take 4, F00 xs, fun _ _ => none)) (some (.int 1), mHX Ln F2 g2) := by
  obtain ⟨F2, g2, K⟩ := lw_loop (Ln := Ln) (X := xs) hL 512 0 0 (f7 (f6 (F00 xs))) g0 (by decide) (by omega) (by decide) (iv_start xs)
  refine ⟨F2, g2, ?_⟩
  show mGo _ _ (0, [some (.ref 0), none, none, none], [], _) _
  refine g_new (n := 4) dL_law_0 cl_L_7 nc_X6 rfl rfl rfl ?_
  rw [show (mSH Ln).take 4 ++ [.inl 6] = (mSH Ln).take 5 from rfl]
  refine g_dup dL_law_3 rfl ?_
  refine g_I0 dL_law_4 ml_L_9 sX6_init (Nat.le_of_ble_eq_true rfl) (c_init_X6 3 (F00 xs) (fun _ _ => none) rfl (fun j hj => F00_hi (by omega)) (fun _ _ => rfl)) ?_
  refine g_astore_n dL_law_7 (by decide) rfl ?_
  refine g_new (n := 172) dL_law_8 cl_L_10 nc_X7 rfl (by rw [f6_hi (by decide)]; exact F00_hi (by decide)) (by rw [r6_hi (by decide)]) ?_
  rw [show (mSH Ln).take 172 ++ [.inl 7] = (mSH Ln).take 173 from rfl]
  refine g_dup dL_law_11 rfl ?_
  refine g_I0 dL_law_12 ml_L_12 sX7_init (Nat.le_of_ble_eq_true rfl) (c_init_X7 6 (f6 (F00 xs)) (r6 (fun _ _ => none)) (by rw [f6_hi (by decide)]; exact F00_hi (by decide)) (fun j hj => by rw [f6_hi (by omega)]; exact F00_hi (by omega)) (fun j hj => by rw [r6_hi (by omega)])) ?_
  rw [mR_start, show (mSH Ln).take 179 = mSH Ln from rfl]
  refine g_astore_n dL_law_15 (by decide) rfl ?_
  refine g_iconstv (v := nI 0) dL_law_16 rfl ?_
  refine g_istore_n dL_law_17 (by decide) rfl ?_
  exact K
