/-! the start: the constructor, the first calls, the loop -/
theorem F00_hi {xs : Nat → Int32} {j : Nat} (h : 4 ≤ j) : F00 xs j = fun _ => 0 := by
  obtain ⟨k, rfl⟩ : ∃ k, j = k + 4 := ⟨j - 4, by omega⟩
  rfl
theorem z_lo {xs : Nat → Int32} {c : Nat} (h : c < 24) : f6 (F00 xs) c = iF (F00 xs) 6 c := by
  unfold f6 f5 f1
  rw [iF_lo (by omega), iF_lo (by omega), iF_lo (by omega), iF_lo (by omega), iF_lo (by omega), iF_lo (by omega), iF_lo (by omega), iF_lo (by omega), iF_lo (by omega)]
theorem z_st {xs : Nat → Int32} {c : Nat} (h : c < 6) : f6 (F00 xs) c = F00 xs c := by rw [z_lo (by omega), iF_lo h]
theorem z_6 {xs : Nat → Int32} : f6 (F00 xs) 6 = mFS := by
  rw [z_lo (by decide)]
  unfold iF
  rw [pe_row (by decide), pe_row (by decide), pe_row (by decide), va_up_self]
  rfl
theorem z_0 {xs : Nat → Int32} {c : Nat} (h7 : 7 ≤ c) (h : c < 24) (h19 : c ≠ 19) : f6 (F00 xs) c = fun _ => 0 := by
  rw [z_lo h]
  unfold iF
  rw [pe_row (by omega), pe_row (by omega), pe_row (by omega), va_up_ne _ _ (by omega)]
  exact F00_hi (by omega)
theorem z_19 {xs : Nat → Int32} {u : Nat} (hu : u < 3) : f6 (F00 xs) 19 u = (-6) := by
  rw [z_lo (by decide)]
  unfold iF
  rcases (by omega : u = 0 ∨ u = 1 ∨ u = 2) with rfl | rfl | rfl
  · rw [pe_ne (by decide), pe_ne (by decide)]
    exact pe_eq _ _ _ _
  · rw [pe_ne (by decide)]
    exact pe_eq _ _ _ _
  · exact pe_eq _ _ _ _
theorem z_hi {xs : Nat → Int32} {c : Nat} (h : 169 ≤ c) : f6 (F00 xs) c = fun _ => 0 := by
  unfold f6 f5
  rw [iF_hi (by omega), iF_hi (by omega), f1_hi (by omega), iF_hi (by omega)]
  exact F00_hi (by omega)
theorem z_HI (xs : Nat → Int32) : HI 0 (f6 (F00 xs)) := by
  have c0 : ∀ c k, 7 ≤ c → c < 24 → c ≠ 19 → f6 (F00 xs) c k = 0 := fun c k h1 h2 h3 => by rw [z_0 h1 h2 h3]
  refine ⟨0, ⟨c0 7 0 (by decide) (by decide) (by decide), by decide, fun k hk => absurd hk (Nat.not_lt_zero k), ⟨fun _ => 1, fun k hk => absurd hk (Nat.not_lt_zero k)⟩, fun k hk => absurd hk (Nat.not_lt_zero k)⟩, fun k hk => ⟨0, Nat.zero_le _, c0 10 k (by decide) (by decide) (by decide)⟩, ?_, fun t ht => Or.inl (z_19 ht), ⟨fun _ => 0, fun _ => 0, fun j hj => ⟨c0 17 j (by decide) (by decide) (by decide), c0 20 j (by decide) (by decide) (by decide)⟩, rfl, Nat.zero_le _, fun m m1 m2 => ⟨0, 0, c0 15 m (by decide) (by decide) (by decide), c0 16 m (by decide) (by decide) (by decide), Nat.zero_le _, Nat.zero_le _, Iff.rfl⟩⟩, ⟨0, by decide, c0 14 4 (by decide) (by decide) (by decide)⟩⟩
  rw [z_6]
  exact ⟨3, 4, 2, 1, rfl, rfl, rfl, rfl, by decide, by decide, by decide, by decide, by decide, by decide⟩
theorem most_0 : sMost (fun _ => 0) = (-6) := by decide +kernel
set_option maxHeartbeats 4000000 in
set_option maxRecDepth 100000 in
/-- the law from its entry to its end -/
theorem lw_all {Ln : Nat} (xs : Nat → Int32) (hL : Ln ≤ 260) : ∃ (F2 : Nat → Nat → Int32) (g2 : Nat → Option Nat), mGo ML_law 7 (0, mEnt [.ref 0] 13, [], ((mSH Ln).take 4, F00 xs, fun _ _ => none)) (some (.int 1), mHX Ln F2 g2) := by
  have hs0 : HS 0 (fun i => i) (f6 (F00 xs)) g0 := ⟨fun i hi => if_pos hi, fun i hi => hi, by decide, by rw [z_0 (by decide) (by decide) (by decide)]; rfl⟩
  have h169 : f6 (F00 xs) 169 0 = 0 := by rw [z_hi (by decide)]
  have hRE : RE yX5_giveBack MX5_giveBack [.ref 135, .int 0, .ref 5] (f6 (F00 xs)) (-5) (f6 (F00 xs)) := fun L Z g d => c_back_none (F := mx (f6 (F00 xs)) Z) (d + 3) 0 (by decide) h169
  obtain ⟨Z1, g1, π1, RS, hc⟩ := ch_of (d := 2) (cw_restore 0) hRE (fun _ => rfl) Ln (f6 (F00 xs)) g0 0 _ hs0
  rw [mx_self] at RS
  have hs1 : HS 0 π1 Z1 g1 := by
    rcases hc with ⟨-, -, h⟩ | ⟨h, -⟩
    · exact h
    · exact absurd (by decide : isE (-5)) h
  have hN : IN 0 xs (svF (f6 (F00 xs))) := sv_IN (by rw [z_st (by decide)]; rfl) (by rw [z_st (by decide)]; rfl) (by rw [z_st (by decide)]; rfl) (z_HI xs)
  obtain ⟨F2, g2, K⟩ := lw_loop (d := 1) (Ln := Ln) hL 44 0 0 π1 (svF (f6 (F00 xs))) Z1 g1 rfl hN hs1
  refine ⟨F2, g2, ?_⟩
  have U : mCall 6 yX6_undo MX6_undo [.ref 4] (mHX Ln (f6 (F00 xs)) g0) (some (.int (-5))) (mHX Ln (f6 (F00 xs)) g0) := c_x_undo 2 _ _ (c_undo_no 5 (by rw [z_0 (by decide) (by decide) (by decide)]))
  have SV := sv_call (L := Ln) (d := 1) (F := f6 (F00 xs)) (Z := Z1) (g := g1)
  rw [show f6 (F00 xs) 7 0 = 0 from by rw [z_0 (by decide) (by decide) (by decide)]] at SV
  have US := c_usual (L := Ln) (F := mx (svF (f6 (F00 xs))) Z1) (g := g1) 3
  rw [show mx (svF (f6 (F00 xs))) Z1 15 = fun _ => 0 from by
    show svF (f6 (F00 xs)) 15 = _
    rw [sv_row (by decide), z_0 (by decide) (by decide) (by decide)], most_0] at US
  have EN := c_tel_no (L := Ln) (F := mx (svF (f6 (F00 xs))) Z1) (g := g1) 3 0 0 (fun q => by
    have := q.2
    rw [show mx (svF (f6 (F00 xs))) Z1 14 4 = 0 from by
      show svF (f6 (F00 xs)) 14 4 = 0
      rw [sv_row (by decide), z_0 (by decide) (by decide) (by decide)]] at this
    exact absurd this (by decide))
  show mGo _ _ (0, [some (.ref 0), none, none, none, none, none, none, none, none, none, none, none, none], [], _) _
  refine g_new (n := 4) dL_law_0 cl_L_13 nc_X6 rfl rfl rfl ?_
  rw [show (mSH Ln).take 4 ++ [.inl 6] = (mSH Ln).take 5 from rfl]
  refine g_dup dL_law_3 rfl ?_
  refine g_I0 dL_law_4 ml_L_86 sX6_init (Nat.le_of_ble_eq_true rfl) (c_init_X6 2 (F00 xs) (fun _ _ => none) rfl (fun j hj => F00_hi (by omega)) (fun _ _ => rfl)) ?_
  rw [mR_start, show (mSH Ln).take 172 = mSH Ln from rfl]
  refine g_astore_n dL_law_7 (by decide) rfl ?_
  exact lw_0 (d := 1) U RS SV US EN (K _ _ _ _ _ _ _ _ _ _)
