/-! reads, both ways -/
def RD (L d : Nat) (F : Nat → Nat → Int32) (g : Nat → Option Nat) (yx : MethodName) (Mx : mM) (ax : List Value) (ym : MethodName) (Mm : mM) (ma : List Value) : Prop :=
  ∃ r : Int32, mCall (d + 7) yx Mx ax (mHX L F g) (some (.int r)) (mHX L F g) ∧ mCall (d + 7) ym Mm ma (mHX L F g) (some (.int r)) (mHX L F g)
theorem rd_mk {L d : Nat} {F : Nat → Nat → Int32} {g : Nat → Option Nat} {yx : MethodName} {Mx : mM} {ax : List Value} {ym : MethodName} {Mm : mM} {ma : List Value} {r r2 : Int32} (h1 : mCall (d + 7) yx Mx ax (mHX L F g) (some (.int r)) (mHX L F g)) (h2 : mCall (d + 7) ym Mm ma (mHX L F g) (some (.int r2)) (mHX L F g)) (e : r2 = r) : RD L d F g yx Mx ax ym Mm ma := ⟨r, h1, by rw [← e]; exact h2⟩
theorem ok_read {L d B : Nat} {X : Nat → Int32} {yx : MethodName} {Mx : mM} {ax : List Value} {ym : MethodName} {Mm : mM} {ma : List Value} (h : ∀ (F : Nat → Nat → Int32) (g : Nat → Option Nat) (n t : Nat), RR 5 n t F (F 173) → VV n B (F 173) → F 172 0 = 0 → F 3 = mMB → F 172 3 = F 21 1 → F 172 7 = F 170 1 → RD L d F g yx Mx ax ym Mm ma) : OK L d B B X yx Mx ax ym Mm ma := by
  intro F g ⟨π, k, l, hI⟩
  have hI2 := hI
  obtain ⟨hg, hH, hS, hP, hC, n, t, hRR, hVV, hLL⟩ := hI2
  obtain ⟨r, a, b⟩ := h F g n t hRR hVV hC.2.2.2.2 hC.2.2.2.1 (hH.2.2.2.2.1.trans hH.2.2.2.1.symm) (hP.2.2.1.trans hP.2.1.symm)
  exact ⟨r, F, g, F, hC.1, a, b, π, k, l, hI⟩
theorem w_out {w M : Int32} (h : ¬ (0 ≤ w ∧ w ≤ M)) : w.toInt < 0 ∨ M.toInt < w.toInt := by
  rw [i_le, i_le, i_0] at h
  omega
theorem wl_1 {w : Int32} (h : 0 ≤ w ∧ w ≤ 1) : w = 0 ∨ w = 1 := by
  obtain ⟨j, hj, e⟩ := nI_of2 (x := w) (M := 1) (n := 1) (by decide) (Int32.not_lt.mpr h.1) h.2
  subst e
  rcases (by omega : j = 0 ∨ j = 1) with rfl | rfl <;> decide
theorem wl_5 {w : Int32} (h : 0 ≤ w ∧ w ≤ 5) : w = 0 ∨ w = 1 ∨ w = 2 ∨ w = 3 ∨ w = 4 ∨ w = 5 := by
  obtain ⟨j, hj, e⟩ := nI_of2 (x := w) (M := 5) (n := 5) (by decide) (Int32.not_lt.mpr h.1) h.2
  subst e
  rcases (by omega : j = 0 ∨ j = 1 ∨ j = 2 ∨ j = 3 ∨ j = 4 ∨ j = 5) with rfl | rfl | rfl | rfl | rfl | rfl <;> decide
theorem wl_6 {w : Int32} (h : 0 ≤ w ∧ w ≤ 6) : w = 0 ∨ w = 1 ∨ w = 2 ∨ w = 3 ∨ w = 4 ∨ w = 5 ∨ w = 6 := by
  obtain ⟨j, hj, e⟩ := nI_of2 (x := w) (M := 6) (n := 6) (by decide) (Int32.not_lt.mpr h.1) h.2
  subst e
  rcases (by omega : j = 0 ∨ j = 1 ∨ j = 2 ∨ j = 3 ∨ j = 4 ∨ j = 5 ∨ j = 6) with rfl | rfl | rfl | rfl | rfl | rfl | rfl <;> decide
theorem wl_14 {w : Int32} (h : 0 ≤ w ∧ w ≤ 14) : w = 0 ∨ w = 1 ∨ w = 2 ∨ w = 3 ∨ w = 4 ∨ w = 5 ∨ w = 6 ∨ w = 7 ∨ w = 8 ∨ w = 9 ∨ w = 10 ∨ w = 11 ∨ w = 12 ∨ w = 13 ∨ w = 14 := by
  obtain ⟨j, hj, e⟩ := nI_of2 (x := w) (M := 14) (n := 14) (by decide) (Int32.not_lt.mpr h.1) h.2
  subst e
  rcases (by omega : j = 0 ∨ j = 1 ∨ j = 2 ∨ j = 3 ∨ j = 4 ∨ j = 5 ∨ j = 6 ∨ j = 7 ∨ j = 8 ∨ j = 9 ∨ j = 10 ∨ j = 11 ∨ j = 12 ∨ j = 13 ∨ j = 14) with rfl | rfl | rfl | rfl | rfl | rfl | rfl | rfl | rfl | rfl | rfl | rfl | rfl | rfl | rfl <;> decide
theorem rd_of {L d n t B : Nat} {F : Nat → Nat → Int32} {g : Nat → Option Nat} (hR : RR 5 n t F (F 173)) (hV : VV n B (F 173)) (h0 : F 172 0 = 0) (x w : Int32) : RD L d F g yX6_of MX6_of [.ref 4, .int x, .int w] yX7_of MX7_of [.ref 172, .int x, .int w] := by
  obtain ⟨m5, a7, h10⟩ := RR_n hR
  by_cases hx : 0 ≤ x ∧ x < nI n
  · by_cases hw : 0 ≤ w ∧ w ≤ 6
    · obtain ⟨k, hk, rfl⟩ := kn_i hx h10
      have ec : ∀ v, v < 6 → mC (F 173) v k = F (8 + v) k := fun v hv => RR_c hR (by omega) hv
      rcases wl_6 hw with rfl | rfl | rfl | rfl | rfl | rfl | rfl
      · exact rd_mk (c_of_0 (d + 4) n a7 h10 k hk) (c_mof_0 (d + 3) h0 n m5 h10 k hk) (ec 0 (by decide))
      · exact rd_mk (c_of_1 (d + 4) n a7 h10 k hk) (c_mof_1 (d + 3) h0 n m5 h10 k hk) (ec 1 (by decide))
      · exact rd_mk (c_of_2 (d + 4) n a7 h10 k hk) (c_mof_2 (d + 3) h0 n m5 h10 k hk) (ec 2 (by decide))
      · exact rd_mk (c_of_3 (d + 4) n a7 h10 k hk) (c_mof_3 (d + 3) h0 n m5 h10 k hk) (ec 3 (by decide))
      · obtain ⟨a, b, tm, v1, v2, v3, v4, v5, v6, v7, v8, v9, ⟨q, v10⟩, v11, v12, v13⟩ := hV
        refine rd_mk (c_of_4 (d + 4) n a7 h10 k hk) (c_mof_4 (d + 3) h0 n m5 h10 k hk) ?_
        rw [show mC (F 173) 0 k = F 8 k from ec 0 (by decide), host_rel hR v10]
      · exact rd_mk (c_of_5 (d + 4) n a7 h10 k hk) (c_mof_5 (d + 3) h0 n m5 h10 k hk) (ec 4 (by decide))
      · exact rd_mk (c_of_6 (d + 4) n a7 h10 k hk) (c_mof_6 (d + 3) h0 n m5 h10 k hk) (ec 5 (by decide))
    · exact rd_mk (c_of_bad (d + 4) x w (by rw [a7]; exact hx) (w_out hw)) (c_mof_bad (d + 3) h0 n m5 h10 x w hx hw) rfl
  · exact rd_mk (c_of_no (d + 4) x w (by rw [a7]; exact hx)) (c_mof_no (d + 3) h0 n m5 h10 x w hx) rfl
theorem rd_table {L d n t B : Nat} {F : Nat → Nat → Int32} {g : Nat → Option Nat} (h3 : F 3 = mMB) (hR : RR 5 n t F (F 173)) (hV : VV n B (F 173)) (h0 : F 172 0 = 0) (x w : Int32) : RD L d F g yX6_table MX6_table [.ref 4, .int x, .int w] yX7_table MX7_table [.ref 172, .int x, .int w] := by
  obtain ⟨m5, a7, h10⟩ := RR_n hR
  by_cases hx : 0 ≤ x ∧ x < 3
  · by_cases hw : 0 ≤ w ∧ w ≤ 5
    · obtain ⟨u, hu, rfl⟩ := tab_n hx
      obtain ⟨c, c4, e1, e2, e3⟩ := comp_rel hR hV (nI u)
      have ep : F 173 (10 + u) = F 19 u := RR_p hR hu
      obtain ⟨a, b, tm, v1, v2, v3, v4, v5, v6, v7, v8, v9, ⟨q, v10⟩, v11, v12, v13⟩ := hV
      rcases wl_5 hw with rfl | rfl | rfl | rfl | rfl | rfl
      · exact rd_mk (c_tab_0 (d + 4) n a7 h10 u hu) (c_mtab_0 (d + 3) h0 n m5 h10 u hu) (seat_eq hR).symm
      · exact rd_mk (c_tab_1 (d + 4) n a7 h10 u hu) (c_mtab_1 (d + 3) h0 n m5 h10 u hu) (host_rel hR v10).symm
      · exact rd_mk (c_tab_2 (d + 4) n a7 h10 u hu) (c_mtab_2 (d + 3) h0 n m5 h10 u hu) (e2.trans e1.symm)
      · exact rd_mk (c_tab_3 (d + 4) u hu) (c_mtab_3 (d + 3) h0 u hu) ep
      · by_cases hp : F 173 (10 + u) = (-6)
        · exact rd_mk (c_tab_4q (d + 4) u hu (ep.symm.trans hp)) (c_mtab_4q (d + 3) h0 u hu hp) rfl
        · rcases v11 u hu with h | ⟨p, hpt, hq⟩
          · exact absurd h hp
          · refine rd_mk (c_tab_4 (d + 4) n a7 h10 h3 u hu c c4 e1 (fun z => hp (ep.trans z))) (c_mtab_4 (d + 3) h0 n m5 h10 a b c p v1 v2 v4 v5 v6 (by omega) c4 u hu e2 hq) ?_
            rw [← ep, hq]
            exact (mean_eq ((RR_s hR (j := 0) (by decide)).symm.trans v1) ((RR_s hR (j := 1) (by decide)).symm.trans v2) v4 v5 v6 (by omega)).symm
      · exact rd_mk (c_tab_5 (d + 4) u hu) (c_mtab_5 (d + 3) h0 u hu) (hR.2.2.2.2.2.2.1 u hu)
    · exact rd_mk (c_tab_bad (d + 4) x w hx (w_out hw)) (c_mtab_bad (d + 3) h0 x w (tab_i.mp hx) (w_out hw)) rfl
  · exact rd_mk (c_tab_no (d + 4) x w hx) (c_mtab_no (d + 3) h0 x w (fun z => hx (tab_i.mpr z))) rfl
theorem mng_n {x : Int32} (h : 1 ≤ x ∧ x ≤ 11) : ∃ u, 1 ≤ u ∧ u ≤ 11 ∧ x = nI u := by
  have h0 : ¬ x < 0 := by
    have := h.1
    rw [i_le, show (1 : Int32).toInt = 1 from by decide] at this
    rw [i_lt, i_0]
    omega
  obtain ⟨j, hj, e⟩ := nI_of2 (x := x) (M := 11) (n := 11) (by decide) h0 h.2
  refine ⟨j, ?_, hj, e⟩
  have := h.1
  rw [e] at this
  exact (nI_leI (a := 1) (by decide) (by omega)).mp this
theorem rd_meaning {L d n t : Nat} {F : Nat → Nat → Int32} {g : Nat → Option Nat} (hR : RR 5 n t F (F 173)) (h0 : F 172 0 = 0) (x w : Int32) : RD L d F g yX6_meaning MX6_meaning [.ref 4, .int x, .int w] yX7_meaning MX7_meaning [.ref 172, .int x, .int w] := by
  by_cases hx : 1 ≤ x ∧ x ≤ 11
  · obtain ⟨m, m1, m11, rfl⟩ := mng_n hx
    have em := hR.2.2.2.2.2.2.2.1 m m1 m11
    by_cases hw : 0 ≤ w ∧ w ≤ 1
    · rcases wl_1 hw with rfl | rfl
      · exact rd_mk (c_mng_0 (d + 4) m m1 m11) (c_mmng_0 (d + 3) h0 m m1 m11) em.1
      · exact rd_mk (c_mng_1 (d + 4) m m1 m11) (c_mmng_1 (d + 3) h0 m m1 m11) em.2
    · have := w_out hw
      rw [show (1 : Int32).toInt = 1 from by decide] at this
      exact rd_mk (c_mng_bad (d + 4) m m1 m11 w (by omega)) (c_mmng_bad (d + 3) h0 m m1 m11 w hw) rfl
  · exact rd_mk (c_mng_no (d + 4) x w hx) (c_mmng_no (d + 3) h0 x w hx) rfl
theorem w_5 {w : Int32} : (0 ≤ w ∧ w < 5) ↔ (0 ≤ w ∧ w ≤ 4) := by
  rw [i_le, i_le, i_lt, i_0, show (5 : Int32).toInt = 5 from by decide, show (4 : Int32).toInt = 4 from by decide]
  omega
theorem rd_end {L d n t : Nat} {F : Nat → Nat → Int32} {g : Nat → Option Nat} (hR : RR 5 n t F (F 173)) (h0 : F 172 0 = 0) (x w : Int32) : RD L d F g yX6_end MX6_end [.ref 4, .int x, .int w] yX7_end MX7_end [.ref 172, .int x, .int w] := by
  have e9 : F 173 9 = nI t := hR.2.2.2.2.1.1
  have e4 : F 14 4 = nI t := hR.2.2.2.2.1.2.1
  have t10 : t ≤ 10 := hR.2.2.2.2.1.2.2
  by_cases hx : 0 ≤ x ∧ x < nI t
  · obtain ⟨r, hr, rfl⟩ := kn_i hx t10
    by_cases hw : 0 ≤ w ∧ w < 5
    · obtain ⟨v, hv, rfl⟩ := nI_of2 (x := w) (M := 4) (n := 4) (by decide) (Int32.not_lt.mpr hw.1) (w_5.mp hw).2
      refine rd_mk (c_tel_ok (d + 4) t e4 t10 r hr v (by omega)) (c_mtel_ok (d + 3) h0 t t10 e9 r hr v (by omega)) ?_
      rw [Nat.mul_comm r 5]
      exact hR.2.2.2.2.2.2.2.2.1 r v hr (by omega)
    · exact rd_mk (c_tel_bad (d + 4) t e4 t10 r hr w hw) (c_mtel_bad (d + 3) h0 t t10 e9 r hr w (fun z => hw (w_5.mpr z))) rfl
  · exact rd_mk (c_tel_no (d + 4) x w (by rw [e4]; exact hx)) (c_mtel_no (d + 3) h0 t t10 e9 x w hx) rfl
theorem rd_count {L d n t : Nat} {F : Nat → Nat → Int32} {g : Nat → Option Nat} (hR : RR 5 n t F (F 173)) (h0 : F 172 0 = 0) (ek : F 172 3 = F 21 1) (el : F 172 7 = F 170 1) (w : Int32) : RD L d F g yX6_count MX6_count [.ref 4, .int w] yX7_count MX7_count [.ref 172, .int w] := by
  obtain ⟨m5, a7, h10⟩ := RR_n hR
  have ec : ∀ v k, v < 6 → k < n → mC (F 173) v k = F (8 + v) k := fun v k hv hk => RR_c hR (by omega) hv
  by_cases hw : 0 ≤ w ∧ w ≤ 14
  · rcases wl_14 hw with rfl | rfl | rfl | rfl | rfl | rfl | rfl | rfl | rfl | rfl | rfl | rfl | rfl | rfl | rfl
    · exact rd_mk (c_cnt_0 (d + 4)) (c_mcnt_0 (d + 3) h0) hR.2.1
    · refine rd_mk (c_cnt_1 (d + 4) n a7 h10) (c_mcnt_1 (d + 3) h0 n m5 h10) ?_
      rw [seat_eq (x := 0) hR, seat_eq (x := 1) hR, seat_eq (x := 2) hR, Int32.zero_or]
    · exact rd_mk (c_cnt_2 (d + 4)) (c_mcnt_2 (d + 3) h0) (sGo_congr (fun k hk => RR_p hR hk))
    · exact rd_mk (c_cnt_3 (d + 4)) (c_mcnt_3 (d + 3) h0) (hR.2.2.2.1 0 (by decide))
    · exact rd_mk (c_cnt_4 (d + 4)) (c_mcnt_4 (d + 3) h0) (hR.2.2.2.1 1 (by decide))
    · exact rd_mk (c_cnt_5 (d + 4)) (c_mcnt_5 (d + 3) h0) (hR.2.2.2.1 2 (by decide))
    · exact rd_mk (c_cnt_6 (d + 4) n a7 h10) (c_mcnt_6 (d + 3) h0 n m5 h10) (sSum_congr (fun k hk => ec 2 k (by decide) hk))
    · exact rd_mk (c_cnt_7 (d + 4)) (c_mcnt_7 (d + 3) h0) (sMeant_congr (fun k hk => (hR.2.2.2.2.2.2.2.1 (k + 1) (by omega) (by omega)).1))
    · exact rd_mk (c_cnt_8 (d + 4) n a7 h10) (c_mcnt_8 (d + 3) h0 n m5 h10) (sSumHere_congr (fun k hk => ec 0 k (by decide) hk) (fun k hk => ec 3 k (by decide) hk))
    · exact rd_mk (c_cnt_9 (d + 4)) (c_mcnt_9 (d + 3) h0) (RR_s hR (by decide))
    · exact rd_mk (c_cnt_10 (d + 4)) (c_mcnt_10 (d + 3) h0) (RR_s hR (by decide))
    · exact rd_mk (c_cnt_11 (d + 4)) (c_mcnt_11 (d + 3) h0) (RR_s hR (by decide))
    · exact rd_mk (c_cnt_12 (d + 4)) (c_mcnt_12 (d + 3) h0) (RR_s hR (by decide))
    · exact rd_mk (c_cnt_13 (d + 4)) (c_mcnt_13 (d + 3) h0) el
    · exact rd_mk (c_cnt_14 (d + 4)) (c_mcnt_14 (d + 3) h0) ek
  · exact rd_mk (c_cnt_bad (d + 4) w (w_out hw)) (c_mcnt_bad (d + 3) h0 w (w_out hw)) rfl
theorem rd_would {L d n t B : Nat} {F : Nat → Nat → Int32} {g : Nat → Option Nat} (h3 : F 3 = mMB) (hR : RR 5 n t F (F 173)) (hV : VV n B (F 173)) (h0 : F 172 0 = 0) (x w : Int32) : RD L d F g yX6_wouldMean MX6_wouldMean [.ref 4, .int x, .int w] yX7_wouldMean MX7_wouldMean [.ref 172, .int x, .int w] := by
  obtain ⟨m5, a7, h10⟩ := RR_n hR
  by_cases hx : 0 ≤ x ∧ x < 3
  · by_cases hw : 0 ≤ w ∧ w ≤ 999
    · obtain ⟨u, hu, rfl⟩ := tab_n hx
      obtain ⟨q, hq, rfl⟩ := nI_of2 (x := w) (M := 999) (n := 999) (by decide) (Int32.not_lt.mpr hw.1) hw.2
      obtain ⟨c, c4, e1, e2, e3⟩ := comp_rel hR hV (nI u)
      obtain ⟨a, b, tm, v1, v2, v3, v4, v5, v6, v7, v8, v9, v10, v11, v12, v13⟩ := hV
      exact rd_mk (c_wm_ok (d + 4) n a7 h10 h3 u hu c c4 e1 (nI q) hw) (c_mwm_ok (d + 3) h0 n m5 h10 a b c q v1 v2 v4 v5 v6 hq c4 u hu e2) (mean_eq ((RR_s hR (j := 0) (by decide)).symm.trans v1) ((RR_s hR (j := 1) (by decide)).symm.trans v2) v4 v5 v6 (by omega)).symm
    · exact rd_mk (c_wm_bad (d + 4) x w hx hw) (c_mwm_bad (d + 3) h0 x w (tab_i.mp hx) hw) rfl
  · exact rd_mk (c_wm_no (d + 4) x w hx) (c_mwm_no (d + 3) h0 x w (fun z => hx (tab_i.mpr z))) rfl
theorem rd_turns {L d n t B : Nat} {F : Nat → Nat → Int32} {g : Nat → Option Nat} (h3 : F 3 = mMB) (hR : RR 5 n t F (F 173)) (hV : VV n B (F 173)) (h0 : F 172 0 = 0) (x : Int32) : RD L d F g yX6_turnsIn MX6_turnsIn [.ref 4, .int x] yX7_turnsIn MX7_turnsIn [.ref 172, .int x] := by
  obtain ⟨m5, a7, h10⟩ := RR_n hR
  by_cases hx : 0 ≤ x ∧ x < 3
  · obtain ⟨u, hu, rfl⟩ := tab_n hx
    have ep : F 173 (10 + u) = F 19 u := RR_p hR hu
    obtain ⟨c, c4, e1, e2, e3⟩ := comp_rel hR hV (nI u)
    by_cases hp : F 173 (10 + u) = (-6)
    · exact rd_mk (c_ti_none (d + 4) u hu (ep.symm.trans hp)) (c_mti_r (d + 3) h0 _ _ (by decide) (c_rC_none (d + 3) u hu hp)) rfl
    · obtain ⟨a, b, tm, v1, v2, v3, v4, v5, v6, v7, v8, v9, v10, v11, v12, v13⟩ := hV
      rcases v11 u hu with h | ⟨p, hpt, hq⟩
      · exact absurd h hp
      · refine rd_mk (c_ti_ok (d + 4) n a7 h10 h3 u hu c c4 e1 (fun z => hp (ep.trans z))) (c_mti_ok (d + 3) h0 n m5 h10 a b c p v1 v2 v4 v5 v6 (by omega) c4 u hu e2 hq) ?_
        rw [← ep, hq]
        exact (turn_eq ((RR_s hR (j := 0) (by decide)).symm.trans v1) ((RR_s hR (j := 1) (by decide)).symm.trans v2) v4 v5 v6 (by omega)).symm
  · exact rd_mk (c_ti_no (d + 4) x hx) (c_mti_r (d + 3) h0 _ _ (by decide) (c_rC_no (d + 3) x (fun z => hx (tab_i.mpr z)))) rfl
theorem rd_lender {L d n t B : Nat} {F : Nat → Nat → Int32} {g : Nat → Option Nat} (hR : RR 5 n t F (F 173)) (hV : VV n B (F 173)) (h0 : F 172 0 = 0) (x : Int32) : RD L d F g yX6_lender MX6_lender [.ref 4, .int x] yX7_lender MX7_lender [.ref 172, .int x] := by
  obtain ⟨m5, a7, h10⟩ := RR_n hR
  by_cases hx : 0 ≤ x ∧ x < nI n
  · obtain ⟨k, hk, rfl⟩ := kn_i hx h10
    have e8 : mC (F 173) 0 k = F 8 k := RR_c hR (by omega) (by decide)
    obtain ⟨a, b, tm, v1, v2, v3, v4, v5, v6, v7, v8, v9, ⟨q, v10⟩, v11, v12, v13⟩ := hV
    rcases v9 k hk with hs | ⟨u, hu, hs⟩
    · exact rd_mk (c_len_none (d + 4) n a7 h10 k hk (e8.symm.trans hs)) (c_mlen_r (d + 3) h0 _ _ (by decide) (c_rL_gone (d + 3) n m5 h10 k hk hs)) rfl
    · have hn : ¬ mC (F 173) 0 k = (-6) := by
        rw [hs]
        exact m_ne6 (by omega)
      refine rd_mk (c_len_ok (d + 4) n a7 h10 k hk (by rw [← e8]; exact hn)) (c_mlen_ok (d + 3) h0 n m5 h10 k hk hn) ?_
      rw [e8.symm.trans hs]
      exact (lend_rel hR v10 hs).symm
  · exact rd_mk (c_len_no (d + 4) x (by rw [a7]; exact hx)) (c_mlen_r (d + 3) h0 _ _ (by decide) (c_rL_no (d + 3) n m5 h10 x hx)) rfl
theorem rd_without {L d n t B : Nat} {F : Nat → Nat → Int32} {g : Nat → Option Nat} (h3 : F 3 = mMB) (hR : RR 5 n t F (F 173)) (hV : VV n B (F 173)) (h0 : F 172 0 = 0) (x : Int32) : RD L d F g yX6_without MX6_without [.ref 4, .int x] yX7_without MX7_without [.ref 172, .int x] := by
  obtain ⟨m5, a7, h10⟩ := RR_n hR
  by_cases hx : 0 ≤ x ∧ x < nI n
  · obtain ⟨k, hk, rfl⟩ := kn_i hx h10
    have e8 : mC (F 173) 0 k = F 8 k := RR_c hR (by omega) (by decide)
    obtain ⟨a, b, tm, v1, v2, v3, v4, v5, v6, v7, v8, v9, ⟨q, v10⟩, v11, v12, v13⟩ := hV
    rcases v9 k hk with hs | ⟨u, hu, hs⟩
    · exact rd_mk (c_wo_gone (d + 4) n a7 h10 k hk (e8.symm.trans hs)) (c_mwo_r (d + 3) h0 _ _ (by decide) (c_rB_gone (d + 3) n m5 h10 k hk hs)) rfl
    · have ep : F 173 (10 + u) = F 19 u := RR_p hR hu
      have hsA : F 8 k = nI u := e8.symm.trans hs
      by_cases hp : F 173 (10 + u) = (-6)
      · exact rd_mk (c_wo_quiet (d + 4) n a7 h10 k hk u hu hsA (ep.symm.trans hp)) (c_mwo_r (d + 3) h0 _ _ (by decide) (c_rB_quiet (d + 3) n m5 h10 k hk u hu hs hp)) rfl
      · rcases v11 u hu with h | ⟨p, hpt, hq⟩
        · exact absurd h hp
        · obtain ⟨c, c4, e1, e2⟩ := comp_out (P := mC (F 173) 0) (Q := mC (F 173) 1) (t := nI u) v10 h10 hk
          have e1A : sComp (F 8) (F 9) (nI u) (nI k) n = nI c := by
            rw [← e1]
            exact sComp_congr (fun k hk => (RR_c (k := k) (w := 0) hR (by omega) (by decide)).symm) (fun k hk => (RR_c (k := k) (w := 1) hR (by omega) (by decide)).symm)
          refine rd_mk (c_wo_ok (d + 4) n a7 h10 h3 k hk u hu hsA (fun z => hp (ep.trans z)) c c4 e1A) (c_mwo_ok (d + 3) h0 n m5 h10 a b c p v1 v2 v4 v5 v6 (by omega) c4 k hk u hu hs e2 hq) ?_
          rw [← ep, hq]
          exact (mean_eq ((RR_s hR (j := 0) (by decide)).symm.trans v1) ((RR_s hR (j := 1) (by decide)).symm.trans v2) v4 v5 v6 (by omega)).symm
  · exact rd_mk (c_wo_no (d + 4) x (by rw [a7]; exact hx)) (c_mwo_r (d + 3) h0 _ _ (by decide) (c_rB_no (d + 3) n m5 h10 x hx)) rfl
theorem rd_usual {L d n t : Nat} {F : Nat → Nat → Int32} {g : Nat → Option Nat} (hR : RR 5 n t F (F 173)) (h0 : F 172 0 = 0) : RD L d F g yX6_usual MX6_usual [.ref 4] yX7_usual MX7_usual [.ref 172] :=
  rd_mk (c_usual (d + 4)) (c_musual (d + 7) h0) (sMost_congr (fun k hk => (hR.2.2.2.2.2.2.2.1 (k + 1) (by omega) (by omega)).1))
