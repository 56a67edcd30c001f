theorem host_rel {n t : Nat} {A : Nat → Nat → Int32} {S : Nat → Int32} {q : Nat → Nat} {x : Int32} (h : RR 5 n t A S) (hq : nR (mC S 1) q n) : sHost (A 8) (A 9) x n = oI (mHost (mC S 0) (mC S 1) x n) := by
  have h10 := (RR_n h).2.2
  rw [← host_eq (P := mC S 0) (Q := mC S 1) hq]
  exact sHost_congr (fun j hj => (RR_c (k := j) (w := 0) h (by omega) (by decide)).symm) (fun j hj => (RR_c (k := j) (w := 1) h (by omega) (by decide)).symm)
theorem VV_f {n B k : Nat} {S : Nat → Int32} (h : VV n B S) (hk : k < 10) : ∃ v, v ≤ B ∧ mC S 2 k = nI v := by
  obtain ⟨a, b, tm, v1, v2, v3, v4, v5, v6, v7, v8, v9, v10, v11, v12, f, v13⟩ := h
  exact ⟨f k, (v13 k hk).2, (v13 k hk).1⟩
theorem ySpk1_cg {N M : Nat → Nat → Int32} {e t h k : Nat} (eN : N 173 = M 173) : ySpk1 N e t h k 173 = ySpk1 M e t h k 173 := by
  unfold ySpk1
  have q1 : pe N 173 (88 + 6 * k + 2) (mC (N 173) 2 k + N 173 3) 173 = pe M 173 (88 + 6 * k + 2) (mC (M 173) 2 k + M 173 3) 173 := pe_cg eN (by rw [eN])
  have q2 : pe (pe N 173 (88 + 6 * k + 2) (mC (N 173) 2 k + N 173 3)) 173 (88 + 6 * h + 2) (mC (pe N 173 (88 + 6 * k + 2) (mC (N 173) 2 k + N 173 3) 173) 2 h + 0) 173 = pe (pe M 173 (88 + 6 * k + 2) (mC (M 173) 2 k + M 173 3)) 173 (88 + 6 * h + 2) (mC (pe M 173 (88 + 6 * k + 2) (mC (M 173) 2 k + M 173 3) 173) 2 h + 0) 173 := pe_cg q1 (by rw [q1])
  exact yEnds_cg (pe_cg q2 (by rw [q2]))
theorem ySpk2_cg {N M : Nat → Nat → Int32} {e t h k : Nat} (eN : N 173 = M 173) : ySpk2 N e t h k 173 = ySpk2 M e t h k 173 := by
  unfold ySpk2
  have q1 : pe N 173 (88 + 6 * k + 2) (mC (N 173) 2 k + N 173 3) 173 = pe M 173 (88 + 6 * k + 2) (mC (M 173) 2 k + M 173 3) 173 := pe_cg eN (by rw [eN])
  have q2 : pe (pe N 173 (88 + 6 * k + 2) (mC (N 173) 2 k + N 173 3)) 173 (88 + 6 * h + 2) (mC (pe N 173 (88 + 6 * k + 2) (mC (N 173) 2 k + N 173 3) 173) 2 h + 1) 173 = pe (pe M 173 (88 + 6 * k + 2) (mC (M 173) 2 k + M 173 3)) 173 (88 + 6 * h + 2) (mC (pe M 173 (88 + 6 * k + 2) (mC (M 173) 2 k + M 173 3) 173) 2 h + 1) 173 := pe_cg q1 (by rw [q1])
  exact yEnds_cg (pe_cg q2 (by rw [q2]))
theorem ag_word {A M : Nat → Nat → Int32} {n t B : Nat} (hB : B ≤ 1000000) (hR : RR 5 n t A (M 173)) (hV : VV n B (M 173)) (x : Int32) : AG B A M yX4_breakByWord MX4_breakByWord [.ref 5, .int x] yX7_refusesBreak MX7_refusesBreak [.ref 172, .int x] yX7_speaks MX7_speaks [.ref 172, .int x] := by
  obtain ⟨m5, a7, h10⟩ := RR_n hR
  by_cases hx : 0 ≤ x ∧ x < nI n
  · obtain ⟨k, hk, rfl⟩ := kn_i hx h10
    have e8 : mC (M 173) 0 k = A 8 k := RR_c hR (by omega) (by decide)
    have hV2 := hV
    obtain ⟨a, b, tm, v1, v2, v3, v4, v5, v6, v7, v8, v9, ⟨q, v10⟩, v11, ⟨sh, v12, v12'⟩, f, v13⟩ := hV2
    rcases v9 k hk with hs | ⟨u, hu, hs⟩
    · left
      exact ⟨-5, by decide, fun L g d => c_wrd_gone (d + 1) n a7 h10 k hk (e8.symm.trans hs), fun N eN L g d => c_rB_gone d n (by rw [eN]; exact m5) h10 k hk (by rw [eN]; exact hs)⟩
    · have hsA : A 8 k = nI u := e8.symm.trans hs
      have ep : M 173 (10 + u) = A 19 u := RR_p hR hu
      by_cases hp : M 173 (10 + u) = (-6)
      · left
        exact ⟨-5, by decide, fun L g d => c_wrd_quiet (d + 1) n a7 h10 k hk u hu hsA (ep.symm.trans hp), fun N eN L g d => c_rB_quiet d n (by rw [eN]; exact m5) h10 k hk u hu (by rw [eN]; exact hs) (by rw [eN]; exact hp)⟩
      · right
        have hnA : ¬ A 19 u = (-6) := fun z => hp (ep.trans z)
        have t10 : t ≤ 10 := hR.2.2.2.2.1.2.2
        have e9 : M 173 9 = nI t := hR.2.2.2.2.1.1
        obtain ⟨h, hm⟩ := host_is (P := mC (M 173) 0) (Q := mC (M 173) 1) hk hs
        have hh : h < n := (host_some v10 hm).1
        have hl : sHost (A 8) (A 9) (nI u) n = nI h := by
          rw [host_rel hR v10, hm]
          rfl
        have hok : ∀ (N : Nat → Nat → Int32), N 173 = M 173 → ∀ (L : Nat) (g : Nat → Option Nat) (d : Nat), mCall (d + 3) yX7_refusesBreak MX7_refusesBreak [.ref 172, .int (nI k)] (mHX L N g) (some (.int 0)) (mHX L N g) := fun N eN L g d => c_rB_ok d n (by rw [eN]; exact m5) h10 k hk u hu (by rw [eN]; exact hs) (by rw [eN]; exact hp)
        have f1 : mC (M 173) 2 k + M 173 3 = A 10 k + A 6 3 := by
          rw [show mC (M 173) 2 k = A 10 k from RR_c hR (w := 2) (by omega) (by decide), show M 173 3 = A 6 3 from RR_s hR (by decide)]
        have g1 : RR 5 n t (pe A 10 k (A 10 k + A 6 3)) (pe M 173 (88 + 6 * k + 2) (mC (M 173) 2 k + M 173 3) 173) := by
          rw [f1]
          exact RR_col hR (w := 2) (by decide) (by omega) _
        have w1 : VV n (B + 9) (pe M 173 (88 + 6 * k + 2) (mC (M 173) 2 k + M 173 3) 173) := VV_flt hV (Nat.le_add_right _ _) (v := f k + sh) (by have := (v13 k (by omega)).2; omega) (by rw [(v13 k (by omega)).1, v12', nI_add])
        have fin : ∀ (A2 M2 : Nat → Nat → Int32), RR 5 n t A2 (M2 173) → VV n (B + 10) (M2 173) → FrA A A2 → FrM M M2 → ∃ v, v ≤ B + 10 ∧ mC (yEnds (pe M2 173 (88 + 6 * k + 4) (mC (M2 173) 4 k + 1)) t u 1 0 (nI k) 173) 2 k = nI v ∧ xEnd (pe A2 12 k (A2 12 k + 1)) 1 u 0 (nI k) 10 k = nI v ∧ RR 5 n (if t < 10 then t + 1 else 10) (xEnd (pe A2 12 k (A2 12 k + 1)) 1 u 0 (nI k)) (yEnds (pe M2 173 (88 + 6 * k + 4) (mC (M2 173) 4 k + 1)) t u 1 0 (nI k) 173) ∧ VV n (B + 10) (yEnds (pe M2 173 (88 + 6 * k + 4) (mC (M2 173) 4 k + 1)) t u 1 0 (nI k) 173) ∧ FrA A (xEnd (pe A2 12 k (A2 12 k + 1)) 1 u 0 (nI k)) ∧ FrM M (yEnds (pe M2 173 (88 + 6 * k + 4) (mC (M2 173) 4 k + 1)) t u 1 0 (nI k)) := by
          intro A2 M2 g2 w2 fA fM
          have f3 : mC (M2 173) 4 k = A2 12 k := RR_c g2 (w := 4) (by omega) (by decide)
          have g3 : RR 5 n t (pe A2 12 k (A2 12 k + 1)) (pe M2 173 (88 + 6 * k + 4) (mC (M2 173) 4 k + 1) 173) := by
            rw [f3]
            exact RR_col g2 (w := 4) (by decide) (by omega) _
          have w3 := VV_col (k := k) (w := 4) (y := mC (M2 173) 4 k + 1) w2 (by decide) (by decide)
          have g4 := RR_tell g3 hu (by decide : 1 < 3) 0 (nI k)
          have w4 := VV_tell (m := 0) (w := nI k) w3 t10 hu (by decide : 1 < 3)
          obtain ⟨v, hv, ev⟩ := VV_f w4 (show k < 10 by omega)
          exact ⟨v, hv, ev, (RR_c g4 (w := 2) (by omega) (by decide)).symm.trans ev, g4, w4, FrA_end (FrA_pe fA (by decide)), FrM_end (FrM_pe fM)⟩
        by_cases hhk : h = k
        · have idM : pe (pe M 173 (88 + 6 * k + 2) (mC (M 173) 2 k + M 173 3)) 173 (88 + 6 * h + 2) (mC (pe M 173 (88 + 6 * k + 2) (mC (M 173) 2 k + M 173 3) 173) 2 h + 0) = pe M 173 (88 + 6 * k + 2) (mC (M 173) 2 k + M 173 3) := pe_id (by rw [Int32.add_zero]; rfl)
          obtain ⟨v, hv, z1, z2, z3, z4, z5, z6⟩ := fin _ _ g1 (VV_mono w1 (by omega)) (FrA_pe FrA_rf (by decide)) (FrM_pe FrM_rf)
          refine ⟨nI v, _, _, n, _, err_n (by omega), ?_, hok, ?_, z3, z4, z5⟩
          · intro L g d
            have := c_wrd_self (L := L) (F := A) (g := g) d n a7 h10 k hk u hu hsA hnA h (by omega) hl hhk
            rw [z2] at this
            exact this
          · intro N eN
            have eY : ySpk1 N t u h k 173 = _ := (ySpk1_cg eN).trans (by unfold ySpk1; rw [idM])
            refine ⟨ySpk1 N t u h k, eY, FrM_end (FrM_pe (FrM_pe (FrM_pe FrM_rf))), ?_⟩
            intro L g d
            rw [← eN] at m5 hs e9 hm
            have hc := c_spk_self (L := L) (F := N) (g := g) (d + 1) n m5 h10 k hk u hu hs t t10 e9 h (by omega) hm hhk
            change mCall _ _ _ _ _ (some (.int (mC (ySpk1 N t u h k 173) 2 k))) _ at hc
            rw [eY, z1] at hc
            exact hc
        · have f2 : mC (pe M 173 (88 + 6 * k + 2) (mC (M 173) 2 k + M 173 3) 173) 2 h = pe A 10 k (A 10 k + A 6 3) 10 h := RR_c g1 (w := 2) (by omega) (by decide)
          have g2 : RR 5 n t (pe (pe A 10 k (A 10 k + A 6 3)) 10 h (pe A 10 k (A 10 k + A 6 3) 10 h + 1)) (pe (pe M 173 (88 + 6 * k + 2) (mC (M 173) 2 k + M 173 3)) 173 (88 + 6 * h + 2) (mC (pe M 173 (88 + 6 * k + 2) (mC (M 173) 2 k + M 173 3) 173) 2 h + 1) 173) := by
            rw [f2]
            exact RR_col g1 (w := 2) (by decide) (by omega) _
          obtain ⟨vh, hvh, evh⟩ := VV_f w1 (show h < 10 by omega)
          have w2 := VV_flt (B2 := B + 10) (k := h) (v := vh + 1) (y := mC (pe M 173 (88 + 6 * k + 2) (mC (M 173) 2 k + M 173 3) 173) 2 h + 1) w1 (by omega) (by omega) (by rw [evh]; exact nI_1 vh)
          obtain ⟨v, hv, z1, z2, z3, z4, z5, z6⟩ := fin _ _ g2 w2 (FrA_pe (FrA_pe FrA_rf (by decide)) (by decide)) (FrM_pe (FrM_pe FrM_rf))
          refine ⟨nI v, _, _, n, _, err_n (by omega), ?_, hok, ?_, z3, z4, z5⟩
          · intro L g d
            have := c_wrd_other (L := L) (F := A) (g := g) d n a7 h10 k hk u hu hsA hnA h (by omega) hl hhk
            rw [z2] at this
            exact this
          · intro N eN
            have eY : ySpk2 N t u h k 173 = _ := (ySpk2_cg eN).trans (by unfold ySpk2; rfl)
            refine ⟨ySpk2 N t u h k, eY, FrM_end (FrM_pe (FrM_pe (FrM_pe FrM_rf))), ?_⟩
            intro L g d
            rw [← eN] at m5 hs e9 hm
            have hc := c_spk_other (L := L) (F := N) (g := g) (d + 1) n m5 h10 k hk u hu hs t t10 e9 h (by omega) hm hhk
            change mCall _ _ _ _ _ (some (.int (mC (ySpk2 N t u h k 173) 2 k))) _ at hc
            rw [eY, z1] at hc
            exact hc
  · left
    exact ⟨-1, by decide, fun L g d => c_wrd_no (d + 1) x (by rw [a7]; exact hx), fun N eN L g d => c_rB_no d n (by rw [eN]; exact m5) h10 x hx⟩
