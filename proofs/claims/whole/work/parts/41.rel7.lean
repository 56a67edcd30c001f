theorem VV_col {M : Nat → Nat → Int32} {n B k w : Nat} {y : Int32} (hV : VV n B (M 173)) (hw : 3 ≤ w) (hw6 : w < 6) : VV n B (pe M 173 (88 + 6 * k + w) y 173) :=
  VV_of hV (m_lay5 (by decide)) (m_lay5 (by decide)) (m_lay5 (by decide)) (m_lay5 (by decide)) (fun j hj => Or.inl (by rw [mC_ne hw6 (by decide) (by omega)])) (fun j hj => by rw [mC_ne hw6 (by decide) (by omega)]) (fun z hz => Or.inl (m_lay5 (by omega))) (fun j hj => by rw [mC_ne hw6 (by decide) (by omega)])
theorem VV_flt {M : Nat → Nat → Int32} {n B B2 k v : Nat} {y : Int32} (hV : VV n B (M 173)) (hB : B ≤ B2) (hv : v ≤ B2) (ey : y = nI v) : VV n B2 (pe M 173 (88 + 6 * k + 2) y 173) := by
  obtain ⟨a, b, tm, v1, v2, v3, v4, v5, v6, v7, v8, v9, ⟨q, v10⟩, v11, ⟨sh, v12, v12'⟩, f, v13⟩ := hV
  refine ⟨a, b, tm, (m_lay5 (by decide)).trans v1, (m_lay5 (by decide)).trans v2, v3, v4, v5, v6, (m_lay5 (by decide)).trans v7, v8, ?_, ⟨q, ?_⟩, ?_, ⟨sh, v12, (m_lay5 (by decide)).trans v12'⟩, fun j => if j = k then v else f j, ?_⟩
  · intro j hj
    rw [mC_ne (by decide) (by decide) (by decide)]
    exact v9 j hj
  · intro j hj
    rw [mC_ne (by decide) (by decide) (by decide)]
    exact v10 j hj
  · intro z hz
    rw [m_lay5 (by omega)]
    exact v11 z hz
  · intro j hj
    rw [mC_hi (by decide)]
    by_cases e : j = k
    · simp only [e, va_up_self, if_true]
      exact ⟨ey, hv⟩
    · rw [va_up_ne _ _ e]
      simp only [if_neg e]
      exact ⟨(v13 j hj).1, Nat.le_trans (v13 j hj).2 hB⟩
theorem lend_rel {n t k u : Nat} {A : Nat → Nat → Int32} {S : Nat → Int32} {q : Nat → Nat} (h : RR 5 n t A S) (hq : nR (mC S 1) q n) (hs : mC S 0 k = nI u) : sLend (A 8) (A 9) (A 11) (nI k) (nI u) n = oI (mLend (mC S 0) (mC S 1) (mC S 3) k n) := by
  have h10 := (RR_n h).2.2
  rw [← lend_eq (P := mC S 0) (Q := mC S 1) (R := mC S 3) (x := k) hq, hs]
  exact sLend_congr (fun j hj => (RR_c (k := j) (w := 0) h (by omega) (by decide)).symm) (fun j hj => (RR_c (k := j) (w := 1) h (by omega) (by decide)).symm) (fun j hj => (RR_c (k := j) (w := 3) h (by omega) (by decide)).symm)
theorem yCg1_cg {N M : Nat → Nat → Int32} {e t k : Nat} (eN : N 173 = M 173) : yCg1 N e t k 173 = yCg1 M e t k 173 := by
  unfold yCg1
  have q1 : pe N 173 (88 + 6 * k + 2) (mC (N 173) 2 k + N 173 3) 173 = pe M 173 (88 + 6 * k + 2) (mC (M 173) 2 k + M 173 3) 173 := pe_cg eN (by rw [eN])
  exact yEnds_cg (pe_cg q1 (by rw [q1]))
theorem yCg2_cg {N M : Nat → Nat → Int32} {e t h k : Nat} (eN : N 173 = M 173) : yCg2 N e t h k 173 = yCg2 M e t h k 173 := by
  unfold yCg2
  have q1 : pe N 173 (88 + 6 * h + 3) (mC (N 173) 3 h - 1) 173 = pe M 173 (88 + 6 * h + 3) (mC (M 173) 3 h - 1) 173 := pe_cg eN (by rw [eN])
  have q2 : pe (pe N 173 (88 + 6 * h + 3) (mC (N 173) 3 h - 1)) 173 (88 + 6 * h + 5) (mC (pe N 173 (88 + 6 * h + 3) (mC (N 173) 3 h - 1) 173) 5 h + 1) 173 = pe (pe M 173 (88 + 6 * h + 3) (mC (M 173) 3 h - 1)) 173 (88 + 6 * h + 5) (mC (pe M 173 (88 + 6 * h + 3) (mC (M 173) 3 h - 1) 173) 5 h + 1) 173 := pe_cg q1 (by rw [q1])
  exact yEnds_cg (pe_cg q2 (by rw [q2]))
theorem ag_cough {A M : Nat → Nat → Int32} {n t B : Nat} (hR : RR 5 n t A (M 173)) (hV : VV n B (M 173)) (x : Int32) : AG B A M yX4_breakByCough MX4_breakByCough [.ref 5, .int x] yX7_refusesBreak MX7_refusesBreak [.ref 172, .int x] yX7_coughs MX7_coughs [.ref 172, .int x] := by
  obtain ⟨m5, a7, h10⟩ := RR_n hR
  by_cases hx : 0 ≤ x ∧ x < nI n
  · obtain ⟨k, hk, rfl⟩ := kn_i hx h10
    have e8 : mC (M 173) 0 k = A 8 k := RR_c hR (by omega) (by decide)
    have hV2 := hV
    obtain ⟨a, b, tm, v1, v2, v3, v4, v5, v6, v7, v8, v9, ⟨q, v10⟩, v11, ⟨sh, v12, v12'⟩, f, v13⟩ := hV2
    rcases v9 k hk with hs | ⟨u, hu, hs⟩
    · left
      exact ⟨-5, by decide, fun L g d => c_cgh_gone (d + 1) n a7 h10 k hk (e8.symm.trans hs), fun N eN L g d => c_rB_gone d n (by rw [eN]; exact m5) h10 k hk (by rw [eN]; exact hs)⟩
    · have hsA : A 8 k = nI u := e8.symm.trans hs
      have ep : M 173 (10 + u) = A 19 u := RR_p hR hu
      by_cases hp : M 173 (10 + u) = (-6)
      · left
        exact ⟨-5, by decide, fun L g d => c_cgh_quiet (d + 1) n a7 h10 k hk u hu hsA (ep.symm.trans hp), fun N eN L g d => c_rB_quiet d n (by rw [eN]; exact m5) h10 k hk u hu (by rw [eN]; exact hs) (by rw [eN]; exact hp)⟩
      · right
        have hnA : ¬ A 19 u = (-6) := fun z => hp (ep.trans z)
        have t10 : t ≤ 10 := hR.2.2.2.2.1.2.2
        have e9 : M 173 9 = nI t := hR.2.2.2.2.1.1
        have hl := lend_rel hR v10 hs
        have hok : ∀ (N : Nat → Nat → Int32), N 173 = M 173 → ∀ (L : Nat) (g : Nat → Option Nat) (d : Nat), mCall (d + 3) yX7_refusesBreak MX7_refusesBreak [.ref 172, .int (nI k)] (mHX L N g) (some (.int 0)) (mHX L N g) := fun N eN L g d => c_rB_ok d n (by rw [eN]; exact m5) h10 k hk u hu (by rw [eN]; exact hs) (by rw [eN]; exact hp)
        cases hm : mLend (mC (M 173) 0) (mC (M 173) 1) (mC (M 173) 3) k n with
        | none =>
          rw [hm] at hl
          have f1 : mC (M 173) 2 k + M 173 3 = A 10 k + A 6 3 := by
            rw [show mC (M 173) 2 k = A 10 k from RR_c hR (w := 2) (by omega) (by decide), show M 173 3 = A 6 3 from RR_s hR (by decide)]
          have g1 : RR 5 n t (pe A 10 k (A 10 k + A 6 3)) (pe M 173 (88 + 6 * k + 2) (mC (M 173) 2 k + M 173 3) 173) := by
            rw [f1]
            exact RR_col hR (w := 2) (by decide) (by omega) _
          have f2 : mC (pe M 173 (88 + 6 * k + 2) (mC (M 173) 2 k + M 173 3) 173) 4 k = pe A 10 k (A 10 k + A 6 3) 12 k := RR_c g1 (w := 4) (by omega) (by decide)
          have g2 : RR 5 n t (pe (pe A 10 k (A 10 k + A 6 3)) 12 k (pe A 10 k (A 10 k + A 6 3) 12 k + 1)) (pe (pe M 173 (88 + 6 * k + 2) (mC (M 173) 2 k + M 173 3)) 173 (88 + 6 * k + 4) (mC (pe M 173 (88 + 6 * k + 2) (mC (M 173) 2 k + M 173 3) 173) 4 k + 1) 173) := by
            rw [f2]
            exact RR_col g1 (w := 4) (by decide) (by omega) _
          have w1 : VV n (B + 10) (pe M 173 (88 + 6 * k + 2) (mC (M 173) 2 k + M 173 3) 173) := VV_flt hV (Nat.le_add_right _ _) (v := f k + sh) (by have := (v13 k (by omega)).2; omega) (by rw [(v13 k (by omega)).1, v12', nI_add])
          have w2 := VV_col (k := k) (w := 4) (y := mC (pe M 173 (88 + 6 * k + 2) (mC (M 173) 2 k + M 173 3) 173) 4 k + 1) w1 (by decide) (by decide)
          exact ⟨-6, _, yCg1 M t u k 173, n, _, by decide, fun L g d => c_cgh_self d n a7 h10 k hk u hu hsA hnA hl, hok, fun N eN => ⟨yCg1 N t u k, yCg1_cg eN, FrM_end (FrM_pe (FrM_pe FrM_rf)), fun L g d => by
            rw [← eN] at m5 hs e9 hm
            exact c_cgs_none (d + 1) n m5 h10 k hk u hu hs t t10 e9 hm⟩, RR_tell g2 hu (by decide) 0 (nI k), VV_tell w2 t10 hu (by decide), FrA_end (FrA_pe (FrA_pe FrA_rf (by decide)) (by decide))⟩
        | some h =>
          rw [hm] at hl
          have hh : h < n := lend_some v10 hm
          have f1 : mC (M 173) 3 h - 1 = A 11 h - 1 := by rw [show mC (M 173) 3 h = A 11 h from RR_c hR (w := 3) (by omega) (by decide)]
          have g1 : RR 5 n t (pe A 11 h (A 11 h - 1)) (pe M 173 (88 + 6 * h + 3) (mC (M 173) 3 h - 1) 173) := by
            rw [f1]
            exact RR_col hR (w := 3) (by decide) (by omega) _
          have f2 : mC (pe M 173 (88 + 6 * h + 3) (mC (M 173) 3 h - 1) 173) 5 h = pe A 11 h (A 11 h - 1) 13 h := RR_c g1 (w := 5) (by omega) (by decide)
          have g2 : RR 5 n t (pe (pe A 11 h (A 11 h - 1)) 13 h (pe A 11 h (A 11 h - 1) 13 h + 1)) (pe (pe M 173 (88 + 6 * h + 3) (mC (M 173) 3 h - 1)) 173 (88 + 6 * h + 5) (mC (pe M 173 (88 + 6 * h + 3) (mC (M 173) 3 h - 1) 173) 5 h + 1) 173) := by
            rw [f2]
            exact RR_col g1 (w := 5) (by decide) (by omega) _
          have w1 := VV_col (k := h) (w := 3) (y := mC (M 173) 3 h - 1) hV (by decide) (by decide)
          have w2 := VV_col (k := h) (w := 5) (y := mC (pe M 173 (88 + 6 * h + 3) (mC (M 173) 3 h - 1) 173) 5 h + 1) w1 (by decide) (by decide)
          generalize hA2 : pe (pe A 11 h (A 11 h - 1)) 13 h (pe A 11 h (A 11 h - 1) 13 h + 1) = A2 at g2
          generalize hM2 : pe (pe M 173 (88 + 6 * h + 3) (mC (M 173) 3 h - 1)) 173 (88 + 6 * h + 5) (mC (pe M 173 (88 + 6 * h + 3) (mC (M 173) 3 h - 1) 173) 5 h + 1) = M2 at g2 w2
          have f3 : mC (M2 173) 4 k = A2 12 k := RR_c g2 (w := 4) (by omega) (by decide)
          have g3 : RR 5 n t (pe A2 12 k (A2 12 k + 1)) (pe M2 173 (88 + 6 * k + 4) (mC (M2 173) 4 k + 1) 173) := by
            rw [f3]
            exact RR_col g2 (w := 4) (by decide) (by omega) _
          have w3 := VV_col (k := k) (w := 4) (y := mC (M2 173) 4 k + 1) w2 (by decide) (by decide)
          have fA2 : FrA A A2 := by
            rw [← hA2]
            exact FrA_pe (FrA_pe FrA_rf (by decide)) (by decide)
          refine ⟨nI h, xEnd (pe A2 12 k (A2 12 k + 1)) 2 u 0 (nI k), yEnds (pe M2 173 (88 + 6 * k + 4) (mC (M2 173) 4 k + 1)) t u 2 0 (nI k) 173, n, _, err_n (by omega), ?_, hok, fun N eN => ⟨yCg2 N t u h k, ?_, FrM_end (FrM_pe (FrM_pe (FrM_pe FrM_rf))), ?_⟩, RR_tell g3 hu (by decide) 0 (nI k), VV_mono (VV_tell w3 t10 hu (by decide)) (Nat.le_add_right _ _), FrA_end (FrA_pe fA2 (by decide))⟩
          · intro L g d
            rw [← hA2]
            exact c_cgh_other d n a7 h10 k hk u hu hsA hnA h (by omega) hl
          · rw [← hM2]
            exact yCg2_cg eN
          · intro L g d
            rw [← eN] at m5 hs e9 hm
            exact c_cgs_some (d + 1) n m5 h10 k hk u hu hs t t10 e9 h (by omega) hm
  · left
    exact ⟨-1, by decide, fun L g d => c_cgh_no (d + 1) x (by rw [a7]; exact hx), fun N eN L g d => c_rB_no d n (by rw [eN]; exact m5) h10 x hx⟩
