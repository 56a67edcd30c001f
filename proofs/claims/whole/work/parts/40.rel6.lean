theorem yMt_o {M : Nat → Nat → Int32} {mm q j : Nat} (q1 : j ≠ 16 + 2 * (mm - 1)) (q2 : j ≠ 16 + 2 * (mm - 1) + 1) : yMt M mm q 173 j = M 173 j := by
  unfold yMt
  rw [pe_ne (by omega), pe_ne (by omega)]
theorem yMt_r {M : Nat → Nat → Int32} {mm q c : Nat} (hc : c ≠ 173) : yMt M mm q c = M c := by
  unfold yMt
  rw [pe_row hc, pe_row hc]
theorem VV_mean {M : Nat → Nat → Int32} {n B mm q : Nat} (hV : VV n B (M 173)) (h11 : mm ≤ 11) : VV n B (yMt M mm q 173) := by
  have hC : ∀ v, mC (yMt M mm q 173) v = mC (M 173) v := fun v => funext (fun k => yMt_o (by omega) (by omega))
  exact VV_of hV (yMt_o (by omega) (by omega)) (yMt_o (by omega) (by omega)) (yMt_o (by omega) (by omega)) (yMt_o (by omega) (by omega)) (fun j hj => Or.inl (by rw [hC])) (fun j hj => by rw [hC]) (fun z hz => Or.inl (yMt_o (by omega) (by omega))) (fun j hj => by rw [hC])
theorem FrA_end {A A1 : Nat → Nat → Int32} {h u : Nat} {m w : Int32} (hA : FrA A A1) : FrA A (xEnd A1 h u m w) := fun c hc => by
  rw [xEnd_r (by omega)]
  exact hA c hc
theorem yEn1_cg {N M : Nat → Nat → Int32} {e u h : Nat} {m w : Int32} (eN : N 173 = M 173) : yEn1 N e u h m w 173 = yEn1 M e u h m w 173 := by
  rw [yEn1_T, yEn1_T]
  have eW1 : eW N e u h m w 173 = eW M e u h m w 173 := by
    unfold eW
    have q2 : pe (pe N 173 (38 + 5 * e) (nI h)) 173 ((38 + 5 * e) + 1) (nI u) 173 = pe (pe M 173 (38 + 5 * e) (nI h)) 173 ((38 + 5 * e) + 1) (nI u) 173 := pe_cg (pe_cg eN rfl) rfl
    exact pe_cg (pe_cg (pe_cg q2 (congrFun q2 _)) rfl) rfl
  have eT1 : eT N e u h m w 173 = eT M e u h m w 173 := by
    unfold eT
    exact pe_cg eW1 (by rw [eW1])
  have q1 : pe (eT N e u h m w) 173 (6 + h) (eT N e u h m w 173 (6 + h) + 1) 173 = pe (eT M e u h m w) 173 (6 + h) (eT M e u h m w 173 (6 + h) + 1) 173 := pe_cg eT1 (by rw [eT1])
  exact pe_cg (pe_cg q1 (by rw [q1])) rfl
theorem yEnds_cg {N M : Nat → Nat → Int32} {e u h : Nat} {m w : Int32} (eN : N 173 = M 173) : yEnds N e u h m w 173 = yEnds M e u h m w 173 := by
  unfold yEnds
  split
  · exact yEn1_cg eN
  · refine yEn1_cg ?_
    unfold yShE
    exact cp_cg (pe_cg eN (by rw [eN]))
theorem yMt_cg {N M : Nat → Nat → Int32} {mm q : Nat} (eN : N 173 = M 173) : yMt N mm q 173 = yMt M mm q 173 := by
  unfold yMt
  have q1 : pe N 173 (16 + 2 * (mm - 1)) (N 173 (16 + 2 * (mm - 1)) + 1) 173 = pe M 173 (16 + 2 * (mm - 1)) (M 173 (16 + 2 * (mm - 1)) + 1) 173 := pe_cg eN (by rw [eN])
  exact pe_cg q1 (by rw [q1])
theorem FrM_end {M M1 : Nat → Nat → Int32} {e h u : Nat} {m w : Int32} (hM : FrM M M1) : FrM M (yEnds M1 e u h m w) := fun c hc => by
  rw [yEnds_r hc]
  exact hM c hc
theorem ag_close {A M : Nat → Nat → Int32} {n t B : Nat} (h3 : A 3 = mMB) (hR : RR 5 n t A (M 173)) (hV : VV n B (M 173)) (x : Int32) : AG B A M yX4_closePause MX4_closePause [.ref 5, .int x] yX7_refusesClosing MX7_refusesClosing [.ref 172, .int x] yX7_closes MX7_closes [.ref 172, .int x] := by
  obtain ⟨m5, a7, h10⟩ := RR_n hR
  by_cases hx : 0 ≤ x ∧ x < 3
  · obtain ⟨u, hu, rfl⟩ := tab_n hx
    have ep : M 173 (10 + u) = A 19 u := RR_p hR hu
    by_cases hp : M 173 (10 + u) = (-6)
    · left
      exact ⟨-5, by decide, fun L g d => c_clo_none (d + 2) u hu (ep.symm.trans hp), fun N eN L g d => c_rC_none d u hu (by rw [eN]; exact hp)⟩
    · right
      obtain ⟨c, c4, e1, e2, e3⟩ := comp_rel hR hV (nI u)
      have hV2 := hV
      obtain ⟨a, b, tm, v1, v2, v3, v4, v5, v6, v7, v8, v9, v10, v11, v12, v13⟩ := hV2
      have t10 : t ≤ 10 := hR.2.2.2.2.1.2.2
      have e9 : M 173 9 = nI t := hR.2.2.2.2.1.1
      have hnA : ¬ A 19 u = (-6) := fun z => hp (ep.trans z)
      rcases v11 u hu with h | ⟨p, hpt, hq⟩
      · exact absurd h hp
      · have hqA : A 19 u = nI p := ep.symm.trans hq
        have ea6 : A 6 0 = nI a := (RR_s hR (j := 0) (by decide)).symm.trans v1
        have eb6 : A 6 1 = nI b := (RR_s hR (j := 1) (by decide)).symm.trans v2
        have em : sMean (A 6) c (A 19 u) = mMean a b c p := by
          rw [hqA]
          exact mean_eq ea6 eb6 v4 v5 v6 (by omega)
        obtain ⟨mm, hmm, emm⟩ := mMean_nat a b c p c4
        by_cases m0 : mm = 0
        · have em0 : mMean a b c p = 0 := by rw [emm, m0]; rfl
          exact ⟨0, xEnd A 0 u 0 (-6), yEnds M t u 0 0 (-6) 173, n, _, by decide, fun L g d => c_clo_0 d n a7 h10 h3 u hu c c4 e1 hnA (em.trans em0), fun N eN L g d => c_rC_ok d u hu (by rw [eN]; exact hp), fun N eN => ⟨yEnds N t u 0 0 (-6), yEnds_cg eN, FrM_end FrM_rf, fun L g d => by
            rw [← eN] at m5 v1 v2 e2 hq e9
            exact c_closes_0 d n m5 h10 a b c p v1 v2 v4 v5 v6 (by omega) c4 u hu e2 hq t t10 e9 em0⟩, RR_tell hR hu (by decide) 0 (-6), VV_mono (VV_tell hV t10 hu (by decide)) (Nat.le_add_right _ _), FrA_end FrA_rf⟩
        · have hRm : RR 5 n t (xEnter A mm (A 19 u)) (yMt M mm p 173) := by
            rw [hqA]
            exact RR_mean hR (by omega) hmm
          refine ⟨nI mm, xEnd (xEnter A mm (A 19 u)) 0 u (nI mm) (-6), yEnds (yMt M mm p) t u 0 (nI mm) (-6) 173, n, _, err_n (by omega), fun L g d => c_clo_n d n a7 h10 h3 u hu c c4 e1 hnA mm (by omega) hmm (em.trans emm), fun N eN L g d => c_rC_ok d u hu (by rw [eN]; exact hp), fun N eN => ⟨yEnds (yMt N mm p) t u 0 (nI mm) (-6), yEnds_cg (yMt_cg eN), FrM_end (fun c hc => yMt_r hc), fun L g d => by
            rw [← eN] at m5 v1 v2 e2 hq e9
            exact c_closes_n d n m5 h10 a b c p v1 v2 v4 v5 v6 (by omega) c4 u hu e2 hq t t10 e9 mm (by omega) hmm emm⟩, RR_tell hRm hu (by decide) (nI mm) (-6), VV_mono (VV_tell (VV_mean hV hmm) t10 hu (by decide)) (Nat.le_add_right _ _), FrA_end ?_⟩
          · unfold xEnter
            exact FrA_pe (FrA_pe FrA_rf (by decide)) (by decide)
  · left
    exact ⟨-1, by decide, fun L g d => c_clo_no (d + 2) x hx, fun N eN L g d => c_rC_no d x (fun z => hx (tab_i.mpr z))⟩
