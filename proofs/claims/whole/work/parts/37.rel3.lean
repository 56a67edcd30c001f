theorem comp_rel {n t B : Nat} {A : Nat → Nat → Int32} {S : Nat → Int32} (h : RR 5 n t A S) (hV : VV n B S) (x : Int32) : ∃ c, c ≤ 4 ∧ sComp (A 8) (A 9) x (-6) n = nI c ∧ mSC S n x = nI c ∧ (c = 0 ↔ sSet (mC S 0) x n = 0) := by
  obtain ⟨a, b, tm, v1, v2, v3, v4, v5, v6, v7, v8, v9, ⟨q, v10⟩, v11, v12, v13⟩ := hV
  have h10 := (RR_n h).2.2
  obtain ⟨c, c4, e1, e2, e3⟩ := comp_eq (P := mC S 0) (Q := mC S 1) (t := x) v10 h10
  refine ⟨c, c4, ?_, e2, e3⟩
  rw [← e1]
  exact sComp_congr (fun k hk => (RR_c (k := k) (w := 0) h (by omega) (by decide)).symm) (fun k hk => (RR_c (k := k) (w := 1) h (by omega) (by decide)).symm)
theorem ag_pause {A M : Nat → Nat → Int32} {n t B : Nat} (hR : RR 5 n t A (M 173)) (hV : VV n B (M 173)) (x : Int32) : AG B A M yX4_beginPause MX4_beginPause [.ref 5, .int x] yX7_refusesPause MX7_refusesPause [.ref 172, .int x] yX7_begins MX7_begins [.ref 172, .int x] := by
  obtain ⟨m5, a7, h10⟩ := RR_n hR
  by_cases hx : 0 ≤ x ∧ x < 3
  · obtain ⟨u, hu, rfl⟩ := tab_n hx
    have ep : M 173 (10 + u) = A 19 u := RR_p hR hu
    obtain ⟨c, c4, e1, e2, e3⟩ := comp_rel hR hV (nI u)
    by_cases hp : M 173 (10 + u) = (-6)
    · by_cases h0 : c = 0
      · left
        exact ⟨-5, by decide, fun L g d => c_beg_nobody (d + 2) n a7 h10 u hu c c4 e1 (ep.symm.trans hp) h0, fun N eN L g d => c_rP_nobody d n (by rw [eN]; exact m5) h10 u hu (by rw [eN]; exact hp) (by rw [eN]; exact e3.mp h0)⟩
      · right
        refine ⟨nI c, pe A 19 u 0, pe M 173 (10 + u) 0 173, n, t, err_n (by omega), fun L g d => c_beg_ok (d + 2) n a7 h10 u hu c c4 e1 (ep.symm.trans hp) h0, fun N eN L g d => c_rP_ok d n (by rw [eN]; exact m5) h10 u hu (by rw [eN]; exact hp) (by rw [eN]; exact fun z => h0 (e3.mpr z)), fun N eN => ⟨pe N 173 (10 + u) 0, pe_cg eN rfl, FrM_pe FrM_rf, ?_⟩, RR_pause hR hu 0, ?_, FrA_pe FrA_rf (by decide)⟩
        · intro L g d
          have h := c_begins (L := L) (F := N) (g := g) d n (by rw [eN]; exact m5) h10 u hu
          rw [eN, e2] at h
          exact h
        · exact VV_mono (VV_of hV (m_row (by omega)) (m_row (by omega)) (m_row (by omega)) (m_row (by omega)) (fun j hj => Or.inl (by rw [mC_lo (by omega)])) (fun j hj => by rw [mC_lo (by omega)]) (fun z hz2 => by
            by_cases e : z = u
            · rw [e, pe_eq]
              exact Or.inr (Or.inr rfl)
            · exact Or.inl (m_row (by omega))) (fun j hj => by rw [mC_lo (by omega)])) (Nat.le_add_right _ _)
    · left
      exact ⟨-5, by decide, fun L g d => c_beg_is (d + 2) n a7 h10 u hu c c4 e1 (fun z => hp (ep.trans z)), fun N eN L g d => c_rP_is d u hu (by rw [eN]; exact hp)⟩
  · left
    exact ⟨-1, by decide, fun L g d => c_beg_no (d + 2) x hx, fun N eN L g d => c_rP_no d x (fun z => hx (tab_i.mpr z))⟩
/-! time passes -/
def psI (A M : Nat → Nat → Int32) (n t tm v u : Nat) (cp : Nat → Nat) (A1 M1 : Nat → Nat → Int32) (z : Int32) : Prop :=
  RR 5 n t A1 (M1 173) ∧ FrA A A1 ∧ FrM M M1 ∧ (∃ y, y ≤ u ∧ z = nI y) ∧ (∀ w, mC (M1 173) w = mC (M 173) w) ∧ M1 173 0 = M 173 0 ∧ M1 173 1 = M 173 1 ∧ M1 173 3 = M 173 3 ∧ M1 173 4 = nI (tm + v) ∧
  (∀ w, w < 3 → w < u → M1 173 (10 + w) = (-6) ∨ ∃ p, p ≤ tm + v ∧ M1 173 (10 + w) = nI p) ∧ (∀ w, u ≤ w → w < 3 → M1 173 (10 + w) = M 173 (10 + w))
theorem pass_step {A M : Nat → Nat → Int32} {n t B tm v u : Nat} {cp : Nat → Nat} {A1 M1 : Nat → Nat → Int32} {z : Int32} (hR0 : RR 5 n t A (M 173)) (hV : VV n B (M 173)) (etm : M 173 4 = nI tm) (htm : tm ≤ 9999) (hv : v ≤ 99) (hcp : ∀ w, w < 3 → cp w ≤ 4 ∧ mSC (M 173) n (nI w) = nI (cp w)) (hu : u < 3) (h : psI A M n t tm v u cp A1 M1 z) :
    ∃ M2, psI A M n t tm v (u + 1) cp (xPassF (nI v) cp (A1, z) u).1 M2 (xPassF (nI v) cp (A1, z) u).2 ∧ ∀ (N1 : Nat → Nat → Int32), N1 173 = M1 173 → ∃ N2, N2 173 = M2 173 ∧ FrM N1 N2 ∧ ∀ (L : Nat) (g : Nat → Option Nat) (d : Nat) (out : mOut), mGo MX7_passes (d + 3) (14, [some (.ref 172), some (.int (nI v)), some (.int (xPassF (nI v) cp (A1, z) u).2), some (.int (nI (u + 1)))], [], mHX L N2 g) out → mGo MX7_passes (d + 3) (14, [some (.ref 172), some (.int (nI v)), some (.int z), some (.int (nI u))], [], mHX L N1 g) out := by
  obtain ⟨hR, fA, fM, ⟨y, hy, ez⟩, hC, s0, s1, s3, s4, hlo, hhi⟩ := h
  obtain ⟨a, b, tm', v1, v2, v3, v4, v5, v6, v7, v8, v9, ⟨q, v10⟩, v11, v12, v13⟩ := hV
  have et : tm' = tm := (nI_eq (by omega) (by omega)).mp (v7.symm.trans etm)
  subst et
  obtain ⟨m5, a7, h10⟩ := RR_n hR
  have ep : M1 173 (10 + u) = A1 19 u := RR_p hR hu
  have eM : M1 173 (10 + u) = M 173 (10 + u) := hhi u (Nat.le_refl u) hu
  rcases v11 u hu with hq | ⟨p, hp, hq⟩
  · have ha : A1 19 u = (-6) := ep.symm.trans (eM.trans hq)
    have e : xPassF (nI v) cp (A1, z) u = (A1, z) := if_pos ha
    rw [e]
    refine ⟨M1, ⟨hR, fA, fM, ⟨y, by omega, ez⟩, hC, s0, s1, s3, s4, ?_, fun w h1 h2 => hhi w (by omega) h2⟩, fun N1 eN => ⟨N1, eN, FrM_rf, fun L g d out K => lp_ps_q d u hu (nI v) z (by rw [eN]; exact eM.trans hq) out K⟩⟩
    intro w h1 h2
    by_cases e : w = u
    · rw [e]
      exact Or.inl (eM.trans hq)
    · exact hlo w h1 (by omega)
  · have hna : ¬ A1 19 u = (-6) := by
      rw [← ep, eM, hq]
      exact m_ne6 (by omega)
    have hnM : ¬ M1 173 (10 + u) = (-6) := by rw [ep]; exact hna
    have eq1 : M1 173 (10 + u) + nI v = nI (p + v) := by rw [eM, hq, nI_add]
    have eA1 : A1 19 u + nI v = nI (p + v) := by rw [← ep]; exact eq1
    have ea : M1 173 0 = nI a := s0.trans v1
    have eb : M1 173 1 = nI b := s1.trans v2
    have ea6 : A1 6 0 = nI a := (RR_s hR (j := 0) (by decide)).symm.trans ea
    have eb6 : A1 6 1 = nI b := (RR_s hR (j := 1) (by decide)).symm.trans eb
    have em : sMean (A1 6) (cp u) (A1 19 u + nI v) = mMean a b (cp u) (p + v) := by
      rw [eA1]
      exact mean_eq ea6 eb6 v4 v5 v6 (by omega)
    have ec : mSC (M1 173) n (nI u) = nI (cp u) := by
      unfold mSC
      rw [hC, hC]
      exact (hcp u hu).2
    have hR2 : RR 5 n t (pe A1 19 u (A1 19 u + nI v)) (pe M1 173 (10 + u) (M1 173 (10 + u) + nI v) 173) := by
      rw [ep]
      exact RR_pause hR hu _
    have hC2 : ∀ w, mC (pe M1 173 (10 + u) (M1 173 (10 + u) + nI v) 173) w = mC (M 173) w := fun w => by rw [mC_lo (by omega)]; exact hC w
    have hlo2 : ∀ w, w < 3 → w < u + 1 → pe M1 173 (10 + u) (M1 173 (10 + u) + nI v) 173 (10 + w) = (-6) ∨ ∃ p, p ≤ tm' + v ∧ pe M1 173 (10 + u) (M1 173 (10 + u) + nI v) 173 (10 + w) = nI p := by
      intro w h1 h2
      by_cases e : w = u
      · rw [e, pe_eq, eq1]
        exact Or.inr ⟨p + v, by omega, rfl⟩
      · rw [m_row (by omega)]
        exact hlo w h1 (by omega)
    have e : xPassF (nI v) cp (A1, z) u = (pe A1 19 u (A1 19 u + nI v), z + (if mMean a b (cp u) (p + v) = 0 then 0 else 1)) := by
      rw [← em]
      exact if_neg hna
    rw [e]
    obtain ⟨mm, hmm, emm⟩ := mMean_nat a b (cp u) (p + v) (hcp u hu).1
    refine ⟨pe M1 173 (10 + u) (M1 173 (10 + u) + nI v), ⟨hR2, FrA_pe fA (by decide), FrM_pe fM, ?_, hC2, (m_row (by omega)).trans s0, (m_row (by omega)).trans s1, (m_row (by omega)).trans s3, (m_row (by omega)).trans s4, hlo2, fun w h1 h2 => (m_row (by omega)).trans (hhi w (by omega) h2)⟩, ?_⟩
    · by_cases h0 : mMean a b (cp u) (p + v) = 0
      · refine ⟨y, by omega, ?_⟩
        simp only [if_pos h0]
        rw [Int32.add_zero]
        exact ez
      · refine ⟨y + 1, by omega, ?_⟩
        simp only [if_neg h0]
        rw [ez]
        exact nI_1 y
    · intro N1 eN
      refine ⟨pe N1 173 (10 + u) (N1 173 (10 + u) + nI v), pe_cg eN (by rw [eN]), FrM_pe FrM_rf, ?_⟩
      intro L g d out K
      rw [← eN] at m5 ea eb ec hnM eq1
      by_cases h0 : mMean a b (cp u) (p + v) = 0
      · simp only [if_pos h0, Int32.add_zero] at K
        exact lp_ps_0 d n m5 h10 a b (cp u) (p + v) ea eb v4 v5 v6 (by omega) (hcp u hu).1 u hu (nI v) z ec hnM eq1 h0 out K
      · simp only [if_neg h0] at K
        have m1 : 1 ≤ mm := by
          by_cases w : mm = 0
          · rw [w] at emm
            exact absurd emm h0
          · omega
        exact lp_ps_n d n m5 h10 a b (cp u) (p + v) ea eb v4 v5 v6 (by omega) (hcp u hu).1 u hu (nI v) z ec hnM eq1 mm m1 hmm emm out K
theorem sec_n {x : Int32} (h : 1 ≤ x ∧ x ≤ 99) : ∃ u, u ≤ 99 ∧ x = nI u := by
  have h0 : ¬ x < 0 := by
    have := h.1
    rw [i_le, show (1 : Int32).toInt = 1 from by decide] at this
    rw [i_lt, i_0]
    omega
  exact nI_of2 (x := x) (M := 99) (n := 99) (by decide) h0 h.2
theorem ag_pass {A M : Nat → Nat → Int32} {n t B : Nat} (h3 : A 3 = mMB) (hR : RR 5 n t A (M 173)) (hV : VV n B (M 173)) (x : Int32) : AG B A M yX4_letPass MX4_letPass [.ref 5, .int x] yX7_refusesSeconds MX7_refusesSeconds [.ref 172, .int x] yX7_passes MX7_passes [.ref 172, .int x] := by
  obtain ⟨m5, a7, h10⟩ := RR_n hR
  have e4 : M 173 4 = A 5 0 := hR.2.1
  by_cases hx : 1 ≤ x ∧ x ≤ 99
  · by_cases ho : M 173 4 + x ≤ 9999
    · right
      obtain ⟨v, hv, rfl⟩ := sec_n hx
      have hV2 := hV
      obtain ⟨a, b, tm, v1, v2, v3, v4, v5, v6, v7, v8, v9, ⟨q, v10⟩, v11, ⟨sh, v12, v12'⟩, f, v13⟩ := hV2
      have htv : tm + v ≤ 9999 := by
        rw [v7, nI_add] at ho
        exact (nI_leI (b := 9999) (by omega) (by decide)).mp ho
      obtain ⟨c0, q0, w0, w0', -⟩ := comp_rel hR hV (nI 0)
      obtain ⟨c1, q1, w1, w1', -⟩ := comp_rel hR hV (nI 1)
      obtain ⟨c2, q2, w2, w2', -⟩ := comp_rel hR hV (nI 2)
      have hcpA : ∀ w, w < 3 → (fun w => if w = 0 then c0 else if w = 1 then c1 else c2) w ≤ 4 ∧ sComp (A 8) (A 9) (nI w) (-6) n = nI ((fun w => if w = 0 then c0 else if w = 1 then c1 else c2) w) := by
        intro w hw
        rcases (by omega : w = 0 ∨ w = 1 ∨ w = 2) with rfl | rfl | rfl
        · exact ⟨q0, w0⟩
        · exact ⟨q1, w1⟩
        · exact ⟨q2, w2⟩
      have hcpM : ∀ w, w < 3 → (fun w => if w = 0 then c0 else if w = 1 then c1 else c2) w ≤ 4 ∧ mSC (M 173) n (nI w) = nI ((fun w => if w = 0 then c0 else if w = 1 then c1 else c2) w) := by
        intro w hw
        rcases (by omega : w = 0 ∨ w = 1 ∨ w = 2) with rfl | rfl | rfl
        · exact ⟨q0, w0'⟩
        · exact ⟨q1, w1'⟩
        · exact ⟨q2, w2'⟩
      generalize (fun w => if w = 0 then c0 else if w = 1 then c1 else c2) = cp at hcpA hcpM
      have hp0 : psI A M n t tm v 0 cp (pe A 5 0 (A 5 0 + nI v)) (pe M 173 4 (M 173 4 + nI v)) 0 := by
        refine ⟨?_, FrA_pe FrA_rf (by decide), FrM_pe FrM_rf, ⟨0, Nat.le_refl 0, rfl⟩, fun w => mC_lo (by decide) w, m_row (by decide), m_row (by decide), m_row (by decide), ?_, fun w h1 h2 => by omega, fun w h1 h2 => m_row (by omega)⟩
        · rw [e4]
          exact RR_time hR _
        · rw [pe_eq, v7, nI_add]
      obtain ⟨M1, hp1, K1⟩ := pass_step hR hV v7 v8 hv hcpM (by decide : 0 < 3) hp0
      obtain ⟨M2, hp2, K2⟩ := pass_step hR hV v7 v8 hv hcpM (by decide : 1 < 3) hp1
      obtain ⟨M3, hp3, K3⟩ := pass_step hR hV v7 v8 hv hcpM (by decide : 2 < 3) hp2
      have ex : xPass A (nI v) cp 3 = xPassF (nI v) cp (xPassF (nI v) cp (xPassF (nI v) cp (pe A 5 0 (A 5 0 + nI v), 0) 0) 1) 2 := rfl
      refine ⟨(xPass A (nI v) cp 3).2, (xPass A (nI v) cp 3).1, M3 173, n, t, ?_, fun L g d => c_pas_ok d n a7 h10 h3 (nI v) cp hcpA hx (by rw [← e4]; exact ho), fun N eN L g d => c_rS_ok d (nI v) hx (by rw [eN]; exact ho), ?_, ?_, ?_, ?_⟩
      · obtain ⟨y, hy, ey⟩ := hp3.2.2.2.1
        rw [ex]
        rw [show (xPassF (nI v) cp (xPassF (nI v) cp (xPassF (nI v) cp (pe A 5 0 (A 5 0 + nI v), 0) 0) 1) 2).2 = nI y from ey]
        exact err_n (by omega)
      · intro N eN
        obtain ⟨N1, a1, b1, c1⟩ := K1 (pe N 173 4 (N 173 4 + nI v)) (pe_cg eN (by rw [eN]))
        obtain ⟨N2, a2, b2, c2⟩ := K2 N1 a1
        obtain ⟨N3, a3, b3, c3⟩ := K3 N2 a2
        refine ⟨N3, a3, fun c hc => (b3 c hc).trans ((b2 c hc).trans ((b1 c hc).trans (pe_row hc))), ?_⟩
        intro L g d
        exact c_passes d (nI v) _ _ (c1 L g d _ (c2 L g d _ (c3 L g d _ (lp_ps_e d (nI v) _))))
      · exact hp3.1
      · obtain ⟨hR3, -, -, -, hC, s0, s1, s3, s4, hlo, -⟩ := hp3
        refine ⟨a, b, tm + v, s0.trans v1, s1.trans v2, v3, v4, v5, v6, s4, htv, ?_, ⟨q, ?_⟩, fun u hu => hlo u hu hu, ⟨sh, v12, s3.trans v12'⟩, f, fun k hk => by rw [hC]; exact ⟨(v13 k hk).1, by have := (v13 k hk).2; omega⟩⟩
        · intro k hk
          rw [hC]
          exact v9 k hk
        · intro k hk
          rw [hC]
          exact v10 k hk
      · exact hp3.2.1
    · left
      exact ⟨-5, by decide, fun L g d => c_pas_over (d + 3) x hx (by rw [← e4]; exact ho), fun N eN L g d => c_rS_over d x hx (by rw [eN]; exact ho)⟩
  · left
    exact ⟨-2, by decide, fun L g d => c_pas_bad (d + 3) x hx, fun N eN L g d => c_rS_bad d x hx⟩
