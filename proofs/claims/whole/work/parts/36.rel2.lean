theorem RR_pause {A M : Nat → Nat → Int32} {n t : Nat} (hR : RR 5 n t A (M 173)) {u : Nat} (hu : u < 3) (y : Int32) : RR 5 n t (pe A 19 u y) (pe M 173 (10 + u) y 173) := by
  obtain ⟨r1, r2, ⟨r3, r3', h10⟩, r4, ⟨r5, r5', t10⟩, r6, r7, r8, r9, r10⟩ := hR
  refine ⟨?_, ?_, ⟨?_, ?_, h10⟩, ?_, ⟨?_, ?_, t10⟩, ?_, ?_, ?_, ?_, ?_⟩
  · intro j hj
    repeat (rw [pe_ne (by omega)])
    exact r1 j hj
  · skip
    repeat (rw [pe_ne (by omega)])
    exact r2
  · repeat (rw [pe_ne (by omega)])
    exact r3
  · repeat (rw [pe_ne (by omega)])
    exact r3'
  · intro h hh
    repeat (rw [pe_ne (by omega)])
    exact r4 h hh
  · repeat (rw [pe_ne (by omega)])
    exact r5
  · repeat (rw [pe_ne (by omega)])
    exact r5'
  · intro z hz
    by_cases e : z = u
    · subst e
      rw [pe_eq]
      exact (pe_eq _ _ _ _).symm
    · repeat (rw [pe_ne (by omega)])
      exact r6 z hz
  · intro z hz
    repeat (rw [pe_ne (by omega)])
    exact r7 z hz
  · intro m h1 h2
    repeat (rw [pe_ne (by omega)])
    exact r8 m h1 h2
  · intro r w1 hr hw1
    repeat (rw [pe_ne (by omega)])
    exact r9 r w1 hr hw1
  · intro z w1 hz hw1
    repeat (rw [pe_ne (by omega)])
    exact r10 z w1 hz hw1
theorem RR_ended {A M : Nat → Nat → Int32} {n t : Nat} (hR : RR 5 n t A (M 173)) {u : Nat} (hu : u < 3) (y : Int32) : RR 5 n t (pe A 20 u y) (pe M 173 (13 + u) y 173) := by
  obtain ⟨r1, r2, ⟨r3, r3', h10⟩, r4, ⟨r5, r5', t10⟩, r6, r7, r8, r9, r10⟩ := hR
  refine ⟨?_, ?_, ⟨?_, ?_, h10⟩, ?_, ⟨?_, ?_, t10⟩, ?_, ?_, ?_, ?_, ?_⟩
  · intro j hj
    repeat (rw [pe_ne (by omega)])
    exact r1 j hj
  · skip
    repeat (rw [pe_ne (by omega)])
    exact r2
  · repeat (rw [pe_ne (by omega)])
    exact r3
  · repeat (rw [pe_ne (by omega)])
    exact r3'
  · intro h hh
    repeat (rw [pe_ne (by omega)])
    exact r4 h hh
  · repeat (rw [pe_ne (by omega)])
    exact r5
  · repeat (rw [pe_ne (by omega)])
    exact r5'
  · intro z hz
    repeat (rw [pe_ne (by omega)])
    exact r6 z hz
  · intro z hz
    by_cases e : z = u
    · subst e
      rw [pe_eq]
      exact (pe_eq _ _ _ _).symm
    · repeat (rw [pe_ne (by omega)])
      exact r7 z hz
  · intro m h1 h2
    repeat (rw [pe_ne (by omega)])
    exact r8 m h1 h2
  · intro r w1 hr hw1
    repeat (rw [pe_ne (by omega)])
    exact r9 r w1 hr hw1
  · intro z w1 hz hw1
    repeat (rw [pe_ne (by omega)])
    exact r10 z w1 hz hw1
theorem RR_endings {A M : Nat → Nat → Int32} {n t : Nat} (hR : RR 5 n t A (M 173)) {u : Nat} (hu : u < 3) (y : Int32) : RR 5 n t (pe A 17 u y) (pe M 173 (6 + u) y 173) := by
  obtain ⟨r1, r2, ⟨r3, r3', h10⟩, r4, ⟨r5, r5', t10⟩, r6, r7, r8, r9, r10⟩ := hR
  refine ⟨?_, ?_, ⟨?_, ?_, h10⟩, ?_, ⟨?_, ?_, t10⟩, ?_, ?_, ?_, ?_, ?_⟩
  · intro j hj
    repeat (rw [pe_ne (by omega)])
    exact r1 j hj
  · skip
    repeat (rw [pe_ne (by omega)])
    exact r2
  · repeat (rw [pe_ne (by omega)])
    exact r3
  · repeat (rw [pe_ne (by omega)])
    exact r3'
  · intro h hh
    by_cases e : h = u
    · subst e
      rw [pe_eq]
      exact (pe_eq _ _ _ _).symm
    · repeat (rw [pe_ne (by omega)])
      exact r4 h hh
  · repeat (rw [pe_ne (by omega)])
    exact r5
  · repeat (rw [pe_ne (by omega)])
    exact r5'
  · intro z hz
    repeat (rw [pe_ne (by omega)])
    exact r6 z hz
  · intro z hz
    repeat (rw [pe_ne (by omega)])
    exact r7 z hz
  · intro m h1 h2
    repeat (rw [pe_ne (by omega)])
    exact r8 m h1 h2
  · intro r w1 hr hw1
    repeat (rw [pe_ne (by omega)])
    exact r9 r w1 hr hw1
  · intro z w1 hz hw1
    repeat (rw [pe_ne (by omega)])
    exact r10 z w1 hz hw1
theorem RR_set {A M : Nat → Nat → Int32} {n t : Nat} (hR : RR 5 n t A (M 173)) {u : Nat} (hu : u < 4) (y : Int32) : RR 5 n t (pe A 6 u y) (pe M 173 u y 173) := by
  obtain ⟨r1, r2, ⟨r3, r3', h10⟩, r4, ⟨r5, r5', t10⟩, r6, r7, r8, r9, r10⟩ := hR
  refine ⟨?_, ?_, ⟨?_, ?_, h10⟩, ?_, ⟨?_, ?_, t10⟩, ?_, ?_, ?_, ?_, ?_⟩
  · intro j hj
    by_cases e : j = u
    · subst e
      rw [pe_eq]
      exact (pe_eq _ _ _ _).symm
    · repeat (rw [pe_ne (by omega)])
      exact r1 j hj
  · skip
    repeat (rw [pe_ne (by omega)])
    exact r2
  · repeat (rw [pe_ne (by omega)])
    exact r3
  · repeat (rw [pe_ne (by omega)])
    exact r3'
  · intro h hh
    repeat (rw [pe_ne (by omega)])
    exact r4 h hh
  · repeat (rw [pe_ne (by omega)])
    exact r5
  · repeat (rw [pe_ne (by omega)])
    exact r5'
  · intro z hz
    repeat (rw [pe_ne (by omega)])
    exact r6 z hz
  · intro z hz
    repeat (rw [pe_ne (by omega)])
    exact r7 z hz
  · intro m h1 h2
    repeat (rw [pe_ne (by omega)])
    exact r8 m h1 h2
  · intro r w1 hr hw1
    repeat (rw [pe_ne (by omega)])
    exact r9 r w1 hr hw1
  · intro z w1 hz hw1
    repeat (rw [pe_ne (by omega)])
    exact r10 z w1 hz hw1
theorem RR_time {A M : Nat → Nat → Int32} {n t : Nat} (hR : RR 5 n t A (M 173))  (y : Int32) : RR 5 n t (pe A 5 0 y) (pe M 173 4 y 173) := by
  obtain ⟨r1, r2, ⟨r3, r3', h10⟩, r4, ⟨r5, r5', t10⟩, r6, r7, r8, r9, r10⟩ := hR
  refine ⟨?_, ?_, ⟨?_, ?_, h10⟩, ?_, ⟨?_, ?_, t10⟩, ?_, ?_, ?_, ?_, ?_⟩
  · intro j hj
    repeat (rw [pe_ne (by omega)])
    exact r1 j hj
  · skip
    exact (pe_eq _ _ _ _).trans (pe_eq _ _ _ _).symm
  · repeat (rw [pe_ne (by omega)])
    exact r3
  · repeat (rw [pe_ne (by omega)])
    exact r3'
  · intro h hh
    repeat (rw [pe_ne (by omega)])
    exact r4 h hh
  · repeat (rw [pe_ne (by omega)])
    exact r5
  · repeat (rw [pe_ne (by omega)])
    exact r5'
  · intro z hz
    repeat (rw [pe_ne (by omega)])
    exact r6 z hz
  · intro z hz
    repeat (rw [pe_ne (by omega)])
    exact r7 z hz
  · intro m h1 h2
    repeat (rw [pe_ne (by omega)])
    exact r8 m h1 h2
  · intro r w1 hr hw1
    repeat (rw [pe_ne (by omega)])
    exact r9 r w1 hr hw1
  · intro z w1 hz hw1
    repeat (rw [pe_ne (by omega)])
    exact r10 z w1 hz hw1
theorem RR_col {A M : Nat → Nat → Int32} {n t : Nat} (hR : RR 5 n t A (M 173)) {w k : Nat} (hw : w < 6) (hk : k < 10) (y : Int32) : RR 5 n t (pe A (8 + w) k y) (pe M 173 (88 + 6 * k + w) y 173) := by
  obtain ⟨r1, r2, ⟨r3, r3', h10⟩, r4, ⟨r5, r5', t10⟩, r6, r7, r8, r9, r10⟩ := hR
  refine ⟨?_, ?_, ⟨?_, ?_, h10⟩, ?_, ⟨?_, ?_, t10⟩, ?_, ?_, ?_, ?_, ?_⟩
  · intro j hj
    repeat (rw [pe_ne (by omega)])
    exact r1 j hj
  · skip
    repeat (rw [pe_ne (by omega)])
    exact r2
  · repeat (rw [pe_ne (by omega)])
    exact r3
  · repeat (rw [pe_ne (by omega)])
    exact r3'
  · intro h hh
    repeat (rw [pe_ne (by omega)])
    exact r4 h hh
  · repeat (rw [pe_ne (by omega)])
    exact r5
  · repeat (rw [pe_ne (by omega)])
    exact r5'
  · intro z hz
    repeat (rw [pe_ne (by omega)])
    exact r6 z hz
  · intro z hz
    repeat (rw [pe_ne (by omega)])
    exact r7 z hz
  · intro m h1 h2
    repeat (rw [pe_ne (by omega)])
    exact r8 m h1 h2
  · intro r w1 hr hw1
    repeat (rw [pe_ne (by omega)])
    exact r9 r w1 hr hw1
  · intro z w1 hz hw1
    by_cases e : z = k ∧ w1 = w
    · obtain ⟨rfl, rfl⟩ := e
      rw [pe_eq]
      exact (pe_eq _ _ _ _).symm
    · repeat (rw [pe_ne (by omega)])
      exact r10 z w1 hz hw1
theorem VV_of {n B : Nat} {S S1 : Nat → Int32} (hV : VV n B S) (h0 : S1 0 = S 0) (h1 : S1 1 = S 1) (h3 : S1 3 = S 3) (h4 : S1 4 = S 4) (hs : ∀ k, k < n → mC S1 0 k = mC S 0 k ∨ mC S1 0 k = (-6) ∨ ∃ u, u < 3 ∧ mC S1 0 k = nI u) (hr : ∀ k, k < n → mC S1 1 k = mC S 1 k) (hp : ∀ u, u < 3 → S1 (10 + u) = S (10 + u) ∨ S1 (10 + u) = (-6) ∨ S1 (10 + u) = 0) (hf : ∀ k, k < 10 → mC S1 2 k = mC S 2 k) : VV n B S1 := by
  obtain ⟨a, b, tm, v1, v2, v3, v4, v5, v6, v7, v8, v9, ⟨q, v10⟩, v11, ⟨sh, v12, v12'⟩, f, v13⟩ := hV
  refine ⟨a, b, tm, h0.trans v1, h1.trans v2, v3, v4, v5, v6, h4.trans v7, v8, ?_, ⟨q, ?_⟩, ?_, ⟨sh, v12, h3.trans v12'⟩, f, fun k hk => by rw [hf k hk]; exact v13 k hk⟩
  · intro k hk
    rcases hs k hk with h | h | h
    · rw [h]
      exact v9 k hk
    · exact Or.inl h
    · exact Or.inr h
  · intro k hk
    rw [hr k hk]
    exact v10 k hk
  · intro u hu
    rcases hp u hu with h | h | h
    · rw [h]
      exact v11 u hu
    · exact Or.inl h
    · exact Or.inr ⟨0, by omega, h⟩
theorem FrA_pe {A A1 : Nat → Nat → Int32} {c k : Nat} {v : Int32} (h : FrA A A1) (hc : 5 ≤ c ∧ c < 21 ∧ c ≠ 6) : FrA A (pe A1 c k v) := fun j hj => by
  rw [pe_row (by omega)]
  exact h j hj
theorem FrM_pe {M M1 : Nat → Nat → Int32} {k : Nat} {v : Int32} (h : FrM M M1) : FrM M (pe M1 173 k v) := fun j hj => by
  rw [pe_row hj]
  exact h j hj
theorem FrA_rf {A : Nat → Nat → Int32} : FrA A A := fun _ _ => rfl
theorem FrM_rf {M : Nat → Nat → Int32} : FrM M M := fun _ _ => rfl
theorem RR_n {n t : Nat} {A : Nat → Nat → Int32} {S : Nat → Int32} (h : RR 5 n t A S) : S 5 = nI n ∧ A 7 0 = nI n ∧ n ≤ 10 := h.2.2.1
theorem RR_c {n t k w : Nat} {A : Nat → Nat → Int32} {S : Nat → Int32} (h : RR 5 n t A S) (hk : k < 10) (hw : w < 6) : mC S w k = A (8 + w) k := by
  have := h.2.2.2.2.2.2.2.2.2 k w hk hw
  rwa [show 5 + 3 + w = 8 + w by omega] at this
theorem RR_p {n t u : Nat} {A : Nat → Nat → Int32} {S : Nat → Int32} (h : RR 5 n t A S) (hu : u < 3) : S (10 + u) = A 19 u := h.2.2.2.2.2.1 u hu
theorem RR_s {n t j : Nat} {A : Nat → Nat → Int32} {S : Nat → Int32} (h : RR 5 n t A S) (hj : j < 4) : S j = A 6 j := h.1 j hj
theorem kn_i {x : Int32} {n : Nat} (h : 0 ≤ x ∧ x < nI n) (hn : n ≤ 10) : ∃ k, k < n ∧ x = nI k := by
  obtain ⟨j, hj, e⟩ := nI_of (x := x) (Int32.not_lt.mpr h.1)
  refine ⟨j, ?_, e⟩
  have := h.2
  rw [e] at this
  exact (nI_ltI hj (by omega)).mp this
theorem seat_eq {n t : Nat} {A : Nat → Nat → Int32} {S : Nat → Int32} {x : Int32} (h : RR 5 n t A S) : sSet (A 8) x n = sSet (mC S 0) x n := sSet_congr (fun k hk => (RR_c (k := k) (w := 0) h (by have := (RR_n h).2.2; omega) (by decide)).symm)
theorem ag_leave {A M : Nat → Nat → Int32} {n t B : Nat} (hR : RR 5 n t A (M 173)) (hV : VV n B (M 173)) (x : Int32) : AG B A M yX4_seeOff MX4_seeOff [.ref 5, .int x] yX7_refusesLeaving MX7_refusesLeaving [.ref 172, .int x] yX7_goes MX7_goes [.ref 172, .int x, .int (-6)] := by
  obtain ⟨m5, a7, h10⟩ := RR_n hR
  by_cases hx : 0 ≤ x ∧ x < nI n
  · obtain ⟨k, hk, rfl⟩ := kn_i hx h10
    have e8 : mC (M 173) 0 k = A 8 k := RR_c hR (by omega) (by decide)
    have hv9 := hV
    obtain ⟨a, b, tm, v1, v2, v3, v4, v5, v6, v7, v8, v9, v10, v11, v12, v13⟩ := hv9
    rcases v9 k hk with hs | ⟨u, hu, hs⟩
    · left
      exact ⟨-5, by decide, fun L g d => c_off_gone (d + 2) n a7 h10 k hk (e8.symm.trans hs), fun N eN L g d => c_rL_gone d n (by rw [eN]; exact m5) h10 k hk (by rw [eN]; exact hs)⟩
    · right
      have hsA : A 8 k = nI u := e8.symm.trans hs
      have hR1 : RR 5 n t (pe A 8 k (-6)) (pe M 173 (88 + 6 * k + 0) (-6) 173) := RR_col hR (w := 0) (by decide) (by omega) (-6)
      have hset : sSet (va_up (A 8) k (-6)) (nI u) n = sSet (mC (pe M 173 (88 + 6 * k + 0) (-6) 173) 0) (nI u) n := by
        have := seat_eq (x := nI u) hR1
        rwa [pe_self] at this
      obtain ⟨p1, p2, c, hc, p3⟩ := pop_eq (P := mC (pe M 173 (88 + 6 * k + 0) (-6) 173) 0) (t := nI u) (n := n) h10
      have hrl : ∀ (N : Nat → Nat → Int32), N 173 = M 173 → ∀ (L : Nat) (g : Nat → Option Nat) (d : Nat), mCall (d + 3) yX7_refusesLeaving MX7_refusesLeaving [.ref 172, .int (nI k)] (mHX L N g) (some (.int 0)) (mHX L N g) := fun N eN L g d => c_rL_ok d n (by rw [eN]; exact m5) h10 k hk (by rw [eN, hs]; exact m_ne6 (by omega))
      have hV1 : VV n B (pe M 173 (88 + 6 * k + 0) (-6) 173) := VV_of hV (m_lay5 (by decide)) (m_lay5 (by decide)) (m_lay5 (by decide)) (m_lay5 (by decide)) (fun j hj => by
        rw [mC_hi (by decide)]
        by_cases e : j = k
        · rw [e, va_up_self]
          exact Or.inr (Or.inl rfl)
        · rw [va_up_ne _ _ e]
          exact Or.inl rfl) (fun j hj => by rw [mC_ne (by decide) (by decide) (by decide)]) (fun u hu => Or.inl (m_lay5 (by omega))) (fun j hj => by rw [mC_ne (by decide) (by decide) (by decide)])
      by_cases h0 : sOnes (sSet (mC (pe M 173 (88 + 6 * k + 0) (-6) 173) 0) (nI u) n) = 0
      · have hz := p2.mp h0
        refine ⟨0, pe (pe A 8 k (-6)) 19 u (-6), pe (pe M 173 (88 + 6 * k + 0) (-6)) 173 (10 + u) (-6) 173, n, t, by decide, ?_, hrl, fun N eN => ⟨pe (pe N 173 (88 + 6 * k + 0) (-6)) 173 (10 + u) (-6), pe_cg (pe_cg eN rfl) rfl, FrM_pe (FrM_pe FrM_rf), ?_⟩, RR_pause hR1 hu (-6), ?_, FrA_pe (FrA_pe FrA_rf (by decide)) (by decide)⟩
        · intro L g d
          have h := c_off_0 (L := L) (g := g) (F := A) (d + 1) n a7 h10 k hk u hu hsA (hset.trans hz)
          rw [hset, p1, h0] at h
          exact h
        · intro L g d
          have eP : pe N 173 (88 + 6 * k + 0) (-6) 173 = pe M 173 (88 + 6 * k + 0) (-6) 173 := pe_cg eN rfl
          have h := c_goes_0 (L := L) (g := g) (F := N) (d + 1) n (by rw [eN]; exact m5) h10 k hk u hu (-6) (by rw [eN]; exact hs) (by rw [eP]; exact h0)
          rw [eP, h0] at h
          exact h
        · exact VV_mono (VV_of hV1 (m_row (by omega)) (m_row (by omega)) (m_row (by omega)) (m_row (by omega)) (fun j hj => Or.inl (by rw [mC_lo (by omega)])) (fun j hj => by rw [mC_lo (by omega)]) (fun z hz2 => by
            by_cases e : z = u
            · rw [e, pe_eq]
              exact Or.inr (Or.inl rfl)
            · exact Or.inl (m_row (by omega))) (fun j hj => by rw [mC_lo (by omega)])) (Nat.le_add_right _ _)
      · refine ⟨nI c, pe A 8 k (-6), pe M 173 (88 + 6 * k + 0) (-6) 173, n, t, err_n (by omega), ?_, hrl, fun N eN => ⟨pe N 173 (88 + 6 * k + 0) (-6), pe_cg eN rfl, FrM_pe FrM_rf, ?_⟩, hR1, VV_mono hV1 (Nat.le_add_right _ _), FrA_pe FrA_rf (by decide)⟩
        · intro L g d
          have h := c_off_n (L := L) (g := g) (F := A) (d + 1) n a7 h10 k hk u hu hsA (by rw [hset]; exact fun z => h0 (p2.mpr z))
          rw [hset, p1, p3] at h
          exact h
        · intro L g d
          have eP : pe N 173 (88 + 6 * k + 0) (-6) 173 = pe M 173 (88 + 6 * k + 0) (-6) 173 := pe_cg eN rfl
          have h := c_goes_n (L := L) (g := g) (F := N) (d + 1) n (by rw [eN]; exact m5) h10 k hk u hu (-6) (by rw [eN]; exact hs) (by rw [eP]; exact h0)
          rw [eP, p3] at h
          exact h
  · left
    exact ⟨-1, by decide, fun L g d => c_off_no (d + 2) x (by rw [a7]; exact hx), fun N eN L g d => c_rL_no d n (by rw [eN]; exact m5) h10 x hx⟩
