theorem set_n {j : Nat} (hj : j < 4) {v : Int32} (h1 : 1 ≤ v) (h2 : v ≤ mHS j) : ∃ x, 1 ≤ x ∧ (x ≤ 20 ∧ (2 ≤ j → x ≤ 9)) ∧ v = nI x := by
  have h0 : ¬ v < 0 := by
    rw [i_le, show (1 : Int32).toInt = 1 from by decide] at h1
    rw [i_lt, i_0]
    omega
  have hx : ∀ N : Nat, N < 100 → mHS j = nI N → ∃ x, 1 ≤ x ∧ x ≤ N ∧ v = nI x := by
    intro N hN e
    rw [e] at h2
    obtain ⟨x, hx, ex⟩ := nI_of2 (x := v) (M := nI N) (n := N) (nI_toInt (by omega)) h0 h2
    refine ⟨x, ?_, hx, ex⟩
    rw [ex] at h1
    exact (nI_leI (a := 1) (by decide) (by omega)).mp h1
  rcases (by omega : j = 0 ∨ j = 1 ∨ j = 2 ∨ j = 3) with rfl | rfl | rfl | rfl
  · obtain ⟨x, a, b, c⟩ := hx 20 (by decide) rfl
    exact ⟨x, a, ⟨b, fun q => by omega⟩, c⟩
  · obtain ⟨x, a, b, c⟩ := hx 20 (by decide) rfl
    exact ⟨x, a, ⟨b, fun q => by omega⟩, c⟩
  · obtain ⟨x, a, b, c⟩ := hx 9 (by decide) rfl
    exact ⟨x, a, ⟨by omega, fun q => b⟩, c⟩
  · obtain ⟨x, a, b, c⟩ := hx 9 (by decide) rfl
    exact ⟨x, a, ⟨by omega, fun q => b⟩, c⟩
theorem VV_set {M : Nat → Nat → Int32} {n B j : Nat} {v : Int32} (hV : VV n B (M 173)) (hj : j < 4) (h1 : 1 ≤ v) (h2 : v ≤ mHS j) : VV n B (pe M 173 j v 173) := by
  obtain ⟨x, x1, ⟨x20, x9⟩, ex⟩ := set_n hj h1 h2
  obtain ⟨a, b, tm, v1, v2, v3, v4, v5, v6, v7, v8, v9, ⟨q, v10⟩, v11, ⟨sh, v12, v12'⟩, f, v13⟩ := hV
  have hC : ∀ w, mC (pe M 173 j v 173) w = mC (M 173) w := fun w => mC_lo (by omega) w
  refine ⟨if j = 0 then x else a, if j = 1 then x else b, tm, ?_, ?_, ?_, ?_, ?_, ?_, (m_row (by omega)).trans v7, v8, ?_, ⟨q, ?_⟩, ?_, ⟨if j = 3 then x else sh, ?_, ?_⟩, f, ?_⟩
  · by_cases e : j = 0
    · subst e
      exact (pe_eq _ _ _ _).trans ex
    · rw [m_row (fun z => e z.symm), if_neg e]
      exact v1
  · by_cases e : j = 1
    · subst e
      exact (pe_eq _ _ _ _).trans ex
    · rw [m_row (fun z => e z.symm), if_neg e]
      exact v2
  · split <;> omega
  · split <;> omega
  · split <;> omega
  · split <;> omega
  · intro k hk
    rw [hC]
    exact v9 k hk
  · intro k hk
    rw [hC]
    exact v10 k hk
  · intro z hz
    rw [m_row (by omega)]
    exact v11 z hz
  · by_cases e : j = 3
    · rw [if_pos e]
      exact x9 (by omega)
    · rw [if_neg e]
      exact v12
  · by_cases e : j = 3
    · subst e
      exact (pe_eq _ _ _ _).trans ex
    · rw [m_row (fun z => e z.symm), if_neg e]
      exact v12'
  · intro k hk
    rw [hC]
    exact v13 k hk
