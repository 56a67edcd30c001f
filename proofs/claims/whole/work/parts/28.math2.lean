/-! the host and the lender: the class's loops and the reference's -/
def nR (Q : Nat → Int32) (q : Nat → Nat) (n : Nat) : Prop := ∀ k, k < n → Q k = nI (q k) ∧ 1 ≤ q k ∧ q k ≤ 9
theorem nR_le {Q : Nat → Int32} {q : Nat → Nat} {n i j : Nat} (h : nR Q q n) (hi : i < n) (hj : j < n) : Q i ≤ Q j ↔ q i ≤ q j := by
  have h1 := h i hi
  have h2 := h j hj
  rw [h1.1, h2.1]
  exact nI_leI (by omega) (by omega)
theorem host_step {P Q : Nat → Int32} {q : Nat → Nat} {t : Int32} {n : Nat} (hq : nR Q q n) : ∀ k, k ≤ n → (mfold (sHostF P Q t) (-6, 0) k).1 = oI (mHost P Q t k) ∧ ((mHost P Q t k = none ∧ (mfold (sHostF P Q t) (-6, 0) k).2 = nI 0) ∨ ∃ h, mHost P Q t k = some h ∧ h < k ∧ P h = t ∧ (mfold (sHostF P Q t) (-6, 0) k).2 = Q h) := by
  intro k
  induction k with
  | zero => exact fun _ => ⟨rfl, Or.inl ⟨rfl, rfl⟩⟩
  | succ k ih =>
    intro hk
    obtain ⟨e1, e2⟩ := ih (by omega)
    have hm : mHost P Q t (k + 1) = mHostF P Q t (mHost P Q t k) k := rfl
    rw [mfold_succ, hm]
    generalize mfold (sHostF P Q t) (-6, 0) k = a at e1 e2
    obtain ⟨a1, a2⟩ := a
    simp only at e1 e2
    by_cases hp : P k = t
    · rcases e2 with ⟨h0, h2⟩ | ⟨h, h0, h1, h3, h2⟩
      · rw [h0] at e1 ⊢
        have hr := hq k (by omega)
        have hn : ¬ Q k ≤ a2 := by
          rw [h2, hr.1]
          exact nI_ge (by omega) (by omega)
        simp only [sHostF, mHostF, hp, if_true, hn, if_false]
        exact ⟨rfl, Or.inr ⟨k, rfl, Nat.lt_succ_self k, hp, rfl⟩⟩
      · rw [h0] at e1 ⊢
        by_cases hc : Q k ≤ Q h
        · have hc2 : Q k ≤ a2 := by rw [h2]; exact hc
          simp only [sHostF, mHostF, hp, if_true, hc, hc2]
          exact ⟨e1, Or.inr ⟨h, rfl, by omega, h3, h2⟩⟩
        · have hc2 : ¬ Q k ≤ a2 := by rw [h2]; exact hc
          simp only [sHostF, mHostF, hp, if_true, hc, hc2, if_false]
          exact ⟨rfl, Or.inr ⟨k, rfl, Nat.lt_succ_self k, hp, rfl⟩⟩
    · simp only [sHostF, mHostF, hp, if_false]
      refine ⟨e1, ?_⟩
      rcases e2 with ⟨h0, h2⟩ | ⟨h, h0, h1, h3, h2⟩
      · exact Or.inl ⟨h0, h2⟩
      · exact Or.inr ⟨h, h0, by omega, h3, h2⟩
theorem host_eq {P Q : Nat → Int32} {q : Nat → Nat} {t : Int32} {n : Nat} (hq : nR Q q n) : sHost P Q t n = oI (mHost P Q t n) := (host_step hq n (Nat.le_refl n)).1
theorem host_some {P Q : Nat → Int32} {q : Nat → Nat} {t : Int32} {n h : Nat} (hq : nR Q q n) (e : mHost P Q t n = some h) : h < n ∧ P h = t := by
  rcases (host_step (P := P) (t := t) hq n (Nat.le_refl n)).2 with ⟨h0, -⟩ | ⟨h', h0, h1, h2, -⟩
  · rw [e] at h0
    cases h0
  · rw [e] at h0
    cases h0
    exact ⟨h1, h2⟩
theorem host_is {P Q : Nat → Int32} {t : Int32} : ∀ {n k : Nat}, k < n → P k = t → ∃ h, mHost P Q t n = some h := by
  intro n
  induction n with
  | zero => intro k hk; omega
  | succ n ih =>
    intro k hk hp
    have hm : mHost P Q t (n + 1) = mHostF P Q t (mHost P Q t n) n := rfl
    rw [hm]
    by_cases hn : P n = t
    · simp only [mHostF, hn, if_true]
      cases mHost P Q t n with
      | none => exact ⟨n, rfl⟩
      | some h =>
        simp only
        split
        · exact ⟨h, rfl⟩
        · exact ⟨n, rfl⟩
    · simp only [mHostF, hn, if_false]
      exact ih (k := k) (by
        by_cases e : k = n
        · subst e; exact absurd hp hn
        · omega) hp
theorem lend_step {P Q R : Nat → Int32} {q : Nat → Nat} {n x : Nat} (hq : nR Q q n) : ∀ k, k ≤ n → (mfold (sLendF P Q R (nI x) (P x)) (-6, 10) k).1 = oI (mLend P Q R x k) ∧ ((mLend P Q R x k = none ∧ (mfold (sLendF P Q R (nI x) (P x)) (-6, 10) k).2 = nI 10) ∨ ∃ h, mLend P Q R x k = some h ∧ h < k ∧ (mfold (sLendF P Q R (nI x) (P x)) (-6, 10) k).2 = Q h) := by
  intro k
  induction k with
  | zero => exact fun _ => ⟨rfl, Or.inl ⟨rfl, rfl⟩⟩
  | succ k ih =>
    intro hk
    obtain ⟨e1, e2⟩ := ih (by omega)
    have hm : mLend P Q R x (k + 1) = mLendF P Q R x (mLend P Q R x k) k := rfl
    rw [mfold_succ, hm]
    generalize mfold (sLendF P Q R (nI x) (P x)) (-6, 10) k = a at e1 e2
    obtain ⟨a1, a2⟩ := a
    simp only at e1 e2
    have keep : a1 = oI (mLend P Q R x k) ∧ ((mLend P Q R x k = none ∧ a2 = nI 10) ∨ ∃ h, mLend P Q R x k = some h ∧ h < k + 1 ∧ a2 = Q h) := by
      refine ⟨e1, ?_⟩
      rcases e2 with ⟨h0, h2⟩ | ⟨h, h0, h1, h2⟩
      · exact Or.inl ⟨h0, h2⟩
      · exact Or.inr ⟨h, h0, by omega, h2⟩
    by_cases hx : nI k = nI x
    · simp only [sLendF, mLendF, hx, if_true]
      exact keep
    · by_cases hp : P k = P x
      · by_cases hr : R k ≤ 0
        · simp only [sLendF, mLendF, hx, hp, hr, if_true, if_false]
          exact keep
        · have hrk := hq k (by omega)
          rcases e2 with ⟨h0, h2⟩ | ⟨h, h0, h1, h2⟩
          · rw [h0] at e1 ⊢
            have hn : ¬ a2 ≤ Q k := by
              rw [h2, hrk.1]
              exact nI_ge (by omega) (by omega)
            simp only [sLendF, mLendF, hx, hp, hr, hn, if_true, if_false]
            exact ⟨rfl, Or.inr ⟨k, rfl, Nat.lt_succ_self k, rfl⟩⟩
          · rw [h0] at e1 ⊢
            by_cases hc : Q h ≤ Q k
            · have hc2 : a2 ≤ Q k := by rw [h2]; exact hc
              simp only [sLendF, mLendF, hx, hp, hr, hc, hc2, if_true, if_false]
              exact ⟨e1, Or.inr ⟨h, rfl, by omega, h2⟩⟩
            · have hc2 : ¬ a2 ≤ Q k := by rw [h2]; exact hc
              simp only [sLendF, mLendF, hx, hp, hr, hc, hc2, if_true, if_false]
              exact ⟨rfl, Or.inr ⟨k, rfl, Nat.lt_succ_self k, rfl⟩⟩
      · simp only [sLendF, mLendF, hx, hp, if_false]
        exact keep
theorem lend_eq {P Q R : Nat → Int32} {q : Nat → Nat} {n x : Nat} (hq : nR Q q n) : sLend P Q R (nI x) (P x) n = oI (mLend P Q R x n) := (lend_step hq n (Nat.le_refl n)).1
theorem lend_some {P Q R : Nat → Int32} {q : Nat → Nat} {n x h : Nat} (hq : nR Q q n) (e : mLend P Q R x n = some h) : h < n := by
  rcases (lend_step (P := P) (R := R) (x := x) hq n (Nat.le_refl n)).2 with ⟨h0, -⟩ | ⟨h', h0, h1, -⟩
  · rw [e] at h0
    cases h0
  · rw [e] at h0
    cases h0
    exact h1
/-! what a pause means -/
theorem mean_eq {S : Nat → Int32} {a b c q : Nat} (e0 : S 0 = nI a) (e1 : S 1 = nI b) (ha : a ≤ 20) (hb : 1 ≤ b) (hb2 : b ≤ 20) (hq : q ≤ 20000) : sMean S c (nI q) = mMean a b c q := by
  have hB : ∀ j, j ≤ 3 → sBeg S (nI j) = nI (a + j * b) := by
    intro j hj
    unfold sBeg
    rw [e0, e1, pk_mul, nI_add]
  have hB1 : sBeg S 1 = nI (a + 1 * b) := hB 1 (by decide)
  have hB2 : sBeg S 2 = nI (a + 2 * b) := hB 2 (by decide)
  have hB3 : sBeg S 3 = nI (a + 3 * b) := hB 3 (by decide)
  unfold sMean mMean
  rw [e0]
  by_cases h : q < a
  · rw [if_neg (nI_ge h (by omega)), if_pos h]
  · rw [if_pos (nI_le (by omega) (by omega)), if_neg h]
    have e : sShade S (nI q) = mSh a b q := by
      unfold sShade mSh
      rw [hB1, hB2, hB3]
      simp only [nI_ltI (show q < 2 ^ 31 by omega) (show a + 1 * b < 2 ^ 31 by omega), nI_ltI (show q < 2 ^ 31 by omega) (show a + 2 * b < 2 ^ 31 by omega), nI_ltI (show q < 2 ^ 31 by omega) (show a + 3 * b < 2 ^ 31 by omega)]
      have d3 : (q - a) / b < 3 ↔ q - a < 3 * b := Nat.div_lt_iff_lt_mul (by omega)
      by_cases h3 : q < a + 3 * b
      · rw [if_pos h3, if_pos (d3.mpr (by omega))]
        by_cases h2 : q < a + 2 * b
        · rw [if_pos h2]
          by_cases h1 : q < a + 1 * b
          · rw [if_pos h1]
            exact (Nat.div_eq_of_lt (by omega)).symm
          · rw [if_neg h1]
            exact (Nat.div_eq_of_lt_le (by omega) (by omega)).symm
        · rw [if_neg h2]
          exact (Nat.div_eq_of_lt_le (by omega) (by omega)).symm
      · rw [if_neg h3, if_neg (fun z => h3 (by have := d3.mp z; omega))]
    rw [e]
theorem mSh_le (a b q : Nat) : mSh a b q ≤ 3 := by
  unfold mSh
  split <;> omega
theorem mMB_fin : ∀ i, i < 20 → ∃ v, v ≤ 11 ∧ mMB i = nI v := by
  intro i hi
  have h : ∀ i, i < 20 → (mMB i).toNatClampNeg ≤ 11 ∧ mMB i = nI (mMB i).toNatClampNeg := by decide +kernel
  exact ⟨_, (h i hi).1, (h i hi).2⟩
theorem mMean_nat (a b c q : Nat) (hc : c ≤ 4) : ∃ v, v ≤ 11 ∧ mMean a b c q = nI v := by
  unfold mMean
  split
  · exact ⟨0, by decide, rfl⟩
  · exact mMB_fin _ (by have := mSh_le a b q; omega)
