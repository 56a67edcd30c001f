/-! when a meaning turns: shades' beginnings and seconds -/
theorem mSh_ch {a b q : Nat} (h : a ≤ q) (hb : 1 ≤ b) : mSh a b q = if q < a + 1 * b then 0 else if q < a + 2 * b then 1 else if q < a + 3 * b then 2 else 3 := by
  unfold mSh
  have d3 : (q - a) / b < 3 ↔ q - a < 3 * b := Nat.div_lt_iff_lt_mul (by omega)
  by_cases h1 : q < a + 1 * b
  · rw [if_pos h1, if_pos (d3.mpr (by omega))]
    exact Nat.div_eq_of_lt (by omega)
  · rw [if_neg h1]
    by_cases h2 : q < a + 2 * b
    · rw [if_pos h2, if_pos (d3.mpr (by omega))]
      exact Nat.div_eq_of_lt_le (by omega) (by omega)
    · rw [if_neg h2]
      by_cases h3 : q < a + 3 * b
      · rw [if_pos h3, if_pos (d3.mpr (by omega))]
        exact Nat.div_eq_of_lt_le (by omega) (by omega)
      · rw [if_neg h3, if_neg (fun z => h3 (by have := d3.mp z; omega))]
def tV (c : Nat) : Nat → Int32
  | 0 => 0
  | s + 1 => mMB (c * 4 + s)
def tL (a b x : Nat) : Nat := if x < a then 0 else if x < a + 1 * b then 1 else if x < a + 2 * b then 2 else if x < a + 3 * b then 3 else 4
theorem mMean_t {a b c x : Nat} (hb : 1 ≤ b) : mMean a b c x = tV c (tL a b x) := by
  unfold mMean tL
  by_cases h : x < a
  · rw [if_pos h, if_pos h]
    rfl
  · rw [if_neg h, if_neg h, mSh_ch (by omega) hb]
    by_cases h1 : x < a + 1 * b
    · rw [if_pos h1, if_pos h1]
      rfl
    · rw [if_neg h1, if_neg h1]
      by_cases h2 : x < a + 2 * b
      · rw [if_pos h2, if_pos h2]
        rfl
      · rw [if_neg h2, if_neg h2]
        by_cases h3 : x < a + 3 * b
        · rw [if_pos h3, if_pos h3]
          rfl
        · rw [if_neg h3, if_neg h3]
          rfl
/-- between two seconds the level stays, or a beginning lies between them that has the later one's level -/
theorem tL_far {a b q x : Nat} (hb : 1 ≤ b) (h : q ≤ x) : tL a b x = tL a b q ∨ ∃ i, i ≤ 3 ∧ q < a + i * b ∧ a + i * b ≤ x ∧ tL a b (a + i * b) = tL a b x := by
  have e0 : a + 0 * b = a := by omega
  have l0 : tL a b (a + 0 * b) = 1 := by
    unfold tL
    rw [if_neg (by omega), if_pos (by omega)]
  have l1 : tL a b (a + 1 * b) = 2 := by
    unfold tL
    rw [if_neg (by omega), if_neg (by omega), if_pos (by omega)]
  have l2 : tL a b (a + 2 * b) = 3 := by
    unfold tL
    rw [if_neg (by omega), if_neg (by omega), if_neg (by omega), if_pos (by omega)]
  have l3 : tL a b (a + 3 * b) = 4 := by
    unfold tL
    rw [if_neg (by omega), if_neg (by omega), if_neg (by omega), if_neg (by omega)]
  by_cases h0 : x < a
  · left
    unfold tL
    rw [if_pos h0, if_pos (by omega)]
  · by_cases h1 : x < a + 1 * b
    · have ex : tL a b x = 1 := by
        unfold tL
        rw [if_neg h0, if_pos h1]
      by_cases g : a + 0 * b ≤ q
      · left
        rw [ex]
        unfold tL
        rw [if_neg (by omega), if_pos (by omega)]
      · exact Or.inr ⟨0, by omega, by omega, by omega, by rw [l0, ex]⟩
    · by_cases h2 : x < a + 2 * b
      · have ex : tL a b x = 2 := by
          unfold tL
          rw [if_neg h0, if_neg h1, if_pos h2]
        by_cases g : a + 1 * b ≤ q
        · left
          rw [ex]
          unfold tL
          rw [if_neg (by omega), if_neg (by omega), if_pos (by omega)]
        · exact Or.inr ⟨1, by omega, by omega, by omega, by rw [l1, ex]⟩
      · by_cases h3 : x < a + 3 * b
        · have ex : tL a b x = 3 := by
            unfold tL
            rw [if_neg h0, if_neg h1, if_neg h2, if_pos h3]
          by_cases g : a + 2 * b ≤ q
          · left
            rw [ex]
            unfold tL
            rw [if_neg (by omega), if_neg (by omega), if_neg (by omega), if_pos (by omega)]
          · exact Or.inr ⟨2, by omega, by omega, by omega, by rw [l2, ex]⟩
        · have ex : tL a b x = 4 := by
            unfold tL
            rw [if_neg h0, if_neg h1, if_neg h2, if_neg h3]
          by_cases g : a + 3 * b ≤ q
          · left
            rw [ex]
            unfold tL
            rw [if_neg (by omega), if_neg (by omega), if_neg (by omega), if_neg (by omega)]
          · exact Or.inr ⟨3, by omega, by omega, by omega, by rw [l3, ex]⟩
theorem mTurn_no {a b c q : Nat} : ∀ m k, (∀ j, k ≤ j → j < k + m → mMean a b c (q + j) = mMean a b c q) → mTurn a b c q k m = (-6) := by
  intro m
  induction m with
  | zero => exact fun _ _ => rfl
  | succ m ih =>
    intro k h
    rw [mTurn, if_pos (h k (by omega) (by omega))]
    exact ih (k + 1) (fun j h1 h2 => h j (by omega) (by omega))
theorem mTurn_at {a b c q r : Nat} (hr : ¬ mMean a b c (q + r) = mMean a b c q) : ∀ m k, k ≤ r → r < k + m → (∀ j, k ≤ j → j < r → mMean a b c (q + j) = mMean a b c q) → mTurn a b c q k m = nI r := by
  intro m
  induction m with
  | zero =>
    intro k h1 h2
    omega
  | succ m ih =>
    intro k h1 h2 h
    by_cases e : k = r
    · rw [mTurn, if_neg (by rw [e]; exact hr), e]
    · rw [mTurn, if_pos (h k (by omega) (by omega))]
      exact ih (k + 1) (by omega) (by omega) (fun j q1 q2 => h j (by omega) q2)
theorem turn_step {S : Nat → Int32} {a b c q : Nat} (e0 : S 0 = nI a) (e1 : S 1 = nI b) (ha : a ≤ 20) (hb : 1 ≤ b) (hb2 : b ≤ 20) (hq : q ≤ 10000) : ∀ m i, i + m = 4 → (∀ j, j < i → q < a + j * b → mMean a b c (a + j * b) = mMean a b c q) → sTurn S c (nI q) i m = mTurn a b c q 1 200 := by
  have hB : ∀ j, j ≤ 3 → sBeg S (nI j) = nI (a + j * b) := by
    intro j hj
    unfold sBeg
    rw [e0, e1, pk_mul, nI_add]
  have hbj : ∀ j, j ≤ 3 → a + j * b ≤ 80 := by
    intro j hj
    have : j * b ≤ 3 * 20 := Nat.mul_le_mul hj hb2
    omega
  intro m
  induction m with
  | zero =>
    intro i hi h
    obtain rfl : i = 4 := by omega
    refine (mTurn_no 200 1 (fun j h1 h2 => ?_)).symm
    rcases tL_far (a := a) (b := b) (q := q) (x := q + j) hb (by omega) with w | ⟨i, i3, g1, g2, g3⟩
    · rw [mMean_t hb, mMean_t hb, w]
    · have := h i (by omega) g1
      rw [mMean_t hb, ← g3, ← mMean_t hb, this]
  | succ m ih =>
    intro i hi h
    have hi3 : i ≤ 3 := by omega
    have hle := hbj i hi3
    rw [sTurn, hB i hi3]
    by_cases h1 : a + i * b ≤ q
    · rw [if_pos (nI_le h1 (by omega))]
      exact ih (i + 1) (by omega) (fun j q1 q2 => by
        by_cases e : j = i
        · rw [e] at q2
          omega
        · exact h j (by omega) q2)
    · rw [if_neg (nI_ge (by omega) (by omega)), mean_eq e0 e1 ha hb hb2 (show a + i * b ≤ 20000 by omega), mean_eq e0 e1 ha hb hb2 (show q ≤ 20000 by omega)]
      by_cases h2 : mMean a b c (a + i * b) = mMean a b c q
      · rw [if_pos h2]
        exact ih (i + 1) (by omega) (fun j q1 q2 => by
          by_cases e : j = i
          · rw [e]
            exact h2
          · exact h j (by omega) q2)
      · rw [if_neg h2, pk_sub (by omega)]
        refine (mTurn_at (r := a + i * b - q) (by rw [show q + (a + i * b - q) = a + i * b by omega]; exact h2) 200 1 (by omega) (by omega) (fun j q1 q2 => ?_)).symm
        rcases tL_far (a := a) (b := b) (q := q) (x := q + j) hb (by omega) with w | ⟨i', i3, g1, g2, g3⟩
        · rw [mMean_t hb, mMean_t hb, w]
        · have hii : i' < i := by
            by_cases z : i' < i
            · exact z
            · have : i * b ≤ i' * b := Nat.mul_le_mul_right b (by omega)
              omega
          have := h i' hii g1
          rw [mMean_t hb, ← g3, ← mMean_t hb, this]
/-- the seconds to the next turn: both ways -/
theorem turn_eq {S : Nat → Int32} {a b c q : Nat} (e0 : S 0 = nI a) (e1 : S 1 = nI b) (ha : a ≤ 20) (hb : 1 ≤ b) (hb2 : b ≤ 20) (hq : q ≤ 10000) : sTurn S c (nI q) 0 4 = mTurn a b c q 1 200 := turn_step e0 e1 ha hb hb2 hq 4 0 rfl (fun j hj => by omega)
