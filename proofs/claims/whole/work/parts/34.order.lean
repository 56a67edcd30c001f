/-! an order's end and its numbers, as the class finds them -/
theorem sE_go {P : Nat → Int32} {l i : Nat} (h : i < l) (h2 : ¬ P i = 59) : sEnd P i (l - i) = sEnd P (i + 1) (l - (i + 1)) := by
  rw [show l - i = (l - (i + 1)) + 1 by omega, sEnd, if_neg h2]
theorem sE_at {P : Nat → Int32} {l j : Nat} (h : j ≤ l) (h2 : j < l → P j = 59) : sEnd P j (l - j) = j := by
  by_cases q : j < l
  · rw [show l - j = (l - (j + 1)) + 1 by omega, sEnd, if_pos (h2 q)]
  · rw [show l - j = 0 by omega]
    rfl
theorem mD_59 {x : Int32} (h : mDb x = true) : ¬ x = 59 := fun q => by
  rw [q] at h
  exact absurd h (by decide)
theorem sN_d {P : Nat → Int32} {a : Int32} {i : Nat} (h : mDb (P i) = true) : sNumF P a i = a * 10 + P i - 48 := by
  unfold sNumF
  rw [mDb_m, if_pos h, if_neg (by decide)]
theorem sN_n {P : Nat → Int32} {a : Int32} {i : Nat} (h : mDb (P i) = false) : sNumF P a i = 0 := by
  unfold sNumF
  rw [mDb_m, h]
  exact if_pos rfl
theorem i_0m (x : Int32) : (0 : Int32) * 10 + x - 48 = x - 48 := by
  rw [show (0 : Int32) * 10 = 0 from by decide, Int32.zero_add]
/-- what an order is: its letter, its end, its numbers -/
def ordF (P : Nat → Int32) (l i j : Nat) : Prop :=
  i < l ∧ i + 2 ≤ j ∧ j ≤ l ∧ ((j < l → P j = 59) → sEnd P i (l - i) = j) ∧
  ((P i = 103 ∧ j = i + 4 ∧ sNumL P 0 (i + 1) (j - i - 1) = mSg P l (i + 3) - 48 ∧ mA P l i j = P (i + 1) - 48) ∨
   ((P i = 112 ∨ P i = 101 ∨ P i = 120 ∨ P i = 119 ∨ P i = 99 ∨ P i = 116) ∧ sNumL P 0 (i + 1) (j - i - 1) = mA P l i j))
theorem ord_is {P : Nat → Int32} {l i : Nat} (hi : i ≤ l) (h : (mOrd P l i).1 = true) : ordF P l i (mOrd P l i).2 := by
  have hat := (mOrd_at (P := P) hi).2.1
  have h2 := (mOrd_at (P := P) hi).2.2 h
  have hil : i < l := by omega
  refine ⟨hil, h2, hat, ?_, ?_⟩
  · intro hend
    unfold mOrd at h hat h2 hend ⊢
    by_cases g : mSg P l i = 103
    · rw [if_pos g] at h hat h2 hend ⊢
      rw [sE_go hil (by rw [← mSg_lt (P := P) hil, g]; decide)]
      by_cases d1 : mDb (mSg P l (i + 1)) = true
      · rw [if_pos d1] at h hat h2 hend ⊢
        rw [sE_go (mSg_dg d1) (mD_59 (mD_yes d1))]
        by_cases d2 : mSg P l (i + 2) = 46
        · rw [if_pos d2] at h hat h2 hend ⊢
          have l2 := mSg_nz d2 (by decide)
          rw [sE_go l2 (by show ¬ P (i + 2) = 59; rw [← mSg_lt (P := P) l2, d2]; decide)]
          by_cases d3 : mDb (mSg P l (i + 3)) = true
          · rw [if_pos d3] at hat h2 hend ⊢
            rw [sE_go (mSg_dg d3) (mD_59 (mD_yes d3))]
            exact sE_at hat hend
          · rw [if_neg d3] at h
            cases h
        · rw [if_neg d2] at h
          cases h
      · rw [if_neg d1] at h
        cases h
    · rw [if_neg g] at h hat h2 hend ⊢
      by_cases g2 : mSg P l i = 112 ∨ mSg P l i = 101
      · rw [if_pos g2] at h hat h2 hend ⊢
        rw [sE_go hil (by rw [← mSg_lt (P := P) hil]; rcases g2 with g2 | g2 <;> (rw [g2]; decide))]
        by_cases d1 : mDb (mSg P l (i + 1)) = true
        · rw [if_pos d1] at hat h2 hend ⊢
          rw [sE_go (mSg_dg d1) (mD_59 (mD_yes d1))]
          exact sE_at hat hend
        · rw [if_neg d1] at h
          cases h
      · rw [if_neg g2] at h hat h2 hend ⊢
        by_cases g3 : mSg P l i = 120 ∨ mSg P l i = 119 ∨ mSg P l i = 99 ∨ mSg P l i = 116
        · rw [if_pos g3] at h hat h2 hend ⊢
          rw [sE_go hil (by rw [← mSg_lt (P := P) hil]; rcases g3 with g3 | g3 | g3 | g3 <;> (rw [g3]; decide))]
          by_cases d1 : mDb (mSg P l (i + 1)) = true
          · rw [if_pos d1] at hat h2 hend ⊢
            rw [sE_go (mSg_dg d1) (mD_59 (mD_yes d1))]
            by_cases d0 : mSg P l (i + 1) = 48
            · rw [if_pos d0] at hat h2 hend ⊢
              exact sE_at hat hend
            · rw [if_neg d0] at hat h2 hend ⊢
              by_cases d2 : mDb (mSg P l (i + 2)) = true
              · rw [if_pos d2] at hat h2 hend ⊢
                rw [sE_go (mSg_dg d2) (mD_59 (mD_yes d2))]
                exact sE_at hat hend
              · rw [if_neg d2] at hat h2 hend ⊢
                exact sE_at hat hend
          · rw [if_neg d1] at h
            cases h
        · rw [if_neg g3] at h
          cases h
  · have ePi := mSg_lt (P := P) hil
    unfold mOrd at h hat h2 ⊢
    by_cases g : mSg P l i = 103
    · rw [if_pos g] at h hat h2 ⊢
      by_cases d1 : mDb (mSg P l (i + 1)) = true
      · rw [if_pos d1] at h hat h2 ⊢
        by_cases d2 : mSg P l (i + 2) = 46
        · rw [if_pos d2] at h hat h2 ⊢
          have l2 := mSg_nz d2 (by decide)
          by_cases d3 : mDb (mSg P l (i + 3)) = true
          · rw [if_pos d3] at hat h2 ⊢
            left
            have l1 := mSg_lt (P := P) (mSg_dg d1)
            have l3 := mSg_lt (P := P) (mSg_dg d3)
            refine ⟨by rw [← ePi]; exact g, rfl, ?_, ?_⟩
            · show sNumL P 0 (i + 1) (i + 4 - i - 1) = _
              rw [show i + 4 - i - 1 = 2 + 1 by omega]
              show sNumF P (sNumF P (sNumF P 0 (i + 1)) (i + 2)) (i + 3) = _
              rw [sN_n (i := i + 2) (by rw [← mSg_lt (P := P) l2, d2]; decide), sN_d (mD_yes d3), i_0m, l3]
            · unfold mA
              rw [if_neg (fun q => q.1 g), l1]
          · rw [if_neg d3] at h
            cases h
        · rw [if_neg d2] at h
          cases h
      · rw [if_neg d1] at h
        cases h
    · rw [if_neg g] at h hat h2 ⊢
      right
      by_cases g2 : mSg P l i = 112 ∨ mSg P l i = 101
      · rw [if_pos g2] at h hat h2 ⊢
        by_cases d1 : mDb (mSg P l (i + 1)) = true
        · rw [if_pos d1] at hat h2 ⊢
          have l1 := mSg_lt (P := P) (mSg_dg d1)
          refine ⟨by rw [← ePi]; rcases g2 with g2 | g2 <;> simp [g2], ?_⟩
          show sNumL P 0 (i + 1) (i + 2 - i - 1) = mA P l i (i + 2)
          rw [show i + 2 - i - 1 = 0 + 1 by omega]
          show sNumF P 0 (i + 1) = _
          unfold mA
          rw [sN_d (mD_yes d1), i_0m, if_neg (fun q => by have := q.2; omega), l1]
        · rw [if_neg d1] at h
          cases h
      · rw [if_neg g2] at h hat h2 ⊢
        by_cases g3 : mSg P l i = 120 ∨ mSg P l i = 119 ∨ mSg P l i = 99 ∨ mSg P l i = 116
        · rw [if_pos g3] at h hat h2 ⊢
          by_cases d1 : mDb (mSg P l (i + 1)) = true
          · rw [if_pos d1] at hat h2 ⊢
            have l1 := mSg_lt (P := P) (mSg_dg d1)
            refine ⟨by rw [← ePi]; rcases g3 with g3 | g3 | g3 | g3 <;> simp [g3], ?_⟩
            have one : sNumL P 0 (i + 1) (i + 2 - i - 1) = mA P l i (i + 2) := by
              rw [show i + 2 - i - 1 = 0 + 1 by omega]
              show sNumF P 0 (i + 1) = _
              unfold mA
              rw [sN_d (mD_yes d1), i_0m, if_neg (fun q => by have := q.2; omega), l1]
            by_cases d0 : mSg P l (i + 1) = 48
            · rw [if_pos d0]
              exact one
            · rw [if_neg d0] at hat h2 ⊢
              by_cases d2 : mDb (mSg P l (i + 2)) = true
              · rw [if_pos d2]
                have l2 := mSg_lt (P := P) (mSg_dg d2)
                show sNumL P 0 (i + 1) (i + 3 - i - 1) = mA P l i (i + 3)
                rw [show i + 3 - i - 1 = 1 + 1 by omega]
                show sNumF P (sNumF P 0 (i + 1)) (i + 2) = _
                unfold mA
                rw [sN_d (mD_yes d1), i_0m, sN_d (mD_yes d2), if_pos ⟨g, rfl⟩, l1, l2, Int32.mul_comm]
              · rw [if_neg d2]
                exact one
          · rw [if_neg d1] at h
            cases h
        · rw [if_neg g3] at h
          cases h
