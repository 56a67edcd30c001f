/-! the text: the class's automaton and the reference's reader -/
theorem mDb_m {x : Int32} : mbi (48 ≤ x ∧ x ≤ 57) = if mDb x = true then 1 else 0 := by
  unfold mbi mDb
  by_cases h : 48 ≤ x ∧ x ≤ 57
  · rw [if_pos h, if_pos (decide_eq_true h)]
  · rw [if_neg h, if_neg (by rw [decide_eq_false h]; decide)]
theorem sN0 (x : Int32) : sNext 0 x = sLetter x := by unfold sNext; rw [if_pos rfl]
theorem sN1 (x : Int32) : sNext 1 x = if mDb x = true then 2 else (-1) := by
  unfold sNext
  rw [if_neg (by decide), if_pos rfl, mDb_m]
  split <;> rfl
theorem sN2 (x : Int32) : sNext 2 x = if x = 46 then 3 else (-1) := by
  unfold sNext
  rw [if_neg (by decide), if_neg (by decide), if_pos rfl]
theorem sN3 (x : Int32) : sNext 3 x = if mDb x = true then 6 else (-1) := by
  unfold sNext
  rw [if_neg (by decide), if_neg (by decide), if_neg (by decide), if_pos rfl, mDb_m]
  split <;> rfl
theorem sN4 (x : Int32) : sNext 4 x = if x = 48 then 6 else if mDb x = true then 5 else (-1) := by
  unfold sNext
  rw [if_neg (by decide), if_neg (by decide), if_neg (by decide), if_neg (by decide), if_pos rfl, mDb_m]
  split
  · rfl
  · split <;> rfl
theorem sN5 (x : Int32) : sNext 5 x = if mDb x = true then 6 else if x = 59 then 0 else (-1) := by
  unfold sNext
  rw [if_neg (by decide), if_neg (by decide), if_neg (by decide), if_neg (by decide), if_neg (by decide), if_pos rfl, mDb_m]
  split <;> rfl
theorem sN6 (x : Int32) : sNext 6 x = if x = 59 then 0 else (-1) := by
  unfold sNext
  rw [if_neg (by decide), if_neg (by decide), if_neg (by decide), if_neg (by decide), if_neg (by decide), if_neg (by decide)]
theorem sF_go {P : Nat → Int32} {e : Int32} {l i : Nat} (h : i < l) : sFaultL P e i (l - i) = if sNext e (P i) = (-1) then nI i else sFaultL P (sNext e (P i)) (i + 1) (l - (i + 1)) := by
  rw [show l - i = (l - (i + 1)) + 1 by omega]
  rfl
theorem sF_end {P : Nat → Int32} {e : Int32} {l : Nat} : sFaultL P e l (l - l) = if e = 5 then (-6) else if e = 6 then (-6) else nI l := by
  rw [Nat.sub_self]
  rfl
theorem mSg_lt {P : Nat → Int32} {l i : Nat} (h : i < l) : mSg P l i = P i := if_pos h
theorem sF_no {P : Nat → Int32} {e : Int32} {l i : Nat} (hi : i ≤ l) (h5 : ¬ e = 5) (h6 : ¬ e = 6) (h : i < l → sNext e (P i) = (-1)) : sFaultL P e i (l - i) = nI i := by
  by_cases q : i < l
  · rw [sF_go q, if_pos (h q)]
  · have : i = l := by omega
    subst this
    rw [sF_end, if_neg h5, if_neg h6]
theorem sF_yes {P : Nat → Int32} {e e2 : Int32} {l i : Nat} (hi : i < l) (h : sNext e (P i) = e2) (hn : ¬ e2 = (-1)) : sFaultL P e i (l - i) = sFaultL P e2 (i + 1) (l - (i + 1)) := by
  rw [sF_go hi, h, if_neg hn]
theorem sL_no {x : Int32} (h1 : ¬ x = 103) (h2 : ¬ (x = 112 ∨ x = 101)) (h3 : ¬ (x = 120 ∨ x = 119 ∨ x = 99 ∨ x = 116)) : sLetter x = (-1) := by
  unfold sLetter
  rw [if_neg h1, if_neg (fun z => h2 (Or.inl z)), if_neg (fun z => h2 (Or.inr z)), if_neg (fun z => h3 (Or.inl z)), if_neg (fun z => h3 (Or.inr (Or.inl z))), if_neg (fun z => h3 (Or.inr (Or.inr (Or.inl z)))), if_neg (fun z => h3 (Or.inr (Or.inr (Or.inr z))))]
theorem mD_no {P : Nat → Int32} {l i : Nat} (h : mDb (mSg P l i) = false) (q : i < l) : mDb (P i) = false := by rwa [mSg_lt q] at h
theorem mD_yes {P : Nat → Int32} {l i : Nat} (h : mDb (mSg P l i) = true) : mDb (P i) = true := by rwa [mSg_lt (mSg_dg h)] at h
theorem b_not {b : Bool} (h : ¬ b = true) : b = false := by simpa using h
/-- an order that isn't one: both find the same place -/
theorem sF_bad {P : Nat → Int32} {l i : Nat} (hi : i ≤ l) (h : (mOrd P l i).1 = false) : sFaultL P 0 i (l - i) = nI (mOrd P l i).2 := by
  unfold mOrd at h ⊢
  by_cases g : mSg P l i = 103
  · rw [if_pos g] at h ⊢
    have hl := mSg_nz g (by decide)
    rw [sF_yes (e2 := 1) hl (by rw [sN0, ← mSg_lt (P := P) hl, g]; decide) (by decide)]
    by_cases d1 : mDb (mSg P l (i + 1)) = true
    · rw [if_pos d1] at h ⊢
      have l1 := mSg_dg d1
      rw [sF_yes (e2 := 2) l1 (by rw [sN1, if_pos (mD_yes d1)]) (by decide)]
      by_cases d2 : mSg P l (i + 2) = 46
      · rw [if_pos d2] at h ⊢
        have l2 := mSg_nz d2 (by decide)
        rw [sF_yes (e2 := 3) l2 (by rw [sN2, if_pos (by rw [← mSg_lt (P := P) l2]; exact d2)]) (by decide)]
        by_cases d3 : mDb (mSg P l (i + 3)) = true
        · rw [if_pos d3] at h
          cases h
        · rw [if_neg d3]
          exact sF_no (by omega) (by decide) (by decide) (fun q => by rw [sN3, if_neg (by rw [mD_no (b_not d3) q]; decide)])
      · rw [if_neg d2]
        exact sF_no (by omega) (by decide) (by decide) (fun q => by rw [sN2, if_neg (by rw [← mSg_lt (P := P) q]; exact d2)])
    · rw [if_neg d1]
      exact sF_no (by omega) (by decide) (by decide) (fun q => by rw [sN1, if_neg (by rw [mD_no (b_not d1) q]; decide)])
  · rw [if_neg g] at h ⊢
    by_cases g2 : mSg P l i = 112 ∨ mSg P l i = 101
    · rw [if_pos g2] at h ⊢
      have hl : i < l := by
        rcases g2 with g2 | g2
        · exact mSg_nz g2 (by decide)
        · exact mSg_nz g2 (by decide)
      rw [sF_yes (e2 := 3) hl (by rw [sN0, ← mSg_lt (P := P) hl]; rcases g2 with g2 | g2 <;> (rw [g2]; decide)) (by decide)]
      by_cases d1 : mDb (mSg P l (i + 1)) = true
      · rw [if_pos d1] at h
        cases h
      · rw [if_neg d1]
        exact sF_no (by omega) (by decide) (by decide) (fun q => by rw [sN3, if_neg (by rw [mD_no (b_not d1) q]; decide)])
    · rw [if_neg g2] at h ⊢
      by_cases g3 : mSg P l i = 120 ∨ mSg P l i = 119 ∨ mSg P l i = 99 ∨ mSg P l i = 116
      · rw [if_pos g3] at h ⊢
        have hl : i < l := by
          rcases g3 with g3 | g3 | g3 | g3 <;> exact mSg_nz g3 (by decide)
        rw [sF_yes (e2 := 4) hl (by rw [sN0, ← mSg_lt (P := P) hl]; rcases g3 with g3 | g3 | g3 | g3 <;> (rw [g3]; decide)) (by decide)]
        by_cases d1 : mDb (mSg P l (i + 1)) = true
        · rw [if_pos d1] at h
          by_cases d0 : mSg P l (i + 1) = 48
          · rw [if_pos d0] at h
            cases h
          · rw [if_neg d0] at h
            by_cases d2 : mDb (mSg P l (i + 2)) = true
            · rw [if_pos d2] at h
              cases h
            · rw [if_neg d2] at h
              cases h
        · rw [if_neg d1]
          refine sF_no (by omega) (by decide) (by decide) (fun q => ?_)
          have hd := mD_no (b_not d1) q
          rw [sN4, if_neg (fun z => by rw [z] at hd; exact absurd hd (by decide)), if_neg (by rw [hd]; decide)]
      · rw [if_neg g3]
        exact sF_no hi (by decide) (by decide) (fun q => by rw [sN0]; rw [mSg_lt q] at g g2 g3; exact sL_no g g2 g3)
/-- behind an order -/
def sF_aft (P : Nat → Int32) (l j : Nat) : Int32 := if j < l then (if P j = 59 then sFaultL P 0 (j + 1) (l - (j + 1)) else nI j) else (-6)
theorem sF_6 {P : Nat → Int32} {l j : Nat} (hj : j ≤ l) : sFaultL P 6 j (l - j) = sF_aft P l j := by
  unfold sF_aft
  by_cases q : j < l
  · rw [if_pos q, sF_go q, sN6]
    by_cases z : P j = 59
    · rw [if_pos z, if_pos z, if_neg (by decide)]
    · rw [if_neg z, if_neg z, if_pos rfl]
  · have : j = l := by omega
    subst this
    rw [if_neg q, sF_end, if_neg (by decide), if_pos rfl]
theorem sF_5 {P : Nat → Int32} {l j : Nat} (hj : j ≤ l) (h : mDb (mSg P l j) = false) : sFaultL P 5 j (l - j) = sF_aft P l j := by
  unfold sF_aft
  by_cases q : j < l
  · rw [if_pos q, sF_go q, show sNext 5 (P j) = if P j = 59 then 0 else (-1) by rw [sN5, if_neg (show ¬ mDb (P j) = true by rw [mD_no h q]; decide)]]
    by_cases z : P j = 59
    · rw [if_pos z, if_pos z, if_neg (by decide)]
    · rw [if_neg z, if_neg z, if_pos rfl]
  · have : j = l := by omega
    subst this
    rw [if_neg q, sF_end, if_pos rfl]
theorem sF_ok {P : Nat → Int32} {l i : Nat} (hi : i ≤ l) (h : (mOrd P l i).1 = true) : sFaultL P 0 i (l - i) = sF_aft P l (mOrd P l i).2 := by
  have hat := (mOrd_at (P := P) hi).2.1
  unfold mOrd at h hat ⊢
  by_cases g : mSg P l i = 103
  · rw [if_pos g] at h hat ⊢
    have hl := mSg_nz g (by decide)
    rw [sF_yes (e2 := 1) hl (by rw [sN0, ← mSg_lt (P := P) hl, g]; decide) (by decide)]
    by_cases d1 : mDb (mSg P l (i + 1)) = true
    · rw [if_pos d1] at h hat ⊢
      have l1 := mSg_dg d1
      rw [sF_yes (e2 := 2) l1 (by rw [sN1, if_pos (mD_yes d1)]) (by decide)]
      by_cases d2 : mSg P l (i + 2) = 46
      · rw [if_pos d2] at h hat ⊢
        have l2 := mSg_nz d2 (by decide)
        rw [sF_yes (e2 := 3) l2 (by rw [sN2, if_pos (by rw [← mSg_lt (P := P) l2]; exact d2)]) (by decide)]
        by_cases d3 : mDb (mSg P l (i + 3)) = true
        · rw [if_pos d3] at hat ⊢
          rw [sF_yes (e2 := 6) (mSg_dg d3) (by rw [sN3, if_pos (mD_yes d3)]) (by decide)]
          exact sF_6 hat
        · rw [if_neg d3] at h
          cases h
      · rw [if_neg d2] at h
        cases h
    · rw [if_neg d1] at h
      cases h
  · rw [if_neg g] at h hat ⊢
    by_cases g2 : mSg P l i = 112 ∨ mSg P l i = 101
    · rw [if_pos g2] at h hat ⊢
      have hl : i < l := by
        rcases g2 with g2 | g2
        · exact mSg_nz g2 (by decide)
        · exact mSg_nz g2 (by decide)
      rw [sF_yes (e2 := 3) hl (by rw [sN0, ← mSg_lt (P := P) hl]; rcases g2 with g2 | g2 <;> (rw [g2]; decide)) (by decide)]
      by_cases d1 : mDb (mSg P l (i + 1)) = true
      · rw [if_pos d1] at hat ⊢
        rw [sF_yes (e2 := 6) (mSg_dg d1) (by rw [sN3, if_pos (mD_yes d1)]) (by decide)]
        exact sF_6 hat
      · rw [if_neg d1] at h
        cases h
    · rw [if_neg g2] at h hat ⊢
      by_cases g3 : mSg P l i = 120 ∨ mSg P l i = 119 ∨ mSg P l i = 99 ∨ mSg P l i = 116
      · rw [if_pos g3] at h hat ⊢
        have hl : i < l := by
          rcases g3 with g3 | g3 | g3 | g3 <;> exact mSg_nz g3 (by decide)
        rw [sF_yes (e2 := 4) hl (by rw [sN0, ← mSg_lt (P := P) hl]; rcases g3 with g3 | g3 | g3 | g3 <;> (rw [g3]; decide)) (by decide)]
        by_cases d1 : mDb (mSg P l (i + 1)) = true
        · rw [if_pos d1] at hat ⊢
          have l1 := mSg_dg d1
          by_cases d0 : mSg P l (i + 1) = 48
          · rw [if_pos d0] at hat ⊢
            rw [sF_yes (e2 := 6) l1 (by rw [sN4, if_pos (by rw [← mSg_lt (P := P) l1]; exact d0)]) (by decide)]
            exact sF_6 hat
          · rw [if_neg d0] at hat ⊢
            rw [sF_yes (e2 := 5) l1 (by rw [sN4, if_neg (by rw [← mSg_lt (P := P) l1]; exact d0), if_pos (mD_yes d1)]) (by decide)]
            by_cases d2 : mDb (mSg P l (i + 2)) = true
            · rw [if_pos d2] at hat ⊢
              rw [sF_yes (e2 := 6) (mSg_dg d2) (by rw [sN5, if_pos (mD_yes d2)]) (by decide)]
              exact sF_6 hat
            · rw [if_neg d2] at hat ⊢
              exact sF_5 hat (b_not d2)
        · rw [if_neg d1] at h
          cases h
      · rw [if_neg g3] at h
        cases h
theorem text_eqL {P : Nat → Int32} {l : Nat} : ∀ (f i : Nat), i ≤ l → l < i + f → sFaultL P 0 i (l - i) = oI (mTl P l f i (mOrd P l i)).2 := by
  intro f
  induction f with
  | zero =>
    intro i h1 h2
    omega
  | succ f ih =>
    intro i h1 h2
    have hat := mOrd_at (P := P) h1
    cases h : (mOrd P l i).1 with
    | false =>
      simp only [mTl, h, Bool.false_eq_true, if_false]
      exact sF_bad h1 h
    | true =>
      have h3 := hat.2.2 h
      rw [sF_ok h1 h]
      simp only [mTl, h, if_true]
      unfold sF_aft
      by_cases q : (mOrd P l i).2 < l
      · simp only [if_pos q]
        by_cases z : P (mOrd P l i).2 = 59
        · simp only [if_pos z]
          exact ih _ (by omega) (by omega)
        · simp only [if_neg z]
          rfl
      · simp only [if_neg q]
        rfl
/-- the fault, or none: the class's and the reference's -/
theorem text_eq {P : Nat → Int32} {l : Nat} : sFaultL P 0 0 l = oI (mPar P l).2 := text_eqL (P := P) (l := l) (l + 1) 0 (Nat.zero_le l) (by omega)
