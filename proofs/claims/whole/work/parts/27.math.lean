theorem mfold_congr {σ : Type} {f g : σ → Nat → σ} {a : σ} {n : Nat} (h : ∀ (x : σ) (k : Nat), k < n → f x k = g x k) : mfold f a n = mfold g a n := by
  induction n with
  | zero => rfl
  | succ n ih =>
    rw [mfold_succ, mfold_succ, ih (fun x k hk => h x k (by omega))]
    exact h _ n (by omega)
theorem sSet_congr {P P' : Nat → Int32} {t : Int32} {n : Nat} (h : ∀ k, k < n → P k = P' k) : sSet P t n = sSet P' t n := mfold_congr (fun x k hk => by rw [h k hk])
theorem sHost_congr {P P' Q Q' : Nat → Int32} {t : Int32} {n : Nat} (h : ∀ k, k < n → P k = P' k) (h2 : ∀ k, k < n → Q k = Q' k) : sHost P Q t n = sHost P' Q' t n := by
  unfold sHost
  rw [mfold_congr (fun x k hk => by unfold sHostF; rw [h k hk, h2 k hk])]
  rfl
theorem sComp_congr {P P' Q Q' : Nat → Int32} {t ab : Int32} {n : Nat} (h : ∀ k, k < n → P k = P' k) (h2 : ∀ k, k < n → Q k = Q' k) : sComp P Q t ab n = sComp P' Q' t ab n := by
  unfold sComp
  rw [mfold_congr (fun x k hk => by unfold sCompF; rw [h k hk, h2 k hk])]
  rfl
theorem sLend_congr {P P' Q Q' R R' : Nat → Int32} {x t : Int32} {n : Nat} (h : ∀ k, k < n → P k = P' k) (h2 : ∀ k, k < n → Q k = Q' k) (h3 : ∀ k, k < n → R k = R' k) : sLend P Q R x t n = sLend P' Q' R' x t n := by
  unfold sLend
  rw [mfold_congr (fun x k hk => by unfold sLendF; rw [h k hk, h2 k hk, h3 k hk])]
  rfl
theorem sSum_congr {P P' : Nat → Int32} {n : Nat} (h : ∀ k, k < n → P k = P' k) : sSum P n = sSum P' n := mfold_congr (fun x k hk => by rw [h k hk])
theorem sSumHere_congr {P P' Q Q' : Nat → Int32} {n : Nat} (h : ∀ k, k < n → P k = P' k) (h2 : ∀ k, k < n → Q k = Q' k) : sSumHere P Q n = sSumHere P' Q' n := mfold_congr (fun x k hk => by rw [h k hk, h2 k hk])
theorem sMeant_congr {P P' : Nat → Int32} (h : ∀ k, k < 11 → P (k + 1) = P' (k + 1)) : sMeant P = sMeant P' := mfold_congr (fun x k hk => by unfold sMeantF; rw [h k hk])
theorem sMost_congr {P P' : Nat → Int32} (h : ∀ k, k < 11 → P (k + 1) = P' (k + 1)) : sMost P = sMost P' := by
  unfold sMost
  rw [mfold_congr (fun x k hk => by unfold sMostF; rw [h k hk])]
  rfl
theorem sGo_congr {P P' : Nat → Int32} (h : ∀ k, k < 3 → P k = P' k) : sGo P = sGo P' := mfold_congr (fun x k hk => by unfold sGoF; rw [h k hk])
/-! sets of guests, as numbers -/
theorem b_or : ∀ v, v < 1024 → ∀ k, k < 10 → nI v ||| ((1 : Int32) <<< (nI k &&& 31)) = nI (v ||| 2 ^ k) ∧ v ||| 2 ^ k < 1024 := by decide +kernel
theorem b_bit : ∀ v, v < 1024 → ∀ k, k < 10 → ((nI v >>> (nI k &&& 31)) &&& 1 = if v.testBit k then (1 : Int32) else 0) := by decide +kernel
theorem b_out : ∀ v, v < 1024 → ∀ k, k < 10 → nI v &&& (((1 : Int32) <<< (nI k &&& 31)) ^^^ (-1)) = nI (v &&& (1023 - 2 ^ k)) ∧ v &&& (1023 - 2 ^ k) < 1024 ∧ ∀ j, j < 10 → (v &&& (1023 - 2 ^ k)).testBit j = (v.testBit j && !decide (j = k)) := by decide +kernel
theorem b_pop : ∀ v, v < 1024 → sPop (nI v) = sOnes (nI v) ∧ (sOnes (nI v) = 0 ↔ nI v = 0) := by decide +kernel
def nSet (I : Nat → Bool) (n : Nat) : Nat := mfold (fun v k => if I k then v ||| 2 ^ k else v) 0 n
theorem nSet_lt {I : Nat → Bool} {n : Nat} (h : n ≤ 10) : nSet I n < 1024 := by
  induction n with
  | zero => exact (by decide : 0 < 1024)
  | succ n ih =>
    have := ih (by omega)
    show (if I n then nSet I n ||| 2 ^ n else nSet I n) < 1024
    split
    · exact (b_or _ this n (by omega)).2
    · exact this
theorem nSet_bit {I : Nat → Bool} {n j : Nat} : (nSet I n).testBit j = (decide (j < n) && I j) := by
  induction n with
  | zero =>
    show (0 : Nat).testBit j = _
    simp
  | succ n ih =>
    show (if I n then nSet I n ||| 2 ^ n else nSet I n).testBit j = _
    by_cases hj : j = n
    · subst hj
      split
      · next h =>
        rw [Nat.testBit_or, Nat.testBit_two_pow_self]
        simp [h]
      · next h =>
        rw [ih]
        simp [h]
    · have e : decide (j < n + 1) = decide (j < n) := by
        by_cases q : j < n
        · simp [q, show j < n + 1 by omega]
        · simp [q, show ¬ j < n + 1 by omega]
      split
      · rw [Nat.testBit_or, ih, Nat.testBit_two_pow_of_ne (fun q => hj q.symm), Bool.or_false, e]
      · rw [ih, e]
theorem sSet_n {P : Nat → Int32} {t : Int32} {n : Nat} (h : n ≤ 10) : sSet P t n = nI (nSet (fun k => decide (P k = t)) n) := by
  induction n with
  | zero => rfl
  | succ n ih =>
    have e1 : sSet P t (n + 1) = if P n = t then sSet P t n ||| ((1 : Int32) <<< (nI n &&& 31)) else sSet P t n := rfl
    have e2 : nSet (fun k => decide (P k = t)) (n + 1) = if decide (P n = t) = true then nSet (fun k => decide (P k = t)) n ||| 2 ^ n else nSet (fun k => decide (P k = t)) n := rfl
    rw [e1, e2, ih (by omega)]
    by_cases q : P n = t
    · simp only [q, if_true, decide_true]
      exact (b_or _ (nSet_lt (by omega)) n (by omega)).1
    · simp only [q, if_false, decide_false, Bool.false_eq_true]
theorem nSet_out {I : Nat → Bool} {n k : Nat} (h : n ≤ 10) (hk : k < 10) : nSet I n &&& (1023 - 2 ^ k) = nSet (fun j => I j && !decide (j = k)) n := by
  apply Nat.eq_of_testBit_eq
  intro j
  by_cases hj : j < 10
  · rw [(b_out _ (nSet_lt h) k hk).2.2 j hj, nSet_bit, nSet_bit, Bool.and_assoc]
  · have h1 : (nSet I n &&& (1023 - 2 ^ k)).testBit j = false := Nat.testBit_lt_two_pow (Nat.lt_of_lt_of_le (b_out _ (nSet_lt h) k hk).2.1 (Nat.pow_le_pow_right (n := 2) (by decide) (show 10 ≤ j by omega)))
    rw [h1, nSet_bit]
    simp [show ¬ j < n by omega]
/-! the company -/
def nCnt (I : Nat → Bool) (n : Nat) : Nat := mfold (fun c k => if I k then c + 1 else c) 0 n
theorem nCnt_le {I : Nat → Bool} {n : Nat} : nCnt I n ≤ n := by
  induction n with
  | zero => exact Nat.le_refl _
  | succ n ih =>
    show (if I n then nCnt I n + 1 else nCnt I n) ≤ n + 1
    split <;> omega
theorem nCnt_0 {I : Nat → Bool} {n : Nat} : nCnt I n = 0 ↔ ∀ k, k < n → I k = false := by
  induction n with
  | zero => simp [nCnt, mfold]
  | succ n ih =>
    show (if I n then nCnt I n + 1 else nCnt I n) = 0 ↔ _
    split
    · next h =>
      constructor
      · intro q
        omega
      · intro q
        rw [q n (by omega)] at h
        cases h
    · next h =>
      rw [ih]
      constructor
      · intro q k hk
        by_cases e : k = n
        · subst e
          simpa using h
        · exact q k (by omega)
      · intro q k hk
        exact q k (by omega)
theorem sOnes_step {I : Nat → Bool} {n v : Nat} (hv : v < 1024) (hb : ∀ j, j < 10 → v.testBit j = I j) (h : n ≤ 10) : mfold (sOnesF (nI v)) 0 n = nI (nCnt I n) := by
  induction n with
  | zero => rfl
  | succ n ih =>
    rw [mfold_succ, ih (by omega)]
    have e : sOnesF (nI v) (nI (nCnt I n)) n = nI (nCnt I n) + (if v.testBit n then (1 : Int32) else 0) := by
      unfold sOnesF
      rw [b_bit v hv n (by omega)]
    rw [e, hb n (by omega)]
    show _ = nI (if I n then nCnt I n + 1 else nCnt I n)
    split
    · exact nI_1 _
    · exact Int32.add_zero _
theorem nCnt_ext {I : Nat → Bool} {n m : Nat} (h : n ≤ m) (hz : ∀ j, n ≤ j → j < m → I j = false) : nCnt I m = nCnt I n := by
  induction m with
  | zero => rw [show n = 0 by omega]
  | succ m ih =>
    by_cases e : n = m + 1
    · rw [e]
    · show (if I m then nCnt I m + 1 else nCnt I m) = _
      rw [hz m (by omega) (by omega), ih (by omega) (fun j h1 h2 => hz j h1 (by omega))]
      rfl
theorem nCnt_congr {I J : Nat → Bool} {n : Nat} (h : ∀ k, k < n → I k = J k) : nCnt I n = nCnt J n := mfold_congr (fun x k hk => by rw [h k hk])
theorem sOnes_n {I : Nat → Bool} {n : Nat} (h : n ≤ 10) : sOnes (nI (nSet I n)) = nI (nCnt I n) := by
  have := sOnes_step (I := fun j => decide (j < n) && I j) (n := 10) (nSet_lt (I := I) h) (fun j _ => nSet_bit) (Nat.le_refl _)
  rw [show sOnes (nI (nSet I n)) = mfold (sOnesF (nI (nSet I n))) 0 10 from rfl, this, nCnt_ext (n := n) h (fun j h1 _ => by simp [show ¬ j < n by omega])]
  rw [nCnt_congr (J := I) (fun k hk => by simp [hk])]
