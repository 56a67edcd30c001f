theorem rW_k {R : Nat → Nat → Option Nat} {l : List (Nat × Nat × Nat)} {j k : Nat} (h : ∀ q ∈ l, k ≠ q.2.1) : rW R l j k = R j k := by
  induction l generalizing R with
  | nil => rfl
  | cons q l ih =>
    show rW (va_up R q.1 (va_up (R q.1) q.2.1 (some q.2.2))) l j k = R j k
    rw [ih (fun r hr => h r (List.mem_cons_of_mem _ hr))]
    by_cases e : j = q.1
    · subst e
      rw [va_up_self]
      exact va_up_ne _ _ (h q List.mem_cons_self)
    · rw [va_up_ne _ _ e]
theorem rW_k1 {R : Nat → Nat → Option Nat} {a b c j k : Nat} (h : b < 16) (hk : 16 ≤ k) : rW R [(a, b, c)] j k = R j k := rW_k (fun q hq => by
  simp only [List.mem_cons, List.not_mem_nil, or_false] at hq
  subst hq
  simp only
  omega)
theorem iR_k {R : Nat → Nat → Option Nat} {n b j k : Nat} (hk : 16 ≤ k) : iR R n b j k = R j k := by
  unfold iR
  apply rW_k
  intro q hq
  simp only [List.mem_cons, List.not_mem_nil, or_false] at hq
  rcases hq with rfl | rfl | rfl | rfl | rfl | rfl | rfl | rfl | rfl | rfl | rfl | rfl | rfl | rfl | rfl <;> (simp only; omega)
theorem r1_k {R : Nat → Nat → Option Nat} {j k : Nat} (hk : 16 ≤ k) : r1 R j k = R j k := by
  unfold r1
  repeat (first | rw [rW_k1 (by decide) hk] | rw [iR_k hk])
theorem r5_k {R : Nat → Nat → Option Nat} {j k : Nat} (hk : 16 ≤ k) : r5 R j k = R j k := by
  unfold r5
  repeat (first | rw [rW_k1 (by decide) hk] | rw [iR_k hk])
theorem r6_k {R : Nat → Nat → Option Nat} {j k : Nat} (hk : 16 ≤ k) : r6 R j k = R j k := by
  unfold r6
  repeat (first | rw [rW_k1 (by decide) hk] | rw [iR_k hk] | rw [r1_k hk] | rw [r5_k hk])
def g0 (i : Nat) : Option Nat := if i < 7 then some (23 + 16 * i) else none
theorem mR_fin : ∀ c, c < 173 → ∀ k, k < 16 → r6 (fun _ _ => none) c k = mRF g0 c k := by decide +kernel
theorem mRL_len : ∀ l ∈ mRL, l.length ≤ 16 := by decide +kernel
theorem mR0_k {c k : Nat} (h : 16 ≤ k) : mR0 c k = none := by
  have e : (mRL.getD c []).getD k 0 = 0 := by
    have hl : (mRL.getD c []).length ≤ 16 := by
      rw [List.getD_eq_getElem?_getD]
      cases hq : mRL[c]? with
      | none => simp
      | some l => exact mRL_len l (List.mem_of_getElem? hq)
    rw [List.getD_eq_getElem?_getD, List.getElem?_eq_none (by omega)]
    rfl
  unfold mR0
  rw [e]
theorem mR0_c {c k : Nat} (h : 173 ≤ c) : mR0 c k = none := by
  have e : mRL.getD c [] = [] := by
    rw [List.getD_eq_getElem?_getD, List.getElem?_eq_none (Nat.le_trans (by decide +kernel) h)]
    rfl
  unfold mR0
  rw [e]
  rfl
/-- the references behind the constructors -/
theorem mR_start : r6 (fun _ _ => none) = mRF g0 := by
  funext c k
  by_cases hc : c < 173
  · by_cases hk : k < 16
    · exact mR_fin c hc k hk
    · rw [r6_k (by omega)]
      by_cases h22 : c = 22
      · subst h22
        show none = g0 k
        rw [g0, if_neg (by omega)]
      · simp only [mRF, if_neg h22]
        exact (mR0_k (by omega)).symm
  · rw [show r6 (fun _ _ => none) c = (fun _ => none) from by rw [r6_hi (by omega)]]
    simp only [mRF, if_neg (show c ≠ 22 by omega)]
    exact (mR0_c (by omega)).symm
