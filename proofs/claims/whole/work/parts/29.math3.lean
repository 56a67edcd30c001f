/-! the company: the class's loop and the reference's two -/
def cpJ (Q : Nat → Int32) (I : Nat → Bool) (k : Nat) (a : Int32 × Int32 × Int32) (b : Int32 × Int32) : Prop :=
  a.1 = nI (nCnt I k) ∧ ((nCnt I k = 0 ∧ a.2.2 = 1 ∧ b.1 = nI 9 ∧ b.2 = nI 1) ∨ (0 < nCnt I k ∧ ∃ l f h : Nat, a.2.1 = nI f ∧ b.1 = nI l ∧ b.2 = nI h ∧ 1 ≤ l ∧ l ≤ f ∧ f ≤ h ∧ h ≤ 9 ∧ ((a.2.2 = 1 ∧ l = h) ∨ (a.2.2 = 0 ∧ l ≠ h))))
theorem comp_step {P Q : Nat → Int32} {q : Nat → Nat} {t ab : Int32} {n v : Nat} {I : Nat → Bool} (hq : nR Q q n) (h10 : n ≤ 10) (hv : v < 1024) (hb : ∀ j, j < n → v.testBit j = I j) (hI : ∀ j, j < n → (I j = true ↔ P j = t ∧ ¬ nI j = ab)) : ∀ k, k ≤ n → cpJ Q I k (mfold (sCompF P Q t ab) (0, 0, 1) k) (mLo Q (nI v) k) := by
  intro k
  induction k with
  | zero => exact fun _ => ⟨rfl, Or.inl ⟨rfl, rfl, rfl, rfl⟩⟩
  | succ k ih =>
    intro hk
    have hj := ih (by omega)
    rw [mfold_succ, mLo_succ]
    generalize mfold (sCompF P Q t ab) (0, 0, 1) k = a at hj
    generalize mLo Q (nI v) k = b at hj
    obtain ⟨a1, a2, a3⟩ := a
    obtain ⟨b1, b2⟩ := b
    obtain ⟨j1, j2⟩ := hj
    simp only at j1 j2
    have hbit := b_bit v hv k (by omega)
    rw [hb k (by omega)] at hbit
    have hr := hq k (by omega)
    have hc : nCnt I (k + 1) = if I k then nCnt I k + 1 else nCnt I k := rfl
    have hcl : nCnt I k ≤ k := nCnt_le
    cases hi : I k with
    | false =>
      rw [hi] at hbit hc
      have hno : ¬ (P k = t ∧ ¬ nI k = ab) := fun z => by
        have := (hI k (by omega)).mpr z
        rw [hi] at this
        cases this
      have e1 : sCompF P Q t ab (a1, a2, a3) k = (a1, a2, a3) := by
        unfold sCompF
        by_cases hp : P k = t
        · rw [if_pos hp, if_pos (Decidable.not_not.mp (fun z => hno ⟨hp, z⟩))]
        · rw [if_neg hp]
      have e2 : mLoF Q (nI v) (b1, b2) k = (b1, b2) := by
        unfold mLoF
        rw [hbit]
        rfl
      rw [e1, e2]
      unfold cpJ
      rw [show nCnt I (k + 1) = nCnt I k from hc]
      exact ⟨j1, j2⟩
    | true =>
      rw [hi] at hbit hc
      obtain ⟨hp, hab⟩ := (hI k (by omega)).mp hi
      have e2 : mLoF Q (nI v) (b1, b2) k = ((if b1 ≤ Q k then b1 else Q k), (if Q k ≤ b2 then b2 else Q k)) := by
        unfold mLoF
        rw [hbit]
        rfl
      have e1 : sCompF P Q t ab (a1, a2, a3) k = (a1 + 1, (if a1 = 0 then Q k else a2), (if a3 = 0 then 0 else if Q k = (if a1 = 0 then Q k else a2) then 1 else 0)) := by
        unfold sCompF
        rw [if_pos hp, if_neg hab]
      rw [e1, e2]
      have hc' : nCnt I (k + 1) = nCnt I k + 1 := hc
      refine ⟨by rw [hc', j1]; exact nI_1 _, Or.inr ⟨by rw [hc']; omega, ?_⟩⟩
      rcases j2 with ⟨z0, z3, zl, zh⟩ | ⟨z0, l, f, h, zf, zl, zh, i1, i2, i3, i4, io⟩
      · have hz : a1 = 0 := by rw [j1, z0]; rfl
        refine ⟨q k, q k, q k, ?_, ?_, ?_, hr.2.1, Nat.le_refl _, Nat.le_refl _, hr.2.2, Or.inl ⟨?_, rfl⟩⟩
        · simp only [hz, if_true]
          exact hr.1
        · simp only [zl, hr.1]
          by_cases e9 : 9 ≤ q k
          · rw [if_pos (nI_le e9 (by omega)), show q k = 9 by omega]
          · rw [if_neg (nI_ge (by omega) (by omega))]
        · simp only [zh, hr.1]
          by_cases e1 : q k ≤ 1
          · rw [if_pos (nI_le e1 (by omega)), show q k = 1 by omega]
          · rw [if_neg (nI_ge (by omega) (by omega))]
        · simp only [hz, if_true, z3]
          rfl
      · have hz : ¬ a1 = 0 := by rw [j1]; exact nI_ne0 z0 (by omega)
        simp only [hz, if_false, zl, zh, zf, hr.1]
        have x1 : (nI l ≤ nI (q k)) = (l ≤ q k) := propext (nI_leI (by omega) (by omega))
        have x2 : (nI (q k) ≤ nI h) = (q k ≤ h) := propext (nI_leI (by omega) (by omega))
        have x3 : (nI (q k) = nI f) = (q k = f) := propext (nI_eq (by omega) (by omega))
        simp only [x1, x2, x3]
        refine ⟨if l ≤ q k then l else q k, f, if q k ≤ h then h else q k, rfl, by split <;> rfl, by split <;> rfl, ?_, ?_, ?_, ?_, ?_⟩
        · split <;> omega
        · split <;> omega
        · split <;> omega
        · split <;> omega
        · rcases io with ⟨o1, o2⟩ | ⟨o1, o2⟩
          · rw [o1, if_neg (by decide)]
            by_cases w : q k = f
            · left
              rw [if_pos w]
              exact ⟨rfl, by split <;> split <;> omega⟩
            · right
              rw [if_neg w]
              exact ⟨rfl, by split <;> split <;> omega⟩
          · right
            rw [o1, if_pos rfl]
            exact ⟨rfl, by split <;> split <;> omega⟩
def nComp (Q : Nat → Int32) (I : Nat → Bool) (n : Nat) : Nat := if nCnt I n < 3 then nCnt I n else if (mLo Q (nI (nSet I n)) n).1 = (mLo Q (nI (nSet I n)) n).2 then 3 else 4
theorem nComp_le {Q : Nat → Int32} {I : Nat → Bool} {n : Nat} : nComp Q I n ≤ 4 := by
  unfold nComp
  split
  · omega
  · split <;> omega
theorem nComp_0 {Q : Nat → Int32} {I : Nat → Bool} {n : Nat} : nComp Q I n = 0 ↔ nCnt I n = 0 := by
  unfold nComp
  split
  · exact Iff.rfl
  · split <;> omega
theorem mComp_n {Q : Nat → Int32} {I : Nat → Bool} {n : Nat} (h10 : n ≤ 10) : mComp Q (nI (nSet I n)) n = nI (nComp Q I n) := by
  unfold mComp nComp
  rw [sOnes_n h10, show (3 : Int32) = nI 3 from rfl]
  have hc : nCnt I n ≤ n := nCnt_le
  by_cases h : nCnt I n < 3
  · rw [if_neg (nI_ge h (by decide)), if_pos h]
  · rw [if_pos (nI_le (by omega) (by omega)), if_neg h]
    split <;> rfl
theorem sComp_n {P Q : Nat → Int32} {q : Nat → Nat} {t ab : Int32} {n : Nat} {I : Nat → Bool} (hq : nR Q q n) (h10 : n ≤ 10) (hI : ∀ j, j < n → (I j = true ↔ P j = t ∧ ¬ nI j = ab)) : sComp P Q t ab n = nI (nComp Q I n) := by
  obtain ⟨j1, j2⟩ := comp_step (P := P) (t := t) (ab := ab) hq h10 (nSet_lt (I := I) h10) (fun j hj => by rw [nSet_bit]; simp [hj]) hI n (Nat.le_refl n)
  unfold sComp nComp
  rw [j1, show (3 : Int32) = nI 3 from rfl]
  have hc : nCnt I n ≤ n := nCnt_le
  by_cases h : nCnt I n < 3
  · rw [if_neg (nI_ge h (by decide)), if_pos h]
  · rw [if_pos (nI_le (by omega) (by omega)), if_neg h]
    rcases j2 with ⟨z0, -⟩ | ⟨z0, l, f, h', zf, zl, zh, i1, i2, i3, i4, io⟩
    · omega
    · rw [zl, zh]
      rcases io with ⟨o1, o2⟩ | ⟨o1, o2⟩
      · rw [o1, if_neg (by decide), if_pos (by rw [o2])]
      · rw [o1, if_pos rfl, if_neg (fun z => o2 ((nI_eq (by omega) (by omega)).mp z))]
        rfl
/-- nobody is away: NONE is no guest's number -/
theorem comp_eq {P Q : Nat → Int32} {q : Nat → Nat} {t : Int32} {n : Nat} (hq : nR Q q n) (h10 : n ≤ 10) : ∃ c, c ≤ 4 ∧ sComp P Q t (-6) n = nI c ∧ mComp Q (sSet P t n) n = nI c ∧ (c = 0 ↔ sSet P t n = 0) := by
  have hI : ∀ j, j < n → (decide (P j = t) = true ↔ P j = t ∧ ¬ nI j = (-6)) := fun j hj => by
    rw [decide_eq_true_iff]
    exact ⟨fun h => ⟨h, m_ne6 (by omega)⟩, fun h => h.1⟩
  refine ⟨nComp Q (fun k => decide (P k = t)) n, nComp_le, sComp_n hq h10 hI, ?_, ?_⟩
  · rw [sSet_n h10]
    exact mComp_n h10
  · rw [nComp_0, sSet_n h10]
    have h1 := (b_pop _ (nSet_lt (I := fun k => decide (P k = t)) h10)).2
    rw [sOnes_n h10] at h1
    rw [← h1]
    constructor
    · intro z
      rw [z]
      rfl
    · intro z
      have hc : nCnt (fun k => decide (P k = t)) n ≤ n := nCnt_le
      by_cases e : nCnt (fun k => decide (P k = t)) n = 0
      · exact e
      · exact absurd z (nI_ne0 (by omega) (by omega))
/-- one guest is away -/
theorem comp_out {P Q : Nat → Int32} {q : Nat → Nat} {t : Int32} {n k : Nat} (hq : nR Q q n) (h10 : n ≤ 10) (hk : k < n) : ∃ c, c ≤ 4 ∧ sComp P Q t (nI k) n = nI c ∧ mComp Q (sSet P t n &&& (((1 : Int32) <<< (nI k &&& 31)) ^^^ (-1))) n = nI c := by
  have hI : ∀ j, j < n → ((decide (P j = t) && !decide (j = k)) = true ↔ P j = t ∧ ¬ nI j = nI k) := fun j hj => by
    rw [nI_eq (by omega) (by omega)]
    simp
  refine ⟨nComp Q (fun j => decide (P j = t) && !decide (j = k)) n, nComp_le, sComp_n hq h10 hI, ?_⟩
  rw [sSet_n h10, (b_out _ (nSet_lt h10) k (by omega)).1, nSet_out h10 (by omega)]
  exact mComp_n h10
/-- the ones of a set of guests -/
theorem pop_eq {P : Nat → Int32} {t : Int32} {n : Nat} (h10 : n ≤ 10) : sPop (sSet P t n) = sOnes (sSet P t n) ∧ (sOnes (sSet P t n) = 0 ↔ sSet P t n = 0) ∧ ∃ c, c ≤ 10 ∧ sOnes (sSet P t n) = nI c := by
  rw [sSet_n h10]
  refine ⟨(b_pop _ (nSet_lt h10)).1, (b_pop _ (nSet_lt h10)).2, _, Nat.le_trans nCnt_le h10, sOnes_n h10⟩
