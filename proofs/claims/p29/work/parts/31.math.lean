/-! bits (out of the kit's BITS.to-paste), sets, hosts, companies, lenders, meanings: facts of the class's own counting -/
def bt (x : Int32) (i : Nat) : Bool := x.toBitVec.getLsbD i
theorem b_ext {x y : Int32} (h : ∀ i, i < 32 → bt x i = bt y i) : x = y := Int32.toBitVec_inj.mp (BitVec.eq_of_getLsbD_eq (fun i hi => h i hi))
theorem b_or (x y : Int32) (i : Nat) : bt (x ||| y) i = (bt x i || bt y i) := by unfold bt; rw [Int32.toBitVec_or, BitVec.getLsbD_or]
theorem b_and (x y : Int32) (i : Nat) : bt (x &&& y) i = (bt x i && bt y i) := by unfold bt; rw [Int32.toBitVec_and, BitVec.getLsbD_and]
theorem b_big {x : Int32} {i : Nat} (h : 32 ≤ i) : bt x i = false := BitVec.getLsbD_of_ge _ _ h
theorem b_0 (i : Nat) : bt 0 i = false := BitVec.getLsbD_zero
theorem s_l : ∀ n, n < 32 → ((nI n &&& 31).toBitVec.smod 32).toNat = n := by decide +kernel
theorem b_shl (n : Nat) (hn : n < 32) (x : Int32) {i : Nat} (hi : i < 32) : bt (x <<< (nI n &&& 31)) i = (decide (n ≤ i) && bt x (i - n)) := by
  unfold bt
  rw [Int32.toBitVec_shiftLeft]
  show (x.toBitVec <<< ((nI n &&& 31).toBitVec.smod 32).toNat).getLsbD i = _
  rw [s_l n hn, BitVec.getLsbD_shiftLeft]
  rcases Nat.lt_or_ge i n with h | h
  · simp [h, Nat.not_le.mpr h]
  · simp [hi, h, Nat.not_lt.mpr h]
theorem b_sshr (n : Nat) (hn : n < 32) (x : Int32) {i : Nat} (hi : i < 32) : bt (x >>> (nI n &&& 31)) i = if n + i < 32 then bt x (n + i) else bt x 31 := by
  unfold bt
  rw [Int32.toBitVec_shiftRight]
  show (x.toBitVec.sshiftRight ((nI n &&& 31).toBitVec.smod 32).toNat).getLsbD i = _
  rw [s_l n hn, BitVec.getLsbD_sshiftRight, BitVec.msb_eq_getLsbD_last]
  simp [hi]
theorem bt_one : ∀ j, j < 32 → bt 1 j = decide (j = 0) := by decide +kernel
theorem bt_pow {n i : Nat} (hn : n < 32) (hi : i < 32) : bt ((1 : Int32) <<< (nI n &&& 31)) i = decide (i = n) := by
  rw [b_shl n hn 1 hi]
  by_cases h : n ≤ i
  · rw [bt_one _ (by omega)]
    by_cases e : i = n
    · subst e
      simp
    · simp [h, e, show ¬ i - n = 0 by omega]
  · simp [h, show ¬ i = n by omega]
theorem bt_sSet {P : Nat → Int32} {t : Int32} : ∀ n, n ≤ 31 → ∀ i, i < 32 → bt (sSet P t n) i = (decide (i < n) && decide (P i = t)) := by
  intro n
  induction n with
  | zero =>
    intro _ i hi
    show bt 0 i = _
    rw [b_0]
    simp
  | succ n ih =>
    intro hn i hi
    have e : sSet P t (n + 1) = if P n = t then sSet P t n ||| ((1 : Int32) <<< (nI n &&& 31)) else sSet P t n := rfl
    rw [e]
    have ih' := ih (by omega) i hi
    by_cases h : i = n
    · subst h
      split
      · next q => rw [b_or, ih', bt_pow (by omega) hi]; simp [q]
      · next q => rw [ih']; simp [q]
    · have e1 : decide (i < n + 1) = decide (i < n) := by
        by_cases z : i < n
        · simp [z, show i < n + 1 by omega]
        · simp [z, show ¬ i < n + 1 by omega]
      rw [e1]
      split
      · rw [b_or, ih', bt_pow (by omega) hi]
        simp [h]
      · exact ih'
theorem sSet_0 {P : Nat → Int32} {t : Int32} {n : Nat} (h : n ≤ 31) : sSet P t n = 0 ↔ ∀ k, k < n → ¬ P k = t := by
  constructor
  · intro e k hk hp
    have := bt_sSet (P := P) (t := t) n h k (by omega)
    rw [e, b_0] at this
    simp [hk, hp] at this
  · intro e
    apply b_ext
    intro i hi
    rw [bt_sSet n h i hi, b_0]
    by_cases hk : i < n
    · simp [e i hk]
    · simp [hk]
theorem bt_test {x : Int32} {k : Nat} (hk : k < 31) : ((x >>> (nI k &&& 31)) &&& 1 = 1) ↔ bt x k = true := by
  have hz : ∀ i, i < 32 → bt ((x >>> (nI k &&& 31)) &&& 1) i = (decide (i = 0) && bt x k) := by
    intro i hi
    rw [b_and, bt_one i hi, b_sshr k (by omega) x hi]
    by_cases e : i = 0
    · subst e
      simp [show k < 32 by omega]
    · simp [e]
  constructor
  · intro e
    have := hz 0 (by decide)
    rw [e, bt_one 0 (by decide)] at this
    simpa using this.symm
  · intro e
    apply b_ext
    intro i hi
    rw [hz i hi, bt_one i hi, e]
    simp
/-! the host -/
def nR (Q : Nat → Int32) (q : Nat → Nat) (n : Nat) : Prop := ∀ k, k < n → Q k = nI (q k) ∧ 1 ≤ q k ∧ q k ≤ 9
theorem host_step {P Q : Nat → Int32} {q : Nat → Nat} {t : Int32} {n : Nat} (hq : nR Q q n) : ∀ k, k ≤ n → ((mfold (sHostF P Q t) (-6, 0) k).1 = (-6) ∧ (mfold (sHostF P Q t) (-6, 0) k).2 = nI 0 ∧ ∀ j, j < k → ¬ P j = t) ∨ ∃ h, h < k ∧ (mfold (sHostF P Q t) (-6, 0) k).1 = nI h ∧ (mfold (sHostF P Q t) (-6, 0) k).2 = Q h ∧ P h = t ∧ ∀ j, j < k → P j = t → q j ≤ q h := by
  intro k
  induction k with
  | zero => exact fun _ => Or.inl ⟨rfl, rfl, fun j hj => absurd hj (Nat.not_lt_zero j)⟩
  | succ k ih =>
    intro hk
    have ih' := ih (by omega)
    rw [mfold_succ]
    generalize mfold (sHostF P Q t) (-6, 0) k = a at ih'
    obtain ⟨a1, a2⟩ := a
    simp only at ih'
    have hr := hq k (by omega)
    by_cases hp : P k = t
    · rcases ih' with ⟨e1, e2, e3⟩ | ⟨h, h1, h2, h3, h4, h5⟩
      · right
        have hn : ¬ Q k ≤ a2 := by
          rw [e2, hr.1]
          exact nI_ge (by omega) (by omega)
        simp only [sHostF, hp, if_true, hn, if_false]
        refine ⟨k, Nat.lt_succ_self k, rfl, rfl, hp, fun j hj hj2 => ?_⟩
        by_cases e : j = k
        · rw [e]; exact Nat.le_refl _
        · exact absurd hj2 (e3 j (by omega))
      · right
        have hh := hq h (by omega)
        by_cases hc : q k ≤ q h
        · have hn : Q k ≤ a2 := by
            rw [h3, hr.1, hh.1]
            exact nI_le hc (by omega)
          simp only [sHostF, hp, if_true, hn]
          refine ⟨h, by omega, h2, h3, h4, fun j hj hj2 => ?_⟩
          by_cases e : j = k
          · rw [e]; exact hc
          · exact h5 j (by omega) hj2
        · have hn : ¬ Q k ≤ a2 := by
            rw [h3, hr.1, hh.1]
            exact nI_ge (by omega) (by omega)
          simp only [sHostF, hp, if_true, hn, if_false]
          refine ⟨k, Nat.lt_succ_self k, rfl, rfl, hp, fun j hj hj2 => ?_⟩
          by_cases e : j = k
          · rw [e]; exact Nat.le_refl _
          · have := h5 j (by omega) hj2
            omega
    · simp only [sHostF, hp, if_false]
      rcases ih' with ⟨e1, e2, e3⟩ | ⟨h, h1, h2, h3, h4, h5⟩
      · left
        refine ⟨e1, e2, fun j hj => ?_⟩
        by_cases e : j = k
        · rw [e]; exact hp
        · exact e3 j (by omega)
      · right
        refine ⟨h, by omega, h2, h3, h4, fun j hj hj2 => ?_⟩
        by_cases e : j = k
        · rw [e] at hj2; exact absurd hj2 hp
        · exact h5 j (by omega) hj2
theorem host_spec {P Q : Nat → Int32} {q : Nat → Nat} {t : Int32} {n : Nat} (hq : nR Q q n) : (sHost P Q t n = (-6) ∧ ∀ j, j < n → ¬ P j = t) ∨ ∃ h, h < n ∧ sHost P Q t n = nI h ∧ P h = t ∧ ∀ j, j < n → P j = t → q j ≤ q h := by
  rcases host_step (P := P) (t := t) hq n (Nat.le_refl n) with ⟨e1, -, e3⟩ | ⟨h, h1, h2, -, h4, h5⟩
  · exact Or.inl ⟨e1, e3⟩
  · exact Or.inr ⟨h, h1, h2, h4, h5⟩
/-! the company -/
theorem comp_step {P Q : Nat → Int32} {t : Int32} : ∀ k, k ≤ 10 → ∃ h, h ≤ k ∧ (mfold (sCompF P Q t (-6)) (0, 0, 1) k).1 = nI h ∧ (h = 0 ↔ ∀ j, j < k → ¬ P j = t) := by
  intro k
  induction k with
  | zero => exact fun _ => ⟨0, Nat.le_refl _, rfl, by simp⟩
  | succ k ih =>
    intro hk
    obtain ⟨h, h1, h2, h3⟩ := ih (by omega)
    rw [mfold_succ]
    by_cases hp : P k = t
    · refine ⟨h + 1, by omega, ?_, ?_⟩
      · have e : (sCompF P Q t (-6) (mfold (sCompF P Q t (-6)) (0, 0, 1) k) k).1 = (mfold (sCompF P Q t (-6)) (0, 0, 1) k).1 + 1 := by
          unfold sCompF
          rw [if_pos hp, if_neg (m_ne6 (by omega))]
        rw [e, h2]
        exact nI_1 h
      · constructor
        · intro z; omega
        · intro z; exact absurd hp (z k (by omega))
    · refine ⟨h, by omega, ?_, ?_⟩
      · unfold sCompF
        rw [if_neg hp]
        exact h2
      · rw [h3]
        constructor
        · intro z j hj
          by_cases e : j = k
          · rw [e]; exact hp
          · exact z j (by omega)
        · intro z j hj
          exact z j (by omega)
theorem comp_le {P Q : Nat → Int32} {t : Int32} {n : Nat} (h10 : n ≤ 10) : ∃ c, c ≤ 4 ∧ sComp P Q t (-6) n = nI c ∧ (c = 0 ↔ ∀ j, j < n → ¬ P j = t) := by
  obtain ⟨h, h1, h2, h3⟩ := comp_step (P := P) (Q := Q) (t := t) n h10
  unfold sComp
  rw [h2]
  by_cases q : 3 ≤ h
  · rw [if_pos (show (3 : Int32) ≤ nI h from nI_le q (by omega))]
    split
    · exact ⟨4, by decide, rfl, by rw [← h3]; omega⟩
    · exact ⟨3, by decide, rfl, by rw [← h3]; omega⟩
  · rw [if_neg (show ¬ (3 : Int32) ≤ nI h from nI_ge (a := h) (b := 3) (by omega) (by decide))]
    exact ⟨h, by omega, rfl, h3⟩
/-! the lender -/
theorem lend_spec {P Q R : Nat → Int32} {x t : Int32} : ∀ n, sLend P Q R x t n = (-6) ∨ ∃ j, j < n ∧ sLend P Q R x t n = nI j ∧ ¬ nI j = x ∧ ¬ R j ≤ 0 ∧ P j = t := by
  intro n
  unfold sLend
  induction n with
  | zero => exact Or.inl rfl
  | succ n ih =>
    rw [mfold_succ]
    generalize mfold (sLendF P Q R x t) (-6, 10) n = a at ih
    obtain ⟨a1, a2⟩ := a
    simp only at ih
    have keep : a1 = (-6) ∨ ∃ j, j < n + 1 ∧ a1 = nI j ∧ ¬ nI j = x ∧ ¬ R j ≤ 0 ∧ P j = t := by
      rcases ih with e | ⟨j, j1, j2⟩
      · exact Or.inl e
      · exact Or.inr ⟨j, by omega, j2⟩
    unfold sLendF
    by_cases h1 : nI n = x
    · rw [if_pos h1]; exact keep
    · rw [if_neg h1]
      by_cases h2 : P n = t
      · rw [if_pos h2]
        by_cases h3 : R n ≤ 0
        · rw [if_pos h3]; exact keep
        · rw [if_neg h3]
          by_cases h4 : a2 ≤ Q n
          · simp only [h4, if_true]; exact keep
          · simp only [h4, if_false]
            exact Or.inr ⟨n, Nat.lt_succ_self n, rfl, h1, h3, h2⟩
      · rw [if_neg h2]; exact keep
/-! what a pause means -/
theorem mMB_fin : ∀ i, i < 20 → ∃ v, v ≤ 11 ∧ mMB i = nI v := by
  intro i hi
  have h : ∀ i, i < 20 → (mMB i).toNatClampNeg ≤ 11 ∧ mMB i = nI (mMB i).toNatClampNeg := by decide +kernel
  exact ⟨_, (h i hi).1, (h i hi).2⟩
theorem mean_nat (S : Nat → Int32) (c : Nat) (s : Int32) (hc : c ≤ 4) : ∃ v, v ≤ 11 ∧ sMean S c s = nI v := by
  unfold sMean
  split
  · exact mMB_fin _ (by have := sShade_le S s; omega)
  · exact ⟨0, by decide, rfl⟩
theorem beg_n {S : Nat → Int32} {a b : Nat} (e0 : S 0 = nI a) (e1 : S 1 = nI b) (j : Nat) : sBeg S (nI j) = nI (a + j * b) := by
  unfold sBeg
  rw [e0, e1, pk_mul, nI_add]
theorem mean_big {S : Nat → Int32} {a b c q : Nat} (e0 : S 0 = nI a) (e1 : S 1 = nI b) (ha : a ≤ 20) (hb2 : b ≤ 20) (hq : 999 ≤ q) (hq2 : q ≤ 100000) : sMean S c (nI q) = mMB (c * 4 + 3) := by
  unfold sMean
  rw [e0, if_pos (nI_le (by omega) (by omega))]
  unfold sShade
  rw [show sBeg S 3 = nI (a + 3 * b) from beg_n e0 e1 3, if_neg (nI_nlt (by omega) (by omega))]
theorem turn_ne {S : Nat → Int32} {a b c p : Nat} (e0 : S 0 = nI a) (e1 : S 1 = nI b) (ha : a ≤ 20) (hb2 : b ≤ 20) (hp : p ≤ 100000) : ∀ m i, i + m = 4 → ¬ sTurn S c (nI p) i m = (-5) := by
  intro m
  induction m with
  | zero => intro i _ e; exact absurd (show (-6 : Int32) = (-5) from e) (by decide)
  | succ m ih =>
    intro i hi e
    unfold sTurn at e
    rw [beg_n e0 e1 i] at e
    by_cases h : nI (a + i * b) ≤ nI p
    · rw [if_pos h] at e
      exact ih (i + 1) (by omega) e
    · rw [if_neg h] at e
      by_cases h2 : sMean S c (nI (a + i * b)) = sMean S c (nI p)
      · rw [if_pos h2] at e
        exact ih (i + 1) (by omega) e
      · rw [if_neg h2] at e
        have hi3 : i * b ≤ 4 * 20 := Nat.mul_le_mul (by omega) hb2
        have h3 : p < a + i * b := by
          rcases Nat.lt_or_ge p (a + i * b) with z | z
          · exact z
          · exact absurd (nI_le z (by omega)) h
        obtain ⟨z, hz⟩ : ∃ z, a + i * b = p + z := ⟨a + i * b - p, by omega⟩
        have e4 : nI (a + i * b) - nI p = nI z := by
          rw [hz, ← nI_add, Int32.add_comm, Int32.add_sub_cancel]
        rw [e4] at e
        have := congrArg Int32.toInt e
        rw [i_n (by omega), show (-5 : Int32).toInt = -5 from by decide] at this
        omega
/-! what was meant -/
theorem most_spec {o : Nat → Int32} : ∀ k, ((mfold (sMostF o) (-6, 0) k).1 = (-6) ∧ (mfold (sMostF o) (-6, 0) k).2 = 0 ∧ ∀ m, 1 ≤ m → m ≤ k → o m ≤ 0) ∨ ∃ m, 1 ≤ m ∧ m ≤ k ∧ (mfold (sMostF o) (-6, 0) k).1 = nI m ∧ (mfold (sMostF o) (-6, 0) k).2 = o m ∧ ¬ o m ≤ 0 := by
  intro k
  induction k with
  | zero => exact Or.inl ⟨rfl, rfl, fun m h1 h2 => by omega⟩
  | succ k ih =>
    rw [mfold_succ]
    generalize mfold (sMostF o) (-6, 0) k = a at ih
    obtain ⟨a1, a2⟩ := a
    simp only at ih
    unfold sMostF
    by_cases h : o (k + 1) ≤ a2
    · simp only [h, if_true]
      rcases ih with ⟨e1, e2, e3⟩ | ⟨m, m1, m2, m3, m4, m5⟩
      · refine Or.inl ⟨e1, e2, fun m h1 h2 => ?_⟩
        by_cases e : m = k + 1
        · rw [e, ← e2]; exact h
        · exact e3 m h1 (by omega)
      · exact Or.inr ⟨m, m1, by omega, m3, m4, m5⟩
    · simp only [h, if_false]
      refine Or.inr ⟨k + 1, by omega, Nat.le_refl _, rfl, rfl, fun z => h ?_⟩
      rcases ih with ⟨-, e2, -⟩ | ⟨m, -, -, -, m4, m5⟩
      · rw [e2]; exact z
      · rw [m4]
        rw [i_le] at z m5 ⊢
        rw [i_0] at z m5
        omega
theorem bt_meant {o : Nat → Int32} : ∀ k, k ≤ 11 → ∀ i, i < 32 → bt (mfold (sMeantF o) 0 k) i = (decide (1 ≤ i ∧ i ≤ k) && decide (¬ o i ≤ 0)) := by
  intro k
  induction k with
  | zero =>
    intro _ i hi
    show bt 0 i = _
    rw [b_0]
    simp
    omega
  | succ k ih =>
    intro hk i hi
    rw [mfold_succ]
    have ih' := ih (by omega) i hi
    generalize mfold (sMeantF o) 0 k = a at ih'
    unfold sMeantF
    by_cases h : i = k + 1
    · subst h
      split
      · next q => rw [ih']; simp [q]
      · next q => rw [b_or, ih', bt_pow (by omega) hi]; simp [q]
    · have e1 : decide (1 ≤ i ∧ i ≤ k + 1) = decide (1 ≤ i ∧ i ≤ k) := by
        by_cases z : 1 ≤ i ∧ i ≤ k
        · simp [z, show i ≤ k + 1 by omega]
        · have z2 : ¬ (1 ≤ i ∧ i ≤ k + 1) := by omega
          simp only [z, z2]
      rw [e1]
      split
      · exact ih'
      · rw [b_or, ih', bt_pow (by omega) hi]
        simp [h]
/-- the commonest meaning is one that was meant; none, if nothing was -/
theorem usual_ok {o : Nat → Int32} : (sMost o = (-6) ∧ sMeant o = 0) ∨ ∃ m, 1 ≤ m ∧ m ≤ 11 ∧ sMost o = nI m ∧ (sMeant o >>> (nI m &&& 31)) &&& 1 = 1 := by
  rcases most_spec (o := o) 11 with ⟨e1, -, e3⟩ | ⟨m, m1, m2, m3, -, m5⟩
  · left
    refine ⟨e1, ?_⟩
    apply b_ext
    intro i hi
    rw [show sMeant o = mfold (sMeantF o) 0 11 from rfl, bt_meant 11 (Nat.le_refl _) i hi, b_0]
    by_cases z : 1 ≤ i ∧ i ≤ 11
    · simp [e3 i z.1 z.2]
    · simp [z]
  · right
    refine ⟨m, m1, m2, m3, ?_⟩
    rw [bt_test (by omega), show sMeant o = mfold (sMeantF o) 0 11 from rfl, bt_meant 11 (Nat.le_refl _) m (by omega)]
    simp [m1, m2, m5]
