def zc (c : Int64) (k : Nat) : Nat := uC c k % 256
theorem zc_lt (c : Int64) (k : Nat) : zc c k < 256 := Nat.mod_lt _ (by decide)
theorem uC_succ (c : Int64) (k : Nat) : uC c k = uC c (k + 1) * 256 + zc c k := by
  unfold zc uC
  rw [show 8 * (k + 1) = 8 * k + 8 by omega, Nat.pow_add, ← Nat.div_div_eq_div_mul]
  omega
theorem uC_8 (c : Int64) : uC c 8 = 0 := Nat.div_eq_of_lt c.toBitVec.isLt
theorem uC_0 (c : Int64) : ∀ r k, k + r = 8 → (uC c k = 0 ↔ ∀ j, k ≤ j → j < 8 → zc c j = 0) := by
  intro r
  induction r with
  | zero =>
    intro k hk
    obtain rfl : k = 8 := by omega
    exact ⟨fun _ j h1 h2 => by omega, fun _ => uC_8 c⟩
  | succ r ih =>
    intro k hk
    have h := ih (k + 1) (by omega)
    have hs := uC_succ c k
    constructor
    · intro z j h1 h2
      by_cases e : j = k
      · subst e
        omega
      · exact h.mp (by omega) j (by omega) h2
    · intro z
      have h1 := h.mpr (fun j q1 q2 => z j (by omega) q2)
      have h2 := z k (by omega) (by omega)
      omega
theorem uC_z (c : Int64) {k : Nat} (hk : k < 8) (h0 : zc c k = 0) : uC c k = 0 ↔ ∀ j, k < j → j < 8 → zc c j = 0 := by
  rw [uC_0 c (8 - k) k (by omega)]
  constructor
  · intro z j h1 h2
    exact z j (by omega) h2
  · intro z j h1 h2
    by_cases e : j = k
    · rw [e]; exact h0
    · exact z j (by omega) h2
theorem nI_z {v : Nat} (h : v < 256) : nI v = 0 ↔ v = 0 := by
  rw [show (0 : Int32) = nI 0 from rfl]
  exact nI_eq (by omega) (by omega)
theorem nI_rg {v : Nat} (h : v < 256) : (33 ≤ nI v ∧ nI v ≤ 126) ↔ (33 ≤ v ∧ v ≤ 126) := by
  rw [show (33 : Int32) = nI 33 from rfl, show (126 : Int32) = nI 126 from rfl, nI_leI (by omega) (by omega), nI_leI (by omega) (by omega)]
def rg (c : Int64) (j : Nat) : Prop := 33 ≤ zc c j ∧ zc c j ≤ 126
def pI (c : Int64) (k : Nat) : Prop :=
  (∃ y, mPutL c k = (nI k, 0, y) ∧ (∀ j, j < k → zc c j ≠ 0) ∧ (¬ y = 0 ↔ ∀ j, j < k → rg c j)) ∨
  (∃ m y, m < k ∧ mPutL c k = (nI m, 1, y) ∧ (∀ j, j < m → zc c j ≠ 0) ∧ zc c m = 0 ∧ (¬ y = 0 ↔ (∀ j, j < m → rg c j) ∧ ∀ j, m < j → j < k → zc c j = 0))
theorem put_step (c : Int64) : ∀ k, k ≤ 8 → pI c k := by
  intro k
  induction k with
  | zero =>
    intro _
    exact Or.inl ⟨1, rfl, fun j h => by omega, by
      constructor
      · intro _ j h
        omega
      · intro _
        decide⟩
  | succ k ih =>
    intro hk
    have hz := zc_lt c k
    have hs : mPutL c (k + 1) = mPutF c (mPutL c k) k := rfl
    have hm : mCode c (nI k) = nI (zc c k) := mCode_u c (by omega)
    rcases ih (by omega) with ⟨y, e, h1, h2⟩ | ⟨m, y, hmk, e, h1, h0, h2⟩
    · rw [pI, hs, e]
      unfold mPutF
      rw [hm]
      by_cases z : zc c k = 0
      · refine Or.inr ⟨k, (if y = 0 then 0 else 1), Nat.lt_succ_self k, ?_, h1, z, ?_⟩
        · rw [if_neg (fun q => q.2 ((nI_z hz).mpr z)), z]
          rfl
        · constructor
          · intro q
            have : ¬ y = 0 := fun w => q (by rw [if_pos w])
            exact ⟨h2.mp this, fun j q1 q2 => by omega⟩
          · intro q
            rw [if_neg (h2.mpr q.1)]
            decide
      · refine Or.inl ⟨(if y = 0 then 0 else if mbi (33 ≤ nI (zc c k) ∧ nI (zc c k) ≤ 126) = 0 then 0 else 1), ?_, fun j q => ?_, ?_⟩
        · rw [if_pos ⟨rfl, fun q => z ((nI_z hz).mp q)⟩, nI_1]
        · by_cases w : j = k
          · rw [w]; exact z
          · exact h1 j (by omega)
        · constructor
          · intro q j hj
            have y0 : ¬ y = 0 := fun w => q (by rw [if_pos w])
            rw [if_neg y0] at q
            by_cases w : j = k
            · rw [w]
              have : ¬ mbi (33 ≤ nI (zc c k) ∧ nI (zc c k) ≤ 126) = 0 := fun w => q (by rw [if_pos w])
              exact (nI_rg hz).mp (mbi_n0.mp this)
            · exact h2.mp y0 j (by omega)
          · intro q
            rw [if_neg (h2.mpr (fun j hj => q j (by omega))), if_neg (mbi_n0.mpr ((nI_rg hz).mpr (q k (by omega))))]
            decide
    · rw [pI, hs, e]
      unfold mPutF
      rw [hm]
      refine Or.inr ⟨m, (if y = 0 then 0 else if nI (zc c k) = 0 then 1 else 0), by omega, ?_, h1, h0, ?_⟩
      · rw [if_neg (fun q => absurd (show (1 : Int32) = 0 from q.1) (by decide))]
      · constructor
        · intro q
          have y0 : ¬ y = 0 := fun w => q (by rw [if_pos w])
          rw [if_neg y0] at q
          have hk0 : nI (zc c k) = 0 := by
            by_cases w : nI (zc c k) = 0
            · exact w
            · exact absurd (if_neg w) q
          refine ⟨(h2.mp y0).1, fun j q1 q2 => ?_⟩
          by_cases w : j = k
          · rw [w]; exact (nI_z hz).mp hk0
          · exact (h2.mp y0).2 j q1 (by omega)
        · intro q
          rw [if_neg (h2.mpr ⟨q.1, fun j q1 q2 => q.2 j q1 (by omega)⟩), if_pos ((nI_z hz).mpr (q.2 k (by omega) (by omega)))]
          decide
theorem ch_go (c : Int64) {m : Nat} (hm : m ≤ 8) (hz : m = 8 ∨ zc c m = 0) : ∀ r k, k + r = m → (∀ j, k ≤ j → j < m → rg c j) → sChL c k (8 - k) = sChF c m := by
  intro r
  induction r with
  | zero =>
    intro k hk _
    obtain rfl : k = m := by omega
    by_cases h8 : k = 8
    · rw [h8]
      rfl
    · have h0 : zc c k = 0 := by
        rcases hz with h | h
        · exact absurd h h8
        · exact h
      rw [show 8 - k = (8 - k - 1) + 1 by omega, sChL, if_pos]
      rw [sCode_u c (by omega)]
      exact (nI_z (zc_lt c k)).mpr h0
  | succ r ih =>
    intro k hk hr
    have h1 := hr k (Nat.le_refl k) (by omega)
    have hl := zc_lt c k
    have h2 := (nI_rg hl).mpr h1
    rw [show 8 - k = (8 - (k + 1)) + 1 by omega, sChL, show sCode c (nI k) = nI (zc c k) from sCode_u c (by omega), if_neg (fun q => by have := (nI_z hl).mp q; have := h1.1; omega), if_neg (Int32.not_lt.mpr h2.1), if_pos h2.2]
    exact ih (k + 1) (by omega) (fun j q1 q2 => hr j (by omega) q2)
theorem ch_bad (c : Int64) {m : Nat} (hm : m < 8) (h0 : zc c m ≠ 0) (hb : ¬ rg c m) : ∀ r k, k + r = m → (∀ j, k ≤ j → j < m → rg c j) → sChL c k (8 - k) = 0 := by
  intro r
  induction r with
  | zero =>
    intro k hk _
    obtain rfl : k = m := by omega
    have hl := zc_lt c k
    rw [show 8 - k = (8 - k - 1) + 1 by omega, sChL, show sCode c (nI k) = nI (zc c k) from sCode_u c (by omega), if_neg (fun q => h0 ((nI_z hl).mp q))]
    by_cases w : nI (zc c k) < 33
    · rw [if_pos w]
    · rw [if_neg w, if_neg (fun q => hb ((nI_rg hl).mp ⟨Int32.not_lt.mp w, q⟩))]
  | succ r ih =>
    intro k hk hr
    have h1 := hr k (Nat.le_refl k) (by omega)
    have hl := zc_lt c k
    have h2 := (nI_rg hl).mpr h1
    rw [show 8 - k = (8 - (k + 1)) + 1 by omega, sChL, show sCode c (nI k) = nI (zc c k) from sCode_u c (by omega), if_neg (fun q => by have := (nI_z hl).mp q; have := h1.1; omega), if_neg (Int32.not_lt.mpr h2.1), if_pos h2.2]
    exact ih (k + 1) (by omega) (fun j q1 q2 => hr j (by omega) q2)
/-- the first that is no character in its range, if there is one -/
theorem rg_first (c : Int64) : ∀ m, (∀ j, j < m → rg c j) ∨ ∃ j, j < m ∧ ¬ rg c j ∧ ∀ i, i < j → rg c i := by
  intro m
  induction m with
  | zero => exact Or.inl (fun j h => by omega)
  | succ m ih =>
    rcases ih with h | ⟨j, h1, h2, h3⟩
    · by_cases q : 33 ≤ zc c m ∧ zc c m ≤ 126
      · exact Or.inl (fun j hj => by
          by_cases e : j = m
          · rw [e]; exact q
          · exact h j (by omega))
      · exact Or.inr ⟨m, Nat.lt_succ_self m, q, h⟩
    · exact Or.inr ⟨j, by omega, h2, h3⟩
theorem lg_0 {u : Nat} (h : u < 2 ^ 64) : lg_cmp (lN u) 0 = 0 ↔ u = 0 := by
  have e : lN u = 0 ↔ u = 0 := by
    constructor
    · intro q
      have := congrArg (fun x : Int64 => x.toBitVec.toNat) q
      simp only [lN] at this
      have h2 : (BitVec.ofNat 64 u).toNat = 0 := this
      rw [BitVec.toNat_ofNat] at h2
      omega
    · intro q
      rw [q]
      rfl
  exact (lg_cmp_eq _ _).trans e
theorem sChF_u (c : Int64) {m : Nat} (hm : m < 8) (h0 : zc c m = 0) : ((∀ j, m < j → j < 8 → zc c j = 0) → sChF c m = nI m) ∧ (¬ (∀ j, m < j → j < 8 → zc c j = 0) → sChF c m = 0) := by
  have hu : uC c m < 2 ^ 64 := Nat.lt_of_le_of_lt (Nat.div_le_self _ _) c.toBitVec.isLt
  unfold sChF
  rw [if_pos hm, sTop_u c hm]
  constructor
  · intro q
    rw [if_pos ((lg_0 hu).mpr ((uC_z c hm h0).mpr q))]
  · intro q
    rw [if_neg (fun w => q ((uC_z c hm h0).mp ((lg_0 hu).mp w)))]
/-- put: as many characters for both, or none for both -/
theorem put_eq (c : Int64) : (∃ m, 0 < m ∧ m ≤ 8 ∧ (mPutL c 8).1 = nI m ∧ ¬ (mPutL c 8).2.2 = 0 ∧ sChL c 0 8 = nI m) ∨ (¬ (¬ (mPutL c 8).2.2 = 0 ∧ ¬ (mPutL c 8).1 = 0) ∧ sChL c 0 8 = 0) := by
  rcases put_step c 8 (Nat.le_refl 8) with ⟨y, e, h1, h2⟩ | ⟨m, y, hmk, e, h1, h0, h2⟩
  · rw [e]
    rcases rg_first c 8 with h | ⟨j, q1, q2, q3⟩
    · left
      exact ⟨8, by decide, Nat.le_refl 8, rfl, h2.mpr h, ch_go c (Nat.le_refl 8) (Or.inl rfl) 8 0 rfl (fun j _ hj => h j hj)⟩
    · right
      exact ⟨fun w => q2 (h2.mp w.1 j q1), ch_bad c q1 (h1 j q1) q2 j 0 (Nat.zero_add j) (fun i _ hi => q3 i hi)⟩
  · rw [e]
    rcases rg_first c m with h | ⟨j, q1, q2, q3⟩
    · have hc := ch_go c (m := m) (by omega) (Or.inr h0) m 0 (Nat.zero_add m) (fun j _ hj => h j hj)
      obtain ⟨g1, g2⟩ := sChF_u c (by omega) h0
      by_cases w : ∀ j, m < j → j < 8 → zc c j = 0
      · by_cases m0 : m = 0
        · right
          refine ⟨fun q => q.2 (by rw [m0]; rfl), ?_⟩
          rw [show sChL c 0 8 = sChF c m from hc, g1 w, m0]
          rfl
        · left
          exact ⟨m, by omega, by omega, rfl, h2.mpr ⟨h, w⟩, hc.trans (g1 w)⟩
      · right
        exact ⟨fun q => w (h2.mp q.1).2, hc.trans (g2 w)⟩
    · right
      exact ⟨fun w => q2 ((h2.mp w.1).1 j q1), ch_bad c (by omega) (h1 j q1) q2 j 0 (Nat.zero_add j) (fun i _ hi => q3 i hi)⟩
