/-! a pause's end is told -/
def xW (A : Nat → Nat → Int32) (h : Nat) (t s m w : Int32) : Nat → Nat → Int32 := pe (pe (pe (pe (pe (cpB A 18 18 0 5 45) 18 0 (nI h)) 18 1 t) 18 2 s) 18 3 m) 18 4 w
def xT (A : Nat → Nat → Int32) (h : Nat) (t s m w : Int32) : Nat → Nat → Int32 := pe (xW A h t s m w) 14 4 (if 10 < xW A h t s m w 14 4 + 1 then 10 else xW A h t s m w 14 4 + 1)
theorem xTell_T (A : Nat → Nat → Int32) (h : Nat) (t s m w : Int32) : xTell A h t s m w = pe (xT A h t s m w) 17 h (xT A h t s m w 17 h + 1) := rfl
def eW (M : Nat → Nat → Int32) (e t h : Nat) (m w : Int32) : Nat → Nat → Int32 := pe (pe (pe (pe (pe M 173 (38 + 5 * e) (nI h)) 173 ((38 + 5 * e) + 1) (nI t)) 173 ((38 + 5 * e) + 2) ((pe (pe M 173 (38 + 5 * e) (nI h)) 173 ((38 + 5 * e) + 1) (nI t)) 173 (10 + t))) 173 ((38 + 5 * e) + 3) m) 173 ((38 + 5 * e) + 4) w
def eT (M : Nat → Nat → Int32) (e t h : Nat) (m w : Int32) : Nat → Nat → Int32 := pe (eW M e t h m w) 173 9 (eW M e t h m w 173 9 + 1)
theorem yEn1_T (M : Nat → Nat → Int32) (e t h : Nat) (m w : Int32) : yEn1 M e t h m w = pe (pe (pe (eT M e t h m w) 173 (6 + h) (eT M e t h m w 173 (6 + h) + 1)) 173 (13 + t) ((pe (eT M e t h m w) 173 (6 + h) (eT M e t h m w 173 (6 + h) + 1)) 173 (13 + t) + 1)) 173 (10 + t) (-6) := rfl
theorem xT_o {A : Nat → Nat → Int32} {h c k : Nat} {t s m w : Int32} (h1 : c ≠ 18) (h2 : ¬ (c = 14 ∧ k = 4)) : xT A h t s m w c k = A c k := by
  unfold xT xW
  repeat (rw [pe_ne (by omega)])
  rw [cpB_at, if_neg (by omega)]
theorem xT_w {A : Nat → Nat → Int32} {h k : Nat} {t s m w : Int32} (h1 : 5 ≤ k) (h2 : k < 50) : xT A h t s m w 18 k = A 18 (k - 5) := by
  unfold xT xW
  repeat (rw [pe_ne (by omega)])
  rw [cpB_at, if_pos (by omega), Nat.zero_add]
theorem xT_t {A : Nat → Nat → Int32} {h e : Nat} {t s m w : Int32} (ha : A 14 4 = nI e) (he : e ≤ 10) : xT A h t s m w 14 4 = nI (if e < 10 then e + 1 else 10) := by
  have e1 : xW A h t s m w 14 4 = nI e := by
    unfold xW
    repeat (rw [pe_ne (by omega)])
    rw [cpB_at, if_neg (by omega)]
    exact ha
  unfold xT
  rw [pe_eq, e1, nI_1]
  by_cases q : e < 10
  · rw [if_pos q, if_neg (show ¬ (10 : Int32) < nI (e + 1) from nI_nlt (a := 10) (b := e + 1) (by omega) (by decide))]
  · rw [if_neg q, if_pos (show (10 : Int32) < nI (e + 1) from nI_lt (a := 10) (b := e + 1) (by omega) (by omega))]
    rfl
theorem eT_o {M : Nat → Nat → Int32} {e t h j : Nat} {m w : Int32} (h1 : j ≠ 9) (h2 : j < 38 + 5 * e ∨ 38 + 5 * e + 5 ≤ j) : eT M e t h m w 173 j = M 173 j := by
  unfold eT eW
  repeat (rw [pe_ne (by omega)])
theorem eT_t {M : Nat → Nat → Int32} {e t h : Nat} {m w : Int32} : eT M e t h m w 173 9 = M 173 9 + 1 := by
  unfold eT
  rw [pe_eq]
  unfold eW
  repeat (rw [pe_ne (by omega)])
theorem RR_core {A M : Nat → Nat → Int32} {n e : Nat} (hR : RR 5 n e A (M 173)) (he : e < 10) {u h : Nat} (hu : u < 3) (m w : Int32) : RR 5 n (e + 1) (xT A h (nI u) (A 19 u) m w) (eT M e u h m w 173) := by
  obtain ⟨r1, r2, ⟨r3, r3', h10⟩, r4, ⟨r5, r5', t10⟩, r6, r7, r8, r9, r10⟩ := hR
  refine ⟨?_, ?_, ⟨?_, ?_, h10⟩, ?_, ⟨?_, ?_, he⟩, ?_, ?_, ?_, ?_, ?_⟩
  · intro j hj
    rw [eT_o (by omega) (by omega), xT_o (by omega) (by omega)]
    exact r1 j hj
  · rw [eT_o (by omega) (by omega), xT_o (by omega) (by omega)]
    exact r2
  · rw [eT_o (by omega) (by omega)]
    exact r3
  · rw [xT_o (by omega) (by omega)]
    exact r3'
  · intro z hz
    rw [eT_o (by omega) (by omega), xT_o (by omega) (by omega)]
    exact r4 z hz
  · rw [eT_t, r5]
    exact nI_1 e
  · have := xT_t (A := A) (h := h) (t := nI u) (s := A 19 u) (m := m) (w := w) r5' t10
    rwa [if_pos he] at this
  · intro z hz
    rw [eT_o (by omega) (by omega), xT_o (by omega) (by omega)]
    exact r6 z hz
  · intro z hz
    rw [eT_o (by omega) (by omega), xT_o (by omega) (by omega)]
    exact r7 z hz
  · intro z h1 h2
    rw [eT_o (by omega) (by omega), eT_o (by omega) (by omega), xT_o (by omega) (by omega), xT_o (by omega) (by omega)]
    exact r8 z h1 h2
  · intro r w1 hr hw1
    show eT M e u h m w 173 (38 + 5 * (e + 1 - 1 - r) + w1) = xT A h (nI u) (A 19 u) m w 18 (5 * r + w1)
    by_cases r0 : r = 0
    · subst r0
      rw [show 38 + 5 * (e + 1 - 1 - 0) + w1 = 38 + 5 * e + w1 by omega, show 5 * 0 + w1 = w1 by omega]
      have hp : M 173 (10 + u) = A 19 u := r6 u hu
      unfold eT eW xT xW
      rcases (by omega : w1 = 0 ∨ w1 = 1 ∨ w1 = 2 ∨ w1 = 3 ∨ w1 = 4) with rfl | rfl | rfl | rfl | rfl
      all_goals (repeat (first | rw [pe_at, if_pos (by omega)] | rw [pe_at, if_neg (by omega)]))
      exact hp
    · rw [eT_o (by omega) (by omega), xT_w (by omega) (by omega)]
      have := r9 (r - 1) w1 (by omega) hw1
      rw [show 38 + 5 * (e - 1 - (r - 1)) + w1 = 38 + 5 * (e + 1 - 1 - r) + w1 by omega, show 5 * (r - 1) + w1 = 5 * r + w1 - 5 by omega] at this
      exact this
  · intro z w1 hz hw1
    rw [eT_o (by omega) (by omega), xT_o (by omega) (by omega)]
    exact r10 z w1 hz hw1
theorem RR_A {n e : Nat} {A B : Nat → Nat → Int32} {S : Nat → Int32} (h : RR 5 n e A S) (hAB : ∀ c k, B c k = A c k) : RR 5 n e B S := by
  have : B = A := funext (fun c => funext (fun k => hAB c k))
  rw [this]
  exact h
theorem RR_shift {A M : Nat → Nat → Int32} {n : Nat} (hR : RR 5 n 10 A (M 173)) : RR 5 n 9 (pe A 14 4 (nI 9)) (yShE M 173) := by
  obtain ⟨r1, r2, ⟨r3, r3', h10⟩, r4, ⟨r5, r5', t10⟩, r6, r7, r8, r9, r10⟩ := hR
  have lo : ∀ j, j < 38 ∨ 83 ≤ j → j ≠ 9 → yShE M 173 j = M 173 j := by
    intro j h1 h2
    unfold yShE
    rw [cpB_at, if_neg (by omega), pe_ne (by omega)]
  refine ⟨?_, ?_, ⟨?_, ?_, h10⟩, ?_, ⟨?_, ?_, by decide⟩, ?_, ?_, ?_, ?_, ?_⟩
  · intro j hj
    rw [lo j (by omega) (by omega), pe_ne (by omega)]
    exact r1 j hj
  · rw [lo 4 (by omega) (by omega), pe_ne (by omega)]
    exact r2
  · rw [lo 5 (by omega) (by omega)]
    exact r3
  · rw [pe_ne (by omega)]
    exact r3'
  · intro z hz
    rw [lo (6 + z) (by omega) (by omega), pe_ne (by omega)]
    exact r4 z hz
  · unfold yShE
    rw [cpB_at, if_neg (by omega), pe_eq, r5]
    rfl
  · exact pe_eq _ _ _ _
  · intro z hz
    rw [lo (10 + z) (by omega) (by omega), pe_ne (by omega)]
    exact r6 z hz
  · intro z hz
    rw [lo (13 + z) (by omega) (by omega), pe_ne (by omega)]
    exact r7 z hz
  · intro z h1 h2
    rw [lo (16 + 2 * (z - 1)) (by omega) (by omega), lo (16 + 2 * (z - 1) + 1) (by omega) (by omega), pe_ne (by omega), pe_ne (by omega)]
    exact r8 z h1 h2
  · intro r w1 hr hw1
    rw [pe_ne (by omega)]
    unfold yShE
    rw [cpB_at, if_pos (by omega), pe_ne (by omega)]
    have := r9 r w1 (by omega) hw1
    rw [show 38 + 5 * (10 - 1 - r) + w1 = 43 + (38 + 5 * (9 - 1 - r) + w1 - 38) by omega] at this
    exact this
  · intro z w1 hz hw1
    rw [lo (88 + 6 * z + w1) (by omega) (by omega), pe_ne (by omega)]
    exact r10 z w1 hz hw1
theorem xT_sh {A : Nat → Nat → Int32} {h : Nat} {t s m w : Int32} (ha : A 14 4 = nI 10) (c k : Nat) : xT A h t s m w c k = xT (pe A 14 4 (nI 9)) h t s m w c k := by
  by_cases h14 : c = 14 ∧ k = 4
  · obtain ⟨rfl, rfl⟩ := h14
    rw [xT_t ha (Nat.le_refl 10), xT_t (e := 9) (pe_eq _ _ _ _) (by decide)]
    rfl
  · by_cases h18 : c = 18
    · subst h18
      by_cases k5 : 5 ≤ k ∧ k < 50
      · rw [xT_w k5.1 k5.2, xT_w k5.1 k5.2, pe_ne (by omega)]
      · unfold xT xW
        have hk : ¬ ((18 : Nat) = 18 ∧ 5 ≤ k ∧ k < 5 + 45) := by omega
        simp only [pe_at, cpB_at, if_neg hk, show ((18 : Nat) = 14) = False from by decide, false_and, if_false]
    · rw [xT_o h18 h14, xT_o h18 h14, pe_ne h14]
