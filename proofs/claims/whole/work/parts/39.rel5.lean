theorem RR_tail {A M : Nat → Nat → Int32} {n e : Nat} (hR : RR 5 n e A (M 173)) {u h : Nat} (hu : u < 3) (hh : h < 3) : RR 5 n e (pe (pe (pe A 17 h (A 17 h + 1)) 20 u (pe A 17 h (A 17 h + 1) 20 u + 1)) 19 u (-6)) (pe (pe (pe M 173 (6 + h) (M 173 (6 + h) + 1)) 173 (13 + u) (pe M 173 (6 + h) (M 173 (6 + h) + 1) 173 (13 + u) + 1)) 173 (10 + u) (-6) 173) := by
  have e1 : M 173 (6 + h) = A 17 h := hR.2.2.2.1 h hh
  have h1 : RR 5 n e (pe A 17 h (A 17 h + 1)) (pe M 173 (6 + h) (M 173 (6 + h) + 1) 173) := by
    rw [e1]
    exact RR_endings hR hh _
  have e2 : pe M 173 (6 + h) (M 173 (6 + h) + 1) 173 (13 + u) = pe A 17 h (A 17 h + 1) 20 u := h1.2.2.2.2.2.2.1 u hu
  have h2 : RR 5 n e (pe (pe A 17 h (A 17 h + 1)) 20 u (pe A 17 h (A 17 h + 1) 20 u + 1)) (pe (pe M 173 (6 + h) (M 173 (6 + h) + 1)) 173 (13 + u) (pe M 173 (6 + h) (M 173 (6 + h) + 1) 173 (13 + u) + 1) 173) := by
    rw [e2]
    exact RR_ended h1 hu _
  exact RR_pause h2 hu _
theorem RR_tell {A M : Nat → Nat → Int32} {n e : Nat} (hR : RR 5 n e A (M 173)) {u h : Nat} (hu : u < 3) (hh : h < 3) (m w : Int32) : RR 5 n (if e < 10 then e + 1 else 10) (xEnd A h u m w) (yEnds M e u h m w 173) := by
  have he : e ≤ 10 := hR.2.2.2.2.1.2.2
  have hx : xEnd A h u m w = pe (pe (pe (xT A h (nI u) (A 19 u) m w) 17 h (xT A h (nI u) (A 19 u) m w 17 h + 1)) 20 u (pe (xT A h (nI u) (A 19 u) m w) 17 h (xT A h (nI u) (A 19 u) m w 17 h + 1) 20 u + 1)) 19 u (-6) := rfl
  rw [hx]
  by_cases q : e < 10
  · have hy : yEnds M e u h m w = yEn1 M e u h m w := if_pos q
    rw [hy, if_pos q, yEn1_T]
    exact RR_tail (RR_core hR q hu m w) hu hh
  · obtain rfl : e = 10 := by omega
    have hy : yEnds M 10 u h m w = yEn1 (yShE M) 9 u h m w := if_neg q
    rw [hy, if_neg q, yEn1_T]
    have hc := RR_core (RR_shift hR) (by decide : 9 < 10) (u := u) (h := h) hu m w
    rw [show pe A 14 4 (nI 9) 19 u = A 19 u from pe_ne (by omega)] at hc
    exact RR_tail (RR_A hc (fun c k => xT_sh hR.2.2.2.2.1.2.1 c k)) hu hh
theorem yEnds_o {M : Nat → Nat → Int32} {e u h j : Nat} {m w : Int32} (he : e ≤ 10) (h1 : j ≠ 9) (h2 : j < 38 ∨ 88 ≤ j) (h3 : j ≠ 6 + h) (h4 : j ≠ 13 + u) (h5 : j ≠ 10 + u) : yEnds M e u h m w 173 j = M 173 j := by
  unfold yEnds
  split
  · rw [yEn1_T, pe_ne (by omega), pe_ne (by omega), pe_ne (by omega), eT_o (by omega) (by omega)]
  · rw [yEn1_T, pe_ne (by omega), pe_ne (by omega), pe_ne (by omega), eT_o (by omega) (by omega)]
    unfold yShE
    rw [cpB_at, if_neg (by omega), pe_ne (by omega)]
theorem yEnds_p {M : Nat → Nat → Int32} {e u h : Nat} {m w : Int32} : yEnds M e u h m w 173 (10 + u) = (-6) := by
  unfold yEnds
  split <;> (rw [yEn1_T]; exact pe_eq _ _ _ _)
theorem yEnds_r {M : Nat → Nat → Int32} {e u h c : Nat} {m w : Int32} (hc : c ≠ 173) : yEnds M e u h m w c = M c := by
  unfold yEnds
  split
  · unfold yEn1
    repeat (rw [pe_row hc])
  · unfold yEn1
    repeat (rw [pe_row hc])
    unfold yShE
    rw [cpB_row hc, pe_row hc]
theorem xEnd_r {A : Nat → Nat → Int32} {u h c : Nat} {m w : Int32} (hc : c < 14 ∨ 21 ≤ c ∨ c = 15 ∨ c = 16) : xEnd A h u m w c = A c := by
  unfold xEnd xTell
  repeat (rw [pe_row (by omega)])
  rw [cpB_row (by omega)]
theorem yEnds_C {M : Nat → Nat → Int32} {e u h : Nat} {m w : Int32} (he : e ≤ 10) (hu : u < 3) (hh : h < 3) (v : Nat) : mC (yEnds M e u h m w 173) v = mC (M 173) v := by
  funext k
  exact yEnds_o he (by omega) (by omega) (by omega) (by omega) (by omega)
theorem VV_tell {M : Nat → Nat → Int32} {n B e u h : Nat} {m w : Int32} (hV : VV n B (M 173)) (he : e ≤ 10) (hu : u < 3) (hh : h < 3) : VV n B (yEnds M e u h m w 173) :=
  VV_of hV (yEnds_o he (by omega) (by omega) (by omega) (by omega) (by omega)) (yEnds_o he (by omega) (by omega) (by omega) (by omega) (by omega)) (yEnds_o he (by omega) (by omega) (by omega) (by omega) (by omega)) (yEnds_o he (by omega) (by omega) (by omega) (by omega) (by omega)) (fun j hj => Or.inl (by rw [yEnds_C he hu hh])) (fun j hj => by rw [yEnds_C he hu hh]) (fun z hz => by
    by_cases q : z = u
    · rw [q]
      exact Or.inr (Or.inl yEnds_p)
    · exact Or.inl (yEnds_o he (by omega) (by omega) (by omega) (by omega) (by omega))) (fun j hj => by rw [yEnds_C he hu hh])
/-! a meaning is entered -/
theorem RR_mean {A M : Nat → Nat → Int32} {n t mm q : Nat} (hR : RR 5 n t A (M 173)) (h1 : 1 ≤ mm) (h11 : mm ≤ 11) : RR 5 n t (xEnter A mm (nI q)) (yMt M mm q 173) := by
  obtain ⟨r1, r2, ⟨r3, r3', h10⟩, r4, ⟨r5, r5', t10⟩, r6, r7, r8, r9, r10⟩ := hR
  have lo : ∀ j, j ≠ 16 + 2 * (mm - 1) → j ≠ 16 + 2 * (mm - 1) + 1 → yMt M mm q 173 j = M 173 j := by
    intro j q1 q2
    unfold yMt
    rw [pe_ne (by omega), pe_ne (by omega)]
  have la : ∀ c k, c ≠ 15 → c ≠ 16 → xEnter A mm (nI q) c k = A c k := by
    intro c k q1 q2
    unfold xEnter
    rw [pe_ne (by omega), pe_ne (by omega)]
  refine ⟨?_, ?_, ⟨?_, ?_, h10⟩, ?_, ⟨?_, ?_, t10⟩, ?_, ?_, ?_, ?_, ?_⟩
  · intro j hj
    rw [lo j (by omega) (by omega), la _ _ (by omega) (by omega)]
    exact r1 j hj
  · rw [lo 4 (by omega) (by omega), la _ _ (by omega) (by omega)]
    exact r2
  · rw [lo 5 (by omega) (by omega)]
    exact r3
  · rw [la _ _ (by omega) (by omega)]
    exact r3'
  · intro z hz
    rw [lo (6 + z) (by omega) (by omega), la _ _ (by omega) (by omega)]
    exact r4 z hz
  · rw [lo 9 (by omega) (by omega)]
    exact r5
  · rw [la _ _ (by omega) (by omega)]
    exact r5'
  · intro z hz
    rw [lo (10 + z) (by omega) (by omega), la _ _ (by omega) (by omega)]
    exact r6 z hz
  · intro z hz
    rw [lo (13 + z) (by omega) (by omega), la _ _ (by omega) (by omega)]
    exact r7 z hz
  · intro z z1 z11
    obtain ⟨a1, a2⟩ := r8 z z1 z11
    have a1' : M 173 (16 + 2 * (z - 1)) = A 15 z := a1
    have a2' : M 173 (16 + 2 * (z - 1) + 1) = A 16 z := a2
    show yMt M mm q 173 (16 + 2 * (z - 1)) = xEnter A mm (nI q) 15 z ∧ yMt M mm q 173 (16 + 2 * (z - 1) + 1) = xEnter A mm (nI q) 16 z
    by_cases e : z = mm
    · subst e
      have b1 : pe M 173 (16 + 2 * (z - 1)) (M 173 (16 + 2 * (z - 1)) + 1) 173 (16 + 2 * (z - 1) + 1) = A 16 z := by rw [pe_ne (by omega)]; exact a2'
      have b2 : pe A 15 z (A 15 z + 1) 16 z = A 16 z := pe_ne (by omega)
      unfold yMt xEnter
      refine ⟨?_, ?_⟩
      · rw [pe_ne (by omega), pe_eq, pe_ne (by omega), pe_eq, a1']
      · rw [pe_eq, pe_eq, b1, b2]
        by_cases w : A 16 z < nI q
        · rw [if_pos w, if_neg (fun x => absurd w (Int32.not_lt.mpr x))]
        · rw [if_neg w, if_pos (Int32.not_lt.mp w)]
    · rw [lo _ (by omega) (by omega), lo _ (by omega) (by omega)]
      unfold xEnter
      rw [pe_ne (by omega), pe_ne (by omega), pe_ne (by omega), pe_ne (by omega)]
      exact ⟨a1', a2'⟩
  · intro r w1 hr hw1
    rw [lo _ (by omega) (by omega), la _ _ (by omega) (by omega)]
    exact r9 r w1 hr hw1
  · intro z w1 hz hw1
    rw [lo _ (by omega) (by omega), la _ _ (by omega) (by omega)]
    exact r10 z w1 hz hw1
