/-! what holds of a room between two calls -/
def HG (n : Nat) (came seat rank cough : Nat → Int32) : Prop := came 0 = nI n ∧ n ≤ 10 ∧ (∀ k, k < n → seat k = (-6) ∨ ∃ u, u < 3 ∧ seat k = nI u) ∧ (∃ q, nR rank q n) ∧ ∀ k, k < n → ∃ c, c ≤ 9 ∧ cough k = nI c
def HF (B : Nat) (fault : Nat → Int32) : Prop := ∀ k, k < 10 → ∃ f, f ≤ 10 * B ∧ fault k = nI f
def HC (S : Nat → Int32) : Prop := ∃ a b l s, S 0 = nI a ∧ S 1 = nI b ∧ S 2 = nI l ∧ S 3 = nI s ∧ 1 ≤ a ∧ a ≤ 20 ∧ 1 ≤ b ∧ b ≤ 20 ∧ l ≤ 9 ∧ s ≤ 9
def HP (B n : Nat) (seat pause : Nat → Int32) : Prop := ∀ t, t < 3 → pause t = (-6) ∨ ((∃ p, p ≤ 100 * B ∧ pause t = nI p) ∧ ∃ k, k < n ∧ seat k = nI t)
def HE (B : Nat) (often longest endings ended : Nat → Int32) : Prop := ∃ e d : Nat → Nat, (∀ j, j < 3 → endings j = nI (e j) ∧ ended j = nI (d j)) ∧ d 0 + d 1 + d 2 = e 0 + e 1 + e 2 ∧ e 0 + e 1 + e 2 ≤ B ∧ ∀ m, 1 ≤ m → m ≤ 11 → ∃ o l, often m = nI o ∧ longest m = nI l ∧ o ≤ e 0 ∧ l ≤ 100 * B ∧ (0 < o ↔ 0 < l)
def HT (lex : Nat → Int32) : Prop := ∃ t, t ≤ 10 ∧ lex 4 = nI t
def HI (B : Nat) (F : Nat → Nat → Int32) : Prop := ∃ n, HG n (F 7) (F 8) (F 9) (F 11) ∧ HF B (F 10) ∧ HC (F 6) ∧ HP B n (F 8) (F 19) ∧ HE B (F 15) (F 16) (F 17) (F 20) ∧ HT (F 14)
theorem HF_mono {B B2 : Nat} {f : Nat → Int32} (hB : B ≤ B2) (h : HF B f) : HF B2 f := fun k hk => by
  obtain ⟨x, h1, h2⟩ := h k hk
  exact ⟨x, by omega, h2⟩
theorem HP_mono {B B2 n : Nat} {s p : Nat → Int32} (hB : B ≤ B2) (h : HP B n s p) : HP B2 n s p := fun t ht => by
  rcases h t ht with e | ⟨⟨x, h1, h2⟩, h3⟩
  · exact Or.inl e
  · exact Or.inr ⟨⟨x, by omega, h2⟩, h3⟩
theorem HE_mono {B B2 : Nat} {o l e d : Nat → Int32} (hB : B ≤ B2) (h : HE B o l e d) : HE B2 o l e d := by
  obtain ⟨e, d, h1, h2, h3, h4⟩ := h
  refine ⟨e, d, h1, h2, by omega, fun m m1 m2 => ?_⟩
  obtain ⟨o, l, a, b, c, x, y⟩ := h4 m m1 m2
  exact ⟨o, l, a, b, c, by omega, y⟩
theorem HI_mono {B B2 : Nat} {F : Nat → Nat → Int32} (hB : B ≤ B2) (h : HI B F) : HI B2 F := by
  obtain ⟨n, h1, h2, h3, h4, h5, h6⟩ := h
  exact ⟨n, h1, HF_mono hB h2, h3, HP_mono hB h4, HE_mono hB h5, h6⟩
theorem HI_congr {B : Nat} {F G : Nat → Nat → Int32} (hA : ∀ c j, c < 16 → mVal c j → G (5 + c) j = F (5 + c) j) (h : HI B F) : HI B G := by
  obtain ⟨n, ⟨g1, g2, g3, ⟨q, g4⟩, g5⟩, h2, ⟨a, b, l, s, c1, c2, c3, c4, c5⟩, h4, ⟨e, d, e1, e2, e3, e4⟩, ⟨t, t1, t2⟩⟩ := h
  have r8 : ∀ k, k < n → G 8 k = F 8 k := fun k hk => hA 3 k (by decide) (show k < 10 by omega)
  refine ⟨n, ⟨(hA 2 0 (by decide) rfl).trans g1, g2, fun k hk => ?_, ⟨q, fun k hk => ?_⟩, fun k hk => ?_⟩, fun k hk => ?_, ⟨a, b, l, s, ?_, ?_, ?_, ?_, c5⟩, fun t ht => ?_, ⟨e, d, fun j hj => ?_, e2, e3, fun m m1 m2 => ?_⟩, ⟨t, t1, (hA 9 4 (by decide) rfl).trans t2⟩⟩
  · rw [r8 k hk]; exact g3 k hk
  · rw [show G 9 k = F 9 k from hA 4 k (by decide) (show k < 10 by omega)]; exact g4 k hk
  · rw [show G 11 k = F 11 k from hA 6 k (by decide) (show k < 10 by omega)]; exact g5 k hk
  · rw [show G 10 k = F 10 k from hA 5 k (by decide) hk]; exact h2 k hk
  · exact (hA 1 0 (by decide) (show 0 < 4 by decide)).trans c1
  · exact (hA 1 1 (by decide) (show 1 < 4 by decide)).trans c2
  · exact (hA 1 2 (by decide) (show 2 < 4 by decide)).trans c3
  · exact (hA 1 3 (by decide) (show 3 < 4 by decide)).trans c4
  · rw [show G 19 t = F 19 t from hA 14 t (by decide) ht]
    rcases h4 t ht with z | ⟨z, k, hk, z2⟩
    · exact Or.inl z
    · exact Or.inr ⟨z, k, hk, (r8 k hk).trans z2⟩
  · rw [show G 17 j = F 17 j from hA 12 j (by decide) hj, show G 20 j = F 20 j from hA 15 j (by decide) hj]
    exact e1 j hj
  · rw [show G 15 m = F 15 m from hA 10 m (by decide) (show m < 12 by omega), show G 16 m = F 16 m from hA 11 m (by decide) (show m < 12 by omega)]
    exact e4 m m1 m2
theorem up_eq {f : Nat → Int32} {k : Nat} {x : Int32} : va_up f k x k = x := va_up_self _ _ _
theorem up_ne {f : Nat → Int32} {k j : Nat} {x : Int32} (h : j ≠ k) : va_up f k x j = f j := va_up_ne _ _ h
/-- a guest changes the seat -/
theorem HG_seat {n k : Nat} {a s r c : Nat → Int32} {z : Int32} (h : HG n a s r c) (hz : z = (-6) ∨ ∃ u, u < 3 ∧ z = nI u) : HG n a (va_up s k z) r c := by
  obtain ⟨g1, g2, g3, g4, g5⟩ := h
  refine ⟨g1, g2, fun j hj => ?_, g4, g5⟩
  by_cases e : j = k
  · subst e
    rw [up_eq]
    exact hz
  · rw [up_ne e]
    exact g3 j hj
theorem HP_off {B n k u : Nat} {s p : Nat → Int32} {z : Int32} (h : HP B n s p) (hs : s k = nI u) (hu : u < 3) : HP B n (va_up s k z) (va_up p u (-6)) := by
  intro t ht
  by_cases e : t = u
  · subst e
    exact Or.inl up_eq
  · rw [up_ne e]
    rcases h t ht with w | ⟨w, j, hj, w2⟩
    · exact Or.inl w
    · refine Or.inr ⟨w, j, hj, ?_⟩
      have : j ≠ k := fun q => by
        rw [q, hs, nI_eq (by omega) (by omega)] at w2
        omega
      rw [up_ne this]
      exact w2
theorem HP_stay {B n k u : Nat} {s p : Nat → Int32} {z : Int32} (h10 : n ≤ 10) (h : HP B n s p) (hs : s k = nI u) (hu : u < 3) (h0 : ¬ sSet (va_up s k z) (nI u) n = 0) : HP B n (va_up s k z) p := by
  intro t ht
  rcases h t ht with w | ⟨w, j, hj, w2⟩
  · exact Or.inl w
  · refine Or.inr ⟨w, ?_⟩
    by_cases e : t = u
    · subst e
      rw [sSet_0 (by omega)] at h0
      exact Classical.byContradiction fun q => h0 (fun i hi hi2 => q ⟨i, hi, hi2⟩)
    · have : j ≠ k := fun q => by
        rw [q, hs, nI_eq (by omega) (by omega)] at w2
        omega
      exact ⟨j, hj, by rw [up_ne this]; exact w2⟩
theorem HP_pause {B n u : Nat} {s p : Nat → Int32} {z : Int32} (h : HP B n s p) (hz : z = (-6) ∨ ((∃ x, x ≤ 100 * B ∧ z = nI x) ∧ ∃ k, k < n ∧ s k = nI u)) : HP B n s (va_up p u z) := by
  intro t ht
  by_cases e : t = u
  · subst e
    rw [up_eq]
    exact hz
  · rw [up_ne e]
    exact h t ht
theorem HP_n {B n : Nat} {s s2 p : Nat → Int32} (h : HP B n s p) (hs : ∀ k, k < n → s2 k = s k) : HP B (n + 1) s2 p := by
  intro t ht
  rcases h t ht with w | ⟨w, j, hj, w2⟩
  · exact Or.inl w
  · exact Or.inr ⟨w, j, by omega, (hs j hj).trans w2⟩
def bmp (f : Nat → Nat) (h j : Nat) : Nat := if j = h then f j + 1 else f j
theorem bmp_le (f : Nat → Nat) (h j : Nat) : f j ≤ bmp f h j := by
  unfold bmp
  split <;> omega
theorem bmp_n {e : Nat → Int32} {e' : Nat → Nat} {h j : Nat} (h1 : e j = nI (e' j)) : va_up e h (e h + 1) j = nI (bmp e' h j) := by
  unfold bmp
  by_cases q : j = h
  · subst q
    rw [up_eq, if_pos rfl, h1]
    exact nI_1 _
  · rw [up_ne q, if_neg q]
    exact h1
theorem bmp_sum (f : Nat → Nat) {h : Nat} (hh : h < 3) : bmp f h 0 + bmp f h 1 + bmp f h 2 = f 0 + f 1 + f 2 + 1 := by
  unfold bmp
  rcases (by omega : h = 0 ∨ h = 1 ∨ h = 2) with rfl | rfl | rfl <;> simp <;> omega
/-- a pause ends: it is counted -/
theorem HE_end {B h u : Nat} {o l e d : Nat → Int32} (hE : HE B o l e d) (hh : h < 3) (hu : u < 3) : HE (B + 1) o l (va_up e h (e h + 1)) (va_up d u (d u + 1)) := by
  obtain ⟨e', d', h1, h2, h3, h4⟩ := hE
  refine ⟨bmp e' h, bmp d' u, fun j hj => ⟨bmp_n (h1 j hj).1, bmp_n (h1 j hj).2⟩, ?_, ?_, fun m m1 m2 => ?_⟩
  · rw [bmp_sum _ hh, bmp_sum _ hu]
    omega
  · rw [bmp_sum _ hh]
    omega
  · obtain ⟨o', l', a, b, c, x, y⟩ := h4 m m1 m2
    exact ⟨o', l', a, b, Nat.le_trans c (bmp_le _ _ _), by omega, y⟩
theorem HE_mean {B u mm p : Nat} {o l e d : Nat → Int32} (hB : B ≤ 1000) (hE : HE B o l e d) (hu : u < 3) (hp : 1 ≤ p) (hpB : p ≤ 100 * B) : HE (B + 1) (va_up o mm (o mm + 1)) (va_up l mm (if l mm < nI p then nI p else l mm)) (va_up e 0 (e 0 + 1)) (va_up d u (d u + 1)) := by
  obtain ⟨e', d', h1, h2, h3, h4⟩ := hE
  refine ⟨bmp e' 0, bmp d' u, fun j hj => ⟨bmp_n (h1 j hj).1, bmp_n (h1 j hj).2⟩, ?_, ?_, fun m m1 m2 => ?_⟩
  · rw [bmp_sum e' (h := 0) (by decide), bmp_sum d' hu]
    omega
  · rw [bmp_sum e' (h := 0) (by decide)]
    omega
  · obtain ⟨o', l', a, b, c, x, y⟩ := h4 m m1 m2
    have b0 : bmp e' 0 0 = e' 0 + 1 := if_pos rfl
    by_cases q : m = mm
    · subst q
      rw [up_eq, up_eq, a, b, b0]
      by_cases z : l' < p
      · exact ⟨o' + 1, p, nI_1 _, if_pos (nI_lt z (by omega)), by omega, by omega, by omega⟩
      · exact ⟨o' + 1, l', nI_1 _, if_neg (nI_nlt (by omega) (by omega)), by omega, by omega, by omega⟩
    · rw [up_ne q, up_ne q]
      exact ⟨o', l', a, b, by omega, by omega, y⟩
/-! what the orders write, and the rest -/
theorem mx_tell {F Z : Nat → Nat → Int32} {h : Nat} {t s m w : Int32} : xTell (mx F Z) h t s m w = mx (xTell F h t s m w) Z := by
  unfold xTell
  rw [mx_cpB (a := 18) (b := 18) rfl rfl, mx_pe (c := 18) rfl, mx_pe (c := 18) rfl, mx_pe (c := 18) rfl, mx_pe (c := 18) rfl, mx_pe (c := 18) rfl]
  generalize pe (pe (pe (pe (pe (cpB F 18 18 0 5 45) 18 0 (nI h)) 18 1 t) 18 2 s) 18 3 m) 18 4 w = A
  rw [show mx A Z 14 4 = A 14 4 from rfl, mx_pe (c := 14) rfl]
  generalize pe A 14 4 (if 10 < A 14 4 + 1 then 10 else A 14 4 + 1) = A2
  rw [show mx A2 Z 17 h = A2 17 h from rfl, mx_pe (c := 17) rfl]
theorem mx_end {F Z : Nat → Nat → Int32} {h t : Nat} {m w : Int32} : xEnd (mx F Z) h t m w = mx (xEnd F h t m w) Z := by
  unfold xEnd
  rw [show mx F Z 19 t = F 19 t from rfl, mx_tell]
  generalize xTell F h (nI t) (F 19 t) m w = A
  rw [show mx A Z 20 t = A 20 t from rfl, mx_pe (c := 20) rfl, mx_pe (c := 19) rfl]
theorem mx_enter {F Z : Nat → Nat → Int32} {m : Nat} {s : Int32} : xEnter (mx F Z) m s = mx (xEnter F m s) Z := by
  unfold xEnter
  rw [show mx F Z 15 m = F 15 m from rfl, mx_pe (c := 15) rfl]
  generalize pe F 15 m (F 15 m + 1) = A
  rw [show mx A Z 16 m = A 16 m from rfl, mx_pe (c := 16) rfl]
theorem mx_pass {F Z : Nat → Nat → Int32} {s : Int32} {cp : Nat → Nat} : ∀ n, xPass (mx F Z) s cp n = (mx (xPass F s cp n).1 Z, (xPass F s cp n).2) := by
  intro n
  unfold xPass
  induction n with
  | zero => exact Prod.ext (mx_pe (c := 5) rfl) rfl
  | succ n ih =>
    rw [mfold_succ, mfold_succ, ih]
    generalize mfold (xPassF s cp) (pe F 5 0 (F 5 0 + s), 0) n = a
    obtain ⟨A, v⟩ := a
    unfold xPassF
    show (if A 19 n = (-6) then (mx A Z, v) else (pe (mx A Z) 19 n (A 19 n + s), v + (if sMean (A 6) (cp n) (A 19 n + s) = 0 then 0 else 1))) = _
    rw [mx_pe (c := 19) rfl]
    by_cases h : A 19 n = (-6)
    · simp only [h, if_true]
    · simp only [h, if_false]
theorem mx_copy {F Z : Nat → Nat → Int32} {i j : Nat} (hi : ∀ c, c < 16 → inS (i + c) = true) (hj : ∀ c, c < 16 → inS (j + c) = true) : xCopyR (mx F Z) i j = mx (xCopyR F i j) Z := by
  have hi0 := hi 0 (by decide)
  have hj0 := hj 0 (by decide)
  rw [Nat.add_zero] at hi0 hj0
  unfold xCopyR xCopyL xCopyG
  rw [mx_in hj0, mx_pe hi0, mx_cpB (hi 1 (by decide)) (hj 1 (by decide))]
  generalize cpB (pe F i 0 (F j 0)) (i + 1) (j + 1) 0 0 4 = A
  rw [mx_in (hj 2 (by decide)), mx_pe (hi 2 (by decide)), mx_cpB (hi 3 (by decide)) (hj 3 (by decide)), mx_cpB (hi 4 (by decide)) (hj 4 (by decide)), mx_cpB (hi 5 (by decide)) (hj 5 (by decide)), mx_cpB (hi 6 (by decide)) (hj 6 (by decide)), mx_cpB (hi 7 (by decide)) (hj 7 (by decide)), mx_cpB (hi 8 (by decide)) (hj 8 (by decide))]
  generalize cpB (cpB (cpB (cpB (cpB (cpB (pe A (i + 2) 0 (A (j + 2) 0)) (i + 3) (j + 3) 0 0 10) (i + 4) (j + 4) 0 0 10) (i + 5) (j + 5) 0 0 10) (i + 6) (j + 6) 0 0 10) (i + 7) (j + 7) 0 0 10) (i + 8) (j + 8) 0 0 10 = A2
  rw [mx_in (hj 9 (by decide)), mx_pe (hi 9 (by decide)), mx_cpB (hi 10 (by decide)) (hj 10 (by decide)), mx_cpB (hi 11 (by decide)) (hj 11 (by decide)), mx_cpB (hi 12 (by decide)) (hj 12 (by decide)), mx_cpB (hi 13 (by decide)) (hj 13 (by decide)), mx_cpB (hi 14 (by decide)) (hj 14 (by decide)), mx_cpB (hi 15 (by decide)) (hj 15 (by decide))]
/-! what an end of a pause leaves in the rows -/
theorem xEnd_r {A : Nat → Nat → Int32} {u h c : Nat} {m w : Int32} (hc : c < 14 ∨ 21 ≤ c ∨ c = 15 ∨ c = 16) : xEnd A h u m w c = A c := by
  unfold xEnd xTell
  repeat (rw [pe_row (by omega)])
  rw [cpB_row (by omega)]
def xW (A : Nat → Nat → Int32) (h : Nat) (t s m w : Int32) : Nat → Nat → Int32 := pe (pe (pe (pe (pe (cpB A 18 18 0 5 45) 18 0 (nI h)) 18 1 t) 18 2 s) 18 3 m) 18 4 w
def xT (A : Nat → Nat → Int32) (h : Nat) (t s m w : Int32) : Nat → Nat → Int32 := pe (xW A h t s m w) 14 4 (if 10 < xW A h t s m w 14 4 + 1 then 10 else xW A h t s m w 14 4 + 1)
theorem xW_o {A : Nat → Nat → Int32} {h c : Nat} {t s m w : Int32} (h1 : c ≠ 18) : xW A h t s m w c = A c := by
  unfold xW
  repeat (rw [pe_row h1])
  rw [cpB_row h1]
theorem xEnd_T (A : Nat → Nat → Int32) (h u : Nat) (m w : Int32) : xEnd A h u m w = pe (pe (pe (xT A h (nI u) (A 19 u) m w) 17 h (xT A h (nI u) (A 19 u) m w 17 h + 1)) 20 u (pe (xT A h (nI u) (A 19 u) m w) 17 h (xT A h (nI u) (A 19 u) m w 17 h + 1) 20 u + 1)) 19 u (-6) := rfl
theorem xT_r {A : Nat → Nat → Int32} {h c : Nat} {t s m w : Int32} (h1 : c ≠ 18) (h2 : c ≠ 14) : xT A h t s m w c = A c := by
  unfold xT
  rw [pe_row h2, xW_o h1]
theorem xEnd_17 {A : Nat → Nat → Int32} {h u : Nat} {m w : Int32} : xEnd A h u m w 17 = va_up (A 17) h (A 17 h + 1) := by
  rw [xEnd_T, pe_row (by decide), pe_row (by decide), pe_self, xT_r (by decide) (by decide)]
theorem xEnd_20 {A : Nat → Nat → Int32} {h u : Nat} {m w : Int32} : xEnd A h u m w 20 = va_up (A 20) u (A 20 u + 1) := by
  rw [xEnd_T, pe_row (by decide), pe_self, pe_row (by decide), xT_r (by decide) (by decide)]
theorem xEnd_19 {A : Nat → Nat → Int32} {h u : Nat} {m w : Int32} : xEnd A h u m w 19 = va_up (A 19) u (-6) := by
  rw [xEnd_T, pe_self, pe_row (by decide), pe_row (by decide), xT_r (by decide) (by decide)]
theorem xEnd_18 {A : Nat → Nat → Int32} {h u : Nat} {m w : Int32} : xEnd A h u m w 18 0 = nI h ∧ xEnd A h u m w 18 3 = m ∧ xEnd A h u m w 18 4 = w := by
  rw [xEnd_T, pe_row (by decide), pe_row (by decide), pe_row (by decide)]
  unfold xT xW
  rw [pe_row (by decide)]
  refine ⟨?_, ?_, pe_eq _ _ _ _⟩
  · rw [pe_ne (by decide), pe_ne (by decide), pe_ne (by decide), pe_ne (by decide)]
    exact pe_eq _ _ _ _
  · rw [pe_ne (by decide)]
    exact pe_eq _ _ _ _
theorem xEnd_14 {A : Nat → Nat → Int32} {h u t : Nat} {m w : Int32} (e : A 14 4 = nI t) (ht : t ≤ 10) : ∃ t2, 0 < t2 ∧ t2 ≤ 10 ∧ xEnd A h u m w 14 4 = nI t2 := by
  rw [xEnd_T, pe_row (by decide), pe_row (by decide), pe_row (by decide)]
  unfold xT
  rw [pe_eq, xW_o (by decide), e, nI_1]
  by_cases q : t < 10
  · exact ⟨t + 1, by omega, by omega, if_neg (nI_nlt (a := 10) (b := t + 1) (by omega) (by decide))⟩
  · exact ⟨10, by omega, Nat.le_refl _, if_pos (nI_lt (a := 10) (b := t + 1) (by omega) (by omega))⟩
