/-! word, cough, pass, and a saved state brought back -/
theorem hf_up {k : Nat} {f : Nat → Int32} {x b b2 : Nat} (h : ∀ j, j < 10 → ∃ v, v ≤ b ∧ f j = nI v) (hk : k < 10) (hx : x + b ≤ b2) : ∀ j, j < 10 → ∃ v, v ≤ b2 ∧ va_up f k (f k + nI x) j = nI v := by
  intro j hj
  by_cases e : j = k
  · subst e
    obtain ⟨v, hv, ev⟩ := h j hj
    exact ⟨v + x, by omega, by rw [up_eq, ev, nI_add]⟩
  · obtain ⟨v, hv, ev⟩ := h j hj
    exact ⟨v, by omega, by rw [up_ne e]; exact ev⟩
/-- how a word that is carried out leaves the room: what the lexicon of meanings holds is untouched -/
def BK (h : Nat) (x : Int32) (F G : Nat → Nat → Int32) : Prop := G 15 = F 15 ∧ G 17 0 = F 17 0 ∧ G 18 0 = nI h ∧ G 18 3 = 0 ∧ G 18 4 = x ∧ ∃ t, 0 < t ∧ t ≤ 10 ∧ G 14 4 = nI t
def OB (B h : Nat) (x : Int32) (y : MethodName) (M : mM) (as : List Value) (F : Nat → Nat → Int32) : Prop := ∃ r G, RE y M as F r G ∧ (isE r → G = F) ∧ HI (B + 1) G ∧ FrB F G ∧ (¬ isE r → BK h x F G) ∧ (isE r ∨ r = (-6) ∨ ∃ v, v < 2 ^ 31 ∧ r = nI v)
theorem ob_oe {B h : Nat} {x : Int32} {y : MethodName} {M : mM} {as : List Value} {F : Nat → Nat → Int32} (hO : OB B h x y M as F) : OE B y M as F := by
  obtain ⟨r, G, h1, h2, h3, h4, -, h6⟩ := hO
  exact ⟨r, G, h1, h2, h3, h4, h6⟩
theorem ob_err {B hh : Nat} {x : Int32} {y : MethodName} {M : mM} {as : List Value} {F : Nat → Nat → Int32} (h : HI B F) (r : Int32) (he : isE r) (hr : RE y M as F r F) : OB B hh x y M as F := ⟨r, F, hr, fun _ => rfl, HI_mono (Nat.le_succ B) h, FrB_rf, fun q => absurd he q, Or.inl he⟩
theorem bk_end {A F : Nat → Nat → Int32} {h u : Nat} {x : Int32} (hh : h = 1 ∨ h = 2) (e15 : A 15 = F 15) (e17 : A 17 = F 17) (hT : HT (A 14)) : BK h x F (xEnd A h u 0 x) := by
  obtain ⟨t, ht, et⟩ := hT
  obtain ⟨t2, t0, t10, e2⟩ := xEnd_14 (A := A) (h := h) (u := u) (m := 0) (w := x) et ht
  obtain ⟨a, b, c⟩ := xEnd_18 (A := A) (h := h) (u := u) (m := 0) (w := x)
  refine ⟨(xEnd_r (by decide)).trans e15, ?_, a, b, c, t2, t0, t10, e2⟩
  rw [xEnd_17, up_ne (by omega), e17]
theorem ob_word {B : Nat} {F : Nat → Nat → Int32} (hB : B ≤ 1000) (h : HI B F) (x : Int32) : OB B 1 x yX4_breakByWord MX4_breakByWord [.ref 5, .int x] F := by
  have h0 := h
  obtain ⟨n, hG, hF, hC, hP, hE, hT⟩ := h0
  have hG2 := hG
  obtain ⟨hn, h10, hs, ⟨q, hq⟩, -⟩ := hG2
  by_cases hx : 0 ≤ x ∧ x < F 7 0
  · obtain ⟨k, hk, rfl⟩ := kn_i (by rw [← hn]; exact hx) h10
    rcases hs k hk with e | ⟨u, hu, e⟩
    · exact ob_err h (-5) (by decide) (fun L Z g d => c_wrd_gone (F := mx F Z) (d + 1) n hn h10 k hk e)
    · by_cases hp : F 19 u = (-6)
      · exact ob_err h (-5) (by decide) (fun L Z g d => c_wrd_quiet (F := mx F Z) (d + 1) n hn h10 k hk u hu e hp)
      · have hC2 := hC
        obtain ⟨a, b, l, s, c0, c1, c2, c3, c4, c5, c6, c7, c8, c9⟩ := hC2
        have hf1 : ∀ j, j < 10 → ∃ v, v ≤ 10 * B + 9 ∧ pe F 10 k (F 10 k + F 6 3) 10 j = nI v := by
          intro j hj
          show ∃ v, v ≤ 10 * B + 9 ∧ va_up (F 10) k (F 10 k + F 6 3) j = nI v
          rw [c3]
          exact hf_up hF (by omega) (by omega) j hj
        rcases host_spec (P := F 8) (Q := F 9) (t := nI u) hq with ⟨-, z⟩ | ⟨w, hw, ew, pw, -⟩
        · exact absurd e (z k hk)
        · by_cases hwk : w = k
          · have f1 : HF (B + 1) (pe (pe F 10 k (F 10 k + F 6 3)) 12 k (pe F 10 k (F 10 k + F 6 3) 12 k + 1) 10) := fun j hj => by
              obtain ⟨v, hv, ev⟩ := hf1 j hj
              exact ⟨v, by omega, ev⟩
            obtain ⟨v, hv, ev⟩ := f1 k (by omega)
            have er : xEnd (pe (pe F 10 k (F 10 k + F 6 3)) 12 k (pe F 10 k (F 10 k + F 6 3) 12 k + 1)) 1 u 0 (nI k) 10 k = nI v := by rw [xEnd_r (c := 10) (by decide)]; exact ev
            refine ⟨_, xEnd (pe (pe F 10 k (F 10 k + F 6 3)) 12 k (pe F 10 k (F 10 k + F 6 3) 12 k + 1)) 1 u 0 (nI k), fun L Z g d => ?_, fun z => absurd (by rw [← er]; exact z) (err_n (n := v) (by omega)), hi_end (by decide) hu hG f1 hC hP hE hT, FrB_end (FrB_pe (FrB_pe FrB_rf (by decide) (by decide)) (by decide) (by decide)), fun _ => bk_end (Or.inl rfl) rfl rfl hT, Or.inr (Or.inr ⟨v, by omega, er⟩)⟩
            have := c_wrd_self (L := L) (F := mx F Z) (g := g) d n hn h10 k hk u hu e hp w (by omega) ew hwk
            rw [show mx F Z 10 k = F 10 k from rfl, show mx F Z 6 3 = F 6 3 from rfl, mx_pe (c := 10) rfl] at this
            generalize pe F 10 k (F 10 k + F 6 3) = A at this ⊢
            rw [show mx A Z 12 k = A 12 k from rfl, mx_pe (c := 12) rfl, mx_end] at this
            exact this
          · obtain ⟨v1, hv1, ev1⟩ := hf1 w (by omega)
            have hf2 : ∀ j, j < 10 → ∃ v, v ≤ 10 * B + 10 ∧ pe (pe F 10 k (F 10 k + F 6 3)) 10 w (pe F 10 k (F 10 k + F 6 3) 10 w + 1) 10 j = nI v := by
              intro j hj
              exact hf_up (x := 1) hf1 (by omega) (by omega) j hj
            have f1 : HF (B + 1) (pe (pe (pe F 10 k (F 10 k + F 6 3)) 10 w (pe F 10 k (F 10 k + F 6 3) 10 w + 1)) 12 k (pe (pe F 10 k (F 10 k + F 6 3)) 10 w (pe F 10 k (F 10 k + F 6 3) 10 w + 1) 12 k + 1) 10) := fun j hj => by
              obtain ⟨v, hv, ev⟩ := hf2 j hj
              exact ⟨v, by omega, ev⟩
            obtain ⟨v, hv, ev⟩ := f1 k (by omega)
            have er : xEnd (pe (pe (pe F 10 k (F 10 k + F 6 3)) 10 w (pe F 10 k (F 10 k + F 6 3) 10 w + 1)) 12 k (pe (pe F 10 k (F 10 k + F 6 3)) 10 w (pe F 10 k (F 10 k + F 6 3) 10 w + 1) 12 k + 1)) 1 u 0 (nI k) 10 k = nI v := by rw [xEnd_r (c := 10) (by decide)]; exact ev
            refine ⟨_, xEnd (pe (pe (pe F 10 k (F 10 k + F 6 3)) 10 w (pe F 10 k (F 10 k + F 6 3) 10 w + 1)) 12 k (pe (pe F 10 k (F 10 k + F 6 3)) 10 w (pe F 10 k (F 10 k + F 6 3) 10 w + 1) 12 k + 1)) 1 u 0 (nI k), fun L Z g d => ?_, fun z => absurd (by rw [← er]; exact z) (err_n (n := v) (by omega)), hi_end (by decide) hu hG f1 hC hP hE hT, FrB_end (FrB_pe (FrB_pe (FrB_pe FrB_rf (by decide) (by decide)) (by decide) (by decide)) (by decide) (by decide)), fun _ => bk_end (Or.inl rfl) rfl rfl hT, Or.inr (Or.inr ⟨v, by omega, er⟩)⟩
            have := c_wrd_other (L := L) (F := mx F Z) (g := g) d n hn h10 k hk u hu e hp w (by omega) ew hwk
            rw [show mx F Z 10 k = F 10 k from rfl, show mx F Z 6 3 = F 6 3 from rfl, mx_pe (c := 10) rfl] at this
            generalize pe F 10 k (F 10 k + F 6 3) = A at this ⊢
            rw [show mx A Z 10 w = A 10 w from rfl, mx_pe (c := 10) rfl] at this
            generalize pe A 10 w (A 10 w + 1) = A2 at this ⊢
            rw [show mx A2 Z 12 k = A2 12 k from rfl, mx_pe (c := 12) rfl, mx_end] at this
            exact this
  · exact ob_err h (-1) (by decide) (fun L Z g d => c_wrd_no (d + 1) x hx)
theorem ob_cough {B : Nat} {F : Nat → Nat → Int32} (h : HI B F) (x : Int32) : OB B 2 x yX4_breakByCough MX4_breakByCough [.ref 5, .int x] F := by
  have h0 := h
  obtain ⟨n, hG, hF, hC, hP, hE, hT⟩ := h0
  have hG2 := hG
  obtain ⟨hn, h10, hs, hq, hc⟩ := hG2
  by_cases hx : 0 ≤ x ∧ x < F 7 0
  · obtain ⟨k, hk, rfl⟩ := kn_i (by rw [← hn]; exact hx) h10
    rcases hs k hk with e | ⟨u, hu, e⟩
    · exact ob_err h (-5) (by decide) (fun L Z g d => c_cgh_gone (F := mx F Z) (d + 1) n hn h10 k hk e)
    · by_cases hp : F 19 u = (-6)
      · exact ob_err h (-5) (by decide) (fun L Z g d => c_cgh_quiet (F := mx F Z) (d + 1) n hn h10 k hk u hu e hp)
      · have hC2 := hC
        obtain ⟨a, b, l, s, c0, c1, c2, c3, c4, c5, c6, c7, c8, c9⟩ := hC2
        rcases lend_spec (P := F 8) (Q := F 9) (R := F 11) (x := nI k) (t := nI u) n with el | ⟨w, hw, el, hwk, hcw, pw⟩
        · have f1 : HF (B + 1) (pe (pe F 10 k (F 10 k + F 6 3)) 12 k (pe F 10 k (F 10 k + F 6 3) 12 k + 1) 10) := by
            intro j hj
            show ∃ v, v ≤ 10 * (B + 1) ∧ va_up (F 10) k (F 10 k + F 6 3) j = nI v
            rw [c3]
            exact hf_up hF (by omega) (by omega) j hj
          refine ⟨-6, xEnd (pe (pe F 10 k (F 10 k + F 6 3)) 12 k (pe F 10 k (F 10 k + F 6 3) 12 k + 1)) 2 u 0 (nI k), fun L Z g d => ?_, fun z => absurd z (by decide), hi_end (by decide) hu hG f1 hC hP hE hT, FrB_end (FrB_pe (FrB_pe FrB_rf (by decide) (by decide)) (by decide) (by decide)), fun _ => bk_end (Or.inr rfl) rfl rfl hT, Or.inr (Or.inl rfl)⟩
          have := c_cgh_self (L := L) (F := mx F Z) (g := g) d n hn h10 k hk u hu e hp el
          rw [show mx F Z 10 k = F 10 k from rfl, show mx F Z 6 3 = F 6 3 from rfl, mx_pe (c := 10) rfl] at this
          generalize pe F 10 k (F 10 k + F 6 3) = A at this ⊢
          rw [show mx A Z 12 k = A 12 k from rfl, mx_pe (c := 12) rfl, mx_end] at this
          exact this
        · refine ⟨nI w, xEnd (pe (pe (pe F 11 w (F 11 w - 1)) 13 w (pe F 11 w (F 11 w - 1) 13 w + 1)) 12 k (pe (pe F 11 w (F 11 w - 1)) 13 w (pe F 11 w (F 11 w - 1) 13 w + 1) 12 k + 1)) 2 u 0 (nI k), fun L Z g d => ?_, fun z => absurd z (err_n (by omega)), hi_end (by decide) hu ⟨hn, h10, hs, hq, ?_⟩ (HF_mono (Nat.le_succ B) hF) hC hP hE hT, FrB_end (FrB_pe (FrB_pe (FrB_pe FrB_rf (by decide) (by decide)) (by decide) (by decide)) (by decide) (by decide)), fun _ => bk_end (Or.inr rfl) rfl rfl hT, Or.inr (Or.inr ⟨w, by omega, rfl⟩)⟩
          · have := c_cgh_other (L := L) (F := mx F Z) (g := g) d n hn h10 k hk u hu e hp w (by omega) el
            rw [show mx F Z 11 w = F 11 w from rfl, mx_pe (c := 11) rfl] at this
            generalize pe F 11 w (F 11 w - 1) = A at this ⊢
            rw [show mx A Z 13 w = A 13 w from rfl, mx_pe (c := 13) rfl] at this
            generalize pe A 13 w (A 13 w + 1) = A2 at this ⊢
            rw [show mx A2 Z 12 k = A2 12 k from rfl, mx_pe (c := 12) rfl, mx_end] at this
            exact this
          · intro j hj
            show ∃ c, c ≤ 9 ∧ va_up (F 11) w (F 11 w - 1) j = nI c
            by_cases ej : j = w
            · subst ej
              obtain ⟨c, c9, ec⟩ := hc j hj
              rw [up_eq, ec]
              rcases c with _ | c
              · rw [ec] at hcw
                exact absurd (show nI 0 ≤ 0 by decide) hcw
              · exact ⟨c, by omega, nI_pred c⟩
            · rw [up_ne ej]
              exact hc j hj
  · exact ob_err h (-1) (by decide) (fun L Z g d => c_cgh_no (d + 1) x hx)
theorem pass_n {x : Int32} (h : 1 ≤ x ∧ x ≤ 99) : ∃ s, s ≤ 99 ∧ x = nI s := by
  have h0 : ¬ x < 0 := by
    have := h.1
    rw [i_le, show (1 : Int32).toInt = 1 from by decide] at this
    rw [i_lt, i_0]
    omega
  exact nI_of2 (x := x) (M := 99) (n := 99) (by decide) h0 h.2
/-- what a pass leaves: the pauses that were begun are longer -/
theorem pass_step {B n s : Nat} {F : Nat → Nat → Int32} {cp : Nat → Nat} (hs : s ≤ 99) (hP : HP B n (F 8) (F 19)) : ∀ k, k ≤ 3 → (∀ c, c ≠ 5 → c ≠ 19 → (xPass F (nI s) cp k).1 c = F c) ∧ (∀ t, t < 3 → (t < k ∧ ((F 19 t = (-6) ∧ (xPass F (nI s) cp k).1 19 t = (-6)) ∨ ∃ p, p ≤ 100 * B + 99 ∧ ¬ F 19 t = (-6) ∧ (xPass F (nI s) cp k).1 19 t = nI p)) ∨ (k ≤ t ∧ (xPass F (nI s) cp k).1 19 t = F 19 t)) ∧ ∃ m, m ≤ k ∧ (xPass F (nI s) cp k).2 = nI m := by
  intro k
  induction k with
  | zero => exact fun _ => ⟨fun c h5 _ => pe_row h5, fun t _ => Or.inr ⟨Nat.zero_le _, rfl⟩, 0, Nat.le_refl _, rfl⟩
  | succ k ih =>
    intro hk
    obtain ⟨i1, i2, m, hm, em⟩ := ih (by omega)
    have e : xPass F (nI s) cp (k + 1) = xPassF (nI s) cp (xPass F (nI s) cp k) k := rfl
    rw [e]
    generalize xPass F (nI s) cp k = a at i1 i2 em
    obtain ⟨A, v⟩ := a
    simp only at i1 i2 em
    have hk19 : A 19 k = F 19 k := by
      rcases i2 k (by omega) with ⟨z, -⟩ | ⟨-, z⟩
      · omega
      · exact z
    unfold xPassF
    by_cases hz : A 19 k = (-6)
    · simp only [hz, if_true]
      refine ⟨i1, fun t ht => ?_, m, by omega, em⟩
      rcases i2 t ht with ⟨z, y⟩ | ⟨z, y⟩
      · exact Or.inl ⟨by omega, y⟩
      · by_cases et : t = k
        · subst et
          exact Or.inl ⟨Nat.lt_succ_self t, Or.inl ⟨hk19.symm.trans hz, hz⟩⟩
        · exact Or.inr ⟨by omega, y⟩
    · simp only [hz, if_false]
      refine ⟨fun c h5 h19 => (pe_row h19).trans (i1 c h5 h19), fun t ht => ?_, ?_⟩
      · by_cases et : t = k
        · subst et
          refine Or.inl ⟨Nat.lt_succ_self t, Or.inr ?_⟩
          rcases hP t ht with w | ⟨⟨p, hp, ep⟩, -⟩
          · exact absurd (hk19.trans w) hz
          · exact ⟨p + s, by omega, fun w => hz (hk19.trans w), by rw [pe_eq, hk19, ep, nI_add]⟩
        · rw [show pe A 19 k (A 19 k + nI s) 19 t = A 19 t from pe_ne (fun w => et w.2)]
          rcases i2 t ht with ⟨z, y⟩ | ⟨z, y⟩
          · exact Or.inl ⟨by omega, y⟩
          · exact Or.inr ⟨by omega, y⟩
      · by_cases q : sMean (A 6) (cp k) (A 19 k + nI s) = 0
        · exact ⟨m, by omega, by rw [if_pos q, em]; exact Int32.add_zero _⟩
        · exact ⟨m + 1, by omega, by rw [if_neg q, em]; exact nI_1 m⟩
theorem oe_pass {B : Nat} {F : Nat → Nat → Int32} (h3 : F 3 = mMB) (h : HI B F) (x : Int32) : OE B yX4_letPass MX4_letPass [.ref 5, .int x] F := by
  have h0 := h
  obtain ⟨n, hG, hF, hC, hP, hE, hT⟩ := h0
  have hG2 := hG
  obtain ⟨hn, h10, hs, -, -⟩ := hG2
  by_cases hv : 1 ≤ x ∧ x ≤ 99
  · by_cases ho : F 5 0 + x ≤ 9999
    · obtain ⟨s, s99, rfl⟩ := pass_n hv
      obtain ⟨cp, hcp⟩ : ∃ cp : Nat → Nat, ∀ t, t < 3 → cp t ≤ 4 ∧ sComp (F 8) (F 9) (nI t) (-6) n = nI (cp t) := by
        refine ⟨fun t => (comp_le (P := F 8) (Q := F 9) (t := nI t) h10).choose, fun t _ => ?_⟩
        have := (comp_le (P := F 8) (Q := F 9) (t := nI t) h10).choose_spec
        exact ⟨this.1, this.2.1⟩
      obtain ⟨i1, i2, m, hm, em⟩ := pass_step (F := F) (cp := cp) s99 hP 3 (Nat.le_refl _)
      refine ⟨(xPass F (nI s) cp 3).2, (xPass F (nI s) cp 3).1, fun L Z g d => ?_, fun z => absurd (by rw [← em]; exact z) (err_n (n := m) (by omega)), ⟨n, ?_, ?_, ?_, ?_, ?_, ?_⟩, fun c hc => i1 c (by omega) (by omega), ar_n hm (by decide) em⟩
      · have := c_pas_ok (L := L) (F := mx F Z) (g := g) d n hn h10 h3 (nI s) cp hcp hv ho
        rw [mx_pass] at this
        exact this
      · rw [i1 7 (by decide) (by decide), i1 8 (by decide) (by decide), i1 9 (by decide) (by decide), i1 11 (by decide) (by decide)]
        exact hG
      · rw [i1 10 (by decide) (by decide)]
        exact HF_mono (Nat.le_succ B) hF
      · rw [i1 6 (by decide) (by decide)]
        exact hC
      · rw [i1 8 (by decide) (by decide)]
        intro t ht
        rcases i2 t ht with ⟨-, ⟨-, y⟩ | ⟨p, hp, y, z⟩⟩ | ⟨w, -⟩
        · exact Or.inl y
        · right
          refine ⟨⟨p, by omega, z⟩, ?_⟩
          rcases hP t ht with w | ⟨-, w⟩
          · exact absurd w y
          · exact w
        · omega
      · rw [i1 15 (by decide) (by decide), i1 16 (by decide) (by decide), i1 17 (by decide) (by decide), i1 20 (by decide) (by decide)]
        exact HE_mono (Nat.le_succ B) hE
      · rw [i1 14 (by decide) (by decide)]
        exact hT
    · exact oe_err h (-5) (by decide) (fun L Z g d => c_pas_over (d + 3) x hv ho)
  · exact oe_err h (-2) (by decide) (fun L Z g d => c_pas_bad (d + 3) x hv)
/-- slot 0's rows as a room's -/
def slF (F : Nat → Nat → Int32) (c : Nat) : Nat → Int32 := F (c + 132)
theorem oe_restore {B : Nat} {F : Nat → Nat → Int32} (h : HI B F) (hS : ¬ F 169 0 = 0) (h2 : HI B (slF F)) : OE B yX5_giveBack MX5_giveBack [.ref 135, .int 0, .ref 5] F := by
  have e : ∀ c j, c < 16 → mVal c j → xCopyR F 5 137 (5 + c) j = slF F (5 + c) j := fun c j hc hv => by
    rw [xCopyR_in (by decide) hc hv]
    unfold slF
    rw [show 5 + c + 132 = 137 + c by omega]
  have hI := HI_congr (G := xCopyR F 5 137) e h2
  have hI2 := hI
  obtain ⟨n, ⟨hn, h10, -⟩, -⟩ := hI2
  refine ⟨xCopyR F 5 137 7 0, xCopyR F 5 137, fun L Z g d => ?_, fun z => absurd (by rw [← hn]; exact z) (err_n (n := n) (by omega)), HI_mono (Nat.le_succ B) hI, fun c hc => xCopyR_out (by omega), ar_n h10 (by decide) hn⟩
  have := c_back_ok (L := L) (F := mx F Z) (g := g) d 0 (by decide) hS
  rw [mx_copy (i := 5) (j := 137 + 16 * 0) (fun c hc => inS_lo (by omega)) (fun c hc => inS_hi (by omega) (by omega))] at this
  exact this
