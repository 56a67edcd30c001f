/-! the rows that a public call's answer can show (room, slots, statics) and the rest (histories, pad) apart: what is said 'for all Z' is the same whatever the rest holds -/
def inS (c : Nat) : Bool := Nat.ble c 20 || (Nat.ble 135 c && Nat.ble c 169)
def mx (F Z : Nat → Nat → Int32) (c : Nat) : Nat → Int32 := cond (inS c) (F c) (Z c)
theorem mx_in {F Z : Nat → Nat → Int32} {c : Nat} (h : inS c = true) : mx F Z c = F c := by
  unfold mx
  rw [h]
  rfl
theorem mx_out {F Z : Nat → Nat → Int32} {c : Nat} (h : inS c = false) : mx F Z c = Z c := by
  unfold mx
  rw [h]
  rfl
theorem inS_lo {c : Nat} (h : c ≤ 20) : inS c = true := by
  unfold inS
  rw [Nat.ble_eq.mpr h]
  rfl
theorem inS_hi {c : Nat} (h : 135 ≤ c) (h2 : c ≤ 169) : inS c = true := by
  unfold inS
  rw [Nat.ble_eq.mpr h, Nat.ble_eq.mpr h2]
  simp
theorem inS_or {c : Nat} (h : inS c = true) : c ≤ 20 ∨ (135 ≤ c ∧ c ≤ 169) := by
  unfold inS at h
  rcases Bool.or_eq_true_iff.mp h with h | h
  · exact Or.inl (Nat.ble_eq.mp h)
  · exact Or.inr ⟨Nat.ble_eq.mp (Bool.and_eq_true_iff.mp h).1, Nat.ble_eq.mp (Bool.and_eq_true_iff.mp h).2⟩
theorem inS_no {c : Nat} (h : 20 < c) (h2 : c < 135 ∨ 169 < c) : inS c = false := by
  cases e : inS c with
  | false => rfl
  | true => have := inS_or e; omega
theorem mx_of {A F : Nat → Nat → Int32} (h : ∀ c, inS c = true → A c = F c) : A = mx F A := by
  funext c
  cases e : inS c with
  | true => rw [mx_in e, h c e]
  | false => rw [mx_out e]
theorem mx_of2 {A F Z : Nat → Nat → Int32} (h : ∀ c, inS c = true → A c = F c) (h2 : ∀ c, inS c = false → A c = Z c) : A = mx F Z := by
  funext c
  cases e : inS c with
  | true => rw [mx_in e, h c e]
  | false => rw [mx_out e, h2 c e]
theorem mx_pe {F Z : Nat → Nat → Int32} {c k : Nat} {v : Int32} (h : inS c = true) : pe (mx F Z) c k v = mx (pe F c k v) Z := by
  refine mx_of2 (fun a ha => ?_) (fun a ha => ?_)
  · by_cases e : a = c
    · subst e
      rw [pe_self, pe_self, mx_in h]
    · rw [pe_row e, pe_row e, mx_in ha]
  · have e : a ≠ c := fun q => by rw [q, h] at ha; cases ha
    rw [pe_row e, mx_out ha]
theorem mx_peo {F Z : Nat → Nat → Int32} {c k : Nat} {v : Int32} (h : inS c = false) : pe (mx F Z) c k v = mx F (pe Z c k v) := by
  refine mx_of2 (fun a ha => ?_) (fun a ha => ?_)
  · have e : a ≠ c := fun q => by rw [q, h] at ha; cases ha
    rw [pe_row e, mx_in ha]
  · by_cases e : a = c
    · subst e
      rw [pe_self, pe_self, mx_out h]
    · rw [pe_row e, pe_row e, mx_out ha]
theorem mx_cpB {F Z : Nat → Nat → Int32} {a b sx dx n : Nat} (h : inS a = true) (h2 : inS b = true) : cpB (mx F Z) a b sx dx n = mx (cpB F a b sx dx n) Z := by
  refine mx_of2 (fun c hc => ?_) (fun c hc => ?_)
  · by_cases e : c = a
    · subst e
      unfold cpB
      rw [va_up_self, va_up_self, mx_in h, mx_in h2]
    · rw [cpB_row e, cpB_row e, mx_in hc]
  · have e : c ≠ a := fun q => by rw [q, h] at hc; cases hc
    rw [cpB_row e, mx_out hc]
/-! the heap's picture counts below the lengths alone -/
def mVv (s : mShp) (k : Nat) : Prop := match s with
  | .inl ci => k < mN ci ∧ (mty ci k = .int ∨ mty ci k = .boolean)
  | .inr (_, n) => k < n
theorem mfv_ext {ty : FieldType} {x y : Int32} {r : Option Nat} (h : ty = .int ∨ ty = .boolean → x = y) : mfv ty x r = mfv ty y r := by
  by_cases e : ty = .int ∨ ty = .boolean
  · rw [h e]
  · unfold mfv
    split
    · exact absurd (Or.inl rfl) e
    · exact absurd (Or.inr rfl) e
    · rfl
theorem arrV_ext {c : ClassId} {n : Nat} {f f' : Nat → Value} (h : ∀ j, j < n → f j = f' j) : arrV c n f = arrV c n f' := by
  unfold arrV
  have e : (fun j : Fin n => f j.val) = fun j : Fin n => f' j.val := funext fun j => h j.val j.isLt
  rw [e]
theorem mP_ext {base : Nat} {spa : Nat → Nat} {cm : Nat → ClassId} {D : va_G} {cl : List vw_C} {sh : List mShp} {F F' : Nat → Nat → Int32} {R : Nat → Nat → Option Nat} {H : Heap} (he : ∀ j s, 4 ≤ j → sh[j]? = some s → ∀ k, mVv s k → F j k = F' j k) (h : va_P D cl (mW base spa cm (sh, F, R)) H) : va_P D cl (mW base spa cm (sh, F', R)) H := by
  intro k q hk
  obtain ⟨h1, -⟩ := mW_at hk
  have h1' : k < sh.length - 4 := h1
  obtain ⟨s, hs⟩ : ∃ s, sh[k + 4]? = some s := ⟨_, List.getElem?_eq_getElem (by omega)⟩
  have g1 := mW_get (base := base) (spa := spa) (cm := cm) (hp := (sh, F, R)) (j := k + 4) (by omega) hs
  have g2 := mW_get (base := base) (spa := spa) (cm := cm) (hp := (sh, F', R)) (j := k + 4) (by omega) hs
  rw [show k + 4 - 4 = k by omega] at g1 g2
  obtain rfl := Option.some.inj (hk.symm.trans g2)
  have h2 := h k _ g1
  have he2 := he (k + 4) s (by omega) hs
  cases s with
  | inl ci =>
    have e : (List.range (mN ci)).map (fun i => mtv base spa (mfv (mty ci i) (F (k + 4) i) (R (k + 4) i))) = (List.range (mN ci)).map (fun i => mtv base spa (mfv (mty ci i) (F' (k + 4) i) (R (k + 4) i))) := by
      apply List.map_congr_left
      intro i hi
      rw [mfv_ext (x := F (k + 4) i) (y := F' (k + 4) i) (fun z => he2 i ⟨List.mem_range.mp hi, z⟩)]
    show va_at D cl (base + k, .inr (ci, (List.range (mN ci)).map (fun i => mtv base spa (mfv (mty ci i) (F' (k + 4) i) (R (k + 4) i))))) H
    rw [← e]
    exact h2
  | inr q =>
    obtain ⟨t, n⟩ := q
    by_cases ht : t = 2
    · subst ht
      exact h2
    · have e1 : mce base spa cm F R (k + 4) (.inr (t, n)) = .inl (cm t, n, .inl (F (k + 4))) := if_neg ht
      have e2 : mce base spa cm F' R (k + 4) (.inr (t, n)) = .inl (cm t, n, .inl (F' (k + 4))) := if_neg ht
      have e3 : vp_cell (cm t) (n, .inl (F (k + 4))) = vp_cell (cm t) (n, .inl (F' (k + 4))) := arrV_ext (fun j hj => congrArg Value.int (he2 j hj))
      simp only [e1] at h2
      simp only [e2]
      have h3 : H[base + k]? = some (vp_cell (cm t) (n, .inl (F (k + 4)))) := h2
      show H[base + k]? = some (vp_cell (cm t) (n, .inl (F' (k + 4))))
      rw [← e3]
      exact h3
theorem mGo_ext {M : mM} {d pc : Nat} {L : mLs} {st : List Value} {sh : List mShp} {F F' : Nat → Nat → Int32} {R : Nat → Nat → Option Nat} {out : mOut} (h4 : ∀ j, j < 4 → F j = F' j) (he : ∀ j s, 4 ≤ j → sh[j]? = some s → ∀ k, mVv s k → F j k = F' j k) (k : mGo M d (pc, L, st, (sh, F', R)) out) : mGo M d (pc, L, st, (sh, F, R)) out := by
  refine ⟨k.1, ?_⟩
  intro base spa spn spf cm D p l e R s m args below meth c Q cE sE H locs cells slots ls hX hfr hlo hcE hsE hK hc hs hD hS hL
  refine k.2 base spa spn spf cm D p l e R s m args below meth c Q cE sE H locs cells slots ls hX hfr hlo hcE hsE hK hc hs ⟨hD.1, hD.2.1, mP_ext he hD.2.2.1, fun j hj => ⟨(hD.2.2.2 j hj).1, ?_⟩⟩ hS hL
  show F' j = spf j
  rw [← h4 j hj]
  exact (hD.2.2.2 j hj).2
/-- the room's rows: what lies in its cells below their lengths -/
theorem mVal_room {L c j : Nat} {s : mShp} (hc : c < 16) (hs : (mSH L)[5 + c]? = some s) (hv : mVv s j) : mVal c j := by
  rcases (by omega : c = 0 ∨ c = 1 ∨ c = 2 ∨ c = 3 ∨ c = 4 ∨ c = 5 ∨ c = 6 ∨ c = 7 ∨ c = 8 ∨ c = 9 ∨ c = 10 ∨ c = 11 ∨ c = 12 ∨ c = 13 ∨ c = 14 ∨ c = 15) with rfl | rfl | rfl | rfl | rfl | rfl | rfl | rfl | rfl | rfl | rfl | rfl | rfl | rfl | rfl | rfl
  · cases hs
    obtain ⟨h1, h2⟩ := hv
    have h1' : j < 6 := h1
    rcases (by omega : j = 0 ∨ j = 1 ∨ j = 2 ∨ j = 3 ∨ j = 4 ∨ j = 5) with rfl | rfl | rfl | rfl | rfl | rfl
    · rfl
    all_goals (rcases h2 with h2 | h2 <;> cases h2)
  · cases hs; exact hv
  · cases hs
    obtain ⟨h1, h2⟩ := hv
    have h1' : j < 7 := h1
    rcases (by omega : j = 0 ∨ j = 1 ∨ j = 2 ∨ j = 3 ∨ j = 4 ∨ j = 5 ∨ j = 6) with rfl | rfl | rfl | rfl | rfl | rfl | rfl
    · rfl
    all_goals (rcases h2 with h2 | h2 <;> cases h2)
  · cases hs; exact hv
  · cases hs; exact hv
  · cases hs; exact hv
  · cases hs; exact hv
  · cases hs; exact hv
  · cases hs; exact hv
  · cases hs
    obtain ⟨h1, h2⟩ := hv
    have h1' : j < 5 := h1
    rcases (by omega : j = 0 ∨ j = 1 ∨ j = 2 ∨ j = 3 ∨ j = 4) with rfl | rfl | rfl | rfl | rfl
    · rcases h2 with h2 | h2 <;> cases h2
    · rcases h2 with h2 | h2 <;> cases h2
    · rcases h2 with h2 | h2 <;> cases h2
    · rcases h2 with h2 | h2 <;> cases h2
    · rfl
  · cases hs; exact hv
  · cases hs; exact hv
  · cases hs; exact hv
  · cases hs; exact hv
  · cases hs; exact hv
  · cases hs; exact hv
/-- a heap whose room is F's below the lengths, is F's room -/
theorem mGo_room {M : mM} {d pc Ln : Nat} {L : mLs} {st : List Value} {A F : Nat → Nat → Int32} {g : Nat → Option Nat} {out : mOut} (he : ∀ c j, c < 16 → mVal c j → A (5 + c) j = F (5 + c) j) (ho : ∀ c, inS c = true → (c < 5 ∨ 20 < c) → A c = F c) (k : mGo M d (pc, L, st, mHX Ln (mx F A) g) out) : mGo M d (pc, L, st, mHX Ln A g) out := by
  refine mGo_ext (F' := mx F A) (fun j hj => ?_) (fun j s _ hs i hv => ?_) k
  · rw [mx_in (inS_lo (by omega)), ho j (inS_lo (by omega)) (Or.inl (by omega))]
  · cases e : inS j with
    | false => rw [mx_out e]
    | true =>
      rw [mx_in e]
      by_cases h : 5 ≤ j ∧ j ≤ 20
      · obtain ⟨c, rfl⟩ : ∃ c, j = 5 + c := ⟨j - 5, by omega⟩
        exact he c i (by omega) (mVal_room (by omega) hs hv)
      · rw [ho j e (by omega)]
