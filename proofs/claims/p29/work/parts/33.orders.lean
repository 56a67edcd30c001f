/-! the orders of a room: what they answer and leave -/
theorem tab_i {x : Int32} : (0 ≤ x ∧ x < 3) ↔ (0 ≤ x ∧ x ≤ 2) := by
  rw [i_le, i_le, i_lt, i_0, show (3 : Int32).toInt = 3 from by decide, show (2 : Int32).toInt = 2 from by decide]
  omega
theorem tab_n {x : Int32} (h : 0 ≤ x ∧ x < 3) : ∃ u, u < 3 ∧ x = nI u := by
  obtain ⟨j, hj, e⟩ := nI_of2 (x := x) (M := 2) (n := 2) (by decide) (Int32.not_lt.mpr h.1) (tab_i.mp h).2
  exact ⟨j, by omega, e⟩
theorem rank_n {x : Int32} (h : 1 ≤ x ∧ x ≤ 9) : ∃ u, 1 ≤ u ∧ u ≤ 9 ∧ x = nI u := by
  have h0 : ¬ x < 0 := by
    have := h.1
    rw [i_le, show (1 : Int32).toInt = 1 from by decide] at this
    rw [i_lt, i_0]
    omega
  obtain ⟨j, hj, e⟩ := nI_of2 (x := x) (M := 9) (n := 9) (by decide) h0 h.2
  refine ⟨j, ?_, hj, e⟩
  have := h.1
  rw [e] at this
  exact (nI_leI (a := 1) (by decide) (by omega)).mp this
theorem err_n {n : Nat} (h : n < 2 ^ 31) : ¬ (nI n ≤ (-1) ∧ (-5) ≤ nI n) := fun q => by
  have := q.1
  rw [i_le, i_n h, show (-1 : Int32).toInt = -1 from by decide] at this
  omega
theorem kn_i {x : Int32} {n : Nat} (h : 0 ≤ x ∧ x < nI n) (hn : n ≤ 10) : ∃ k, k < n ∧ x = nI k := by
  obtain ⟨j, hj, e⟩ := nI_of (x := x) (Int32.not_lt.mpr h.1)
  refine ⟨j, ?_, e⟩
  have := h.2
  rw [e] at this
  exact (nI_ltI hj (by omega)).mp this
theorem set_i {x : Int32} : (0 ≤ x ∧ x < 4) ↔ (0 ≤ x ∧ x ≤ 3) := by
  rw [i_le, i_le, i_lt, i_0, show (4 : Int32).toInt = 4 from by decide, show (3 : Int32).toInt = 3 from by decide]
  omega
theorem set_n {j : Nat} (hj : j < 4) {v : Int32} (h1 : 1 ≤ v) (h2 : v ≤ mHS j) : ∃ x, 1 ≤ x ∧ (x ≤ 20 ∧ (2 ≤ j → x ≤ 9)) ∧ v = nI x := by
  have h0 : ¬ v < 0 := by
    rw [i_le, show (1 : Int32).toInt = 1 from by decide] at h1
    rw [i_lt, i_0]
    omega
  have hx : ∀ N : Nat, N < 100 → mHS j = nI N → ∃ x, 1 ≤ x ∧ x ≤ N ∧ v = nI x := by
    intro N hN e
    rw [e] at h2
    obtain ⟨x, hx, ex⟩ := nI_of2 (x := v) (M := nI N) (n := N) (nI_toInt (by omega)) h0 h2
    refine ⟨x, ?_, hx, ex⟩
    rw [ex] at h1
    exact (nI_leI (a := 1) (by decide) (by omega)).mp h1
  rcases (by omega : j = 0 ∨ j = 1 ∨ j = 2 ∨ j = 3) with rfl | rfl | rfl | rfl
  · obtain ⟨x, a, b, c⟩ := hx 20 (by decide) rfl
    exact ⟨x, a, ⟨b, fun q => by omega⟩, c⟩
  · obtain ⟨x, a, b, c⟩ := hx 20 (by decide) rfl
    exact ⟨x, a, ⟨b, fun q => by omega⟩, c⟩
  · obtain ⟨x, a, b, c⟩ := hx 9 (by decide) rfl
    exact ⟨x, a, ⟨by omega, fun q => b⟩, c⟩
  · obtain ⟨x, a, b, c⟩ := hx 9 (by decide) rfl
    exact ⟨x, a, ⟨by omega, fun q => b⟩, c⟩
abbrev isE (r : Int32) : Prop := r ≤ (-1) ∧ (-5) ≤ r
def FrB (A A1 : Nat → Nat → Int32) : Prop := ∀ c, c < 5 ∨ 21 ≤ c → A1 c = A c
theorem FrB_rf {A : Nat → Nat → Int32} : FrB A A := fun _ _ => rfl
theorem FrB_pe {A A1 : Nat → Nat → Int32} {c k : Nat} {v : Int32} (h : FrB A A1) (h1 : 5 ≤ c) (h2 : c < 21) : FrB A (pe A1 c k v) := fun x hx => by
  rw [pe_row (by omega)]
  exact h x hx
theorem FrB_end {A A1 : Nat → Nat → Int32} {h u : Nat} {m w : Int32} (hf : FrB A A1) : FrB A (xEnd A1 h u m w) := fun x hx => by
  have e : xEnd A1 h u m w x = A1 x := by
    unfold xEnd xTell
    repeat (rw [pe_row (by omega)])
    rw [cpB_row (by omega)]
  rw [e]
  exact hf x hx
/-- an order of the room: its answer and the rows that it leaves do not depend on the rest -/
def RE (y : MethodName) (M : mM) (as : List Value) (F : Nat → Nat → Int32) (r : Int32) (G : Nat → Nat → Int32) : Prop := ∀ (L : Nat) (Z : Nat → Nat → Int32) (g : Nat → Option Nat) (d : Nat), mCall (d + 3) y M as (mHX L (mx F Z) g) (some (.int r)) (mHX L (mx G Z) g)
/-- an answer: an error, NONE, or a number from 0 on -/
def AR (r : Int32) : Prop := isE r ∨ r = (-6) ∨ ∃ v, v < 2 ^ 31 ∧ r = nI v
theorem ar_n {r : Int32} {v b : Nat} (h : v ≤ b) (hb : b < 1000000) (e : r = nI v) : AR r := Or.inr (Or.inr ⟨v, by omega, e⟩)
def OE (B : Nat) (y : MethodName) (M : mM) (as : List Value) (F : Nat → Nat → Int32) : Prop := ∃ r G, RE y M as F r G ∧ (isE r → G = F) ∧ HI (B + 1) G ∧ FrB F G ∧ AR r
theorem oe_err {B : Nat} {y : MethodName} {M : mM} {as : List Value} {F : Nat → Nat → Int32} (h : HI B F) (r : Int32) (he : isE r) (hr : RE y M as F r F) : OE B y M as F := ⟨r, F, hr, fun _ => rfl, HI_mono (Nat.le_succ B) h, FrB_rf, Or.inl he⟩
theorem oe_set {B : Nat} {F : Nat → Nat → Int32} (h2 : F 2 = mHS) (h : HI B F) (x v : Int32) : OE B yX4_changeSetting MX4_changeSetting [.ref 5, .int x, .int v] F := by
  by_cases hx : 0 ≤ x ∧ x < 4
  · obtain ⟨j, hj, e⟩ := nI_of2 (x := x) (M := 3) (n := 3) (by decide) (Int32.not_lt.mpr hx.1) (set_i.mp hx).2
    subst e
    have hj4 : j < 4 := by omega
    by_cases hv : 1 ≤ v ∧ v ≤ mHS j
    · have h0 := HI_mono (Nat.le_succ B) h
      obtain ⟨n, hG, hF, ⟨a, b, l, s, c0, c1, c2, c3, c4, c5, c6, c7, c8, c9⟩, hP, hE, hT⟩ := h0
      obtain ⟨w, w1, ⟨w2, w3⟩, rfl⟩ := set_n hj4 hv.1 hv.2
      obtain ⟨y, hy, ey⟩ : ∃ y, y ≤ 20 ∧ F 6 j = nI y := by
        rcases (by omega : j = 0 ∨ j = 1 ∨ j = 2 ∨ j = 3) with rfl | rfl | rfl | rfl
        · exact ⟨a, c5, c0⟩
        · exact ⟨b, c7, c1⟩
        · exact ⟨l, by omega, c2⟩
        · exact ⟨s, by omega, c3⟩
      refine ⟨F 6 j, pe F 6 j (nI w), fun L Z g d => ?_, fun z => absurd (by rw [← ey]; exact z) (err_n (n := y) (by omega)), ⟨n, hG, hF, ?_, hP, hE, hT⟩, FrB_pe FrB_rf (by decide) (by decide), ar_n hy (by decide) ey⟩
      · have := c_set_ok (L := L) (F := mx F Z) (g := g) (d + 3) j hj4 (nI w) h2 hv.1 hv.2
        rw [mx_pe (c := 6) rfl] at this
        exact this
      · show HC (va_up (F 6) j (nI w))
        rcases (by omega : j = 0 ∨ j = 1 ∨ j = 2 ∨ j = 3) with rfl | rfl | rfl | rfl
        · exact ⟨w, b, l, s, up_eq, (up_ne (by decide)).trans c1, (up_ne (by decide)).trans c2, (up_ne (by decide)).trans c3, w1, w2, c6, c7, c8, c9⟩
        · exact ⟨a, w, l, s, (up_ne (by decide)).trans c0, up_eq, (up_ne (by decide)).trans c2, (up_ne (by decide)).trans c3, c4, c5, w1, w2, c8, c9⟩
        · exact ⟨a, b, w, s, (up_ne (by decide)).trans c0, (up_ne (by decide)).trans c1, up_eq, (up_ne (by decide)).trans c3, c4, c5, c6, c7, w3 (by decide), c9⟩
        · exact ⟨a, b, l, w, (up_ne (by decide)).trans c0, (up_ne (by decide)).trans c1, (up_ne (by decide)).trans c2, up_eq, c4, c5, c6, c7, c8, w3 (by decide)⟩
    · exact oe_err h (-2) (by decide) (fun L Z g d => c_set_bad (d + 3) j hj4 v h2 hv)
  · exact oe_err h (-2) (by decide) (fun L Z g d => c_set_no (d + 3) x v hx)
theorem oe_guest {B : Nat} {F : Nat → Nat → Int32} (h : HI B F) (x v : Int32) : OE B yX4_welcome MX4_welcome [.ref 5, .int x, .int v] F := by
  by_cases hx : 0 ≤ x ∧ x < 3
  · by_cases hv : 1 ≤ v ∧ v ≤ 9
    · have h0 := HI_mono (Nat.le_succ B) h
      obtain ⟨n, ⟨hn, h10, hs, ⟨q, hq⟩, hc⟩, hF, hC, hP, hE, hT⟩ := h0
      by_cases hf : n < 10
      · obtain ⟨u, hu, rfl⟩ := tab_n hx
        obtain ⟨w, w1, w9, rfl⟩ := rank_n hv
        have hC2 := hC
        obtain ⟨a, b, l, s, c0, c1, c2, c3, c4, c5, c6, c7, c8, c9⟩ := hC2
        refine ⟨nI n, xAdd F n (nI u) (nI w), fun L Z g d => ?_, fun z => absurd z (err_n (by omega)), ⟨n + 1, ⟨?_, hf, ?_, ⟨fun k => if k = n then w else q k, ?_⟩, ?_⟩, hF, hC, ?_, hE, hT⟩, ?_, ar_n h10 (by decide) rfl⟩
        · have := c_wel_ok (L := L) (F := mx F Z) (g := g) (d + 2) (nI u) (nI w) hx hv n hn hf
          unfold xAdd at this
          rw [mx_pe (c := 8) rfl, mx_pe (c := 9) rfl, mx_pe (c := 11) rfl, mx_pe (c := 7) rfl] at this
          exact this
        · show va_up (F 7) 0 (F 7 0 + 1) 0 = nI (n + 1)
          rw [up_eq, hn]
          exact nI_1 n
        · intro k hk
          show va_up (F 8) n (nI u) k = (-6) ∨ ∃ u', u' < 3 ∧ va_up (F 8) n (nI u) k = nI u'
          by_cases e : k = n
          · subst e
            exact Or.inr ⟨u, hu, up_eq⟩
          · rw [up_ne e]
            exact hs k (by omega)
        · intro k hk
          show va_up (F 9) n (nI w) k = nI (if k = n then w else q k) ∧ 1 ≤ (if k = n then w else q k) ∧ (if k = n then w else q k) ≤ 9
          by_cases e : k = n
          · subst e
            rw [up_eq, if_pos rfl]
            exact ⟨rfl, w1, w9⟩
          · rw [up_ne e, if_neg e]
            exact hq k (by omega)
        · intro k hk
          show ∃ c, c ≤ 9 ∧ va_up (F 11) n (F 6 2) k = nI c
          by_cases e : k = n
          · subst e
            exact ⟨l, c8, up_eq.trans c2⟩
          · rw [up_ne e]
            exact hc k (by omega)
        · exact HP_n hP (fun k hk => up_ne (by omega))
        · exact FrB_pe (FrB_pe (FrB_pe (FrB_pe FrB_rf (by decide) (by decide)) (by decide) (by decide)) (by decide) (by decide)) (by decide) (by decide)
      · obtain rfl : n = 10 := by omega
        exact oe_err h (-4) (by decide) (fun L Z g d => c_wel_full (d + 2) x v hx hv hn)
    · exact oe_err h (-2) (by decide) (fun L Z g d => c_wel_bad (d + 2) x v hx hv)
  · exact oe_err h (-1) (by decide) (fun L Z g d => c_wel_no (d + 2) x v hx)
theorem pop_n (x : Int32) : ∃ j, j < 64 ∧ sPop x = nI j := by
  obtain ⟨j, hj, e⟩ := pk_andE (sB5 (sB4 (sB3 (sB2 (sB1 x))))) (m := 63) 6 (by decide)
  exact ⟨j, hj, e⟩
theorem oe_leave {B : Nat} {F : Nat → Nat → Int32} (h : HI B F) (x : Int32) : OE B yX4_seeOff MX4_seeOff [.ref 5, .int x] F := by
  have h0 := HI_mono (Nat.le_succ B) h
  obtain ⟨n, hG, hF, hC, hP, hE, hT⟩ := h0
  have hG2 := hG
  obtain ⟨hn, h10, hs, -, -⟩ := hG2
  by_cases hx : 0 ≤ x ∧ x < F 7 0
  · obtain ⟨k, hk, rfl⟩ := kn_i (by rw [← hn]; exact hx) h10
    rcases hs k hk with e | ⟨u, hu, e⟩
    · exact oe_err h (-5) (by decide) (fun L Z g d => c_off_gone (F := mx F Z) (d + 2) n hn h10 k hk e)
    · obtain ⟨j, hj, ej⟩ := pop_n (sSet (va_up (F 8) k (-6)) (nI u) n)
      by_cases h0 : sSet (va_up (F 8) k (-6)) (nI u) n = 0
      · refine ⟨sPop (sSet (va_up (F 8) k (-6)) (nI u) n), pe (pe F 8 k (-6)) 19 u (-6), fun L Z g d => ?_, fun z => absurd (by rw [← ej]; exact z) (err_n (n := j) (by omega)), ⟨n, HG_seat hG (Or.inl rfl), hF, hC, HP_off hP e hu, hE, hT⟩, FrB_pe (FrB_pe FrB_rf (by decide) (by decide)) (by decide) (by decide), ar_n (Nat.le_of_lt hj) (by decide) ej⟩
        have := c_off_0 (L := L) (F := mx F Z) (g := g) (d + 1) n hn h10 k hk u hu e h0
        rw [mx_pe (c := 8) rfl, mx_pe (c := 19) rfl] at this
        exact this
      · refine ⟨sPop (sSet (va_up (F 8) k (-6)) (nI u) n), pe F 8 k (-6), fun L Z g d => ?_, fun z => absurd (by rw [← ej]; exact z) (err_n (n := j) (by omega)), ⟨n, HG_seat hG (Or.inl rfl), hF, hC, HP_stay h10 hP e hu h0, hE, hT⟩, FrB_pe FrB_rf (by decide) (by decide), ar_n (Nat.le_of_lt hj) (by decide) ej⟩
        have := c_off_n (L := L) (F := mx F Z) (g := g) (d + 1) n hn h10 k hk u hu e h0
        rw [mx_pe (c := 8) rfl] at this
        exact this
  · exact oe_err h (-1) (by decide) (fun L Z g d => c_off_no (d + 2) x hx)
theorem oe_move {B : Nat} {F : Nat → Nat → Int32} (h : HI B F) (x y : Int32) : OE B yX4_reseat MX4_reseat [.ref 5, .int x, .int y] F := by
  have h0 := HI_mono (Nat.le_succ B) h
  obtain ⟨n, hG, hF, hC, hP, hE, hT⟩ := h0
  have hG2 := hG
  obtain ⟨hn, h10, hs, -, -⟩ := hG2
  by_cases hx : 0 ≤ x ∧ x < F 7 0
  · by_cases hy : 0 ≤ y ∧ y < 3
    · obtain ⟨k, hk, rfl⟩ := kn_i (by rw [← hn]; exact hx) h10
      obtain ⟨w, hw, rfl⟩ := tab_n hy
      rcases hs k hk with e | ⟨u, hu, e⟩
      · exact oe_err h (-5) (by decide) (fun L Z g d => c_mov_gone (F := mx F Z) (d + 2) n hn h10 k hk w hw e)
      · by_cases huw : u = w
        · subst huw
          exact oe_err h (-5) (by decide) (fun L Z g d => c_mov_same (F := mx F Z) (d + 2) n hn h10 k hk u hu e)
        · by_cases h0 : sSet (va_up (F 8) k (nI w)) (nI u) n = 0
          · refine ⟨nI u, pe (pe F 8 k (nI w)) 19 u (-6), fun L Z g d => ?_, fun z => absurd z (err_n (by omega)), ⟨n, HG_seat hG (Or.inr ⟨w, hw, rfl⟩), hF, hC, HP_off hP e hu, hE, hT⟩, FrB_pe (FrB_pe FrB_rf (by decide) (by decide)) (by decide) (by decide), ar_n (Nat.le_of_lt hu) (by decide) rfl⟩
            have := c_mov_0 (L := L) (F := mx F Z) (g := g) (d + 1) n hn h10 k hk u w hu hw huw e h0
            rw [mx_pe (c := 8) rfl, mx_pe (c := 19) rfl] at this
            exact this
          · refine ⟨nI u, pe F 8 k (nI w), fun L Z g d => ?_, fun z => absurd z (err_n (by omega)), ⟨n, HG_seat hG (Or.inr ⟨w, hw, rfl⟩), hF, hC, HP_stay h10 hP e hu h0, hE, hT⟩, FrB_pe FrB_rf (by decide) (by decide), ar_n (Nat.le_of_lt hu) (by decide) rfl⟩
            have := c_mov_n (L := L) (F := mx F Z) (g := g) (d + 1) n hn h10 k hk u w hu hw huw e h0
            rw [mx_pe (c := 8) rfl] at this
            exact this
    · exact oe_err h (-1) (by decide) (fun L Z g d => c_mov_notab (d + 2) x y hx hy)
  · exact oe_err h (-1) (by decide) (fun L Z g d => c_mov_no (d + 2) x y hx)
theorem oe_pause {B : Nat} {F : Nat → Nat → Int32} (h : HI B F) (x : Int32) : OE B yX4_beginPause MX4_beginPause [.ref 5, .int x] F := by
  have h0 := HI_mono (Nat.le_succ B) h
  obtain ⟨n, hG, hF, hC, hP, hE, hT⟩ := h0
  have hG2 := hG
  obtain ⟨hn, h10, hs, -, -⟩ := hG2
  by_cases hx : 0 ≤ x ∧ x < 3
  · obtain ⟨u, hu, rfl⟩ := tab_n hx
    obtain ⟨c, hc, ec, hc0⟩ := comp_le (P := F 8) (Q := F 9) (t := nI u) h10
    by_cases hp : F 19 u = (-6)
    · by_cases h0 : c = 0
      · exact oe_err h (-5) (by decide) (fun L Z g d => c_beg_nobody (F := mx F Z) (d + 2) n hn h10 u hu c hc ec hp h0)
      · refine ⟨nI c, pe F 19 u 0, fun L Z g d => ?_, fun z => absurd z (err_n (by omega)), ⟨n, hG, hF, hC, HP_pause hP (Or.inr ⟨⟨0, Nat.zero_le _, rfl⟩, ?_⟩), hE, hT⟩, FrB_pe FrB_rf (by decide) (by decide), ar_n hc (by decide) rfl⟩
        · have := c_beg_ok (L := L) (F := mx F Z) (g := g) (d + 2) n hn h10 u hu c hc ec hp h0
          rw [mx_pe (c := 19) rfl] at this
          exact this
        · exact Classical.byContradiction fun q => h0 (hc0.mpr (fun j hj hj2 => q ⟨j, hj, hj2⟩))
    · exact oe_err h (-5) (by decide) (fun L Z g d => c_beg_is (F := mx F Z) (d + 2) n hn h10 u hu c hc ec hp)
  · exact oe_err h (-1) (by decide) (fun L Z g d => c_beg_no (d + 2) x hx)
/-- an end that means nothing -/
theorem hi_end {B n hh u : Nat} {A : Nat → Nat → Int32} {w : Int32} (h3 : hh < 3) (hu : u < 3) (hG : HG n (A 7) (A 8) (A 9) (A 11)) (hF : HF (B + 1) (A 10)) (hC : HC (A 6)) (hP : HP B n (A 8) (A 19)) (hE : HE B (A 15) (A 16) (A 17) (A 20)) (hT : HT (A 14)) : HI (B + 1) (xEnd A hh u 0 w) := by
  obtain ⟨t, ht, et⟩ := hT
  obtain ⟨t2, -, t10, e2⟩ := xEnd_14 (A := A) (h := hh) (u := u) (m := 0) (w := w) et ht
  refine ⟨n, ?_, ?_, ?_, ?_, ?_, ⟨t2, t10, e2⟩⟩
  · rw [xEnd_r (c := 7) (by decide), xEnd_r (c := 8) (by decide), xEnd_r (c := 9) (by decide), xEnd_r (c := 11) (by decide)]
    exact hG
  · rw [xEnd_r (c := 10) (by decide)]
    exact hF
  · rw [xEnd_r (c := 6) (by decide)]
    exact hC
  · rw [xEnd_r (c := 8) (by decide), xEnd_19]
    exact HP_mono (Nat.le_succ B) (HP_pause hP (Or.inl rfl))
  · rw [xEnd_r (c := 15) (by decide), xEnd_r (c := 16) (by decide), xEnd_17, xEnd_20]
    exact HE_end hE h3 hu
theorem oe_close {B : Nat} {F : Nat → Nat → Int32} (hB : B ≤ 1000) (h3 : F 3 = mMB) (h : HI B F) (x : Int32) : OE B yX4_closePause MX4_closePause [.ref 5, .int x] F := by
  have h0 := h
  obtain ⟨n, hG, hF, hC, hP, hE, hT⟩ := h0
  have hG2 := hG
  obtain ⟨hn, h10, hs, -, -⟩ := hG2
  by_cases hx : 0 ≤ x ∧ x < 3
  · obtain ⟨u, hu, rfl⟩ := tab_n hx
    by_cases hp : F 19 u = (-6)
    · exact oe_err h (-5) (by decide) (fun L Z g d => c_clo_none (d + 2) u hu hp)
    · obtain ⟨c, hc, ec, hc0⟩ := comp_le (P := F 8) (Q := F 9) (t := nI u) h10
      obtain ⟨mm, m11, em⟩ := mean_nat (F 6) c (F 19 u) hc
      by_cases m0 : mm = 0
      · subst m0
        refine ⟨0, xEnd F 0 u 0 (-6), fun L Z g d => ?_, fun z => absurd z (by decide), hi_end (by decide) hu hG (HF_mono (Nat.le_succ B) hF) hC hP hE hT, FrB_end FrB_rf, ar_n (Nat.zero_le 0) (by decide) rfl⟩
        have := c_clo_0 (L := L) (F := mx F Z) (g := g) d n hn h10 h3 u hu c hc ec hp em
        rw [mx_end] at this
        exact this
      · rcases hP u hu with w | ⟨⟨p, pB, ep⟩, -⟩
        · exact absurd w hp
        · have hC2 := hC
          obtain ⟨a, b, l, s, c0, c1, c2, c3, c4, c5, c6, c7, c8, c9⟩ := hC2
          have p1 : 1 ≤ p := by
            rcases Nat.lt_or_ge p a with z | z
            · exfalso
              have : sMean (F 6) c (F 19 u) = 0 := by
                unfold sMean
                rw [c0, ep]
                exact if_neg (nI_ge z (by omega))
              rw [this] at em
              have := (nI_eq (a := 0) (b := mm) (by decide) (by omega)).mp em
              omega
            · omega
          refine ⟨nI mm, xEnd (xEnter F mm (F 19 u)) 0 u (nI mm) (-6), fun L Z g d => ?_, fun z => absurd z (err_n (by omega)), ?_, FrB_end (FrB_pe (FrB_pe FrB_rf (by decide) (by decide)) (by decide) (by decide)), ar_n m11 (by decide) rfl⟩
          · have := c_clo_n (L := L) (F := mx F Z) (g := g) d n hn h10 h3 u hu c hc ec hp mm (by omega) m11 em
            rw [show mx F Z 19 u = F 19 u from rfl, mx_enter, mx_end] at this
            exact this
          · obtain ⟨t, ht, et⟩ := hT
            obtain ⟨t2, -, t10, e2⟩ := xEnd_14 (A := xEnter F mm (F 19 u)) (h := 0) (u := u) (m := nI mm) (w := (-6)) et ht
            refine ⟨n, ?_, ?_, ?_, ?_, ?_, ⟨t2, t10, e2⟩⟩
            · rw [xEnd_r (c := 7) (by decide), xEnd_r (c := 8) (by decide), xEnd_r (c := 9) (by decide), xEnd_r (c := 11) (by decide)]
              exact hG
            · rw [xEnd_r (c := 10) (by decide)]
              exact HF_mono (Nat.le_succ B) hF
            · rw [xEnd_r (c := 6) (by decide)]
              exact hC
            · rw [xEnd_r (c := 8) (by decide), xEnd_19]
              exact HP_mono (Nat.le_succ B) (HP_pause hP (Or.inl rfl))
            · rw [xEnd_r (c := 15) (by decide), xEnd_r (c := 16) (by decide), xEnd_17, xEnd_20]
              have := HE_mean (mm := mm) hB hE hu p1 pB
              rw [← ep] at this
              exact this
  · exact oe_err h (-1) (by decide) (fun L Z g d => c_clo_no (d + 2) x hx)
