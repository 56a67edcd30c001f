/-! a turn of the law, the loop, and the start -/
abbrev lwH (i : Nat) (x3 x4 x5 x6 x7 x8 x9 x10 x11 x12 : Option Value) : mLs := [some (.ref 0), some (.ref 4), some (.int (nI i)), x3, x4, x5, x6, x7, x8, x9, x10, x11, x12]
/-- from the law's place pc on, whatever the later locals hold -/
def LG (Ln d pc : Nat) (i : Nat) (A : Nat → Nat → Int32) (g : Nat → Option Nat) (out : mOut) : Prop := ∀ x3 x4 x5 x6 x7 x8 x9 x10 x11 x12 : Option Value, mGo ML_law (d + 6) (pc, lwH i x3 x4 x5 x6 x7 x8 x9 x10 x11 x12, [], mHX Ln A g) out
theorem not_e {r : Int32} (h : ¬ isE r) (hr : ¬ 0 ≤ r) : r ≤ (-6) := by
  rw [i_le, show (-6 : Int32).toInt = -6 from by decide]
  rw [i_le, i_0] at hr
  have h2 : ¬ (r.toInt ≤ -1 ∧ -5 ≤ r.toInt) := fun q => h ⟨by rw [i_le, show (-1 : Int32).toInt = -1 from by decide]; exact q.1, by rw [i_le, show (-5 : Int32).toInt = -5 from by decide]; exact q.2⟩
  omega
theorem is_e {r : Int32} (h : isE r) : ¬ 0 ≤ r ∧ ¬ r = (-6) := by
  constructor
  · intro q
    have := h.1
    rw [i_le] at this q
    rw [show (-1 : Int32).toInt = -1 from by decide] at this
    rw [i_0] at q
    omega
  · intro q
    rw [q] at h
    exact absurd h (by decide)
theorem mx_self (F : Nat → Nat → Int32) : mx F F = F := (mx_of (fun _ _ => rfl)).symm
/-- the end of a turn: holds, isBroken -/
theorem lw_tail {B d Ln i k : Nat} {X : Nat → Int32} {F Z : Nat → Nat → Int32} {g : Nat → Option Nat} {π : Nat → Nat} (hB : B ≤ 1000) (hN : IN B X F) (hs : HS k π Z g) (w : Int32) : ∃ Z1 g1 k1 π1, HS k1 π1 Z1 g1 ∧ ∀ out, LG Ln d 58 (i + 1) (mx F Z1) g1 out → ∀ (v : Int32) (x5 x6 x7 x8 x9 x10 x11 x12 : Option Value), mGo ML_law (d + 6) (278, lwH i (some (.int v)) (some (.int w)) x5 x6 x7 x8 x9 x10 x11 x12, [], mHX Ln (mx F Z) g) out := by
  have hN2 := hN
  obtain ⟨-, -, h3, -, hI, -⟩ := hN2
  have HH := ho_of (d := d + 1) hB h3 hI Ln Z g
  by_cases hw : (w &&& 1) = 0
  · obtain ⟨Z1, g1, k1, π1, HB, hs1⟩ := ib_1 (d := d) hB hI (sLow (w >>> (2 &&& 31)) 10) Ln Z g k π hs
    exact ⟨Z1, g1, k1, π1, hs1, fun out K v x5 x6 x7 x8 x9 x10 x11 x12 => lw_6a i hw HH HB (K _ _ _ _ _ _ _ _ _ _)⟩
  · obtain ⟨Z1, g1, k1, π1, HB, hs1⟩ := ib_0 (d := d) hB hI (sLow (w >>> (2 &&& 31)) 10) Ln Z g k π hs
    exact ⟨Z1, g1, k1, π1, hs1, fun out K v x5 x6 x7 x8 x9 x10 x11 x12 => lw_6b i hw HH HB (K _ _ _ _ _ _ _ _ _ _)⟩
theorem cn_14 {L d k : Nat} {F Z : Nat → Nat → Int32} {g : Nat → Option Nat} {π : Nat → Nat} (hs : HS k π Z g) : mCall (d + 5) yX6_count MX6_count [.ref 4, .int 14] (mHX L (mx F Z) g) (some (.int (nI k))) (mHX L (mx F Z) g) := by
  have := c_cnt_14 (L := L) (F := mx F Z) (g := g) (d + 2)
  rw [show mx F Z 21 1 = nI k from hs.2.2.2] at this
  exact this
theorem kN_c {k : Nat} (hk : k ≤ 6) : (¬ (6 : Int32) ≤ nI k ∧ nI (kN k) = nI k + 1) ∨ ((6 : Int32) ≤ nI k ∧ nI (kN k) = 6) := by
  unfold kN
  by_cases h : k < 6
  · left
    rw [if_pos h, nI_1]
    exact ⟨nI_ge (a := k) (b := 6) h (by decide), rfl⟩
  · right
    rw [if_neg h]
    exact ⟨nI_le (a := 6) (b := k) (by omega) (by omega), rfl⟩
/-- a turn from the place behind the saving on -/
theorem lw_mid {B d Ln i k : Nat} {X : Nat → Int32} {F Z : Nat → Nat → Int32} {g : Nat → Option Nat} {π : Nat → Nat} (hB : B + 1 ≤ 1000) (hN : IN B X F) (hs : HS k π Z g) (v w : Int32) : ∃ F1 Z1 g1 k1 π1, IN (B + 1) X F1 ∧ HS k1 π1 Z1 g1 ∧ ∀ out, LG Ln d 58 (i + 1) (mx F1 Z1) g1 out → ∀ (x5 x6 x7 x8 x9 x10 x11 x12 : Option Value), mGo ML_law (d + 6) (109, lwH i (some (.int v)) (some (.int w)) x5 x6 x7 x8 x9 x10 x11 x12, [], mHX Ln (mx F Z) g) out := by
  have hN2 := hN
  obtain ⟨-, -, h3, -, hI, -⟩ := hN2
  have hk6 : k ≤ 6 := hs.2.2.1
  obtain ⟨b, T⟩ := td_of hI
  obtain ⟨r, G, C, hI2, hf, har⟩ := ac_act (d := d) (by omega) hN v w
  have hNG := IN_fr hN hI2 hf
  obtain ⟨b2, T2⟩ := td_of hI2
  obtain ⟨Z1, g1, π1, H, hc⟩ := C Ln Z g k π hs
  have CN := cn_14 (L := Ln) (d := d) (F := F) hs
  rcases hc with ⟨he, eG, hs1⟩ | ⟨hne, hs1, hu⟩
  · subst eG
    obtain ⟨Z2, g2, k2, π2, hs2, K2⟩ := lw_tail (Ln := Ln) (d := d) (i := i) hB hNG hs1 w
    refine ⟨G, Z2, g2, k2, π2, hNG, hs2, fun out K x5 x6 x7 x8 x9 x10 x11 x12 => ?_⟩
    exact lw_3 (T Ln Z g (d + 1)) CN H (T Ln Z1 g1 (d + 1)) (lw_4n (is_e he).1 (is_e he).2 (cn_14 hs1) (lw_5n (K2 out K _ _ _ _ _ _ _ _ _)))
  · have hd4 : ∀ (out : mOut) (x11 x12 : Option Value), mGo ML_law (d + 6) (211, [some (.ref 0), some (.ref 4), some (.int (nI i)), some (.int v), some (.int w), some (.long b), none, some (.int (nI k)), some (.int r), some (.long b2), none, some (.int 1), x12], [], mHX Ln (mx G Z1) g1) out → mGo ML_law (d + 6) (138, [some (.ref 0), some (.ref 4), some (.int (nI i)), some (.int v), some (.int w), some (.long b), none, some (.int (nI k)), some (.int r), some (.long b2), none, x11, x12], [], mHX Ln (mx G Z1) g1) out := by
      intro out x11 x12 K
      have C2 := cn_14 (L := Ln) (d := d) (F := G) hs1
      by_cases h0 : 0 ≤ r
      · rcases kN_c hk6 with ⟨a1, a2⟩ | ⟨a1, a2⟩
        · rw [a2] at C2
          exact lw_4da0 h0 a1 C2 K
        · rw [a2] at C2
          exact lw_4da1 h0 a1 C2 K
      · have h6 : r = (-6) := by
          rcases har with q | q | ⟨x, hx, q⟩
          · exact absurd q hne
          · exact q
          · rw [q] at h0
            exact absurd (nI_pos' hx) h0
        rcases kN_c hk6 with ⟨a1, a2⟩ | ⟨a1, a2⟩
        · rw [a2] at C2
          exact lw_4db0 h0 h6 a1 C2 K
        · rw [a2] at C2
          exact lw_4db1 h0 h6 a1 C2 K
    by_cases hv : ((v >>> (10 &&& 31)) &&& 1) = 0
    · obtain ⟨Z2, hs2, U⟩ := un_ex (Ln := Ln) hs1 hu hf
      obtain ⟨Z3, g3, π3, H3, hc3⟩ := C Ln Z2 g1 (kN k - 1) π1 hs2
      rcases hc3 with ⟨he, -⟩ | ⟨-, hs3, -⟩
      · exact absurd he hne
      · obtain ⟨Z4, g4, k4, π4, hs4, K4⟩ := lw_tail (Ln := Ln) (d := d) (i := i) hB hNG hs3 w
        refine ⟨G, Z4, g4, k4, π4, hNG, hs4, fun out K x5 x6 x7 x8 x9 x10 x11 x12 => ?_⟩
        refine lw_3 (T Ln Z g (d + 1)) CN H (T2 Ln Z1 g1 (d + 1)) (hd4 out _ _ ?_)
        refine lw_5u hv (cn_14 hs1) ?_
        refine U dL_law_236 ml_L_83 (Nat.le_of_ble_eq_true rfl) ?_
        refine lw_5w ?_ (T Ln Z2 g1 (d + 1)) H3 (T2 Ln Z3 g3 (d + 1)) (K4 out K _ _ _ _ _ _ _ _ _)
        have h1 := (kN_le k).1
        obtain ⟨z, hz⟩ : ∃ z, kN k = z + 1 := ⟨kN k - 1, by omega⟩
        rw [hz, nI_pred]
        rfl
    · obtain ⟨Z2, g2, k2, π2, hs2, K2⟩ := lw_tail (Ln := Ln) (d := d) (i := i) hB hNG hs1 w
      refine ⟨G, Z2, g2, k2, π2, hNG, hs2, fun out K x5 x6 x7 x8 x9 x10 x11 x12 => ?_⟩
      exact lw_3 (T Ln Z g (d + 1)) CN H (T2 Ln Z1 g1 (d + 1)) (hd4 out _ _ (lw_5s hv (K2 out K _ _ _ _ _ _ _ _ _)))
/-- saving -/
def svF (F : Nat → Nat → Int32) : Nat → Nat → Int32 := pe (xCopyR F 137 5) 169 0 1
theorem sv_call {L d : Nat} {F Z : Nat → Nat → Int32} {g : Nat → Option Nat} : mCall (d + 5) yX6_save MX6_save [.ref 4, .int 0] (mHX L (mx F Z) g) (some (.int (F 7 0))) (mHX L (mx (svF F) Z) g) := by
  have := c_x_save (L := L) (F := mx F Z) (g := g) (d + 1) 0 _ _ (c_slot_keep (d + 1) 0 (by decide))
  rw [mx_copy (i := 137 + 16 * 0) (j := 5) (fun c hc => inS_hi (by omega) (by omega)) (fun c hc => inS_lo (by omega)), mx_pe (c := 169) rfl] at this
  exact this
theorem sv_row {F : Nat → Nat → Int32} {c : Nat} (h : c < 137) : svF F c = F c := by
  unfold svF
  rw [pe_row (by omega), xCopyR_out (by omega)]
theorem sv_IN {B : Nat} {X : Nat → Int32} {F : Nat → Nat → Int32} (h0 : F 0 = X) (h2 : F 2 = mHS) (h3 : F 3 = mMB) (hI : HI B F) : IN B X (svF F) := by
  refine ⟨(sv_row (by decide)).trans h0, (sv_row (by decide)).trans h2, (sv_row (by decide)).trans h3, ?_, HI_congr (fun c j hc _ => by rw [sv_row (by omega)]) hI, HI_congr (fun c j hc hv => ?_) hI⟩
  · show ¬ pe (xCopyR F 137 5) 169 0 1 169 0 = 0
    rw [pe_eq]
    decide
  · show pe (xCopyR F 137 5) 169 0 1 (5 + c + 132) j = F (5 + c) j
    rw [pe_row (by omega), show 5 + c + 132 = 137 + c by omega]
    exact xCopyR_in (by decide) hc hv
theorem lw_turn {B d Ln i k : Nat} {X : Nat → Int32} {F Z : Nat → Nat → Int32} {g : Nat → Option Nat} {π : Nat → Nat} (hL : Ln ≤ 260) (hi : i < 44) (hB : B + 1 ≤ 1000) (hN : IN B X F) (hs : HS k π Z g) : ∃ F1 Z1 g1 k1 π1, IN (B + 1) X F1 ∧ HS k1 π1 Z1 g1 ∧ ∀ out, LG Ln d 58 (i + 1) (mx F1 Z1) g1 out → LG Ln d 58 i (mx F Z) g out := by
  have c0 : mCall (d + 5) yL_cell ML_cell [.ref 0, .int (2 * nI i)] (mHX Ln (mx F Z) g) (some (.int (sCell (F 0) Ln (2 * i)))) (mHX Ln (mx F Z) g) := by
    have := c_cell (L := Ln) (F := mx F Z) (g := g) (d + 5) (2 * i) (by omega) (by omega)
    rw [← pk_mul] at this
    exact this
  have c1 : mCall (d + 5) yL_cell ML_cell [.ref 0, .int (2 * nI i + 1)] (mHX Ln (mx F Z) g) (some (.int (sCell (F 0) Ln (2 * i + 1)))) (mHX Ln (mx F Z) g) := by
    have := c_cell (L := Ln) (F := mx F Z) (g := g) (d + 5) (2 * i + 1) (by omega) (by omega)
    rw [← nI_1, ← pk_mul] at this
    exact this
  generalize sCell (F 0) Ln (2 * i) = v0 at c0
  generalize sCell (F 0) Ln (2 * i + 1) = w at c1
  obtain ⟨v, hv⟩ : ∃ v : Int32, ∀ (out : mOut) (x3 x4 x5 x6 x7 x8 x9 x10 x11 x12 : Option Value), mGo ML_law (d + 6) (97, lwH i (some (.int v)) (some (.int w)) x5 x6 x7 x8 x9 x10 x11 x12, [], mHX Ln (mx F Z) g) out → mGo ML_law (d + 6) (58, lwH i x3 x4 x5 x6 x7 x8 x9 x10 x11 x12, [], mHX Ln (mx F Z) g) out := by
    by_cases h3 : i < 3
    · exact ⟨_, fun out x3 x4 x5 x6 x7 x8 x9 x10 x11 x12 K => lw_1a i hi h3 c0 c1 K⟩
    · exact ⟨_, fun out x3 x4 x5 x6 x7 x8 x9 x10 x11 x12 K => lw_1b i hi h3 c0 c1 K⟩
  by_cases h8 : nI i = 8
  · have hN2 := hN
    obtain ⟨h0, h2, h3, -, hI, -⟩ := hN2
    obtain ⟨F1, Z1, g1, k1, π1, hN1, hs1, K1⟩ := lw_mid (Ln := Ln) (d := d) (i := i) hB (sv_IN h0 h2 h3 hI) hs v w
    exact ⟨F1, Z1, g1, k1, π1, hN1, hs1, fun out K x3 x4 x5 x6 x7 x8 x9 x10 x11 x12 => hv out _ _ _ _ _ _ _ _ _ _ (lw_2s i h8 sv_call (K1 out K _ _ _ _ _ _ _ _))⟩
  · obtain ⟨F1, Z1, g1, k1, π1, hN1, hs1, K1⟩ := lw_mid (Ln := Ln) (d := d) (i := i) hB hN hs v w
    exact ⟨F1, Z1, g1, k1, π1, hN1, hs1, fun out K x3 x4 x5 x6 x7 x8 x9 x10 x11 x12 => hv out _ _ _ _ _ _ _ _ _ _ (lw_2n i h8 (K1 out K _ _ _ _ _ _ _ _))⟩
theorem lw_loop {d Ln : Nat} {X : Nat → Int32} (hL : Ln ≤ 260) : ∀ (m i k : Nat) (π : Nat → Nat) (F Z : Nat → Nat → Int32) (g : Nat → Option Nat), i + m = 44 → IN i X F → HS k π Z g → ∃ F2 g2, LG Ln d 58 i (mx F Z) g (some (.int 1), mHX Ln F2 g2) := by
  intro m
  induction m with
  | zero =>
    intro i k π F Z g hi _ _
    obtain rfl : i = 44 := by omega
    exact ⟨mx F Z, g, fun x3 x4 x5 x6 x7 x8 x9 x10 x11 x12 => lw_end⟩
  | succ m ih =>
    intro i k π F Z g hi hN hs
    obtain ⟨F1, Z1, g1, k1, π1, hN1, hs1, K⟩ := lw_turn (Ln := Ln) (d := d) (i := i) hL (by omega) (by omega) hN hs
    obtain ⟨F2, g2, K2⟩ := ih (i + 1) k1 π1 F1 Z1 g1 (by omega) hN1 hs1
    exact ⟨F2, g2, K _ K2⟩
