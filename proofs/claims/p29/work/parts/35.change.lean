def kN (k : Nat) : Nat := if k < 6 then k + 1 else 6
def kP (π : Nat → Nat) (k : Nat) : Nat → Nat := if k < 6 then π else fun i => π ((i + 1) % 7)
theorem kP_g {g : Nat → Option Nat} {π : Nat → Nat} {k : Nat} (hg : ∀ i, i < 7 → g i = some (23 + 16 * π i)) : ∀ i, i < 7 → xKG g π k i = some (23 + 16 * kP π k i) := by
  intro i hi
  unfold xKG kP
  split
  · exact hg i hi
  · exact xRot_at hi
theorem xKF_21 {A : Nat → Nat → Int32} {k : Nat} (hk : k ≤ 6) (e : A 21 1 = nI k) : xKF A k 21 1 = nI (kN k) := by
  unfold xKF kN
  split
  · rw [pe_eq, e]
    exact nI_1 k
  · rw [e]
    congr 1
    omega
theorem xKF_o {A : Nat → Nat → Int32} {k c : Nat} (h : c ≠ 21) : xKF A k c = A c := by
  unfold xKF
  split
  · exact pe_row h
  · rfl
/-! a public change: what it answers, what it leaves, the state before it kept -/
def HS (k : Nat) (π : Nat → Nat) (Z : Nat → Nat → Int32) (g : Nat → Option Nat) : Prop := (∀ i, i < 7 → g i = some (23 + 16 * π i)) ∧ (∀ i, i < 7 → π i < 7) ∧ k ≤ 6 ∧ Z 21 1 = nI k
/-- the latest kept state is F's room -/
def UD (k : Nat) (π : Nat → Nat) (F Z : Nat → Nat → Int32) : Prop := 0 < k ∧ ∀ c j, c < 16 → mVal c j → Z (23 + 16 * π (k - 1) + c) j = F (5 + c) j
def CWr (yc : MethodName) (Mc : mM) (ca : List Value) (yx : MethodName) (Mx : mM) (ax : List Value) : Prop :=
  ∀ (L : Nat) (F : Nat → Nat → Int32) (g : Nat → Option Nat) (d : Nat) (π : Nat → Nat), (∀ i, i < 7 → g i = some (23 + 16 * π i)) → (∀ i, i < 7 → π i < 7) → ∀ k, k < 7 → F 21 1 = nI k → ∀ (r : Int32) (F1 : Nat → Nat → Int32) (hp2 : mHp), mCall (d + 3) yc Mc ca (mHX L (xCopyR F (23 + 16 * π k) 5) g) (some (.int r)) (mHX L F1 g) → mCall (d + 3) yX6_keptUnlessError MX6_keptUnlessError [.ref 4, .int r] (mHX L F1 g) (some (.int r)) hp2 → mCall (d + 4) yx Mx ax (mHX L F g) (some (.int r)) hp2
/-- a call that may change the room: the same answer and the same rows, whatever the rest holds -/
def CH (d : Nat) (y : MethodName) (M : mM) (as : List Value) (F : Nat → Nat → Int32) (r : Int32) (G : Nat → Nat → Int32) : Prop :=
  ∀ (L : Nat) (Z : Nat → Nat → Int32) (g : Nat → Option Nat) (k : Nat) (π : Nat → Nat), HS k π Z g → ∃ Z1 g1 π1, mCall d y M as (mHX L (mx F Z) g) (some (.int r)) (mHX L (mx G Z1) g1) ∧ ((isE r ∧ G = F ∧ HS k π1 Z1 g1) ∨ (¬ isE r ∧ HS (kN k) π1 Z1 g1 ∧ UD (kN k) π1 F Z1))
theorem kP_lt {π : Nat → Nat} {k : Nat} (h : ∀ i, i < 7 → π i < 7) : ∀ i, i < 7 → kP π k i < 7 := by
  intro i hi
  unfold kP
  split
  · exact h i hi
  · exact h _ (Nat.mod_lt _ (by decide))
theorem kN_le (k : Nat) : 0 < kN k ∧ kN k ≤ 6 := by
  unfold kN
  split <;> omega
theorem kP_last {π : Nat → Nat} {k : Nat} (hk : k ≤ 6) : kP π k (kN k - 1) = π k := by
  unfold kP kN
  by_cases h : k < 6
  · rw [if_pos h, if_pos h]
    exact congrArg π (by omega)
  · obtain rfl : k = 6 := by omega
    rfl
theorem ch_of {d : Nat} {yc : MethodName} {Mc : mM} {ca : List Value} {yx : MethodName} {Mx : mM} {ax : List Value} {F G : Nat → Nat → Int32} {r : Int32} (hW : CWr yc Mc ca yx Mx ax) (hR : RE yc Mc ca F r G) (hE : isE r → G = F) : CH (d + 4) yx Mx ax F r G := by
  intro L Z g k π ⟨hg, hπ, hk, e21⟩
  have pk7 := hπ k (by omega)
  have eA : xCopyR (mx F Z) (23 + 16 * π k) 5 = mx F (xCopyR (mx F Z) (23 + 16 * π k) 5) := mx_of (fun c hc => by
    rw [xCopyR_out (by have := inS_or hc; omega), mx_in hc])
  have a21 : xCopyR (mx F Z) (23 + 16 * π k) 5 21 1 = nI k := by
    rw [xCopyR_out (by omega)]
    exact e21
  have aU : ∀ c j, c < 16 → mVal c j → xCopyR (mx F Z) (23 + 16 * π k) 5 (23 + 16 * π k + c) j = F (5 + c) j := fun c j hc hv => by
    rw [xCopyR_in (by omega) hc hv, mx_in (inS_lo (by omega))]
  have H := hR L (xCopyR (mx F Z) (23 + 16 * π k) 5) g d
  rw [← eA] at H
  generalize hA : xCopyR (mx F Z) (23 + 16 * π k) 5 = A at H eA a21 aU
  by_cases he : isE r
  · refine ⟨A, g, π, hW L (mx F Z) g d π hg hπ k (by omega) e21 r (mx G A) _ (by rw [hA]; exact H) (c_kept_err (d + 2) r he), Or.inl ⟨he, hE he, hg, hπ, hk, a21⟩⟩
  · have e3 : xKF (mx G A) k = mx G (xKF A k) := by
      unfold xKF
      split
      · exact mx_peo (c := 21) rfl
      · rfl
    refine ⟨xKF A k, xKG g π k, kP π k, ?_, Or.inr ⟨he, ⟨kP_g hg, kP_lt hπ, (kN_le k).2, xKF_21 hk a21⟩, (kN_le k).1, ?_⟩⟩
    · rw [← e3]
      exact hW L (mx F Z) g d π hg hπ k (by omega) e21 r (mx G A) _ (by rw [hA]; exact H) (c_kept_ok (F := mx G A) (d + 2) π hg hπ k (by omega) a21 r he)
    · intro c j hc hv
      rw [kP_last hk, xKF_o (by omega)]
      exact aU c j hc hv
/-- undo behind a change that was kept: the room is as before -/
theorem un_ex {k Ln : Nat} {F G Z : Nat → Nat → Int32} {g : Nat → Option Nat} {π : Nat → Nat} (hs : HS k π Z g) (hu : UD k π F Z) (hf : FrB F G) : ∃ Z2, HS (k - 1) π Z2 g ∧ ∀ {M : mM} {d pc : Nat} {Ls : mLs} {st : List Value} {out : mOut} {idx : Nat}, decode M.2.1 pc = .ok (.invokevirtual idx, 3) → Cond.methodLink M.1 idx yX6_undo ∈ mGW → st.length ≤ 4 → mGo M (d + 5) (pc + 3, Ls, .int (nI (k - 1)) :: st, mHX Ln (mx F Z2) g) out → mGo M (d + 5) (pc, Ls, .ref 4 :: st, mHX Ln (mx G Z) g) out := by
  obtain ⟨hg, hπ, hk, e21⟩ := hs
  obtain ⟨h0, hu⟩ := hu
  have pk7 := hπ (k - 1) (by omega)
  have ek : (mx G Z) 21 1 = nI (k - 1 + 1) := by
    rw [show k - 1 + 1 = k by omega]
    exact e21
  refine ⟨xCopyR (pe (mx G Z) 21 1 ((mx G Z) 21 1 - 1)) 5 (23 + 16 * π (k - 1)), ⟨hg, hπ, by omega, ?_⟩, fun hd hl hst K => ?_⟩
  · rw [xCopyR_out (by omega), pe_eq, show (mx G Z) 21 1 = nI (k - 1 + 1) from ek]
    exact nI_pred (k - 1)
  · refine g_V0i hd hl sX6_undo rfl (by decide) hst (c_x_undo (L := Ln) (F := mx G Z) (g := g) _ _ _ (c_undo_ok _ π hg hπ (k - 1) (by omega) ek)) ?_
    refine mGo_room (F := F) (fun c j hc hv => ?_) (fun c hc h5 => ?_) K
    · rw [xCopyR_in (by omega) hc hv, pe_row (by omega), mx_out (inS_no (by omega) (by omega))]
      exact hu c j hc hv
    · rw [xCopyR_out (by omega), pe_row (fun q => by rw [q] at hc; exact absurd hc (by decide)), mx_in hc]
      exact hf c (by omega)
theorem cw_set (x y : Int32) : CWr yX4_changeSetting MX4_changeSetting [.ref 5, .int x, .int y] yX6_set MX6_set [.ref 4, .int x, .int y] := fun _ _ _ d π hg hπ k hk ek r F1 hp2 H HK => c_x_set d π hg hπ k hk ek x y r F1 hp2 H HK
theorem cw_guest (x y : Int32) : CWr yX4_welcome MX4_welcome [.ref 5, .int x, .int y] yX6_guest MX6_guest [.ref 4, .int x, .int y] := fun _ _ _ d π hg hπ k hk ek r F1 hp2 H HK => c_x_guest d π hg hπ k hk ek x y r F1 hp2 H HK
theorem cw_leave (x : Int32) : CWr yX4_seeOff MX4_seeOff [.ref 5, .int x] yX6_leave MX6_leave [.ref 4, .int x] := fun _ _ _ d π hg hπ k hk ek r F1 hp2 H HK => c_x_leave d π hg hπ k hk ek x r F1 hp2 H HK
theorem cw_move (x y : Int32) : CWr yX4_reseat MX4_reseat [.ref 5, .int x, .int y] yX6_move MX6_move [.ref 4, .int x, .int y] := fun _ _ _ d π hg hπ k hk ek r F1 hp2 H HK => c_x_move d π hg hπ k hk ek x y r F1 hp2 H HK
theorem cw_pause (x : Int32) : CWr yX4_beginPause MX4_beginPause [.ref 5, .int x] yX6_pause MX6_pause [.ref 4, .int x] := fun _ _ _ d π hg hπ k hk ek r F1 hp2 H HK => c_x_pause d π hg hπ k hk ek x r F1 hp2 H HK
theorem cw_close (x : Int32) : CWr yX4_closePause MX4_closePause [.ref 5, .int x] yX6_close MX6_close [.ref 4, .int x] := fun _ _ _ d π hg hπ k hk ek r F1 hp2 H HK => c_x_close d π hg hπ k hk ek x r F1 hp2 H HK
theorem cw_word (x : Int32) : CWr yX4_breakByWord MX4_breakByWord [.ref 5, .int x] yX6_word MX6_word [.ref 4, .int x] := fun _ _ _ d π hg hπ k hk ek r F1 hp2 H HK => c_x_word d π hg hπ k hk ek x r F1 hp2 H HK
theorem cw_cough (x : Int32) : CWr yX4_breakByCough MX4_breakByCough [.ref 5, .int x] yX6_cough MX6_cough [.ref 4, .int x] := fun _ _ _ d π hg hπ k hk ek r F1 hp2 H HK => c_x_cough d π hg hπ k hk ek x r F1 hp2 H HK
theorem cw_pass (x : Int32) : CWr yX4_letPass MX4_letPass [.ref 5, .int x] yX6_pass MX6_pass [.ref 4, .int x] := fun _ _ _ d π hg hπ k hk ek r F1 hp2 H HK => c_x_pass d π hg hπ k hk ek x r F1 hp2 H HK
theorem cw_restore (x : Int32) : CWr yX5_giveBack MX5_giveBack [.ref 135, .int x, .ref 5] yX6_restore MX6_restore [.ref 4, .int x] := fun _ _ _ d π hg hπ k hk ek r F1 hp2 H HK => c_x_restore d π hg hπ k hk ek x r F1 hp2 H HK
/-- what holds between two calls of the law -/
def IN (B : Nat) (X : Nat → Int32) (F : Nat → Nat → Int32) : Prop := F 0 = X ∧ F 2 = mHS ∧ F 3 = mMB ∧ ¬ F 169 0 = 0 ∧ HI B F ∧ HI B (slF F)
theorem IN_fr {B : Nat} {X : Nat → Int32} {F G : Nat → Nat → Int32} (h : IN B X F) (hI : HI (B + 1) G) (hf : FrB F G) : IN (B + 1) X G := by
  obtain ⟨h0, h2, h3, h4, -, h6⟩ := h
  refine ⟨(hf 0 (by decide)).trans h0, (hf 2 (by decide)).trans h2, (hf 3 (by decide)).trans h3, by rw [hf 169 (by decide)]; exact h4, hI, HI_mono (Nat.le_succ B) (HI_congr (fun c j hc hv => ?_) h6)⟩
  unfold slF
  rw [hf _ (by omega)]
/-- a call of the law's 'act': what it answers and leaves -/
def AC (B d : Nat) (y : MethodName) (M : mM) (as : List Value) (F : Nat → Nat → Int32) : Prop := ∃ r G, CH d y M as F r G ∧ HI (B + 1) G ∧ FrB F G ∧ AR r
theorem ac_of {B d : Nat} {yc : MethodName} {Mc : mM} {ca : List Value} {yx : MethodName} {Mx : mM} {ax : List Value} {F : Nat → Nat → Int32} (hW : CWr yc Mc ca yx Mx ax) (hO : OE B yc Mc ca F) : AC B (d + 4) yx Mx ax F := by
  obtain ⟨r, G, h1, h2, h3, h4, h5⟩ := hO
  exact ⟨r, G, ch_of hW h1 h2, h3, h4, h5⟩
