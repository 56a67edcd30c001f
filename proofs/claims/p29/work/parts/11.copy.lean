/-- a room stands at i: its object, its settings, its Guests with six rows, its Lexicon with four, its pauses and ends -/
def mRm (i : Nat) : Prop := 4 < i ∧ ∀ (L : Nat) (g : Nat → Option Nat), (mSH L)[i]? = some (.inl 4) ∧ (mSH L)[(i + 1)]? = some (.inr (0, 4)) ∧ (mSH L)[(i + 2)]? = some (.inl 0) ∧ (mSH L)[(i + 3)]? = some (.inr (0, 10)) ∧ (mSH L)[(i + 4)]? = some (.inr (0, 10)) ∧ (mSH L)[(i + 5)]? = some (.inr (0, 10)) ∧ (mSH L)[(i + 6)]? = some (.inr (0, 10)) ∧ (mSH L)[(i + 7)]? = some (.inr (0, 10)) ∧ (mSH L)[(i + 8)]? = some (.inr (0, 10)) ∧ (mSH L)[(i + 9)]? = some (.inl 2) ∧ (mSH L)[(i + 10)]? = some (.inr (0, 12)) ∧ (mSH L)[(i + 11)]? = some (.inr (0, 12)) ∧ (mSH L)[(i + 12)]? = some (.inr (0, 3)) ∧ (mSH L)[(i + 13)]? = some (.inr (0, 50)) ∧ (mSH L)[(i + 14)]? = some (.inr (0, 3)) ∧ (mSH L)[(i + 15)]? = some (.inr (0, 3)) ∧ mRF g i 1 = some (i + 1) ∧ mRF g i 2 = some (i + 2) ∧ mRF g i 3 = some (i + 9) ∧ mRF g i 4 = some (i + 14) ∧ mRF g i 5 = some (i + 15) ∧ mRF g (i + 2) 1 = some (i + 3) ∧ mRF g (i + 2) 2 = some (i + 4) ∧ mRF g (i + 2) 3 = some (i + 5) ∧ mRF g (i + 2) 4 = some (i + 6) ∧ mRF g (i + 2) 5 = some (i + 7) ∧ mRF g (i + 2) 6 = some (i + 8) ∧ mRF g (i + 9) 0 = some (i + 10) ∧ mRF g (i + 9) 1 = some (i + 11) ∧ mRF g (i + 9) 2 = some (i + 12) ∧ mRF g (i + 9) 3 = some (i + 13)
set_option maxHeartbeats 4000000 in
set_option maxRecDepth 100000 in
theorem mRm_5 : mRm 5 := ⟨by decide, fun L g => ⟨rfl, rfl, rfl, rfl, rfl, rfl, rfl, rfl, rfl, rfl, rfl, rfl, rfl, rfl, rfl, rfl, rfl, rfl, rfl, rfl, rfl, rfl, rfl, rfl, rfl, rfl, rfl, rfl, rfl, rfl, rfl⟩⟩
set_option maxHeartbeats 4000000 in
set_option maxRecDepth 100000 in
theorem mRm_h {a : Nat} (h : a < 7) : mRm (23 + 16 * a) := by
  rcases (by omega : a = 0 ∨ a = 1 ∨ a = 2 ∨ a = 3 ∨ a = 4 ∨ a = 5 ∨ a = 6) with rfl | rfl | rfl | rfl | rfl | rfl | rfl
  all_goals exact ⟨by decide, fun L g => ⟨rfl, rfl, rfl, rfl, rfl, rfl, rfl, rfl, rfl, rfl, rfl, rfl, rfl, rfl, rfl, rfl, rfl, rfl, rfl, rfl, rfl, rfl, rfl, rfl, rfl, rfl, rfl, rfl, rfl, rfl, rfl⟩⟩
set_option maxHeartbeats 4000000 in
set_option maxRecDepth 100000 in
theorem mRm_s {a : Nat} (h : a < 2) : mRm (137 + 16 * a) := by
  rcases (by omega : a = 0 ∨ a = 1) with rfl | rfl
  all_goals exact ⟨by decide, fun L g => ⟨rfl, rfl, rfl, rfl, rfl, rfl, rfl, rfl, rfl, rfl, rfl, rfl, rfl, rfl, rfl, rfl, rfl, rfl, rfl, rfl, rfl, rfl, rfl, rfl, rfl, rfl, rfl, rfl, rfl, rfl, rfl⟩⟩
theorem mRm_s0 {i L : Nat} {g : Nat → Option Nat} (h : mRm i) : (mSH L)[i]? = some (.inl 4) := (((h.2 L g).1))
theorem mRm_s1 {i L : Nat} {g : Nat → Option Nat} (h : mRm i) : (mSH L)[(i + 1)]? = some (.inr (0, 4)) := (((h.2 L g).2.1))
theorem mRm_s2 {i L : Nat} {g : Nat → Option Nat} (h : mRm i) : (mSH L)[(i + 2)]? = some (.inl 0) := (((h.2 L g).2.2.1))
theorem mRm_s3 {i L : Nat} {g : Nat → Option Nat} (h : mRm i) : (mSH L)[(i + 3)]? = some (.inr (0, 10)) := (((h.2 L g).2.2.2.1))
theorem mRm_s4 {i L : Nat} {g : Nat → Option Nat} (h : mRm i) : (mSH L)[(i + 4)]? = some (.inr (0, 10)) := (((h.2 L g).2.2.2.2.1))
theorem mRm_s5 {i L : Nat} {g : Nat → Option Nat} (h : mRm i) : (mSH L)[(i + 5)]? = some (.inr (0, 10)) := (((h.2 L g).2.2.2.2.2.1))
theorem mRm_s6 {i L : Nat} {g : Nat → Option Nat} (h : mRm i) : (mSH L)[(i + 6)]? = some (.inr (0, 10)) := (((h.2 L g).2.2.2.2.2.2.1))
theorem mRm_s7 {i L : Nat} {g : Nat → Option Nat} (h : mRm i) : (mSH L)[(i + 7)]? = some (.inr (0, 10)) := (((h.2 L g).2.2.2.2.2.2.2.1))
theorem mRm_s8 {i L : Nat} {g : Nat → Option Nat} (h : mRm i) : (mSH L)[(i + 8)]? = some (.inr (0, 10)) := (((h.2 L g).2.2.2.2.2.2.2.2.1))
theorem mRm_s9 {i L : Nat} {g : Nat → Option Nat} (h : mRm i) : (mSH L)[(i + 9)]? = some (.inl 2) := (((h.2 L g).2.2.2.2.2.2.2.2.2.1))
theorem mRm_s10 {i L : Nat} {g : Nat → Option Nat} (h : mRm i) : (mSH L)[(i + 10)]? = some (.inr (0, 12)) := (((h.2 L g).2.2.2.2.2.2.2.2.2.2.1))
theorem mRm_s11 {i L : Nat} {g : Nat → Option Nat} (h : mRm i) : (mSH L)[(i + 11)]? = some (.inr (0, 12)) := (((h.2 L g).2.2.2.2.2.2.2.2.2.2.2.1))
theorem mRm_s12 {i L : Nat} {g : Nat → Option Nat} (h : mRm i) : (mSH L)[(i + 12)]? = some (.inr (0, 3)) := (((h.2 L g).2.2.2.2.2.2.2.2.2.2.2.2.1))
theorem mRm_s13 {i L : Nat} {g : Nat → Option Nat} (h : mRm i) : (mSH L)[(i + 13)]? = some (.inr (0, 50)) := (((h.2 L g).2.2.2.2.2.2.2.2.2.2.2.2.2.1))
theorem mRm_s14 {i L : Nat} {g : Nat → Option Nat} (h : mRm i) : (mSH L)[(i + 14)]? = some (.inr (0, 3)) := (((h.2 L g).2.2.2.2.2.2.2.2.2.2.2.2.2.2.1))
theorem mRm_s15 {i L : Nat} {g : Nat → Option Nat} (h : mRm i) : (mSH L)[(i + 15)]? = some (.inr (0, 3)) := (((h.2 L g).2.2.2.2.2.2.2.2.2.2.2.2.2.2.2.1))
theorem mRm_r0_1 {i : Nat} {g : Nat → Option Nat} (h : mRm i) : mRF g i 1 = some (i + 1) := (((h.2 0 g).2.2.2.2.2.2.2.2.2.2.2.2.2.2.2.2.1))
theorem mRm_r0_2 {i : Nat} {g : Nat → Option Nat} (h : mRm i) : mRF g i 2 = some (i + 2) := (((h.2 0 g).2.2.2.2.2.2.2.2.2.2.2.2.2.2.2.2.2.1))
theorem mRm_r0_3 {i : Nat} {g : Nat → Option Nat} (h : mRm i) : mRF g i 3 = some (i + 9) := (((h.2 0 g).2.2.2.2.2.2.2.2.2.2.2.2.2.2.2.2.2.2.1))
theorem mRm_r0_4 {i : Nat} {g : Nat → Option Nat} (h : mRm i) : mRF g i 4 = some (i + 14) := (((h.2 0 g).2.2.2.2.2.2.2.2.2.2.2.2.2.2.2.2.2.2.2.1))
theorem mRm_r0_5 {i : Nat} {g : Nat → Option Nat} (h : mRm i) : mRF g i 5 = some (i + 15) := (((h.2 0 g).2.2.2.2.2.2.2.2.2.2.2.2.2.2.2.2.2.2.2.2.1))
theorem mRm_r2_1 {i : Nat} {g : Nat → Option Nat} (h : mRm i) : mRF g (i + 2) 1 = some (i + 3) := (((h.2 0 g).2.2.2.2.2.2.2.2.2.2.2.2.2.2.2.2.2.2.2.2.2.1))
theorem mRm_r2_2 {i : Nat} {g : Nat → Option Nat} (h : mRm i) : mRF g (i + 2) 2 = some (i + 4) := (((h.2 0 g).2.2.2.2.2.2.2.2.2.2.2.2.2.2.2.2.2.2.2.2.2.2.1))
theorem mRm_r2_3 {i : Nat} {g : Nat → Option Nat} (h : mRm i) : mRF g (i + 2) 3 = some (i + 5) := (((h.2 0 g).2.2.2.2.2.2.2.2.2.2.2.2.2.2.2.2.2.2.2.2.2.2.2.1))
theorem mRm_r2_4 {i : Nat} {g : Nat → Option Nat} (h : mRm i) : mRF g (i + 2) 4 = some (i + 6) := (((h.2 0 g).2.2.2.2.2.2.2.2.2.2.2.2.2.2.2.2.2.2.2.2.2.2.2.2.1))
theorem mRm_r2_5 {i : Nat} {g : Nat → Option Nat} (h : mRm i) : mRF g (i + 2) 5 = some (i + 7) := (((h.2 0 g).2.2.2.2.2.2.2.2.2.2.2.2.2.2.2.2.2.2.2.2.2.2.2.2.2.1))
theorem mRm_r2_6 {i : Nat} {g : Nat → Option Nat} (h : mRm i) : mRF g (i + 2) 6 = some (i + 8) := (((h.2 0 g).2.2.2.2.2.2.2.2.2.2.2.2.2.2.2.2.2.2.2.2.2.2.2.2.2.2.1))
theorem mRm_r9_0 {i : Nat} {g : Nat → Option Nat} (h : mRm i) : mRF g (i + 9) 0 = some (i + 10) := (((h.2 0 g).2.2.2.2.2.2.2.2.2.2.2.2.2.2.2.2.2.2.2.2.2.2.2.2.2.2.2.1))
theorem mRm_r9_1 {i : Nat} {g : Nat → Option Nat} (h : mRm i) : mRF g (i + 9) 1 = some (i + 11) := (((h.2 0 g).2.2.2.2.2.2.2.2.2.2.2.2.2.2.2.2.2.2.2.2.2.2.2.2.2.2.2.2.1))
theorem mRm_r9_2 {i : Nat} {g : Nat → Option Nat} (h : mRm i) : mRF g (i + 9) 2 = some (i + 12) := (((h.2 0 g).2.2.2.2.2.2.2.2.2.2.2.2.2.2.2.2.2.2.2.2.2.2.2.2.2.2.2.2.2.1))
theorem mRm_r9_3 {i : Nat} {g : Nat → Option Nat} (h : mRm i) : mRF g (i + 9) 3 = some (i + 13) := (((h.2 0 g).2.2.2.2.2.2.2.2.2.2.2.2.2.2.2.2.2.2.2.2.2.2.2.2.2.2.2.2.2.2))
def xCopyG (F : Nat → Nat → Int32) (i j : Nat) : Nat → Nat → Int32 := (cpB (cpB (cpB (cpB (cpB (cpB (pe F (i + 2) 0 (F (j + 2) 0)) (i + 3) (j + 3) 0 0 10) (i + 4) (j + 4) 0 0 10) (i + 5) (j + 5) 0 0 10) (i + 6) (j + 6) 0 0 10) (i + 7) (j + 7) 0 0 10) (i + 8) (j + 8) 0 0 10)
set_option maxHeartbeats 4000000 in
set_option maxRecDepth 100000 in
theorem c_copyG {L : Nat} {F : Nat → Nat → Int32} {g : Nat → Option Nat} (d : Nat) (i j : Nat) (hi : mRm i) (hj : mRm j) : mCall (d + 1) yX0_copyFrom MX0_copyFrom [.ref (i + 2), .ref (j + 2)] (mHX L F g) (none) (mHX L (xCopyG F i j) g) := by
  refine mCall_of sX0_copyFrom.1 (Nat.le_of_ble_eq_true rfl) rfl ?_
  show mGo _ _ (0, [some (.ref (i + 2)), some (.ref (j + 2))], [], _) _
  refine g_aload_n dX0_copyFrom_0 rfl ?_
  refine g_aload_n dX0_copyFrom_1 rfl ?_
  refine g_gI dX0_copyFrom_2 fl_X0_9 (fun _ _ => rfl) (mRm_s2 (g := g) hj) (by have := hj.1; omega) ?_
  refine g_pI dX0_copyFrom_5 fl_X0_9 (Or.inl rfl) (mRm_s2 (g := g) hi) (by have := hi.1; omega) rfl ?_
  refine g_aload_n dX0_copyFrom_8 rfl ?_
  refine g_gR (r := (j + 3)) dX0_copyFrom_9 fl_X0_15 (fun _ _ => rfl) (mRm_s2 (g := g) hj) (by have := hj.1; omega) (mRm_r2_1 hj) ?_
  refine g_iconstv (v := 0) dX0_copyFrom_12 rfl ?_
  refine g_aload_n dX0_copyFrom_13 rfl ?_
  refine g_gR (r := (i + 3)) dX0_copyFrom_14 fl_X0_15 (fun _ _ => rfl) (mRm_s2 (g := g) hi) (by have := hi.1; omega) (mRm_r2_1 hi) ?_
  refine g_iconstv (v := 0) dX0_copyFrom_17 rfl ?_
  refine g_bipushv (v := 10) dX0_copyFrom_18 rfl ?_
  refine g_copyN 0 0 10 dX0_copyFrom_20 ml_X0_34 (mRm_s3 (g := g) hj) (mRm_s3 (g := g) hi) (by have := hj.1; omega) (by have := hi.1; omega) rfl rfl rfl (by decide) (by decide) (by decide) (by decide) (Nat.le_of_ble_eq_true rfl) ?_
  refine g_aload_n dX0_copyFrom_23 rfl ?_
  refine g_gR (r := (j + 4)) dX0_copyFrom_24 fl_X0_19 (fun _ _ => rfl) (mRm_s2 (g := g) hj) (by have := hj.1; omega) (mRm_r2_2 hj) ?_
  refine g_iconstv (v := 0) dX0_copyFrom_27 rfl ?_
  refine g_aload_n dX0_copyFrom_28 rfl ?_
  refine g_gR (r := (i + 4)) dX0_copyFrom_29 fl_X0_19 (fun _ _ => rfl) (mRm_s2 (g := g) hi) (by have := hi.1; omega) (mRm_r2_2 hi) ?_
  refine g_iconstv (v := 0) dX0_copyFrom_32 rfl ?_
  refine g_bipushv (v := 10) dX0_copyFrom_33 rfl ?_
  refine g_copyN 0 0 10 dX0_copyFrom_35 ml_X0_34 (mRm_s4 (g := g) hj) (mRm_s4 (g := g) hi) (by have := hj.1; omega) (by have := hi.1; omega) rfl rfl rfl (by decide) (by decide) (by decide) (by decide) (Nat.le_of_ble_eq_true rfl) ?_
  refine g_aload_n dX0_copyFrom_38 rfl ?_
  refine g_gR (r := (j + 5)) dX0_copyFrom_39 fl_X0_22 (fun _ _ => rfl) (mRm_s2 (g := g) hj) (by have := hj.1; omega) (mRm_r2_3 hj) ?_
  refine g_iconstv (v := 0) dX0_copyFrom_42 rfl ?_
  refine g_aload_n dX0_copyFrom_43 rfl ?_
  refine g_gR (r := (i + 5)) dX0_copyFrom_44 fl_X0_22 (fun _ _ => rfl) (mRm_s2 (g := g) hi) (by have := hi.1; omega) (mRm_r2_3 hi) ?_
  refine g_iconstv (v := 0) dX0_copyFrom_47 rfl ?_
  refine g_bipushv (v := 10) dX0_copyFrom_48 rfl ?_
  refine g_copyN 0 0 10 dX0_copyFrom_50 ml_X0_34 (mRm_s5 (g := g) hj) (mRm_s5 (g := g) hi) (by have := hj.1; omega) (by have := hi.1; omega) rfl rfl rfl (by decide) (by decide) (by decide) (by decide) (Nat.le_of_ble_eq_true rfl) ?_
  refine g_aload_n dX0_copyFrom_53 rfl ?_
  refine g_gR (r := (j + 6)) dX0_copyFrom_54 fl_X0_25 (fun _ _ => rfl) (mRm_s2 (g := g) hj) (by have := hj.1; omega) (mRm_r2_4 hj) ?_
  refine g_iconstv (v := 0) dX0_copyFrom_57 rfl ?_
  refine g_aload_n dX0_copyFrom_58 rfl ?_
  refine g_gR (r := (i + 6)) dX0_copyFrom_59 fl_X0_25 (fun _ _ => rfl) (mRm_s2 (g := g) hi) (by have := hi.1; omega) (mRm_r2_4 hi) ?_
  refine g_iconstv (v := 0) dX0_copyFrom_62 rfl ?_
  refine g_bipushv (v := 10) dX0_copyFrom_63 rfl ?_
  refine g_copyN 0 0 10 dX0_copyFrom_65 ml_X0_34 (mRm_s6 (g := g) hj) (mRm_s6 (g := g) hi) (by have := hj.1; omega) (by have := hi.1; omega) rfl rfl rfl (by decide) (by decide) (by decide) (by decide) (Nat.le_of_ble_eq_true rfl) ?_
  refine g_aload_n dX0_copyFrom_68 rfl ?_
  refine g_gR (r := (j + 7)) dX0_copyFrom_69 fl_X0_28 (fun _ _ => rfl) (mRm_s2 (g := g) hj) (by have := hj.1; omega) (mRm_r2_5 hj) ?_
  refine g_iconstv (v := 0) dX0_copyFrom_72 rfl ?_
  refine g_aload_n dX0_copyFrom_73 rfl ?_
  refine g_gR (r := (i + 7)) dX0_copyFrom_74 fl_X0_28 (fun _ _ => rfl) (mRm_s2 (g := g) hi) (by have := hi.1; omega) (mRm_r2_5 hi) ?_
  refine g_iconstv (v := 0) dX0_copyFrom_77 rfl ?_
  refine g_bipushv (v := 10) dX0_copyFrom_78 rfl ?_
  refine g_copyN 0 0 10 dX0_copyFrom_80 ml_X0_34 (mRm_s7 (g := g) hj) (mRm_s7 (g := g) hi) (by have := hj.1; omega) (by have := hi.1; omega) rfl rfl rfl (by decide) (by decide) (by decide) (by decide) (Nat.le_of_ble_eq_true rfl) ?_
  refine g_aload_n dX0_copyFrom_83 rfl ?_
  refine g_gR (r := (j + 8)) dX0_copyFrom_84 fl_X0_31 (fun _ _ => rfl) (mRm_s2 (g := g) hj) (by have := hj.1; omega) (mRm_r2_6 hj) ?_
  refine g_iconstv (v := 0) dX0_copyFrom_87 rfl ?_
  refine g_aload_n dX0_copyFrom_88 rfl ?_
  refine g_gR (r := (i + 8)) dX0_copyFrom_89 fl_X0_31 (fun _ _ => rfl) (mRm_s2 (g := g) hi) (by have := hi.1; omega) (mRm_r2_6 hi) ?_
  refine g_iconstv (v := 0) dX0_copyFrom_92 rfl ?_
  refine g_bipushv (v := 10) dX0_copyFrom_93 rfl ?_
  refine g_copyN 0 0 10 dX0_copyFrom_95 ml_X0_34 (mRm_s8 (g := g) hj) (mRm_s8 (g := g) hi) (by have := hj.1; omega) (by have := hi.1; omega) rfl rfl rfl (by decide) (by decide) (by decide) (by decide) (Nat.le_of_ble_eq_true rfl) ?_
  exact g_vret dX0_copyFrom_98 rfl
def xCopyL (F : Nat → Nat → Int32) (i j : Nat) : Nat → Nat → Int32 := (cpB (cpB (cpB (cpB (pe F (i + 9) 4 (F (j + 9) 4)) (i + 10) (j + 10) 0 0 12) (i + 11) (j + 11) 0 0 12) (i + 12) (j + 12) 0 0 3) (i + 13) (j + 13) 0 0 50)
set_option maxHeartbeats 4000000 in
set_option maxRecDepth 100000 in
theorem c_copyL {L : Nat} {F : Nat → Nat → Int32} {g : Nat → Option Nat} (d : Nat) (i j : Nat) (hi : mRm i) (hj : mRm j) : mCall (d + 1) yX2_copyFrom MX2_copyFrom [.ref (i + 9), .ref (j + 9)] (mHX L F g) (none) (mHX L (xCopyL F i j) g) := by
  refine mCall_of sX2_copyFrom.1 (Nat.le_of_ble_eq_true rfl) rfl ?_
  show mGo _ _ (0, [some (.ref (i + 9)), some (.ref (j + 9))], [], _) _
  refine g_aload_n dX2_copyFrom_0 rfl ?_
  refine g_aload_n dX2_copyFrom_1 rfl ?_
  refine g_gI dX2_copyFrom_2 fl_X2_24 (fun _ _ => rfl) (mRm_s9 (g := g) hj) (by have := hj.1; omega) ?_
  refine g_pI dX2_copyFrom_5 fl_X2_24 (Or.inl rfl) (mRm_s9 (g := g) hi) (by have := hi.1; omega) rfl ?_
  refine g_aload_n dX2_copyFrom_8 rfl ?_
  refine g_gR (r := (j + 10)) dX2_copyFrom_9 fl_X2_9 (fun _ _ => rfl) (mRm_s9 (g := g) hj) (by have := hj.1; omega) (mRm_r9_0 hj) ?_
  refine g_iconstv (v := 0) dX2_copyFrom_12 rfl ?_
  refine g_aload_n dX2_copyFrom_13 rfl ?_
  refine g_gR (r := (i + 10)) dX2_copyFrom_14 fl_X2_9 (fun _ _ => rfl) (mRm_s9 (g := g) hi) (by have := hi.1; omega) (mRm_r9_0 hi) ?_
  refine g_iconstv (v := 0) dX2_copyFrom_17 rfl ?_
  refine g_aload_n dX2_copyFrom_18 rfl ?_
  refine g_gR (r := (i + 10)) dX2_copyFrom_19 fl_X2_9 (fun _ _ => rfl) (mRm_s9 (g := g) hi) (by have := hi.1; omega) (mRm_r9_0 hi) ?_
  refine g_alen dX2_copyFrom_22 (mRm_s10 (g := g) hi) (by decide) (by have := hi.1; omega) ?_
  refine g_copyN 0 0 12 dX2_copyFrom_23 ml_X2_28 (mRm_s10 (g := g) hj) (mRm_s10 (g := g) hi) (by have := hj.1; omega) (by have := hi.1; omega) rfl rfl rfl (by decide) (by decide) (by decide) (by decide) (Nat.le_of_ble_eq_true rfl) ?_
  refine g_aload_n dX2_copyFrom_26 rfl ?_
  refine g_gR (r := (j + 11)) dX2_copyFrom_27 fl_X2_15 (fun _ _ => rfl) (mRm_s9 (g := g) hj) (by have := hj.1; omega) (mRm_r9_1 hj) ?_
  refine g_iconstv (v := 0) dX2_copyFrom_30 rfl ?_
  refine g_aload_n dX2_copyFrom_31 rfl ?_
  refine g_gR (r := (i + 11)) dX2_copyFrom_32 fl_X2_15 (fun _ _ => rfl) (mRm_s9 (g := g) hi) (by have := hi.1; omega) (mRm_r9_1 hi) ?_
  refine g_iconstv (v := 0) dX2_copyFrom_35 rfl ?_
  refine g_aload_n dX2_copyFrom_36 rfl ?_
  refine g_gR (r := (i + 11)) dX2_copyFrom_37 fl_X2_15 (fun _ _ => rfl) (mRm_s9 (g := g) hi) (by have := hi.1; omega) (mRm_r9_1 hi) ?_
  refine g_alen dX2_copyFrom_40 (mRm_s11 (g := g) hi) (by decide) (by have := hi.1; omega) ?_
  refine g_copyN 0 0 12 dX2_copyFrom_41 ml_X2_28 (mRm_s11 (g := g) hj) (mRm_s11 (g := g) hi) (by have := hj.1; omega) (by have := hi.1; omega) rfl rfl rfl (by decide) (by decide) (by decide) (by decide) (Nat.le_of_ble_eq_true rfl) ?_
  refine g_aload_n dX2_copyFrom_44 rfl ?_
  refine g_gR (r := (j + 12)) dX2_copyFrom_45 fl_X2_18 (fun _ _ => rfl) (mRm_s9 (g := g) hj) (by have := hj.1; omega) (mRm_r9_2 hj) ?_
  refine g_iconstv (v := 0) dX2_copyFrom_48 rfl ?_
  refine g_aload_n dX2_copyFrom_49 rfl ?_
  refine g_gR (r := (i + 12)) dX2_copyFrom_50 fl_X2_18 (fun _ _ => rfl) (mRm_s9 (g := g) hi) (by have := hi.1; omega) (mRm_r9_2 hi) ?_
  refine g_iconstv (v := 0) dX2_copyFrom_53 rfl ?_
  refine g_aload_n dX2_copyFrom_54 rfl ?_
  refine g_gR (r := (i + 12)) dX2_copyFrom_55 fl_X2_18 (fun _ _ => rfl) (mRm_s9 (g := g) hi) (by have := hi.1; omega) (mRm_r9_2 hi) ?_
  refine g_alen dX2_copyFrom_58 (mRm_s12 (g := g) hi) (by decide) (by have := hi.1; omega) ?_
  refine g_copyN 0 0 3 dX2_copyFrom_59 ml_X2_28 (mRm_s12 (g := g) hj) (mRm_s12 (g := g) hi) (by have := hj.1; omega) (by have := hi.1; omega) rfl rfl rfl (by decide) (by decide) (by decide) (by decide) (Nat.le_of_ble_eq_true rfl) ?_
  refine g_aload_n dX2_copyFrom_62 rfl ?_
  refine g_gR (r := (j + 13)) dX2_copyFrom_63 fl_X2_21 (fun _ _ => rfl) (mRm_s9 (g := g) hj) (by have := hj.1; omega) (mRm_r9_3 hj) ?_
  refine g_iconstv (v := 0) dX2_copyFrom_66 rfl ?_
  refine g_aload_n dX2_copyFrom_67 rfl ?_
  refine g_gR (r := (i + 13)) dX2_copyFrom_68 fl_X2_21 (fun _ _ => rfl) (mRm_s9 (g := g) hi) (by have := hi.1; omega) (mRm_r9_3 hi) ?_
  refine g_iconstv (v := 0) dX2_copyFrom_71 rfl ?_
  refine g_aload_n dX2_copyFrom_72 rfl ?_
  refine g_gR (r := (i + 13)) dX2_copyFrom_73 fl_X2_21 (fun _ _ => rfl) (mRm_s9 (g := g) hi) (by have := hi.1; omega) (mRm_r9_3 hi) ?_
  refine g_alen dX2_copyFrom_76 (mRm_s13 (g := g) hi) (by decide) (by have := hi.1; omega) ?_
  refine g_copyN 0 0 50 dX2_copyFrom_77 ml_X2_28 (mRm_s13 (g := g) hj) (mRm_s13 (g := g) hi) (by have := hj.1; omega) (by have := hi.1; omega) rfl rfl rfl (by decide) (by decide) (by decide) (by decide) (Nat.le_of_ble_eq_true rfl) ?_
  exact g_vret dX2_copyFrom_80 rfl
def xCopyR (F : Nat → Nat → Int32) (i j : Nat) : Nat → Nat → Int32 := (cpB (cpB (xCopyL (xCopyG (cpB (pe F i 0 (F j 0)) (i + 1) (j + 1) 0 0 4) i j) i j) (i + 14) (j + 14) 0 0 3) (i + 15) (j + 15) 0 0 3)
set_option maxHeartbeats 4000000 in
set_option maxRecDepth 100000 in
theorem c_copyR {L : Nat} {F : Nat → Nat → Int32} {g : Nat → Option Nat} (d : Nat) (i j : Nat) (hi : mRm i) (hj : mRm j) : mCall (d + 2) yX4_copyFrom MX4_copyFrom [.ref i, .ref j] (mHX L F g) (none) (mHX L (xCopyR F i j) g) := by
  refine mCall_of sX4_copyFrom.1 (Nat.le_of_ble_eq_true rfl) rfl ?_
  show mGo _ _ (0, [some (.ref i), some (.ref j)], [], _) _
  refine g_aload_n dX4_copyFrom_0 rfl ?_
  refine g_aload_n dX4_copyFrom_1 rfl ?_
  refine g_gI dX4_copyFrom_2 fl_X4_9 (fun _ _ => rfl) (mRm_s0 (g := g) hj) (by have := hj.1; omega) ?_
  refine g_pI dX4_copyFrom_5 fl_X4_9 (Or.inl rfl) (mRm_s0 (g := g) hi) (by have := hi.1; omega) rfl ?_
  refine g_aload_n dX4_copyFrom_8 rfl ?_
  refine g_gR (r := (j + 1)) dX4_copyFrom_9 fl_X4_24 (fun _ _ => rfl) (mRm_s0 (g := g) hj) (by have := hj.1; omega) (mRm_r0_1 hj) ?_
  refine g_iconstv (v := 0) dX4_copyFrom_12 rfl ?_
  refine g_aload_n dX4_copyFrom_13 rfl ?_
  refine g_gR (r := (i + 1)) dX4_copyFrom_14 fl_X4_24 (fun _ _ => rfl) (mRm_s0 (g := g) hi) (by have := hi.1; omega) (mRm_r0_1 hi) ?_
  refine g_iconstv (v := 0) dX4_copyFrom_17 rfl ?_
  refine g_aload_n dX4_copyFrom_18 rfl ?_
  refine g_gR (r := (i + 1)) dX4_copyFrom_19 fl_X4_24 (fun _ _ => rfl) (mRm_s0 (g := g) hi) (by have := hi.1; omega) (mRm_r0_1 hi) ?_
  refine g_alen dX4_copyFrom_22 (mRm_s1 (g := g) hi) (by decide) (by have := hi.1; omega) ?_
  refine g_copyN 0 0 4 dX4_copyFrom_23 ml_X4_47 (mRm_s1 (g := g) hj) (mRm_s1 (g := g) hi) (by have := hj.1; omega) (by have := hi.1; omega) rfl rfl rfl (by decide) (by decide) (by decide) (by decide) (Nat.le_of_ble_eq_true rfl) ?_
  refine g_aload_n dX4_copyFrom_26 rfl ?_
  refine g_gR (r := (i + 2)) dX4_copyFrom_27 fl_X4_30 (fun _ _ => rfl) (mRm_s0 (g := g) hi) (by have := hi.1; omega) (mRm_r0_2 hi) ?_
  refine g_aload_n dX4_copyFrom_30 rfl ?_
  refine g_gR (r := (j + 2)) dX4_copyFrom_31 fl_X4_30 (fun _ _ => rfl) (mRm_s0 (g := g) hj) (by have := hj.1; omega) (mRm_r0_2 hj) ?_
  refine g_V1v dX4_copyFrom_34 ml_X4_53 sX0_copyFrom (mRm_s2 (g := g) hi) (by have := hi.1; omega) (Nat.le_of_ble_eq_true rfl) (c_copyG (F := (cpB (pe F i 0 (F j 0)) (i + 1) (j + 1) 0 0 4)) d i j hi hj) ?_
  refine g_aload_n dX4_copyFrom_37 rfl ?_
  refine g_gR (r := (i + 9)) dX4_copyFrom_38 fl_X4_37 (fun _ _ => rfl) (mRm_s0 (g := g) hi) (by have := hi.1; omega) (mRm_r0_3 hi) ?_
  refine g_aload_n dX4_copyFrom_41 rfl ?_
  refine g_gR (r := (j + 9)) dX4_copyFrom_42 fl_X4_37 (fun _ _ => rfl) (mRm_s0 (g := g) hj) (by have := hj.1; omega) (mRm_r0_3 hj) ?_
  refine g_V1v dX4_copyFrom_45 ml_X4_57 sX2_copyFrom (mRm_s9 (g := g) hi) (by have := hi.1; omega) (Nat.le_of_ble_eq_true rfl) (c_copyL (F := (xCopyG (cpB (pe F i 0 (F j 0)) (i + 1) (j + 1) 0 0 4) i j)) d i j hi hj) ?_
  refine g_aload_n dX4_copyFrom_48 rfl ?_
  refine g_gR (r := (j + 14)) dX4_copyFrom_49 fl_X4_41 (fun _ _ => rfl) (mRm_s0 (g := g) hj) (by have := hj.1; omega) (mRm_r0_4 hj) ?_
  refine g_iconstv (v := 0) dX4_copyFrom_52 rfl ?_
  refine g_aload_n dX4_copyFrom_53 rfl ?_
  refine g_gR (r := (i + 14)) dX4_copyFrom_54 fl_X4_41 (fun _ _ => rfl) (mRm_s0 (g := g) hi) (by have := hi.1; omega) (mRm_r0_4 hi) ?_
  refine g_iconstv (v := 0) dX4_copyFrom_57 rfl ?_
  refine g_iconstv (v := 3) dX4_copyFrom_58 rfl ?_
  refine g_copyN 0 0 3 dX4_copyFrom_59 ml_X4_47 (mRm_s14 (g := g) hj) (mRm_s14 (g := g) hi) (by have := hj.1; omega) (by have := hi.1; omega) rfl rfl rfl (by decide) (by decide) (by decide) (by decide) (Nat.le_of_ble_eq_true rfl) ?_
  refine g_aload_n dX4_copyFrom_62 rfl ?_
  refine g_gR (r := (j + 15)) dX4_copyFrom_63 fl_X4_44 (fun _ _ => rfl) (mRm_s0 (g := g) hj) (by have := hj.1; omega) (mRm_r0_5 hj) ?_
  refine g_iconstv (v := 0) dX4_copyFrom_66 rfl ?_
  refine g_aload_n dX4_copyFrom_67 rfl ?_
  refine g_gR (r := (i + 15)) dX4_copyFrom_68 fl_X4_44 (fun _ _ => rfl) (mRm_s0 (g := g) hi) (by have := hi.1; omega) (mRm_r0_5 hi) ?_
  refine g_iconstv (v := 0) dX4_copyFrom_71 rfl ?_
  refine g_iconstv (v := 3) dX4_copyFrom_72 rfl ?_
  refine g_copyN 0 0 3 dX4_copyFrom_73 ml_X4_47 (mRm_s15 (g := g) hj) (mRm_s15 (g := g) hi) (by have := hj.1; omega) (by have := hi.1; omega) rfl rfl rfl (by decide) (by decide) (by decide) (by decide) (Nat.le_of_ble_eq_true rfl) ?_
  exact g_vret dX4_copyFrom_76 rfl
def mVal (c k : Nat) : Prop := match c with
  | 0 => k = 0
  | 1 => k < 4
  | 2 => k = 0
  | 3 => k < 10
  | 4 => k < 10
  | 5 => k < 10
  | 6 => k < 10
  | 7 => k < 10
  | 8 => k < 10
  | 9 => k = 4
  | 10 => k < 12
  | 11 => k < 12
  | 12 => k < 3
  | 13 => k < 50
  | 14 => k < 3
  | 15 => k < 3
  | _ => False
theorem xCopyR_out {F : Nat → Nat → Int32} {i j c : Nat} (h : c < i ∨ i + 16 ≤ c) : xCopyR F i j c = F c := by
  unfold xCopyR xCopyL xCopyG
  repeat (first | rw [pe_row (by omega)] | rw [cpB_row (by omega)])
set_option maxHeartbeats 4000000 in
set_option maxRecDepth 100000 in
theorem xCopyR_in {F : Nat → Nat → Int32} {i j c k : Nat} (hd : i + 16 ≤ j ∨ j + 16 ≤ i) (hc : c < 16) (hv : mVal c k) : xCopyR F i j (i + c) k = F (j + c) k := by
  rcases (by omega : c = 0 ∨ c = 1 ∨ c = 2 ∨ c = 3 ∨ c = 4 ∨ c = 5 ∨ c = 6 ∨ c = 7 ∨ c = 8 ∨ c = 9 ∨ c = 10 ∨ c = 11 ∨ c = 12 ∨ c = 13 ∨ c = 14 ∨ c = 15) with rfl | rfl | rfl | rfl | rfl | rfl | rfl | rfl | rfl | rfl | rfl | rfl | rfl | rfl | rfl | rfl
  all_goals (simp only [mVal] at hv)
  all_goals (unfold xCopyR xCopyL xCopyG)
  all_goals (repeat (first | rw [pe_at, if_neg (by omega)] | rw [cpB_at, if_neg (by omega)] | rw [pe_at, if_pos (by omega)] | rw [cpB_at, if_pos (by omega)]))
  all_goals (first | rfl | (subst hv; rfl) | (congr 1; omega) | (simp only [Nat.sub_zero, Nat.zero_add]))
theorem mRF_22 (g : Nat → Option Nat) (k : Nat) : mRF g 22 k = g k := rfl
theorem mRF_up (g : Nat → Option Nat) (k : Nat) (v : Option Nat) : va_up (mRF g) 22 (va_up (mRF g 22) k v) = mRF (va_up g k v) := by
  funext c j
  by_cases h : c = 22
  · subst h
    rw [va_up_self]
    rfl
  · rw [va_up_ne _ _ h]
    simp only [mRF, if_neg h]
theorem g_aastH {M : mM} {d pc L0 : Nat} {L : mLs} {st : List Value} {F : Nat → Nat → Int32} {g : Nat → Option Nat} {out : mOut} {i : Int32} {v ci : Nat} (gx : Nat) (hd : decode M.2.1 pc = .ok (.aastore, 1)) (hi : i = nI gx) (hg : gx < 7) (hv : (mSH L0)[v]? = some (.inl ci)) (hv4 : 4 ≤ v) (hci : mcl[ci]?.map (fun q => q.1) = some RX4) (k : mGo M d (pc + 1, L, st, mHX L0 F (va_up g gx (some v))) out) : mGo M d (pc, L, .ref v :: .int i :: .ref 22 :: st, mHX L0 F g) out :=
  g_aastN (n := 7) gx hd rfl (by decide) hi hg (by decide) hv hv4 hci (by rw [mRF_up]; exact k)
theorem m_pi7 {p : Nat} (h : p < 7) : mRm (23 + 16 * p) := mRm_h h
set_option maxHeartbeats 4000000 in
set_option maxRecDepth 100000 in
theorem c_note {L : Nat} {F : Nat → Nat → Int32} {g : Nat → Option Nat} (d : Nat) (π : Nat → Nat) (hg : ∀ i, i < 7 → g i = some (23 + 16 * π i)) (hπ : ∀ i, i < 7 → π i < 7) (k : Nat) (hk : k < 7) (ek : F 21 1 = nI k) : mCall (d + 3) yX1_noteBefore MX1_noteBefore [.ref 21, .ref 5] (mHX L F g) (none) (mHX L (xCopyR F (23 + 16 * π k) 5) g) := by
  refine mCall_of sX1_noteBefore.1 (Nat.le_of_ble_eq_true rfl) rfl ?_
  show mGo _ _ (0, [some (.ref 21), some (.ref 5)], [], _) _
  refine g_aload_n dX1_noteBefore_0 rfl ?_
  refine g_gR (r := 22) dX1_noteBefore_1 fl_X1_11 (fun _ _ => rfl) rfl (by decide) rfl ?_
  refine g_aload_n dX1_noteBefore_4 rfl ?_
  refine g_gI dX1_noteBefore_5 fl_X1_17 (fun _ _ => rfl) rfl (by decide) ?_
  refine g_aaldN (gx := k) (r := (23 + 16 * π k)) dX1_noteBefore_8 rfl (by decide) ek (by omega) (by decide) (hg k hk) ?_
  refine g_aload_n dX1_noteBefore_9 rfl ?_
  refine g_V1v dX1_noteBefore_10 ml_X1_22 sX4_copyFrom (mRm_s0 (g := g) (m_pi7 (hπ k hk))) (by omega) (Nat.le_of_ble_eq_true rfl) (c_copyR d (23 + 16 * π k) 5 (m_pi7 (hπ k hk)) mRm_5) ?_
  exact g_vret dX1_noteBefore_13 rfl
set_option maxHeartbeats 4000000 in
set_option maxRecDepth 100000 in
theorem c_keep_lo {L : Nat} {F : Nat → Nat → Int32} {g : Nat → Option Nat} (d : Nat) (k : Nat) (hk : k < 6) (ek : F 21 1 = nI k) : mCall (d) yX1_keepNoted MX1_keepNoted [.ref 21] (mHX L F g) (none) (mHX L (pe F 21 1 (F 21 1 + 1)) g) := by
  refine mCall_of sX1_keepNoted.1 (Nat.le_of_ble_eq_true rfl) rfl ?_
  show mGo _ _ (0, [some (.ref 21), none, none], [], _) _
  refine g_aload_n dX1_keepNoted_0 rfl ?_
  refine g_gI dX1_keepNoted_1 fl_X1_17 (fun _ _ => rfl) rfl (by decide) ?_
  refine g_bipushv (v := 6) dX1_keepNoted_4 rfl ?_
  refine g_icmp_ge (tgt := 20) dX1_keepNoted_6 (by decide) (fun c6 => absurd c6 (by rw [ek]; exact nI_ge (a := k) (b := 6) hk (by decide))) (fun c6 => ?_)
  refine g_aload_n dX1_keepNoted_9 rfl ?_
  refine g_dup dX1_keepNoted_10 rfl ?_
  refine g_gI dX1_keepNoted_11 fl_X1_17 (fun _ _ => rfl) rfl (by decide) ?_
  refine g_iconstv (v := 1) dX1_keepNoted_14 rfl ?_
  refine g_iadd dX1_keepNoted_15 ?_
  refine g_pI dX1_keepNoted_16 fl_X1_17 (Or.inl rfl) rfl (by decide) rfl ?_
  exact g_vret dX1_keepNoted_19 rfl
def xRot (g : Nat → Option Nat) (π : Nat → Nat) : Nat → Option Nat := (va_up (va_up (va_up (va_up (va_up (va_up (va_up g 0 (some (23 + 16 * π 1))) 1 (some (23 + 16 * π 2))) 2 (some (23 + 16 * π 3))) 3 (some (23 + 16 * π 4))) 4 (some (23 + 16 * π 5))) 5 (some (23 + 16 * π 6))) 6 (some (23 + 16 * π 0)))
set_option maxHeartbeats 4000000 in
set_option maxRecDepth 100000 in
theorem c_keep_hi {L : Nat} {F : Nat → Nat → Int32} {g : Nat → Option Nat} (d : Nat) (π : Nat → Nat) (hg : ∀ i, i < 7 → g i = some (23 + 16 * π i)) (hπ : ∀ i, i < 7 → π i < 7) (ek : F 21 1 = nI 6) : mCall (d) yX1_keepNoted MX1_keepNoted [.ref 21] (mHX L F g) (none) (mHX L F (xRot g π)) := by
  refine mCall_of sX1_keepNoted.1 (Nat.le_of_ble_eq_true rfl) rfl ?_
  show mGo _ _ (0, [some (.ref 21), none, none], [], _) _
  refine g_aload_n dX1_keepNoted_0 rfl ?_
  refine g_gI dX1_keepNoted_1 fl_X1_17 (fun _ _ => rfl) rfl (by decide) ?_
  refine g_bipushv (v := 6) dX1_keepNoted_4 rfl ?_
  refine g_icmp_ge (tgt := 20) dX1_keepNoted_6 (by decide) (fun c6 => ?_) (fun c6 => absurd (by rw [ek]; decide) c6)
  refine g_aload_n dX1_keepNoted_20 rfl ?_
  refine g_gR (r := 22) dX1_keepNoted_21 fl_X1_11 (fun _ _ => rfl) rfl (by decide) rfl ?_
  refine g_iconstv (v := 0) dX1_keepNoted_24 rfl ?_
  refine g_aaldN (gx := 0) (r := (23 + 16 * π 0)) dX1_keepNoted_25 rfl (by decide) rfl (by omega) (by decide) (hg 0 (by decide)) ?_
  refine g_astore_n dX1_keepNoted_26 (by decide) rfl ?_
  refine g_iconstv (v := 0) dX1_keepNoted_27 rfl ?_
  refine g_istore_n dX1_keepNoted_28 (by decide) rfl ?_
  refine g_iload_n dX1_keepNoted_29 rfl ?_
  refine g_bipushv (v := 6) dX1_keepNoted_30 rfl ?_
  refine g_icmp_ge (tgt := 55) dX1_keepNoted_32 (by decide) (fun c32 => absurd c32 (by decide)) (fun c32 => ?_)
  refine g_aload_n dX1_keepNoted_35 rfl ?_
  refine g_gR (r := 22) dX1_keepNoted_36 fl_X1_11 (fun _ _ => rfl) rfl (by decide) rfl ?_
  refine g_iload_n dX1_keepNoted_39 rfl ?_
  refine g_aload_n dX1_keepNoted_40 rfl ?_
  refine g_gR (r := 22) dX1_keepNoted_41 fl_X1_11 (fun _ _ => rfl) rfl (by decide) rfl ?_
  refine g_iload_n dX1_keepNoted_44 rfl ?_
  refine g_iconstv (v := 1) dX1_keepNoted_45 rfl ?_
  refine g_iadd dX1_keepNoted_46 ?_
  refine g_aaldN (gx := 1) (r := (23 + 16 * π 1)) dX1_keepNoted_47 rfl (by decide) rfl (by omega) (by decide) (hg 1 (by decide)) ?_
  refine g_aastH (gx := 0) dX1_keepNoted_48 rfl (by decide) (mRm_s0 (g := g) (m_pi7 (hπ 1 (by decide)))) (by omega) rfl ?_
  refine g_iincv (v := 1) dX1_keepNoted_49 rfl rfl (by decide) rfl ?_
  refine g_goto (tgt := 29) dX1_keepNoted_52 (by decide) ?_
  refine g_iload_n dX1_keepNoted_29 rfl ?_
  refine g_bipushv (v := 6) dX1_keepNoted_30 rfl ?_
  refine g_icmp_ge (tgt := 55) dX1_keepNoted_32 (by decide) (fun c32 => absurd c32 (by decide)) (fun c32 => ?_)
  refine g_aload_n dX1_keepNoted_35 rfl ?_
  refine g_gR (r := 22) dX1_keepNoted_36 fl_X1_11 (fun _ _ => rfl) rfl (by decide) rfl ?_
  refine g_iload_n dX1_keepNoted_39 rfl ?_
  refine g_aload_n dX1_keepNoted_40 rfl ?_
  refine g_gR (r := 22) dX1_keepNoted_41 fl_X1_11 (fun _ _ => rfl) rfl (by decide) rfl ?_
  refine g_iload_n dX1_keepNoted_44 rfl ?_
  refine g_iconstv (v := 1) dX1_keepNoted_45 rfl ?_
  refine g_iadd dX1_keepNoted_46 ?_
  refine g_aaldN (gx := 2) (r := (23 + 16 * π 2)) dX1_keepNoted_47 rfl (by decide) rfl (by omega) (by decide) (hg 2 (by decide)) ?_
  refine g_aastH (gx := 1) dX1_keepNoted_48 rfl (by decide) (mRm_s0 (g := g) (m_pi7 (hπ 2 (by decide)))) (by omega) rfl ?_
  refine g_iincv (v := 2) dX1_keepNoted_49 rfl rfl (by decide) rfl ?_
  refine g_goto (tgt := 29) dX1_keepNoted_52 (by decide) ?_
  refine g_iload_n dX1_keepNoted_29 rfl ?_
  refine g_bipushv (v := 6) dX1_keepNoted_30 rfl ?_
  refine g_icmp_ge (tgt := 55) dX1_keepNoted_32 (by decide) (fun c32 => absurd c32 (by decide)) (fun c32 => ?_)
  refine g_aload_n dX1_keepNoted_35 rfl ?_
  refine g_gR (r := 22) dX1_keepNoted_36 fl_X1_11 (fun _ _ => rfl) rfl (by decide) rfl ?_
  refine g_iload_n dX1_keepNoted_39 rfl ?_
  refine g_aload_n dX1_keepNoted_40 rfl ?_
  refine g_gR (r := 22) dX1_keepNoted_41 fl_X1_11 (fun _ _ => rfl) rfl (by decide) rfl ?_
  refine g_iload_n dX1_keepNoted_44 rfl ?_
  refine g_iconstv (v := 1) dX1_keepNoted_45 rfl ?_
  refine g_iadd dX1_keepNoted_46 ?_
  refine g_aaldN (gx := 3) (r := (23 + 16 * π 3)) dX1_keepNoted_47 rfl (by decide) rfl (by omega) (by decide) (hg 3 (by decide)) ?_
  refine g_aastH (gx := 2) dX1_keepNoted_48 rfl (by decide) (mRm_s0 (g := g) (m_pi7 (hπ 3 (by decide)))) (by omega) rfl ?_
  refine g_iincv (v := 3) dX1_keepNoted_49 rfl rfl (by decide) rfl ?_
  refine g_goto (tgt := 29) dX1_keepNoted_52 (by decide) ?_
  refine g_iload_n dX1_keepNoted_29 rfl ?_
  refine g_bipushv (v := 6) dX1_keepNoted_30 rfl ?_
  refine g_icmp_ge (tgt := 55) dX1_keepNoted_32 (by decide) (fun c32 => absurd c32 (by decide)) (fun c32 => ?_)
  refine g_aload_n dX1_keepNoted_35 rfl ?_
  refine g_gR (r := 22) dX1_keepNoted_36 fl_X1_11 (fun _ _ => rfl) rfl (by decide) rfl ?_
  refine g_iload_n dX1_keepNoted_39 rfl ?_
  refine g_aload_n dX1_keepNoted_40 rfl ?_
  refine g_gR (r := 22) dX1_keepNoted_41 fl_X1_11 (fun _ _ => rfl) rfl (by decide) rfl ?_
  refine g_iload_n dX1_keepNoted_44 rfl ?_
  refine g_iconstv (v := 1) dX1_keepNoted_45 rfl ?_
  refine g_iadd dX1_keepNoted_46 ?_
  refine g_aaldN (gx := 4) (r := (23 + 16 * π 4)) dX1_keepNoted_47 rfl (by decide) rfl (by omega) (by decide) (hg 4 (by decide)) ?_
  refine g_aastH (gx := 3) dX1_keepNoted_48 rfl (by decide) (mRm_s0 (g := g) (m_pi7 (hπ 4 (by decide)))) (by omega) rfl ?_
  refine g_iincv (v := 4) dX1_keepNoted_49 rfl rfl (by decide) rfl ?_
  refine g_goto (tgt := 29) dX1_keepNoted_52 (by decide) ?_
  refine g_iload_n dX1_keepNoted_29 rfl ?_
  refine g_bipushv (v := 6) dX1_keepNoted_30 rfl ?_
  refine g_icmp_ge (tgt := 55) dX1_keepNoted_32 (by decide) (fun c32 => absurd c32 (by decide)) (fun c32 => ?_)
  refine g_aload_n dX1_keepNoted_35 rfl ?_
  refine g_gR (r := 22) dX1_keepNoted_36 fl_X1_11 (fun _ _ => rfl) rfl (by decide) rfl ?_
  refine g_iload_n dX1_keepNoted_39 rfl ?_
  refine g_aload_n dX1_keepNoted_40 rfl ?_
  refine g_gR (r := 22) dX1_keepNoted_41 fl_X1_11 (fun _ _ => rfl) rfl (by decide) rfl ?_
  refine g_iload_n dX1_keepNoted_44 rfl ?_
  refine g_iconstv (v := 1) dX1_keepNoted_45 rfl ?_
  refine g_iadd dX1_keepNoted_46 ?_
  refine g_aaldN (gx := 5) (r := (23 + 16 * π 5)) dX1_keepNoted_47 rfl (by decide) rfl (by omega) (by decide) (hg 5 (by decide)) ?_
  refine g_aastH (gx := 4) dX1_keepNoted_48 rfl (by decide) (mRm_s0 (g := g) (m_pi7 (hπ 5 (by decide)))) (by omega) rfl ?_
  refine g_iincv (v := 5) dX1_keepNoted_49 rfl rfl (by decide) rfl ?_
  refine g_goto (tgt := 29) dX1_keepNoted_52 (by decide) ?_
  refine g_iload_n dX1_keepNoted_29 rfl ?_
  refine g_bipushv (v := 6) dX1_keepNoted_30 rfl ?_
  refine g_icmp_ge (tgt := 55) dX1_keepNoted_32 (by decide) (fun c32 => absurd c32 (by decide)) (fun c32 => ?_)
  refine g_aload_n dX1_keepNoted_35 rfl ?_
  refine g_gR (r := 22) dX1_keepNoted_36 fl_X1_11 (fun _ _ => rfl) rfl (by decide) rfl ?_
  refine g_iload_n dX1_keepNoted_39 rfl ?_
  refine g_aload_n dX1_keepNoted_40 rfl ?_
  refine g_gR (r := 22) dX1_keepNoted_41 fl_X1_11 (fun _ _ => rfl) rfl (by decide) rfl ?_
  refine g_iload_n dX1_keepNoted_44 rfl ?_
  refine g_iconstv (v := 1) dX1_keepNoted_45 rfl ?_
  refine g_iadd dX1_keepNoted_46 ?_
  refine g_aaldN (gx := 6) (r := (23 + 16 * π 6)) dX1_keepNoted_47 rfl (by decide) rfl (by omega) (by decide) (hg 6 (by decide)) ?_
  refine g_aastH (gx := 5) dX1_keepNoted_48 rfl (by decide) (mRm_s0 (g := g) (m_pi7 (hπ 6 (by decide)))) (by omega) rfl ?_
  refine g_iincv (v := 6) dX1_keepNoted_49 rfl rfl (by decide) rfl ?_
  refine g_goto (tgt := 29) dX1_keepNoted_52 (by decide) ?_
  refine g_iload_n dX1_keepNoted_29 rfl ?_
  refine g_bipushv (v := 6) dX1_keepNoted_30 rfl ?_
  refine g_icmp_ge (tgt := 55) dX1_keepNoted_32 (by decide) (fun c32 => ?_) (fun c32 => absurd (by decide) c32)
  refine g_aload_n dX1_keepNoted_55 rfl ?_
  refine g_gR (r := 22) dX1_keepNoted_56 fl_X1_11 (fun _ _ => rfl) rfl (by decide) rfl ?_
  refine g_bipushv (v := 6) dX1_keepNoted_59 rfl ?_
  refine g_aload_n dX1_keepNoted_61 rfl ?_
  refine g_aastH (gx := 6) dX1_keepNoted_62 rfl (by decide) (mRm_s0 (g := g) (m_pi7 (hπ 0 (by decide)))) (by omega) rfl ?_
  exact g_vret dX1_keepNoted_63 rfl
theorem xRot_at {g : Nat → Option Nat} {π : Nat → Nat} {i : Nat} (h : i < 7) : xRot g π i = some (23 + 16 * π ((i + 1) % 7)) := by
  unfold xRot
  rcases (by omega : i = 0 ∨ i = 1 ∨ i = 2 ∨ i = 3 ∨ i = 4 ∨ i = 5 ∨ i = 6) with rfl | rfl | rfl | rfl | rfl | rfl | rfl <;> rfl
set_option maxHeartbeats 4000000 in
set_option maxRecDepth 100000 in
theorem c_undo_no {L : Nat} {F : Nat → Nat → Int32} {g : Nat → Option Nat} (d : Nat) (ek : F 21 1 = 0) : mCall (d) yX1_takeBack MX1_takeBack [.ref 21, .ref 5] (mHX L F g) (some (.int (-5))) (mHX L F g) := by
  refine mCall_of sX1_takeBack.1 (Nat.le_of_ble_eq_true rfl) ⟨_, rfl, rfl⟩ ?_
  show mGo _ _ (0, [some (.ref 21), some (.ref 5)], [], _) _
  refine g_aload_n dX1_takeBack_0 rfl ?_
  refine g_gI dX1_takeBack_1 fl_X1_17 (fun _ _ => rfl) rfl (by decide) ?_
  refine g_if_ne (tgt := 10) dX1_takeBack_4 (by decide) (fun c4 => absurd ek c4) (fun c4 => ?_)
  refine g_bipushv (v := (-5)) dX1_takeBack_7 rfl ?_
  exact g_iret dX1_takeBack_9 rfl
set_option maxHeartbeats 4000000 in
set_option maxRecDepth 100000 in
theorem c_undo_ok {L : Nat} {F : Nat → Nat → Int32} {g : Nat → Option Nat} (d : Nat) (π : Nat → Nat) (hg : ∀ i, i < 7 → g i = some (23 + 16 * π i)) (hπ : ∀ i, i < 7 → π i < 7) (k : Nat) (hk : k < 6) (ek : F 21 1 = nI (k + 1)) : mCall (d + 3) yX1_takeBack MX1_takeBack [.ref 21, .ref 5] (mHX L F g) (some (.int (nI k))) (mHX L (xCopyR (pe F 21 1 (F 21 1 - 1)) 5 (23 + 16 * π k)) g) := by
  refine mCall_of sX1_takeBack.1 (Nat.le_of_ble_eq_true rfl) ⟨_, rfl, rfl⟩ ?_
  show mGo _ _ (0, [some (.ref 21), some (.ref 5)], [], _) _
  have e1 : F 21 1 - 1 = nI k := by rw [ek]; exact nI_pred k
  refine g_aload_n dX1_takeBack_0 rfl ?_
  refine g_gI dX1_takeBack_1 fl_X1_17 (fun _ _ => rfl) rfl (by decide) ?_
  refine g_if_ne (tgt := 10) dX1_takeBack_4 (by decide) (fun c4 => ?_) (fun c4 => absurd c4 (by rw [ek]; exact nI_ne0 (by omega) (by omega)))
  refine g_aload_n dX1_takeBack_10 rfl ?_
  refine g_dup dX1_takeBack_11 rfl ?_
  refine g_gI dX1_takeBack_12 fl_X1_17 (fun _ _ => rfl) rfl (by decide) ?_
  refine g_iconstv (v := 1) dX1_takeBack_15 rfl ?_
  refine g_isub dX1_takeBack_16 ?_
  refine g_pI dX1_takeBack_17 fl_X1_17 (Or.inl rfl) rfl (by decide) rfl ?_
  refine g_aload_n dX1_takeBack_20 rfl ?_
  refine g_aload_n dX1_takeBack_21 rfl ?_
  refine g_gR (r := 22) dX1_takeBack_22 fl_X1_11 (fun _ _ => rfl) rfl (by decide) rfl ?_
  refine g_aload_n dX1_takeBack_25 rfl ?_
  refine g_gI dX1_takeBack_26 fl_X1_17 (fun _ _ => rfl) rfl (by decide) ?_
  refine g_aaldN (gx := k) (r := (23 + 16 * π k)) dX1_takeBack_29 rfl (by decide) (by rw [pe_eq, e1]) (by omega) (by decide) (hg k (by omega)) ?_
  refine g_V1v dX1_takeBack_30 ml_X1_22 sX4_copyFrom rfl (by decide) (Nat.le_of_ble_eq_true rfl) (c_copyR (F := (pe F 21 1 (F 21 1 - 1))) d 5 (23 + 16 * π k) mRm_5 (m_pi7 (hπ k (by omega)))) ?_
  refine g_aload_n dX1_takeBack_33 rfl ?_
  refine g_gI dX1_takeBack_34 fl_X1_17 (fun _ _ => rfl) rfl (by decide) ?_
  exact g_iret dX1_takeBack_37 (m_ret (by rw [xCopyR_out (by omega), pe_eq, e1]))
theorem mR_136 {g : Nat → Option Nat} {b : Nat} (h : b < 2) : mRF g 136 b = some (137 + 16 * b) := by
  rcases (by omega : b = 0 ∨ b = 1) with rfl | rfl <;> rfl
set_option maxHeartbeats 4000000 in
set_option maxRecDepth 100000 in
theorem c_slot_no {L : Nat} {F : Nat → Nat → Int32} {g : Nat → Option Nat} (d : Nat) (x : Int32) (hb : ¬ (0 ≤ x ∧ x < 2)) : mCall (d) yX5_keep MX5_keep [.ref 135, .int x, .ref 5] (mHX L F g) (some (.int (-2))) (mHX L F g) := by
  refine mCall_of sX5_keep.1 (Nat.le_of_ble_eq_true rfl) ⟨_, rfl, rfl⟩ ?_
  show mGo _ _ (0, [some (.ref 135), some (.int x), some (.ref 5)], [], _) _
  refine g_iload_n dX5_keep_0 rfl ?_
  refine g_if_lt (tgt := 9) dX5_keep_1 (by decide) (fun c1 => ?_) (fun c1 => ?_)
  · skip
    refine g_bipushv (v := (-2)) dX5_keep_9 rfl ?_
    exact g_iret dX5_keep_11 rfl
  · skip
    refine g_iload_n dX5_keep_4 rfl ?_
    refine g_iconstv (v := 2) dX5_keep_5 rfl ?_
    refine g_icmp_lt (tgt := 12) dX5_keep_6 (by decide) (fun c6 => absurd c6 (fun q => hb ⟨Int32.not_lt.mp c1, q⟩)) (fun c6 => ?_)
    refine g_bipushv (v := (-2)) dX5_keep_9 rfl ?_
    exact g_iret dX5_keep_11 rfl
set_option maxHeartbeats 4000000 in
set_option maxRecDepth 100000 in
theorem c_slot_keep {L : Nat} {F : Nat → Nat → Int32} {g : Nat → Option Nat} (d : Nat) (b : Nat) (hb : b < 2) : mCall (d + 3) yX5_keep MX5_keep [.ref 135, .int (nI b), .ref 5] (mHX L F g) (some (.int (F 7 0))) (mHX L (pe (xCopyR F (137 + 16 * b) 5) 169 b 1) g) := by
  refine mCall_of sX5_keep.1 (Nat.le_of_ble_eq_true rfl) ⟨_, rfl, rfl⟩ ?_
  show mGo _ _ (0, [some (.ref 135), some (.int (nI b)), some (.ref 5)], [], _) _
  refine g_iload_n dX5_keep_0 rfl ?_
  refine g_if_lt (tgt := 9) dX5_keep_1 (by decide) (fun c1 => absurd c1 (nI_pos (by omega))) (fun c1 => ?_)
  refine g_iload_n dX5_keep_4 rfl ?_
  refine g_iconstv (v := 2) dX5_keep_5 rfl ?_
  refine g_icmp_lt (tgt := 12) dX5_keep_6 (by decide) (fun c6 => ?_) (fun c6 => absurd (nI_lt (a := b) (b := 2) hb (by decide)) c6)
  refine g_aload_n dX5_keep_12 rfl ?_
  refine g_gR (r := 136) dX5_keep_13 fl_X5_12 (fun _ _ => rfl) rfl (by decide) rfl ?_
  refine g_iload_n dX5_keep_16 rfl ?_
  refine g_aaldN (gx := b) (r := (137 + 16 * b)) dX5_keep_17 rfl (by decide) rfl (by omega) (by decide) (mR_136 hb) ?_
  refine g_aload_n dX5_keep_18 rfl ?_
  refine g_V1v dX5_keep_19 ml_X5_22 sX4_copyFrom (mRm_s0 (g := g) (mRm_s hb)) (by omega) (Nat.le_of_ble_eq_true rfl) (c_copyR d (137 + 16 * b) 5 (mRm_s hb) mRm_5) ?_
  refine g_aload_n dX5_keep_22 rfl ?_
  refine g_gR (r := 169) dX5_keep_23 fl_X5_18 (fun _ _ => rfl) rfl (by decide) rfl ?_
  refine g_iload_n dX5_keep_26 rfl ?_
  refine g_iconstv (v := 1) dX5_keep_27 rfl ?_
  refine g_zastN (gx := b) dX5_keep_28 rfl (by decide) rfl (by omega) (by decide) rfl ?_
  refine g_aload_n dX5_keep_29 rfl ?_
  refine g_gR (r := 7) dX5_keep_30 fl_X5_26 (fun _ _ => rfl) rfl (by decide) rfl ?_
  refine g_gI dX5_keep_33 fl_X5_30 (fun _ _ => rfl) rfl (by decide) ?_
  exact g_iret dX5_keep_36 (m_ret (by rw [pe_row (by decide), xCopyR_out (by omega)]))
set_option maxHeartbeats 4000000 in
set_option maxRecDepth 100000 in
theorem c_back_no {L : Nat} {F : Nat → Nat → Int32} {g : Nat → Option Nat} (d : Nat) (x : Int32) (hb : ¬ (0 ≤ x ∧ x < 2)) : mCall (d) yX5_giveBack MX5_giveBack [.ref 135, .int x, .ref 5] (mHX L F g) (some (.int (-2))) (mHX L F g) := by
  refine mCall_of sX5_giveBack.1 (Nat.le_of_ble_eq_true rfl) ⟨_, rfl, rfl⟩ ?_
  show mGo _ _ (0, [some (.ref 135), some (.int x), some (.ref 5)], [], _) _
  refine g_iload_n dX5_giveBack_0 rfl ?_
  refine g_if_lt (tgt := 9) dX5_giveBack_1 (by decide) (fun c1 => ?_) (fun c1 => ?_)
  · skip
    refine g_bipushv (v := (-2)) dX5_giveBack_9 rfl ?_
    exact g_iret dX5_giveBack_11 rfl
  · skip
    refine g_iload_n dX5_giveBack_4 rfl ?_
    refine g_iconstv (v := 2) dX5_giveBack_5 rfl ?_
    refine g_icmp_lt (tgt := 12) dX5_giveBack_6 (by decide) (fun c6 => absurd c6 (fun q => hb ⟨Int32.not_lt.mp c1, q⟩)) (fun c6 => ?_)
    refine g_bipushv (v := (-2)) dX5_giveBack_9 rfl ?_
    exact g_iret dX5_giveBack_11 rfl
set_option maxHeartbeats 4000000 in
set_option maxRecDepth 100000 in
theorem c_back_none {L : Nat} {F : Nat → Nat → Int32} {g : Nat → Option Nat} (d : Nat) (b : Nat) (hb : b < 2) (h0 : F 169 b = 0) : mCall (d) yX5_giveBack MX5_giveBack [.ref 135, .int (nI b), .ref 5] (mHX L F g) (some (.int (-5))) (mHX L F g) := by
  refine mCall_of sX5_giveBack.1 (Nat.le_of_ble_eq_true rfl) ⟨_, rfl, rfl⟩ ?_
  show mGo _ _ (0, [some (.ref 135), some (.int (nI b)), some (.ref 5)], [], _) _
  refine g_iload_n dX5_giveBack_0 rfl ?_
  refine g_if_lt (tgt := 9) dX5_giveBack_1 (by decide) (fun c1 => absurd c1 (nI_pos (by omega))) (fun c1 => ?_)
  refine g_iload_n dX5_giveBack_4 rfl ?_
  refine g_iconstv (v := 2) dX5_giveBack_5 rfl ?_
  refine g_icmp_lt (tgt := 12) dX5_giveBack_6 (by decide) (fun c6 => ?_) (fun c6 => absurd (nI_lt (a := b) (b := 2) hb (by decide)) c6)
  refine g_aload_n dX5_giveBack_12 rfl ?_
  refine g_gR (r := 169) dX5_giveBack_13 fl_X5_18 (fun _ _ => rfl) rfl (by decide) rfl ?_
  refine g_iload_n dX5_giveBack_16 rfl ?_
  refine g_zaldN (gx := b) dX5_giveBack_17 rfl (by decide) rfl (by omega) (by decide) ?_
  refine g_if_ne (tgt := 24) dX5_giveBack_18 (by decide) (fun c18 => absurd h0 c18) (fun c18 => ?_)
  refine g_bipushv (v := (-5)) dX5_giveBack_21 rfl ?_
  exact g_iret dX5_giveBack_23 rfl
set_option maxHeartbeats 4000000 in
set_option maxRecDepth 100000 in
theorem c_back_ok {L : Nat} {F : Nat → Nat → Int32} {g : Nat → Option Nat} (d : Nat) (b : Nat) (hb : b < 2) (h0 : ¬ F 169 b = 0) : mCall (d + 3) yX5_giveBack MX5_giveBack [.ref 135, .int (nI b), .ref 5] (mHX L F g) (some (.int ((xCopyR F 5 (137 + 16 * b)) 7 0))) (mHX L (xCopyR F 5 (137 + 16 * b)) g) := by
  refine mCall_of sX5_giveBack.1 (Nat.le_of_ble_eq_true rfl) ⟨_, rfl, rfl⟩ ?_
  show mGo _ _ (0, [some (.ref 135), some (.int (nI b)), some (.ref 5)], [], _) _
  refine g_iload_n dX5_giveBack_0 rfl ?_
  refine g_if_lt (tgt := 9) dX5_giveBack_1 (by decide) (fun c1 => absurd c1 (nI_pos (by omega))) (fun c1 => ?_)
  refine g_iload_n dX5_giveBack_4 rfl ?_
  refine g_iconstv (v := 2) dX5_giveBack_5 rfl ?_
  refine g_icmp_lt (tgt := 12) dX5_giveBack_6 (by decide) (fun c6 => ?_) (fun c6 => absurd (nI_lt (a := b) (b := 2) hb (by decide)) c6)
  refine g_aload_n dX5_giveBack_12 rfl ?_
  refine g_gR (r := 169) dX5_giveBack_13 fl_X5_18 (fun _ _ => rfl) rfl (by decide) rfl ?_
  refine g_iload_n dX5_giveBack_16 rfl ?_
  refine g_zaldN (gx := b) dX5_giveBack_17 rfl (by decide) rfl (by omega) (by decide) ?_
  refine g_if_ne (tgt := 24) dX5_giveBack_18 (by decide) (fun c18 => ?_) (fun c18 => absurd c18 h0)
  refine g_aload_n dX5_giveBack_24 rfl ?_
  refine g_aload_n dX5_giveBack_25 rfl ?_
  refine g_gR (r := 136) dX5_giveBack_26 fl_X5_12 (fun _ _ => rfl) rfl (by decide) rfl ?_
  refine g_iload_n dX5_giveBack_29 rfl ?_
  refine g_aaldN (gx := b) (r := (137 + 16 * b)) dX5_giveBack_30 rfl (by decide) rfl (by omega) (by decide) (mR_136 hb) ?_
  refine g_V1v dX5_giveBack_31 ml_X5_22 sX4_copyFrom rfl (by decide) (Nat.le_of_ble_eq_true rfl) (c_copyR d 5 (137 + 16 * b) mRm_5 (mRm_s hb)) ?_
  refine g_aload_n dX5_giveBack_34 rfl ?_
  refine g_gR (r := 7) dX5_giveBack_35 fl_X5_26 (fun _ _ => rfl) rfl (by decide) rfl ?_
  refine g_gI dX5_giveBack_38 fl_X5_30 (fun _ _ => rfl) rfl (by decide) ?_
  exact g_iret dX5_giveBack_41 rfl
