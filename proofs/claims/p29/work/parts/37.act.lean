/-! the law's cell, low and act -/
def sLow (x y : Int32) : Int32 := (x &&& 2147483647) - (x &&& 2147483647) / y * y
set_option maxHeartbeats 4000000 in
set_option maxRecDepth 100000 in
theorem c_low {hp : mHp} (d : Nat) (x y : Int32) (hy : ¬ y = 0) : mCall (d) yL_low ML_low [.int x, .int y] (hp) (some (.int (sLow x y))) (hp) := by
  refine mCall_of sL_low.1 (Nat.le_of_ble_eq_true rfl) ⟨_, rfl, rfl⟩ ?_
  show mGo _ _ (0, [some (.int x), some (.int y)], [], _) _
  refine g_iload_n dL_low_0 rfl ?_
  refine g_ldc dL_low_1 kc_L_7 ?_
  refine g_iand dL_low_3 ?_
  refine g_iload_n dL_low_4 rfl ?_
  refine g_irem dL_low_5 (hy) ?_
  exact g_iret dL_low_6 rfl
def sCell (X : Nat → Int32) (Ln k : Nat) : Int32 := if k < Ln then X k else 7919 * (nI k + 3) * (nI k + 11)
set_option maxHeartbeats 4000000 in
set_option maxRecDepth 100000 in
theorem c_cell_in {L : Nat} {F : Nat → Nat → Int32} {g : Nat → Option Nat} (d : Nat) (k : Nat) (hL : L < 2 ^ 31) (hk : k < L) : mCall (d) yL_cell ML_cell [.ref 0, .int (nI k)] (mHX L F g) (some (.int (F 0 k))) (mHX L F g) := by
  refine mCall_of sL_cell.1 (Nat.le_of_ble_eq_true rfl) ⟨_, rfl, rfl⟩ ?_
  show mGo _ _ (0, [some (.ref 0), some (.int (nI k))], [], _) _
  refine g_iload_n dL_cell_0 rfl ?_
  refine g_aload_n dL_cell_1 rfl ?_
  refine g_slen dL_cell_2 rfl (by decide) ?_
  refine g_icmp_ge (tgt := 12) dL_cell_3 (by decide) (fun c3 => absurd c3 (nI_ge (a := k) (b := L) hk hL)) (fun c3 => ?_)
  refine g_aload_n dL_cell_6 rfl ?_
  refine g_iload_n dL_cell_7 rfl ?_
  refine g_saldN (gx := k) dL_cell_8 rfl (by decide) rfl hk hL ?_
  refine g_goto (tgt := 24) dL_cell_9 (by decide) ?_
  exact g_iret dL_cell_24 rfl
set_option maxHeartbeats 4000000 in
set_option maxRecDepth 100000 in
theorem c_cell_out {L : Nat} {F : Nat → Nat → Int32} {g : Nat → Option Nat} (d : Nat) (k : Nat) (hk2 : k < 2 ^ 31) (hk : L ≤ k) : mCall (d) yL_cell ML_cell [.ref 0, .int (nI k)] (mHX L F g) (some (.int (7919 * (nI k + 3) * (nI k + 11)))) (mHX L F g) := by
  refine mCall_of sL_cell.1 (Nat.le_of_ble_eq_true rfl) ⟨_, rfl, rfl⟩ ?_
  show mGo _ _ (0, [some (.ref 0), some (.int (nI k))], [], _) _
  refine g_iload_n dL_cell_0 rfl ?_
  refine g_aload_n dL_cell_1 rfl ?_
  refine g_slen dL_cell_2 rfl (by decide) ?_
  refine g_icmp_ge (tgt := 12) dL_cell_3 (by decide) (fun c3 => ?_) (fun c3 => absurd (nI_le (a := L) (b := k) hk hk2) c3)
  refine g_sipushv (v := 7919) dL_cell_12 rfl ?_
  refine g_iload_n dL_cell_15 rfl ?_
  refine g_iconstv (v := 3) dL_cell_16 rfl ?_
  refine g_iadd dL_cell_17 ?_
  refine g_imul dL_cell_18 ?_
  refine g_iload_n dL_cell_19 rfl ?_
  refine g_bipushv (v := 11) dL_cell_20 rfl ?_
  refine g_iadd dL_cell_22 ?_
  refine g_imul dL_cell_23 ?_
  exact g_iret dL_cell_24 rfl
theorem c_cell {L : Nat} {F : Nat → Nat → Int32} {g : Nat → Option Nat} (d : Nat) (k : Nat) (hL : L < 2 ^ 31) (hk : k < 2 ^ 31) : mCall d yL_cell ML_cell [.ref 0, .int (nI k)] (mHX L F g) (some (.int (sCell (F 0) L k))) (mHX L F g) := by
  unfold sCell
  by_cases h : k < L
  · rw [if_pos h]
    exact c_cell_in d k hL h
  · rw [if_neg h]
    exact c_cell_out d k hk (by omega)
set_option maxHeartbeats 4000000 in
set_option maxRecDepth 100000 in
theorem act_p0 {L d : Nat} {F : Nat → Nat → Int32} {g : Nat → Option Nat} {out : mOut} {v w : Int32} (h : ((v >>> (20 &&& 31)) &&& 1) = 0) (K : mGo ML_act (d + 5) (29, [some (.ref 4), some (.int v), some (.int w), some (.int (sLow (v >>> (4 &&& 31)) 11)), some (.int (sLow w 2))], [], mHX L F g) out) : mGo ML_act (d + 5) (0, [some (.ref 4), some (.int v), some (.int w), none, none], [], mHX L F g) out := by
  refine g_iload_n dL_act_0 rfl ?_
  refine g_iconstv (v := 4) dL_act_1 rfl ?_
  refine g_ishr dL_act_2 ?_
  refine g_bipushv (v := 11) dL_act_3 rfl ?_
  refine g_S2i dL_act_5 ml_L_31 sL_low (Nat.le_of_ble_eq_true rfl) (c_low (d + 4) (v >>> (4 &&& 31)) 11 (by decide)) ?_
  refine g_istore_n dL_act_8 (by decide) rfl ?_
  refine g_iload_n dL_act_9 rfl ?_
  refine g_iload_n dL_act_10 rfl ?_
  refine g_bipushv (v := 20) dL_act_11 rfl ?_
  refine g_ishr dL_act_13 ?_
  refine g_iconstv (v := 1) dL_act_14 rfl ?_
  refine g_iand dL_act_15 ?_
  refine g_if_ne (tgt := 23) dL_act_16 (by decide) (fun c16 => absurd h c16) (fun c16 => ?_)
  refine g_iconstv (v := 2) dL_act_19 rfl ?_
  refine g_goto (tgt := 24) dL_act_20 (by decide) ?_
  refine g_S2i dL_act_24 ml_L_31 sL_low (Nat.le_of_ble_eq_true rfl) (c_low (d + 4) (w) 2 (by decide)) ?_
  refine g_istore dL_act_27 (by decide) rfl ?_
  exact K
set_option maxHeartbeats 4000000 in
set_option maxRecDepth 100000 in
theorem act_p1 {L d : Nat} {F : Nat → Nat → Int32} {g : Nat → Option Nat} {out : mOut} {v w : Int32} (h : ¬ ((v >>> (20 &&& 31)) &&& 1) = 0) (K : mGo ML_act (d + 5) (29, [some (.ref 4), some (.int v), some (.int w), some (.int (sLow (v >>> (4 &&& 31)) 11)), some (.int (sLow w 4))], [], mHX L F g) out) : mGo ML_act (d + 5) (0, [some (.ref 4), some (.int v), some (.int w), none, none], [], mHX L F g) out := by
  refine g_iload_n dL_act_0 rfl ?_
  refine g_iconstv (v := 4) dL_act_1 rfl ?_
  refine g_ishr dL_act_2 ?_
  refine g_bipushv (v := 11) dL_act_3 rfl ?_
  refine g_S2i dL_act_5 ml_L_31 sL_low (Nat.le_of_ble_eq_true rfl) (c_low (d + 4) (v >>> (4 &&& 31)) 11 (by decide)) ?_
  refine g_istore_n dL_act_8 (by decide) rfl ?_
  refine g_iload_n dL_act_9 rfl ?_
  refine g_iload_n dL_act_10 rfl ?_
  refine g_bipushv (v := 20) dL_act_11 rfl ?_
  refine g_ishr dL_act_13 ?_
  refine g_iconstv (v := 1) dL_act_14 rfl ?_
  refine g_iand dL_act_15 ?_
  refine g_if_ne (tgt := 23) dL_act_16 (by decide) (fun c16 => ?_) (fun c16 => absurd c16 h)
  refine g_iconstv (v := 4) dL_act_23 rfl ?_
  refine g_S2i dL_act_24 ml_L_31 sL_low (Nat.le_of_ble_eq_true rfl) (c_low (d + 4) (w) 4 (by decide)) ?_
  refine g_istore dL_act_27 (by decide) rfl ?_
  exact K
def aX (v : Int32) : Int32 := sLow (v >>> (4 &&& 31)) 11
def aT (v w : Int32) : Int32 := if ((v >>> (20 &&& 31)) &&& 1) = 0 then sLow w 2 else sLow w 4
theorem act_of {L d : Nat} {F : Nat → Nat → Int32} {g : Nat → Option Nat} {v w r : Int32} {hp1 : mHp} (K : mGo ML_act (d + 5) (29, [some (.ref 4), some (.int v), some (.int w), some (.int (aX v)), some (.int (aT v w))], [], mHX L F g) (some (.int r), hp1)) : mCall (d + 5) yL_act ML_act [.ref 4, .int v, .int w] (mHX L F g) (some (.int r)) hp1 := by
  refine mCall_of sL_act.1 (Nat.le_of_ble_eq_true rfl) ⟨_, rfl, rfl⟩ ?_
  show mGo _ _ (0, [some (.ref 4), some (.int v), some (.int w), none, none], [], _) _
  unfold aT at K
  by_cases h : ((v >>> (20 &&& 31)) &&& 1) = 0
  · rw [if_pos h] at K
    exact act_p0 h K
  · rw [if_neg h] at K
    exact act_p1 h K
set_option maxHeartbeats 4000000 in
set_option maxRecDepth 100000 in
theorem act_s0 {L d : Nat} {F : Nat → Nat → Int32} {g : Nat → Option Nat} {out : mOut} {v w x t : Int32} (e : v &&& 15 = nI 0) (K : mGo ML_act (d + 5) (100, [some (.ref 4), some (.int v), some (.int w), some (.int x), some (.int t)], [], mHX L F g) out) : mGo ML_act (d + 5) (29, [some (.ref 4), some (.int v), some (.int w), some (.int x), some (.int t)], [], mHX L F g) out := by
  refine g_iload_n dL_act_29 rfl ?_
  refine g_bipushv (v := 15) dL_act_30 rfl ?_
  refine g_iand dL_act_32 ?_
  rw [e]
  exact g_tabIn (off := 67) (tgt := 100) dL_act_33 (by decide) (by decide) rfl (by decide) K
set_option maxHeartbeats 4000000 in
set_option maxRecDepth 100000 in
theorem act_s1 {L d : Nat} {F : Nat → Nat → Int32} {g : Nat → Option Nat} {out : mOut} {v w x t : Int32} (e : v &&& 15 = nI 1) (K : mGo ML_act (d + 5) (100, [some (.ref 4), some (.int v), some (.int w), some (.int x), some (.int t)], [], mHX L F g) out) : mGo ML_act (d + 5) (29, [some (.ref 4), some (.int v), some (.int w), some (.int x), some (.int t)], [], mHX L F g) out := by
  refine g_iload_n dL_act_29 rfl ?_
  refine g_bipushv (v := 15) dL_act_30 rfl ?_
  refine g_iand dL_act_32 ?_
  rw [e]
  exact g_tabIn (off := 67) (tgt := 100) dL_act_33 (by decide) (by decide) rfl (by decide) K
set_option maxHeartbeats 4000000 in
set_option maxRecDepth 100000 in
theorem act_s2 {L d : Nat} {F : Nat → Nat → Int32} {g : Nat → Option Nat} {out : mOut} {v w x t : Int32} (e : v &&& 15 = nI 2) (K : mGo ML_act (d + 5) (100, [some (.ref 4), some (.int v), some (.int w), some (.int x), some (.int t)], [], mHX L F g) out) : mGo ML_act (d + 5) (29, [some (.ref 4), some (.int v), some (.int w), some (.int x), some (.int t)], [], mHX L F g) out := by
  refine g_iload_n dL_act_29 rfl ?_
  refine g_bipushv (v := 15) dL_act_30 rfl ?_
  refine g_iand dL_act_32 ?_
  rw [e]
  exact g_tabIn (off := 67) (tgt := 100) dL_act_33 (by decide) (by decide) rfl (by decide) K
set_option maxHeartbeats 4000000 in
set_option maxRecDepth 100000 in
theorem act_s3 {L d : Nat} {F : Nat → Nat → Int32} {g : Nat → Option Nat} {out : mOut} {v w x t : Int32} (e : v &&& 15 = nI 3) (K : mGo ML_act (d + 5) (128, [some (.ref 4), some (.int v), some (.int w), some (.int x), some (.int t)], [], mHX L F g) out) : mGo ML_act (d + 5) (29, [some (.ref 4), some (.int v), some (.int w), some (.int x), some (.int t)], [], mHX L F g) out := by
  refine g_iload_n dL_act_29 rfl ?_
  refine g_bipushv (v := 15) dL_act_30 rfl ?_
  refine g_iand dL_act_32 ?_
  rw [e]
  exact g_tabIn (off := 95) (tgt := 128) dL_act_33 (by decide) (by decide) rfl (by decide) K
set_option maxHeartbeats 4000000 in
set_option maxRecDepth 100000 in
theorem act_s4 {L d : Nat} {F : Nat → Nat → Int32} {g : Nat → Option Nat} {out : mOut} {v w x t : Int32} (e : v &&& 15 = nI 4) (K : mGo ML_act (d + 5) (150, [some (.ref 4), some (.int v), some (.int w), some (.int x), some (.int t)], [], mHX L F g) out) : mGo ML_act (d + 5) (29, [some (.ref 4), some (.int v), some (.int w), some (.int x), some (.int t)], [], mHX L F g) out := by
  refine g_iload_n dL_act_29 rfl ?_
  refine g_bipushv (v := 15) dL_act_30 rfl ?_
  refine g_iand dL_act_32 ?_
  rw [e]
  exact g_tabIn (off := 117) (tgt := 150) dL_act_33 (by decide) (by decide) rfl (by decide) K
set_option maxHeartbeats 4000000 in
set_option maxRecDepth 100000 in
theorem act_s5 {L d : Nat} {F : Nat → Nat → Int32} {g : Nat → Option Nat} {out : mOut} {v w x t : Int32} (e : v &&& 15 = nI 5) (K : mGo ML_act (d + 5) (158, [some (.ref 4), some (.int v), some (.int w), some (.int x), some (.int t)], [], mHX L F g) out) : mGo ML_act (d + 5) (29, [some (.ref 4), some (.int v), some (.int w), some (.int x), some (.int t)], [], mHX L F g) out := by
  refine g_iload_n dL_act_29 rfl ?_
  refine g_bipushv (v := 15) dL_act_30 rfl ?_
  refine g_iand dL_act_32 ?_
  rw [e]
  exact g_tabIn (off := 125) (tgt := 158) dL_act_33 (by decide) (by decide) rfl (by decide) K
set_option maxHeartbeats 4000000 in
set_option maxRecDepth 100000 in
theorem act_s6 {L d : Nat} {F : Nat → Nat → Int32} {g : Nat → Option Nat} {out : mOut} {v w x t : Int32} (e : v &&& 15 = nI 6) (K : mGo ML_act (d + 5) (158, [some (.ref 4), some (.int v), some (.int w), some (.int x), some (.int t)], [], mHX L F g) out) : mGo ML_act (d + 5) (29, [some (.ref 4), some (.int v), some (.int w), some (.int x), some (.int t)], [], mHX L F g) out := by
  refine g_iload_n dL_act_29 rfl ?_
  refine g_bipushv (v := 15) dL_act_30 rfl ?_
  refine g_iand dL_act_32 ?_
  rw [e]
  exact g_tabIn (off := 125) (tgt := 158) dL_act_33 (by decide) (by decide) rfl (by decide) K
set_option maxHeartbeats 4000000 in
set_option maxRecDepth 100000 in
theorem act_s7 {L d : Nat} {F : Nat → Nat → Int32} {g : Nat → Option Nat} {out : mOut} {v w x t : Int32} (e : v &&& 15 = nI 7) (K : mGo ML_act (d + 5) (158, [some (.ref 4), some (.int v), some (.int w), some (.int x), some (.int t)], [], mHX L F g) out) : mGo ML_act (d + 5) (29, [some (.ref 4), some (.int v), some (.int w), some (.int x), some (.int t)], [], mHX L F g) out := by
  refine g_iload_n dL_act_29 rfl ?_
  refine g_bipushv (v := 15) dL_act_30 rfl ?_
  refine g_iand dL_act_32 ?_
  rw [e]
  exact g_tabIn (off := 125) (tgt := 158) dL_act_33 (by decide) (by decide) rfl (by decide) K
set_option maxHeartbeats 4000000 in
set_option maxRecDepth 100000 in
theorem act_s8 {L d : Nat} {F : Nat → Nat → Int32} {g : Nat → Option Nat} {out : mOut} {v w x t : Int32} (e : v &&& 15 = nI 8) (K : mGo ML_act (d + 5) (165, [some (.ref 4), some (.int v), some (.int w), some (.int x), some (.int t)], [], mHX L F g) out) : mGo ML_act (d + 5) (29, [some (.ref 4), some (.int v), some (.int w), some (.int x), some (.int t)], [], mHX L F g) out := by
  refine g_iload_n dL_act_29 rfl ?_
  refine g_bipushv (v := 15) dL_act_30 rfl ?_
  refine g_iand dL_act_32 ?_
  rw [e]
  exact g_tabIn (off := 132) (tgt := 165) dL_act_33 (by decide) (by decide) rfl (by decide) K
set_option maxHeartbeats 4000000 in
set_option maxRecDepth 100000 in
theorem act_s9 {L d : Nat} {F : Nat → Nat → Int32} {g : Nat → Option Nat} {out : mOut} {v w x t : Int32} (e : v &&& 15 = nI 9) (K : mGo ML_act (d + 5) (165, [some (.ref 4), some (.int v), some (.int w), some (.int x), some (.int t)], [], mHX L F g) out) : mGo ML_act (d + 5) (29, [some (.ref 4), some (.int v), some (.int w), some (.int x), some (.int t)], [], mHX L F g) out := by
  refine g_iload_n dL_act_29 rfl ?_
  refine g_bipushv (v := 15) dL_act_30 rfl ?_
  refine g_iand dL_act_32 ?_
  rw [e]
  exact g_tabIn (off := 132) (tgt := 165) dL_act_33 (by decide) (by decide) rfl (by decide) K
set_option maxHeartbeats 4000000 in
set_option maxRecDepth 100000 in
theorem act_s10 {L d : Nat} {F : Nat → Nat → Int32} {g : Nat → Option Nat} {out : mOut} {v w x t : Int32} (e : v &&& 15 = nI 10) (K : mGo ML_act (d + 5) (172, [some (.ref 4), some (.int v), some (.int w), some (.int x), some (.int t)], [], mHX L F g) out) : mGo ML_act (d + 5) (29, [some (.ref 4), some (.int v), some (.int w), some (.int x), some (.int t)], [], mHX L F g) out := by
  refine g_iload_n dL_act_29 rfl ?_
  refine g_bipushv (v := 15) dL_act_30 rfl ?_
  refine g_iand dL_act_32 ?_
  rw [e]
  exact g_tabIn (off := 139) (tgt := 172) dL_act_33 (by decide) (by decide) rfl (by decide) K
set_option maxHeartbeats 4000000 in
set_option maxRecDepth 100000 in
theorem act_s11 {L d : Nat} {F : Nat → Nat → Int32} {g : Nat → Option Nat} {out : mOut} {v w x t : Int32} (e : v &&& 15 = nI 11) (K : mGo ML_act (d + 5) (178, [some (.ref 4), some (.int v), some (.int w), some (.int x), some (.int t)], [], mHX L F g) out) : mGo ML_act (d + 5) (29, [some (.ref 4), some (.int v), some (.int w), some (.int x), some (.int t)], [], mHX L F g) out := by
  refine g_iload_n dL_act_29 rfl ?_
  refine g_bipushv (v := 15) dL_act_30 rfl ?_
  refine g_iand dL_act_32 ?_
  rw [e]
  exact g_tabIn (off := 145) (tgt := 178) dL_act_33 (by decide) (by decide) rfl (by decide) K
set_option maxHeartbeats 4000000 in
set_option maxRecDepth 100000 in
theorem act_s12 {L d : Nat} {F : Nat → Nat → Int32} {g : Nat → Option Nat} {out : mOut} {v w x t : Int32} (e : v &&& 15 = nI 12) (K : mGo ML_act (d + 5) (184, [some (.ref 4), some (.int v), some (.int w), some (.int x), some (.int t)], [], mHX L F g) out) : mGo ML_act (d + 5) (29, [some (.ref 4), some (.int v), some (.int w), some (.int x), some (.int t)], [], mHX L F g) out := by
  refine g_iload_n dL_act_29 rfl ?_
  refine g_bipushv (v := 15) dL_act_30 rfl ?_
  refine g_iand dL_act_32 ?_
  rw [e]
  exact g_tabIn (off := 151) (tgt := 184) dL_act_33 (by decide) (by decide) rfl (by decide) K
set_option maxHeartbeats 4000000 in
set_option maxRecDepth 100000 in
theorem act_s13 {L d : Nat} {F : Nat → Nat → Int32} {g : Nat → Option Nat} {out : mOut} {v w x t : Int32} (e : v &&& 15 = nI 13) (K : mGo ML_act (d + 5) (202, [some (.ref 4), some (.int v), some (.int w), some (.int x), some (.int t)], [], mHX L F g) out) : mGo ML_act (d + 5) (29, [some (.ref 4), some (.int v), some (.int w), some (.int x), some (.int t)], [], mHX L F g) out := by
  refine g_iload_n dL_act_29 rfl ?_
  refine g_bipushv (v := 15) dL_act_30 rfl ?_
  refine g_iand dL_act_32 ?_
  rw [e]
  exact g_tabOut (tgt := 202) dL_act_33 (by decide) (by decide) K
set_option maxHeartbeats 4000000 in
set_option maxRecDepth 100000 in
theorem act_s14 {L d : Nat} {F : Nat → Nat → Int32} {g : Nat → Option Nat} {out : mOut} {v w x t : Int32} (e : v &&& 15 = nI 14) (K : mGo ML_act (d + 5) (202, [some (.ref 4), some (.int v), some (.int w), some (.int x), some (.int t)], [], mHX L F g) out) : mGo ML_act (d + 5) (29, [some (.ref 4), some (.int v), some (.int w), some (.int x), some (.int t)], [], mHX L F g) out := by
  refine g_iload_n dL_act_29 rfl ?_
  refine g_bipushv (v := 15) dL_act_30 rfl ?_
  refine g_iand dL_act_32 ?_
  rw [e]
  exact g_tabOut (tgt := 202) dL_act_33 (by decide) (by decide) K
set_option maxHeartbeats 4000000 in
set_option maxRecDepth 100000 in
theorem act_s15 {L d : Nat} {F : Nat → Nat → Int32} {g : Nat → Option Nat} {out : mOut} {v w x t : Int32} (e : v &&& 15 = nI 15) (K : mGo ML_act (d + 5) (202, [some (.ref 4), some (.int v), some (.int w), some (.int x), some (.int t)], [], mHX L F g) out) : mGo ML_act (d + 5) (29, [some (.ref 4), some (.int v), some (.int w), some (.int x), some (.int t)], [], mHX L F g) out := by
  refine g_iload_n dL_act_29 rfl ?_
  refine g_bipushv (v := 15) dL_act_30 rfl ?_
  refine g_iand dL_act_32 ?_
  rw [e]
  exact g_tabOut (tgt := 202) dL_act_33 (by decide) (by decide) K
set_option maxHeartbeats 4000000 in
set_option maxRecDepth 100000 in
theorem act_g0 {L d : Nat} {F : Nat → Nat → Int32} {g : Nat → Option Nat} {v w x t : Int32} {r : Int32} {hp1 : mHp} (h : ((v >>> (19 &&& 31)) &&& 1) = 0) (H : mCall (d + 4) yX6_guest MX6_guest [.ref 4, .int t, .int (sLow (w >>> (3 &&& 31)) 3)] (mHX L F g) (some (.int r)) hp1) : mGo ML_act (d + 5) (100, [some (.ref 4), some (.int v), some (.int w), some (.int x), some (.int t)], [], mHX L F g) (some (.int r), hp1) := by
  refine g_aload_n dL_act_100 rfl ?_
  refine g_iload dL_act_101 rfl ?_
  refine g_iload_n dL_act_103 rfl ?_
  refine g_iconstv (v := 3) dL_act_104 rfl ?_
  refine g_ishr dL_act_105 ?_
  refine g_iload_n dL_act_106 rfl ?_
  refine g_bipushv (v := 19) dL_act_107 rfl ?_
  refine g_ishr dL_act_109 ?_
  refine g_iconstv (v := 1) dL_act_110 rfl ?_
  refine g_iand dL_act_111 ?_
  refine g_if_ne (tgt := 119) dL_act_112 (by decide) (fun c112 => absurd h c112) (fun c112 => ?_)
  refine g_iconstv (v := 3) dL_act_115 rfl ?_
  refine g_goto (tgt := 121) dL_act_116 (by decide) ?_
  refine g_S2i dL_act_121 ml_L_31 sL_low (Nat.le_of_ble_eq_true rfl) (c_low (d + 4) ((w >>> (3 &&& 31))) 3 (by decide)) ?_
  refine g_V2i dL_act_124 ml_L_36 sX6_guest rfl (by decide) (Nat.le_of_ble_eq_true rfl) (H) ?_
  exact g_iret dL_act_127 rfl
set_option maxHeartbeats 4000000 in
set_option maxRecDepth 100000 in
theorem act_g1 {L d : Nat} {F : Nat → Nat → Int32} {g : Nat → Option Nat} {v w x t : Int32} {r : Int32} {hp1 : mHp} (h : ¬ ((v >>> (19 &&& 31)) &&& 1) = 0) (H : mCall (d + 4) yX6_guest MX6_guest [.ref 4, .int t, .int (sLow (w >>> (3 &&& 31)) 11)] (mHX L F g) (some (.int r)) hp1) : mGo ML_act (d + 5) (100, [some (.ref 4), some (.int v), some (.int w), some (.int x), some (.int t)], [], mHX L F g) (some (.int r), hp1) := by
  refine g_aload_n dL_act_100 rfl ?_
  refine g_iload dL_act_101 rfl ?_
  refine g_iload_n dL_act_103 rfl ?_
  refine g_iconstv (v := 3) dL_act_104 rfl ?_
  refine g_ishr dL_act_105 ?_
  refine g_iload_n dL_act_106 rfl ?_
  refine g_bipushv (v := 19) dL_act_107 rfl ?_
  refine g_ishr dL_act_109 ?_
  refine g_iconstv (v := 1) dL_act_110 rfl ?_
  refine g_iand dL_act_111 ?_
  refine g_if_ne (tgt := 119) dL_act_112 (by decide) (fun c112 => ?_) (fun c112 => absurd c112 h)
  refine g_bipushv (v := 11) dL_act_119 rfl ?_
  refine g_S2i dL_act_121 ml_L_31 sL_low (Nat.le_of_ble_eq_true rfl) (c_low (d + 4) ((w >>> (3 &&& 31))) 11 (by decide)) ?_
  refine g_V2i dL_act_124 ml_L_36 sX6_guest rfl (by decide) (Nat.le_of_ble_eq_true rfl) (H) ?_
  exact g_iret dL_act_127 rfl
set_option maxHeartbeats 4000000 in
set_option maxRecDepth 100000 in
theorem act_r {L d : Nat} {F : Nat → Nat → Int32} {g : Nat → Option Nat} {v w x t : Int32} {r : Int32} {hp1 : mHp} (h : ¬ ((w >>> (5 &&& 31)) &&& 3) ≤ 0) (H : mCall (d + 4) yX6_restore MX6_restore [.ref 4, .int 0] (mHX L F g) (some (.int r)) hp1) : mGo ML_act (d + 5) (128, [some (.ref 4), some (.int v), some (.int w), some (.int x), some (.int t)], [], mHX L F g) (some (.int r), hp1) := by
  refine g_iload_n dL_act_128 rfl ?_
  refine g_iconstv (v := 5) dL_act_129 rfl ?_
  refine g_ishr dL_act_130 ?_
  refine g_iconstv (v := 3) dL_act_131 rfl ?_
  refine g_iand dL_act_132 ?_
  refine g_if_le (tgt := 144) dL_act_133 (by decide) (fun c133 => absurd c133 h) (fun c133 => ?_)
  refine g_aload_n dL_act_136 rfl ?_
  refine g_iconstv (v := 0) dL_act_137 rfl ?_
  refine g_V1i dL_act_138 ml_L_39 sX6_restore rfl (by decide) (Nat.le_of_ble_eq_true rfl) (H) ?_
  refine g_goto (tgt := 149) dL_act_141 (by decide) ?_
  exact g_iret dL_act_149 rfl
set_option maxHeartbeats 4000000 in
set_option maxRecDepth 100000 in
theorem act_l {L d : Nat} {F : Nat → Nat → Int32} {g : Nat → Option Nat} {v w x t : Int32} {r : Int32} {hp1 : mHp} (h : ((w >>> (5 &&& 31)) &&& 3) ≤ 0) (H : mCall (d + 4) yX6_leave MX6_leave [.ref 4, .int x] (mHX L F g) (some (.int r)) hp1) : mGo ML_act (d + 5) (128, [some (.ref 4), some (.int v), some (.int w), some (.int x), some (.int t)], [], mHX L F g) (some (.int r), hp1) := by
  refine g_iload_n dL_act_128 rfl ?_
  refine g_iconstv (v := 5) dL_act_129 rfl ?_
  refine g_ishr dL_act_130 ?_
  refine g_iconstv (v := 3) dL_act_131 rfl ?_
  refine g_iand dL_act_132 ?_
  refine g_if_le (tgt := 144) dL_act_133 (by decide) (fun c133 => ?_) (fun c133 => absurd h c133)
  refine g_aload_n dL_act_144 rfl ?_
  refine g_iload_n dL_act_145 rfl ?_
  refine g_V1i dL_act_146 ml_L_42 sX6_leave rfl (by decide) (Nat.le_of_ble_eq_true rfl) (H) ?_
  exact g_iret dL_act_149 rfl
set_option maxHeartbeats 4000000 in
set_option maxRecDepth 100000 in
theorem act_m {L d : Nat} {F : Nat → Nat → Int32} {g : Nat → Option Nat} {v w x t : Int32} {r : Int32} {hp1 : mHp}  (H : mCall (d + 4) yX6_move MX6_move [.ref 4, .int x, .int t] (mHX L F g) (some (.int r)) hp1) : mGo ML_act (d + 5) (150, [some (.ref 4), some (.int v), some (.int w), some (.int x), some (.int t)], [], mHX L F g) (some (.int r), hp1) := by
  refine g_aload_n dL_act_150 rfl ?_
  refine g_iload_n dL_act_151 rfl ?_
  refine g_iload dL_act_152 rfl ?_
  refine g_V2i dL_act_154 ml_L_45 sX6_move rfl (by decide) (Nat.le_of_ble_eq_true rfl) (H) ?_
  exact g_iret dL_act_157 rfl
set_option maxHeartbeats 4000000 in
set_option maxRecDepth 100000 in
theorem act_b {L d : Nat} {F : Nat → Nat → Int32} {g : Nat → Option Nat} {v w x t : Int32} {r : Int32} {hp1 : mHp}  (H : mCall (d + 4) yX6_pause MX6_pause [.ref 4, .int t] (mHX L F g) (some (.int r)) hp1) : mGo ML_act (d + 5) (158, [some (.ref 4), some (.int v), some (.int w), some (.int x), some (.int t)], [], mHX L F g) (some (.int r), hp1) := by
  refine g_aload_n dL_act_158 rfl ?_
  refine g_iload dL_act_159 rfl ?_
  refine g_V1i dL_act_161 ml_L_48 sX6_pause rfl (by decide) (Nat.le_of_ble_eq_true rfl) (H) ?_
  exact g_iret dL_act_164 rfl
set_option maxHeartbeats 4000000 in
set_option maxRecDepth 100000 in
theorem act_c {L d : Nat} {F : Nat → Nat → Int32} {g : Nat → Option Nat} {v w x t : Int32} {r : Int32} {hp1 : mHp}  (H : mCall (d + 4) yX6_close MX6_close [.ref 4, .int t] (mHX L F g) (some (.int r)) hp1) : mGo ML_act (d + 5) (165, [some (.ref 4), some (.int v), some (.int w), some (.int x), some (.int t)], [], mHX L F g) (some (.int r), hp1) := by
  refine g_aload_n dL_act_165 rfl ?_
  refine g_iload dL_act_166 rfl ?_
  refine g_V1i dL_act_168 ml_L_51 sX6_close rfl (by decide) (Nat.le_of_ble_eq_true rfl) (H) ?_
  exact g_iret dL_act_171 rfl
set_option maxHeartbeats 4000000 in
set_option maxRecDepth 100000 in
theorem act_w {L d : Nat} {F : Nat → Nat → Int32} {g : Nat → Option Nat} {v w x t : Int32} {r : Int32} {hp1 : mHp}  (H : mCall (d + 4) yX6_word MX6_word [.ref 4, .int x] (mHX L F g) (some (.int r)) hp1) : mGo ML_act (d + 5) (172, [some (.ref 4), some (.int v), some (.int w), some (.int x), some (.int t)], [], mHX L F g) (some (.int r), hp1) := by
  refine g_aload_n dL_act_172 rfl ?_
  refine g_iload_n dL_act_173 rfl ?_
  refine g_V1i dL_act_174 ml_L_54 sX6_word rfl (by decide) (Nat.le_of_ble_eq_true rfl) (H) ?_
  exact g_iret dL_act_177 rfl
set_option maxHeartbeats 4000000 in
set_option maxRecDepth 100000 in
theorem act_k {L d : Nat} {F : Nat → Nat → Int32} {g : Nat → Option Nat} {v w x t : Int32} {r : Int32} {hp1 : mHp}  (H : mCall (d + 4) yX6_cough MX6_cough [.ref 4, .int x] (mHX L F g) (some (.int r)) hp1) : mGo ML_act (d + 5) (178, [some (.ref 4), some (.int v), some (.int w), some (.int x), some (.int t)], [], mHX L F g) (some (.int r), hp1) := by
  refine g_aload_n dL_act_178 rfl ?_
  refine g_iload_n dL_act_179 rfl ?_
  refine g_V1i dL_act_180 ml_L_57 sX6_cough rfl (by decide) (Nat.le_of_ble_eq_true rfl) (H) ?_
  exact g_iret dL_act_183 rfl
set_option maxHeartbeats 4000000 in
set_option maxRecDepth 100000 in
theorem act_t {L d : Nat} {F : Nat → Nat → Int32} {g : Nat → Option Nat} {v w x t : Int32} {r : Int32} {hp1 : mHp}  (H : mCall (d + 4) yX6_set MX6_set [.ref 4, .int (sLow w 5), .int (sLow (w >>> (3 &&& 31)) 10)] (mHX L F g) (some (.int r)) hp1) : mGo ML_act (d + 5) (184, [some (.ref 4), some (.int v), some (.int w), some (.int x), some (.int t)], [], mHX L F g) (some (.int r), hp1) := by
  refine g_aload_n dL_act_184 rfl ?_
  refine g_iload_n dL_act_185 rfl ?_
  refine g_iconstv (v := 5) dL_act_186 rfl ?_
  refine g_S2i dL_act_187 ml_L_31 sL_low (Nat.le_of_ble_eq_true rfl) (c_low (d + 4) (w) 5 (by decide)) ?_
  refine g_iload_n dL_act_190 rfl ?_
  refine g_iconstv (v := 3) dL_act_191 rfl ?_
  refine g_ishr dL_act_192 ?_
  refine g_bipushv (v := 10) dL_act_193 rfl ?_
  refine g_S2i dL_act_195 ml_L_31 sL_low (Nat.le_of_ble_eq_true rfl) (c_low (d + 4) ((w >>> (3 &&& 31))) 10 (by decide)) ?_
  refine g_V2i dL_act_198 ml_L_60 sX6_set rfl (by decide) (Nat.le_of_ble_eq_true rfl) (H) ?_
  exact g_iret dL_act_201 rfl
set_option maxHeartbeats 4000000 in
set_option maxRecDepth 100000 in
theorem act_p0s {L d : Nat} {F : Nat → Nat → Int32} {g : Nat → Option Nat} {v w x t : Int32} {r : Int32} {hp1 : mHp} (h : ((v >>> (20 &&& 31)) &&& 1) = 0) (H : mCall (d + 4) yX6_pass MX6_pass [.ref 4, .int (sLow w 7)] (mHX L F g) (some (.int r)) hp1) : mGo ML_act (d + 5) (202, [some (.ref 4), some (.int v), some (.int w), some (.int x), some (.int t)], [], mHX L F g) (some (.int r), hp1) := by
  refine g_aload_n dL_act_202 rfl ?_
  refine g_iload_n dL_act_203 rfl ?_
  refine g_iload_n dL_act_204 rfl ?_
  refine g_bipushv (v := 20) dL_act_205 rfl ?_
  refine g_ishr dL_act_207 ?_
  refine g_iconstv (v := 1) dL_act_208 rfl ?_
  refine g_iand dL_act_209 ?_
  refine g_if_ne (tgt := 218) dL_act_210 (by decide) (fun c210 => absurd h c210) (fun c210 => ?_)
  refine g_bipushv (v := 7) dL_act_213 rfl ?_
  refine g_goto (tgt := 220) dL_act_215 (by decide) ?_
  refine g_S2i dL_act_220 ml_L_31 sL_low (Nat.le_of_ble_eq_true rfl) (c_low (d + 4) (w) 7 (by decide)) ?_
  refine g_V1i dL_act_223 ml_L_63 sX6_pass rfl (by decide) (Nat.le_of_ble_eq_true rfl) (H) ?_
  exact g_iret dL_act_226 rfl
set_option maxHeartbeats 4000000 in
set_option maxRecDepth 100000 in
theorem act_p1s {L d : Nat} {F : Nat → Nat → Int32} {g : Nat → Option Nat} {v w x t : Int32} {r : Int32} {hp1 : mHp} (h : ¬ ((v >>> (20 &&& 31)) &&& 1) = 0) (H : mCall (d + 4) yX6_pass MX6_pass [.ref 4, .int (sLow w 101)] (mHX L F g) (some (.int r)) hp1) : mGo ML_act (d + 5) (202, [some (.ref 4), some (.int v), some (.int w), some (.int x), some (.int t)], [], mHX L F g) (some (.int r), hp1) := by
  refine g_aload_n dL_act_202 rfl ?_
  refine g_iload_n dL_act_203 rfl ?_
  refine g_iload_n dL_act_204 rfl ?_
  refine g_bipushv (v := 20) dL_act_205 rfl ?_
  refine g_ishr dL_act_207 ?_
  refine g_iconstv (v := 1) dL_act_208 rfl ?_
  refine g_iand dL_act_209 ?_
  refine g_if_ne (tgt := 218) dL_act_210 (by decide) (fun c210 => ?_) (fun c210 => absurd c210 h)
  refine g_bipushv (v := 101) dL_act_218 rfl ?_
  refine g_S2i dL_act_220 ml_L_31 sL_low (Nat.le_of_ble_eq_true rfl) (c_low (d + 4) (w) 101 (by decide)) ?_
  refine g_V1i dL_act_223 ml_L_63 sX6_pass rfl (by decide) (Nat.le_of_ble_eq_true rfl) (H) ?_
  exact g_iret dL_act_226 rfl
theorem ac_lift {B d : Nat} {y : MethodName} {M : mM} {as : List Value} {F : Nat → Nat → Int32} {v w : Int32} (hA : AC B (d + 4) y M as F) (hK : ∀ (L : Nat) (A : Nat → Nat → Int32) (g : Nat → Option Nat) (r : Int32) (hp1 : mHp), mCall (d + 4) y M as (mHX L A g) (some (.int r)) hp1 → mGo ML_act (d + 5) (29, [some (.ref 4), some (.int v), some (.int w), some (.int (aX v)), some (.int (aT v w))], [], mHX L A g) (some (.int r), hp1)) : AC B (d + 5) yL_act ML_act [.ref 4, .int v, .int w] F := by
  obtain ⟨r, G, h1, h2, h3, h4⟩ := hA
  refine ⟨r, G, fun L Z g k π hs => ?_, h2, h3, h4⟩
  obtain ⟨Z1, g1, π1, H, rest⟩ := h1 L Z g k π hs
  exact ⟨Z1, g1, π1, act_of (hK L _ g r _ H), rest⟩
theorem ac_act {B d : Nat} {X : Nat → Int32} {F : Nat → Nat → Int32} (hB : B ≤ 1000) (h : IN B X F) (v w : Int32) : AC B (d + 5) yL_act ML_act [.ref 4, .int v, .int w] F := by
  obtain ⟨-, h2, h3, h4, hI, hS⟩ := h
  obtain ⟨j, hj, e⟩ := pk_andE v (m := 15) 4 (by decide)
  have hj2 : j < 16 := hj
  rcases (by omega : j = 0 ∨ j = 1 ∨ j = 2 ∨ j = 3 ∨ j = 4 ∨ j = 5 ∨ j = 6 ∨ j = 7 ∨ j = 8 ∨ j = 9 ∨ j = 10 ∨ j = 11 ∨ j = 12 ∨ j = 13 ∨ j = 14 ∨ j = 15) with rfl | rfl | rfl | rfl | rfl | rfl | rfl | rfl | rfl | rfl | rfl | rfl | rfl | rfl | rfl | rfl
  · by_cases c : ((v >>> (19 &&& 31)) &&& 1) = 0
    · exact ac_lift (ac_of (d := d) (cw_guest (aT v w) (sLow (w >>> (3 &&& 31)) 3)) (oe_guest hI (aT v w) (sLow (w >>> (3 &&& 31)) 3))) (fun L A g r hp1 H => act_s0 e (act_g0 c H))
    · exact ac_lift (ac_of (d := d) (cw_guest (aT v w) (sLow (w >>> (3 &&& 31)) 11)) (oe_guest hI (aT v w) (sLow (w >>> (3 &&& 31)) 11))) (fun L A g r hp1 H => act_s0 e (act_g1 c H))
  · by_cases c : ((v >>> (19 &&& 31)) &&& 1) = 0
    · exact ac_lift (ac_of (d := d) (cw_guest (aT v w) (sLow (w >>> (3 &&& 31)) 3)) (oe_guest hI (aT v w) (sLow (w >>> (3 &&& 31)) 3))) (fun L A g r hp1 H => act_s1 e (act_g0 c H))
    · exact ac_lift (ac_of (d := d) (cw_guest (aT v w) (sLow (w >>> (3 &&& 31)) 11)) (oe_guest hI (aT v w) (sLow (w >>> (3 &&& 31)) 11))) (fun L A g r hp1 H => act_s1 e (act_g1 c H))
  · by_cases c : ((v >>> (19 &&& 31)) &&& 1) = 0
    · exact ac_lift (ac_of (d := d) (cw_guest (aT v w) (sLow (w >>> (3 &&& 31)) 3)) (oe_guest hI (aT v w) (sLow (w >>> (3 &&& 31)) 3))) (fun L A g r hp1 H => act_s2 e (act_g0 c H))
    · exact ac_lift (ac_of (d := d) (cw_guest (aT v w) (sLow (w >>> (3 &&& 31)) 11)) (oe_guest hI (aT v w) (sLow (w >>> (3 &&& 31)) 11))) (fun L A g r hp1 H => act_s2 e (act_g1 c H))
  · by_cases c : ((w >>> (5 &&& 31)) &&& 3) ≤ 0
    · exact ac_lift (ac_of (d := d) (cw_leave (aX v)) (oe_leave hI (aX v))) (fun L A g r hp1 H => act_s3 e (act_l c H))
    · exact ac_lift (ac_of (d := d) (cw_restore 0) (oe_restore hI h4 hS)) (fun L A g r hp1 H => act_s3 e (act_r c H))
  · exact ac_lift (ac_of (d := d) (cw_move (aX v) (aT v w)) (oe_move hI (aX v) (aT v w))) (fun L A g r hp1 H => act_s4 e (act_m H))
  · exact ac_lift (ac_of (d := d) (cw_pause (aT v w)) (oe_pause hI (aT v w))) (fun L A g r hp1 H => act_s5 e (act_b H))
  · exact ac_lift (ac_of (d := d) (cw_pause (aT v w)) (oe_pause hI (aT v w))) (fun L A g r hp1 H => act_s6 e (act_b H))
  · exact ac_lift (ac_of (d := d) (cw_pause (aT v w)) (oe_pause hI (aT v w))) (fun L A g r hp1 H => act_s7 e (act_b H))
  · exact ac_lift (ac_of (d := d) (cw_close (aT v w)) (oe_close hB h3 hI (aT v w))) (fun L A g r hp1 H => act_s8 e (act_c H))
  · exact ac_lift (ac_of (d := d) (cw_close (aT v w)) (oe_close hB h3 hI (aT v w))) (fun L A g r hp1 H => act_s9 e (act_c H))
  · exact ac_lift (ac_of (d := d) (cw_word (aX v)) (ob_oe (ob_word hB hI (aX v)))) (fun L A g r hp1 H => act_s10 e (act_w H))
  · exact ac_lift (ac_of (d := d) (cw_cough (aX v)) (ob_oe (ob_cough hI (aX v)))) (fun L A g r hp1 H => act_s11 e (act_k H))
  · exact ac_lift (ac_of (d := d) (cw_set (sLow w 5) (sLow (w >>> (3 &&& 31)) 10)) (oe_set h2 hI (sLow w 5) (sLow (w >>> (3 &&& 31)) 10))) (fun L A g r hp1 H => act_s12 e (act_t H))
  · by_cases c : ((v >>> (20 &&& 31)) &&& 1) = 0
    · exact ac_lift (ac_of (d := d) (cw_pass (sLow w 7)) (oe_pass h3 hI (sLow w 7))) (fun L A g r hp1 H => act_s13 e (act_p0s c H))
    · exact ac_lift (ac_of (d := d) (cw_pass (sLow w 101)) (oe_pass h3 hI (sLow w 101))) (fun L A g r hp1 H => act_s13 e (act_p1s c H))
  · by_cases c : ((v >>> (20 &&& 31)) &&& 1) = 0
    · exact ac_lift (ac_of (d := d) (cw_pass (sLow w 7)) (oe_pass h3 hI (sLow w 7))) (fun L A g r hp1 H => act_s14 e (act_p0s c H))
    · exact ac_lift (ac_of (d := d) (cw_pass (sLow w 101)) (oe_pass h3 hI (sLow w 101))) (fun L A g r hp1 H => act_s14 e (act_p1s c H))
  · by_cases c : ((v >>> (20 &&& 31)) &&& 1) = 0
    · exact ac_lift (ac_of (d := d) (cw_pass (sLow w 7)) (oe_pass h3 hI (sLow w 7))) (fun L A g r hp1 H => act_s15 e (act_p0s c H))
    · exact ac_lift (ac_of (d := d) (cw_pass (sLow w 101)) (oe_pass h3 hI (sLow w 101))) (fun L A g r hp1 H => act_s15 e (act_p1s c H))
