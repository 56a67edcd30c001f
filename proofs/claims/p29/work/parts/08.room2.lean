def mFS (j : Nat) : Int32 := ([3, 4, 2, 1] : List Int32).getD j 0
def mHS (j : Nat) : Int32 := ([20, 20, 9, 9] : List Int32).getD j 0
def mMB (j : Nat) : Int32 := ([0, 0, 0, 0, 1, 1, 2, 2, 3, 4, 5, 5, 6, 7, 7, 8, 9, 9, 10, 11] : List Int32).getD j 0
def sBeg (S : Nat → Int32) (x : Int32) : Int32 := S 0 + x * S 1
def sShade (S : Nat → Int32) (s : Int32) : Nat := if s < sBeg S 3 then (if s < sBeg S 2 then (if s < sBeg S 1 then 0 else 1) else 2) else 3
def sMean (S : Nat → Int32) (c : Nat) (s : Int32) : Int32 := if S 0 ≤ s then mMB (c * 4 + sShade S s) else 0
theorem sShade_le (S : Nat → Int32) (s : Int32) : sShade S s ≤ 3 := by
  unfold sShade
  repeat' split
  all_goals omega
theorem m_ix (c : Nat) (k : Nat) : nI c * 4 + nI k = nI (c * 4 + k) := by
  rw [show (4 : Int32) = nI 4 from rfl, pk_mul, nI_add]
set_option maxHeartbeats 4000000 in
set_option maxRecDepth 100000 in
theorem c_begShade {L : Nat} {F : Nat → Nat → Int32} {g : Nat → Option Nat} (d : Nat) (x : Int32) : mCall (d) yX4_beginOfShade MX4_beginOfShade [.ref 5, .int x] (mHX L F g) (some (.int (sBeg (F 6) x))) (mHX L F g) := by
  refine mCall_of sX4_beginOfShade.1 (Nat.le_of_ble_eq_true rfl) ⟨_, rfl, rfl⟩ ?_
  show mGo _ _ (0, [some (.ref 5), some (.int x)], [], _) _
  refine g_aload_n dX4_beginOfShade_0 rfl ?_
  refine g_gR (r := 6) dX4_beginOfShade_1 fl_X4_24 (fun _ _ => rfl) rfl (by decide) rfl ?_
  refine g_iconstv (v := 0) dX4_beginOfShade_4 rfl ?_
  refine g_ialdN (gx := 0) dX4_beginOfShade_5 rfl (by decide) rfl (by omega) (by decide) ?_
  refine g_iload_n dX4_beginOfShade_6 rfl ?_
  refine g_aload_n dX4_beginOfShade_7 rfl ?_
  refine g_gR (r := 6) dX4_beginOfShade_8 fl_X4_24 (fun _ _ => rfl) rfl (by decide) rfl ?_
  refine g_iconstv (v := 1) dX4_beginOfShade_11 rfl ?_
  refine g_ialdN (gx := 1) dX4_beginOfShade_12 rfl (by decide) rfl (by omega) (by decide) ?_
  refine g_imul dX4_beginOfShade_13 ?_
  refine g_iadd dX4_beginOfShade_14 ?_
  exact g_iret dX4_beginOfShade_15 rfl
set_option maxHeartbeats 4000000 in
set_option maxRecDepth 100000 in
theorem lp_mf4 {L : Nat} {F : Nat → Nat → Int32} {g : Nat → Option Nat} (d : Nat) (c : Nat) (hc : c ≤ 4) (h3 : F 3 = mMB) (s : Int32) (k : Nat) (hk : k ≤ 3) : mGo MX4_meaningFor (d + 1) (17, [some (.ref 5), some (.int (nI c)), some (.int s), some (.int (nI k)), some (.int 4)], [], mHX L F g) (some (.int (mMB (c * 4 + k))), mHX L F g) := by
  refine g_iload dX4_meaningFor_17 rfl ?_
  refine g_iconstv (v := 4) dX4_meaningFor_19 rfl ?_
  refine g_icmp_ge (tgt := 42) dX4_meaningFor_20 (by decide) (fun c20 => ?_) (fun c20 => absurd (by decide) c20)
  refine g_gets (j := 2) dX4_meaningFor_42 sl_X4_136 (by decide) ?_
  refine g_iload_n dX4_meaningFor_45 rfl ?_
  refine g_iconstv (v := 4) dX4_meaningFor_46 rfl ?_
  refine g_imul dX4_meaningFor_47 ?_
  refine g_iload_n dX4_meaningFor_48 rfl ?_
  refine g_iadd dX4_meaningFor_49 ?_
  refine g_saldN (gx := (c * 4 + k)) dX4_meaningFor_50 rfl (by decide) (m_ix c k) (by omega) (by decide) ?_
  exact g_iret dX4_meaningFor_51 (m_ret (by show mMB _ = F 3 _; rw [h3]))
set_option maxHeartbeats 4000000 in
set_option maxRecDepth 100000 in
theorem lp_mf3 {L : Nat} {F : Nat → Nat → Int32} {g : Nat → Option Nat} (d : Nat) (c : Nat) (hc : c ≤ 4) (h3 : F 3 = mMB) (s : Int32) (k : Nat) (hk : k ≤ 3) : mGo MX4_meaningFor (d + 1) (17, [some (.ref 5), some (.int (nI c)), some (.int s), some (.int (nI k)), some (.int 3)], [], mHX L F g) (some (.int (mMB (c * 4 + (if s < sBeg (F 6) 3 then k else 3)))), mHX L F g) := by
  refine g_iload dX4_meaningFor_17 rfl ?_
  refine g_iconstv (v := 4) dX4_meaningFor_19 rfl ?_
  refine g_icmp_ge (tgt := 42) dX4_meaningFor_20 (by decide) (fun c20 => absurd c20 (by decide)) (fun c20 => ?_)
  refine g_iload_n dX4_meaningFor_23 rfl ?_
  refine g_aload_n dX4_meaningFor_24 rfl ?_
  refine g_iload dX4_meaningFor_25 rfl ?_
  refine g_V1i dX4_meaningFor_27 ml_X4_133 sX4_beginOfShade rfl (by decide) (Nat.le_of_ble_eq_true rfl) (c_begShade d 3) ?_
  refine g_icmp_lt (tgt := 36) dX4_meaningFor_30 (by decide) (fun c30 => ?_) (fun c30 => ?_)
  · skip
    refine g_iincv (v := 4) dX4_meaningFor_36 rfl rfl (by decide) rfl ?_
    refine g_goto (tgt := 17) dX4_meaningFor_39 (by decide) ?_
    have e9 := lp_mf4 (g := g) (L := L) d c hc h3 s k hk
    simp only [c30, if_true, if_false, reduceIte]
    exact e9
  · skip
    refine g_iload dX4_meaningFor_33 rfl ?_
    refine g_istore_n dX4_meaningFor_35 (by decide) rfl ?_
    refine g_iincv (v := 4) dX4_meaningFor_36 rfl rfl (by decide) rfl ?_
    refine g_goto (tgt := 17) dX4_meaningFor_39 (by decide) ?_
    have e9 := lp_mf4 (g := g) (L := L) d c hc h3 s 3 (by decide)
    simp only [c30, if_true, if_false, reduceIte]
    exact e9
set_option maxHeartbeats 4000000 in
set_option maxRecDepth 100000 in
theorem lp_mf2 {L : Nat} {F : Nat → Nat → Int32} {g : Nat → Option Nat} (d : Nat) (c : Nat) (hc : c ≤ 4) (h3 : F 3 = mMB) (s : Int32) (k : Nat) (hk : k ≤ 3) : mGo MX4_meaningFor (d + 1) (17, [some (.ref 5), some (.int (nI c)), some (.int s), some (.int (nI k)), some (.int 2)], [], mHX L F g) (some (.int (mMB (c * 4 + (if s < sBeg (F 6) 3 then (if s < sBeg (F 6) 2 then k else 2) else 3)))), mHX L F g) := by
  refine g_iload dX4_meaningFor_17 rfl ?_
  refine g_iconstv (v := 4) dX4_meaningFor_19 rfl ?_
  refine g_icmp_ge (tgt := 42) dX4_meaningFor_20 (by decide) (fun c20 => absurd c20 (by decide)) (fun c20 => ?_)
  refine g_iload_n dX4_meaningFor_23 rfl ?_
  refine g_aload_n dX4_meaningFor_24 rfl ?_
  refine g_iload dX4_meaningFor_25 rfl ?_
  refine g_V1i dX4_meaningFor_27 ml_X4_133 sX4_beginOfShade rfl (by decide) (Nat.le_of_ble_eq_true rfl) (c_begShade d 2) ?_
  refine g_icmp_lt (tgt := 36) dX4_meaningFor_30 (by decide) (fun c30 => ?_) (fun c30 => ?_)
  · skip
    refine g_iincv (v := 3) dX4_meaningFor_36 rfl rfl (by decide) rfl ?_
    refine g_goto (tgt := 17) dX4_meaningFor_39 (by decide) ?_
    have e9 := lp_mf3 (g := g) (L := L) d c hc h3 s k hk
    simp only [c30, if_true, if_false, reduceIte]
    exact e9
  · skip
    refine g_iload dX4_meaningFor_33 rfl ?_
    refine g_istore_n dX4_meaningFor_35 (by decide) rfl ?_
    refine g_iincv (v := 3) dX4_meaningFor_36 rfl rfl (by decide) rfl ?_
    refine g_goto (tgt := 17) dX4_meaningFor_39 (by decide) ?_
    have e9 := lp_mf3 (g := g) (L := L) d c hc h3 s 2 (by decide)
    simp only [c30, if_true, if_false, reduceIte]
    exact e9
set_option maxHeartbeats 4000000 in
set_option maxRecDepth 100000 in
theorem lp_mf1 {L : Nat} {F : Nat → Nat → Int32} {g : Nat → Option Nat} (d : Nat) (c : Nat) (hc : c ≤ 4) (h3 : F 3 = mMB) (s : Int32) (k : Nat) (hk : k ≤ 3) : mGo MX4_meaningFor (d + 1) (17, [some (.ref 5), some (.int (nI c)), some (.int s), some (.int (nI k)), some (.int 1)], [], mHX L F g) (some (.int (mMB (c * 4 + (if s < sBeg (F 6) 3 then (if s < sBeg (F 6) 2 then (if s < sBeg (F 6) 1 then k else 1) else 2) else 3)))), mHX L F g) := by
  refine g_iload dX4_meaningFor_17 rfl ?_
  refine g_iconstv (v := 4) dX4_meaningFor_19 rfl ?_
  refine g_icmp_ge (tgt := 42) dX4_meaningFor_20 (by decide) (fun c20 => absurd c20 (by decide)) (fun c20 => ?_)
  refine g_iload_n dX4_meaningFor_23 rfl ?_
  refine g_aload_n dX4_meaningFor_24 rfl ?_
  refine g_iload dX4_meaningFor_25 rfl ?_
  refine g_V1i dX4_meaningFor_27 ml_X4_133 sX4_beginOfShade rfl (by decide) (Nat.le_of_ble_eq_true rfl) (c_begShade d 1) ?_
  refine g_icmp_lt (tgt := 36) dX4_meaningFor_30 (by decide) (fun c30 => ?_) (fun c30 => ?_)
  · skip
    refine g_iincv (v := 2) dX4_meaningFor_36 rfl rfl (by decide) rfl ?_
    refine g_goto (tgt := 17) dX4_meaningFor_39 (by decide) ?_
    have e9 := lp_mf2 (g := g) (L := L) d c hc h3 s k hk
    simp only [c30, if_true, if_false, reduceIte]
    exact e9
  · skip
    refine g_iload dX4_meaningFor_33 rfl ?_
    refine g_istore_n dX4_meaningFor_35 (by decide) rfl ?_
    refine g_iincv (v := 2) dX4_meaningFor_36 rfl rfl (by decide) rfl ?_
    refine g_goto (tgt := 17) dX4_meaningFor_39 (by decide) ?_
    have e9 := lp_mf2 (g := g) (L := L) d c hc h3 s 1 (by decide)
    simp only [c30, if_true, if_false, reduceIte]
    exact e9
set_option maxHeartbeats 4000000 in
set_option maxRecDepth 100000 in
theorem c_mf_lo {L : Nat} {F : Nat → Nat → Int32} {g : Nat → Option Nat} (d : Nat) (c : Nat) (hc : c ≤ 4) (h3 : F 3 = mMB) (s : Int32) (hs : ¬ F 6 0 ≤ s) : mCall (d + 1) yX4_meaningFor MX4_meaningFor [.ref 5, .int (nI c), .int s] (mHX L F g) (some (.int (sMean (F 6) c s))) (mHX L F g) := by
  refine mCall_of sX4_meaningFor.1 (Nat.le_of_ble_eq_true rfl) ⟨_, rfl, rfl⟩ ?_
  show mGo _ _ (0, [some (.ref 5), some (.int (nI c)), some (.int s), none, none], [], _) _
  refine g_iload_n dX4_meaningFor_0 rfl ?_
  refine g_aload_n dX4_meaningFor_1 rfl ?_
  refine g_gR (r := 6) dX4_meaningFor_2 fl_X4_24 (fun _ _ => rfl) rfl (by decide) rfl ?_
  refine g_iconstv (v := 0) dX4_meaningFor_5 rfl ?_
  refine g_ialdN (gx := 0) dX4_meaningFor_6 rfl (by decide) rfl (by omega) (by decide) ?_
  refine g_icmp_ge (tgt := 12) dX4_meaningFor_7 (by decide) (fun c7 => absurd c7 hs) (fun c7 => ?_)
  refine g_iconstv (v := 0) dX4_meaningFor_10 rfl ?_
  exact g_iret dX4_meaningFor_11 (m_ret (by simp only [sMean, hs, if_true, if_false, reduceIte, eq_self]))
set_option maxHeartbeats 4000000 in
set_option maxRecDepth 100000 in
theorem c_mf_hi {L : Nat} {F : Nat → Nat → Int32} {g : Nat → Option Nat} (d : Nat) (c : Nat) (hc : c ≤ 4) (h3 : F 3 = mMB) (s : Int32) (hs : F 6 0 ≤ s) : mCall (d + 1) yX4_meaningFor MX4_meaningFor [.ref 5, .int (nI c), .int s] (mHX L F g) (some (.int (sMean (F 6) c s))) (mHX L F g) := by
  refine mCall_of sX4_meaningFor.1 (Nat.le_of_ble_eq_true rfl) ⟨_, rfl, rfl⟩ ?_
  show mGo _ _ (0, [some (.ref 5), some (.int (nI c)), some (.int s), none, none], [], _) _
  have e0 : sMean (F 6) c s = mMB (c * 4 + sShade (F 6) s) := if_pos hs
  rw [e0]
  refine g_iload_n dX4_meaningFor_0 rfl ?_
  refine g_aload_n dX4_meaningFor_1 rfl ?_
  refine g_gR (r := 6) dX4_meaningFor_2 fl_X4_24 (fun _ _ => rfl) rfl (by decide) rfl ?_
  refine g_iconstv (v := 0) dX4_meaningFor_5 rfl ?_
  refine g_ialdN (gx := 0) dX4_meaningFor_6 rfl (by decide) rfl (by omega) (by decide) ?_
  refine g_icmp_ge (tgt := 12) dX4_meaningFor_7 (by decide) (fun c7 => ?_) (fun c7 => absurd hs c7)
  refine g_iconstv (v := 0) dX4_meaningFor_12 rfl ?_
  refine g_istore_n dX4_meaningFor_13 (by decide) rfl ?_
  refine g_iconstv (v := 1) dX4_meaningFor_14 rfl ?_
  refine g_istore dX4_meaningFor_15 (by decide) rfl ?_
  exact lp_mf1 d c hc h3 s 0 (by decide)
theorem c_meaningFor {L : Nat} {F : Nat → Nat → Int32} {g : Nat → Option Nat} (d : Nat) (c : Nat) (hc : c ≤ 4) (h3 : F 3 = mMB) (s : Int32) : mCall (d + 1) yX4_meaningFor MX4_meaningFor [.ref 5, .int (nI c), .int s] (mHX L F g) (some (.int (sMean (F 6) c s))) (mHX L F g) := by
  by_cases hs : F 6 0 ≤ s
  · exact c_mf_hi d c hc h3 s hs
  · exact c_mf_lo d c hc h3 s hs
set_option maxHeartbeats 4000000 in
set_option maxRecDepth 100000 in
theorem c_meaningNow {L : Nat} {F : Nat → Nat → Int32} {g : Nat → Option Nat} (d : Nat) (n : Nat) (hn : F 7 0 = nI n) (h10 : n ≤ 10) (h3 : F 3 = mMB) (t : Nat) (ht : t < 3) (ab : Int32) (c : Nat) (hc : c ≤ 4) (ec : sComp (F 8) (F 9) (nI t) ab n = nI c) : mCall (d + 2) yX4_meaningNow MX4_meaningNow [.ref 5, .int (nI t), .int ab] (mHX L F g) (some (.int (sMean (F 6) c (F 19 t)))) (mHX L F g) := by
  refine mCall_of sX4_meaningNow.1 (Nat.le_of_ble_eq_true rfl) ⟨_, rfl, rfl⟩ ?_
  show mGo _ _ (0, [some (.ref 5), some (.int (nI t)), some (.int ab)], [], _) _
  refine g_aload_n dX4_meaningNow_0 rfl ?_
  refine g_aload_n dX4_meaningNow_1 rfl ?_
  refine g_gR (r := 7) dX4_meaningNow_2 fl_X4_30 (fun _ _ => rfl) rfl (by decide) rfl ?_
  refine g_iload_n dX4_meaningNow_5 rfl ?_
  refine g_iload_n dX4_meaningNow_6 rfl ?_
  refine g_V2i dX4_meaningNow_7 ml_X4_90 sX0_companyOf rfl (by decide) (Nat.le_of_ble_eq_true rfl) (c_companyOf (d + 1) n hn h10 (nI t) ab) ?_
  rw [ec]
  refine g_aload_n dX4_meaningNow_10 rfl ?_
  refine g_gR (r := 19) dX4_meaningNow_11 fl_X4_41 (fun _ _ => rfl) rfl (by decide) rfl ?_
  refine g_iload_n dX4_meaningNow_14 rfl ?_
  refine g_ialdN (gx := t) dX4_meaningNow_15 rfl (by decide) rfl (by omega) (by decide) ?_
  refine g_V2i dX4_meaningNow_16 ml_X4_130 sX4_meaningFor rfl (by decide) (Nat.le_of_ble_eq_true rfl) (c_meaningFor d c hc h3 (F 19 t)) ?_
  exact g_iret dX4_meaningNow_19 rfl
set_option maxHeartbeats 4000000 in
set_option maxRecDepth 100000 in
theorem c_drop_0 {L : Nat} {F : Nat → Nat → Int32} {g : Nat → Option Nat} (d : Nat) (n : Nat) (hn : F 7 0 = nI n) (h10 : n ≤ 10) (t : Nat) (ht : t < 3) (h0 : sSet (F 8) (nI t) n = 0) : mCall (d + 1) yX4_dropPauseOfNobody MX4_dropPauseOfNobody [.ref 5, .int (nI t)] (mHX L F g) (none) (mHX L (pe F 19 t (-6)) g) := by
  refine mCall_of sX4_dropPauseOfNobody.1 (Nat.le_of_ble_eq_true rfl) rfl ?_
  show mGo _ _ (0, [some (.ref 5), some (.int (nI t))], [], _) _
  refine g_aload_n dX4_dropPauseOfNobody_0 rfl ?_
  refine g_gR (r := 7) dX4_dropPauseOfNobody_1 fl_X4_30 (fun _ _ => rfl) rfl (by decide) rfl ?_
  refine g_iload_n dX4_dropPauseOfNobody_4 rfl ?_
  refine g_V1i dX4_dropPauseOfNobody_5 ml_X4_81 sX0_setAt rfl (by decide) (Nat.le_of_ble_eq_true rfl) (c_setAt d n hn h10 (nI t)) ?_
  refine g_if_ne (tgt := 19) dX4_dropPauseOfNobody_8 (by decide) (fun c8 => absurd h0 c8) (fun c8 => ?_)
  refine g_aload_n dX4_dropPauseOfNobody_11 rfl ?_
  refine g_gR (r := 19) dX4_dropPauseOfNobody_12 fl_X4_41 (fun _ _ => rfl) rfl (by decide) rfl ?_
  refine g_iload_n dX4_dropPauseOfNobody_15 rfl ?_
  refine g_bipushv (v := (-6)) dX4_dropPauseOfNobody_16 rfl ?_
  refine g_iastN (gx := t) dX4_dropPauseOfNobody_18 rfl (by decide) rfl (by omega) (by decide) ?_
  exact g_vret dX4_dropPauseOfNobody_19 rfl
set_option maxHeartbeats 4000000 in
set_option maxRecDepth 100000 in
theorem c_drop_n {L : Nat} {F : Nat → Nat → Int32} {g : Nat → Option Nat} (d : Nat) (n : Nat) (hn : F 7 0 = nI n) (h10 : n ≤ 10) (t : Nat) (ht : t < 3) (h0 : ¬ sSet (F 8) (nI t) n = 0) : mCall (d + 1) yX4_dropPauseOfNobody MX4_dropPauseOfNobody [.ref 5, .int (nI t)] (mHX L F g) (none) (mHX L F g) := by
  refine mCall_of sX4_dropPauseOfNobody.1 (Nat.le_of_ble_eq_true rfl) rfl ?_
  show mGo _ _ (0, [some (.ref 5), some (.int (nI t))], [], _) _
  refine g_aload_n dX4_dropPauseOfNobody_0 rfl ?_
  refine g_gR (r := 7) dX4_dropPauseOfNobody_1 fl_X4_30 (fun _ _ => rfl) rfl (by decide) rfl ?_
  refine g_iload_n dX4_dropPauseOfNobody_4 rfl ?_
  refine g_V1i dX4_dropPauseOfNobody_5 ml_X4_81 sX0_setAt rfl (by decide) (Nat.le_of_ble_eq_true rfl) (c_setAt d n hn h10 (nI t)) ?_
  refine g_if_ne (tgt := 19) dX4_dropPauseOfNobody_8 (by decide) (fun c8 => ?_) (fun c8 => absurd c8 h0)
  exact g_vret dX4_dropPauseOfNobody_19 rfl
def xEnd (F : Nat → Nat → Int32) (h t : Nat) (m w : Int32) : Nat → Nat → Int32 := (pe (pe (xTell F h (nI t) (F 19 t) m w) 20 t (((xTell F h (nI t) (F 19 t) m w) 20 t) + 1)) 19 t (-6))
set_option maxHeartbeats 4000000 in
set_option maxRecDepth 100000 in
theorem c_endPause {L : Nat} {F : Nat → Nat → Int32} {g : Nat → Option Nat} (d : Nat) (h : Nat) (hh : h < 3) (t : Nat) (ht : t < 3) (m w : Int32) : mCall (d + 2) yX4_endPause MX4_endPause [.ref 5, .int (nI h), .int (nI t), .int m, .int w] (mHX L F g) (none) (mHX L (xEnd F h t m w) g) := by
  refine mCall_of sX4_endPause.1 (Nat.le_of_ble_eq_true rfl) rfl ?_
  show mGo _ _ (0, [some (.ref 5), some (.int (nI h)), some (.int (nI t)), some (.int m), some (.int w)], [], _) _
  refine g_aload_n dX4_endPause_0 rfl ?_
  refine g_gR (r := 14) dX4_endPause_1 fl_X4_37 (fun _ _ => rfl) rfl (by decide) rfl ?_
  refine g_iload_n dX4_endPause_4 rfl ?_
  refine g_iload_n dX4_endPause_5 rfl ?_
  refine g_aload_n dX4_endPause_6 rfl ?_
  refine g_gR (r := 19) dX4_endPause_7 fl_X4_41 (fun _ _ => rfl) rfl (by decide) rfl ?_
  refine g_iload_n dX4_endPause_10 rfl ?_
  refine g_ialdN (gx := t) dX4_endPause_11 rfl (by decide) rfl (by omega) (by decide) ?_
  refine g_iload_n dX4_endPause_12 rfl ?_
  refine g_iload dX4_endPause_13 rfl ?_
  refine g_V5v dX4_endPause_15 ml_X4_126 sX2_tellEnd rfl (by decide) (Nat.le_of_ble_eq_true rfl) (c_tellEnd d h hh (nI t) (F 19 t) m w) ?_
  refine g_aload_n dX4_endPause_18 rfl ?_
  refine g_gR (r := 20) dX4_endPause_19 fl_X4_44 (fun _ _ => rfl) rfl (by decide) rfl ?_
  refine g_iload_n dX4_endPause_22 rfl ?_
  refine g_dup2 dX4_endPause_23 rfl rfl ?_
  refine g_ialdN (gx := t) dX4_endPause_24 rfl (by decide) rfl (by omega) (by decide) ?_
  refine g_iconstv (v := 1) dX4_endPause_25 rfl ?_
  refine g_iadd dX4_endPause_26 ?_
  refine g_iastN (gx := t) dX4_endPause_27 rfl (by decide) rfl (by omega) (by decide) ?_
  refine g_aload_n dX4_endPause_28 rfl ?_
  refine g_gR (r := 19) dX4_endPause_29 fl_X4_41 (fun _ _ => rfl) rfl (by decide) rfl ?_
  refine g_iload_n dX4_endPause_32 rfl ?_
  refine g_bipushv (v := (-6)) dX4_endPause_33 rfl ?_
  refine g_iastN (gx := t) dX4_endPause_35 rfl (by decide) rfl (by omega) (by decide) ?_
  exact g_vret dX4_endPause_36 rfl
