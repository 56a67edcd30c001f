def mC (S : Nat → Int32) (w k : Nat) : Int32 := S (88 + 6 * k + w)
theorem m_ixG (k w : Nat) : 88 + 6 * nI k + nI w = nI (88 + 6 * k + w) := by
  rw [show (88 : Int32) = nI 88 from rfl, show (6 : Int32) = nI 6 from rfl, pk_mul, nI_add, nI_add]
theorem cpB_zero (F : Nat → Nat → Int32) (a b sx dx : Nat) : cpB F a b sx dx 0 = F := by
  funext c k
  rw [cpB_at, if_neg (by omega)]
theorem cpB_step {F : Nat → Nat → Int32} {a b sx dx n : Nat} (h : cpB F a b sx dx n b (sx + n) = F b (sx + n)) : pe (cpB F a b sx dx n) a (dx + n) (cpB F a b sx dx n b (sx + n)) = cpB F a b sx dx (n + 1) := by
  rw [h]
  funext c k
  rw [pe_at, cpB_at, cpB_at]
  by_cases h1 : c = a
  · by_cases h2 : k = dx + n
    · rw [if_pos ⟨h1, h2⟩, if_pos ⟨h1, by omega, by omega⟩, show sx + (k - dx) = sx + n by omega]
    · rw [if_neg (fun q => h2 q.2)]
      by_cases h3 : dx ≤ k ∧ k < dx + n
      · rw [if_pos ⟨h1, h3⟩, if_pos ⟨h1, h3.1, by omega⟩]
      · rw [if_neg (fun q => h3 q.2), if_neg (fun q => h3 ⟨q.2.1, by omega⟩)]
  · rw [if_neg (fun q => h1 q.1), if_neg (fun q => h1 q.1), if_neg (fun q => h1 q.1)]
theorem pe_id {F : Nat → Nat → Int32} {c k : Nat} {v : Int32} (h : F c k = v) : pe F c k v = F := by
  funext a b
  rw [pe_at]
  split
  · next q => rw [q.1, q.2, h]
  · rfl
set_option maxHeartbeats 4000000 in
set_option maxRecDepth 100000 in
theorem c_in {hp : mHp} (d : Nat) (x a b : Int32) : mCall (d) yX7_in MX7_in [.int x, .int a, .int b] (hp) (some (.int (mbi (a ≤ x ∧ x ≤ b)))) (hp) := by
  refine mCall_of sX7_in.1 (Nat.le_of_ble_eq_true rfl) ⟨_, rfl, mbi_ok⟩ ?_
  show mGo _ _ (0, [some (.int x), some (.int a), some (.int b)], [], _) _
  refine g_iload_n dX7_in_0 rfl ?_
  refine g_iload_n dX7_in_1 rfl ?_
  refine g_icmp_lt (tgt := 14) dX7_in_2 (by decide) (fun c2 => ?_) (fun c2 => ?_)
  · skip
    refine g_iconstv (v := 0) dX7_in_14 rfl ?_
    exact g_iret dX7_in_15 (m_ret (by unfold mbi; split <;> first | rfl | (exfalso; simp only [i_eq, i_lt, i_le, i_0, not_and] at *; omega)))
  · skip
    refine g_iload_n dX7_in_5 rfl ?_
    refine g_iload_n dX7_in_6 rfl ?_
    refine g_icmp_gt (tgt := 14) dX7_in_7 (by decide) (fun c7 => ?_) (fun c7 => ?_)
    · skip
      refine g_iconstv (v := 0) dX7_in_14 rfl ?_
      exact g_iret dX7_in_15 (m_ret (by unfold mbi; split <;> first | rfl | (exfalso; simp only [i_eq, i_lt, i_le, i_0, not_and] at *; omega)))
    · skip
      refine g_iconstv (v := 1) dX7_in_10 rfl ?_
      refine g_goto (tgt := 15) dX7_in_11 (by decide) ?_
      exact g_iret dX7_in_15 (m_ret (by unfold mbi; split <;> first | rfl | (exfalso; simp only [i_eq, i_lt, i_le, i_0, not_and] at *; omega)))
set_option maxHeartbeats 4000000 in
set_option maxRecDepth 100000 in
theorem c_mTab {hp : mHp} (d : Nat) (x : Int32) : mCall (d + 1) yX7_isTable MX7_isTable [.int x] (hp) (some (.int (mbi (0 ≤ x ∧ x ≤ 2)))) (hp) := by
  refine mCall_of sX7_isTable.1 (Nat.le_of_ble_eq_true rfl) ⟨_, rfl, mbi_ok⟩ ?_
  show mGo _ _ (0, [some (.int x)], [], _) _
  refine g_iload_n dX7_isTable_0 rfl ?_
  refine g_iconstv (v := 0) dX7_isTable_1 rfl ?_
  refine g_iconstv (v := 2) dX7_isTable_2 rfl ?_
  refine g_S3i dX7_isTable_3 ml_X7_33 sX7_in (Nat.le_of_ble_eq_true rfl) (c_in d x 0 2) ?_
  exact g_iret dX7_isTable_6 rfl
theorem i_sub1 {n : Nat} (h : n ≤ 10) : (nI n - 1).toInt = (n : Int) - 1 := pk_sub_toInt (a := n) (b := 1) (by omega) (by decide)
theorem mbi_c {p q : Prop} [Decidable p] [Decidable q] (h : p ↔ q) : mbi p = mbi q := by
  unfold mbi
  simp only [h]
set_option maxHeartbeats 4000000 in
set_option maxRecDepth 100000 in
theorem c_mIs {L : Nat} {F : Nat → Nat → Int32} {g : Nat → Option Nat} (d : Nat) (n : Nat) (hm : F 173 5 = nI n) (h10 : n ≤ 10) (x : Int32) : mCall (d + 1) yX7_isGuest MX7_isGuest [.ref 172, .int x] (mHX L F g) (some (.int (mbi (0 ≤ x ∧ x < nI n)))) (mHX L F g) := by
  refine mCall_of sX7_isGuest.1 (Nat.le_of_ble_eq_true rfl) ⟨_, rfl, mbi_ok⟩ ?_
  show mGo _ _ (0, [some (.ref 172), some (.int x)], [], _) _
  refine g_iload_n dX7_isGuest_0 rfl ?_
  refine g_iconstv (v := 0) dX7_isGuest_1 rfl ?_
  refine g_aload_n dX7_isGuest_2 rfl ?_
  refine g_gR (r := 173) dX7_isGuest_3 fl_X7_7 (fun _ _ => rfl) rfl (by decide) rfl ?_
  refine g_iconstv (v := 5) dX7_isGuest_6 rfl ?_
  refine g_ialdN (gx := 5) dX7_isGuest_7 rfl (by decide) rfl (by omega) (by decide) ?_
  refine g_iconstv (v := 1) dX7_isGuest_8 rfl ?_
  refine g_isub dX7_isGuest_9 ?_
  refine g_S3i dX7_isGuest_10 ml_X7_33 sX7_in (Nat.le_of_ble_eq_true rfl) (c_in d x 0 (F 173 5 - 1)) ?_
  exact g_iret dX7_isGuest_13 (m_ret (mbi_c (by rw [hm, i_le, i_le, i_sub1 h10, i_lt, i_n (by omega)]; omega)))
set_option maxHeartbeats 4000000 in
set_option maxRecDepth 100000 in
theorem c_has {L : Nat} {F : Nat → Nat → Int32} {g : Nat → Option Nat} (d : Nat) (k w : Nat) (hk : k < 10) (hw : w < 6) : mCall (d) yX7_has MX7_has [.ref 172, .int (nI k), .int (nI w)] (mHX L F g) (some (.int (mC (F 173) w k))) (mHX L F g) := by
  refine mCall_of sX7_has.1 (Nat.le_of_ble_eq_true rfl) ⟨_, rfl, rfl⟩ ?_
  show mGo _ _ (0, [some (.ref 172), some (.int (nI k)), some (.int (nI w))], [], _) _
  refine g_aload_n dX7_has_0 rfl ?_
  refine g_gR (r := 173) dX7_has_1 fl_X7_7 (fun _ _ => rfl) rfl (by decide) rfl ?_
  refine g_bipushv (v := 88) dX7_has_4 rfl ?_
  refine g_bipushv (v := 6) dX7_has_6 rfl ?_
  refine g_iload_n dX7_has_8 rfl ?_
  refine g_imul dX7_has_9 ?_
  refine g_iadd dX7_has_10 ?_
  refine g_iload_n dX7_has_11 rfl ?_
  refine g_iadd dX7_has_12 ?_
  refine g_ialdN (gx := (88 + 6 * k + w)) dX7_has_13 rfl (by decide) (m_ixG k w) (by omega) (by decide) ?_
  exact g_iret dX7_has_14 rfl
set_option maxHeartbeats 4000000 in
set_option maxRecDepth 100000 in
theorem c_lay {L : Nat} {F : Nat → Nat → Int32} {g : Nat → Option Nat} (d : Nat) (k w : Nat) (hk : k < 10) (hw : w < 6) (v : Int32) : mCall (d) yX7_lay MX7_lay [.ref 172, .int (nI k), .int (nI w), .int v] (mHX L F g) (none) (mHX L (pe F 173 (88 + 6 * k + w) v) g) := by
  refine mCall_of sX7_lay.1 (Nat.le_of_ble_eq_true rfl) rfl ?_
  show mGo _ _ (0, [some (.ref 172), some (.int (nI k)), some (.int (nI w)), some (.int v)], [], _) _
  refine g_aload_n dX7_lay_0 rfl ?_
  refine g_gR (r := 173) dX7_lay_1 fl_X7_7 (fun _ _ => rfl) rfl (by decide) rfl ?_
  refine g_bipushv (v := 88) dX7_lay_4 rfl ?_
  refine g_bipushv (v := 6) dX7_lay_6 rfl ?_
  refine g_iload_n dX7_lay_8 rfl ?_
  refine g_imul dX7_lay_9 ?_
  refine g_iadd dX7_lay_10 ?_
  refine g_iload_n dX7_lay_11 rfl ?_
  refine g_iadd dX7_lay_12 ?_
  refine g_iload_n dX7_lay_13 rfl ?_
  refine g_iastN (gx := (88 + 6 * k + w)) dX7_lay_14 rfl (by decide) (m_ixG k w) (by omega) (by decide) ?_
  exact g_vret dX7_lay_15 rfl
set_option maxHeartbeats 4000000 in
set_option maxRecDepth 100000 in
theorem c_mPa {L : Nat} {F : Nat → Nat → Int32} {g : Nat → Option Nat} (d : Nat) (t : Nat) (ht : t < 3) : mCall (d) yX7_isPause MX7_isPause [.ref 172, .int (nI t)] (mHX L F g) (some (.int (mbi (¬ F 173 (10 + t) = (-6))))) (mHX L F g) := by
  refine mCall_of sX7_isPause.1 (Nat.le_of_ble_eq_true rfl) ⟨_, rfl, mbi_ok⟩ ?_
  show mGo _ _ (0, [some (.ref 172), some (.int (nI t))], [], _) _
  refine g_aload_n dX7_isPause_0 rfl ?_
  refine g_gR (r := 173) dX7_isPause_1 fl_X7_7 (fun _ _ => rfl) rfl (by decide) rfl ?_
  refine g_bipushv (v := 10) dX7_isPause_4 rfl ?_
  refine g_iload_n dX7_isPause_6 rfl ?_
  refine g_iadd dX7_isPause_7 ?_
  refine g_ialdN (gx := (10 + t)) dX7_isPause_8 rfl (by decide) (nI_add 10 t) (by omega) (by decide) ?_
  refine g_bipushv (v := (-6)) dX7_isPause_9 rfl ?_
  refine g_icmp_eq (tgt := 18) dX7_isPause_11 (by decide) (fun c11 => ?_) (fun c11 => ?_)
  · skip
    refine g_iconstv (v := 0) dX7_isPause_18 rfl ?_
    exact g_iret dX7_isPause_19 (m_ret (by first | exact (mbi_t c11).symm | exact (mbi_f (fun q => q c11)).symm | exact mbi_t c11 | exact mbi_f (fun q => q c11)))
  · skip
    refine g_iconstv (v := 1) dX7_isPause_14 rfl ?_
    refine g_goto (tgt := 19) dX7_isPause_15 (by decide) ?_
    exact g_iret dX7_isPause_19 (m_ret (by first | exact (mbi_t c11).symm | exact (mbi_f (fun q => q c11)).symm | exact mbi_t c11 | exact mbi_f (fun q => q c11)))
set_option maxHeartbeats 4000000 in
set_option maxRecDepth 100000 in
theorem c_most0 {hp : mHp} (d : Nat) (j : Nat) (hj : j < 2) : mCall (d) yX7_mostOf MX7_mostOf [.int (nI j)] (hp) (some (.int 20)) (hp) := by
  refine mCall_of sX7_mostOf.1 (Nat.le_of_ble_eq_true rfl) ⟨_, rfl, rfl⟩ ?_
  show mGo _ _ (0, [some (.int (nI j))], [], _) _
  refine g_iload_n dX7_mostOf_0 rfl ?_
  refine g_iconstv (v := 2) dX7_mostOf_1 rfl ?_
  refine g_icmp_ge (tgt := 10) dX7_mostOf_2 (by decide) (fun c2 => absurd c2 (by rw [show (2 : Int32) = nI 2 from rfl]; exact nI_ge hj (by decide))) (fun c2 => ?_)
  refine g_bipushv (v := 20) dX7_mostOf_5 rfl ?_
  refine g_goto (tgt := 12) dX7_mostOf_7 (by decide) ?_
  exact g_iret dX7_mostOf_12 rfl
set_option maxHeartbeats 4000000 in
set_option maxRecDepth 100000 in
theorem c_most1 {hp : mHp} (d : Nat) (j : Nat) (hj : ¬ j < 2 ∧ j < 4) : mCall (d) yX7_mostOf MX7_mostOf [.int (nI j)] (hp) (some (.int 9)) (hp) := by
  refine mCall_of sX7_mostOf.1 (Nat.le_of_ble_eq_true rfl) ⟨_, rfl, rfl⟩ ?_
  show mGo _ _ (0, [some (.int (nI j))], [], _) _
  refine g_iload_n dX7_mostOf_0 rfl ?_
  refine g_iconstv (v := 2) dX7_mostOf_1 rfl ?_
  refine g_icmp_ge (tgt := 10) dX7_mostOf_2 (by decide) (fun c2 => ?_) (fun c2 => absurd (by rw [show (2 : Int32) = nI 2 from rfl]; exact nI_le (by omega) (by omega)) c2)
  refine g_bipushv (v := 9) dX7_mostOf_10 rfl ?_
  exact g_iret dX7_mostOf_12 rfl
theorem m_rsh {F : Nat → Nat → Int32} {k : Nat} (h : k < 750) : cpB F 174 174 150 0 k 174 (150 + k) = F 174 (150 + k) := by
  rw [cpB_at, if_neg (by omega)]
theorem m_rcp {F : Nat → Nat → Int32} {q k : Nat} : cpB F 174 173 0 q k 173 (0 + k) = F 173 (0 + k) := by
  rw [cpB_at, if_neg (fun z => absurd z.1 (by decide))]

def xSh (F : Nat → Nat → Int32) : Nat → Nat → Int32 := pe (cpB F 174 174 150 0 750) 172 3 (nI 5)
def xRec1 (F : Nat → Nat → Int32) (q : Nat) : Nat → Nat → Int32 := pe (cpB F 174 173 0 (150 * q) 150) 172 3 (nI (q + 1))
set_option maxHeartbeats 4000000 in
set_option maxRecDepth 100000 in
theorem lp_rec2 {L : Nat} {F : Nat → Nat → Int32} {g : Nat → Option Nat} (d : Nat) (q : Nat) (hq : q < 6) (e3 : F 172 3 = nI q) : ∀ (m k : Nat) (G : Nat → Nat → Int32), k + m = 150 → G = cpB F 174 173 0 (150 * q) k → mGo MX7_records d (52, [some (.ref 172), some (.int (nI k))], [], mHX L G g) (none, mHX L (xRec1 F q) g) := by
  intro m
  induction m with
  | zero =>
    intro k G hk eG
    obtain rfl : k = 150 := by omega
    have eq : G 172 3 = nI q := by rw [eG, cpB_row (by decide)]; exact e3
    refine g_iload_n dX7_records_52 rfl ?_
    refine g_sipushv (v := 150) dX7_records_53 rfl ?_
    refine g_icmp_ge (tgt := 86) dX7_records_56 (by decide) (fun c56 => ?_) (fun c56 => absurd (Int32.le_refl _) c56)
    refine g_aload_n dX7_records_86 rfl ?_
    refine g_dup dX7_records_87 rfl ?_
    refine g_gI dX7_records_88 fl_X7_37 (fun _ _ => rfl) rfl (by decide) ?_
    refine g_iconstv (v := 1) dX7_records_91 rfl ?_
    refine g_iadd dX7_records_92 ?_
    refine g_pI dX7_records_93 fl_X7_37 (Or.inl rfl) rfl (by decide) rfl ?_
    exact g_vret dX7_records_96 (m_ret0 (m_hx (by rw [eq, nI_1, eG]; rfl)))
  | succ m ih =>
    intro k G hk eG
    have eq : G 172 3 = nI q := by rw [eG, cpB_row (by decide)]; exact e3
    refine g_iload_n dX7_records_52 rfl ?_
    refine g_sipushv (v := 150) dX7_records_53 rfl ?_
    refine g_icmp_ge (tgt := 86) dX7_records_56 (by decide) (fun c56 => absurd c56 (nI_ge (a := k) (b := 150) (by omega) (by decide))) (fun c56 => ?_)
    refine g_aload_n dX7_records_59 rfl ?_
    refine g_gR (r := 174) dX7_records_60 fl_X7_13 (fun _ _ => rfl) rfl (by decide) rfl ?_
    refine g_sipushv (v := 150) dX7_records_63 rfl ?_
    refine g_aload_n dX7_records_66 rfl ?_
    refine g_gI dX7_records_67 fl_X7_37 (fun _ _ => rfl) rfl (by decide) ?_
    refine g_imul dX7_records_70 ?_
    refine g_iload_n dX7_records_71 rfl ?_
    refine g_iadd dX7_records_72 ?_
    refine g_aload_n dX7_records_73 rfl ?_
    refine g_gR (r := 173) dX7_records_74 fl_X7_7 (fun _ _ => rfl) rfl (by decide) rfl ?_
    refine g_iload_n dX7_records_77 rfl ?_
    refine g_ialdN (gx := k) dX7_records_78 rfl (by decide) rfl (by omega) (by decide) ?_
    refine g_iastN (gx := (150 * q + k)) dX7_records_79 rfl (by decide) (by rw [eq, show (150 : Int32) = nI 150 from rfl, pk_mul, nI_add]) (by omega) (by decide) ?_
    refine g_iincN dX7_records_80 rfl (by decide) rfl ?_
    refine g_goto (tgt := 52) dX7_records_83 (by decide) ?_
    exact ih (k + 1) _ (by omega) (by rw [eG]; exact (congrArg _ (congrArg _ (by rw [Nat.zero_add]))).trans (cpB_step m_rcp))
set_option maxHeartbeats 4000000 in
set_option maxRecDepth 100000 in
theorem lp_rec1 {L : Nat} {F : Nat → Nat → Int32} {g : Nat → Option Nat} (d : Nat) (e3 : F 172 3 = nI 6) : ∀ (m k : Nat) (G : Nat → Nat → Int32), k + m = 750 → G = cpB F 174 174 150 0 k → mGo MX7_records d (11, [some (.ref 172), some (.int (nI k))], [], mHX L G g) (none, mHX L (xRec1 (xSh F) 5) g) := by
  intro m
  induction m with
  | zero =>
    intro k G hk eG
    obtain rfl : k = 750 := by omega
    have eq : G 172 3 = nI 6 := by rw [eG, cpB_row (by decide)]; exact e3
    refine g_iload_n dX7_records_11 rfl ?_
    refine g_sipushv (v := 750) dX7_records_12 rfl ?_
    refine g_icmp_ge (tgt := 40) dX7_records_15 (by decide) (fun c15 => ?_) (fun c15 => absurd (Int32.le_refl _) c15)
    refine g_aload_n dX7_records_40 rfl ?_
    refine g_dup dX7_records_41 rfl ?_
    refine g_gI dX7_records_42 fl_X7_37 (fun _ _ => rfl) rfl (by decide) ?_
    refine g_iconstv (v := 1) dX7_records_45 rfl ?_
    refine g_isub dX7_records_46 ?_
    refine g_pI dX7_records_47 fl_X7_37 (Or.inl rfl) rfl (by decide) rfl ?_
    refine g_iconstv (v := 0) dX7_records_50 rfl ?_
    refine g_istore_n dX7_records_51 (by decide) rfl ?_
    refine lp_rec2 (F := xSh F) d 5 (by decide) (by unfold xSh; rw [pe_eq]) 150 0 _ (by decide) ?_
    rw [cpB_zero, eq, eG]
    rfl
  | succ m ih =>
    intro k G hk eG
    refine g_iload_n dX7_records_11 rfl ?_
    refine g_sipushv (v := 750) dX7_records_12 rfl ?_
    refine g_icmp_ge (tgt := 40) dX7_records_15 (by decide) (fun c15 => absurd c15 (nI_ge (a := k) (b := 750) (by omega) (by decide))) (fun c15 => ?_)
    refine g_aload_n dX7_records_18 rfl ?_
    refine g_gR (r := 174) dX7_records_19 fl_X7_13 (fun _ _ => rfl) rfl (by decide) rfl ?_
    refine g_iload_n dX7_records_22 rfl ?_
    refine g_aload_n dX7_records_23 rfl ?_
    refine g_gR (r := 174) dX7_records_24 fl_X7_13 (fun _ _ => rfl) rfl (by decide) rfl ?_
    refine g_iload_n dX7_records_27 rfl ?_
    refine g_sipushv (v := 150) dX7_records_28 rfl ?_
    refine g_iadd dX7_records_31 ?_
    refine g_ialdN (gx := (150 + k)) dX7_records_32 rfl (by decide) (by rw [show (150 : Int32) = nI 150 from rfl, nI_add, Nat.add_comm]) (by omega) (by decide) ?_
    refine g_iastN (gx := k) dX7_records_33 rfl (by decide) rfl (by omega) (by decide) ?_
    refine g_iincN dX7_records_34 rfl (by decide) rfl ?_
    refine g_goto (tgt := 11) dX7_records_37 (by decide) ?_
    exact ih (k + 1) _ (by omega) (by rw [eG]; have z := cpB_step (m_rsh (F := F) (k := k) (by omega)); rw [Nat.zero_add] at z; exact z)
def xRec (F : Nat → Nat → Int32) (q : Nat) : Nat → Nat → Int32 := if q < 6 then xRec1 F q else xRec1 (xSh F) 5
set_option maxHeartbeats 4000000 in
set_option maxRecDepth 100000 in
theorem c_rec_lo {L : Nat} {F : Nat → Nat → Int32} {g : Nat → Option Nat} (d : Nat) (q : Nat) (hq : q < 6) (e3 : F 172 3 = nI q) : mCall (d) yX7_records MX7_records [.ref 172] (mHX L F g) (none) (mHX L (xRec1 F q) g) := by
  refine mCall_of sX7_records.1 (Nat.le_of_ble_eq_true rfl) rfl ?_
  show mGo _ _ (0, [some (.ref 172), none], [], _) _
  refine g_aload_n dX7_records_0 rfl ?_
  refine g_gI dX7_records_1 fl_X7_37 (fun _ _ => rfl) rfl (by decide) ?_
  refine g_bipushv (v := 6) dX7_records_4 rfl ?_
  refine g_icmp_ne (tgt := 50) dX7_records_6 (by decide) (fun c6 => ?_) (fun c6 => absurd c6 (by rw [e3]; exact fun z => absurd ((nI_eq (a := q) (b := 6) (by omega) (by decide)).mp z) (by omega)))
  refine g_iconstv (v := 0) dX7_records_50 rfl ?_
  refine g_istore_n dX7_records_51 (by decide) rfl ?_
  exact lp_rec2 d q hq e3 150 0 _ (by decide) (cpB_zero _ _ _ _ _).symm
set_option maxHeartbeats 4000000 in
set_option maxRecDepth 100000 in
theorem c_rec_hi {L : Nat} {F : Nat → Nat → Int32} {g : Nat → Option Nat} (d : Nat) (e3 : F 172 3 = nI 6) : mCall (d) yX7_records MX7_records [.ref 172] (mHX L F g) (none) (mHX L (xRec1 (xSh F) 5) g) := by
  refine mCall_of sX7_records.1 (Nat.le_of_ble_eq_true rfl) rfl ?_
  show mGo _ _ (0, [some (.ref 172), none], [], _) _
  refine g_aload_n dX7_records_0 rfl ?_
  refine g_gI dX7_records_1 fl_X7_37 (fun _ _ => rfl) rfl (by decide) ?_
  refine g_bipushv (v := 6) dX7_records_4 rfl ?_
  refine g_icmp_ne (tgt := 50) dX7_records_6 (by decide) (fun c6 => absurd e3 c6) (fun c6 => ?_)
  refine g_iconstv (v := 0) dX7_records_9 rfl ?_
  refine g_istore_n dX7_records_10 (by decide) rfl ?_
  exact lp_rec1 d e3 750 0 _ (by decide) (cpB_zero _ _ _ _ _).symm
theorem c_rec {L : Nat} {F : Nat → Nat → Int32} {g : Nat → Option Nat} (d : Nat) (q : Nat) (hq : q ≤ 6) (e3 : F 172 3 = nI q) : mCall d yX7_records MX7_records [.ref 172] (mHX L F g) none (mHX L (xRec F q) g) := by
  by_cases h : q < 6
  · simp only [xRec, if_pos h]
    exact c_rec_lo d q h e3
  · simp only [xRec, if_neg h]
    exact c_rec_hi d (by rw [e3, show q = 6 by omega])
set_option maxHeartbeats 4000000 in
set_option maxRecDepth 100000 in
theorem lp_mSet {L : Nat} {F : Nat → Nat → Int32} {g : Nat → Option Nat} (d : Nat) (n : Nat) (hm : F 173 5 = nI n) (h10 : n ≤ 10) (t : Int32) : ∀ (m k : Nat) (a : Int32), k + m = n → a = sSet (mC (F 173) 0) t k → mGo MX7_guestsAt (d + 1) (4, [some (.ref 172), some (.int t), some (.int a), some (.int (nI k))], [], mHX L F g) (some (.int (sSet (mC (F 173) 0) t n)), mHX L F g) := by
  intro m
  induction m with
  | zero =>
    intro k a hk ea
    obtain rfl : k = n := by omega
    refine g_iload_n dX7_guestsAt_4 rfl ?_
    refine g_aload_n dX7_guestsAt_5 rfl ?_
    refine g_gR (r := 173) dX7_guestsAt_6 fl_X7_7 (fun _ _ => rfl) rfl (by decide) rfl ?_
    refine g_iconstv (v := 5) dX7_guestsAt_9 rfl ?_
    refine g_ialdN (gx := 5) dX7_guestsAt_10 rfl (by decide) rfl (by omega) (by decide) ?_
    refine g_icmp_ge (tgt := 40) dX7_guestsAt_11 (by decide) (fun c11 => ?_) (fun c11 => absurd (by rw [hm]; exact Int32.le_refl _) c11)
    refine g_iload_n dX7_guestsAt_40 rfl ?_
    exact g_iret dX7_guestsAt_41 (m_ret ea.symm)
  | succ m ih =>
    intro k a hk ea
    refine g_iload_n dX7_guestsAt_4 rfl ?_
    refine g_aload_n dX7_guestsAt_5 rfl ?_
    refine g_gR (r := 173) dX7_guestsAt_6 fl_X7_7 (fun _ _ => rfl) rfl (by decide) rfl ?_
    refine g_iconstv (v := 5) dX7_guestsAt_9 rfl ?_
    refine g_ialdN (gx := 5) dX7_guestsAt_10 rfl (by decide) rfl (by omega) (by decide) ?_
    refine g_icmp_ge (tgt := 40) dX7_guestsAt_11 (by decide) (fun c11 => absurd c11 (by rw [hm]; exact nI_ge (by omega) (by omega))) (fun c11 => ?_)
    refine g_iload_n dX7_guestsAt_14 rfl ?_
    refine g_aload_n dX7_guestsAt_15 rfl ?_
    refine g_iload_n dX7_guestsAt_16 rfl ?_
    refine g_iconstv (v := 0) dX7_guestsAt_17 rfl ?_
    refine g_V2i dX7_guestsAt_18 ml_X7_40 sX7_has rfl (by decide) (Nat.le_of_ble_eq_true rfl) (c_has (F := F) (d) k 0 (by omega) (by decide)) ?_
    refine g_iload_n dX7_guestsAt_21 rfl ?_
    refine g_icmp_ne (tgt := 31) dX7_guestsAt_22 (by decide) (fun c22 => ?_) (fun c22 => ?_)
    · skip
      refine g_iconstv (v := 0) dX7_guestsAt_31 rfl ?_
      refine g_ior dX7_guestsAt_32 ?_
      refine g_istore_n dX7_guestsAt_33 (by decide) rfl ?_
      refine g_iincN dX7_guestsAt_34 rfl (by decide) rfl ?_
      refine g_goto (tgt := 4) dX7_guestsAt_37 (by decide) ?_
      exact ih (k + 1) _ (by omega) (by subst ea; simp [sSet, mfold, c22])
    · skip
      refine g_iconstv (v := 1) dX7_guestsAt_25 rfl ?_
      refine g_iload_n dX7_guestsAt_26 rfl ?_
      refine g_ishl dX7_guestsAt_27 ?_
      refine g_goto (tgt := 32) dX7_guestsAt_28 (by decide) ?_
      refine g_ior dX7_guestsAt_32 ?_
      refine g_istore_n dX7_guestsAt_33 (by decide) rfl ?_
      refine g_iincN dX7_guestsAt_34 rfl (by decide) rfl ?_
      refine g_goto (tgt := 4) dX7_guestsAt_37 (by decide) ?_
      exact ih (k + 1) _ (by omega) (by subst ea; simp [sSet, mfold, c22])
set_option maxHeartbeats 4000000 in
set_option maxRecDepth 100000 in
theorem c_mSet {L : Nat} {F : Nat → Nat → Int32} {g : Nat → Option Nat} (d : Nat) (n : Nat) (hm : F 173 5 = nI n) (h10 : n ≤ 10) (t : Int32) : mCall (d + 1) yX7_guestsAt MX7_guestsAt [.ref 172, .int t] (mHX L F g) (some (.int (sSet (mC (F 173) 0) t n))) (mHX L F g) := by
  refine mCall_of sX7_guestsAt.1 (Nat.le_of_ble_eq_true rfl) ⟨_, rfl, rfl⟩ ?_
  show mGo _ _ (0, [some (.ref 172), some (.int t), none, none], [], _) _
  refine g_iconstv (v := 0) dX7_guestsAt_0 rfl ?_
  refine g_istore_n dX7_guestsAt_1 (by decide) rfl ?_
  refine g_iconstv (v := 0) dX7_guestsAt_2 rfl ?_
  refine g_istore_n dX7_guestsAt_3 (by decide) rfl ?_
  exact lp_mSet d n hm h10 t n 0 _ (Nat.zero_add n) rfl
def sOnesF (x : Int32) (a : Int32) (k : Nat) : Int32 := a + ((x >>> (nI k &&& 31)) &&& 1)
def sOnes (x : Int32) : Int32 := mfold (sOnesF x) 0 10
set_option maxHeartbeats 4000000 in
set_option maxRecDepth 100000 in
theorem lp_ones {hp : mHp} (d : Nat) (x : Int32) : ∀ (m k : Nat) (a : Int32), k + m = 10 → a = mfold (sOnesF x) 0 k → mGo MX7_ones (d) (4, [some (.int x), some (.int a), some (.int (nI k))], [], hp) (some (.int (sOnes x)), hp) := by
  intro m
  induction m with
  | zero =>
    intro k a hk ea
    obtain rfl : k = 10 := by omega
    refine g_iload_n dX7_ones_4 rfl ?_
    refine g_bipushv (v := 10) dX7_ones_5 rfl ?_
    refine g_icmp_ge (tgt := 24) dX7_ones_7 (by decide) (fun c7 => ?_) (fun c7 => absurd (Int32.le_refl _) c7)
    refine g_iload_n dX7_ones_24 rfl ?_
    exact g_iret dX7_ones_25 (m_ret ea.symm)
  | succ m ih =>
    intro k a hk ea
    refine g_iload_n dX7_ones_4 rfl ?_
    refine g_bipushv (v := 10) dX7_ones_5 rfl ?_
    refine g_icmp_ge (tgt := 24) dX7_ones_7 (by decide) (fun c7 => absurd c7 (nI_ge (a := k) (b := 10) (by omega) (by decide))) (fun c7 => ?_)
    refine g_iload_n dX7_ones_10 rfl ?_
    refine g_iload_n dX7_ones_11 rfl ?_
    refine g_iload_n dX7_ones_12 rfl ?_
    refine g_ishr dX7_ones_13 ?_
    refine g_iconstv (v := 1) dX7_ones_14 rfl ?_
    refine g_iand dX7_ones_15 ?_
    refine g_iadd dX7_ones_16 ?_
    refine g_istore_n dX7_ones_17 (by decide) rfl ?_
    refine g_iincN dX7_ones_18 rfl (by decide) rfl ?_
    refine g_goto (tgt := 4) dX7_ones_21 (by decide) ?_
    exact ih (k + 1) _ (by omega) (by subst ea; rfl)
set_option maxHeartbeats 4000000 in
set_option maxRecDepth 100000 in
theorem c_ones {hp : mHp} (d : Nat) (x : Int32) : mCall (d) yX7_ones MX7_ones [.int x] (hp) (some (.int (sOnes x))) (hp) := by
  refine mCall_of sX7_ones.1 (Nat.le_of_ble_eq_true rfl) ⟨_, rfl, rfl⟩ ?_
  show mGo _ _ (0, [some (.int x), none, none], [], _) _
  refine g_iconstv (v := 0) dX7_ones_0 rfl ?_
  refine g_istore_n dX7_ones_1 (by decide) rfl ?_
  refine g_iconstv (v := 0) dX7_ones_2 rfl ?_
  refine g_istore_n dX7_ones_3 (by decide) rfl ?_
  exact lp_ones d x 10 0 _ (by decide) rfl
def oI : Option Nat → Int32
  | none => (-6)
  | some h => nI h
def mHostF (P Q : Nat → Int32) (t : Int32) (o : Option Nat) (k : Nat) : Option Nat := if P k = t then (match o with | none => some k | some h => if Q k ≤ Q h then some h else some k) else o
def mHost (P Q : Nat → Int32) (t : Int32) (n : Nat) : Option Nat := mfold (mHostF P Q t) none n
def mLendF (P Q R : Nat → Int32) (x : Nat) (o : Option Nat) (k : Nat) : Option Nat := if nI k = nI x then o else if P k = P x then (if R k ≤ 0 then o else (match o with | none => some k | some h => if Q h ≤ Q k then some h else some k)) else o
def mLend (P Q R : Nat → Int32) (x n : Nat) : Option Nat := mfold (mLendF P Q R x) none n
set_option maxHeartbeats 4000000 in
set_option maxRecDepth 100000 in
theorem lp_mHost {L : Nat} {F : Nat → Nat → Int32} {g : Nat → Option Nat} (d : Nat) (n : Nat) (hm : F 173 5 = nI n) (h10 : n ≤ 10) (t : Int32) : ∀ (m k : Nat) (o : Option Nat) (j : Option Value), k + m = n → o = mfold (mHostF (mC (F 173) 0) (mC (F 173) 1) t) none k → (∀ h, o = some h → h < k) → mGo MX7_hostOf (d + 1) (5, [some (.ref 172), some (.int t), some (.int (oI o)), some (.int (nI k)), j], [], mHX L F g) (some (.int (oI (mHost (mC (F 173) 0) (mC (F 173) 1) t n))), mHX L F g) := by
  intro m
  induction m with
  | zero =>
    intro k o j hk eo ho
    obtain rfl : k = n := by omega
    refine g_iload_n dX7_hostOf_5 rfl ?_
    refine g_aload_n dX7_hostOf_6 rfl ?_
    refine g_gR (r := 173) dX7_hostOf_7 fl_X7_7 (fun _ _ => rfl) rfl (by decide) rfl ?_
    refine g_iconstv (v := 5) dX7_hostOf_10 rfl ?_
    refine g_ialdN (gx := 5) dX7_hostOf_11 rfl (by decide) rfl (by omega) (by decide) ?_
    refine g_icmp_ge (tgt := 70) dX7_hostOf_12 (by decide) (fun c12 => ?_) (fun c12 => absurd (by rw [hm]; exact Int32.le_refl _) c12)
    refine g_iload_n dX7_hostOf_70 rfl ?_
    exact g_iret dX7_hostOf_71 (m_ret (congrArg oI eo.symm))
  | succ m ih =>
    intro k o j hk eo ho
    rcases o with _ | h
    · skip
      refine g_iload_n dX7_hostOf_5 rfl ?_
      refine g_aload_n dX7_hostOf_6 rfl ?_
      refine g_gR (r := 173) dX7_hostOf_7 fl_X7_7 (fun _ _ => rfl) rfl (by decide) rfl ?_
      refine g_iconstv (v := 5) dX7_hostOf_10 rfl ?_
      refine g_ialdN (gx := 5) dX7_hostOf_11 rfl (by decide) rfl (by omega) (by decide) ?_
      refine g_icmp_ge (tgt := 70) dX7_hostOf_12 (by decide) (fun c12 => absurd c12 (by rw [hm]; exact nI_ge (by omega) (by omega))) (fun c12 => ?_)
      refine g_aload_n dX7_hostOf_15 rfl ?_
      refine g_iload_n dX7_hostOf_16 rfl ?_
      refine g_iconstv (v := 0) dX7_hostOf_17 rfl ?_
      refine g_V2i dX7_hostOf_18 ml_X7_40 sX7_has rfl (by decide) (Nat.le_of_ble_eq_true rfl) (c_has (F := F) (d) k 0 (by omega) (by decide)) ?_
      refine g_iload_n dX7_hostOf_21 rfl ?_
      refine g_icmp_ne (tgt := 50) dX7_hostOf_22 (by decide) (fun c22 => ?_) (fun c22 => ?_)
      · skip
        refine g_iconstv (v := 0) dX7_hostOf_50 rfl ?_
        refine g_istore dX7_hostOf_51 (by decide) rfl ?_
        refine g_iload dX7_hostOf_53 rfl ?_
        refine g_if_eq (tgt := 62) dX7_hostOf_55 (by decide) (fun c55 => ?_) (fun c55 => absurd (by decide) c55)
        refine g_iload_n dX7_hostOf_62 rfl ?_
        refine g_istore_n dX7_hostOf_63 (by decide) rfl ?_
        refine g_iincN dX7_hostOf_64 rfl (by decide) rfl ?_
        refine g_goto (tgt := 5) dX7_hostOf_67 (by decide) ?_
        exact ih (k + 1) none _ (by omega) (by rw [mfold_succ, ← eo]; simp only [mHostF, c22, if_true, if_false, reduceIte, eq_self]) (by intro i hi; first | (cases hi; omega) | cases hi)
      · skip
        refine g_iload_n dX7_hostOf_25 rfl ?_
        refine g_bipushv (v := (-6)) dX7_hostOf_26 rfl ?_
        refine g_icmp_eq (tgt := 46) dX7_hostOf_28 (by decide) (fun c28 => ?_) (fun c28 => absurd rfl c28)
        refine g_iconstv (v := 1) dX7_hostOf_46 rfl ?_
        refine g_goto (tgt := 51) dX7_hostOf_47 (by decide) ?_
        refine g_istore dX7_hostOf_51 (by decide) rfl ?_
        refine g_iload dX7_hostOf_53 rfl ?_
        refine g_if_eq (tgt := 62) dX7_hostOf_55 (by decide) (fun c55 => absurd c55 (by decide)) (fun c55 => ?_)
        refine g_iload_n dX7_hostOf_58 rfl ?_
        refine g_goto (tgt := 63) dX7_hostOf_59 (by decide) ?_
        refine g_istore_n dX7_hostOf_63 (by decide) rfl ?_
        refine g_iincN dX7_hostOf_64 rfl (by decide) rfl ?_
        refine g_goto (tgt := 5) dX7_hostOf_67 (by decide) ?_
        exact ih (k + 1) (some k) _ (by omega) (by rw [mfold_succ, ← eo]; simp only [mHostF, c22, if_true, if_false, reduceIte, eq_self]) (by intro i hi; first | (cases hi; omega) | cases hi)
    · have hh : h < k := ho h rfl
      have hk10 : h < 10 := by omega
      refine g_iload_n dX7_hostOf_5 rfl ?_
      refine g_aload_n dX7_hostOf_6 rfl ?_
      refine g_gR (r := 173) dX7_hostOf_7 fl_X7_7 (fun _ _ => rfl) rfl (by decide) rfl ?_
      refine g_iconstv (v := 5) dX7_hostOf_10 rfl ?_
      refine g_ialdN (gx := 5) dX7_hostOf_11 rfl (by decide) rfl (by omega) (by decide) ?_
      refine g_icmp_ge (tgt := 70) dX7_hostOf_12 (by decide) (fun c12 => absurd c12 (by rw [hm]; exact nI_ge (by omega) (by omega))) (fun c12 => ?_)
      refine g_aload_n dX7_hostOf_15 rfl ?_
      refine g_iload_n dX7_hostOf_16 rfl ?_
      refine g_iconstv (v := 0) dX7_hostOf_17 rfl ?_
      refine g_V2i dX7_hostOf_18 ml_X7_40 sX7_has rfl (by decide) (Nat.le_of_ble_eq_true rfl) (c_has (F := F) (d) k 0 (by omega) (by decide)) ?_
      refine g_iload_n dX7_hostOf_21 rfl ?_
      refine g_icmp_ne (tgt := 50) dX7_hostOf_22 (by decide) (fun c22 => ?_) (fun c22 => ?_)
      · skip
        refine g_iconstv (v := 0) dX7_hostOf_50 rfl ?_
        refine g_istore dX7_hostOf_51 (by decide) rfl ?_
        refine g_iload dX7_hostOf_53 rfl ?_
        refine g_if_eq (tgt := 62) dX7_hostOf_55 (by decide) (fun c55 => ?_) (fun c55 => absurd (by decide) c55)
        refine g_iload_n dX7_hostOf_62 rfl ?_
        refine g_istore_n dX7_hostOf_63 (by decide) rfl ?_
        refine g_iincN dX7_hostOf_64 rfl (by decide) rfl ?_
        refine g_goto (tgt := 5) dX7_hostOf_67 (by decide) ?_
        exact ih (k + 1) (some h) _ (by omega) (by rw [mfold_succ, ← eo]; simp only [mHostF, c22, if_true, if_false, reduceIte, eq_self]) (by intro i hi; first | (cases hi; omega) | cases hi)
      · skip
        refine g_iload_n dX7_hostOf_25 rfl ?_
        refine g_bipushv (v := (-6)) dX7_hostOf_26 rfl ?_
        refine g_icmp_eq (tgt := 46) dX7_hostOf_28 (by decide) (fun c28 => absurd c28 (m_ne6 (by omega))) (fun c28 => ?_)
        refine g_aload_n dX7_hostOf_31 rfl ?_
        refine g_iload_n dX7_hostOf_32 rfl ?_
        refine g_iconstv (v := 1) dX7_hostOf_33 rfl ?_
        refine g_V2i dX7_hostOf_34 ml_X7_40 sX7_has rfl (by decide) (Nat.le_of_ble_eq_true rfl) (c_has (F := F) (d) k 1 (by omega) (by decide)) ?_
        refine g_aload_n dX7_hostOf_37 rfl ?_
        refine g_iload_n dX7_hostOf_38 rfl ?_
        refine g_iconstv (v := 1) dX7_hostOf_39 rfl ?_
        refine g_V2i dX7_hostOf_40 ml_X7_40 sX7_has rfl (by decide) (Nat.le_of_ble_eq_true rfl) (c_has (F := F) (d) h 1 (by omega) (by decide)) ?_
        refine g_icmp_le (tgt := 50) dX7_hostOf_43 (by decide) (fun c43 => ?_) (fun c43 => ?_)
        · skip
          refine g_iconstv (v := 0) dX7_hostOf_50 rfl ?_
          refine g_istore dX7_hostOf_51 (by decide) rfl ?_
          refine g_iload dX7_hostOf_53 rfl ?_
          refine g_if_eq (tgt := 62) dX7_hostOf_55 (by decide) (fun c55 => ?_) (fun c55 => absurd (by decide) c55)
          refine g_iload_n dX7_hostOf_62 rfl ?_
          refine g_istore_n dX7_hostOf_63 (by decide) rfl ?_
          refine g_iincN dX7_hostOf_64 rfl (by decide) rfl ?_
          refine g_goto (tgt := 5) dX7_hostOf_67 (by decide) ?_
          exact ih (k + 1) (some h) _ (by omega) (by rw [mfold_succ, ← eo]; simp only [mHostF, c22, c43, if_true, if_false, reduceIte, eq_self]) (by intro i hi; first | (cases hi; omega) | cases hi)
        · skip
          refine g_iconstv (v := 1) dX7_hostOf_46 rfl ?_
          refine g_goto (tgt := 51) dX7_hostOf_47 (by decide) ?_
          refine g_istore dX7_hostOf_51 (by decide) rfl ?_
          refine g_iload dX7_hostOf_53 rfl ?_
          refine g_if_eq (tgt := 62) dX7_hostOf_55 (by decide) (fun c55 => absurd c55 (by decide)) (fun c55 => ?_)
          refine g_iload_n dX7_hostOf_58 rfl ?_
          refine g_goto (tgt := 63) dX7_hostOf_59 (by decide) ?_
          refine g_istore_n dX7_hostOf_63 (by decide) rfl ?_
          refine g_iincN dX7_hostOf_64 rfl (by decide) rfl ?_
          refine g_goto (tgt := 5) dX7_hostOf_67 (by decide) ?_
          exact ih (k + 1) (some k) _ (by omega) (by rw [mfold_succ, ← eo]; simp only [mHostF, c22, c43, if_true, if_false, reduceIte, eq_self]) (by intro i hi; first | (cases hi; omega) | cases hi)
set_option maxHeartbeats 4000000 in
set_option maxRecDepth 100000 in
theorem c_mHost {L : Nat} {F : Nat → Nat → Int32} {g : Nat → Option Nat} (d : Nat) (n : Nat) (hm : F 173 5 = nI n) (h10 : n ≤ 10) (t : Int32) : mCall (d + 1) yX7_hostOf MX7_hostOf [.ref 172, .int t] (mHX L F g) (some (.int (oI (mHost (mC (F 173) 0) (mC (F 173) 1) t n)))) (mHX L F g) := by
  refine mCall_of sX7_hostOf.1 (Nat.le_of_ble_eq_true rfl) ⟨_, rfl, rfl⟩ ?_
  show mGo _ _ (0, [some (.ref 172), some (.int t), none, none, none], [], _) _
  refine g_bipushv (v := (-6)) dX7_hostOf_0 rfl ?_
  refine g_istore_n dX7_hostOf_2 (by decide) rfl ?_
  refine g_iconstv (v := 0) dX7_hostOf_3 rfl ?_
  refine g_istore_n dX7_hostOf_4 (by decide) rfl ?_
  exact lp_mHost d n hm h10 t n 0 none _ (Nat.zero_add n) rfl (fun h q => by cases q)
set_option maxHeartbeats 4000000 in
set_option maxRecDepth 100000 in
theorem lp_mLend {L : Nat} {F : Nat → Nat → Int32} {g : Nat → Option Nat} (d : Nat) (n : Nat) (hm : F 173 5 = nI n) (h10 : n ≤ 10) (x : Nat) (hx : x < 10) : ∀ (m k : Nat) (o : Option Nat) (j : Option Value), k + m = n → o = mfold (mLendF (mC (F 173) 0) (mC (F 173) 1) (mC (F 173) 3) x) none k → (∀ h, o = some h → h < k) → mGo MX7_lenderFor (d + 1) (5, [some (.ref 172), some (.int (nI x)), some (.int (oI o)), some (.int (nI k)), j], [], mHX L F g) (some (.int (oI (mLend (mC (F 173) 0) (mC (F 173) 1) (mC (F 173) 3) x n))), mHX L F g) := by
  intro m
  induction m with
  | zero =>
    intro k o j hk eo ho
    obtain rfl : k = n := by omega
    refine g_iload_n dX7_lenderFor_5 rfl ?_
    refine g_aload_n dX7_lenderFor_6 rfl ?_
    refine g_gR (r := 173) dX7_lenderFor_7 fl_X7_7 (fun _ _ => rfl) rfl (by decide) rfl ?_
    refine g_iconstv (v := 5) dX7_lenderFor_10 rfl ?_
    refine g_ialdN (gx := 5) dX7_lenderFor_11 rfl (by decide) rfl (by omega) (by decide) ?_
    refine g_icmp_ge (tgt := 89) dX7_lenderFor_12 (by decide) (fun c12 => ?_) (fun c12 => absurd (by rw [hm]; exact Int32.le_refl _) c12)
    refine g_iload_n dX7_lenderFor_89 rfl ?_
    exact g_iret dX7_lenderFor_90 (m_ret (congrArg oI eo.symm))
  | succ m ih =>
    intro k o j hk eo ho
    rcases o with _ | h
    · skip
      refine g_iload_n dX7_lenderFor_5 rfl ?_
      refine g_aload_n dX7_lenderFor_6 rfl ?_
      refine g_gR (r := 173) dX7_lenderFor_7 fl_X7_7 (fun _ _ => rfl) rfl (by decide) rfl ?_
      refine g_iconstv (v := 5) dX7_lenderFor_10 rfl ?_
      refine g_ialdN (gx := 5) dX7_lenderFor_11 rfl (by decide) rfl (by omega) (by decide) ?_
      refine g_icmp_ge (tgt := 89) dX7_lenderFor_12 (by decide) (fun c12 => absurd c12 (by rw [hm]; exact nI_ge (by omega) (by omega))) (fun c12 => ?_)
      refine g_iload_n dX7_lenderFor_15 rfl ?_
      refine g_iload_n dX7_lenderFor_16 rfl ?_
      refine g_icmp_eq (tgt := 48) dX7_lenderFor_17 (by decide) (fun c17 => ?_) (fun c17 => ?_)
      · skip
        refine g_iconstv (v := 0) dX7_lenderFor_48 rfl ?_
        refine g_istore dX7_lenderFor_49 (by decide) rfl ?_
        refine g_iload dX7_lenderFor_51 rfl ?_
        refine g_if_eq (tgt := 81) dX7_lenderFor_53 (by decide) (fun c53 => ?_) (fun c53 => absurd (by decide) c53)
        refine g_iload_n dX7_lenderFor_81 rfl ?_
        refine g_istore_n dX7_lenderFor_82 (by decide) rfl ?_
        refine g_iincN dX7_lenderFor_83 rfl (by decide) rfl ?_
        refine g_goto (tgt := 5) dX7_lenderFor_86 (by decide) ?_
        exact ih (k + 1) none _ (by omega) (by rw [mfold_succ, ← eo]; simp only [mLendF, c17, if_true, if_false, reduceIte, eq_self]) (by intro i hi; first | (cases hi; omega) | cases hi)
      · skip
        refine g_aload_n dX7_lenderFor_20 rfl ?_
        refine g_iload_n dX7_lenderFor_21 rfl ?_
        refine g_iconstv (v := 0) dX7_lenderFor_22 rfl ?_
        refine g_V2i dX7_lenderFor_23 ml_X7_40 sX7_has rfl (by decide) (Nat.le_of_ble_eq_true rfl) (c_has (F := F) (d) k 0 (by omega) (by decide)) ?_
        refine g_aload_n dX7_lenderFor_26 rfl ?_
        refine g_iload_n dX7_lenderFor_27 rfl ?_
        refine g_iconstv (v := 0) dX7_lenderFor_28 rfl ?_
        refine g_V2i dX7_lenderFor_29 ml_X7_40 sX7_has rfl (by decide) (Nat.le_of_ble_eq_true rfl) (c_has (F := F) (d) x 0 (by omega) (by decide)) ?_
        refine g_icmp_ne (tgt := 48) dX7_lenderFor_32 (by decide) (fun c32 => ?_) (fun c32 => ?_)
        · skip
          refine g_iconstv (v := 0) dX7_lenderFor_48 rfl ?_
          refine g_istore dX7_lenderFor_49 (by decide) rfl ?_
          refine g_iload dX7_lenderFor_51 rfl ?_
          refine g_if_eq (tgt := 81) dX7_lenderFor_53 (by decide) (fun c53 => ?_) (fun c53 => absurd (by decide) c53)
          refine g_iload_n dX7_lenderFor_81 rfl ?_
          refine g_istore_n dX7_lenderFor_82 (by decide) rfl ?_
          refine g_iincN dX7_lenderFor_83 rfl (by decide) rfl ?_
          refine g_goto (tgt := 5) dX7_lenderFor_86 (by decide) ?_
          exact ih (k + 1) none _ (by omega) (by rw [mfold_succ, ← eo]; simp only [mLendF, c17, c32, if_true, if_false, reduceIte, eq_self]) (by intro i hi; first | (cases hi; omega) | cases hi)
        · skip
          refine g_aload_n dX7_lenderFor_35 rfl ?_
          refine g_iload_n dX7_lenderFor_36 rfl ?_
          refine g_iconstv (v := 3) dX7_lenderFor_37 rfl ?_
          refine g_V2i dX7_lenderFor_38 ml_X7_40 sX7_has rfl (by decide) (Nat.le_of_ble_eq_true rfl) (c_has (F := F) (d) k 3 (by omega) (by decide)) ?_
          refine g_if_le (tgt := 48) dX7_lenderFor_41 (by decide) (fun c41 => ?_) (fun c41 => ?_)
          · skip
            refine g_iconstv (v := 0) dX7_lenderFor_48 rfl ?_
            refine g_istore dX7_lenderFor_49 (by decide) rfl ?_
            refine g_iload dX7_lenderFor_51 rfl ?_
            refine g_if_eq (tgt := 81) dX7_lenderFor_53 (by decide) (fun c53 => ?_) (fun c53 => absurd (by decide) c53)
            refine g_iload_n dX7_lenderFor_81 rfl ?_
            refine g_istore_n dX7_lenderFor_82 (by decide) rfl ?_
            refine g_iincN dX7_lenderFor_83 rfl (by decide) rfl ?_
            refine g_goto (tgt := 5) dX7_lenderFor_86 (by decide) ?_
            exact ih (k + 1) none _ (by omega) (by rw [mfold_succ, ← eo]; simp only [mLendF, c17, c32, c41, if_true, if_false, reduceIte, eq_self]) (by intro i hi; first | (cases hi; omega) | cases hi)
          · skip
            refine g_iconstv (v := 1) dX7_lenderFor_44 rfl ?_
            refine g_goto (tgt := 49) dX7_lenderFor_45 (by decide) ?_
            refine g_istore dX7_lenderFor_49 (by decide) rfl ?_
            refine g_iload dX7_lenderFor_51 rfl ?_
            refine g_if_eq (tgt := 81) dX7_lenderFor_53 (by decide) (fun c53 => absurd c53 (by decide)) (fun c53 => ?_)
            refine g_iload_n dX7_lenderFor_56 rfl ?_
            refine g_bipushv (v := (-6)) dX7_lenderFor_57 rfl ?_
            refine g_icmp_eq (tgt := 77) dX7_lenderFor_59 (by decide) (fun c59 => ?_) (fun c59 => absurd rfl c59)
            refine g_iload_n dX7_lenderFor_77 rfl ?_
            refine g_goto (tgt := 82) dX7_lenderFor_78 (by decide) ?_
            refine g_istore_n dX7_lenderFor_82 (by decide) rfl ?_
            refine g_iincN dX7_lenderFor_83 rfl (by decide) rfl ?_
            refine g_goto (tgt := 5) dX7_lenderFor_86 (by decide) ?_
            exact ih (k + 1) (some k) _ (by omega) (by rw [mfold_succ, ← eo]; simp only [mLendF, c17, c32, c41, if_true, if_false, reduceIte, eq_self]) (by intro i hi; first | (cases hi; omega) | cases hi)
    · have hh : h < k := ho h rfl
      have hk10 : h < 10 := by omega
      refine g_iload_n dX7_lenderFor_5 rfl ?_
      refine g_aload_n dX7_lenderFor_6 rfl ?_
      refine g_gR (r := 173) dX7_lenderFor_7 fl_X7_7 (fun _ _ => rfl) rfl (by decide) rfl ?_
      refine g_iconstv (v := 5) dX7_lenderFor_10 rfl ?_
      refine g_ialdN (gx := 5) dX7_lenderFor_11 rfl (by decide) rfl (by omega) (by decide) ?_
      refine g_icmp_ge (tgt := 89) dX7_lenderFor_12 (by decide) (fun c12 => absurd c12 (by rw [hm]; exact nI_ge (by omega) (by omega))) (fun c12 => ?_)
      refine g_iload_n dX7_lenderFor_15 rfl ?_
      refine g_iload_n dX7_lenderFor_16 rfl ?_
      refine g_icmp_eq (tgt := 48) dX7_lenderFor_17 (by decide) (fun c17 => ?_) (fun c17 => ?_)
      · skip
        refine g_iconstv (v := 0) dX7_lenderFor_48 rfl ?_
        refine g_istore dX7_lenderFor_49 (by decide) rfl ?_
        refine g_iload dX7_lenderFor_51 rfl ?_
        refine g_if_eq (tgt := 81) dX7_lenderFor_53 (by decide) (fun c53 => ?_) (fun c53 => absurd (by decide) c53)
        refine g_iload_n dX7_lenderFor_81 rfl ?_
        refine g_istore_n dX7_lenderFor_82 (by decide) rfl ?_
        refine g_iincN dX7_lenderFor_83 rfl (by decide) rfl ?_
        refine g_goto (tgt := 5) dX7_lenderFor_86 (by decide) ?_
        exact ih (k + 1) (some h) _ (by omega) (by rw [mfold_succ, ← eo]; simp only [mLendF, c17, if_true, if_false, reduceIte, eq_self]) (by intro i hi; first | (cases hi; omega) | cases hi)
      · skip
        refine g_aload_n dX7_lenderFor_20 rfl ?_
        refine g_iload_n dX7_lenderFor_21 rfl ?_
        refine g_iconstv (v := 0) dX7_lenderFor_22 rfl ?_
        refine g_V2i dX7_lenderFor_23 ml_X7_40 sX7_has rfl (by decide) (Nat.le_of_ble_eq_true rfl) (c_has (F := F) (d) k 0 (by omega) (by decide)) ?_
        refine g_aload_n dX7_lenderFor_26 rfl ?_
        refine g_iload_n dX7_lenderFor_27 rfl ?_
        refine g_iconstv (v := 0) dX7_lenderFor_28 rfl ?_
        refine g_V2i dX7_lenderFor_29 ml_X7_40 sX7_has rfl (by decide) (Nat.le_of_ble_eq_true rfl) (c_has (F := F) (d) x 0 (by omega) (by decide)) ?_
        refine g_icmp_ne (tgt := 48) dX7_lenderFor_32 (by decide) (fun c32 => ?_) (fun c32 => ?_)
        · skip
          refine g_iconstv (v := 0) dX7_lenderFor_48 rfl ?_
          refine g_istore dX7_lenderFor_49 (by decide) rfl ?_
          refine g_iload dX7_lenderFor_51 rfl ?_
          refine g_if_eq (tgt := 81) dX7_lenderFor_53 (by decide) (fun c53 => ?_) (fun c53 => absurd (by decide) c53)
          refine g_iload_n dX7_lenderFor_81 rfl ?_
          refine g_istore_n dX7_lenderFor_82 (by decide) rfl ?_
          refine g_iincN dX7_lenderFor_83 rfl (by decide) rfl ?_
          refine g_goto (tgt := 5) dX7_lenderFor_86 (by decide) ?_
          exact ih (k + 1) (some h) _ (by omega) (by rw [mfold_succ, ← eo]; simp only [mLendF, c17, c32, if_true, if_false, reduceIte, eq_self]) (by intro i hi; first | (cases hi; omega) | cases hi)
        · skip
          refine g_aload_n dX7_lenderFor_35 rfl ?_
          refine g_iload_n dX7_lenderFor_36 rfl ?_
          refine g_iconstv (v := 3) dX7_lenderFor_37 rfl ?_
          refine g_V2i dX7_lenderFor_38 ml_X7_40 sX7_has rfl (by decide) (Nat.le_of_ble_eq_true rfl) (c_has (F := F) (d) k 3 (by omega) (by decide)) ?_
          refine g_if_le (tgt := 48) dX7_lenderFor_41 (by decide) (fun c41 => ?_) (fun c41 => ?_)
          · skip
            refine g_iconstv (v := 0) dX7_lenderFor_48 rfl ?_
            refine g_istore dX7_lenderFor_49 (by decide) rfl ?_
            refine g_iload dX7_lenderFor_51 rfl ?_
            refine g_if_eq (tgt := 81) dX7_lenderFor_53 (by decide) (fun c53 => ?_) (fun c53 => absurd (by decide) c53)
            refine g_iload_n dX7_lenderFor_81 rfl ?_
            refine g_istore_n dX7_lenderFor_82 (by decide) rfl ?_
            refine g_iincN dX7_lenderFor_83 rfl (by decide) rfl ?_
            refine g_goto (tgt := 5) dX7_lenderFor_86 (by decide) ?_
            exact ih (k + 1) (some h) _ (by omega) (by rw [mfold_succ, ← eo]; simp only [mLendF, c17, c32, c41, if_true, if_false, reduceIte, eq_self]) (by intro i hi; first | (cases hi; omega) | cases hi)
          · skip
            refine g_iconstv (v := 1) dX7_lenderFor_44 rfl ?_
            refine g_goto (tgt := 49) dX7_lenderFor_45 (by decide) ?_
            refine g_istore dX7_lenderFor_49 (by decide) rfl ?_
            refine g_iload dX7_lenderFor_51 rfl ?_
            refine g_if_eq (tgt := 81) dX7_lenderFor_53 (by decide) (fun c53 => absurd c53 (by decide)) (fun c53 => ?_)
            refine g_iload_n dX7_lenderFor_56 rfl ?_
            refine g_bipushv (v := (-6)) dX7_lenderFor_57 rfl ?_
            refine g_icmp_eq (tgt := 77) dX7_lenderFor_59 (by decide) (fun c59 => absurd c59 (m_ne6 (by omega))) (fun c59 => ?_)
            refine g_aload_n dX7_lenderFor_62 rfl ?_
            refine g_iload_n dX7_lenderFor_63 rfl ?_
            refine g_iconstv (v := 1) dX7_lenderFor_64 rfl ?_
            refine g_V2i dX7_lenderFor_65 ml_X7_40 sX7_has rfl (by decide) (Nat.le_of_ble_eq_true rfl) (c_has (F := F) (d) k 1 (by omega) (by decide)) ?_
            refine g_aload_n dX7_lenderFor_68 rfl ?_
            refine g_iload_n dX7_lenderFor_69 rfl ?_
            refine g_iconstv (v := 1) dX7_lenderFor_70 rfl ?_
            refine g_V2i dX7_lenderFor_71 ml_X7_40 sX7_has rfl (by decide) (Nat.le_of_ble_eq_true rfl) (c_has (F := F) (d) h 1 (by omega) (by decide)) ?_
            refine g_icmp_ge (tgt := 81) dX7_lenderFor_74 (by decide) (fun c74 => ?_) (fun c74 => ?_)
            · skip
              refine g_iload_n dX7_lenderFor_81 rfl ?_
              refine g_istore_n dX7_lenderFor_82 (by decide) rfl ?_
              refine g_iincN dX7_lenderFor_83 rfl (by decide) rfl ?_
              refine g_goto (tgt := 5) dX7_lenderFor_86 (by decide) ?_
              exact ih (k + 1) (some h) _ (by omega) (by rw [mfold_succ, ← eo]; simp only [mLendF, c17, c32, c41, c74, if_true, if_false, reduceIte, eq_self]) (by intro i hi; first | (cases hi; omega) | cases hi)
            · skip
              refine g_iload_n dX7_lenderFor_77 rfl ?_
              refine g_goto (tgt := 82) dX7_lenderFor_78 (by decide) ?_
              refine g_istore_n dX7_lenderFor_82 (by decide) rfl ?_
              refine g_iincN dX7_lenderFor_83 rfl (by decide) rfl ?_
              refine g_goto (tgt := 5) dX7_lenderFor_86 (by decide) ?_
              exact ih (k + 1) (some k) _ (by omega) (by rw [mfold_succ, ← eo]; simp only [mLendF, c17, c32, c41, c74, if_true, if_false, reduceIte, eq_self]) (by intro i hi; first | (cases hi; omega) | cases hi)
set_option maxHeartbeats 4000000 in
set_option maxRecDepth 100000 in
theorem c_mLend {L : Nat} {F : Nat → Nat → Int32} {g : Nat → Option Nat} (d : Nat) (n : Nat) (hm : F 173 5 = nI n) (h10 : n ≤ 10) (x : Nat) (hx : x < 10) : mCall (d + 1) yX7_lenderFor MX7_lenderFor [.ref 172, .int (nI x)] (mHX L F g) (some (.int (oI (mLend (mC (F 173) 0) (mC (F 173) 1) (mC (F 173) 3) x n)))) (mHX L F g) := by
  refine mCall_of sX7_lenderFor.1 (Nat.le_of_ble_eq_true rfl) ⟨_, rfl, rfl⟩ ?_
  show mGo _ _ (0, [some (.ref 172), some (.int (nI x)), none, none, none], [], _) _
  refine g_bipushv (v := (-6)) dX7_lenderFor_0 rfl ?_
  refine g_istore_n dX7_lenderFor_2 (by decide) rfl ?_
  refine g_iconstv (v := 0) dX7_lenderFor_3 rfl ?_
  refine g_istore_n dX7_lenderFor_4 (by decide) rfl ?_
  exact lp_mLend d n hm h10 x hx n 0 none _ (Nat.zero_add n) rfl (fun h q => by cases q)
def mLoF (Q : Nat → Int32) (x : Int32) (a : Int32 × Int32) (k : Nat) : Int32 × Int32 := if (x >>> (nI k &&& 31)) &&& 1 = 1 then ((if a.1 ≤ Q k then a.1 else Q k), (if Q k ≤ a.2 then a.2 else Q k)) else a
def mLo (Q : Nat → Int32) (x : Int32) (n : Nat) : Int32 × Int32 := mfold (mLoF Q x) (9, 1) n
theorem mLo_succ (Q : Nat → Int32) (x : Int32) (k : Nat) : mLo Q x (k + 1) = mLoF Q x (mLo Q x k) k := rfl
def mComp (Q : Nat → Int32) (x : Int32) (n : Nat) : Int32 := if 3 ≤ sOnes x then (if (mLo Q x n).1 = (mLo Q x n).2 then 3 else 4) else sOnes x
set_option maxHeartbeats 4000000 in
set_option maxRecDepth 100000 in
theorem lp_mComp {L : Nat} {F : Nat → Nat → Int32} {g : Nat → Option Nat} (d : Nat) (n : Nat) (hm : F 173 5 = nI n) (h10 : n ≤ 10) (x : Int32) (h3 : 3 ≤ sOnes x) : ∀ (m k : Nat) (a : Int32) (b : Int32) (j : Option Value), k + m = n → a = (mLo (mC (F 173) 1) x k).1 → b = (mLo (mC (F 173) 1) x k).2 → j = j → mGo MX7_companyOf (d + 1) (21, [some (.ref 172), some (.int x), some (.int (sOnes x)), some (.int a), some (.int b), some (.int (nI k)), j], [], mHX L F g) (some (.int (mComp (mC (F 173) 1) x n)), mHX L F g) := by
  intro m
  induction m with
  | zero =>
    intro k a b j hk ea eb ej
    obtain rfl : k = n := by omega
    refine g_iload dX7_companyOf_21 rfl ?_
    refine g_aload_n dX7_companyOf_23 rfl ?_
    refine g_gR (r := 173) dX7_companyOf_24 fl_X7_7 (fun _ _ => rfl) rfl (by decide) rfl ?_
    refine g_iconstv (v := 5) dX7_companyOf_27 rfl ?_
    refine g_ialdN (gx := 5) dX7_companyOf_28 rfl (by decide) rfl (by omega) (by decide) ?_
    refine g_icmp_ge (tgt := 114) dX7_companyOf_29 (by decide) (fun c29 => ?_) (fun c29 => absurd (by rw [hm]; exact Int32.le_refl _) c29)
    refine g_iload_n dX7_companyOf_114 rfl ?_
    refine g_iload dX7_companyOf_115 rfl ?_
    refine g_icmp_ne (tgt := 124) dX7_companyOf_117 (by decide) (fun c117 => ?_) (fun c117 => ?_)
    · skip
      refine g_iconstv (v := 4) dX7_companyOf_124 rfl ?_
      exact g_iret dX7_companyOf_125 (m_ret (by subst ea; subst eb; simp only [mComp, if_pos h3]; first | rw [if_neg c117] | rw [if_pos c117]))
    · skip
      refine g_iconstv (v := 3) dX7_companyOf_120 rfl ?_
      refine g_goto (tgt := 125) dX7_companyOf_121 (by decide) ?_
      exact g_iret dX7_companyOf_125 (m_ret (by subst ea; subst eb; simp only [mComp, if_pos h3]; first | rw [if_neg c117] | rw [if_pos c117]))
  | succ m ih =>
    intro k a b j hk ea eb ej
    refine g_iload dX7_companyOf_21 rfl ?_
    refine g_aload_n dX7_companyOf_23 rfl ?_
    refine g_gR (r := 173) dX7_companyOf_24 fl_X7_7 (fun _ _ => rfl) rfl (by decide) rfl ?_
    refine g_iconstv (v := 5) dX7_companyOf_27 rfl ?_
    refine g_ialdN (gx := 5) dX7_companyOf_28 rfl (by decide) rfl (by omega) (by decide) ?_
    refine g_icmp_ge (tgt := 114) dX7_companyOf_29 (by decide) (fun c29 => absurd c29 (by rw [hm]; exact nI_ge (by omega) (by omega))) (fun c29 => ?_)
    refine g_iload_n dX7_companyOf_32 rfl ?_
    refine g_iload dX7_companyOf_33 rfl ?_
    refine g_ishr dX7_companyOf_35 ?_
    refine g_iconstv (v := 1) dX7_companyOf_36 rfl ?_
    refine g_iand dX7_companyOf_37 ?_
    refine g_iconstv (v := 1) dX7_companyOf_38 rfl ?_
    refine g_icmp_ne (tgt := 46) dX7_companyOf_39 (by decide) (fun c39 => ?_) (fun c39 => ?_)
    · skip
      refine g_iconstv (v := 0) dX7_companyOf_46 rfl ?_
      refine g_istore dX7_companyOf_47 (by decide) rfl ?_
      refine g_iload dX7_companyOf_49 rfl ?_
      refine g_if_eq (tgt := 75) dX7_companyOf_51 (by decide) (fun c51 => ?_) (fun c51 => absurd (by decide) c51)
      refine g_iload_n dX7_companyOf_75 rfl ?_
      refine g_istore_n dX7_companyOf_76 (by decide) rfl ?_
      refine g_iload dX7_companyOf_77 rfl ?_
      refine g_if_eq (tgt := 104) dX7_companyOf_79 (by decide) (fun c79 => ?_) (fun c79 => absurd (by decide) c79)
      refine g_iload dX7_companyOf_104 rfl ?_
      refine g_istore dX7_companyOf_106 (by decide) rfl ?_
      refine g_iincN dX7_companyOf_108 rfl (by decide) rfl ?_
      refine g_goto (tgt := 21) dX7_companyOf_111 (by decide) ?_
      exact ih (k + 1) _ _ _ (by omega) (by subst ea; subst eb; rw [mLo_succ]; simp only [mLoF, c39, if_true, if_false, reduceIte, eq_self]) (by subst ea; subst eb; rw [mLo_succ]; simp only [mLoF, c39, if_true, if_false, reduceIte, eq_self]) rfl
    · skip
      refine g_iconstv (v := 1) dX7_companyOf_42 rfl ?_
      refine g_goto (tgt := 47) dX7_companyOf_43 (by decide) ?_
      refine g_istore dX7_companyOf_47 (by decide) rfl ?_
      refine g_iload dX7_companyOf_49 rfl ?_
      refine g_if_eq (tgt := 75) dX7_companyOf_51 (by decide) (fun c51 => absurd c51 (by decide)) (fun c51 => ?_)
      refine g_aload_n dX7_companyOf_54 rfl ?_
      refine g_iload dX7_companyOf_55 rfl ?_
      refine g_iconstv (v := 1) dX7_companyOf_57 rfl ?_
      refine g_V2i dX7_companyOf_58 ml_X7_40 sX7_has rfl (by decide) (Nat.le_of_ble_eq_true rfl) (c_has (F := F) (d) k 1 (by omega) (by decide)) ?_
      refine g_iload_n dX7_companyOf_61 rfl ?_
      refine g_icmp_ge (tgt := 75) dX7_companyOf_62 (by decide) (fun c62 => ?_) (fun c62 => ?_)
      · skip
        refine g_iload_n dX7_companyOf_75 rfl ?_
        refine g_istore_n dX7_companyOf_76 (by decide) rfl ?_
        refine g_iload dX7_companyOf_77 rfl ?_
        refine g_if_eq (tgt := 104) dX7_companyOf_79 (by decide) (fun c79 => absurd c79 (by decide)) (fun c79 => ?_)
        refine g_aload_n dX7_companyOf_82 rfl ?_
        refine g_iload dX7_companyOf_83 rfl ?_
        refine g_iconstv (v := 1) dX7_companyOf_85 rfl ?_
        refine g_V2i dX7_companyOf_86 ml_X7_40 sX7_has rfl (by decide) (Nat.le_of_ble_eq_true rfl) (c_has (F := F) (d) k 1 (by omega) (by decide)) ?_
        refine g_iload dX7_companyOf_89 rfl ?_
        refine g_icmp_le (tgt := 104) dX7_companyOf_91 (by decide) (fun c91 => ?_) (fun c91 => ?_)
        · skip
          refine g_iload dX7_companyOf_104 rfl ?_
          refine g_istore dX7_companyOf_106 (by decide) rfl ?_
          refine g_iincN dX7_companyOf_108 rfl (by decide) rfl ?_
          refine g_goto (tgt := 21) dX7_companyOf_111 (by decide) ?_
          exact ih (k + 1) _ _ _ (by omega) (by subst ea; subst eb; rw [mLo_succ]; simp only [mLoF, c39, c62, c91, if_true, if_false, reduceIte, eq_self]) (by subst ea; subst eb; rw [mLo_succ]; simp only [mLoF, c39, c62, c91, if_true, if_false, reduceIte, eq_self]) rfl
        · skip
          refine g_aload_n dX7_companyOf_94 rfl ?_
          refine g_iload dX7_companyOf_95 rfl ?_
          refine g_iconstv (v := 1) dX7_companyOf_97 rfl ?_
          refine g_V2i dX7_companyOf_98 ml_X7_40 sX7_has rfl (by decide) (Nat.le_of_ble_eq_true rfl) (c_has (F := F) (d) k 1 (by omega) (by decide)) ?_
          refine g_goto (tgt := 106) dX7_companyOf_101 (by decide) ?_
          refine g_istore dX7_companyOf_106 (by decide) rfl ?_
          refine g_iincN dX7_companyOf_108 rfl (by decide) rfl ?_
          refine g_goto (tgt := 21) dX7_companyOf_111 (by decide) ?_
          exact ih (k + 1) _ _ _ (by omega) (by subst ea; subst eb; rw [mLo_succ]; simp only [mLoF, c39, c62, c91, if_true, if_false, reduceIte, eq_self]) (by subst ea; subst eb; rw [mLo_succ]; simp only [mLoF, c39, c62, c91, if_true, if_false, reduceIte, eq_self]) rfl
      · skip
        refine g_aload_n dX7_companyOf_65 rfl ?_
        refine g_iload dX7_companyOf_66 rfl ?_
        refine g_iconstv (v := 1) dX7_companyOf_68 rfl ?_
        refine g_V2i dX7_companyOf_69 ml_X7_40 sX7_has rfl (by decide) (Nat.le_of_ble_eq_true rfl) (c_has (F := F) (d) k 1 (by omega) (by decide)) ?_
        refine g_goto (tgt := 76) dX7_companyOf_72 (by decide) ?_
        refine g_istore_n dX7_companyOf_76 (by decide) rfl ?_
        refine g_iload dX7_companyOf_77 rfl ?_
        refine g_if_eq (tgt := 104) dX7_companyOf_79 (by decide) (fun c79 => absurd c79 (by decide)) (fun c79 => ?_)
        refine g_aload_n dX7_companyOf_82 rfl ?_
        refine g_iload dX7_companyOf_83 rfl ?_
        refine g_iconstv (v := 1) dX7_companyOf_85 rfl ?_
        refine g_V2i dX7_companyOf_86 ml_X7_40 sX7_has rfl (by decide) (Nat.le_of_ble_eq_true rfl) (c_has (F := F) (d) k 1 (by omega) (by decide)) ?_
        refine g_iload dX7_companyOf_89 rfl ?_
        refine g_icmp_le (tgt := 104) dX7_companyOf_91 (by decide) (fun c91 => ?_) (fun c91 => ?_)
        · skip
          refine g_iload dX7_companyOf_104 rfl ?_
          refine g_istore dX7_companyOf_106 (by decide) rfl ?_
          refine g_iincN dX7_companyOf_108 rfl (by decide) rfl ?_
          refine g_goto (tgt := 21) dX7_companyOf_111 (by decide) ?_
          exact ih (k + 1) _ _ _ (by omega) (by subst ea; subst eb; rw [mLo_succ]; simp only [mLoF, c39, c62, c91, if_true, if_false, reduceIte, eq_self]) (by subst ea; subst eb; rw [mLo_succ]; simp only [mLoF, c39, c62, c91, if_true, if_false, reduceIte, eq_self]) rfl
        · skip
          refine g_aload_n dX7_companyOf_94 rfl ?_
          refine g_iload dX7_companyOf_95 rfl ?_
          refine g_iconstv (v := 1) dX7_companyOf_97 rfl ?_
          refine g_V2i dX7_companyOf_98 ml_X7_40 sX7_has rfl (by decide) (Nat.le_of_ble_eq_true rfl) (c_has (F := F) (d) k 1 (by omega) (by decide)) ?_
          refine g_goto (tgt := 106) dX7_companyOf_101 (by decide) ?_
          refine g_istore dX7_companyOf_106 (by decide) rfl ?_
          refine g_iincN dX7_companyOf_108 rfl (by decide) rfl ?_
          refine g_goto (tgt := 21) dX7_companyOf_111 (by decide) ?_
          exact ih (k + 1) _ _ _ (by omega) (by subst ea; subst eb; rw [mLo_succ]; simp only [mLoF, c39, c62, c91, if_true, if_false, reduceIte, eq_self]) (by subst ea; subst eb; rw [mLo_succ]; simp only [mLoF, c39, c62, c91, if_true, if_false, reduceIte, eq_self]) rfl
set_option maxHeartbeats 4000000 in
set_option maxRecDepth 100000 in
theorem c_mComp {L : Nat} {F : Nat → Nat → Int32} {g : Nat → Option Nat} (d : Nat) (n : Nat) (hm : F 173 5 = nI n) (h10 : n ≤ 10) (x : Int32) : mCall (d + 1) yX7_companyOf MX7_companyOf [.ref 172, .int x] (mHX L F g) (some (.int (mComp (mC (F 173) 1) x n))) (mHX L F g) := by
  refine mCall_of sX7_companyOf.1 (Nat.le_of_ble_eq_true rfl) ⟨_, rfl, rfl⟩ ?_
  show mGo _ _ (0, [some (.ref 172), some (.int x), none, none, none, none, none], [], _) _
  refine g_iload_n dX7_companyOf_0 rfl ?_
  refine g_S1i dX7_companyOf_1 ml_X7_44 sX7_ones (Nat.le_of_ble_eq_true rfl) (c_ones d x) ?_
  refine g_istore_n dX7_companyOf_4 (by decide) rfl ?_
  refine g_iload_n dX7_companyOf_5 rfl ?_
  refine g_iconstv (v := 3) dX7_companyOf_6 rfl ?_
  refine g_icmp_ge (tgt := 12) dX7_companyOf_7 (by decide) (fun c7 => ?_) (fun c7 => ?_)
  · skip
    refine g_bipushv (v := 9) dX7_companyOf_12 rfl ?_
    refine g_istore_n dX7_companyOf_14 (by decide) rfl ?_
    refine g_iconstv (v := 1) dX7_companyOf_15 rfl ?_
    refine g_istore dX7_companyOf_16 (by decide) rfl ?_
    refine g_iconstv (v := 0) dX7_companyOf_18 rfl ?_
    refine g_istore dX7_companyOf_19 (by decide) rfl ?_
    exact lp_mComp d n hm h10 x c7 n 0 _ _ _ (Nat.zero_add n) rfl rfl rfl
  · skip
    refine g_iload_n dX7_companyOf_10 rfl ?_
    exact g_iret dX7_companyOf_11 (m_ret (by simp only [mComp, if_neg c7]))
def mSh (a b q : Nat) : Nat := if (q - a) / b < 3 then (q - a) / b else 3
def mMean (a b c q : Nat) : Int32 := if q < a then 0 else mMB (c * 4 + mSh a b q)
theorem mSh_cases (a b q : Nat) : ((q - a) / b = 0 ∧ mSh a b q = 0) ∨ ((q - a) / b = 1 ∧ mSh a b q = 1) ∨ ((q - a) / b = 2 ∧ mSh a b q = 2) ∨ (3 ≤ (q - a) / b ∧ mSh a b q = 3) := by
  unfold mSh
  generalize (q - a) / b = z
  split <;> omega
set_option maxHeartbeats 4000000 in
set_option maxRecDepth 100000 in
theorem c_mm_lo {L : Nat} {F : Nat → Nat → Int32} {g : Nat → Option Nat} (d : Nat) (a b c q : Nat) (ea : F 173 0 = nI a) (eb : F 173 1 = nI b) (ha : a ≤ 20) (hb : 1 ≤ b) (hb2 : b ≤ 20) (hq : q ≤ 20000) (h : q < a) : mCall (d) yX7_means MX7_means [.ref 172, .int (nI c), .int (nI q)] (mHX L F g) (some (.int (mMean a b c q))) (mHX L F g) := by
  refine mCall_of sX7_means.1 (Nat.le_of_ble_eq_true rfl) ⟨_, rfl, rfl⟩ ?_
  show mGo _ _ (0, [some (.ref 172), some (.int (nI c)), some (.int (nI q)), none], [], _) _
  refine g_iload_n dX7_means_0 rfl ?_
  refine g_aload_n dX7_means_1 rfl ?_
  refine g_gR (r := 173) dX7_means_2 fl_X7_7 (fun _ _ => rfl) rfl (by decide) rfl ?_
  refine g_iconstv (v := 0) dX7_means_5 rfl ?_
  refine g_ialdN (gx := 0) dX7_means_6 rfl (by decide) rfl (by omega) (by decide) ?_
  refine g_icmp_ge (tgt := 12) dX7_means_7 (by decide) (fun c7 => absurd c7 (by rw [ea]; exact nI_ge h (by omega))) (fun c7 => ?_)
  refine g_iconstv (v := 0) dX7_means_10 rfl ?_
  exact g_iret dX7_means_11 (m_ret (by simp only [mMean, if_pos h]))
set_option maxHeartbeats 4000000 in
set_option maxRecDepth 100000 in
theorem c_mm_0 {L : Nat} {F : Nat → Nat → Int32} {g : Nat → Option Nat} (d : Nat) (a b q : Nat) (ea : F 173 0 = nI a) (eb : F 173 1 = nI b) (ha : a ≤ 20) (hb : 1 ≤ b) (hb2 : b ≤ 20) (hq : q ≤ 20000) (h : a ≤ q) : mCall d yX7_means MX7_means [.ref 172, .int 0, .int (nI q)] (mHX L F g) (some (.int (mMean a b 0 q))) (mHX L F g) := by
  refine mCall_of sX7_means.1 (Nat.le_of_ble_eq_true rfl) ⟨_, rfl, rfl⟩ ?_
  have em : mMean a b 0 q = mMB (0 * 4 + mSh a b q) := if_neg (Nat.not_lt.mpr h)
  rw [em]
  rcases mSh_cases a b q with ⟨e1, e2⟩ | ⟨e1, e2⟩ | ⟨e1, e2⟩ | ⟨e1, e2⟩
  · rw [e2]
    show mGo _ _ (0, [some (.ref 172), some (.int 0), some (.int (nI q)), none], [], _) _
    refine g_iload_n dX7_means_0 rfl ?_
    refine g_aload_n dX7_means_1 rfl ?_
    refine g_gR (r := 173) dX7_means_2 fl_X7_7 (fun _ _ => rfl) rfl (by decide) rfl ?_
    refine g_iconstv (v := 0) dX7_means_5 rfl ?_
    refine g_ialdN (gx := 0) dX7_means_6 rfl (by decide) rfl (by omega) (by decide) ?_
    refine g_icmp_ge (tgt := 12) dX7_means_7 (by decide) (fun c7 => ?_) (fun c7 => absurd (by rw [ea]; exact nI_le h (by omega)) c7)
    refine g_iload_n dX7_means_12 rfl ?_
    refine g_aload_n dX7_means_13 rfl ?_
    refine g_gR (r := 173) dX7_means_14 fl_X7_7 (fun _ _ => rfl) rfl (by decide) rfl ?_
    refine g_iconstv (v := 0) dX7_means_17 rfl ?_
    refine g_ialdN (gx := 0) dX7_means_18 rfl (by decide) rfl (by omega) (by decide) ?_
    refine g_isub dX7_means_19 ?_
    refine g_aload_n dX7_means_20 rfl ?_
    refine g_gR (r := 173) dX7_means_21 fl_X7_7 (fun _ _ => rfl) rfl (by decide) rfl ?_
    refine g_iconstv (v := 1) dX7_means_24 rfl ?_
    refine g_ialdN (gx := 1) dX7_means_25 rfl (by decide) rfl (by omega) (by decide) ?_
    refine g_idiv dX7_means_26 (by rw [eb]; exact nI_ne0 (by omega) (by omega)) ?_
    rw [ea, eb, pk_sub h, pk_div (by omega) (by omega) (by omega), e1]
    refine g_istore_n dX7_means_27 (by decide) rfl ?_
    refine g_iload_n dX7_means_28 rfl ?_
    refine g_iconstv (v := 3) dX7_means_29 rfl ?_
    refine g_icmp_le (tgt := 37) dX7_means_30 (by decide) (fun c30 => ?_) (fun c30 => absurd (by decide) c30)
    refine g_iload_n dX7_means_37 rfl ?_
    refine g_istore_n dX7_means_38 (by decide) rfl ?_
    refine g_iload_n dX7_means_39 rfl ?_
    refine g_tabIn (off := 32) (tgt := 72) dX7_means_40 (by decide) (by decide) rfl (by decide) ?_
    refine g_iconstv (v := 0) dX7_means_72 rfl ?_
    exact g_iret dX7_means_73 (m_ret (by decide))
  · rw [e2]
    show mGo _ _ (0, [some (.ref 172), some (.int 0), some (.int (nI q)), none], [], _) _
    refine g_iload_n dX7_means_0 rfl ?_
    refine g_aload_n dX7_means_1 rfl ?_
    refine g_gR (r := 173) dX7_means_2 fl_X7_7 (fun _ _ => rfl) rfl (by decide) rfl ?_
    refine g_iconstv (v := 0) dX7_means_5 rfl ?_
    refine g_ialdN (gx := 0) dX7_means_6 rfl (by decide) rfl (by omega) (by decide) ?_
    refine g_icmp_ge (tgt := 12) dX7_means_7 (by decide) (fun c7 => ?_) (fun c7 => absurd (by rw [ea]; exact nI_le h (by omega)) c7)
    refine g_iload_n dX7_means_12 rfl ?_
    refine g_aload_n dX7_means_13 rfl ?_
    refine g_gR (r := 173) dX7_means_14 fl_X7_7 (fun _ _ => rfl) rfl (by decide) rfl ?_
    refine g_iconstv (v := 0) dX7_means_17 rfl ?_
    refine g_ialdN (gx := 0) dX7_means_18 rfl (by decide) rfl (by omega) (by decide) ?_
    refine g_isub dX7_means_19 ?_
    refine g_aload_n dX7_means_20 rfl ?_
    refine g_gR (r := 173) dX7_means_21 fl_X7_7 (fun _ _ => rfl) rfl (by decide) rfl ?_
    refine g_iconstv (v := 1) dX7_means_24 rfl ?_
    refine g_ialdN (gx := 1) dX7_means_25 rfl (by decide) rfl (by omega) (by decide) ?_
    refine g_idiv dX7_means_26 (by rw [eb]; exact nI_ne0 (by omega) (by omega)) ?_
    rw [ea, eb, pk_sub h, pk_div (by omega) (by omega) (by omega), e1]
    refine g_istore_n dX7_means_27 (by decide) rfl ?_
    refine g_iload_n dX7_means_28 rfl ?_
    refine g_iconstv (v := 3) dX7_means_29 rfl ?_
    refine g_icmp_le (tgt := 37) dX7_means_30 (by decide) (fun c30 => ?_) (fun c30 => absurd (by decide) c30)
    refine g_iload_n dX7_means_37 rfl ?_
    refine g_istore_n dX7_means_38 (by decide) rfl ?_
    refine g_iload_n dX7_means_39 rfl ?_
    refine g_tabIn (off := 32) (tgt := 72) dX7_means_40 (by decide) (by decide) rfl (by decide) ?_
    refine g_iconstv (v := 0) dX7_means_72 rfl ?_
    exact g_iret dX7_means_73 (m_ret (by decide))
  · rw [e2]
    show mGo _ _ (0, [some (.ref 172), some (.int 0), some (.int (nI q)), none], [], _) _
    refine g_iload_n dX7_means_0 rfl ?_
    refine g_aload_n dX7_means_1 rfl ?_
    refine g_gR (r := 173) dX7_means_2 fl_X7_7 (fun _ _ => rfl) rfl (by decide) rfl ?_
    refine g_iconstv (v := 0) dX7_means_5 rfl ?_
    refine g_ialdN (gx := 0) dX7_means_6 rfl (by decide) rfl (by omega) (by decide) ?_
    refine g_icmp_ge (tgt := 12) dX7_means_7 (by decide) (fun c7 => ?_) (fun c7 => absurd (by rw [ea]; exact nI_le h (by omega)) c7)
    refine g_iload_n dX7_means_12 rfl ?_
    refine g_aload_n dX7_means_13 rfl ?_
    refine g_gR (r := 173) dX7_means_14 fl_X7_7 (fun _ _ => rfl) rfl (by decide) rfl ?_
    refine g_iconstv (v := 0) dX7_means_17 rfl ?_
    refine g_ialdN (gx := 0) dX7_means_18 rfl (by decide) rfl (by omega) (by decide) ?_
    refine g_isub dX7_means_19 ?_
    refine g_aload_n dX7_means_20 rfl ?_
    refine g_gR (r := 173) dX7_means_21 fl_X7_7 (fun _ _ => rfl) rfl (by decide) rfl ?_
    refine g_iconstv (v := 1) dX7_means_24 rfl ?_
    refine g_ialdN (gx := 1) dX7_means_25 rfl (by decide) rfl (by omega) (by decide) ?_
    refine g_idiv dX7_means_26 (by rw [eb]; exact nI_ne0 (by omega) (by omega)) ?_
    rw [ea, eb, pk_sub h, pk_div (by omega) (by omega) (by omega), e1]
    refine g_istore_n dX7_means_27 (by decide) rfl ?_
    refine g_iload_n dX7_means_28 rfl ?_
    refine g_iconstv (v := 3) dX7_means_29 rfl ?_
    refine g_icmp_le (tgt := 37) dX7_means_30 (by decide) (fun c30 => ?_) (fun c30 => absurd (by decide) c30)
    refine g_iload_n dX7_means_37 rfl ?_
    refine g_istore_n dX7_means_38 (by decide) rfl ?_
    refine g_iload_n dX7_means_39 rfl ?_
    refine g_tabIn (off := 32) (tgt := 72) dX7_means_40 (by decide) (by decide) rfl (by decide) ?_
    refine g_iconstv (v := 0) dX7_means_72 rfl ?_
    exact g_iret dX7_means_73 (m_ret (by decide))
  · rw [e2]
    show mGo _ _ (0, [some (.ref 172), some (.int 0), some (.int (nI q)), none], [], _) _
    by_cases e3 : (q - a) / b = 3
    · skip
      refine g_iload_n dX7_means_0 rfl ?_
      refine g_aload_n dX7_means_1 rfl ?_
      refine g_gR (r := 173) dX7_means_2 fl_X7_7 (fun _ _ => rfl) rfl (by decide) rfl ?_
      refine g_iconstv (v := 0) dX7_means_5 rfl ?_
      refine g_ialdN (gx := 0) dX7_means_6 rfl (by decide) rfl (by omega) (by decide) ?_
      refine g_icmp_ge (tgt := 12) dX7_means_7 (by decide) (fun c7 => ?_) (fun c7 => absurd (by rw [ea]; exact nI_le h (by omega)) c7)
      refine g_iload_n dX7_means_12 rfl ?_
      refine g_aload_n dX7_means_13 rfl ?_
      refine g_gR (r := 173) dX7_means_14 fl_X7_7 (fun _ _ => rfl) rfl (by decide) rfl ?_
      refine g_iconstv (v := 0) dX7_means_17 rfl ?_
      refine g_ialdN (gx := 0) dX7_means_18 rfl (by decide) rfl (by omega) (by decide) ?_
      refine g_isub dX7_means_19 ?_
      refine g_aload_n dX7_means_20 rfl ?_
      refine g_gR (r := 173) dX7_means_21 fl_X7_7 (fun _ _ => rfl) rfl (by decide) rfl ?_
      refine g_iconstv (v := 1) dX7_means_24 rfl ?_
      refine g_ialdN (gx := 1) dX7_means_25 rfl (by decide) rfl (by omega) (by decide) ?_
      refine g_idiv dX7_means_26 (by rw [eb]; exact nI_ne0 (by omega) (by omega)) ?_
      rw [ea, eb, pk_sub h, pk_div (by omega) (by omega) (by omega), e3]
      refine g_istore_n dX7_means_27 (by decide) rfl ?_
      refine g_iload_n dX7_means_28 rfl ?_
      refine g_iconstv (v := 3) dX7_means_29 rfl ?_
      refine g_icmp_le (tgt := 37) dX7_means_30 (by decide) (fun c30 => ?_) (fun c30 => absurd (by decide) c30)
      refine g_iload_n dX7_means_37 rfl ?_
      refine g_istore_n dX7_means_38 (by decide) rfl ?_
      refine g_iload_n dX7_means_39 rfl ?_
      refine g_tabIn (off := 32) (tgt := 72) dX7_means_40 (by decide) (by decide) rfl (by decide) ?_
      refine g_iconstv (v := 0) dX7_means_72 rfl ?_
      exact g_iret dX7_means_73 (m_ret (by decide))
    · skip
      refine g_iload_n dX7_means_0 rfl ?_
      refine g_aload_n dX7_means_1 rfl ?_
      refine g_gR (r := 173) dX7_means_2 fl_X7_7 (fun _ _ => rfl) rfl (by decide) rfl ?_
      refine g_iconstv (v := 0) dX7_means_5 rfl ?_
      refine g_ialdN (gx := 0) dX7_means_6 rfl (by decide) rfl (by omega) (by decide) ?_
      refine g_icmp_ge (tgt := 12) dX7_means_7 (by decide) (fun c7 => ?_) (fun c7 => absurd (by rw [ea]; exact nI_le h (by omega)) c7)
      refine g_iload_n dX7_means_12 rfl ?_
      refine g_aload_n dX7_means_13 rfl ?_
      refine g_gR (r := 173) dX7_means_14 fl_X7_7 (fun _ _ => rfl) rfl (by decide) rfl ?_
      refine g_iconstv (v := 0) dX7_means_17 rfl ?_
      refine g_ialdN (gx := 0) dX7_means_18 rfl (by decide) rfl (by omega) (by decide) ?_
      refine g_isub dX7_means_19 ?_
      refine g_aload_n dX7_means_20 rfl ?_
      refine g_gR (r := 173) dX7_means_21 fl_X7_7 (fun _ _ => rfl) rfl (by decide) rfl ?_
      refine g_iconstv (v := 1) dX7_means_24 rfl ?_
      refine g_ialdN (gx := 1) dX7_means_25 rfl (by decide) rfl (by omega) (by decide) ?_
      refine g_idiv dX7_means_26 (by rw [eb]; exact nI_ne0 (by omega) (by omega)) ?_
      rw [ea, eb, pk_sub h, pk_div (by omega) (by omega) (by omega)]
      refine g_istore_n dX7_means_27 (by decide) rfl ?_
      refine g_iload_n dX7_means_28 rfl ?_
      refine g_iconstv (v := 3) dX7_means_29 rfl ?_
      refine g_icmp_le (tgt := 37) dX7_means_30 (by decide) (fun c30 => absurd c30 (by rw [show (3 : Int32) = nI 3 from rfl]; exact nI_ge (a := 3) (by omega) (Nat.lt_of_le_of_lt (Nat.div_le_self _ _) (by omega)))) (fun c30 => ?_)
      refine g_iconstv (v := 3) dX7_means_33 rfl ?_
      refine g_goto (tgt := 38) dX7_means_34 (by decide) ?_
      refine g_istore_n dX7_means_38 (by decide) rfl ?_
      refine g_iload_n dX7_means_39 rfl ?_
      refine g_tabIn (off := 32) (tgt := 72) dX7_means_40 (by decide) (by decide) rfl (by decide) ?_
      refine g_iconstv (v := 0) dX7_means_72 rfl ?_
      exact g_iret dX7_means_73 (m_ret (by decide))
set_option maxHeartbeats 4000000 in
set_option maxRecDepth 100000 in
theorem c_mm_1 {L : Nat} {F : Nat → Nat → Int32} {g : Nat → Option Nat} (d : Nat) (a b q : Nat) (ea : F 173 0 = nI a) (eb : F 173 1 = nI b) (ha : a ≤ 20) (hb : 1 ≤ b) (hb2 : b ≤ 20) (hq : q ≤ 20000) (h : a ≤ q) : mCall d yX7_means MX7_means [.ref 172, .int 1, .int (nI q)] (mHX L F g) (some (.int (mMean a b 1 q))) (mHX L F g) := by
  refine mCall_of sX7_means.1 (Nat.le_of_ble_eq_true rfl) ⟨_, rfl, rfl⟩ ?_
  have em : mMean a b 1 q = mMB (1 * 4 + mSh a b q) := if_neg (Nat.not_lt.mpr h)
  rw [em]
  rcases mSh_cases a b q with ⟨e1, e2⟩ | ⟨e1, e2⟩ | ⟨e1, e2⟩ | ⟨e1, e2⟩
  · rw [e2]
    show mGo _ _ (0, [some (.ref 172), some (.int 1), some (.int (nI q)), none], [], _) _
    refine g_iload_n dX7_means_0 rfl ?_
    refine g_aload_n dX7_means_1 rfl ?_
    refine g_gR (r := 173) dX7_means_2 fl_X7_7 (fun _ _ => rfl) rfl (by decide) rfl ?_
    refine g_iconstv (v := 0) dX7_means_5 rfl ?_
    refine g_ialdN (gx := 0) dX7_means_6 rfl (by decide) rfl (by omega) (by decide) ?_
    refine g_icmp_ge (tgt := 12) dX7_means_7 (by decide) (fun c7 => ?_) (fun c7 => absurd (by rw [ea]; exact nI_le h (by omega)) c7)
    refine g_iload_n dX7_means_12 rfl ?_
    refine g_aload_n dX7_means_13 rfl ?_
    refine g_gR (r := 173) dX7_means_14 fl_X7_7 (fun _ _ => rfl) rfl (by decide) rfl ?_
    refine g_iconstv (v := 0) dX7_means_17 rfl ?_
    refine g_ialdN (gx := 0) dX7_means_18 rfl (by decide) rfl (by omega) (by decide) ?_
    refine g_isub dX7_means_19 ?_
    refine g_aload_n dX7_means_20 rfl ?_
    refine g_gR (r := 173) dX7_means_21 fl_X7_7 (fun _ _ => rfl) rfl (by decide) rfl ?_
    refine g_iconstv (v := 1) dX7_means_24 rfl ?_
    refine g_ialdN (gx := 1) dX7_means_25 rfl (by decide) rfl (by omega) (by decide) ?_
    refine g_idiv dX7_means_26 (by rw [eb]; exact nI_ne0 (by omega) (by omega)) ?_
    rw [ea, eb, pk_sub h, pk_div (by omega) (by omega) (by omega), e1]
    refine g_istore_n dX7_means_27 (by decide) rfl ?_
    refine g_iload_n dX7_means_28 rfl ?_
    refine g_iconstv (v := 3) dX7_means_29 rfl ?_
    refine g_icmp_le (tgt := 37) dX7_means_30 (by decide) (fun c30 => ?_) (fun c30 => absurd (by decide) c30)
    refine g_iload_n dX7_means_37 rfl ?_
    refine g_istore_n dX7_means_38 (by decide) rfl ?_
    refine g_iload_n dX7_means_39 rfl ?_
    refine g_tabIn (off := 34) (tgt := 74) dX7_means_40 (by decide) (by decide) rfl (by decide) ?_
    refine g_iload_n dX7_means_74 rfl ?_
    refine g_iconstv (v := 2) dX7_means_75 rfl ?_
    refine g_icmp_ge (tgt := 83) dX7_means_76 (by decide) (fun c76 => absurd c76 (by decide)) (fun c76 => ?_)
    refine g_iconstv (v := 1) dX7_means_79 rfl ?_
    refine g_goto (tgt := 84) dX7_means_80 (by decide) ?_
    exact g_iret dX7_means_84 (m_ret (by decide))
  · rw [e2]
    show mGo _ _ (0, [some (.ref 172), some (.int 1), some (.int (nI q)), none], [], _) _
    refine g_iload_n dX7_means_0 rfl ?_
    refine g_aload_n dX7_means_1 rfl ?_
    refine g_gR (r := 173) dX7_means_2 fl_X7_7 (fun _ _ => rfl) rfl (by decide) rfl ?_
    refine g_iconstv (v := 0) dX7_means_5 rfl ?_
    refine g_ialdN (gx := 0) dX7_means_6 rfl (by decide) rfl (by omega) (by decide) ?_
    refine g_icmp_ge (tgt := 12) dX7_means_7 (by decide) (fun c7 => ?_) (fun c7 => absurd (by rw [ea]; exact nI_le h (by omega)) c7)
    refine g_iload_n dX7_means_12 rfl ?_
    refine g_aload_n dX7_means_13 rfl ?_
    refine g_gR (r := 173) dX7_means_14 fl_X7_7 (fun _ _ => rfl) rfl (by decide) rfl ?_
    refine g_iconstv (v := 0) dX7_means_17 rfl ?_
    refine g_ialdN (gx := 0) dX7_means_18 rfl (by decide) rfl (by omega) (by decide) ?_
    refine g_isub dX7_means_19 ?_
    refine g_aload_n dX7_means_20 rfl ?_
    refine g_gR (r := 173) dX7_means_21 fl_X7_7 (fun _ _ => rfl) rfl (by decide) rfl ?_
    refine g_iconstv (v := 1) dX7_means_24 rfl ?_
    refine g_ialdN (gx := 1) dX7_means_25 rfl (by decide) rfl (by omega) (by decide) ?_
    refine g_idiv dX7_means_26 (by rw [eb]; exact nI_ne0 (by omega) (by omega)) ?_
    rw [ea, eb, pk_sub h, pk_div (by omega) (by omega) (by omega), e1]
    refine g_istore_n dX7_means_27 (by decide) rfl ?_
    refine g_iload_n dX7_means_28 rfl ?_
    refine g_iconstv (v := 3) dX7_means_29 rfl ?_
    refine g_icmp_le (tgt := 37) dX7_means_30 (by decide) (fun c30 => ?_) (fun c30 => absurd (by decide) c30)
    refine g_iload_n dX7_means_37 rfl ?_
    refine g_istore_n dX7_means_38 (by decide) rfl ?_
    refine g_iload_n dX7_means_39 rfl ?_
    refine g_tabIn (off := 34) (tgt := 74) dX7_means_40 (by decide) (by decide) rfl (by decide) ?_
    refine g_iload_n dX7_means_74 rfl ?_
    refine g_iconstv (v := 2) dX7_means_75 rfl ?_
    refine g_icmp_ge (tgt := 83) dX7_means_76 (by decide) (fun c76 => absurd c76 (by decide)) (fun c76 => ?_)
    refine g_iconstv (v := 1) dX7_means_79 rfl ?_
    refine g_goto (tgt := 84) dX7_means_80 (by decide) ?_
    exact g_iret dX7_means_84 (m_ret (by decide))
  · rw [e2]
    show mGo _ _ (0, [some (.ref 172), some (.int 1), some (.int (nI q)), none], [], _) _
    refine g_iload_n dX7_means_0 rfl ?_
    refine g_aload_n dX7_means_1 rfl ?_
    refine g_gR (r := 173) dX7_means_2 fl_X7_7 (fun _ _ => rfl) rfl (by decide) rfl ?_
    refine g_iconstv (v := 0) dX7_means_5 rfl ?_
    refine g_ialdN (gx := 0) dX7_means_6 rfl (by decide) rfl (by omega) (by decide) ?_
    refine g_icmp_ge (tgt := 12) dX7_means_7 (by decide) (fun c7 => ?_) (fun c7 => absurd (by rw [ea]; exact nI_le h (by omega)) c7)
    refine g_iload_n dX7_means_12 rfl ?_
    refine g_aload_n dX7_means_13 rfl ?_
    refine g_gR (r := 173) dX7_means_14 fl_X7_7 (fun _ _ => rfl) rfl (by decide) rfl ?_
    refine g_iconstv (v := 0) dX7_means_17 rfl ?_
    refine g_ialdN (gx := 0) dX7_means_18 rfl (by decide) rfl (by omega) (by decide) ?_
    refine g_isub dX7_means_19 ?_
    refine g_aload_n dX7_means_20 rfl ?_
    refine g_gR (r := 173) dX7_means_21 fl_X7_7 (fun _ _ => rfl) rfl (by decide) rfl ?_
    refine g_iconstv (v := 1) dX7_means_24 rfl ?_
    refine g_ialdN (gx := 1) dX7_means_25 rfl (by decide) rfl (by omega) (by decide) ?_
    refine g_idiv dX7_means_26 (by rw [eb]; exact nI_ne0 (by omega) (by omega)) ?_
    rw [ea, eb, pk_sub h, pk_div (by omega) (by omega) (by omega), e1]
    refine g_istore_n dX7_means_27 (by decide) rfl ?_
    refine g_iload_n dX7_means_28 rfl ?_
    refine g_iconstv (v := 3) dX7_means_29 rfl ?_
    refine g_icmp_le (tgt := 37) dX7_means_30 (by decide) (fun c30 => ?_) (fun c30 => absurd (by decide) c30)
    refine g_iload_n dX7_means_37 rfl ?_
    refine g_istore_n dX7_means_38 (by decide) rfl ?_
    refine g_iload_n dX7_means_39 rfl ?_
    refine g_tabIn (off := 34) (tgt := 74) dX7_means_40 (by decide) (by decide) rfl (by decide) ?_
    refine g_iload_n dX7_means_74 rfl ?_
    refine g_iconstv (v := 2) dX7_means_75 rfl ?_
    refine g_icmp_ge (tgt := 83) dX7_means_76 (by decide) (fun c76 => ?_) (fun c76 => absurd (by decide) c76)
    refine g_iconstv (v := 2) dX7_means_83 rfl ?_
    exact g_iret dX7_means_84 (m_ret (by decide))
  · rw [e2]
    show mGo _ _ (0, [some (.ref 172), some (.int 1), some (.int (nI q)), none], [], _) _
    by_cases e3 : (q - a) / b = 3
    · skip
      refine g_iload_n dX7_means_0 rfl ?_
      refine g_aload_n dX7_means_1 rfl ?_
      refine g_gR (r := 173) dX7_means_2 fl_X7_7 (fun _ _ => rfl) rfl (by decide) rfl ?_
      refine g_iconstv (v := 0) dX7_means_5 rfl ?_
      refine g_ialdN (gx := 0) dX7_means_6 rfl (by decide) rfl (by omega) (by decide) ?_
      refine g_icmp_ge (tgt := 12) dX7_means_7 (by decide) (fun c7 => ?_) (fun c7 => absurd (by rw [ea]; exact nI_le h (by omega)) c7)
      refine g_iload_n dX7_means_12 rfl ?_
      refine g_aload_n dX7_means_13 rfl ?_
      refine g_gR (r := 173) dX7_means_14 fl_X7_7 (fun _ _ => rfl) rfl (by decide) rfl ?_
      refine g_iconstv (v := 0) dX7_means_17 rfl ?_
      refine g_ialdN (gx := 0) dX7_means_18 rfl (by decide) rfl (by omega) (by decide) ?_
      refine g_isub dX7_means_19 ?_
      refine g_aload_n dX7_means_20 rfl ?_
      refine g_gR (r := 173) dX7_means_21 fl_X7_7 (fun _ _ => rfl) rfl (by decide) rfl ?_
      refine g_iconstv (v := 1) dX7_means_24 rfl ?_
      refine g_ialdN (gx := 1) dX7_means_25 rfl (by decide) rfl (by omega) (by decide) ?_
      refine g_idiv dX7_means_26 (by rw [eb]; exact nI_ne0 (by omega) (by omega)) ?_
      rw [ea, eb, pk_sub h, pk_div (by omega) (by omega) (by omega), e3]
      refine g_istore_n dX7_means_27 (by decide) rfl ?_
      refine g_iload_n dX7_means_28 rfl ?_
      refine g_iconstv (v := 3) dX7_means_29 rfl ?_
      refine g_icmp_le (tgt := 37) dX7_means_30 (by decide) (fun c30 => ?_) (fun c30 => absurd (by decide) c30)
      refine g_iload_n dX7_means_37 rfl ?_
      refine g_istore_n dX7_means_38 (by decide) rfl ?_
      refine g_iload_n dX7_means_39 rfl ?_
      refine g_tabIn (off := 34) (tgt := 74) dX7_means_40 (by decide) (by decide) rfl (by decide) ?_
      refine g_iload_n dX7_means_74 rfl ?_
      refine g_iconstv (v := 2) dX7_means_75 rfl ?_
      refine g_icmp_ge (tgt := 83) dX7_means_76 (by decide) (fun c76 => ?_) (fun c76 => absurd (by decide) c76)
      refine g_iconstv (v := 2) dX7_means_83 rfl ?_
      exact g_iret dX7_means_84 (m_ret (by decide))
    · skip
      refine g_iload_n dX7_means_0 rfl ?_
      refine g_aload_n dX7_means_1 rfl ?_
      refine g_gR (r := 173) dX7_means_2 fl_X7_7 (fun _ _ => rfl) rfl (by decide) rfl ?_
      refine g_iconstv (v := 0) dX7_means_5 rfl ?_
      refine g_ialdN (gx := 0) dX7_means_6 rfl (by decide) rfl (by omega) (by decide) ?_
      refine g_icmp_ge (tgt := 12) dX7_means_7 (by decide) (fun c7 => ?_) (fun c7 => absurd (by rw [ea]; exact nI_le h (by omega)) c7)
      refine g_iload_n dX7_means_12 rfl ?_
      refine g_aload_n dX7_means_13 rfl ?_
      refine g_gR (r := 173) dX7_means_14 fl_X7_7 (fun _ _ => rfl) rfl (by decide) rfl ?_
      refine g_iconstv (v := 0) dX7_means_17 rfl ?_
      refine g_ialdN (gx := 0) dX7_means_18 rfl (by decide) rfl (by omega) (by decide) ?_
      refine g_isub dX7_means_19 ?_
      refine g_aload_n dX7_means_20 rfl ?_
      refine g_gR (r := 173) dX7_means_21 fl_X7_7 (fun _ _ => rfl) rfl (by decide) rfl ?_
      refine g_iconstv (v := 1) dX7_means_24 rfl ?_
      refine g_ialdN (gx := 1) dX7_means_25 rfl (by decide) rfl (by omega) (by decide) ?_
      refine g_idiv dX7_means_26 (by rw [eb]; exact nI_ne0 (by omega) (by omega)) ?_
      rw [ea, eb, pk_sub h, pk_div (by omega) (by omega) (by omega)]
      refine g_istore_n dX7_means_27 (by decide) rfl ?_
      refine g_iload_n dX7_means_28 rfl ?_
      refine g_iconstv (v := 3) dX7_means_29 rfl ?_
      refine g_icmp_le (tgt := 37) dX7_means_30 (by decide) (fun c30 => absurd c30 (by rw [show (3 : Int32) = nI 3 from rfl]; exact nI_ge (a := 3) (by omega) (Nat.lt_of_le_of_lt (Nat.div_le_self _ _) (by omega)))) (fun c30 => ?_)
      refine g_iconstv (v := 3) dX7_means_33 rfl ?_
      refine g_goto (tgt := 38) dX7_means_34 (by decide) ?_
      refine g_istore_n dX7_means_38 (by decide) rfl ?_
      refine g_iload_n dX7_means_39 rfl ?_
      refine g_tabIn (off := 34) (tgt := 74) dX7_means_40 (by decide) (by decide) rfl (by decide) ?_
      refine g_iload_n dX7_means_74 rfl ?_
      refine g_iconstv (v := 2) dX7_means_75 rfl ?_
      refine g_icmp_ge (tgt := 83) dX7_means_76 (by decide) (fun c76 => ?_) (fun c76 => absurd (by decide) c76)
      refine g_iconstv (v := 2) dX7_means_83 rfl ?_
      exact g_iret dX7_means_84 (m_ret (by decide))
set_option maxHeartbeats 4000000 in
set_option maxRecDepth 100000 in
theorem c_mm_2 {L : Nat} {F : Nat → Nat → Int32} {g : Nat → Option Nat} (d : Nat) (a b q : Nat) (ea : F 173 0 = nI a) (eb : F 173 1 = nI b) (ha : a ≤ 20) (hb : 1 ≤ b) (hb2 : b ≤ 20) (hq : q ≤ 20000) (h : a ≤ q) : mCall d yX7_means MX7_means [.ref 172, .int 2, .int (nI q)] (mHX L F g) (some (.int (mMean a b 2 q))) (mHX L F g) := by
  refine mCall_of sX7_means.1 (Nat.le_of_ble_eq_true rfl) ⟨_, rfl, rfl⟩ ?_
  have em : mMean a b 2 q = mMB (2 * 4 + mSh a b q) := if_neg (Nat.not_lt.mpr h)
  rw [em]
  rcases mSh_cases a b q with ⟨e1, e2⟩ | ⟨e1, e2⟩ | ⟨e1, e2⟩ | ⟨e1, e2⟩
  · rw [e2]
    show mGo _ _ (0, [some (.ref 172), some (.int 2), some (.int (nI q)), none], [], _) _
    refine g_iload_n dX7_means_0 rfl ?_
    refine g_aload_n dX7_means_1 rfl ?_
    refine g_gR (r := 173) dX7_means_2 fl_X7_7 (fun _ _ => rfl) rfl (by decide) rfl ?_
    refine g_iconstv (v := 0) dX7_means_5 rfl ?_
    refine g_ialdN (gx := 0) dX7_means_6 rfl (by decide) rfl (by omega) (by decide) ?_
    refine g_icmp_ge (tgt := 12) dX7_means_7 (by decide) (fun c7 => ?_) (fun c7 => absurd (by rw [ea]; exact nI_le h (by omega)) c7)
    refine g_iload_n dX7_means_12 rfl ?_
    refine g_aload_n dX7_means_13 rfl ?_
    refine g_gR (r := 173) dX7_means_14 fl_X7_7 (fun _ _ => rfl) rfl (by decide) rfl ?_
    refine g_iconstv (v := 0) dX7_means_17 rfl ?_
    refine g_ialdN (gx := 0) dX7_means_18 rfl (by decide) rfl (by omega) (by decide) ?_
    refine g_isub dX7_means_19 ?_
    refine g_aload_n dX7_means_20 rfl ?_
    refine g_gR (r := 173) dX7_means_21 fl_X7_7 (fun _ _ => rfl) rfl (by decide) rfl ?_
    refine g_iconstv (v := 1) dX7_means_24 rfl ?_
    refine g_ialdN (gx := 1) dX7_means_25 rfl (by decide) rfl (by omega) (by decide) ?_
    refine g_idiv dX7_means_26 (by rw [eb]; exact nI_ne0 (by omega) (by omega)) ?_
    rw [ea, eb, pk_sub h, pk_div (by omega) (by omega) (by omega), e1]
    refine g_istore_n dX7_means_27 (by decide) rfl ?_
    refine g_iload_n dX7_means_28 rfl ?_
    refine g_iconstv (v := 3) dX7_means_29 rfl ?_
    refine g_icmp_le (tgt := 37) dX7_means_30 (by decide) (fun c30 => ?_) (fun c30 => absurd (by decide) c30)
    refine g_iload_n dX7_means_37 rfl ?_
    refine g_istore_n dX7_means_38 (by decide) rfl ?_
    refine g_iload_n dX7_means_39 rfl ?_
    refine g_tabIn (off := 45) (tgt := 85) dX7_means_40 (by decide) (by decide) rfl (by decide) ?_
    refine g_iload_n dX7_means_85 rfl ?_
    refine g_iconstv (v := 2) dX7_means_86 rfl ?_
    refine g_icmp_ge (tgt := 96) dX7_means_87 (by decide) (fun c87 => absurd c87 (by decide)) (fun c87 => ?_)
    refine g_iconstv (v := 3) dX7_means_90 rfl ?_
    refine g_iload_n dX7_means_91 rfl ?_
    refine g_iadd dX7_means_92 ?_
    refine g_goto (tgt := 97) dX7_means_93 (by decide) ?_
    exact g_iret dX7_means_97 (m_ret (by decide))
  · rw [e2]
    show mGo _ _ (0, [some (.ref 172), some (.int 2), some (.int (nI q)), none], [], _) _
    refine g_iload_n dX7_means_0 rfl ?_
    refine g_aload_n dX7_means_1 rfl ?_
    refine g_gR (r := 173) dX7_means_2 fl_X7_7 (fun _ _ => rfl) rfl (by decide) rfl ?_
    refine g_iconstv (v := 0) dX7_means_5 rfl ?_
    refine g_ialdN (gx := 0) dX7_means_6 rfl (by decide) rfl (by omega) (by decide) ?_
    refine g_icmp_ge (tgt := 12) dX7_means_7 (by decide) (fun c7 => ?_) (fun c7 => absurd (by rw [ea]; exact nI_le h (by omega)) c7)
    refine g_iload_n dX7_means_12 rfl ?_
    refine g_aload_n dX7_means_13 rfl ?_
    refine g_gR (r := 173) dX7_means_14 fl_X7_7 (fun _ _ => rfl) rfl (by decide) rfl ?_
    refine g_iconstv (v := 0) dX7_means_17 rfl ?_
    refine g_ialdN (gx := 0) dX7_means_18 rfl (by decide) rfl (by omega) (by decide) ?_
    refine g_isub dX7_means_19 ?_
    refine g_aload_n dX7_means_20 rfl ?_
    refine g_gR (r := 173) dX7_means_21 fl_X7_7 (fun _ _ => rfl) rfl (by decide) rfl ?_
    refine g_iconstv (v := 1) dX7_means_24 rfl ?_
    refine g_ialdN (gx := 1) dX7_means_25 rfl (by decide) rfl (by omega) (by decide) ?_
    refine g_idiv dX7_means_26 (by rw [eb]; exact nI_ne0 (by omega) (by omega)) ?_
    rw [ea, eb, pk_sub h, pk_div (by omega) (by omega) (by omega), e1]
    refine g_istore_n dX7_means_27 (by decide) rfl ?_
    refine g_iload_n dX7_means_28 rfl ?_
    refine g_iconstv (v := 3) dX7_means_29 rfl ?_
    refine g_icmp_le (tgt := 37) dX7_means_30 (by decide) (fun c30 => ?_) (fun c30 => absurd (by decide) c30)
    refine g_iload_n dX7_means_37 rfl ?_
    refine g_istore_n dX7_means_38 (by decide) rfl ?_
    refine g_iload_n dX7_means_39 rfl ?_
    refine g_tabIn (off := 45) (tgt := 85) dX7_means_40 (by decide) (by decide) rfl (by decide) ?_
    refine g_iload_n dX7_means_85 rfl ?_
    refine g_iconstv (v := 2) dX7_means_86 rfl ?_
    refine g_icmp_ge (tgt := 96) dX7_means_87 (by decide) (fun c87 => absurd c87 (by decide)) (fun c87 => ?_)
    refine g_iconstv (v := 3) dX7_means_90 rfl ?_
    refine g_iload_n dX7_means_91 rfl ?_
    refine g_iadd dX7_means_92 ?_
    refine g_goto (tgt := 97) dX7_means_93 (by decide) ?_
    exact g_iret dX7_means_97 (m_ret (by decide))
  · rw [e2]
    show mGo _ _ (0, [some (.ref 172), some (.int 2), some (.int (nI q)), none], [], _) _
    refine g_iload_n dX7_means_0 rfl ?_
    refine g_aload_n dX7_means_1 rfl ?_
    refine g_gR (r := 173) dX7_means_2 fl_X7_7 (fun _ _ => rfl) rfl (by decide) rfl ?_
    refine g_iconstv (v := 0) dX7_means_5 rfl ?_
    refine g_ialdN (gx := 0) dX7_means_6 rfl (by decide) rfl (by omega) (by decide) ?_
    refine g_icmp_ge (tgt := 12) dX7_means_7 (by decide) (fun c7 => ?_) (fun c7 => absurd (by rw [ea]; exact nI_le h (by omega)) c7)
    refine g_iload_n dX7_means_12 rfl ?_
    refine g_aload_n dX7_means_13 rfl ?_
    refine g_gR (r := 173) dX7_means_14 fl_X7_7 (fun _ _ => rfl) rfl (by decide) rfl ?_
    refine g_iconstv (v := 0) dX7_means_17 rfl ?_
    refine g_ialdN (gx := 0) dX7_means_18 rfl (by decide) rfl (by omega) (by decide) ?_
    refine g_isub dX7_means_19 ?_
    refine g_aload_n dX7_means_20 rfl ?_
    refine g_gR (r := 173) dX7_means_21 fl_X7_7 (fun _ _ => rfl) rfl (by decide) rfl ?_
    refine g_iconstv (v := 1) dX7_means_24 rfl ?_
    refine g_ialdN (gx := 1) dX7_means_25 rfl (by decide) rfl (by omega) (by decide) ?_
    refine g_idiv dX7_means_26 (by rw [eb]; exact nI_ne0 (by omega) (by omega)) ?_
    rw [ea, eb, pk_sub h, pk_div (by omega) (by omega) (by omega), e1]
    refine g_istore_n dX7_means_27 (by decide) rfl ?_
    refine g_iload_n dX7_means_28 rfl ?_
    refine g_iconstv (v := 3) dX7_means_29 rfl ?_
    refine g_icmp_le (tgt := 37) dX7_means_30 (by decide) (fun c30 => ?_) (fun c30 => absurd (by decide) c30)
    refine g_iload_n dX7_means_37 rfl ?_
    refine g_istore_n dX7_means_38 (by decide) rfl ?_
    refine g_iload_n dX7_means_39 rfl ?_
    refine g_tabIn (off := 45) (tgt := 85) dX7_means_40 (by decide) (by decide) rfl (by decide) ?_
    refine g_iload_n dX7_means_85 rfl ?_
    refine g_iconstv (v := 2) dX7_means_86 rfl ?_
    refine g_icmp_ge (tgt := 96) dX7_means_87 (by decide) (fun c87 => ?_) (fun c87 => absurd (by decide) c87)
    refine g_iconstv (v := 5) dX7_means_96 rfl ?_
    exact g_iret dX7_means_97 (m_ret (by decide))
  · rw [e2]
    show mGo _ _ (0, [some (.ref 172), some (.int 2), some (.int (nI q)), none], [], _) _
    by_cases e3 : (q - a) / b = 3
    · skip
      refine g_iload_n dX7_means_0 rfl ?_
      refine g_aload_n dX7_means_1 rfl ?_
      refine g_gR (r := 173) dX7_means_2 fl_X7_7 (fun _ _ => rfl) rfl (by decide) rfl ?_
      refine g_iconstv (v := 0) dX7_means_5 rfl ?_
      refine g_ialdN (gx := 0) dX7_means_6 rfl (by decide) rfl (by omega) (by decide) ?_
      refine g_icmp_ge (tgt := 12) dX7_means_7 (by decide) (fun c7 => ?_) (fun c7 => absurd (by rw [ea]; exact nI_le h (by omega)) c7)
      refine g_iload_n dX7_means_12 rfl ?_
      refine g_aload_n dX7_means_13 rfl ?_
      refine g_gR (r := 173) dX7_means_14 fl_X7_7 (fun _ _ => rfl) rfl (by decide) rfl ?_
      refine g_iconstv (v := 0) dX7_means_17 rfl ?_
      refine g_ialdN (gx := 0) dX7_means_18 rfl (by decide) rfl (by omega) (by decide) ?_
      refine g_isub dX7_means_19 ?_
      refine g_aload_n dX7_means_20 rfl ?_
      refine g_gR (r := 173) dX7_means_21 fl_X7_7 (fun _ _ => rfl) rfl (by decide) rfl ?_
      refine g_iconstv (v := 1) dX7_means_24 rfl ?_
      refine g_ialdN (gx := 1) dX7_means_25 rfl (by decide) rfl (by omega) (by decide) ?_
      refine g_idiv dX7_means_26 (by rw [eb]; exact nI_ne0 (by omega) (by omega)) ?_
      rw [ea, eb, pk_sub h, pk_div (by omega) (by omega) (by omega), e3]
      refine g_istore_n dX7_means_27 (by decide) rfl ?_
      refine g_iload_n dX7_means_28 rfl ?_
      refine g_iconstv (v := 3) dX7_means_29 rfl ?_
      refine g_icmp_le (tgt := 37) dX7_means_30 (by decide) (fun c30 => ?_) (fun c30 => absurd (by decide) c30)
      refine g_iload_n dX7_means_37 rfl ?_
      refine g_istore_n dX7_means_38 (by decide) rfl ?_
      refine g_iload_n dX7_means_39 rfl ?_
      refine g_tabIn (off := 45) (tgt := 85) dX7_means_40 (by decide) (by decide) rfl (by decide) ?_
      refine g_iload_n dX7_means_85 rfl ?_
      refine g_iconstv (v := 2) dX7_means_86 rfl ?_
      refine g_icmp_ge (tgt := 96) dX7_means_87 (by decide) (fun c87 => ?_) (fun c87 => absurd (by decide) c87)
      refine g_iconstv (v := 5) dX7_means_96 rfl ?_
      exact g_iret dX7_means_97 (m_ret (by decide))
    · skip
      refine g_iload_n dX7_means_0 rfl ?_
      refine g_aload_n dX7_means_1 rfl ?_
      refine g_gR (r := 173) dX7_means_2 fl_X7_7 (fun _ _ => rfl) rfl (by decide) rfl ?_
      refine g_iconstv (v := 0) dX7_means_5 rfl ?_
      refine g_ialdN (gx := 0) dX7_means_6 rfl (by decide) rfl (by omega) (by decide) ?_
      refine g_icmp_ge (tgt := 12) dX7_means_7 (by decide) (fun c7 => ?_) (fun c7 => absurd (by rw [ea]; exact nI_le h (by omega)) c7)
      refine g_iload_n dX7_means_12 rfl ?_
      refine g_aload_n dX7_means_13 rfl ?_
      refine g_gR (r := 173) dX7_means_14 fl_X7_7 (fun _ _ => rfl) rfl (by decide) rfl ?_
      refine g_iconstv (v := 0) dX7_means_17 rfl ?_
      refine g_ialdN (gx := 0) dX7_means_18 rfl (by decide) rfl (by omega) (by decide) ?_
      refine g_isub dX7_means_19 ?_
      refine g_aload_n dX7_means_20 rfl ?_
      refine g_gR (r := 173) dX7_means_21 fl_X7_7 (fun _ _ => rfl) rfl (by decide) rfl ?_
      refine g_iconstv (v := 1) dX7_means_24 rfl ?_
      refine g_ialdN (gx := 1) dX7_means_25 rfl (by decide) rfl (by omega) (by decide) ?_
      refine g_idiv dX7_means_26 (by rw [eb]; exact nI_ne0 (by omega) (by omega)) ?_
      rw [ea, eb, pk_sub h, pk_div (by omega) (by omega) (by omega)]
      refine g_istore_n dX7_means_27 (by decide) rfl ?_
      refine g_iload_n dX7_means_28 rfl ?_
      refine g_iconstv (v := 3) dX7_means_29 rfl ?_
      refine g_icmp_le (tgt := 37) dX7_means_30 (by decide) (fun c30 => absurd c30 (by rw [show (3 : Int32) = nI 3 from rfl]; exact nI_ge (a := 3) (by omega) (Nat.lt_of_le_of_lt (Nat.div_le_self _ _) (by omega)))) (fun c30 => ?_)
      refine g_iconstv (v := 3) dX7_means_33 rfl ?_
      refine g_goto (tgt := 38) dX7_means_34 (by decide) ?_
      refine g_istore_n dX7_means_38 (by decide) rfl ?_
      refine g_iload_n dX7_means_39 rfl ?_
      refine g_tabIn (off := 45) (tgt := 85) dX7_means_40 (by decide) (by decide) rfl (by decide) ?_
      refine g_iload_n dX7_means_85 rfl ?_
      refine g_iconstv (v := 2) dX7_means_86 rfl ?_
      refine g_icmp_ge (tgt := 96) dX7_means_87 (by decide) (fun c87 => ?_) (fun c87 => absurd (by decide) c87)
      refine g_iconstv (v := 5) dX7_means_96 rfl ?_
      exact g_iret dX7_means_97 (m_ret (by decide))
set_option maxHeartbeats 4000000 in
set_option maxRecDepth 100000 in
theorem c_mm_3 {L : Nat} {F : Nat → Nat → Int32} {g : Nat → Option Nat} (d : Nat) (a b q : Nat) (ea : F 173 0 = nI a) (eb : F 173 1 = nI b) (ha : a ≤ 20) (hb : 1 ≤ b) (hb2 : b ≤ 20) (hq : q ≤ 20000) (h : a ≤ q) : mCall d yX7_means MX7_means [.ref 172, .int 3, .int (nI q)] (mHX L F g) (some (.int (mMean a b 3 q))) (mHX L F g) := by
  refine mCall_of sX7_means.1 (Nat.le_of_ble_eq_true rfl) ⟨_, rfl, rfl⟩ ?_
  have em : mMean a b 3 q = mMB (3 * 4 + mSh a b q) := if_neg (Nat.not_lt.mpr h)
  rw [em]
  rcases mSh_cases a b q with ⟨e1, e2⟩ | ⟨e1, e2⟩ | ⟨e1, e2⟩ | ⟨e1, e2⟩
  · rw [e2]
    show mGo _ _ (0, [some (.ref 172), some (.int 3), some (.int (nI q)), none], [], _) _
    refine g_iload_n dX7_means_0 rfl ?_
    refine g_aload_n dX7_means_1 rfl ?_
    refine g_gR (r := 173) dX7_means_2 fl_X7_7 (fun _ _ => rfl) rfl (by decide) rfl ?_
    refine g_iconstv (v := 0) dX7_means_5 rfl ?_
    refine g_ialdN (gx := 0) dX7_means_6 rfl (by decide) rfl (by omega) (by decide) ?_
    refine g_icmp_ge (tgt := 12) dX7_means_7 (by decide) (fun c7 => ?_) (fun c7 => absurd (by rw [ea]; exact nI_le h (by omega)) c7)
    refine g_iload_n dX7_means_12 rfl ?_
    refine g_aload_n dX7_means_13 rfl ?_
    refine g_gR (r := 173) dX7_means_14 fl_X7_7 (fun _ _ => rfl) rfl (by decide) rfl ?_
    refine g_iconstv (v := 0) dX7_means_17 rfl ?_
    refine g_ialdN (gx := 0) dX7_means_18 rfl (by decide) rfl (by omega) (by decide) ?_
    refine g_isub dX7_means_19 ?_
    refine g_aload_n dX7_means_20 rfl ?_
    refine g_gR (r := 173) dX7_means_21 fl_X7_7 (fun _ _ => rfl) rfl (by decide) rfl ?_
    refine g_iconstv (v := 1) dX7_means_24 rfl ?_
    refine g_ialdN (gx := 1) dX7_means_25 rfl (by decide) rfl (by omega) (by decide) ?_
    refine g_idiv dX7_means_26 (by rw [eb]; exact nI_ne0 (by omega) (by omega)) ?_
    rw [ea, eb, pk_sub h, pk_div (by omega) (by omega) (by omega), e1]
    refine g_istore_n dX7_means_27 (by decide) rfl ?_
    refine g_iload_n dX7_means_28 rfl ?_
    refine g_iconstv (v := 3) dX7_means_29 rfl ?_
    refine g_icmp_le (tgt := 37) dX7_means_30 (by decide) (fun c30 => ?_) (fun c30 => absurd (by decide) c30)
    refine g_iload_n dX7_means_37 rfl ?_
    refine g_istore_n dX7_means_38 (by decide) rfl ?_
    refine g_iload_n dX7_means_39 rfl ?_
    refine g_tabIn (off := 58) (tgt := 98) dX7_means_40 (by decide) (by decide) rfl (by decide) ?_
    refine g_iload_n dX7_means_98 rfl ?_
    refine g_if_ne (tgt := 107) dX7_means_99 (by decide) (fun c99 => absurd (by decide) c99) (fun c99 => ?_)
    refine g_bipushv (v := 6) dX7_means_102 rfl ?_
    refine g_goto (tgt := 119) dX7_means_104 (by decide) ?_
    exact g_iret dX7_means_119 (m_ret (by decide))
  · rw [e2]
    show mGo _ _ (0, [some (.ref 172), some (.int 3), some (.int (nI q)), none], [], _) _
    refine g_iload_n dX7_means_0 rfl ?_
    refine g_aload_n dX7_means_1 rfl ?_
    refine g_gR (r := 173) dX7_means_2 fl_X7_7 (fun _ _ => rfl) rfl (by decide) rfl ?_
    refine g_iconstv (v := 0) dX7_means_5 rfl ?_
    refine g_ialdN (gx := 0) dX7_means_6 rfl (by decide) rfl (by omega) (by decide) ?_
    refine g_icmp_ge (tgt := 12) dX7_means_7 (by decide) (fun c7 => ?_) (fun c7 => absurd (by rw [ea]; exact nI_le h (by omega)) c7)
    refine g_iload_n dX7_means_12 rfl ?_
    refine g_aload_n dX7_means_13 rfl ?_
    refine g_gR (r := 173) dX7_means_14 fl_X7_7 (fun _ _ => rfl) rfl (by decide) rfl ?_
    refine g_iconstv (v := 0) dX7_means_17 rfl ?_
    refine g_ialdN (gx := 0) dX7_means_18 rfl (by decide) rfl (by omega) (by decide) ?_
    refine g_isub dX7_means_19 ?_
    refine g_aload_n dX7_means_20 rfl ?_
    refine g_gR (r := 173) dX7_means_21 fl_X7_7 (fun _ _ => rfl) rfl (by decide) rfl ?_
    refine g_iconstv (v := 1) dX7_means_24 rfl ?_
    refine g_ialdN (gx := 1) dX7_means_25 rfl (by decide) rfl (by omega) (by decide) ?_
    refine g_idiv dX7_means_26 (by rw [eb]; exact nI_ne0 (by omega) (by omega)) ?_
    rw [ea, eb, pk_sub h, pk_div (by omega) (by omega) (by omega), e1]
    refine g_istore_n dX7_means_27 (by decide) rfl ?_
    refine g_iload_n dX7_means_28 rfl ?_
    refine g_iconstv (v := 3) dX7_means_29 rfl ?_
    refine g_icmp_le (tgt := 37) dX7_means_30 (by decide) (fun c30 => ?_) (fun c30 => absurd (by decide) c30)
    refine g_iload_n dX7_means_37 rfl ?_
    refine g_istore_n dX7_means_38 (by decide) rfl ?_
    refine g_iload_n dX7_means_39 rfl ?_
    refine g_tabIn (off := 58) (tgt := 98) dX7_means_40 (by decide) (by decide) rfl (by decide) ?_
    refine g_iload_n dX7_means_98 rfl ?_
    refine g_if_ne (tgt := 107) dX7_means_99 (by decide) (fun c99 => ?_) (fun c99 => absurd c99 (by decide))
    refine g_iload_n dX7_means_107 rfl ?_
    refine g_iconstv (v := 3) dX7_means_108 rfl ?_
    refine g_icmp_ge (tgt := 117) dX7_means_109 (by decide) (fun c109 => absurd c109 (by decide)) (fun c109 => ?_)
    refine g_bipushv (v := 7) dX7_means_112 rfl ?_
    refine g_goto (tgt := 119) dX7_means_114 (by decide) ?_
    exact g_iret dX7_means_119 (m_ret (by decide))
  · rw [e2]
    show mGo _ _ (0, [some (.ref 172), some (.int 3), some (.int (nI q)), none], [], _) _
    refine g_iload_n dX7_means_0 rfl ?_
    refine g_aload_n dX7_means_1 rfl ?_
    refine g_gR (r := 173) dX7_means_2 fl_X7_7 (fun _ _ => rfl) rfl (by decide) rfl ?_
    refine g_iconstv (v := 0) dX7_means_5 rfl ?_
    refine g_ialdN (gx := 0) dX7_means_6 rfl (by decide) rfl (by omega) (by decide) ?_
    refine g_icmp_ge (tgt := 12) dX7_means_7 (by decide) (fun c7 => ?_) (fun c7 => absurd (by rw [ea]; exact nI_le h (by omega)) c7)
    refine g_iload_n dX7_means_12 rfl ?_
    refine g_aload_n dX7_means_13 rfl ?_
    refine g_gR (r := 173) dX7_means_14 fl_X7_7 (fun _ _ => rfl) rfl (by decide) rfl ?_
    refine g_iconstv (v := 0) dX7_means_17 rfl ?_
    refine g_ialdN (gx := 0) dX7_means_18 rfl (by decide) rfl (by omega) (by decide) ?_
    refine g_isub dX7_means_19 ?_
    refine g_aload_n dX7_means_20 rfl ?_
    refine g_gR (r := 173) dX7_means_21 fl_X7_7 (fun _ _ => rfl) rfl (by decide) rfl ?_
    refine g_iconstv (v := 1) dX7_means_24 rfl ?_
    refine g_ialdN (gx := 1) dX7_means_25 rfl (by decide) rfl (by omega) (by decide) ?_
    refine g_idiv dX7_means_26 (by rw [eb]; exact nI_ne0 (by omega) (by omega)) ?_
    rw [ea, eb, pk_sub h, pk_div (by omega) (by omega) (by omega), e1]
    refine g_istore_n dX7_means_27 (by decide) rfl ?_
    refine g_iload_n dX7_means_28 rfl ?_
    refine g_iconstv (v := 3) dX7_means_29 rfl ?_
    refine g_icmp_le (tgt := 37) dX7_means_30 (by decide) (fun c30 => ?_) (fun c30 => absurd (by decide) c30)
    refine g_iload_n dX7_means_37 rfl ?_
    refine g_istore_n dX7_means_38 (by decide) rfl ?_
    refine g_iload_n dX7_means_39 rfl ?_
    refine g_tabIn (off := 58) (tgt := 98) dX7_means_40 (by decide) (by decide) rfl (by decide) ?_
    refine g_iload_n dX7_means_98 rfl ?_
    refine g_if_ne (tgt := 107) dX7_means_99 (by decide) (fun c99 => ?_) (fun c99 => absurd c99 (by decide))
    refine g_iload_n dX7_means_107 rfl ?_
    refine g_iconstv (v := 3) dX7_means_108 rfl ?_
    refine g_icmp_ge (tgt := 117) dX7_means_109 (by decide) (fun c109 => absurd c109 (by decide)) (fun c109 => ?_)
    refine g_bipushv (v := 7) dX7_means_112 rfl ?_
    refine g_goto (tgt := 119) dX7_means_114 (by decide) ?_
    exact g_iret dX7_means_119 (m_ret (by decide))
  · rw [e2]
    show mGo _ _ (0, [some (.ref 172), some (.int 3), some (.int (nI q)), none], [], _) _
    by_cases e3 : (q - a) / b = 3
    · skip
      refine g_iload_n dX7_means_0 rfl ?_
      refine g_aload_n dX7_means_1 rfl ?_
      refine g_gR (r := 173) dX7_means_2 fl_X7_7 (fun _ _ => rfl) rfl (by decide) rfl ?_
      refine g_iconstv (v := 0) dX7_means_5 rfl ?_
      refine g_ialdN (gx := 0) dX7_means_6 rfl (by decide) rfl (by omega) (by decide) ?_
      refine g_icmp_ge (tgt := 12) dX7_means_7 (by decide) (fun c7 => ?_) (fun c7 => absurd (by rw [ea]; exact nI_le h (by omega)) c7)
      refine g_iload_n dX7_means_12 rfl ?_
      refine g_aload_n dX7_means_13 rfl ?_
      refine g_gR (r := 173) dX7_means_14 fl_X7_7 (fun _ _ => rfl) rfl (by decide) rfl ?_
      refine g_iconstv (v := 0) dX7_means_17 rfl ?_
      refine g_ialdN (gx := 0) dX7_means_18 rfl (by decide) rfl (by omega) (by decide) ?_
      refine g_isub dX7_means_19 ?_
      refine g_aload_n dX7_means_20 rfl ?_
      refine g_gR (r := 173) dX7_means_21 fl_X7_7 (fun _ _ => rfl) rfl (by decide) rfl ?_
      refine g_iconstv (v := 1) dX7_means_24 rfl ?_
      refine g_ialdN (gx := 1) dX7_means_25 rfl (by decide) rfl (by omega) (by decide) ?_
      refine g_idiv dX7_means_26 (by rw [eb]; exact nI_ne0 (by omega) (by omega)) ?_
      rw [ea, eb, pk_sub h, pk_div (by omega) (by omega) (by omega), e3]
      refine g_istore_n dX7_means_27 (by decide) rfl ?_
      refine g_iload_n dX7_means_28 rfl ?_
      refine g_iconstv (v := 3) dX7_means_29 rfl ?_
      refine g_icmp_le (tgt := 37) dX7_means_30 (by decide) (fun c30 => ?_) (fun c30 => absurd (by decide) c30)
      refine g_iload_n dX7_means_37 rfl ?_
      refine g_istore_n dX7_means_38 (by decide) rfl ?_
      refine g_iload_n dX7_means_39 rfl ?_
      refine g_tabIn (off := 58) (tgt := 98) dX7_means_40 (by decide) (by decide) rfl (by decide) ?_
      refine g_iload_n dX7_means_98 rfl ?_
      refine g_if_ne (tgt := 107) dX7_means_99 (by decide) (fun c99 => ?_) (fun c99 => absurd c99 (by decide))
      refine g_iload_n dX7_means_107 rfl ?_
      refine g_iconstv (v := 3) dX7_means_108 rfl ?_
      refine g_icmp_ge (tgt := 117) dX7_means_109 (by decide) (fun c109 => ?_) (fun c109 => absurd (by decide) c109)
      refine g_bipushv (v := 8) dX7_means_117 rfl ?_
      exact g_iret dX7_means_119 (m_ret (by decide))
    · skip
      refine g_iload_n dX7_means_0 rfl ?_
      refine g_aload_n dX7_means_1 rfl ?_
      refine g_gR (r := 173) dX7_means_2 fl_X7_7 (fun _ _ => rfl) rfl (by decide) rfl ?_
      refine g_iconstv (v := 0) dX7_means_5 rfl ?_
      refine g_ialdN (gx := 0) dX7_means_6 rfl (by decide) rfl (by omega) (by decide) ?_
      refine g_icmp_ge (tgt := 12) dX7_means_7 (by decide) (fun c7 => ?_) (fun c7 => absurd (by rw [ea]; exact nI_le h (by omega)) c7)
      refine g_iload_n dX7_means_12 rfl ?_
      refine g_aload_n dX7_means_13 rfl ?_
      refine g_gR (r := 173) dX7_means_14 fl_X7_7 (fun _ _ => rfl) rfl (by decide) rfl ?_
      refine g_iconstv (v := 0) dX7_means_17 rfl ?_
      refine g_ialdN (gx := 0) dX7_means_18 rfl (by decide) rfl (by omega) (by decide) ?_
      refine g_isub dX7_means_19 ?_
      refine g_aload_n dX7_means_20 rfl ?_
      refine g_gR (r := 173) dX7_means_21 fl_X7_7 (fun _ _ => rfl) rfl (by decide) rfl ?_
      refine g_iconstv (v := 1) dX7_means_24 rfl ?_
      refine g_ialdN (gx := 1) dX7_means_25 rfl (by decide) rfl (by omega) (by decide) ?_
      refine g_idiv dX7_means_26 (by rw [eb]; exact nI_ne0 (by omega) (by omega)) ?_
      rw [ea, eb, pk_sub h, pk_div (by omega) (by omega) (by omega)]
      refine g_istore_n dX7_means_27 (by decide) rfl ?_
      refine g_iload_n dX7_means_28 rfl ?_
      refine g_iconstv (v := 3) dX7_means_29 rfl ?_
      refine g_icmp_le (tgt := 37) dX7_means_30 (by decide) (fun c30 => absurd c30 (by rw [show (3 : Int32) = nI 3 from rfl]; exact nI_ge (a := 3) (by omega) (Nat.lt_of_le_of_lt (Nat.div_le_self _ _) (by omega)))) (fun c30 => ?_)
      refine g_iconstv (v := 3) dX7_means_33 rfl ?_
      refine g_goto (tgt := 38) dX7_means_34 (by decide) ?_
      refine g_istore_n dX7_means_38 (by decide) rfl ?_
      refine g_iload_n dX7_means_39 rfl ?_
      refine g_tabIn (off := 58) (tgt := 98) dX7_means_40 (by decide) (by decide) rfl (by decide) ?_
      refine g_iload_n dX7_means_98 rfl ?_
      refine g_if_ne (tgt := 107) dX7_means_99 (by decide) (fun c99 => ?_) (fun c99 => absurd c99 (by decide))
      refine g_iload_n dX7_means_107 rfl ?_
      refine g_iconstv (v := 3) dX7_means_108 rfl ?_
      refine g_icmp_ge (tgt := 117) dX7_means_109 (by decide) (fun c109 => ?_) (fun c109 => absurd (by decide) c109)
      refine g_bipushv (v := 8) dX7_means_117 rfl ?_
      exact g_iret dX7_means_119 (m_ret (by decide))
set_option maxHeartbeats 4000000 in
set_option maxRecDepth 100000 in
theorem c_mm_4 {L : Nat} {F : Nat → Nat → Int32} {g : Nat → Option Nat} (d : Nat) (a b q : Nat) (ea : F 173 0 = nI a) (eb : F 173 1 = nI b) (ha : a ≤ 20) (hb : 1 ≤ b) (hb2 : b ≤ 20) (hq : q ≤ 20000) (h : a ≤ q) : mCall d yX7_means MX7_means [.ref 172, .int 4, .int (nI q)] (mHX L F g) (some (.int (mMean a b 4 q))) (mHX L F g) := by
  refine mCall_of sX7_means.1 (Nat.le_of_ble_eq_true rfl) ⟨_, rfl, rfl⟩ ?_
  have em : mMean a b 4 q = mMB (4 * 4 + mSh a b q) := if_neg (Nat.not_lt.mpr h)
  rw [em]
  rcases mSh_cases a b q with ⟨e1, e2⟩ | ⟨e1, e2⟩ | ⟨e1, e2⟩ | ⟨e1, e2⟩
  · rw [e2]
    show mGo _ _ (0, [some (.ref 172), some (.int 4), some (.int (nI q)), none], [], _) _
    refine g_iload_n dX7_means_0 rfl ?_
    refine g_aload_n dX7_means_1 rfl ?_
    refine g_gR (r := 173) dX7_means_2 fl_X7_7 (fun _ _ => rfl) rfl (by decide) rfl ?_
    refine g_iconstv (v := 0) dX7_means_5 rfl ?_
    refine g_ialdN (gx := 0) dX7_means_6 rfl (by decide) rfl (by omega) (by decide) ?_
    refine g_icmp_ge (tgt := 12) dX7_means_7 (by decide) (fun c7 => ?_) (fun c7 => absurd (by rw [ea]; exact nI_le h (by omega)) c7)
    refine g_iload_n dX7_means_12 rfl ?_
    refine g_aload_n dX7_means_13 rfl ?_
    refine g_gR (r := 173) dX7_means_14 fl_X7_7 (fun _ _ => rfl) rfl (by decide) rfl ?_
    refine g_iconstv (v := 0) dX7_means_17 rfl ?_
    refine g_ialdN (gx := 0) dX7_means_18 rfl (by decide) rfl (by omega) (by decide) ?_
    refine g_isub dX7_means_19 ?_
    refine g_aload_n dX7_means_20 rfl ?_
    refine g_gR (r := 173) dX7_means_21 fl_X7_7 (fun _ _ => rfl) rfl (by decide) rfl ?_
    refine g_iconstv (v := 1) dX7_means_24 rfl ?_
    refine g_ialdN (gx := 1) dX7_means_25 rfl (by decide) rfl (by omega) (by decide) ?_
    refine g_idiv dX7_means_26 (by rw [eb]; exact nI_ne0 (by omega) (by omega)) ?_
    rw [ea, eb, pk_sub h, pk_div (by omega) (by omega) (by omega), e1]
    refine g_istore_n dX7_means_27 (by decide) rfl ?_
    refine g_iload_n dX7_means_28 rfl ?_
    refine g_iconstv (v := 3) dX7_means_29 rfl ?_
    refine g_icmp_le (tgt := 37) dX7_means_30 (by decide) (fun c30 => ?_) (fun c30 => absurd (by decide) c30)
    refine g_iload_n dX7_means_37 rfl ?_
    refine g_istore_n dX7_means_38 (by decide) rfl ?_
    refine g_iload_n dX7_means_39 rfl ?_
    refine g_tabOut (tgt := 120) dX7_means_40 (by decide) (by decide) ?_
    refine g_iload_n dX7_means_120 rfl ?_
    refine g_iconstv (v := 2) dX7_means_121 rfl ?_
    refine g_icmp_ge (tgt := 130) dX7_means_122 (by decide) (fun c122 => absurd c122 (by decide)) (fun c122 => ?_)
    refine g_bipushv (v := 9) dX7_means_125 rfl ?_
    refine g_goto (tgt := 142) dX7_means_127 (by decide) ?_
    exact g_iret dX7_means_142 (m_ret (by decide))
  · rw [e2]
    show mGo _ _ (0, [some (.ref 172), some (.int 4), some (.int (nI q)), none], [], _) _
    refine g_iload_n dX7_means_0 rfl ?_
    refine g_aload_n dX7_means_1 rfl ?_
    refine g_gR (r := 173) dX7_means_2 fl_X7_7 (fun _ _ => rfl) rfl (by decide) rfl ?_
    refine g_iconstv (v := 0) dX7_means_5 rfl ?_
    refine g_ialdN (gx := 0) dX7_means_6 rfl (by decide) rfl (by omega) (by decide) ?_
    refine g_icmp_ge (tgt := 12) dX7_means_7 (by decide) (fun c7 => ?_) (fun c7 => absurd (by rw [ea]; exact nI_le h (by omega)) c7)
    refine g_iload_n dX7_means_12 rfl ?_
    refine g_aload_n dX7_means_13 rfl ?_
    refine g_gR (r := 173) dX7_means_14 fl_X7_7 (fun _ _ => rfl) rfl (by decide) rfl ?_
    refine g_iconstv (v := 0) dX7_means_17 rfl ?_
    refine g_ialdN (gx := 0) dX7_means_18 rfl (by decide) rfl (by omega) (by decide) ?_
    refine g_isub dX7_means_19 ?_
    refine g_aload_n dX7_means_20 rfl ?_
    refine g_gR (r := 173) dX7_means_21 fl_X7_7 (fun _ _ => rfl) rfl (by decide) rfl ?_
    refine g_iconstv (v := 1) dX7_means_24 rfl ?_
    refine g_ialdN (gx := 1) dX7_means_25 rfl (by decide) rfl (by omega) (by decide) ?_
    refine g_idiv dX7_means_26 (by rw [eb]; exact nI_ne0 (by omega) (by omega)) ?_
    rw [ea, eb, pk_sub h, pk_div (by omega) (by omega) (by omega), e1]
    refine g_istore_n dX7_means_27 (by decide) rfl ?_
    refine g_iload_n dX7_means_28 rfl ?_
    refine g_iconstv (v := 3) dX7_means_29 rfl ?_
    refine g_icmp_le (tgt := 37) dX7_means_30 (by decide) (fun c30 => ?_) (fun c30 => absurd (by decide) c30)
    refine g_iload_n dX7_means_37 rfl ?_
    refine g_istore_n dX7_means_38 (by decide) rfl ?_
    refine g_iload_n dX7_means_39 rfl ?_
    refine g_tabOut (tgt := 120) dX7_means_40 (by decide) (by decide) ?_
    refine g_iload_n dX7_means_120 rfl ?_
    refine g_iconstv (v := 2) dX7_means_121 rfl ?_
    refine g_icmp_ge (tgt := 130) dX7_means_122 (by decide) (fun c122 => absurd c122 (by decide)) (fun c122 => ?_)
    refine g_bipushv (v := 9) dX7_means_125 rfl ?_
    refine g_goto (tgt := 142) dX7_means_127 (by decide) ?_
    exact g_iret dX7_means_142 (m_ret (by decide))
  · rw [e2]
    show mGo _ _ (0, [some (.ref 172), some (.int 4), some (.int (nI q)), none], [], _) _
    refine g_iload_n dX7_means_0 rfl ?_
    refine g_aload_n dX7_means_1 rfl ?_
    refine g_gR (r := 173) dX7_means_2 fl_X7_7 (fun _ _ => rfl) rfl (by decide) rfl ?_
    refine g_iconstv (v := 0) dX7_means_5 rfl ?_
    refine g_ialdN (gx := 0) dX7_means_6 rfl (by decide) rfl (by omega) (by decide) ?_
    refine g_icmp_ge (tgt := 12) dX7_means_7 (by decide) (fun c7 => ?_) (fun c7 => absurd (by rw [ea]; exact nI_le h (by omega)) c7)
    refine g_iload_n dX7_means_12 rfl ?_
    refine g_aload_n dX7_means_13 rfl ?_
    refine g_gR (r := 173) dX7_means_14 fl_X7_7 (fun _ _ => rfl) rfl (by decide) rfl ?_
    refine g_iconstv (v := 0) dX7_means_17 rfl ?_
    refine g_ialdN (gx := 0) dX7_means_18 rfl (by decide) rfl (by omega) (by decide) ?_
    refine g_isub dX7_means_19 ?_
    refine g_aload_n dX7_means_20 rfl ?_
    refine g_gR (r := 173) dX7_means_21 fl_X7_7 (fun _ _ => rfl) rfl (by decide) rfl ?_
    refine g_iconstv (v := 1) dX7_means_24 rfl ?_
    refine g_ialdN (gx := 1) dX7_means_25 rfl (by decide) rfl (by omega) (by decide) ?_
    refine g_idiv dX7_means_26 (by rw [eb]; exact nI_ne0 (by omega) (by omega)) ?_
    rw [ea, eb, pk_sub h, pk_div (by omega) (by omega) (by omega), e1]
    refine g_istore_n dX7_means_27 (by decide) rfl ?_
    refine g_iload_n dX7_means_28 rfl ?_
    refine g_iconstv (v := 3) dX7_means_29 rfl ?_
    refine g_icmp_le (tgt := 37) dX7_means_30 (by decide) (fun c30 => ?_) (fun c30 => absurd (by decide) c30)
    refine g_iload_n dX7_means_37 rfl ?_
    refine g_istore_n dX7_means_38 (by decide) rfl ?_
    refine g_iload_n dX7_means_39 rfl ?_
    refine g_tabOut (tgt := 120) dX7_means_40 (by decide) (by decide) ?_
    refine g_iload_n dX7_means_120 rfl ?_
    refine g_iconstv (v := 2) dX7_means_121 rfl ?_
    refine g_icmp_ge (tgt := 130) dX7_means_122 (by decide) (fun c122 => ?_) (fun c122 => absurd (by decide) c122)
    refine g_iload_n dX7_means_130 rfl ?_
    refine g_iconstv (v := 2) dX7_means_131 rfl ?_
    refine g_icmp_ne (tgt := 140) dX7_means_132 (by decide) (fun c132 => absurd (by decide) c132) (fun c132 => ?_)
    refine g_bipushv (v := 10) dX7_means_135 rfl ?_
    refine g_goto (tgt := 142) dX7_means_137 (by decide) ?_
    exact g_iret dX7_means_142 (m_ret (by decide))
  · rw [e2]
    show mGo _ _ (0, [some (.ref 172), some (.int 4), some (.int (nI q)), none], [], _) _
    by_cases e3 : (q - a) / b = 3
    · skip
      refine g_iload_n dX7_means_0 rfl ?_
      refine g_aload_n dX7_means_1 rfl ?_
      refine g_gR (r := 173) dX7_means_2 fl_X7_7 (fun _ _ => rfl) rfl (by decide) rfl ?_
      refine g_iconstv (v := 0) dX7_means_5 rfl ?_
      refine g_ialdN (gx := 0) dX7_means_6 rfl (by decide) rfl (by omega) (by decide) ?_
      refine g_icmp_ge (tgt := 12) dX7_means_7 (by decide) (fun c7 => ?_) (fun c7 => absurd (by rw [ea]; exact nI_le h (by omega)) c7)
      refine g_iload_n dX7_means_12 rfl ?_
      refine g_aload_n dX7_means_13 rfl ?_
      refine g_gR (r := 173) dX7_means_14 fl_X7_7 (fun _ _ => rfl) rfl (by decide) rfl ?_
      refine g_iconstv (v := 0) dX7_means_17 rfl ?_
      refine g_ialdN (gx := 0) dX7_means_18 rfl (by decide) rfl (by omega) (by decide) ?_
      refine g_isub dX7_means_19 ?_
      refine g_aload_n dX7_means_20 rfl ?_
      refine g_gR (r := 173) dX7_means_21 fl_X7_7 (fun _ _ => rfl) rfl (by decide) rfl ?_
      refine g_iconstv (v := 1) dX7_means_24 rfl ?_
      refine g_ialdN (gx := 1) dX7_means_25 rfl (by decide) rfl (by omega) (by decide) ?_
      refine g_idiv dX7_means_26 (by rw [eb]; exact nI_ne0 (by omega) (by omega)) ?_
      rw [ea, eb, pk_sub h, pk_div (by omega) (by omega) (by omega), e3]
      refine g_istore_n dX7_means_27 (by decide) rfl ?_
      refine g_iload_n dX7_means_28 rfl ?_
      refine g_iconstv (v := 3) dX7_means_29 rfl ?_
      refine g_icmp_le (tgt := 37) dX7_means_30 (by decide) (fun c30 => ?_) (fun c30 => absurd (by decide) c30)
      refine g_iload_n dX7_means_37 rfl ?_
      refine g_istore_n dX7_means_38 (by decide) rfl ?_
      refine g_iload_n dX7_means_39 rfl ?_
      refine g_tabOut (tgt := 120) dX7_means_40 (by decide) (by decide) ?_
      refine g_iload_n dX7_means_120 rfl ?_
      refine g_iconstv (v := 2) dX7_means_121 rfl ?_
      refine g_icmp_ge (tgt := 130) dX7_means_122 (by decide) (fun c122 => ?_) (fun c122 => absurd (by decide) c122)
      refine g_iload_n dX7_means_130 rfl ?_
      refine g_iconstv (v := 2) dX7_means_131 rfl ?_
      refine g_icmp_ne (tgt := 140) dX7_means_132 (by decide) (fun c132 => ?_) (fun c132 => absurd c132 (by decide))
      refine g_bipushv (v := 11) dX7_means_140 rfl ?_
      exact g_iret dX7_means_142 (m_ret (by decide))
    · skip
      refine g_iload_n dX7_means_0 rfl ?_
      refine g_aload_n dX7_means_1 rfl ?_
      refine g_gR (r := 173) dX7_means_2 fl_X7_7 (fun _ _ => rfl) rfl (by decide) rfl ?_
      refine g_iconstv (v := 0) dX7_means_5 rfl ?_
      refine g_ialdN (gx := 0) dX7_means_6 rfl (by decide) rfl (by omega) (by decide) ?_
      refine g_icmp_ge (tgt := 12) dX7_means_7 (by decide) (fun c7 => ?_) (fun c7 => absurd (by rw [ea]; exact nI_le h (by omega)) c7)
      refine g_iload_n dX7_means_12 rfl ?_
      refine g_aload_n dX7_means_13 rfl ?_
      refine g_gR (r := 173) dX7_means_14 fl_X7_7 (fun _ _ => rfl) rfl (by decide) rfl ?_
      refine g_iconstv (v := 0) dX7_means_17 rfl ?_
      refine g_ialdN (gx := 0) dX7_means_18 rfl (by decide) rfl (by omega) (by decide) ?_
      refine g_isub dX7_means_19 ?_
      refine g_aload_n dX7_means_20 rfl ?_
      refine g_gR (r := 173) dX7_means_21 fl_X7_7 (fun _ _ => rfl) rfl (by decide) rfl ?_
      refine g_iconstv (v := 1) dX7_means_24 rfl ?_
      refine g_ialdN (gx := 1) dX7_means_25 rfl (by decide) rfl (by omega) (by decide) ?_
      refine g_idiv dX7_means_26 (by rw [eb]; exact nI_ne0 (by omega) (by omega)) ?_
      rw [ea, eb, pk_sub h, pk_div (by omega) (by omega) (by omega)]
      refine g_istore_n dX7_means_27 (by decide) rfl ?_
      refine g_iload_n dX7_means_28 rfl ?_
      refine g_iconstv (v := 3) dX7_means_29 rfl ?_
      refine g_icmp_le (tgt := 37) dX7_means_30 (by decide) (fun c30 => absurd c30 (by rw [show (3 : Int32) = nI 3 from rfl]; exact nI_ge (a := 3) (by omega) (Nat.lt_of_le_of_lt (Nat.div_le_self _ _) (by omega)))) (fun c30 => ?_)
      refine g_iconstv (v := 3) dX7_means_33 rfl ?_
      refine g_goto (tgt := 38) dX7_means_34 (by decide) ?_
      refine g_istore_n dX7_means_38 (by decide) rfl ?_
      refine g_iload_n dX7_means_39 rfl ?_
      refine g_tabOut (tgt := 120) dX7_means_40 (by decide) (by decide) ?_
      refine g_iload_n dX7_means_120 rfl ?_
      refine g_iconstv (v := 2) dX7_means_121 rfl ?_
      refine g_icmp_ge (tgt := 130) dX7_means_122 (by decide) (fun c122 => ?_) (fun c122 => absurd (by decide) c122)
      refine g_iload_n dX7_means_130 rfl ?_
      refine g_iconstv (v := 2) dX7_means_131 rfl ?_
      refine g_icmp_ne (tgt := 140) dX7_means_132 (by decide) (fun c132 => ?_) (fun c132 => absurd c132 (by decide))
      refine g_bipushv (v := 11) dX7_means_140 rfl ?_
      exact g_iret dX7_means_142 (m_ret (by decide))
set_option maxHeartbeats 4000000 in
set_option maxRecDepth 100000 in
theorem c_means {L : Nat} {F : Nat → Nat → Int32} {g : Nat → Option Nat} (d : Nat) (a b c q : Nat) (ea : F 173 0 = nI a) (eb : F 173 1 = nI b) (ha : a ≤ 20) (hb : 1 ≤ b) (hb2 : b ≤ 20) (hq : q ≤ 20000) (hc : c ≤ 4) : mCall d yX7_means MX7_means [.ref 172, .int (nI c), .int (nI q)] (mHX L F g) (some (.int (mMean a b c q))) (mHX L F g) := by
  by_cases h : q < a
  · exact c_mm_lo d a b c q ea eb ha hb hb2 hq h
  · rcases (by omega : c = 0 ∨ c = 1 ∨ c = 2 ∨ c = 3 ∨ c = 4) with rfl | rfl | rfl | rfl | rfl
    · exact c_mm_0 d a b q ea eb ha hb hb2 hq (Nat.not_lt.mp h)
    · exact c_mm_1 d a b q ea eb ha hb hb2 hq (Nat.not_lt.mp h)
    · exact c_mm_2 d a b q ea eb ha hb hb2 hq (Nat.not_lt.mp h)
    · exact c_mm_3 d a b q ea eb ha hb hb2 hq (Nat.not_lt.mp h)
    · exact c_mm_4 d a b q ea eb ha hb hb2 hq (Nat.not_lt.mp h)
def mSC (S : Nat → Int32) (n : Nat) (t : Int32) : Int32 := mComp (mC S 1) (sSet (mC S 0) t n) n
set_option maxHeartbeats 4000000 in
set_option maxRecDepth 100000 in
theorem c_mNow {L : Nat} {F : Nat → Nat → Int32} {g : Nat → Option Nat} (d : Nat) (n : Nat) (hm : F 173 5 = nI n) (h10 : n ≤ 10) (a b c q : Nat) (ea : F 173 0 = nI a) (eb : F 173 1 = nI b) (ha : a ≤ 20) (hb : 1 ≤ b) (hb2 : b ≤ 20) (hq : q ≤ 20000) (hc : c ≤ 4) (t : Nat) (ht : t < 3) (ec : mSC (F 173) n (nI t) = nI c) (eq : F 173 (10 + t) = nI q) : mCall (d + 2) yX7_meansNow MX7_meansNow [.ref 172, .int (nI t)] (mHX L F g) (some (.int (mMean a b c q))) (mHX L F g) := by
  refine mCall_of sX7_meansNow.1 (Nat.le_of_ble_eq_true rfl) ⟨_, rfl, rfl⟩ ?_
  show mGo _ _ (0, [some (.ref 172), some (.int (nI t))], [], _) _
  refine g_aload_n dX7_meansNow_0 rfl ?_
  refine g_aload_n dX7_meansNow_1 rfl ?_
  refine g_aload_n dX7_meansNow_2 rfl ?_
  refine g_iload_n dX7_meansNow_3 rfl ?_
  refine g_V1i dX7_meansNow_4 ml_X7_48 sX7_guestsAt rfl (by decide) (Nat.le_of_ble_eq_true rfl) (c_mSet d n hm h10 (nI t)) ?_
  refine g_V1i dX7_meansNow_7 ml_X7_51 sX7_companyOf rfl (by decide) (Nat.le_of_ble_eq_true rfl) (c_mComp d n hm h10 (sSet (mC (F 173) 0) (nI t) n)) ?_
  rw [show mComp (mC (F 173) 1) (sSet (mC (F 173) 0) (nI t) n) n = nI c from ec]
  refine g_aload_n dX7_meansNow_10 rfl ?_
  refine g_gR (r := 173) dX7_meansNow_11 fl_X7_7 (fun _ _ => rfl) rfl (by decide) rfl ?_
  refine g_bipushv (v := 10) dX7_meansNow_14 rfl ?_
  refine g_iload_n dX7_meansNow_16 rfl ?_
  refine g_iadd dX7_meansNow_17 ?_
  refine g_ialdN (gx := (10 + t)) dX7_meansNow_18 rfl (by decide) (nI_add 10 t) (by omega) (by decide) ?_
  rw [eq]
  refine g_V2i dX7_meansNow_19 ml_X7_54 sX7_means rfl (by decide) (Nat.le_of_ble_eq_true rfl) (c_means (d + 1) a b c q ea eb ha hb hb2 hq hc) ?_
  exact g_iret dX7_meansNow_22 rfl
