/-! told: what it answers depends on the rows that calls show alone -/
/-- a read: the same answer whatever the rest holds, and nothing changes -/
def RX (F : Nat → Nat → Int32) (y : MethodName) (M : mM) (as : List Value) (r : Int32) : Prop := ∀ (L : Nat) (Z : Nat → Nat → Int32) (g : Nat → Option Nat) (d : Nat), mCall (d + 3) y M as (mHX L (mx F Z) g) (some (.int r)) (mHX L (mx F Z) g)
theorem rx_count {B w : Nat} {F : Nat → Nat → Int32} (h : HI B F) (hw : w < 13) : ∃ r, RX F yX6_count MX6_count [.ref 4, .int (nI w)] r := by
  obtain ⟨n, ⟨hn, h10, -⟩, -⟩ := h
  rcases (by omega : w = 0 ∨ w = 1 ∨ w = 2 ∨ w = 3 ∨ w = 4 ∨ w = 5 ∨ w = 6 ∨ w = 7 ∨ w = 8 ∨ w = 9 ∨ w = 10 ∨ w = 11 ∨ w = 12) with rfl | rfl | rfl | rfl | rfl | rfl | rfl | rfl | rfl | rfl | rfl | rfl | rfl
  · exact ⟨_, fun L Z g d => c_cnt_0 (F := mx F Z) d⟩
  · exact ⟨((0 ||| sSet (F 8) 0 n) ||| sSet (F 8) 1 n) ||| sSet (F 8) 2 n, fun L Z g d => c_cnt_1 (F := mx F Z) d n hn h10⟩
  · exact ⟨sGo (F 19), fun L Z g d => c_cnt_2 (F := mx F Z) d⟩
  · exact ⟨_, fun L Z g d => c_cnt_3 (F := mx F Z) d⟩
  · exact ⟨_, fun L Z g d => c_cnt_4 (F := mx F Z) d⟩
  · exact ⟨_, fun L Z g d => c_cnt_5 (F := mx F Z) d⟩
  · exact ⟨sSum (F 10) n, fun L Z g d => c_cnt_6 (F := mx F Z) d n hn h10⟩
  · exact ⟨sMeant (F 15), fun L Z g d => c_cnt_7 (F := mx F Z) d⟩
  · exact ⟨sSumHere (F 8) (F 11) n, fun L Z g d => c_cnt_8 (F := mx F Z) d n hn h10⟩
  · exact ⟨_, fun L Z g d => c_cnt_9 (F := mx F Z) d⟩
  · exact ⟨_, fun L Z g d => c_cnt_10 (F := mx F Z) d⟩
  · exact ⟨_, fun L Z g d => c_cnt_11 (F := mx F Z) d⟩
  · exact ⟨_, fun L Z g d => c_cnt_12 (F := mx F Z) d⟩
theorem rx_of {B k w : Nat} {F : Nat → Nat → Int32} (h : HI B F) (hk : k < 10) (hw : w < 7) : ∃ r, RX F yX6_of MX6_of [.ref 4, .int (nI k), .int (nI w)] r := by
  obtain ⟨n, ⟨hn, h10, -⟩, -⟩ := h
  by_cases kn : k < n
  · rcases (by omega : w = 0 ∨ w = 1 ∨ w = 2 ∨ w = 3 ∨ w = 4 ∨ w = 5 ∨ w = 6) with rfl | rfl | rfl | rfl | rfl | rfl | rfl
    · exact ⟨_, fun L Z g d => c_of_0 (F := mx F Z) d n hn h10 k kn⟩
    · exact ⟨_, fun L Z g d => c_of_1 (F := mx F Z) d n hn h10 k kn⟩
    · exact ⟨_, fun L Z g d => c_of_2 (F := mx F Z) d n hn h10 k kn⟩
    · exact ⟨_, fun L Z g d => c_of_3 (F := mx F Z) d n hn h10 k kn⟩
    · exact ⟨mbi (¬ F 8 k = (-6) ∧ sHost (F 8) (F 9) (F 8 k) n = nI k), fun L Z g d => c_of_4 (F := mx F Z) d n hn h10 k kn⟩
    · exact ⟨_, fun L Z g d => c_of_5 (F := mx F Z) d n hn h10 k kn⟩
    · exact ⟨_, fun L Z g d => c_of_6 (F := mx F Z) d n hn h10 k kn⟩
  · exact ⟨_, fun L Z g d => c_of_no (F := mx F Z) d (nI k) (nI w) (fun q => kn (by
      have := q.2
      rw [show mx F Z 7 0 = nI n from hn] at this
      exact (nI_ltI (by omega) (by omega)).mp this))⟩
theorem rx_end {B k w : Nat} {F : Nat → Nat → Int32} (h : HI B F) (hk : k < 10) (hw : w < 5) : ∃ r, RX F yX6_end MX6_end [.ref 4, .int (nI k), .int (nI w)] r := by
  obtain ⟨-, -, -, -, -, -, t, ht, et⟩ := h
  by_cases kt : k < t
  · exact ⟨_, fun L Z g d => c_tel_ok (F := mx F Z) d t et ht k kt w hw⟩
  · exact ⟨_, fun L Z g d => c_tel_no (F := mx F Z) d (nI k) (nI w) (fun q => kt (by
      have := q.2
      rw [show mx F Z 14 4 = nI t from et] at this
      exact (nI_ltI (by omega) (by omega)).mp this))⟩
theorem rx_tab3 {t : Nat} {F : Nat → Nat → Int32} (ht : t < 3) : RX F yX6_table MX6_table [.ref 4, .int (nI t), .int 3] (F 19 t) := fun L Z g d => c_tab_3 (F := mx F Z) d t ht
theorem rx_tab5 {t : Nat} {F : Nat → Nat → Int32} (ht : t < 3) : RX F yX6_table MX6_table [.ref 4, .int (nI t), .int 5] (F 20 t) := fun L Z g d => c_tab_5 (F := mx F Z) d t ht
theorem rx_mng0 {m : Nat} {F : Nat → Nat → Int32} (h1 : 1 ≤ m) (h11 : m ≤ 11) : RX F yX6_meaning MX6_meaning [.ref 4, .int (nI m), .int 0] (F 15 m) := fun L Z g d => c_mng_0 (F := mx F Z) d m h1 h11
theorem rx_mng1 {m : Nat} {F : Nat → Nat → Int32} (h1 : 1 ≤ m) (h11 : m ≤ 11) : RX F yX6_meaning MX6_meaning [.ref 4, .int (nI m), .int 1] (F 16 m) := fun L Z g d => c_mng_1 (F := mx F Z) d m h1 h11
set_option maxHeartbeats 4000000 in
set_option maxRecDepth 100000 in
theorem to_c {L d : Nat} {F : Nat → Nat → Int32} {g : Nat → Option Nat} {out : mOut} (h : Int64) (x : Option Value) (k : Nat) (hk : k < 13) (r : Int32) (H : mCall (d + 3) yX6_count MX6_count [.ref 4, .int (nI k)] (mHX L F g) (some (.int r)) (mHX L F g)) (K : mGo ML_told (d + 4) (6, [some (.ref 4), some (.long (31 * h + (r).toInt64)), none, some (.int (nI (k + 1))), x], [], mHX L F g) out) : mGo ML_told (d + 4) (6, [some (.ref 4), some (.long h), none, some (.int (nI k)), x], [], mHX L F g) out := by
  refine g_iload_n dL_told_6 rfl ?_
  refine g_bipushv (v := 13) dL_told_7 rfl ?_
  refine g_icmp_ge (tgt := 31) dL_told_9 (by decide) (fun c9 => absurd c9 (nI_ge (a := k) (b := 13) (by omega) (by decide))) (fun c9 => ?_)
  refine g_ldc2 dL_told_12 kl_L_10 ?_
  refine g_lload_n dL_told_15 rfl ?_
  refine g_lmul dL_told_16 ?_
  refine g_aload_n dL_told_17 rfl ?_
  refine g_iload_n dL_told_18 rfl ?_
  refine g_V1i dL_told_19 ml_L_12 sX6_count rfl (by decide) (Nat.le_of_ble_eq_true rfl) (H) ?_
  refine g_i2l dL_told_22 ?_
  refine g_ladd dL_told_23 ?_
  refine g_lstore_n dL_told_24 (by decide) rfl ?_
  refine g_iincN dL_told_25 rfl (by decide) rfl ?_
  refine g_goto (tgt := 6) dL_told_28 (by decide) ?_
  exact K
set_option maxHeartbeats 4000000 in
set_option maxRecDepth 100000 in
theorem to_c0 {L d : Nat} {F : Nat → Nat → Int32} {g : Nat → Option Nat} {out : mOut} (h : Int64) (x : Option Value)  (K : mGo ML_told (d + 4) (33, [some (.ref 4), some (.long h), none, some (.int (nI 0)), x], [], mHX L F g) out) : mGo ML_told (d + 4) (6, [some (.ref 4), some (.long h), none, some (.int (nI 13)), x], [], mHX L F g) out := by
  refine g_iload_n dL_told_6 rfl ?_
  refine g_bipushv (v := 13) dL_told_7 rfl ?_
  refine g_icmp_ge (tgt := 31) dL_told_9 (by decide) (fun c9 => ?_) (fun c9 => absurd (nI_le (a := 13) (b := 13) (by decide) (by decide)) c9)
  refine g_iconstv (v := 0) dL_told_31 rfl ?_
  refine g_istore_n dL_told_32 (by decide) rfl ?_
  exact K
set_option maxHeartbeats 4000000 in
set_option maxRecDepth 100000 in
theorem to_o {L d : Nat} {F : Nat → Nat → Int32} {g : Nat → Option Nat} {out : mOut} (h : Int64) (x : Option Value) (k : Nat) (hk : k < 10) (K : mGo ML_told (d + 4) (42, [some (.ref 4), some (.long h), none, some (.int (nI k)), some (.int (nI 0))], [], mHX L F g) out) : mGo ML_told (d + 4) (33, [some (.ref 4), some (.long h), none, some (.int (nI k)), x], [], mHX L F g) out := by
  refine g_iload_n dL_told_33 rfl ?_
  refine g_bipushv (v := 10) dL_told_34 rfl ?_
  refine g_icmp_ge (tgt := 106) dL_told_36 (by decide) (fun c36 => absurd c36 (nI_ge (a := k) (b := 10) (by omega) (by decide))) (fun c36 => ?_)
  refine g_iconstv (v := 0) dL_told_39 rfl ?_
  refine g_istore dL_told_40 (by decide) rfl ?_
  exact K
set_option maxHeartbeats 4000000 in
set_option maxRecDepth 100000 in
theorem to_o0 {L d : Nat} {F : Nat → Nat → Int32} {g : Nat → Option Nat} {out : mOut} (h : Int64) (x : Option Value)  (K : mGo ML_told (d + 4) (108, [some (.ref 4), some (.long h), none, some (.int (nI 0)), x], [], mHX L F g) out) : mGo ML_told (d + 4) (33, [some (.ref 4), some (.long h), none, some (.int (nI 10)), x], [], mHX L F g) out := by
  refine g_iload_n dL_told_33 rfl ?_
  refine g_bipushv (v := 10) dL_told_34 rfl ?_
  refine g_icmp_ge (tgt := 106) dL_told_36 (by decide) (fun c36 => ?_) (fun c36 => absurd (nI_le (a := 10) (b := 10) (by decide) (by decide)) c36)
  refine g_iconstv (v := 0) dL_told_106 rfl ?_
  refine g_istore_n dL_told_107 (by decide) rfl ?_
  exact K
set_option maxHeartbeats 4000000 in
set_option maxRecDepth 100000 in
theorem to_f {L d : Nat} {F : Nat → Nat → Int32} {g : Nat → Option Nat} {out : mOut} (h : Int64) (x : Option Value) (k : Nat) (w : Nat) (hw : w < 7) (r : Int32) (H : mCall (d + 3) yX6_of MX6_of [.ref 4, .int (nI k), .int (nI w)] (mHX L F g) (some (.int r)) (mHX L F g)) (K : mGo ML_told (d + 4) (42, [some (.ref 4), some (.long (31 * h + (r).toInt64)), none, some (.int (nI k)), some (.int (nI (w + 1)))], [], mHX L F g) out) : mGo ML_told (d + 4) (42, [some (.ref 4), some (.long h), none, some (.int (nI k)), some (.int (nI w))], [], mHX L F g) out := by
  refine g_iload dL_told_42 rfl ?_
  refine g_bipushv (v := 7) dL_told_44 rfl ?_
  refine g_icmp_ge (tgt := 70) dL_told_46 (by decide) (fun c46 => absurd c46 (nI_ge (a := w) (b := 7) (by omega) (by decide))) (fun c46 => ?_)
  refine g_ldc2 dL_told_49 kl_L_10 ?_
  refine g_lload_n dL_told_52 rfl ?_
  refine g_lmul dL_told_53 ?_
  refine g_aload_n dL_told_54 rfl ?_
  refine g_iload_n dL_told_55 rfl ?_
  refine g_iload dL_told_56 rfl ?_
  refine g_V2i dL_told_58 ml_L_18 sX6_of rfl (by decide) (Nat.le_of_ble_eq_true rfl) (H) ?_
  refine g_i2l dL_told_61 ?_
  refine g_ladd dL_told_62 ?_
  refine g_lstore_n dL_told_63 (by decide) rfl ?_
  refine g_iincN dL_told_64 rfl (by decide) rfl ?_
  refine g_goto (tgt := 42) dL_told_67 (by decide) ?_
  exact K
set_option maxHeartbeats 4000000 in
set_option maxRecDepth 100000 in
theorem to_f0 {L d : Nat} {F : Nat → Nat → Int32} {g : Nat → Option Nat} {out : mOut} (h : Int64) (x : Option Value) (k : Nat) (K : mGo ML_told (d + 4) (73, [some (.ref 4), some (.long h), none, some (.int (nI k)), some (.int (nI 0))], [], mHX L F g) out) : mGo ML_told (d + 4) (42, [some (.ref 4), some (.long h), none, some (.int (nI k)), some (.int (nI 7))], [], mHX L F g) out := by
  refine g_iload dL_told_42 rfl ?_
  refine g_bipushv (v := 7) dL_told_44 rfl ?_
  refine g_icmp_ge (tgt := 70) dL_told_46 (by decide) (fun c46 => ?_) (fun c46 => absurd (nI_le (a := 7) (b := 7) (by decide) (by decide)) c46)
  refine g_iconstv (v := 0) dL_told_70 rfl ?_
  refine g_istore dL_told_71 (by decide) rfl ?_
  exact K
set_option maxHeartbeats 4000000 in
set_option maxRecDepth 100000 in
theorem to_e {L d : Nat} {F : Nat → Nat → Int32} {g : Nat → Option Nat} {out : mOut} (h : Int64) (x : Option Value) (k : Nat) (w : Nat) (hw : w < 5) (r : Int32) (H : mCall (d + 3) yX6_end MX6_end [.ref 4, .int (nI k), .int (nI w)] (mHX L F g) (some (.int r)) (mHX L F g)) (K : mGo ML_told (d + 4) (73, [some (.ref 4), some (.long (31 * h + (r).toInt64)), none, some (.int (nI k)), some (.int (nI (w + 1)))], [], mHX L F g) out) : mGo ML_told (d + 4) (73, [some (.ref 4), some (.long h), none, some (.int (nI k)), some (.int (nI w))], [], mHX L F g) out := by
  refine g_iload dL_told_73 rfl ?_
  refine g_iconstv (v := 5) dL_told_75 rfl ?_
  refine g_icmp_ge (tgt := 100) dL_told_76 (by decide) (fun c76 => absurd c76 (nI_ge (a := w) (b := 5) (by omega) (by decide))) (fun c76 => ?_)
  refine g_ldc2 dL_told_79 kl_L_10 ?_
  refine g_lload_n dL_told_82 rfl ?_
  refine g_lmul dL_told_83 ?_
  refine g_aload_n dL_told_84 rfl ?_
  refine g_iload_n dL_told_85 rfl ?_
  refine g_iload dL_told_86 rfl ?_
  refine g_V2i dL_told_88 ml_L_22 sX6_end rfl (by decide) (Nat.le_of_ble_eq_true rfl) (H) ?_
  refine g_i2l dL_told_91 ?_
  refine g_ladd dL_told_92 ?_
  refine g_lstore_n dL_told_93 (by decide) rfl ?_
  refine g_iincN dL_told_94 rfl (by decide) rfl ?_
  refine g_goto (tgt := 73) dL_told_97 (by decide) ?_
  exact K
set_option maxHeartbeats 4000000 in
set_option maxRecDepth 100000 in
theorem to_e0 {L d : Nat} {F : Nat → Nat → Int32} {g : Nat → Option Nat} {out : mOut} (h : Int64) (x : Option Value) (k : Nat) (K : mGo ML_told (d + 4) (33, [some (.ref 4), some (.long h), none, some (.int (nI (k + 1))), some (.int (nI 5))], [], mHX L F g) out) : mGo ML_told (d + 4) (73, [some (.ref 4), some (.long h), none, some (.int (nI k)), some (.int (nI 5))], [], mHX L F g) out := by
  refine g_iload dL_told_73 rfl ?_
  refine g_iconstv (v := 5) dL_told_75 rfl ?_
  refine g_icmp_ge (tgt := 100) dL_told_76 (by decide) (fun c76 => ?_) (fun c76 => absurd (nI_le (a := 5) (b := 5) (by decide) (by decide)) c76)
  refine g_iincN dL_told_100 rfl (by decide) rfl ?_
  refine g_goto (tgt := 33) dL_told_103 (by decide) ?_
  exact K
set_option maxHeartbeats 4000000 in
set_option maxRecDepth 100000 in
theorem to_t {L d : Nat} {F : Nat → Nat → Int32} {g : Nat → Option Nat} {out : mOut} (h : Int64) (x : Option Value) (k : Nat) (hk : k < 3) (r s : Int32) (H : mCall (d + 3) yX6_table MX6_table [.ref 4, .int (nI k), .int 3] (mHX L F g) (some (.int r)) (mHX L F g)) (H2 : mCall (d + 3) yX6_table MX6_table [.ref 4, .int (nI k), .int 5] (mHX L F g) (some (.int s)) (mHX L F g)) (K : mGo ML_told (d + 4) (108, [some (.ref 4), some (.long (31 * (31 * h + (r).toInt64) + (s).toInt64)), none, some (.int (nI (k + 1))), x], [], mHX L F g) out) : mGo ML_told (d + 4) (108, [some (.ref 4), some (.long h), none, some (.int (nI k)), x], [], mHX L F g) out := by
  refine g_iload_n dL_told_108 rfl ?_
  refine g_iconstv (v := 3) dL_told_109 rfl ?_
  refine g_icmp_ge (tgt := 145) dL_told_110 (by decide) (fun c110 => absurd c110 (nI_ge (a := k) (b := 3) (by omega) (by decide))) (fun c110 => ?_)
  refine g_ldc2 dL_told_113 kl_L_10 ?_
  refine g_ldc2 dL_told_116 kl_L_10 ?_
  refine g_lload_n dL_told_119 rfl ?_
  refine g_lmul dL_told_120 ?_
  refine g_aload_n dL_told_121 rfl ?_
  refine g_iload_n dL_told_122 rfl ?_
  refine g_iconstv (v := 3) dL_told_123 rfl ?_
  refine g_V2i dL_told_124 ml_L_25 sX6_table rfl (by decide) (Nat.le_of_ble_eq_true rfl) (H) ?_
  refine g_i2l dL_told_127 ?_
  refine g_ladd dL_told_128 ?_
  refine g_lmul dL_told_129 ?_
  refine g_aload_n dL_told_130 rfl ?_
  refine g_iload_n dL_told_131 rfl ?_
  refine g_iconstv (v := 5) dL_told_132 rfl ?_
  refine g_V2i dL_told_133 ml_L_25 sX6_table rfl (by decide) (Nat.le_of_ble_eq_true rfl) (H2) ?_
  refine g_i2l dL_told_136 ?_
  refine g_ladd dL_told_137 ?_
  refine g_lstore_n dL_told_138 (by decide) rfl ?_
  refine g_iincN dL_told_139 rfl (by decide) rfl ?_
  refine g_goto (tgt := 108) dL_told_142 (by decide) ?_
  exact K
set_option maxHeartbeats 4000000 in
set_option maxRecDepth 100000 in
theorem to_t0 {L d : Nat} {F : Nat → Nat → Int32} {g : Nat → Option Nat} {out : mOut} (h : Int64) (x : Option Value)  (K : mGo ML_told (d + 4) (147, [some (.ref 4), some (.long h), none, some (.int (nI 1)), x], [], mHX L F g) out) : mGo ML_told (d + 4) (108, [some (.ref 4), some (.long h), none, some (.int (nI 3)), x], [], mHX L F g) out := by
  refine g_iload_n dL_told_108 rfl ?_
  refine g_iconstv (v := 3) dL_told_109 rfl ?_
  refine g_icmp_ge (tgt := 145) dL_told_110 (by decide) (fun c110 => ?_) (fun c110 => absurd (nI_le (a := 3) (b := 3) (by decide) (by decide)) c110)
  refine g_iconstv (v := 1) dL_told_145 rfl ?_
  refine g_istore_n dL_told_146 (by decide) rfl ?_
  exact K
set_option maxHeartbeats 4000000 in
set_option maxRecDepth 100000 in
theorem to_m {L d : Nat} {F : Nat → Nat → Int32} {g : Nat → Option Nat} {out : mOut} (h : Int64) (x : Option Value) (k : Nat) (hk : k < 12) (r s : Int32) (H : mCall (d + 3) yX6_meaning MX6_meaning [.ref 4, .int (nI k), .int 0] (mHX L F g) (some (.int r)) (mHX L F g)) (H2 : mCall (d + 3) yX6_meaning MX6_meaning [.ref 4, .int (nI k), .int 1] (mHX L F g) (some (.int s)) (mHX L F g)) (K : mGo ML_told (d + 4) (147, [some (.ref 4), some (.long (31 * (31 * h + (r).toInt64) + (s).toInt64)), none, some (.int (nI (k + 1))), x], [], mHX L F g) out) : mGo ML_told (d + 4) (147, [some (.ref 4), some (.long h), none, some (.int (nI k)), x], [], mHX L F g) out := by
  refine g_iload_n dL_told_147 rfl ?_
  refine g_bipushv (v := 12) dL_told_148 rfl ?_
  refine g_icmp_ge (tgt := 185) dL_told_150 (by decide) (fun c150 => absurd c150 (nI_ge (a := k) (b := 12) (by omega) (by decide))) (fun c150 => ?_)
  refine g_ldc2 dL_told_153 kl_L_10 ?_
  refine g_ldc2 dL_told_156 kl_L_10 ?_
  refine g_lload_n dL_told_159 rfl ?_
  refine g_lmul dL_told_160 ?_
  refine g_aload_n dL_told_161 rfl ?_
  refine g_iload_n dL_told_162 rfl ?_
  refine g_iconstv (v := 0) dL_told_163 rfl ?_
  refine g_V2i dL_told_164 ml_L_28 sX6_meaning rfl (by decide) (Nat.le_of_ble_eq_true rfl) (H) ?_
  refine g_i2l dL_told_167 ?_
  refine g_ladd dL_told_168 ?_
  refine g_lmul dL_told_169 ?_
  refine g_aload_n dL_told_170 rfl ?_
  refine g_iload_n dL_told_171 rfl ?_
  refine g_iconstv (v := 1) dL_told_172 rfl ?_
  refine g_V2i dL_told_173 ml_L_28 sX6_meaning rfl (by decide) (Nat.le_of_ble_eq_true rfl) (H2) ?_
  refine g_i2l dL_told_176 ?_
  refine g_ladd dL_told_177 ?_
  refine g_lstore_n dL_told_178 (by decide) rfl ?_
  refine g_iincN dL_told_179 rfl (by decide) rfl ?_
  refine g_goto (tgt := 147) dL_told_182 (by decide) ?_
  exact K
set_option maxHeartbeats 4000000 in
set_option maxRecDepth 100000 in
theorem to_m0 {L d : Nat} {F : Nat → Nat → Int32} {g : Nat → Option Nat} (h : Int64) (x : Option Value) : mGo ML_told (d + 4) (147, [some (.ref 4), some (.long h), none, some (.int (nI 12)), x], [], mHX L F g) (some (.long h), mHX L F g) := by
  refine g_iload_n dL_told_147 rfl ?_
  refine g_bipushv (v := 12) dL_told_148 rfl ?_
  refine g_icmp_ge (tgt := 185) dL_told_150 (by decide) (fun c150 => ?_) (fun c150 => absurd (nI_le (a := 12) (b := 12) (by decide) (by decide)) c150)
  refine g_lload_n dL_told_185 rfl ?_
  exact g_lret dL_told_186 rfl
def TG (F : Nat → Nat → Int32) (pc : Nat) (Ls : mLs) : Prop := ∃ v : Int64, ∀ (L : Nat) (Z : Nat → Nat → Int32) (g : Nat → Option Nat) (d : Nat), mGo ML_told (d + 4) (pc, Ls, [], mHX L (mx F Z) g) (some (.long v), mHX L (mx F Z) g)
abbrev tL (h : Int64) (k : Nat) (x : Option Value) : mLs := [some (.ref 4), some (.long h), none, some (.int (nI k)), x]
theorem tg_m {F : Nat → Nat → Int32} (x : Option Value) : ∀ (m k : Nat) (h : Int64), 1 ≤ k → k + m = 12 → TG F 147 (tL h k x) := by
  intro m
  induction m with
  | zero =>
    intro k h _ hk
    obtain rfl : k = 12 := by omega
    exact ⟨h, fun L Z g d => to_m0 h x⟩
  | succ m ih =>
    intro k h h1 hk
    obtain ⟨v, K⟩ := ih (k + 1) (31 * (31 * h + (F 15 k).toInt64) + (F 16 k).toInt64) (by omega) (by omega)
    exact ⟨v, fun L Z g d => to_m h x k (by omega) _ _ (rx_mng0 h1 (by omega) L Z g d) (rx_mng1 h1 (by omega) L Z g d) (K L Z g d)⟩
theorem tg_t {F : Nat → Nat → Int32} (x : Option Value) : ∀ (m k : Nat) (h : Int64), k + m = 3 → TG F 108 (tL h k x) := by
  intro m
  induction m with
  | zero =>
    intro k h hk
    obtain rfl : k = 3 := by omega
    obtain ⟨v, K⟩ := tg_m (F := F) x 11 1 h (by decide) (by decide)
    exact ⟨v, fun L Z g d => to_t0 h x (K L Z g d)⟩
  | succ m ih =>
    intro k h hk
    obtain ⟨v, K⟩ := ih (k + 1) (31 * (31 * h + (F 19 k).toInt64) + (F 20 k).toInt64) (by omega)
    exact ⟨v, fun L Z g d => to_t h x k (by omega) _ _ (rx_tab3 (by omega) L Z g d) (rx_tab5 (by omega) L Z g d) (K L Z g d)⟩
theorem tg_o {B : Nat} {F : Nat → Nat → Int32} (hI : HI B F) : ∀ (m k : Nat) (h : Int64) (x : Option Value), k + m = 10 → TG F 33 (tL h k x) := by
  intro m
  induction m with
  | zero =>
    intro k h x hk
    obtain rfl : k = 10 := by omega
    obtain ⟨v, K⟩ := tg_t (F := F) x 3 0 h (by decide)
    exact ⟨v, fun L Z g d => to_o0 h x (K L Z g d)⟩
  | succ m ih =>
    intro k h x hk
    have he : ∀ (q w : Nat) (h : Int64), w + q = 5 → TG F 73 (tL h k (some (.int (nI w)))) := by
      intro q
      induction q with
      | zero =>
        intro w h hw
        obtain rfl : w = 5 := by omega
        obtain ⟨v, K⟩ := ih (k + 1) h (some (.int (nI 5))) (by omega)
        exact ⟨v, fun L Z g d => to_e0 h none k (K L Z g d)⟩
      | succ q ih2 =>
        intro w h hw
        obtain ⟨r, R⟩ := rx_end (k := k) (w := w) hI (by omega) (by omega)
        obtain ⟨v, K⟩ := ih2 (w + 1) (31 * h + r.toInt64) (by omega)
        exact ⟨v, fun L Z g d => to_e h none k w (by omega) r (R L Z g d) (K L Z g d)⟩
    have hf : ∀ (q w : Nat) (h : Int64), w + q = 7 → TG F 42 (tL h k (some (.int (nI w)))) := by
      intro q
      induction q with
      | zero =>
        intro w h hw
        obtain rfl : w = 7 := by omega
        obtain ⟨v, K⟩ := he 5 0 h (by decide)
        exact ⟨v, fun L Z g d => to_f0 h none k (K L Z g d)⟩
      | succ q ih2 =>
        intro w h hw
        obtain ⟨r, R⟩ := rx_of (k := k) (w := w) hI (by omega) (by omega)
        obtain ⟨v, K⟩ := ih2 (w + 1) (31 * h + r.toInt64) (by omega)
        exact ⟨v, fun L Z g d => to_f h none k w (by omega) r (R L Z g d) (K L Z g d)⟩
    obtain ⟨v, K⟩ := hf 7 0 h (by decide)
    exact ⟨v, fun L Z g d => to_o h x k (by omega) (K L Z g d)⟩
theorem tg_c {B : Nat} {F : Nat → Nat → Int32} (hI : HI B F) (x : Option Value) : ∀ (m k : Nat) (h : Int64), k + m = 13 → TG F 6 (tL h k x) := by
  intro m
  induction m with
  | zero =>
    intro k h hk
    obtain rfl : k = 13 := by omega
    obtain ⟨v, K⟩ := tg_o hI 10 0 h x (by decide)
    exact ⟨v, fun L Z g d => to_c0 h x (K L Z g d)⟩
  | succ m ih =>
    intro k h hk
    obtain ⟨r, R⟩ := rx_count (w := k) hI (by omega)
    obtain ⟨v, K⟩ := ih (k + 1) (31 * h + r.toInt64) (by omega)
    exact ⟨v, fun L Z g d => to_c h x k (by omega) r (R L Z g d) (K L Z g d)⟩
def TD (F : Nat → Nat → Int32) (v : Int64) : Prop := ∀ (L : Nat) (Z : Nat → Nat → Int32) (g : Nat → Option Nat) (d : Nat), mCall (d + 4) yL_told ML_told [.ref 4] (mHX L (mx F Z) g) (some (.long v)) (mHX L (mx F Z) g)
set_option maxHeartbeats 4000000 in
theorem td_of {B : Nat} {F : Nat → Nat → Int32} (hI : HI B F) : ∃ v, TD F v := by
  obtain ⟨v, K⟩ := tg_c hI none 13 0 3 (by decide)
  refine ⟨v, fun L Z g d => ?_⟩
  refine mCall_of sL_told.1 (Nat.le_of_ble_eq_true rfl) rfl ?_
  show mGo _ _ (0, [some (.ref 4), none, none, none, none], [], _) _
  refine g_ldc2 dL_told_0 kl_L_8 ?_
  refine g_lstore_n dL_told_3 (by decide) rfl ?_
  refine g_iconstv (v := nI 0) dL_told_4 rfl ?_
  refine g_istore_n dL_told_5 (by decide) rfl ?_
  exact K L Z g d
