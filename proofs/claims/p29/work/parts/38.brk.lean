/-! isBroken: a word or a cough leaves the meanings as they were, and undo brings back all -/
theorem lg_vv (v : Int64) : lg_cmp v v = 0 := by
  unfold lg_cmp
  simp
def sAl (o : Nat → Int32) (k : Nat) : Int32 := mfold (fun a j => a + o (j + 1)) 0 k
def sDl (o : Nat → Int32) (s : Int32) (k : Nat) : Int32 := mfold (fun a j => a - o (j + 1)) s k
theorem sDl_n (o : Nat → Int32) (s : Int32) : ∀ k, sDl o s k = s - sAl o k := by
  intro k
  induction k with
  | zero =>
    show s = s - 0
    exact (Int32.sub_zero s).symm
  | succ k ih =>
    have e1 : sDl o s (k + 1) = sDl o s k - o (k + 1) := rfl
    have e2 : sAl o (k + 1) = sAl o k + o (k + 1) := rfl
    rw [e1, e2, ih]
    simp only [Int32.sub_eq_add_neg, Int32.neg_add, Int32.add_assoc]
theorem sDl_0 (o : Nat → Int32) (k : Nat) : sDl o (sAl o k) k = 0 := by rw [sDl_n, Int32.sub_self]
set_option maxHeartbeats 4000000 in
set_option maxRecDepth 100000 in
theorem ib_a1 {L d : Nat} {F : Nat → Nat → Int32} {g : Nat → Option Nat} {x : Int32} {out : mOut} {cm cc : Int32} (H7 : mCall (d + 4) yX6_count MX6_count [.ref 4, .int 7] (mHX L F g) (some (.int cm)) (mHX L F g)) (H3 : mCall (d + 4) yX6_count MX6_count [.ref 4, .int 3] (mHX L F g) (some (.int cc)) (mHX L F g)) (K : mGo ML_isBroken (d + 5) (20, [some (.ref 4), some (.int x), some (.int 1), some (.int cm), some (.int cc), some (.int 0), some (.int (nI 1)), none, none, none, none], [], mHX L F g) out) : mGo ML_isBroken (d + 5) (0, [some (.ref 4), some (.int x), some (.int 1), none, none, none, none, none, none, none, none], [], mHX L F g) out := by
  refine g_aload_n dL_isBroken_0 rfl ?_
  refine g_bipushv (v := 7) dL_isBroken_1 rfl ?_
  refine g_V1i dL_isBroken_3 ml_L_12 sX6_count rfl (by decide) (Nat.le_of_ble_eq_true rfl) (H7) ?_
  refine g_istore_n dL_isBroken_6 (by decide) rfl ?_
  refine g_aload_n dL_isBroken_7 rfl ?_
  refine g_iconstv (v := 3) dL_isBroken_8 rfl ?_
  refine g_V1i dL_isBroken_9 ml_L_12 sX6_count rfl (by decide) (Nat.le_of_ble_eq_true rfl) (H3) ?_
  refine g_istore dL_isBroken_12 (by decide) rfl ?_
  refine g_iconstv (v := 0) dL_isBroken_14 rfl ?_
  refine g_istore dL_isBroken_15 (by decide) rfl ?_
  refine g_iconstv (v := 1) dL_isBroken_17 rfl ?_
  refine g_istore dL_isBroken_18 (by decide) rfl ?_
  exact K
set_option maxHeartbeats 4000000 in
set_option maxRecDepth 100000 in
theorem ib_l1 {L d : Nat} {F : Nat → Nat → Int32} {g : Nat → Option Nat} {x : Int32} {out : mOut} {cm cc a r : Int32} (m : Nat) (hm : m < 12) (H : mCall (d + 4) yX6_meaning MX6_meaning [.ref 4, .int (nI m), .int 0] (mHX L F g) (some (.int r)) (mHX L F g)) (K : mGo ML_isBroken (d + 5) (20, [some (.ref 4), some (.int x), some (.int 1), some (.int cm), some (.int cc), some (.int (a + r)), some (.int (nI (m + 1))), none, none, none, none], [], mHX L F g) out) : mGo ML_isBroken (d + 5) (20, [some (.ref 4), some (.int x), some (.int 1), some (.int cm), some (.int cc), some (.int a), some (.int (nI m)), none, none, none, none], [], mHX L F g) out := by
  refine g_iload dL_isBroken_20 rfl ?_
  refine g_bipushv (v := 12) dL_isBroken_22 rfl ?_
  refine g_icmp_ge (tgt := 45) dL_isBroken_24 (by decide) (fun c24 => absurd c24 (nI_ge (a := m) (b := 12) hm (by decide))) (fun c24 => ?_)
  refine g_iload dL_isBroken_27 rfl ?_
  refine g_aload_n dL_isBroken_29 rfl ?_
  refine g_iload dL_isBroken_30 rfl ?_
  refine g_iconstv (v := 0) dL_isBroken_32 rfl ?_
  refine g_V2i dL_isBroken_33 ml_L_28 sX6_meaning rfl (by decide) (Nat.le_of_ble_eq_true rfl) (H) ?_
  refine g_iadd dL_isBroken_36 ?_
  refine g_istore dL_isBroken_37 (by decide) rfl ?_
  refine g_iincN dL_isBroken_39 rfl (by decide) rfl ?_
  refine g_goto (tgt := 20) dL_isBroken_42 (by decide) ?_
  exact K
set_option maxHeartbeats 4000000 in
set_option maxRecDepth 100000 in
theorem ib_c1 {L d : Nat} {F : Nat → Nat → Int32} {g : Nat → Option Nat} {x : Int32} {out : mOut} {cm cc a r : Int32} {v : Int64} {F1 : Nat → Nat → Int32} {g1 : Nat → Option Nat} (T : mCall (d + 4) yL_told ML_told [.ref 4] (mHX L F g) (some (.long v)) (mHX L F g)) (H : mCall (d + 4) yX6_word MX6_word [.ref 4, .int x] (mHX L F g) (some (.int r)) (mHX L F1 g1)) (K : mGo ML_isBroken (d + 5) (70, [some (.ref 4), some (.int x), some (.int 1), some (.int cm), some (.int cc), some (.int a), some (.long v), none, some (.int r), none, none], [], mHX L F1 g1) out) : mGo ML_isBroken (d + 5) (20, [some (.ref 4), some (.int x), some (.int 1), some (.int cm), some (.int cc), some (.int a), some (.int (nI 12)), none, none, none, none], [], mHX L F g) out := by
  refine g_iload dL_isBroken_20 rfl ?_
  refine g_bipushv (v := 12) dL_isBroken_22 rfl ?_
  refine g_icmp_ge (tgt := 45) dL_isBroken_24 (by decide) (fun c24 => ?_) (fun c24 => absurd (nI_le (a := 12) (b := 12) (by decide) (by decide)) c24)
  refine g_aload_n dL_isBroken_45 rfl ?_
  refine g_S1l dL_isBroken_46 ml_L_79 sL_told (Nat.le_of_ble_eq_true rfl) (T) ?_
  refine g_lstore dL_isBroken_49 (by decide) rfl ?_
  refine g_iload_n dL_isBroken_51 rfl ?_
  refine g_if_eq (tgt := 63) dL_isBroken_52 (by decide) (fun c52 => absurd c52 (by decide)) (fun c52 => ?_)
  refine g_aload_n dL_isBroken_55 rfl ?_
  refine g_iload_n dL_isBroken_56 rfl ?_
  refine g_V1i dL_isBroken_57 ml_L_54 sX6_word rfl (by decide) (Nat.le_of_ble_eq_true rfl) (H) ?_
  refine g_goto (tgt := 68) dL_isBroken_60 (by decide) ?_
  refine g_istore dL_isBroken_68 (by decide) rfl ?_
  exact K
set_option maxHeartbeats 4000000 in
set_option maxRecDepth 100000 in
theorem ib_d1 {L d : Nat} {F : Nat → Nat → Int32} {g : Nat → Option Nat} {x : Int32} {cm cc a r : Int32} {v : Int64} (h1 : ¬ 0 ≤ r) (h2 : ¬ r = (-6)) (T : mCall (d + 4) yL_told ML_told [.ref 4] (mHX L F g) (some (.long v)) (mHX L F g)) : mGo ML_isBroken (d + 5) (70, [some (.ref 4), some (.int x), some (.int 1), some (.int cm), some (.int cc), some (.int a), some (.long v), none, some (.int r), none, none], [], mHX L F g) (some (.int 1), mHX L F g) := by
  refine g_iload dL_isBroken_70 rfl ?_
  refine g_if_ge (tgt := 98) dL_isBroken_72 (by decide) (fun c72 => absurd c72 h1) (fun c72 => ?_)
  refine g_iload dL_isBroken_75 rfl ?_
  refine g_bipushv (v := (-6)) dL_isBroken_77 rfl ?_
  refine g_icmp_eq (tgt := 98) dL_isBroken_79 (by decide) (fun c79 => absurd c79 h2) (fun c79 => ?_)
  refine g_aload_n dL_isBroken_82 rfl ?_
  refine g_S1l dL_isBroken_83 ml_L_79 sL_told (Nat.le_of_ble_eq_true rfl) (T) ?_
  refine g_lload dL_isBroken_86 rfl ?_
  refine g_lcmp dL_isBroken_88 ?_
  refine g_if_ne (tgt := 96) dL_isBroken_89 (by decide) (fun c89 => absurd (lg_vv v) c89) (fun c89 => ?_)
  refine g_iconstv (v := 1) dL_isBroken_92 rfl ?_
  refine g_goto (tgt := 97) dL_isBroken_93 (by decide) ?_
  exact g_iret dL_isBroken_97 rfl
set_option maxHeartbeats 4000000 in
set_option maxRecDepth 100000 in
theorem ib_e10 {L d : Nat} {F : Nat → Nat → Int32} {g : Nat → Option Nat} {x : Int32} {out : mOut} {cm cc a r : Int32} {v : Int64} (h1 : 0 ≤ r) (K : mGo ML_isBroken (d + 5) (98, [some (.ref 4), some (.int x), some (.int 1), some (.int cm), some (.int cc), some (.int a), some (.long v), none, some (.int r), none, none], [], mHX L F g) out) : mGo ML_isBroken (d + 5) (70, [some (.ref 4), some (.int x), some (.int 1), some (.int cm), some (.int cc), some (.int a), some (.long v), none, some (.int r), none, none], [], mHX L F g) out := by
  refine g_iload dL_isBroken_70 rfl ?_
  refine g_if_ge (tgt := 98) dL_isBroken_72 (by decide) (fun c72 => ?_) (fun c72 => absurd h1 c72)
  exact K
set_option maxHeartbeats 4000000 in
set_option maxRecDepth 100000 in
theorem ib_e11 {L d : Nat} {F : Nat → Nat → Int32} {g : Nat → Option Nat} {x : Int32} {out : mOut} {cm cc a r : Int32} {v : Int64} (h1 : ¬ 0 ≤ r) (h2 : r = (-6)) (K : mGo ML_isBroken (d + 5) (98, [some (.ref 4), some (.int x), some (.int 1), some (.int cm), some (.int cc), some (.int a), some (.long v), none, some (.int r), none, none], [], mHX L F g) out) : mGo ML_isBroken (d + 5) (70, [some (.ref 4), some (.int x), some (.int 1), some (.int cm), some (.int cc), some (.int a), some (.long v), none, some (.int r), none, none], [], mHX L F g) out := by
  refine g_iload dL_isBroken_70 rfl ?_
  refine g_if_ge (tgt := 98) dL_isBroken_72 (by decide) (fun c72 => absurd c72 h1) (fun c72 => ?_)
  refine g_iload dL_isBroken_75 rfl ?_
  refine g_bipushv (v := (-6)) dL_isBroken_77 rfl ?_
  refine g_icmp_eq (tgt := 98) dL_isBroken_79 (by decide) (fun c79 => ?_) (fun c79 => absurd h2 c79)
  exact K
set_option maxHeartbeats 4000000 in
set_option maxRecDepth 100000 in
theorem ib_f1 {L d : Nat} {F : Nat → Nat → Int32} {g : Nat → Option Nat} {x : Int32} {out : mOut} {cm cc a r : Int32} {v : Int64} (H7 : mCall (d + 4) yX6_count MX6_count [.ref 4, .int 7] (mHX L F g) (some (.int cm)) (mHX L F g)) (H3 : mCall (d + 4) yX6_count MX6_count [.ref 4, .int 3] (mHX L F g) (some (.int cc)) (mHX L F g)) (E0 : mCall (d + 4) yX6_end MX6_end [.ref 4, .int 0, .int 0] (mHX L F g) (some (.int 1)) (mHX L F g)) (E3 : mCall (d + 4) yX6_end MX6_end [.ref 4, .int 0, .int 3] (mHX L F g) (some (.int 0)) (mHX L F g)) (E4 : mCall (d + 4) yX6_end MX6_end [.ref 4, .int 0, .int 4] (mHX L F g) (some (.int x)) (mHX L F g)) (K : mGo ML_isBroken (d + 5) (165, [some (.ref 4), some (.int x), some (.int 1), some (.int cm), some (.int cc), some (.int a), some (.long v), none, some (.int r), some (.int 1), some (.int (nI 1))], [], mHX L F g) out) : mGo ML_isBroken (d + 5) (98, [some (.ref 4), some (.int x), some (.int 1), some (.int cm), some (.int cc), some (.int a), some (.long v), none, some (.int r), none, none], [], mHX L F g) out := by
  refine g_aload_n dL_isBroken_98 rfl ?_
  refine g_bipushv (v := 7) dL_isBroken_99 rfl ?_
  refine g_V1i dL_isBroken_101 ml_L_12 sX6_count rfl (by decide) (Nat.le_of_ble_eq_true rfl) (H7) ?_
  refine g_iload_n dL_isBroken_104 rfl ?_
  refine g_icmp_ne (tgt := 159) dL_isBroken_105 (by decide) (fun c105 => absurd rfl c105) (fun c105 => ?_)
  refine g_aload_n dL_isBroken_108 rfl ?_
  refine g_iconstv (v := 3) dL_isBroken_109 rfl ?_
  refine g_V1i dL_isBroken_110 ml_L_12 sX6_count rfl (by decide) (Nat.le_of_ble_eq_true rfl) (H3) ?_
  refine g_iload dL_isBroken_113 rfl ?_
  refine g_icmp_ne (tgt := 159) dL_isBroken_115 (by decide) (fun c115 => absurd rfl c115) (fun c115 => ?_)
  refine g_aload_n dL_isBroken_118 rfl ?_
  refine g_iconstv (v := 0) dL_isBroken_119 rfl ?_
  refine g_iconstv (v := 0) dL_isBroken_120 rfl ?_
  refine g_V2i dL_isBroken_121 ml_L_22 sX6_end rfl (by decide) (Nat.le_of_ble_eq_true rfl) (E0) ?_
  refine g_iload_n dL_isBroken_124 rfl ?_
  refine g_if_eq (tgt := 132) dL_isBroken_125 (by decide) (fun c125 => absurd c125 (by decide)) (fun c125 => ?_)
  refine g_iconstv (v := 1) dL_isBroken_128 rfl ?_
  refine g_goto (tgt := 133) dL_isBroken_129 (by decide) ?_
  refine g_icmp_ne (tgt := 159) dL_isBroken_133 (by decide) (fun c133 => absurd rfl c133) (fun c133 => ?_)
  refine g_aload_n dL_isBroken_136 rfl ?_
  refine g_iconstv (v := 0) dL_isBroken_137 rfl ?_
  refine g_iconstv (v := 3) dL_isBroken_138 rfl ?_
  refine g_V2i dL_isBroken_139 ml_L_22 sX6_end rfl (by decide) (Nat.le_of_ble_eq_true rfl) (E3) ?_
  refine g_if_ne (tgt := 159) dL_isBroken_142 (by decide) (fun c142 => absurd (by decide) c142) (fun c142 => ?_)
  refine g_aload_n dL_isBroken_145 rfl ?_
  refine g_iconstv (v := 0) dL_isBroken_146 rfl ?_
  refine g_iconstv (v := 4) dL_isBroken_147 rfl ?_
  refine g_V2i dL_isBroken_148 ml_L_22 sX6_end rfl (by decide) (Nat.le_of_ble_eq_true rfl) (E4) ?_
  refine g_iload_n dL_isBroken_151 rfl ?_
  refine g_icmp_ne (tgt := 159) dL_isBroken_152 (by decide) (fun c152 => absurd rfl c152) (fun c152 => ?_)
  refine g_iconstv (v := 1) dL_isBroken_155 rfl ?_
  refine g_goto (tgt := 160) dL_isBroken_156 (by decide) ?_
  refine g_istore dL_isBroken_160 (by decide) rfl ?_
  refine g_iconstv (v := 1) dL_isBroken_162 rfl ?_
  refine g_istore dL_isBroken_163 (by decide) rfl ?_
  exact K
set_option maxHeartbeats 4000000 in
set_option maxRecDepth 100000 in
theorem ib_g1 {L d : Nat} {F : Nat → Nat → Int32} {g : Nat → Option Nat} {x : Int32} {out : mOut} {cm cc a r s : Int32} {v : Int64} (m : Nat) (hm : m < 12) (H : mCall (d + 4) yX6_meaning MX6_meaning [.ref 4, .int (nI m), .int 0] (mHX L F g) (some (.int s)) (mHX L F g)) (K : mGo ML_isBroken (d + 5) (165, [some (.ref 4), some (.int x), some (.int 1), some (.int cm), some (.int cc), some (.int (a - s)), some (.long v), none, some (.int r), some (.int 1), some (.int (nI (m + 1)))], [], mHX L F g) out) : mGo ML_isBroken (d + 5) (165, [some (.ref 4), some (.int x), some (.int 1), some (.int cm), some (.int cc), some (.int a), some (.long v), none, some (.int r), some (.int 1), some (.int (nI m))], [], mHX L F g) out := by
  refine g_iload dL_isBroken_165 rfl ?_
  refine g_bipushv (v := 12) dL_isBroken_167 rfl ?_
  refine g_icmp_ge (tgt := 190) dL_isBroken_169 (by decide) (fun c169 => absurd c169 (nI_ge (a := m) (b := 12) hm (by decide))) (fun c169 => ?_)
  refine g_iload dL_isBroken_172 rfl ?_
  refine g_aload_n dL_isBroken_174 rfl ?_
  refine g_iload dL_isBroken_175 rfl ?_
  refine g_iconstv (v := 0) dL_isBroken_177 rfl ?_
  refine g_V2i dL_isBroken_178 ml_L_28 sX6_meaning rfl (by decide) (Nat.le_of_ble_eq_true rfl) (H) ?_
  refine g_isub dL_isBroken_181 ?_
  refine g_istore dL_isBroken_182 (by decide) rfl ?_
  refine g_iincN dL_isBroken_184 rfl (by decide) rfl ?_
  refine g_goto (tgt := 165) dL_isBroken_187 (by decide) ?_
  exact K
set_option maxHeartbeats 4000000 in
set_option maxRecDepth 100000 in
theorem ib_h1 {L d : Nat} {F : Nat → Nat → Int32} {g : Nat → Option Nat} {x : Int32} {out : mOut} {cm cc a r : Int32} {v : Int64} (ha : a = 0) (K : mGo ML_isBroken (d + 5) (201, [some (.ref 4), some (.int x), some (.int 1), some (.int cm), some (.int cc), some (.int a), some (.long v), none, some (.int r), some (.int 1), some (.int (nI 12))], [.ref 4], mHX L F g) out) : mGo ML_isBroken (d + 5) (165, [some (.ref 4), some (.int x), some (.int 1), some (.int cm), some (.int cc), some (.int a), some (.long v), none, some (.int r), some (.int 1), some (.int (nI 12))], [], mHX L F g) out := by
  refine g_iload dL_isBroken_165 rfl ?_
  refine g_bipushv (v := 12) dL_isBroken_167 rfl ?_
  refine g_icmp_ge (tgt := 190) dL_isBroken_169 (by decide) (fun c169 => ?_) (fun c169 => absurd (nI_le (a := 12) (b := 12) (by decide) (by decide)) c169)
  refine g_iload dL_isBroken_190 rfl ?_
  refine g_if_eq (tgt := 221) dL_isBroken_192 (by decide) (fun c192 => absurd c192 (by decide)) (fun c192 => ?_)
  refine g_iload dL_isBroken_195 rfl ?_
  refine g_if_ne (tgt := 221) dL_isBroken_197 (by decide) (fun c197 => absurd ha c197) (fun c197 => ?_)
  refine g_aload_n dL_isBroken_200 rfl ?_
  exact K
set_option maxHeartbeats 4000000 in
set_option maxRecDepth 100000 in
theorem ib_i1 {L d : Nat} {F : Nat → Nat → Int32} {g : Nat → Option Nat} {x : Int32} {cm cc a r : Int32} {v : Int64} (k : Nat) (hk : k ≤ 6) (T : mCall (d + 4) yL_told ML_told [.ref 4] (mHX L F g) (some (.long v)) (mHX L F g)) : mGo ML_isBroken (d + 5) (204, [some (.ref 4), some (.int x), some (.int 1), some (.int cm), some (.int cc), some (.int a), some (.long v), none, some (.int r), some (.int 1), some (.int (nI 12))], [.int (nI k)], mHX L F g) (some (.int 1), mHX L F g) := by
  refine g_if_lt (tgt := 221) dL_isBroken_204 (by decide) (fun c204 => absurd c204 (nI_pos (by omega))) (fun c204 => ?_)
  refine g_aload_n dL_isBroken_207 rfl ?_
  refine g_S1l dL_isBroken_208 ml_L_79 sL_told (Nat.le_of_ble_eq_true rfl) (T) ?_
  refine g_lload dL_isBroken_211 rfl ?_
  refine g_lcmp dL_isBroken_213 ?_
  refine g_if_ne (tgt := 221) dL_isBroken_214 (by decide) (fun c214 => absurd (lg_vv v) c214) (fun c214 => ?_)
  refine g_iconstv (v := 1) dL_isBroken_217 rfl ?_
  refine g_goto (tgt := 222) dL_isBroken_218 (by decide) ?_
  exact g_iret dL_isBroken_222 rfl
theorem ib_l1x {L d : Nat} {F Z : Nat → Nat → Int32} {g : Nat → Option Nat} {x cm cc : Int32} {out : mOut} (K : mGo ML_isBroken (d + 5) (20, [some (.ref 4), some (.int x), some (.int 1), some (.int cm), some (.int cc), some (.int (sAl (F 15) 11)), some (.int (nI 12)), none, none, none, none], [], mHX L (mx F Z) g) out) : ∀ (m k : Nat) (a : Int32), k + m = 11 → a = sAl (F 15) k → mGo ML_isBroken (d + 5) (20, [some (.ref 4), some (.int x), some (.int 1), some (.int cm), some (.int cc), some (.int a), some (.int (nI (k + 1))), none, none, none, none], [], mHX L (mx F Z) g) out := by
  intro m
  induction m with
  | zero =>
    intro k a hk ea
    obtain rfl : k = 11 := by omega
    rw [ea]
    exact K
  | succ m ih =>
    intro k a hk ea
    exact ib_l1 (k + 1) (by omega) (rx_mng0 (F := F) (by omega) (by omega) L Z g _) (ih (k + 1) _ (by omega) (by rw [ea]; rfl))
theorem ib_g1x {L d : Nat} {F Z : Nat → Nat → Int32} {g : Nat → Option Nat} {x cm cc r s : Int32} {v : Int64} {out : mOut} (K : mGo ML_isBroken (d + 5) (165, [some (.ref 4), some (.int x), some (.int 1), some (.int cm), some (.int cc), some (.int (sDl (F 15) s 11)), some (.long v), none, some (.int r), some (.int 1), some (.int (nI 12))], [], mHX L (mx F Z) g) out) : ∀ (m k : Nat) (a : Int32), k + m = 11 → a = sDl (F 15) s k → mGo ML_isBroken (d + 5) (165, [some (.ref 4), some (.int x), some (.int 1), some (.int cm), some (.int cc), some (.int a), some (.long v), none, some (.int r), some (.int 1), some (.int (nI (k + 1)))], [], mHX L (mx F Z) g) out := by
  intro m
  induction m with
  | zero =>
    intro k a hk ea
    obtain rfl : k = 11 := by omega
    rw [ea]
    exact K
  | succ m ih =>
    intro k a hk ea
    exact ib_g1 (k + 1) (by omega) (rx_mng0 (F := F) (by omega) (by omega) L Z g _) (ih (k + 1) _ (by omega) (by rw [ea]; rfl))
set_option maxHeartbeats 4000000 in
theorem ib_1 {B d : Nat} {F : Nat → Nat → Int32} (hB : B ≤ 1000) (hI : HI B F) (x : Int32) (L : Nat) (Z : Nat → Nat → Int32) (g : Nat → Option Nat) (k : Nat) (π : Nat → Nat) (hs : HS k π Z g) : ∃ Z1 g1 k1 π1, mCall (d + 5) yL_isBroken ML_isBroken [.ref 4, .int x, .int 1] (mHX L (mx F Z) g) (some (.int 1)) (mHX L (mx F Z1) g1) ∧ HS k1 π1 Z1 g1 := by
  obtain ⟨v, T⟩ := td_of hI
  obtain ⟨r, G, h1, h2, h3, h4, h5, h6⟩ := ob_word hB hI x
  obtain ⟨Z1, g1, π1, H, hc⟩ := ch_of (d := d) (cw_word x) h1 h2 L Z g k π hs
  have R7 : RX F yX6_count MX6_count [.ref 4, .int 7] (sMeant (F 15)) := fun L Z g d => c_cnt_7 (F := mx F Z) d
  have R3 : RX F yX6_count MX6_count [.ref 4, .int 3] (F 17 0) := fun L Z g d => c_cnt_3 (F := mx F Z) d
  rcases hc with ⟨he, eG, hs1⟩ | ⟨hne, hs1, hu⟩
  · rw [eG] at H
    refine ⟨Z1, g1, k, π1, ?_, hs1⟩
    refine mCall_of sL_isBroken.1 (Nat.le_of_ble_eq_true rfl) ⟨_, rfl, rfl⟩ ?_
    show mGo _ _ (0, [some (.ref 4), some (.int x), some (.int 1), none, none, none, none, none, none, none, none], [], _) _
    refine ib_a1 (R7 L Z g _) (R3 L Z g _) ?_
    refine ib_l1x ?_ 11 0 0 rfl rfl
    refine ib_c1 (T L Z g d) H ?_
    refine ib_d1 (fun q => ?_) (fun q => ?_) (T L Z1 g1 d)
    · have := he.1
      rw [i_le] at this q
      rw [show (-1 : Int32).toInt = -1 from by decide] at this
      rw [i_0] at q
      omega
    · rw [q] at he
      exact absurd he (by decide)
  · obtain ⟨e15, e17, e0, e3, e4, t, t0, t10, et⟩ := h5 hne
    obtain ⟨Z2, hs2, U⟩ := un_ex (Ln := L) hs1 hu h4
    refine ⟨Z2, g1, kN k - 1, π1, ?_, hs2⟩
    have Q7 : RX G yX6_count MX6_count [.ref 4, .int 7] (sMeant (F 15)) := fun L Z g d => by
      rw [← e15]
      exact c_cnt_7 (F := mx G Z) d
    have Q3 : RX G yX6_count MX6_count [.ref 4, .int 3] (F 17 0) := fun L Z g d => by
      rw [← e17]
      exact c_cnt_3 (F := mx G Z) d
    have E0 : RX G yX6_end MX6_end [.ref 4, .int 0, .int 0] 1 := fun L Z g d => by
      have := c_tel_ok (L := L) (F := mx G Z) (g := g) d t et t10 0 t0 0 (by decide)
      rw [show mx G Z 18 (0 * 5 + 0) = nI 1 from e0] at this
      exact this
    have E3 : RX G yX6_end MX6_end [.ref 4, .int 0, .int 3] 0 := fun L Z g d => by
      have := c_tel_ok (L := L) (F := mx G Z) (g := g) d t et t10 0 t0 3 (by decide)
      rw [show mx G Z 18 (0 * 5 + 3) = 0 from e3] at this
      exact this
    have E4 : RX G yX6_end MX6_end [.ref 4, .int 0, .int 4] x := fun L Z g d => by
      have := c_tel_ok (L := L) (F := mx G Z) (g := g) d t et t10 0 t0 4 (by decide)
      rw [show mx G Z 18 (0 * 5 + 4) = x from e4] at this
      exact this
    refine mCall_of sL_isBroken.1 (Nat.le_of_ble_eq_true rfl) ⟨_, rfl, rfl⟩ ?_
    show mGo _ _ (0, [some (.ref 4), some (.int x), some (.int 1), none, none, none, none, none, none, none, none], [], _) _
    refine ib_a1 (R7 L Z g _) (R3 L Z g _) ?_
    refine ib_l1x ?_ 11 0 0 rfl rfl
    refine ib_c1 (T L Z g d) H ?_
    have K2 : mGo ML_isBroken (d + 5) (98, [some (.ref 4), some (.int x), some (.int 1), some (.int (sMeant (F 15))), some (.int (F 17 0)), some (.int (sAl (F 15) 11)), some (.long v), none, some (.int r), none, none], [], mHX L (mx G Z1) g1) (some (.int 1), mHX L (mx F Z2) g1) := by
      refine ib_f1 (Q7 L Z1 g1 _) (Q3 L Z1 g1 _) (E0 L Z1 g1 _) (E3 L Z1 g1 _) (E4 L Z1 g1 _) ?_
      refine ib_g1x (F := G) (s := sAl (F 15) 11) ?_ 11 0 _ rfl rfl
      refine ib_h1 (by rw [e15]; exact sDl_0 _ _) ?_
      refine U dL_isBroken_201 ml_L_83 (Nat.le_of_ble_eq_true rfl) ?_
      exact ib_i1 (kN k - 1) (by have := kN_le k; omega) (T L Z2 g1 d)
    by_cases hr : 0 ≤ r
    · exact ib_e10 hr K2
    · refine ib_e11 hr ?_ K2
      rcases h6 with q | q | ⟨w, hw, q⟩
      · exact absurd q hne
      · exact q
      · rw [q] at hr
        exact absurd (nI_pos' hw) hr
set_option maxHeartbeats 4000000 in
set_option maxRecDepth 100000 in
theorem ib_a0 {L d : Nat} {F : Nat → Nat → Int32} {g : Nat → Option Nat} {x : Int32} {out : mOut} {cm cc : Int32} (H7 : mCall (d + 4) yX6_count MX6_count [.ref 4, .int 7] (mHX L F g) (some (.int cm)) (mHX L F g)) (H3 : mCall (d + 4) yX6_count MX6_count [.ref 4, .int 3] (mHX L F g) (some (.int cc)) (mHX L F g)) (K : mGo ML_isBroken (d + 5) (20, [some (.ref 4), some (.int x), some (.int 0), some (.int cm), some (.int cc), some (.int 0), some (.int (nI 1)), none, none, none, none], [], mHX L F g) out) : mGo ML_isBroken (d + 5) (0, [some (.ref 4), some (.int x), some (.int 0), none, none, none, none, none, none, none, none], [], mHX L F g) out := by
  refine g_aload_n dL_isBroken_0 rfl ?_
  refine g_bipushv (v := 7) dL_isBroken_1 rfl ?_
  refine g_V1i dL_isBroken_3 ml_L_12 sX6_count rfl (by decide) (Nat.le_of_ble_eq_true rfl) (H7) ?_
  refine g_istore_n dL_isBroken_6 (by decide) rfl ?_
  refine g_aload_n dL_isBroken_7 rfl ?_
  refine g_iconstv (v := 3) dL_isBroken_8 rfl ?_
  refine g_V1i dL_isBroken_9 ml_L_12 sX6_count rfl (by decide) (Nat.le_of_ble_eq_true rfl) (H3) ?_
  refine g_istore dL_isBroken_12 (by decide) rfl ?_
  refine g_iconstv (v := 0) dL_isBroken_14 rfl ?_
  refine g_istore dL_isBroken_15 (by decide) rfl ?_
  refine g_iconstv (v := 1) dL_isBroken_17 rfl ?_
  refine g_istore dL_isBroken_18 (by decide) rfl ?_
  exact K
set_option maxHeartbeats 4000000 in
set_option maxRecDepth 100000 in
theorem ib_l0 {L d : Nat} {F : Nat → Nat → Int32} {g : Nat → Option Nat} {x : Int32} {out : mOut} {cm cc a r : Int32} (m : Nat) (hm : m < 12) (H : mCall (d + 4) yX6_meaning MX6_meaning [.ref 4, .int (nI m), .int 0] (mHX L F g) (some (.int r)) (mHX L F g)) (K : mGo ML_isBroken (d + 5) (20, [some (.ref 4), some (.int x), some (.int 0), some (.int cm), some (.int cc), some (.int (a + r)), some (.int (nI (m + 1))), none, none, none, none], [], mHX L F g) out) : mGo ML_isBroken (d + 5) (20, [some (.ref 4), some (.int x), some (.int 0), some (.int cm), some (.int cc), some (.int a), some (.int (nI m)), none, none, none, none], [], mHX L F g) out := by
  refine g_iload dL_isBroken_20 rfl ?_
  refine g_bipushv (v := 12) dL_isBroken_22 rfl ?_
  refine g_icmp_ge (tgt := 45) dL_isBroken_24 (by decide) (fun c24 => absurd c24 (nI_ge (a := m) (b := 12) hm (by decide))) (fun c24 => ?_)
  refine g_iload dL_isBroken_27 rfl ?_
  refine g_aload_n dL_isBroken_29 rfl ?_
  refine g_iload dL_isBroken_30 rfl ?_
  refine g_iconstv (v := 0) dL_isBroken_32 rfl ?_
  refine g_V2i dL_isBroken_33 ml_L_28 sX6_meaning rfl (by decide) (Nat.le_of_ble_eq_true rfl) (H) ?_
  refine g_iadd dL_isBroken_36 ?_
  refine g_istore dL_isBroken_37 (by decide) rfl ?_
  refine g_iincN dL_isBroken_39 rfl (by decide) rfl ?_
  refine g_goto (tgt := 20) dL_isBroken_42 (by decide) ?_
  exact K
set_option maxHeartbeats 4000000 in
set_option maxRecDepth 100000 in
theorem ib_c0 {L d : Nat} {F : Nat → Nat → Int32} {g : Nat → Option Nat} {x : Int32} {out : mOut} {cm cc a r : Int32} {v : Int64} {F1 : Nat → Nat → Int32} {g1 : Nat → Option Nat} (T : mCall (d + 4) yL_told ML_told [.ref 4] (mHX L F g) (some (.long v)) (mHX L F g)) (H : mCall (d + 4) yX6_cough MX6_cough [.ref 4, .int x] (mHX L F g) (some (.int r)) (mHX L F1 g1)) (K : mGo ML_isBroken (d + 5) (70, [some (.ref 4), some (.int x), some (.int 0), some (.int cm), some (.int cc), some (.int a), some (.long v), none, some (.int r), none, none], [], mHX L F1 g1) out) : mGo ML_isBroken (d + 5) (20, [some (.ref 4), some (.int x), some (.int 0), some (.int cm), some (.int cc), some (.int a), some (.int (nI 12)), none, none, none, none], [], mHX L F g) out := by
  refine g_iload dL_isBroken_20 rfl ?_
  refine g_bipushv (v := 12) dL_isBroken_22 rfl ?_
  refine g_icmp_ge (tgt := 45) dL_isBroken_24 (by decide) (fun c24 => ?_) (fun c24 => absurd (nI_le (a := 12) (b := 12) (by decide) (by decide)) c24)
  refine g_aload_n dL_isBroken_45 rfl ?_
  refine g_S1l dL_isBroken_46 ml_L_79 sL_told (Nat.le_of_ble_eq_true rfl) (T) ?_
  refine g_lstore dL_isBroken_49 (by decide) rfl ?_
  refine g_iload_n dL_isBroken_51 rfl ?_
  refine g_if_eq (tgt := 63) dL_isBroken_52 (by decide) (fun c52 => ?_) (fun c52 => absurd (by decide) c52)
  refine g_aload_n dL_isBroken_63 rfl ?_
  refine g_iload_n dL_isBroken_64 rfl ?_
  refine g_V1i dL_isBroken_65 ml_L_57 sX6_cough rfl (by decide) (Nat.le_of_ble_eq_true rfl) (H) ?_
  refine g_istore dL_isBroken_68 (by decide) rfl ?_
  exact K
set_option maxHeartbeats 4000000 in
set_option maxRecDepth 100000 in
theorem ib_d0 {L d : Nat} {F : Nat → Nat → Int32} {g : Nat → Option Nat} {x : Int32} {cm cc a r : Int32} {v : Int64} (h1 : ¬ 0 ≤ r) (h2 : ¬ r = (-6)) (T : mCall (d + 4) yL_told ML_told [.ref 4] (mHX L F g) (some (.long v)) (mHX L F g)) : mGo ML_isBroken (d + 5) (70, [some (.ref 4), some (.int x), some (.int 0), some (.int cm), some (.int cc), some (.int a), some (.long v), none, some (.int r), none, none], [], mHX L F g) (some (.int 1), mHX L F g) := by
  refine g_iload dL_isBroken_70 rfl ?_
  refine g_if_ge (tgt := 98) dL_isBroken_72 (by decide) (fun c72 => absurd c72 h1) (fun c72 => ?_)
  refine g_iload dL_isBroken_75 rfl ?_
  refine g_bipushv (v := (-6)) dL_isBroken_77 rfl ?_
  refine g_icmp_eq (tgt := 98) dL_isBroken_79 (by decide) (fun c79 => absurd c79 h2) (fun c79 => ?_)
  refine g_aload_n dL_isBroken_82 rfl ?_
  refine g_S1l dL_isBroken_83 ml_L_79 sL_told (Nat.le_of_ble_eq_true rfl) (T) ?_
  refine g_lload dL_isBroken_86 rfl ?_
  refine g_lcmp dL_isBroken_88 ?_
  refine g_if_ne (tgt := 96) dL_isBroken_89 (by decide) (fun c89 => absurd (lg_vv v) c89) (fun c89 => ?_)
  refine g_iconstv (v := 1) dL_isBroken_92 rfl ?_
  refine g_goto (tgt := 97) dL_isBroken_93 (by decide) ?_
  exact g_iret dL_isBroken_97 rfl
set_option maxHeartbeats 4000000 in
set_option maxRecDepth 100000 in
theorem ib_e00 {L d : Nat} {F : Nat → Nat → Int32} {g : Nat → Option Nat} {x : Int32} {out : mOut} {cm cc a r : Int32} {v : Int64} (h1 : 0 ≤ r) (K : mGo ML_isBroken (d + 5) (98, [some (.ref 4), some (.int x), some (.int 0), some (.int cm), some (.int cc), some (.int a), some (.long v), none, some (.int r), none, none], [], mHX L F g) out) : mGo ML_isBroken (d + 5) (70, [some (.ref 4), some (.int x), some (.int 0), some (.int cm), some (.int cc), some (.int a), some (.long v), none, some (.int r), none, none], [], mHX L F g) out := by
  refine g_iload dL_isBroken_70 rfl ?_
  refine g_if_ge (tgt := 98) dL_isBroken_72 (by decide) (fun c72 => ?_) (fun c72 => absurd h1 c72)
  exact K
set_option maxHeartbeats 4000000 in
set_option maxRecDepth 100000 in
theorem ib_e01 {L d : Nat} {F : Nat → Nat → Int32} {g : Nat → Option Nat} {x : Int32} {out : mOut} {cm cc a r : Int32} {v : Int64} (h1 : ¬ 0 ≤ r) (h2 : r = (-6)) (K : mGo ML_isBroken (d + 5) (98, [some (.ref 4), some (.int x), some (.int 0), some (.int cm), some (.int cc), some (.int a), some (.long v), none, some (.int r), none, none], [], mHX L F g) out) : mGo ML_isBroken (d + 5) (70, [some (.ref 4), some (.int x), some (.int 0), some (.int cm), some (.int cc), some (.int a), some (.long v), none, some (.int r), none, none], [], mHX L F g) out := by
  refine g_iload dL_isBroken_70 rfl ?_
  refine g_if_ge (tgt := 98) dL_isBroken_72 (by decide) (fun c72 => absurd c72 h1) (fun c72 => ?_)
  refine g_iload dL_isBroken_75 rfl ?_
  refine g_bipushv (v := (-6)) dL_isBroken_77 rfl ?_
  refine g_icmp_eq (tgt := 98) dL_isBroken_79 (by decide) (fun c79 => ?_) (fun c79 => absurd h2 c79)
  exact K
set_option maxHeartbeats 4000000 in
set_option maxRecDepth 100000 in
theorem ib_f0 {L d : Nat} {F : Nat → Nat → Int32} {g : Nat → Option Nat} {x : Int32} {out : mOut} {cm cc a r : Int32} {v : Int64} (H7 : mCall (d + 4) yX6_count MX6_count [.ref 4, .int 7] (mHX L F g) (some (.int cm)) (mHX L F g)) (H3 : mCall (d + 4) yX6_count MX6_count [.ref 4, .int 3] (mHX L F g) (some (.int cc)) (mHX L F g)) (E0 : mCall (d + 4) yX6_end MX6_end [.ref 4, .int 0, .int 0] (mHX L F g) (some (.int 2)) (mHX L F g)) (E3 : mCall (d + 4) yX6_end MX6_end [.ref 4, .int 0, .int 3] (mHX L F g) (some (.int 0)) (mHX L F g)) (E4 : mCall (d + 4) yX6_end MX6_end [.ref 4, .int 0, .int 4] (mHX L F g) (some (.int x)) (mHX L F g)) (K : mGo ML_isBroken (d + 5) (165, [some (.ref 4), some (.int x), some (.int 0), some (.int cm), some (.int cc), some (.int a), some (.long v), none, some (.int r), some (.int 1), some (.int (nI 1))], [], mHX L F g) out) : mGo ML_isBroken (d + 5) (98, [some (.ref 4), some (.int x), some (.int 0), some (.int cm), some (.int cc), some (.int a), some (.long v), none, some (.int r), none, none], [], mHX L F g) out := by
  refine g_aload_n dL_isBroken_98 rfl ?_
  refine g_bipushv (v := 7) dL_isBroken_99 rfl ?_
  refine g_V1i dL_isBroken_101 ml_L_12 sX6_count rfl (by decide) (Nat.le_of_ble_eq_true rfl) (H7) ?_
  refine g_iload_n dL_isBroken_104 rfl ?_
  refine g_icmp_ne (tgt := 159) dL_isBroken_105 (by decide) (fun c105 => absurd rfl c105) (fun c105 => ?_)
  refine g_aload_n dL_isBroken_108 rfl ?_
  refine g_iconstv (v := 3) dL_isBroken_109 rfl ?_
  refine g_V1i dL_isBroken_110 ml_L_12 sX6_count rfl (by decide) (Nat.le_of_ble_eq_true rfl) (H3) ?_
  refine g_iload dL_isBroken_113 rfl ?_
  refine g_icmp_ne (tgt := 159) dL_isBroken_115 (by decide) (fun c115 => absurd rfl c115) (fun c115 => ?_)
  refine g_aload_n dL_isBroken_118 rfl ?_
  refine g_iconstv (v := 0) dL_isBroken_119 rfl ?_
  refine g_iconstv (v := 0) dL_isBroken_120 rfl ?_
  refine g_V2i dL_isBroken_121 ml_L_22 sX6_end rfl (by decide) (Nat.le_of_ble_eq_true rfl) (E0) ?_
  refine g_iload_n dL_isBroken_124 rfl ?_
  refine g_if_eq (tgt := 132) dL_isBroken_125 (by decide) (fun c125 => ?_) (fun c125 => absurd (by decide) c125)
  refine g_iconstv (v := 2) dL_isBroken_132 rfl ?_
  refine g_icmp_ne (tgt := 159) dL_isBroken_133 (by decide) (fun c133 => absurd rfl c133) (fun c133 => ?_)
  refine g_aload_n dL_isBroken_136 rfl ?_
  refine g_iconstv (v := 0) dL_isBroken_137 rfl ?_
  refine g_iconstv (v := 3) dL_isBroken_138 rfl ?_
  refine g_V2i dL_isBroken_139 ml_L_22 sX6_end rfl (by decide) (Nat.le_of_ble_eq_true rfl) (E3) ?_
  refine g_if_ne (tgt := 159) dL_isBroken_142 (by decide) (fun c142 => absurd (by decide) c142) (fun c142 => ?_)
  refine g_aload_n dL_isBroken_145 rfl ?_
  refine g_iconstv (v := 0) dL_isBroken_146 rfl ?_
  refine g_iconstv (v := 4) dL_isBroken_147 rfl ?_
  refine g_V2i dL_isBroken_148 ml_L_22 sX6_end rfl (by decide) (Nat.le_of_ble_eq_true rfl) (E4) ?_
  refine g_iload_n dL_isBroken_151 rfl ?_
  refine g_icmp_ne (tgt := 159) dL_isBroken_152 (by decide) (fun c152 => absurd rfl c152) (fun c152 => ?_)
  refine g_iconstv (v := 1) dL_isBroken_155 rfl ?_
  refine g_goto (tgt := 160) dL_isBroken_156 (by decide) ?_
  refine g_istore dL_isBroken_160 (by decide) rfl ?_
  refine g_iconstv (v := 1) dL_isBroken_162 rfl ?_
  refine g_istore dL_isBroken_163 (by decide) rfl ?_
  exact K
set_option maxHeartbeats 4000000 in
set_option maxRecDepth 100000 in
theorem ib_g0 {L d : Nat} {F : Nat → Nat → Int32} {g : Nat → Option Nat} {x : Int32} {out : mOut} {cm cc a r s : Int32} {v : Int64} (m : Nat) (hm : m < 12) (H : mCall (d + 4) yX6_meaning MX6_meaning [.ref 4, .int (nI m), .int 0] (mHX L F g) (some (.int s)) (mHX L F g)) (K : mGo ML_isBroken (d + 5) (165, [some (.ref 4), some (.int x), some (.int 0), some (.int cm), some (.int cc), some (.int (a - s)), some (.long v), none, some (.int r), some (.int 1), some (.int (nI (m + 1)))], [], mHX L F g) out) : mGo ML_isBroken (d + 5) (165, [some (.ref 4), some (.int x), some (.int 0), some (.int cm), some (.int cc), some (.int a), some (.long v), none, some (.int r), some (.int 1), some (.int (nI m))], [], mHX L F g) out := by
  refine g_iload dL_isBroken_165 rfl ?_
  refine g_bipushv (v := 12) dL_isBroken_167 rfl ?_
  refine g_icmp_ge (tgt := 190) dL_isBroken_169 (by decide) (fun c169 => absurd c169 (nI_ge (a := m) (b := 12) hm (by decide))) (fun c169 => ?_)
  refine g_iload dL_isBroken_172 rfl ?_
  refine g_aload_n dL_isBroken_174 rfl ?_
  refine g_iload dL_isBroken_175 rfl ?_
  refine g_iconstv (v := 0) dL_isBroken_177 rfl ?_
  refine g_V2i dL_isBroken_178 ml_L_28 sX6_meaning rfl (by decide) (Nat.le_of_ble_eq_true rfl) (H) ?_
  refine g_isub dL_isBroken_181 ?_
  refine g_istore dL_isBroken_182 (by decide) rfl ?_
  refine g_iincN dL_isBroken_184 rfl (by decide) rfl ?_
  refine g_goto (tgt := 165) dL_isBroken_187 (by decide) ?_
  exact K
set_option maxHeartbeats 4000000 in
set_option maxRecDepth 100000 in
theorem ib_h0 {L d : Nat} {F : Nat → Nat → Int32} {g : Nat → Option Nat} {x : Int32} {out : mOut} {cm cc a r : Int32} {v : Int64} (ha : a = 0) (K : mGo ML_isBroken (d + 5) (201, [some (.ref 4), some (.int x), some (.int 0), some (.int cm), some (.int cc), some (.int a), some (.long v), none, some (.int r), some (.int 1), some (.int (nI 12))], [.ref 4], mHX L F g) out) : mGo ML_isBroken (d + 5) (165, [some (.ref 4), some (.int x), some (.int 0), some (.int cm), some (.int cc), some (.int a), some (.long v), none, some (.int r), some (.int 1), some (.int (nI 12))], [], mHX L F g) out := by
  refine g_iload dL_isBroken_165 rfl ?_
  refine g_bipushv (v := 12) dL_isBroken_167 rfl ?_
  refine g_icmp_ge (tgt := 190) dL_isBroken_169 (by decide) (fun c169 => ?_) (fun c169 => absurd (nI_le (a := 12) (b := 12) (by decide) (by decide)) c169)
  refine g_iload dL_isBroken_190 rfl ?_
  refine g_if_eq (tgt := 221) dL_isBroken_192 (by decide) (fun c192 => absurd c192 (by decide)) (fun c192 => ?_)
  refine g_iload dL_isBroken_195 rfl ?_
  refine g_if_ne (tgt := 221) dL_isBroken_197 (by decide) (fun c197 => absurd ha c197) (fun c197 => ?_)
  refine g_aload_n dL_isBroken_200 rfl ?_
  exact K
set_option maxHeartbeats 4000000 in
set_option maxRecDepth 100000 in
theorem ib_i0 {L d : Nat} {F : Nat → Nat → Int32} {g : Nat → Option Nat} {x : Int32} {cm cc a r : Int32} {v : Int64} (k : Nat) (hk : k ≤ 6) (T : mCall (d + 4) yL_told ML_told [.ref 4] (mHX L F g) (some (.long v)) (mHX L F g)) : mGo ML_isBroken (d + 5) (204, [some (.ref 4), some (.int x), some (.int 0), some (.int cm), some (.int cc), some (.int a), some (.long v), none, some (.int r), some (.int 1), some (.int (nI 12))], [.int (nI k)], mHX L F g) (some (.int 1), mHX L F g) := by
  refine g_if_lt (tgt := 221) dL_isBroken_204 (by decide) (fun c204 => absurd c204 (nI_pos (by omega))) (fun c204 => ?_)
  refine g_aload_n dL_isBroken_207 rfl ?_
  refine g_S1l dL_isBroken_208 ml_L_79 sL_told (Nat.le_of_ble_eq_true rfl) (T) ?_
  refine g_lload dL_isBroken_211 rfl ?_
  refine g_lcmp dL_isBroken_213 ?_
  refine g_if_ne (tgt := 221) dL_isBroken_214 (by decide) (fun c214 => absurd (lg_vv v) c214) (fun c214 => ?_)
  refine g_iconstv (v := 1) dL_isBroken_217 rfl ?_
  refine g_goto (tgt := 222) dL_isBroken_218 (by decide) ?_
  exact g_iret dL_isBroken_222 rfl
theorem ib_l0x {L d : Nat} {F Z : Nat → Nat → Int32} {g : Nat → Option Nat} {x cm cc : Int32} {out : mOut} (K : mGo ML_isBroken (d + 5) (20, [some (.ref 4), some (.int x), some (.int 0), some (.int cm), some (.int cc), some (.int (sAl (F 15) 11)), some (.int (nI 12)), none, none, none, none], [], mHX L (mx F Z) g) out) : ∀ (m k : Nat) (a : Int32), k + m = 11 → a = sAl (F 15) k → mGo ML_isBroken (d + 5) (20, [some (.ref 4), some (.int x), some (.int 0), some (.int cm), some (.int cc), some (.int a), some (.int (nI (k + 1))), none, none, none, none], [], mHX L (mx F Z) g) out := by
  intro m
  induction m with
  | zero =>
    intro k a hk ea
    obtain rfl : k = 11 := by omega
    rw [ea]
    exact K
  | succ m ih =>
    intro k a hk ea
    exact ib_l0 (k + 1) (by omega) (rx_mng0 (F := F) (by omega) (by omega) L Z g _) (ih (k + 1) _ (by omega) (by rw [ea]; rfl))
theorem ib_g0x {L d : Nat} {F Z : Nat → Nat → Int32} {g : Nat → Option Nat} {x cm cc r s : Int32} {v : Int64} {out : mOut} (K : mGo ML_isBroken (d + 5) (165, [some (.ref 4), some (.int x), some (.int 0), some (.int cm), some (.int cc), some (.int (sDl (F 15) s 11)), some (.long v), none, some (.int r), some (.int 1), some (.int (nI 12))], [], mHX L (mx F Z) g) out) : ∀ (m k : Nat) (a : Int32), k + m = 11 → a = sDl (F 15) s k → mGo ML_isBroken (d + 5) (165, [some (.ref 4), some (.int x), some (.int 0), some (.int cm), some (.int cc), some (.int a), some (.long v), none, some (.int r), some (.int 1), some (.int (nI (k + 1)))], [], mHX L (mx F Z) g) out := by
  intro m
  induction m with
  | zero =>
    intro k a hk ea
    obtain rfl : k = 11 := by omega
    rw [ea]
    exact K
  | succ m ih =>
    intro k a hk ea
    exact ib_g0 (k + 1) (by omega) (rx_mng0 (F := F) (by omega) (by omega) L Z g _) (ih (k + 1) _ (by omega) (by rw [ea]; rfl))
set_option maxHeartbeats 4000000 in
theorem ib_0 {B d : Nat} {F : Nat → Nat → Int32} (hB : B ≤ 1000) (hI : HI B F) (x : Int32) (L : Nat) (Z : Nat → Nat → Int32) (g : Nat → Option Nat) (k : Nat) (π : Nat → Nat) (hs : HS k π Z g) : ∃ Z1 g1 k1 π1, mCall (d + 5) yL_isBroken ML_isBroken [.ref 4, .int x, .int 0] (mHX L (mx F Z) g) (some (.int 1)) (mHX L (mx F Z1) g1) ∧ HS k1 π1 Z1 g1 := by
  obtain ⟨v, T⟩ := td_of hI
  obtain ⟨r, G, h1, h2, h3, h4, h5, h6⟩ := ob_cough hI x
  obtain ⟨Z1, g1, π1, H, hc⟩ := ch_of (d := d) (cw_cough x) h1 h2 L Z g k π hs
  have R7 : RX F yX6_count MX6_count [.ref 4, .int 7] (sMeant (F 15)) := fun L Z g d => c_cnt_7 (F := mx F Z) d
  have R3 : RX F yX6_count MX6_count [.ref 4, .int 3] (F 17 0) := fun L Z g d => c_cnt_3 (F := mx F Z) d
  rcases hc with ⟨he, eG, hs1⟩ | ⟨hne, hs1, hu⟩
  · rw [eG] at H
    refine ⟨Z1, g1, k, π1, ?_, hs1⟩
    refine mCall_of sL_isBroken.1 (Nat.le_of_ble_eq_true rfl) ⟨_, rfl, rfl⟩ ?_
    show mGo _ _ (0, [some (.ref 4), some (.int x), some (.int 0), none, none, none, none, none, none, none, none], [], _) _
    refine ib_a0 (R7 L Z g _) (R3 L Z g _) ?_
    refine ib_l0x ?_ 11 0 0 rfl rfl
    refine ib_c0 (T L Z g d) H ?_
    refine ib_d0 (fun q => ?_) (fun q => ?_) (T L Z1 g1 d)
    · have := he.1
      rw [i_le] at this q
      rw [show (-1 : Int32).toInt = -1 from by decide] at this
      rw [i_0] at q
      omega
    · rw [q] at he
      exact absurd he (by decide)
  · obtain ⟨e15, e17, e0, e3, e4, t, t0, t10, et⟩ := h5 hne
    obtain ⟨Z2, hs2, U⟩ := un_ex (Ln := L) hs1 hu h4
    refine ⟨Z2, g1, kN k - 1, π1, ?_, hs2⟩
    have Q7 : RX G yX6_count MX6_count [.ref 4, .int 7] (sMeant (F 15)) := fun L Z g d => by
      rw [← e15]
      exact c_cnt_7 (F := mx G Z) d
    have Q3 : RX G yX6_count MX6_count [.ref 4, .int 3] (F 17 0) := fun L Z g d => by
      rw [← e17]
      exact c_cnt_3 (F := mx G Z) d
    have E0 : RX G yX6_end MX6_end [.ref 4, .int 0, .int 0] 2 := fun L Z g d => by
      have := c_tel_ok (L := L) (F := mx G Z) (g := g) d t et t10 0 t0 0 (by decide)
      rw [show mx G Z 18 (0 * 5 + 0) = nI 2 from e0] at this
      exact this
    have E3 : RX G yX6_end MX6_end [.ref 4, .int 0, .int 3] 0 := fun L Z g d => by
      have := c_tel_ok (L := L) (F := mx G Z) (g := g) d t et t10 0 t0 3 (by decide)
      rw [show mx G Z 18 (0 * 5 + 3) = 0 from e3] at this
      exact this
    have E4 : RX G yX6_end MX6_end [.ref 4, .int 0, .int 4] x := fun L Z g d => by
      have := c_tel_ok (L := L) (F := mx G Z) (g := g) d t et t10 0 t0 4 (by decide)
      rw [show mx G Z 18 (0 * 5 + 4) = x from e4] at this
      exact this
    refine mCall_of sL_isBroken.1 (Nat.le_of_ble_eq_true rfl) ⟨_, rfl, rfl⟩ ?_
    show mGo _ _ (0, [some (.ref 4), some (.int x), some (.int 0), none, none, none, none, none, none, none, none], [], _) _
    refine ib_a0 (R7 L Z g _) (R3 L Z g _) ?_
    refine ib_l0x ?_ 11 0 0 rfl rfl
    refine ib_c0 (T L Z g d) H ?_
    have K2 : mGo ML_isBroken (d + 5) (98, [some (.ref 4), some (.int x), some (.int 0), some (.int (sMeant (F 15))), some (.int (F 17 0)), some (.int (sAl (F 15) 11)), some (.long v), none, some (.int r), none, none], [], mHX L (mx G Z1) g1) (some (.int 1), mHX L (mx F Z2) g1) := by
      refine ib_f0 (Q7 L Z1 g1 _) (Q3 L Z1 g1 _) (E0 L Z1 g1 _) (E3 L Z1 g1 _) (E4 L Z1 g1 _) ?_
      refine ib_g0x (F := G) (s := sAl (F 15) 11) ?_ 11 0 _ rfl rfl
      refine ib_h0 (by rw [e15]; exact sDl_0 _ _) ?_
      refine U dL_isBroken_201 ml_L_83 (Nat.le_of_ble_eq_true rfl) ?_
      exact ib_i0 (kN k - 1) (by have := kN_le k; omega) (T L Z2 g1 d)
    by_cases hr : 0 ≤ r
    · exact ib_e00 hr K2
    · refine ib_e01 hr ?_ K2
      rcases h6 with q | q | ⟨w, hw, q⟩
      · exact absurd q hne
      · exact q
      · rw [q] at hr
        exact absurd (nI_pos' hw) hr
