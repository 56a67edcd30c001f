/-! the law's body -/
def ML_law : mM := (RL, cL_law, 13, some .boolean, false)
set_option maxHeartbeats 4000000 in
set_option maxRecDepth 100000 in
theorem lw_1a {L d : Nat} {F : Nat → Nat → Int32} {g : Nat → Option Nat} {out : mOut} {x3 x4 x5 x6 x7 x8 x9 x10 x11 x12 : Option Value} {v w : Int32} (i : Nat) (hi : i < 44) (h3 : i < 3) (HC0 : mCall (d + 5) yL_cell ML_cell [.ref 0, .int (2 * nI i)] (mHX L F g) (some (.int v)) (mHX L F g))(HC1 : mCall (d + 5) yL_cell ML_cell [.ref 0, .int ((2 * nI i) + 1)] (mHX L F g) (some (.int w)) (mHX L F g)) (K : mGo ML_law (d + 6) (97, [some (.ref 0), some (.ref 4), some (.int (nI i)), some (.int (v &&& (-16))), some (.int w), x5, x6, x7, x8, x9, x10, x11, x12], [], mHX L F g) out) : mGo ML_law (d + 6) (58, [some (.ref 0), some (.ref 4), some (.int (nI i)), x3, x4, x5, x6, x7, x8, x9, x10, x11, x12], [], mHX L F g) out := by
  refine g_iload_n dL_law_58 rfl ?_
  refine g_bipushv (v := 44) dL_law_59 rfl ?_
  refine g_icmp_ge (tgt := 321) dL_law_61 (by decide) (fun c61 => absurd c61 (nI_ge (a := i) (b := 44) hi (by decide))) (fun c61 => ?_)
  refine g_aload_n dL_law_64 rfl ?_
  refine g_iconstv (v := 2) dL_law_65 rfl ?_
  refine g_iload_n dL_law_66 rfl ?_
  refine g_imul dL_law_67 ?_
  refine g_S2i dL_law_68 ml_L_90 sL_cell (Nat.le_of_ble_eq_true rfl) (HC0) ?_
  refine g_istore_n dL_law_71 (by decide) rfl ?_
  refine g_iload_n dL_law_72 rfl ?_
  refine g_iconstv (v := 3) dL_law_73 rfl ?_
  refine g_icmp_ge (tgt := 84) dL_law_74 (by decide) (fun c74 => absurd c74 (nI_ge (a := i) (b := 3) h3 (by decide))) (fun c74 => ?_)
  refine g_iload_n dL_law_77 rfl ?_
  refine g_bipushv (v := (-16)) dL_law_78 rfl ?_
  refine g_iand dL_law_80 ?_
  refine g_goto (tgt := 85) dL_law_81 (by decide) ?_
  refine g_istore_n dL_law_85 (by decide) rfl ?_
  refine g_aload_n dL_law_86 rfl ?_
  refine g_iconstv (v := 2) dL_law_87 rfl ?_
  refine g_iload_n dL_law_88 rfl ?_
  refine g_imul dL_law_89 ?_
  refine g_iconstv (v := 1) dL_law_90 rfl ?_
  refine g_iadd dL_law_91 ?_
  refine g_S2i dL_law_92 ml_L_90 sL_cell (Nat.le_of_ble_eq_true rfl) (HC1) ?_
  refine g_istore dL_law_95 (by decide) rfl ?_
  exact K
set_option maxHeartbeats 4000000 in
set_option maxRecDepth 100000 in
theorem lw_1b {L d : Nat} {F : Nat → Nat → Int32} {g : Nat → Option Nat} {out : mOut} {x3 x4 x5 x6 x7 x8 x9 x10 x11 x12 : Option Value} {v w : Int32} (i : Nat) (hi : i < 44) (h3 : ¬ i < 3) (HC0 : mCall (d + 5) yL_cell ML_cell [.ref 0, .int (2 * nI i)] (mHX L F g) (some (.int v)) (mHX L F g))(HC1 : mCall (d + 5) yL_cell ML_cell [.ref 0, .int ((2 * nI i) + 1)] (mHX L F g) (some (.int w)) (mHX L F g)) (K : mGo ML_law (d + 6) (97, [some (.ref 0), some (.ref 4), some (.int (nI i)), some (.int v), some (.int w), x5, x6, x7, x8, x9, x10, x11, x12], [], mHX L F g) out) : mGo ML_law (d + 6) (58, [some (.ref 0), some (.ref 4), some (.int (nI i)), x3, x4, x5, x6, x7, x8, x9, x10, x11, x12], [], mHX L F g) out := by
  refine g_iload_n dL_law_58 rfl ?_
  refine g_bipushv (v := 44) dL_law_59 rfl ?_
  refine g_icmp_ge (tgt := 321) dL_law_61 (by decide) (fun c61 => absurd c61 (nI_ge (a := i) (b := 44) hi (by decide))) (fun c61 => ?_)
  refine g_aload_n dL_law_64 rfl ?_
  refine g_iconstv (v := 2) dL_law_65 rfl ?_
  refine g_iload_n dL_law_66 rfl ?_
  refine g_imul dL_law_67 ?_
  refine g_S2i dL_law_68 ml_L_90 sL_cell (Nat.le_of_ble_eq_true rfl) (HC0) ?_
  refine g_istore_n dL_law_71 (by decide) rfl ?_
  refine g_iload_n dL_law_72 rfl ?_
  refine g_iconstv (v := 3) dL_law_73 rfl ?_
  refine g_icmp_ge (tgt := 84) dL_law_74 (by decide) (fun c74 => ?_) (fun c74 => absurd (nI_le (a := 3) (b := i) (by omega) (by omega)) c74)
  refine g_iload_n dL_law_84 rfl ?_
  refine g_istore_n dL_law_85 (by decide) rfl ?_
  refine g_aload_n dL_law_86 rfl ?_
  refine g_iconstv (v := 2) dL_law_87 rfl ?_
  refine g_iload_n dL_law_88 rfl ?_
  refine g_imul dL_law_89 ?_
  refine g_iconstv (v := 1) dL_law_90 rfl ?_
  refine g_iadd dL_law_91 ?_
  refine g_S2i dL_law_92 ml_L_90 sL_cell (Nat.le_of_ble_eq_true rfl) (HC1) ?_
  refine g_istore dL_law_95 (by decide) rfl ?_
  exact K
set_option maxHeartbeats 4000000 in
set_option maxRecDepth 100000 in
theorem lw_2n {L d : Nat} {F : Nat → Nat → Int32} {g : Nat → Option Nat} {out : mOut} {x5 x6 x7 x8 x9 x10 x11 x12 : Option Value} {v w : Int32} (i : Nat) (h8 : ¬ nI i = 8) (K : mGo ML_law (d + 6) (109, [some (.ref 0), some (.ref 4), some (.int (nI i)), some (.int v), some (.int w), x5, x6, x7, x8, x9, x10, x11, x12], [], mHX L F g) out) : mGo ML_law (d + 6) (97, [some (.ref 0), some (.ref 4), some (.int (nI i)), some (.int v), some (.int w), x5, x6, x7, x8, x9, x10, x11, x12], [], mHX L F g) out := by
  refine g_iload_n dL_law_97 rfl ?_
  refine g_bipushv (v := 8) dL_law_98 rfl ?_
  refine g_icmp_ne (tgt := 109) dL_law_100 (by decide) (fun c100 => ?_) (fun c100 => absurd c100 h8)
  exact K
set_option maxHeartbeats 4000000 in
set_option maxRecDepth 100000 in
theorem lw_2s {L d : Nat} {F : Nat → Nat → Int32} {g : Nat → Option Nat} {out : mOut} {x5 x6 x7 x8 x9 x10 x11 x12 : Option Value} {v w z : Int32} {F1 : Nat → Nat → Int32} (i : Nat) (h8 : nI i = 8) (HS : mCall (d + 5) yX6_save MX6_save [.ref 4, .int 0] (mHX L F g) (some (.int z)) (mHX L F1 g)) (K : mGo ML_law (d + 6) (109, [some (.ref 0), some (.ref 4), some (.int (nI i)), some (.int v), some (.int w), x5, x6, x7, x8, x9, x10, x11, x12], [], mHX L F1 g) out) : mGo ML_law (d + 6) (97, [some (.ref 0), some (.ref 4), some (.int (nI i)), some (.int v), some (.int w), x5, x6, x7, x8, x9, x10, x11, x12], [], mHX L F g) out := by
  refine g_iload_n dL_law_97 rfl ?_
  refine g_bipushv (v := 8) dL_law_98 rfl ?_
  refine g_icmp_ne (tgt := 109) dL_law_100 (by decide) (fun c100 => absurd h8 c100) (fun c100 => ?_)
  refine g_aload_n dL_law_103 rfl ?_
  refine g_iconstv (v := 0) dL_law_104 rfl ?_
  refine g_V1i dL_law_105 ml_L_87 sX6_save rfl (by decide) (Nat.le_of_ble_eq_true rfl) (HS) ?_
  refine g_pop dL_law_108 rfl ?_
  exact K
set_option maxHeartbeats 4000000 in
set_option maxRecDepth 100000 in
theorem lw_3 {L d : Nat} {F : Nat → Nat → Int32} {g : Nat → Option Nat} {out : mOut} {x5 x6 x7 x8 x9 x10 x11 x12 : Option Value} {v w ks r : Int32} {b b2 : Int64} {F1 : Nat → Nat → Int32} {g1 : Nat → Option Nat} {i : Nat} (T1 : mCall (d + 5) yL_told ML_told [.ref 4] (mHX L F g) (some (.long b)) (mHX L F g))(CN : mCall (d + 5) yX6_count MX6_count [.ref 4, .int 14] (mHX L F g) (some (.int ks)) (mHX L F g))(HA : mCall (d + 5) yL_act ML_act [.ref 4, .int v, .int w] (mHX L F g) (some (.int r)) (mHX L F1 g1))(T2 : mCall (d + 5) yL_told ML_told [.ref 4] (mHX L F1 g1) (some (.long b2)) (mHX L F1 g1)) (K : mGo ML_law (d + 6) (138, [some (.ref 0), some (.ref 4), some (.int (nI i)), some (.int v), some (.int w), some (.long b), none, some (.int ks), some (.int r), some (.long b2), none, x11, x12], [], mHX L F1 g1) out) : mGo ML_law (d + 6) (109, [some (.ref 0), some (.ref 4), some (.int (nI i)), some (.int v), some (.int w), x5, x6, x7, x8, x9, x10, x11, x12], [], mHX L F g) out := by
  refine g_aload_n dL_law_109 rfl ?_
  refine g_S1l dL_law_110 ml_L_79 sL_told (Nat.le_of_ble_eq_true rfl) (T1) ?_
  refine g_lstore dL_law_113 (by decide) rfl ?_
  refine g_aload_n dL_law_115 rfl ?_
  refine g_bipushv (v := 14) dL_law_116 rfl ?_
  refine g_V1i dL_law_118 ml_L_12 sX6_count rfl (by decide) (Nat.le_of_ble_eq_true rfl) (CN) ?_
  refine g_istore dL_law_121 (by decide) rfl ?_
  refine g_aload_n dL_law_123 rfl ?_
  refine g_iload_n dL_law_124 rfl ?_
  refine g_iload dL_law_125 rfl ?_
  refine g_S3i dL_law_127 ml_L_94 sL_act (Nat.le_of_ble_eq_true rfl) (HA) ?_
  refine g_istore dL_law_130 (by decide) rfl ?_
  refine g_aload_n dL_law_132 rfl ?_
  refine g_S1l dL_law_133 ml_L_79 sL_told (Nat.le_of_ble_eq_true rfl) (T2) ?_
  refine g_lstore dL_law_136 (by decide) rfl ?_
  exact K
set_option maxHeartbeats 4000000 in
set_option maxRecDepth 100000 in
theorem lw_4da0 {L d : Nat} {F : Nat → Nat → Int32} {g : Nat → Option Nat} {out : mOut} {x11 x12 : Option Value} {v w ks r : Int32} {b b2 : Int64} {i : Nat} (h1 : 0 ≤ r) (hk : ¬ 6 ≤ ks) (C2 : mCall (d + 5) yX6_count MX6_count [.ref 4, .int 14] (mHX L F g) (some (.int (ks + 1))) (mHX L F g)) (K : mGo ML_law (d + 6) (211, [some (.ref 0), some (.ref 4), some (.int (nI i)), some (.int v), some (.int w), some (.long b), none, some (.int ks), some (.int r), some (.long b2), none, some (.int 1), x12], [], mHX L F g) out) : mGo ML_law (d + 6) (138, [some (.ref 0), some (.ref 4), some (.int (nI i)), some (.int v), some (.int w), some (.long b), none, some (.int ks), some (.int r), some (.long b2), none, x11, x12], [], mHX L F g) out := by
  refine g_iload dL_law_138 rfl ?_
  refine g_if_ge (tgt := 150) dL_law_140 (by decide) (fun c140 => ?_) (fun c140 => absurd h1 c140)
  refine g_iconstv (v := 1) dL_law_150 rfl ?_
  refine g_goto (tgt := 155) dL_law_151 (by decide) ?_
  refine g_istore dL_law_155 (by decide) rfl ?_
  refine g_iload dL_law_157 rfl ?_
  refine g_if_ne (tgt := 184) dL_law_159 (by decide) (fun c159 => ?_) (fun c159 => absurd c159 (by decide))
  refine g_aload_n dL_law_184 rfl ?_
  refine g_bipushv (v := 14) dL_law_185 rfl ?_
  refine g_V1i dL_law_187 ml_L_12 sX6_count rfl (by decide) (Nat.le_of_ble_eq_true rfl) (C2) ?_
  refine g_iload dL_law_190 rfl ?_
  refine g_bipushv (v := 6) dL_law_192 rfl ?_
  refine g_icmp_ge (tgt := 204) dL_law_194 (by decide) (fun c194 => absurd c194 hk) (fun c194 => ?_)
  refine g_iload dL_law_197 rfl ?_
  refine g_iconstv (v := 1) dL_law_199 rfl ?_
  refine g_iadd dL_law_200 ?_
  refine g_goto (tgt := 206) dL_law_201 (by decide) ?_
  refine g_icmp_eq (tgt := 211) dL_law_206 (by decide) (fun c206 => ?_) (fun c206 => absurd rfl c206)
  exact K
set_option maxHeartbeats 4000000 in
set_option maxRecDepth 100000 in
theorem lw_4da1 {L d : Nat} {F : Nat → Nat → Int32} {g : Nat → Option Nat} {out : mOut} {x11 x12 : Option Value} {v w ks r : Int32} {b b2 : Int64} {i : Nat} (h1 : 0 ≤ r) (hk : 6 ≤ ks) (C2 : mCall (d + 5) yX6_count MX6_count [.ref 4, .int 14] (mHX L F g) (some (.int 6)) (mHX L F g)) (K : mGo ML_law (d + 6) (211, [some (.ref 0), some (.ref 4), some (.int (nI i)), some (.int v), some (.int w), some (.long b), none, some (.int ks), some (.int r), some (.long b2), none, some (.int 1), x12], [], mHX L F g) out) : mGo ML_law (d + 6) (138, [some (.ref 0), some (.ref 4), some (.int (nI i)), some (.int v), some (.int w), some (.long b), none, some (.int ks), some (.int r), some (.long b2), none, x11, x12], [], mHX L F g) out := by
  refine g_iload dL_law_138 rfl ?_
  refine g_if_ge (tgt := 150) dL_law_140 (by decide) (fun c140 => ?_) (fun c140 => absurd h1 c140)
  refine g_iconstv (v := 1) dL_law_150 rfl ?_
  refine g_goto (tgt := 155) dL_law_151 (by decide) ?_
  refine g_istore dL_law_155 (by decide) rfl ?_
  refine g_iload dL_law_157 rfl ?_
  refine g_if_ne (tgt := 184) dL_law_159 (by decide) (fun c159 => ?_) (fun c159 => absurd c159 (by decide))
  refine g_aload_n dL_law_184 rfl ?_
  refine g_bipushv (v := 14) dL_law_185 rfl ?_
  refine g_V1i dL_law_187 ml_L_12 sX6_count rfl (by decide) (Nat.le_of_ble_eq_true rfl) (C2) ?_
  refine g_iload dL_law_190 rfl ?_
  refine g_bipushv (v := 6) dL_law_192 rfl ?_
  refine g_icmp_ge (tgt := 204) dL_law_194 (by decide) (fun c194 => ?_) (fun c194 => absurd hk c194)
  refine g_bipushv (v := 6) dL_law_204 rfl ?_
  refine g_icmp_eq (tgt := 211) dL_law_206 (by decide) (fun c206 => ?_) (fun c206 => absurd rfl c206)
  exact K
set_option maxHeartbeats 4000000 in
set_option maxRecDepth 100000 in
theorem lw_4db0 {L d : Nat} {F : Nat → Nat → Int32} {g : Nat → Option Nat} {out : mOut} {x11 x12 : Option Value} {v w ks r : Int32} {b b2 : Int64} {i : Nat} (h1 : ¬ 0 ≤ r) (h2 : r = (-6)) (hk : ¬ 6 ≤ ks) (C2 : mCall (d + 5) yX6_count MX6_count [.ref 4, .int 14] (mHX L F g) (some (.int (ks + 1))) (mHX L F g)) (K : mGo ML_law (d + 6) (211, [some (.ref 0), some (.ref 4), some (.int (nI i)), some (.int v), some (.int w), some (.long b), none, some (.int ks), some (.int r), some (.long b2), none, some (.int 1), x12], [], mHX L F g) out) : mGo ML_law (d + 6) (138, [some (.ref 0), some (.ref 4), some (.int (nI i)), some (.int v), some (.int w), some (.long b), none, some (.int ks), some (.int r), some (.long b2), none, x11, x12], [], mHX L F g) out := by
  refine g_iload dL_law_138 rfl ?_
  refine g_if_ge (tgt := 150) dL_law_140 (by decide) (fun c140 => absurd c140 h1) (fun c140 => ?_)
  refine g_iload dL_law_143 rfl ?_
  refine g_bipushv (v := (-6)) dL_law_145 rfl ?_
  refine g_icmp_ne (tgt := 154) dL_law_147 (by decide) (fun c147 => absurd h2 c147) (fun c147 => ?_)
  refine g_iconstv (v := 1) dL_law_150 rfl ?_
  refine g_goto (tgt := 155) dL_law_151 (by decide) ?_
  refine g_istore dL_law_155 (by decide) rfl ?_
  refine g_iload dL_law_157 rfl ?_
  refine g_if_ne (tgt := 184) dL_law_159 (by decide) (fun c159 => ?_) (fun c159 => absurd c159 (by decide))
  refine g_aload_n dL_law_184 rfl ?_
  refine g_bipushv (v := 14) dL_law_185 rfl ?_
  refine g_V1i dL_law_187 ml_L_12 sX6_count rfl (by decide) (Nat.le_of_ble_eq_true rfl) (C2) ?_
  refine g_iload dL_law_190 rfl ?_
  refine g_bipushv (v := 6) dL_law_192 rfl ?_
  refine g_icmp_ge (tgt := 204) dL_law_194 (by decide) (fun c194 => absurd c194 hk) (fun c194 => ?_)
  refine g_iload dL_law_197 rfl ?_
  refine g_iconstv (v := 1) dL_law_199 rfl ?_
  refine g_iadd dL_law_200 ?_
  refine g_goto (tgt := 206) dL_law_201 (by decide) ?_
  refine g_icmp_eq (tgt := 211) dL_law_206 (by decide) (fun c206 => ?_) (fun c206 => absurd rfl c206)
  exact K
set_option maxHeartbeats 4000000 in
set_option maxRecDepth 100000 in
theorem lw_4db1 {L d : Nat} {F : Nat → Nat → Int32} {g : Nat → Option Nat} {out : mOut} {x11 x12 : Option Value} {v w ks r : Int32} {b b2 : Int64} {i : Nat} (h1 : ¬ 0 ≤ r) (h2 : r = (-6)) (hk : 6 ≤ ks) (C2 : mCall (d + 5) yX6_count MX6_count [.ref 4, .int 14] (mHX L F g) (some (.int 6)) (mHX L F g)) (K : mGo ML_law (d + 6) (211, [some (.ref 0), some (.ref 4), some (.int (nI i)), some (.int v), some (.int w), some (.long b), none, some (.int ks), some (.int r), some (.long b2), none, some (.int 1), x12], [], mHX L F g) out) : mGo ML_law (d + 6) (138, [some (.ref 0), some (.ref 4), some (.int (nI i)), some (.int v), some (.int w), some (.long b), none, some (.int ks), some (.int r), some (.long b2), none, x11, x12], [], mHX L F g) out := by
  refine g_iload dL_law_138 rfl ?_
  refine g_if_ge (tgt := 150) dL_law_140 (by decide) (fun c140 => absurd c140 h1) (fun c140 => ?_)
  refine g_iload dL_law_143 rfl ?_
  refine g_bipushv (v := (-6)) dL_law_145 rfl ?_
  refine g_icmp_ne (tgt := 154) dL_law_147 (by decide) (fun c147 => absurd h2 c147) (fun c147 => ?_)
  refine g_iconstv (v := 1) dL_law_150 rfl ?_
  refine g_goto (tgt := 155) dL_law_151 (by decide) ?_
  refine g_istore dL_law_155 (by decide) rfl ?_
  refine g_iload dL_law_157 rfl ?_
  refine g_if_ne (tgt := 184) dL_law_159 (by decide) (fun c159 => ?_) (fun c159 => absurd c159 (by decide))
  refine g_aload_n dL_law_184 rfl ?_
  refine g_bipushv (v := 14) dL_law_185 rfl ?_
  refine g_V1i dL_law_187 ml_L_12 sX6_count rfl (by decide) (Nat.le_of_ble_eq_true rfl) (C2) ?_
  refine g_iload dL_law_190 rfl ?_
  refine g_bipushv (v := 6) dL_law_192 rfl ?_
  refine g_icmp_ge (tgt := 204) dL_law_194 (by decide) (fun c194 => ?_) (fun c194 => absurd hk c194)
  refine g_bipushv (v := 6) dL_law_204 rfl ?_
  refine g_icmp_eq (tgt := 211) dL_law_206 (by decide) (fun c206 => ?_) (fun c206 => absurd rfl c206)
  exact K
set_option maxHeartbeats 4000000 in
set_option maxRecDepth 100000 in
theorem lw_4n {L d : Nat} {F : Nat → Nat → Int32} {g : Nat → Option Nat} {out : mOut} {x11 x12 : Option Value} {v w ks r : Int32} {b : Int64} {i : Nat} (h1 : ¬ 0 ≤ r) (h2 : ¬ r = (-6)) (C2 : mCall (d + 5) yX6_count MX6_count [.ref 4, .int 14] (mHX L F g) (some (.int ks)) (mHX L F g)) (K : mGo ML_law (d + 6) (211, [some (.ref 0), some (.ref 4), some (.int (nI i)), some (.int v), some (.int w), some (.long b), none, some (.int ks), some (.int r), some (.long b), none, some (.int 0), x12], [], mHX L F g) out) : mGo ML_law (d + 6) (138, [some (.ref 0), some (.ref 4), some (.int (nI i)), some (.int v), some (.int w), some (.long b), none, some (.int ks), some (.int r), some (.long b), none, x11, x12], [], mHX L F g) out := by
  refine g_iload dL_law_138 rfl ?_
  refine g_if_ge (tgt := 150) dL_law_140 (by decide) (fun c140 => absurd c140 h1) (fun c140 => ?_)
  refine g_iload dL_law_143 rfl ?_
  refine g_bipushv (v := (-6)) dL_law_145 rfl ?_
  refine g_icmp_ne (tgt := 154) dL_law_147 (by decide) (fun c147 => ?_) (fun c147 => absurd c147 h2)
  refine g_iconstv (v := 0) dL_law_154 rfl ?_
  refine g_istore dL_law_155 (by decide) rfl ?_
  refine g_iload dL_law_157 rfl ?_
  refine g_if_ne (tgt := 184) dL_law_159 (by decide) (fun c159 => absurd (by decide) c159) (fun c159 => ?_)
  refine g_lload dL_law_162 rfl ?_
  refine g_lload dL_law_164 rfl ?_
  refine g_lcmp dL_law_166 ?_
  refine g_if_ne (tgt := 209) dL_law_167 (by decide) (fun c167 => absurd (lg_vv b) c167) (fun c167 => ?_)
  refine g_aload_n dL_law_170 rfl ?_
  refine g_bipushv (v := 14) dL_law_171 rfl ?_
  refine g_V1i dL_law_173 ml_L_12 sX6_count rfl (by decide) (Nat.le_of_ble_eq_true rfl) (C2) ?_
  refine g_iload dL_law_176 rfl ?_
  refine g_icmp_eq (tgt := 211) dL_law_178 (by decide) (fun c178 => ?_) (fun c178 => absurd rfl c178)
  exact K
set_option maxHeartbeats 4000000 in
set_option maxRecDepth 100000 in
theorem lw_5n {L d : Nat} {F : Nat → Nat → Int32} {g : Nat → Option Nat} {out : mOut} {x12 : Option Value} {v w ks r : Int32} {b b2 : Int64} {i : Nat}  (K : mGo ML_law (d + 6) (278, [some (.ref 0), some (.ref 4), some (.int (nI i)), some (.int v), some (.int w), some (.long b), none, some (.int ks), some (.int r), some (.long b2), none, some (.int 0), x12], [], mHX L F g) out) : mGo ML_law (d + 6) (211, [some (.ref 0), some (.ref 4), some (.int (nI i)), some (.int v), some (.int w), some (.long b), none, some (.int ks), some (.int r), some (.long b2), none, some (.int 0), x12], [], mHX L F g) out := by
  refine g_iload dL_law_211 rfl ?_
  refine g_if_eq (tgt := 278) dL_law_213 (by decide) (fun c213 => ?_) (fun c213 => absurd (by decide) c213)
  exact K
set_option maxHeartbeats 4000000 in
set_option maxRecDepth 100000 in
theorem lw_5s {L d : Nat} {F : Nat → Nat → Int32} {g : Nat → Option Nat} {out : mOut} {x12 : Option Value} {v w ks r : Int32} {b b2 : Int64} {i : Nat} (hv : ¬ ((v >>> (10 &&& 31)) &&& 1) = 0) (K : mGo ML_law (d + 6) (278, [some (.ref 0), some (.ref 4), some (.int (nI i)), some (.int v), some (.int w), some (.long b), none, some (.int ks), some (.int r), some (.long b2), none, some (.int 1), x12], [], mHX L F g) out) : mGo ML_law (d + 6) (211, [some (.ref 0), some (.ref 4), some (.int (nI i)), some (.int v), some (.int w), some (.long b), none, some (.int ks), some (.int r), some (.long b2), none, some (.int 1), x12], [], mHX L F g) out := by
  refine g_iload dL_law_211 rfl ?_
  refine g_if_eq (tgt := 278) dL_law_213 (by decide) (fun c213 => absurd c213 (by decide)) (fun c213 => ?_)
  refine g_iload_n dL_law_216 rfl ?_
  refine g_bipushv (v := 10) dL_law_217 rfl ?_
  refine g_ishr dL_law_219 ?_
  refine g_iconstv (v := 1) dL_law_220 rfl ?_
  refine g_iand dL_law_221 ?_
  refine g_if_ne (tgt := 278) dL_law_222 (by decide) (fun c222 => ?_) (fun c222 => absurd c222 hv)
  exact K
set_option maxHeartbeats 4000000 in
set_option maxRecDepth 100000 in
theorem lw_5u {L d : Nat} {F : Nat → Nat → Int32} {g : Nat → Option Nat} {out : mOut} {x12 : Option Value} {v w ks r : Int32} {b b2 : Int64} {i : Nat} {ks2 : Int32} (hv : ((v >>> (10 &&& 31)) &&& 1) = 0) (C2 : mCall (d + 5) yX6_count MX6_count [.ref 4, .int 14] (mHX L F g) (some (.int ks2)) (mHX L F g)) (K : mGo ML_law (d + 6) (236, [some (.ref 0), some (.ref 4), some (.int (nI i)), some (.int v), some (.int w), some (.long b), none, some (.int ks), some (.int r), some (.long b2), none, some (.int 1), some (.int (ks2 - 1))], [.ref 4], mHX L F g) out) : mGo ML_law (d + 6) (211, [some (.ref 0), some (.ref 4), some (.int (nI i)), some (.int v), some (.int w), some (.long b), none, some (.int ks), some (.int r), some (.long b2), none, some (.int 1), x12], [], mHX L F g) out := by
  refine g_iload dL_law_211 rfl ?_
  refine g_if_eq (tgt := 278) dL_law_213 (by decide) (fun c213 => absurd c213 (by decide)) (fun c213 => ?_)
  refine g_iload_n dL_law_216 rfl ?_
  refine g_bipushv (v := 10) dL_law_217 rfl ?_
  refine g_ishr dL_law_219 ?_
  refine g_iconstv (v := 1) dL_law_220 rfl ?_
  refine g_iand dL_law_221 ?_
  refine g_if_ne (tgt := 278) dL_law_222 (by decide) (fun c222 => absurd hv c222) (fun c222 => ?_)
  refine g_aload_n dL_law_225 rfl ?_
  refine g_bipushv (v := 14) dL_law_226 rfl ?_
  refine g_V1i dL_law_228 ml_L_12 sX6_count rfl (by decide) (Nat.le_of_ble_eq_true rfl) (C2) ?_
  refine g_iconstv (v := 1) dL_law_231 rfl ?_
  refine g_isub dL_law_232 ?_
  refine g_istore dL_law_233 (by decide) rfl ?_
  refine g_aload_n dL_law_235 rfl ?_
  exact K
set_option maxHeartbeats 4000000 in
set_option maxRecDepth 100000 in
theorem lw_5w {L d : Nat} {F : Nat → Nat → Int32} {g : Nat → Option Nat} {out : mOut} {v w ks r z ks2 : Int32} {b b2 : Int64} {F1 : Nat → Nat → Int32} {g1 : Nat → Option Nat} {i : Nat} (hz : z = ks2 - 1) (T1 : mCall (d + 5) yL_told ML_told [.ref 4] (mHX L F g) (some (.long b)) (mHX L F g))(HA : mCall (d + 5) yL_act ML_act [.ref 4, .int v, .int w] (mHX L F g) (some (.int r)) (mHX L F1 g1))(T2 : mCall (d + 5) yL_told ML_told [.ref 4] (mHX L F1 g1) (some (.long b2)) (mHX L F1 g1)) (K : mGo ML_law (d + 6) (278, [some (.ref 0), some (.ref 4), some (.int (nI i)), some (.int v), some (.int w), some (.long b), none, some (.int ks), some (.int r), some (.long b2), none, some (.int 1), some (.int (ks2 - 1))], [], mHX L F1 g1) out) : mGo ML_law (d + 6) (239, [some (.ref 0), some (.ref 4), some (.int (nI i)), some (.int v), some (.int w), some (.long b), none, some (.int ks), some (.int r), some (.long b2), none, some (.int 1), some (.int (ks2 - 1))], [.int z], mHX L F g) out := by
  refine g_iload dL_law_239 rfl ?_
  refine g_icmp_ne (tgt := 276) dL_law_241 (by decide) (fun c241 => absurd hz c241) (fun c241 => ?_)
  refine g_aload_n dL_law_244 rfl ?_
  refine g_S1l dL_law_245 ml_L_79 sL_told (Nat.le_of_ble_eq_true rfl) (T1) ?_
  refine g_lload dL_law_248 rfl ?_
  refine g_lcmp dL_law_250 ?_
  refine g_if_ne (tgt := 276) dL_law_251 (by decide) (fun c251 => absurd (lg_vv b) c251) (fun c251 => ?_)
  refine g_aload_n dL_law_254 rfl ?_
  refine g_iload_n dL_law_255 rfl ?_
  refine g_iload dL_law_256 rfl ?_
  refine g_S3i dL_law_258 ml_L_94 sL_act (Nat.le_of_ble_eq_true rfl) (HA) ?_
  refine g_iload dL_law_261 rfl ?_
  refine g_icmp_ne (tgt := 276) dL_law_263 (by decide) (fun c263 => absurd rfl c263) (fun c263 => ?_)
  refine g_aload_n dL_law_266 rfl ?_
  refine g_S1l dL_law_267 ml_L_79 sL_told (Nat.le_of_ble_eq_true rfl) (T2) ?_
  refine g_lload dL_law_270 rfl ?_
  refine g_lcmp dL_law_272 ?_
  refine g_if_eq (tgt := 278) dL_law_273 (by decide) (fun c273 => ?_) (fun c273 => absurd (lg_vv b2) c273)
  exact K
set_option maxHeartbeats 4000000 in
set_option maxRecDepth 100000 in
theorem lw_6a {L d : Nat} {F : Nat → Nat → Int32} {g : Nat → Option Nat} {out : mOut} {x5 x6 x7 x8 x9 x10 x11 x12 : Option Value} {v w : Int32} (i : Nat) {F1 : Nat → Nat → Int32} {g1 : Nat → Option Nat} (hw : (w &&& 1) = 0) (HH : mCall (d + 5) yL_holds ML_holds [.ref 4] (mHX L F g) (some (.int 1)) (mHX L F g))(HB : mCall (d + 5) yL_isBroken ML_isBroken [.ref 4, .int (sLow (w >>> (2 &&& 31)) 10), .int 1] (mHX L F g) (some (.int 1)) (mHX L F1 g1)) (K : mGo ML_law (d + 6) (58, [some (.ref 0), some (.ref 4), some (.int (nI (i + 1))), some (.int v), some (.int w), x5, x6, x7, x8, x9, x10, x11, x12], [], mHX L F1 g1) out) : mGo ML_law (d + 6) (278, [some (.ref 0), some (.ref 4), some (.int (nI i)), some (.int v), some (.int w), x5, x6, x7, x8, x9, x10, x11, x12], [], mHX L F g) out := by
  refine g_aload_n dL_law_278 rfl ?_
  refine g_S1i dL_law_279 ml_L_98 sL_holds (Nat.le_of_ble_eq_true rfl) (HH) ?_
  refine g_if_eq (tgt := 313) dL_law_282 (by decide) (fun c282 => absurd c282 (by decide)) (fun c282 => ?_)
  refine g_aload_n dL_law_285 rfl ?_
  refine g_iload dL_law_286 rfl ?_
  refine g_iconstv (v := 2) dL_law_288 rfl ?_
  refine g_ishr dL_law_289 ?_
  refine g_bipushv (v := 10) dL_law_290 rfl ?_
  refine g_S2i dL_law_292 ml_L_31 sL_low (Nat.le_of_ble_eq_true rfl) (c_low (d + 5) (w >>> (2 &&& 31)) 10 (by decide)) ?_
  refine g_iload dL_law_295 rfl ?_
  refine g_iconstv (v := 1) dL_law_297 rfl ?_
  refine g_iand dL_law_298 ?_
  refine g_if_ne (tgt := 306) dL_law_299 (by decide) (fun c299 => absurd hw c299) (fun c299 => ?_)
  refine g_iconstv (v := 1) dL_law_302 rfl ?_
  refine g_goto (tgt := 307) dL_law_303 (by decide) ?_
  refine g_S3i dL_law_307 ml_L_102 sL_isBroken (Nat.le_of_ble_eq_true rfl) (HB) ?_
  refine g_if_ne (tgt := 315) dL_law_310 (by decide) (fun c310 => ?_) (fun c310 => absurd c310 (by decide))
  refine g_iincN dL_law_315 rfl (by decide) rfl ?_
  refine g_goto (tgt := 58) dL_law_318 (by decide) ?_
  exact K
set_option maxHeartbeats 4000000 in
set_option maxRecDepth 100000 in
theorem lw_6b {L d : Nat} {F : Nat → Nat → Int32} {g : Nat → Option Nat} {out : mOut} {x5 x6 x7 x8 x9 x10 x11 x12 : Option Value} {v w : Int32} (i : Nat) {F1 : Nat → Nat → Int32} {g1 : Nat → Option Nat} (hw : ¬ (w &&& 1) = 0) (HH : mCall (d + 5) yL_holds ML_holds [.ref 4] (mHX L F g) (some (.int 1)) (mHX L F g))(HB : mCall (d + 5) yL_isBroken ML_isBroken [.ref 4, .int (sLow (w >>> (2 &&& 31)) 10), .int 0] (mHX L F g) (some (.int 1)) (mHX L F1 g1)) (K : mGo ML_law (d + 6) (58, [some (.ref 0), some (.ref 4), some (.int (nI (i + 1))), some (.int v), some (.int w), x5, x6, x7, x8, x9, x10, x11, x12], [], mHX L F1 g1) out) : mGo ML_law (d + 6) (278, [some (.ref 0), some (.ref 4), some (.int (nI i)), some (.int v), some (.int w), x5, x6, x7, x8, x9, x10, x11, x12], [], mHX L F g) out := by
  refine g_aload_n dL_law_278 rfl ?_
  refine g_S1i dL_law_279 ml_L_98 sL_holds (Nat.le_of_ble_eq_true rfl) (HH) ?_
  refine g_if_eq (tgt := 313) dL_law_282 (by decide) (fun c282 => absurd c282 (by decide)) (fun c282 => ?_)
  refine g_aload_n dL_law_285 rfl ?_
  refine g_iload dL_law_286 rfl ?_
  refine g_iconstv (v := 2) dL_law_288 rfl ?_
  refine g_ishr dL_law_289 ?_
  refine g_bipushv (v := 10) dL_law_290 rfl ?_
  refine g_S2i dL_law_292 ml_L_31 sL_low (Nat.le_of_ble_eq_true rfl) (c_low (d + 5) (w >>> (2 &&& 31)) 10 (by decide)) ?_
  refine g_iload dL_law_295 rfl ?_
  refine g_iconstv (v := 1) dL_law_297 rfl ?_
  refine g_iand dL_law_298 ?_
  refine g_if_ne (tgt := 306) dL_law_299 (by decide) (fun c299 => ?_) (fun c299 => absurd c299 hw)
  refine g_iconstv (v := 0) dL_law_306 rfl ?_
  refine g_S3i dL_law_307 ml_L_102 sL_isBroken (Nat.le_of_ble_eq_true rfl) (HB) ?_
  refine g_if_ne (tgt := 315) dL_law_310 (by decide) (fun c310 => ?_) (fun c310 => absurd c310 (by decide))
  refine g_iincN dL_law_315 rfl (by decide) rfl ?_
  refine g_goto (tgt := 58) dL_law_318 (by decide) ?_
  exact K
set_option maxHeartbeats 4000000 in
set_option maxRecDepth 100000 in
theorem lw_end {L d : Nat} {F : Nat → Nat → Int32} {g : Nat → Option Nat} {x3 x4 x5 x6 x7 x8 x9 x10 x11 x12 : Option Value} : mGo ML_law (d + 6) (58, [some (.ref 0), some (.ref 4), some (.int (nI 44)), x3, x4, x5, x6, x7, x8, x9, x10, x11, x12], [], mHX L F g) (some (.int 1), mHX L F g) := by
  refine g_iload_n dL_law_58 rfl ?_
  refine g_bipushv (v := 44) dL_law_59 rfl ?_
  refine g_icmp_ge (tgt := 321) dL_law_61 (by decide) (fun c61 => ?_) (fun c61 => absurd (nI_le (a := 44) (b := 44) (by decide) (by decide)) c61)
  refine g_iconstv (v := 1) dL_law_321 rfl ?_
  exact g_iret dL_law_322 rfl
set_option maxHeartbeats 4000000 in
set_option maxRecDepth 100000 in
theorem lw_0 {L d : Nat} {F : Nat → Nat → Int32} {g : Nat → Option Nat} {out : mOut} {F1 F2 : Nat → Nat → Int32} {g1 : Nat → Option Nat} (U : mCall (d + 5) yX6_undo MX6_undo [.ref 4] (mHX L F g) (some (.int (-5))) (mHX L F g))(RS : mCall (d + 5) yX6_restore MX6_restore [.ref 4, .int 0] (mHX L F g) (some (.int (-5))) (mHX L F1 g1))(SV : mCall (d + 5) yX6_save MX6_save [.ref 4, .int 0] (mHX L F1 g1) (some (.int 0)) (mHX L F2 g1))(US : mCall (d + 5) yX6_usual MX6_usual [.ref 4] (mHX L F2 g1) (some (.int (-6))) (mHX L F2 g1))(EN : mCall (d + 5) yX6_end MX6_end [.ref 4, .int 0, .int 0] (mHX L F2 g1) (some (.int (-1))) (mHX L F2 g1)) (K : mGo ML_law (d + 6) (58, [some (.ref 0), some (.ref 4), some (.int (nI 0)), none, none, none, none, none, none, none, none, none, none], [], mHX L F2 g1) out) : mGo ML_law (d + 6) (8, [some (.ref 0), some (.ref 4), none, none, none, none, none, none, none, none, none, none, none], [], mHX L F g) out := by
  refine g_aload_n dL_law_8 rfl ?_
  refine g_V0i dL_law_9 ml_L_83 sX6_undo rfl (by decide) (Nat.le_of_ble_eq_true rfl) (U) ?_
  refine g_bipushv (v := (-5)) dL_law_12 rfl ?_
  refine g_icmp_ne (tgt := 54) dL_law_14 (by decide) (fun c14 => absurd (by decide) c14) (fun c14 => ?_)
  refine g_aload_n dL_law_17 rfl ?_
  refine g_iconstv (v := 0) dL_law_18 rfl ?_
  refine g_V1i dL_law_19 ml_L_39 sX6_restore rfl (by decide) (Nat.le_of_ble_eq_true rfl) (RS) ?_
  refine g_bipushv (v := (-5)) dL_law_22 rfl ?_
  refine g_icmp_ne (tgt := 54) dL_law_24 (by decide) (fun c24 => absurd (by decide) c24) (fun c24 => ?_)
  refine g_aload_n dL_law_27 rfl ?_
  refine g_iconstv (v := 0) dL_law_28 rfl ?_
  refine g_V1i dL_law_29 ml_L_87 sX6_save rfl (by decide) (Nat.le_of_ble_eq_true rfl) (SV) ?_
  refine g_if_ne (tgt := 54) dL_law_32 (by decide) (fun c32 => absurd (by decide) c32) (fun c32 => ?_)
  refine g_aload_n dL_law_35 rfl ?_
  refine g_V0i dL_law_36 ml_L_75 sX6_usual rfl (by decide) (Nat.le_of_ble_eq_true rfl) (US) ?_
  refine g_bipushv (v := (-6)) dL_law_39 rfl ?_
  refine g_icmp_ne (tgt := 54) dL_law_41 (by decide) (fun c41 => absurd (by decide) c41) (fun c41 => ?_)
  refine g_aload_n dL_law_44 rfl ?_
  refine g_iconstv (v := 0) dL_law_45 rfl ?_
  refine g_iconstv (v := 0) dL_law_46 rfl ?_
  refine g_V2i dL_law_47 ml_L_22 sX6_end rfl (by decide) (Nat.le_of_ble_eq_true rfl) (EN) ?_
  refine g_iconstv (v := (-1)) dL_law_50 rfl ?_
  refine g_icmp_eq (tgt := 56) dL_law_51 (by decide) (fun c51 => ?_) (fun c51 => absurd (by decide) c51)
  refine g_iconstv (v := 0) dL_law_56 rfl ?_
  refine g_istore_n dL_law_57 (by decide) rfl ?_
  exact K
