/-! holds: hosts, sets, pauses, meanings, sums -/
set_option maxHeartbeats 4000000 in
set_option maxRecDepth 100000 in
theorem ho_1a {L d : Nat} {F : Nat → Nat → Int32} {g : Nat → Option Nat} {out : mOut} {x4 x5 x6 x7 x8 : Option Value} {u dd s h p e : Int32} (t : Nat) (ht : t < 3) (H0 : mCall (d + 3) yX6_table MX6_table [.ref 4, .int (nI t), .int 0] (mHX L F g) (some (.int s)) (mHX L F g)) (H1 : mCall (d + 3) yX6_table MX6_table [.ref 4, .int (nI t), .int 1] (mHX L F g) (some (.int h)) (mHX L F g)) (H3 : mCall (d + 3) yX6_table MX6_table [.ref 4, .int (nI t), .int 3] (mHX L F g) (some (.int p)) (mHX L F g)) (H5 : mCall (d + 3) yX6_table MX6_table [.ref 4, .int (nI t), .int 5] (mHX L F g) (some (.int e)) (mHX L F g)) (hd : (u &&& s) = 0) (hs : s = 0) (hh : h = (-6)) (hp : p = (-6)) (HT : mCall (d + 3) yX6_turnsIn MX6_turnsIn [.ref 4, .int (nI t)] (mHX L F g) (some (.int (-5))) (mHX L F g)) (K : mGo ML_holds (d + 4) (126, [some (.ref 4), some (.int (u ||| s)), some (.int (dd + e)), some (.int (nI t)), some (.int s), some (.int h), some (.int p), some (.int (nI 0)), x8], [], mHX L F g) out) : mGo ML_holds (d + 4) (6, [some (.ref 4), some (.int u), some (.int dd), some (.int (nI t)), x4, x5, x6, x7, x8], [], mHX L F g) out := by
  refine g_iload_n dL_holds_6 rfl ?_
  refine g_iconstv (v := 3) dL_holds_7 rfl ?_
  refine g_icmp_ge (tgt := 298) dL_holds_8 (by decide) (fun c8 => absurd c8 (nI_ge (a := t) (b := 3) ht (by decide))) (fun c8 => ?_)
  refine g_aload_n dL_holds_11 rfl ?_
  refine g_iload_n dL_holds_12 rfl ?_
  refine g_iconstv (v := 0) dL_holds_13 rfl ?_
  refine g_V2i dL_holds_14 ml_L_25 sX6_table rfl (by decide) (Nat.le_of_ble_eq_true rfl) (H0) ?_
  refine g_istore dL_holds_17 (by decide) rfl ?_
  refine g_aload_n dL_holds_19 rfl ?_
  refine g_iload_n dL_holds_20 rfl ?_
  refine g_iconstv (v := 1) dL_holds_21 rfl ?_
  refine g_V2i dL_holds_22 ml_L_25 sX6_table rfl (by decide) (Nat.le_of_ble_eq_true rfl) (H1) ?_
  refine g_istore dL_holds_25 (by decide) rfl ?_
  refine g_aload_n dL_holds_27 rfl ?_
  refine g_iload_n dL_holds_28 rfl ?_
  refine g_iconstv (v := 3) dL_holds_29 rfl ?_
  refine g_V2i dL_holds_30 ml_L_25 sX6_table rfl (by decide) (Nat.le_of_ble_eq_true rfl) (H3) ?_
  refine g_istore dL_holds_33 (by decide) rfl ?_
  refine g_iload_n dL_holds_35 rfl ?_
  refine g_aload_n dL_holds_36 rfl ?_
  refine g_iload_n dL_holds_37 rfl ?_
  refine g_iconstv (v := 5) dL_holds_38 rfl ?_
  refine g_V2i dL_holds_39 ml_L_25 sX6_table rfl (by decide) (Nat.le_of_ble_eq_true rfl) (H5) ?_
  refine g_iadd dL_holds_42 ?_
  refine g_istore_n dL_holds_43 (by decide) rfl ?_
  refine g_iload_n dL_holds_44 rfl ?_
  refine g_iload dL_holds_45 rfl ?_
  refine g_iand dL_holds_47 ?_
  refine g_if_ne (tgt := 116) dL_holds_48 (by decide) (fun c48 => absurd hd c48) (fun c48 => ?_)
  refine g_iload dL_holds_51 rfl ?_
  refine g_if_ne (tgt := 60) dL_holds_53 (by decide) (fun c53 => absurd hs c53) (fun c53 => ?_)
  refine g_iconstv (v := 1) dL_holds_56 rfl ?_
  refine g_goto (tgt := 61) dL_holds_57 (by decide) ?_
  refine g_iload dL_holds_61 rfl ?_
  refine g_bipushv (v := (-6)) dL_holds_63 rfl ?_
  refine g_icmp_ne (tgt := 72) dL_holds_65 (by decide) (fun c65 => absurd hh c65) (fun c65 => ?_)
  refine g_iconstv (v := 1) dL_holds_68 rfl ?_
  refine g_goto (tgt := 73) dL_holds_69 (by decide) ?_
  refine g_icmp_ne (tgt := 116) dL_holds_73 (by decide) (fun c73 => absurd rfl c73) (fun c73 => ?_)
  refine g_iload dL_holds_76 rfl ?_
  refine g_if_ne (tgt := 88) dL_holds_78 (by decide) (fun c78 => absurd hs c78) (fun c78 => ?_)
  refine g_iload dL_holds_81 rfl ?_
  refine g_bipushv (v := (-6)) dL_holds_83 rfl ?_
  refine g_icmp_ne (tgt := 116) dL_holds_85 (by decide) (fun c85 => absurd hp c85) (fun c85 => ?_)
  refine g_iload dL_holds_88 rfl ?_
  refine g_if_ge (tgt := 97) dL_holds_90 (by decide) (fun c90 => absurd c90 (by rw [hp]; decide)) (fun c90 => ?_)
  refine g_iconstv (v := 1) dL_holds_93 rfl ?_
  refine g_goto (tgt := 98) dL_holds_94 (by decide) ?_
  refine g_aload_n dL_holds_98 rfl ?_
  refine g_iload_n dL_holds_99 rfl ?_
  refine g_V1i dL_holds_100 ml_L_66 sX6_turnsIn rfl (by decide) (Nat.le_of_ble_eq_true rfl) (HT) ?_
  refine g_bipushv (v := (-5)) dL_holds_103 rfl ?_
  refine g_icmp_ne (tgt := 112) dL_holds_105 (by decide) (fun c105 => absurd rfl c105) (fun c105 => ?_)
  refine g_iconstv (v := 1) dL_holds_108 rfl ?_
  refine g_goto (tgt := 113) dL_holds_109 (by decide) ?_
  refine g_icmp_eq (tgt := 118) dL_holds_113 (by decide) (fun c113 => ?_) (fun c113 => absurd rfl c113)
  refine g_iload_n dL_holds_118 rfl ?_
  refine g_iload dL_holds_119 rfl ?_
  refine g_ior dL_holds_121 ?_
  refine g_istore_n dL_holds_122 (by decide) rfl ?_
  refine g_iconstv (v := 0) dL_holds_123 rfl ?_
  refine g_istore dL_holds_124 (by decide) rfl ?_
  exact K
set_option maxHeartbeats 4000000 in
set_option maxRecDepth 100000 in
theorem ho_1b {L d : Nat} {F : Nat → Nat → Int32} {g : Nat → Option Nat} {out : mOut} {x4 x5 x6 x7 x8 : Option Value} {u dd s h p e : Int32} (t : Nat) (ht : t < 3) (H0 : mCall (d + 3) yX6_table MX6_table [.ref 4, .int (nI t), .int 0] (mHX L F g) (some (.int s)) (mHX L F g)) (H1 : mCall (d + 3) yX6_table MX6_table [.ref 4, .int (nI t), .int 1] (mHX L F g) (some (.int h)) (mHX L F g)) (H3 : mCall (d + 3) yX6_table MX6_table [.ref 4, .int (nI t), .int 3] (mHX L F g) (some (.int p)) (mHX L F g)) (H5 : mCall (d + 3) yX6_table MX6_table [.ref 4, .int (nI t), .int 5] (mHX L F g) (some (.int e)) (mHX L F g)) (hd : (u &&& s) = 0) (hs : ¬ s = 0) (hh : ¬ h = (-6)) (hp : p = (-6)) (HT : mCall (d + 3) yX6_turnsIn MX6_turnsIn [.ref 4, .int (nI t)] (mHX L F g) (some (.int (-5))) (mHX L F g)) (K : mGo ML_holds (d + 4) (126, [some (.ref 4), some (.int (u ||| s)), some (.int (dd + e)), some (.int (nI t)), some (.int s), some (.int h), some (.int p), some (.int (nI 0)), x8], [], mHX L F g) out) : mGo ML_holds (d + 4) (6, [some (.ref 4), some (.int u), some (.int dd), some (.int (nI t)), x4, x5, x6, x7, x8], [], mHX L F g) out := by
  refine g_iload_n dL_holds_6 rfl ?_
  refine g_iconstv (v := 3) dL_holds_7 rfl ?_
  refine g_icmp_ge (tgt := 298) dL_holds_8 (by decide) (fun c8 => absurd c8 (nI_ge (a := t) (b := 3) ht (by decide))) (fun c8 => ?_)
  refine g_aload_n dL_holds_11 rfl ?_
  refine g_iload_n dL_holds_12 rfl ?_
  refine g_iconstv (v := 0) dL_holds_13 rfl ?_
  refine g_V2i dL_holds_14 ml_L_25 sX6_table rfl (by decide) (Nat.le_of_ble_eq_true rfl) (H0) ?_
  refine g_istore dL_holds_17 (by decide) rfl ?_
  refine g_aload_n dL_holds_19 rfl ?_
  refine g_iload_n dL_holds_20 rfl ?_
  refine g_iconstv (v := 1) dL_holds_21 rfl ?_
  refine g_V2i dL_holds_22 ml_L_25 sX6_table rfl (by decide) (Nat.le_of_ble_eq_true rfl) (H1) ?_
  refine g_istore dL_holds_25 (by decide) rfl ?_
  refine g_aload_n dL_holds_27 rfl ?_
  refine g_iload_n dL_holds_28 rfl ?_
  refine g_iconstv (v := 3) dL_holds_29 rfl ?_
  refine g_V2i dL_holds_30 ml_L_25 sX6_table rfl (by decide) (Nat.le_of_ble_eq_true rfl) (H3) ?_
  refine g_istore dL_holds_33 (by decide) rfl ?_
  refine g_iload_n dL_holds_35 rfl ?_
  refine g_aload_n dL_holds_36 rfl ?_
  refine g_iload_n dL_holds_37 rfl ?_
  refine g_iconstv (v := 5) dL_holds_38 rfl ?_
  refine g_V2i dL_holds_39 ml_L_25 sX6_table rfl (by decide) (Nat.le_of_ble_eq_true rfl) (H5) ?_
  refine g_iadd dL_holds_42 ?_
  refine g_istore_n dL_holds_43 (by decide) rfl ?_
  refine g_iload_n dL_holds_44 rfl ?_
  refine g_iload dL_holds_45 rfl ?_
  refine g_iand dL_holds_47 ?_
  refine g_if_ne (tgt := 116) dL_holds_48 (by decide) (fun c48 => absurd hd c48) (fun c48 => ?_)
  refine g_iload dL_holds_51 rfl ?_
  refine g_if_ne (tgt := 60) dL_holds_53 (by decide) (fun c53 => ?_) (fun c53 => absurd c53 hs)
  refine g_iconstv (v := 0) dL_holds_60 rfl ?_
  refine g_iload dL_holds_61 rfl ?_
  refine g_bipushv (v := (-6)) dL_holds_63 rfl ?_
  refine g_icmp_ne (tgt := 72) dL_holds_65 (by decide) (fun c65 => ?_) (fun c65 => absurd c65 hh)
  refine g_iconstv (v := 0) dL_holds_72 rfl ?_
  refine g_icmp_ne (tgt := 116) dL_holds_73 (by decide) (fun c73 => absurd rfl c73) (fun c73 => ?_)
  refine g_iload dL_holds_76 rfl ?_
  refine g_if_ne (tgt := 88) dL_holds_78 (by decide) (fun c78 => ?_) (fun c78 => absurd c78 hs)
  refine g_iload dL_holds_88 rfl ?_
  refine g_if_ge (tgt := 97) dL_holds_90 (by decide) (fun c90 => absurd c90 (by rw [hp]; decide)) (fun c90 => ?_)
  refine g_iconstv (v := 1) dL_holds_93 rfl ?_
  refine g_goto (tgt := 98) dL_holds_94 (by decide) ?_
  refine g_aload_n dL_holds_98 rfl ?_
  refine g_iload_n dL_holds_99 rfl ?_
  refine g_V1i dL_holds_100 ml_L_66 sX6_turnsIn rfl (by decide) (Nat.le_of_ble_eq_true rfl) (HT) ?_
  refine g_bipushv (v := (-5)) dL_holds_103 rfl ?_
  refine g_icmp_ne (tgt := 112) dL_holds_105 (by decide) (fun c105 => absurd rfl c105) (fun c105 => ?_)
  refine g_iconstv (v := 1) dL_holds_108 rfl ?_
  refine g_goto (tgt := 113) dL_holds_109 (by decide) ?_
  refine g_icmp_eq (tgt := 118) dL_holds_113 (by decide) (fun c113 => ?_) (fun c113 => absurd rfl c113)
  refine g_iload_n dL_holds_118 rfl ?_
  refine g_iload dL_holds_119 rfl ?_
  refine g_ior dL_holds_121 ?_
  refine g_istore_n dL_holds_122 (by decide) rfl ?_
  refine g_iconstv (v := 0) dL_holds_123 rfl ?_
  refine g_istore dL_holds_124 (by decide) rfl ?_
  exact K
set_option maxHeartbeats 4000000 in
set_option maxRecDepth 100000 in
theorem ho_1c {L d : Nat} {F : Nat → Nat → Int32} {g : Nat → Option Nat} {out : mOut} {x4 x5 x6 x7 x8 : Option Value} {u dd s h p e : Int32} (t : Nat) (ht : t < 3) (H0 : mCall (d + 3) yX6_table MX6_table [.ref 4, .int (nI t), .int 0] (mHX L F g) (some (.int s)) (mHX L F g)) (H1 : mCall (d + 3) yX6_table MX6_table [.ref 4, .int (nI t), .int 1] (mHX L F g) (some (.int h)) (mHX L F g)) (H3 : mCall (d + 3) yX6_table MX6_table [.ref 4, .int (nI t), .int 3] (mHX L F g) (some (.int p)) (mHX L F g)) (H5 : mCall (d + 3) yX6_table MX6_table [.ref 4, .int (nI t), .int 5] (mHX L F g) (some (.int e)) (mHX L F g)) (hd : (u &&& s) = 0) (hs : ¬ s = 0) (hh : ¬ h = (-6)) (hp : 0 ≤ p) (q : Int32) (hq : ¬ q = (-5)) (HT : mCall (d + 3) yX6_turnsIn MX6_turnsIn [.ref 4, .int (nI t)] (mHX L F g) (some (.int q)) (mHX L F g)) (K : mGo ML_holds (d + 4) (126, [some (.ref 4), some (.int (u ||| s)), some (.int (dd + e)), some (.int (nI t)), some (.int s), some (.int h), some (.int p), some (.int (nI 0)), x8], [], mHX L F g) out) : mGo ML_holds (d + 4) (6, [some (.ref 4), some (.int u), some (.int dd), some (.int (nI t)), x4, x5, x6, x7, x8], [], mHX L F g) out := by
  refine g_iload_n dL_holds_6 rfl ?_
  refine g_iconstv (v := 3) dL_holds_7 rfl ?_
  refine g_icmp_ge (tgt := 298) dL_holds_8 (by decide) (fun c8 => absurd c8 (nI_ge (a := t) (b := 3) ht (by decide))) (fun c8 => ?_)
  refine g_aload_n dL_holds_11 rfl ?_
  refine g_iload_n dL_holds_12 rfl ?_
  refine g_iconstv (v := 0) dL_holds_13 rfl ?_
  refine g_V2i dL_holds_14 ml_L_25 sX6_table rfl (by decide) (Nat.le_of_ble_eq_true rfl) (H0) ?_
  refine g_istore dL_holds_17 (by decide) rfl ?_
  refine g_aload_n dL_holds_19 rfl ?_
  refine g_iload_n dL_holds_20 rfl ?_
  refine g_iconstv (v := 1) dL_holds_21 rfl ?_
  refine g_V2i dL_holds_22 ml_L_25 sX6_table rfl (by decide) (Nat.le_of_ble_eq_true rfl) (H1) ?_
  refine g_istore dL_holds_25 (by decide) rfl ?_
  refine g_aload_n dL_holds_27 rfl ?_
  refine g_iload_n dL_holds_28 rfl ?_
  refine g_iconstv (v := 3) dL_holds_29 rfl ?_
  refine g_V2i dL_holds_30 ml_L_25 sX6_table rfl (by decide) (Nat.le_of_ble_eq_true rfl) (H3) ?_
  refine g_istore dL_holds_33 (by decide) rfl ?_
  refine g_iload_n dL_holds_35 rfl ?_
  refine g_aload_n dL_holds_36 rfl ?_
  refine g_iload_n dL_holds_37 rfl ?_
  refine g_iconstv (v := 5) dL_holds_38 rfl ?_
  refine g_V2i dL_holds_39 ml_L_25 sX6_table rfl (by decide) (Nat.le_of_ble_eq_true rfl) (H5) ?_
  refine g_iadd dL_holds_42 ?_
  refine g_istore_n dL_holds_43 (by decide) rfl ?_
  refine g_iload_n dL_holds_44 rfl ?_
  refine g_iload dL_holds_45 rfl ?_
  refine g_iand dL_holds_47 ?_
  refine g_if_ne (tgt := 116) dL_holds_48 (by decide) (fun c48 => absurd hd c48) (fun c48 => ?_)
  refine g_iload dL_holds_51 rfl ?_
  refine g_if_ne (tgt := 60) dL_holds_53 (by decide) (fun c53 => ?_) (fun c53 => absurd c53 hs)
  refine g_iconstv (v := 0) dL_holds_60 rfl ?_
  refine g_iload dL_holds_61 rfl ?_
  refine g_bipushv (v := (-6)) dL_holds_63 rfl ?_
  refine g_icmp_ne (tgt := 72) dL_holds_65 (by decide) (fun c65 => ?_) (fun c65 => absurd c65 hh)
  refine g_iconstv (v := 0) dL_holds_72 rfl ?_
  refine g_icmp_ne (tgt := 116) dL_holds_73 (by decide) (fun c73 => absurd rfl c73) (fun c73 => ?_)
  refine g_iload dL_holds_76 rfl ?_
  refine g_if_ne (tgt := 88) dL_holds_78 (by decide) (fun c78 => ?_) (fun c78 => absurd c78 hs)
  refine g_iload dL_holds_88 rfl ?_
  refine g_if_ge (tgt := 97) dL_holds_90 (by decide) (fun c90 => ?_) (fun c90 => absurd hp c90)
  refine g_iconstv (v := 0) dL_holds_97 rfl ?_
  refine g_aload_n dL_holds_98 rfl ?_
  refine g_iload_n dL_holds_99 rfl ?_
  refine g_V1i dL_holds_100 ml_L_66 sX6_turnsIn rfl (by decide) (Nat.le_of_ble_eq_true rfl) (HT) ?_
  refine g_bipushv (v := (-5)) dL_holds_103 rfl ?_
  refine g_icmp_ne (tgt := 112) dL_holds_105 (by decide) (fun c105 => ?_) (fun c105 => absurd c105 hq)
  refine g_iconstv (v := 0) dL_holds_112 rfl ?_
  refine g_icmp_eq (tgt := 118) dL_holds_113 (by decide) (fun c113 => ?_) (fun c113 => absurd rfl c113)
  refine g_iload_n dL_holds_118 rfl ?_
  refine g_iload dL_holds_119 rfl ?_
  refine g_ior dL_holds_121 ?_
  refine g_istore_n dL_holds_122 (by decide) rfl ?_
  refine g_iconstv (v := 0) dL_holds_123 rfl ?_
  refine g_istore dL_holds_124 (by decide) rfl ?_
  exact K
set_option maxHeartbeats 4000000 in
set_option maxRecDepth 100000 in
theorem ho_2n {L d : Nat} {F : Nat → Nat → Int32} {g : Nat → Option Nat} {out : mOut} {u dd s h p : Int32} {t : Nat} {x8 : Option Value} (k : Nat) (hk : k < 10) (hb : ¬ ((s >>> (nI k &&& 31)) &&& 1) = 1) (K : mGo ML_holds (d + 4) (126, [some (.ref 4), some (.int u), some (.int dd), some (.int (nI t)), some (.int s), some (.int h), some (.int p), some (.int (nI (k + 1))), some (.int 0)], [], mHX L F g) out) : mGo ML_holds (d + 4) (126, [some (.ref 4), some (.int u), some (.int dd), some (.int (nI t)), some (.int s), some (.int h), some (.int p), some (.int (nI k)), x8], [], mHX L F g) out := by
  refine g_iload dL_holds_126 rfl ?_
  refine g_bipushv (v := 10) dL_holds_128 rfl ?_
  refine g_icmp_ge (tgt := 235) dL_holds_130 (by decide) (fun c130 => absurd c130 (nI_ge (a := k) (b := 10) hk (by decide))) (fun c130 => ?_)
  refine g_iload dL_holds_133 rfl ?_
  refine g_iload dL_holds_135 rfl ?_
  refine g_ishr dL_holds_137 ?_
  refine g_iconstv (v := 1) dL_holds_138 rfl ?_
  refine g_iand dL_holds_139 ?_
  refine g_iconstv (v := 1) dL_holds_140 rfl ?_
  refine g_icmp_ne (tgt := 148) dL_holds_141 (by decide) (fun c141 => ?_) (fun c141 => absurd c141 hb)
  refine g_iconstv (v := 0) dL_holds_148 rfl ?_
  refine g_istore dL_holds_149 (by decide) rfl ?_
  refine g_iload dL_holds_151 rfl ?_
  refine g_if_eq (tgt := 229) dL_holds_153 (by decide) (fun c153 => ?_) (fun c153 => absurd (by decide) c153)
  refine g_iincN dL_holds_229 rfl (by decide) rfl ?_
  refine g_goto (tgt := 126) dL_holds_232 (by decide) ?_
  exact K
set_option maxHeartbeats 4000000 in
set_option maxRecDepth 100000 in
theorem ho_2h {L d : Nat} {F : Nat → Nat → Int32} {g : Nat → Option Nat} {out : mOut} {u dd s h p : Int32} {t : Nat} {x8 : Option Value} (k : Nat) (hk : k < 10) (hb : ((s >>> (nI k &&& 31)) &&& 1) = 1) (r1 r2 c ld : Int32) (A0 : mCall (d + 3) yX6_of MX6_of [.ref 4, .int (nI k), .int 0] (mHX L F g) (some (.int (nI t))) (mHX L F g))(A1 : mCall (d + 3) yX6_of MX6_of [.ref 4, .int (nI k), .int 1] (mHX L F g) (some (.int r1)) (mHX L F g))(A2 : mCall (d + 3) yX6_of MX6_of [.ref 4, .int (h), .int 1] (mHX L F g) (some (.int r2)) (mHX L F g)) (hr : ¬ r2 < r1) (hkh : nI k = h)(A4 : mCall (d + 3) yX6_of MX6_of [.ref 4, .int (nI k), .int 4] (mHX L F g) (some (.int 1)) (mHX L F g))(A3 : mCall (d + 3) yX6_of MX6_of [.ref 4, .int (nI k), .int 3] (mHX L F g) (some (.int c)) (mHX L F g)) (hc : ¬ c < 0) (AL : mCall (d + 3) yX6_lender MX6_lender [.ref 4, .int (nI k)] (mHX L F g) (some (.int ld)) (mHX L F g)) (hl : ¬ ld = nI k) (K : mGo ML_holds (d + 4) (126, [some (.ref 4), some (.int u), some (.int dd), some (.int (nI t)), some (.int s), some (.int h), some (.int p), some (.int (nI (k + 1))), some (.int 1)], [], mHX L F g) out) : mGo ML_holds (d + 4) (126, [some (.ref 4), some (.int u), some (.int dd), some (.int (nI t)), some (.int s), some (.int h), some (.int p), some (.int (nI k)), x8], [], mHX L F g) out := by
  refine g_iload dL_holds_126 rfl ?_
  refine g_bipushv (v := 10) dL_holds_128 rfl ?_
  refine g_icmp_ge (tgt := 235) dL_holds_130 (by decide) (fun c130 => absurd c130 (nI_ge (a := k) (b := 10) hk (by decide))) (fun c130 => ?_)
  refine g_iload dL_holds_133 rfl ?_
  refine g_iload dL_holds_135 rfl ?_
  refine g_ishr dL_holds_137 ?_
  refine g_iconstv (v := 1) dL_holds_138 rfl ?_
  refine g_iand dL_holds_139 ?_
  refine g_iconstv (v := 1) dL_holds_140 rfl ?_
  refine g_icmp_ne (tgt := 148) dL_holds_141 (by decide) (fun c141 => absurd hb c141) (fun c141 => ?_)
  refine g_iconstv (v := 1) dL_holds_144 rfl ?_
  refine g_goto (tgt := 149) dL_holds_145 (by decide) ?_
  refine g_istore dL_holds_149 (by decide) rfl ?_
  refine g_iload dL_holds_151 rfl ?_
  refine g_if_eq (tgt := 229) dL_holds_153 (by decide) (fun c153 => absurd c153 (by decide)) (fun c153 => ?_)
  refine g_aload_n dL_holds_156 rfl ?_
  refine g_iload dL_holds_157 rfl ?_
  refine g_iconstv (v := 0) dL_holds_159 rfl ?_
  refine g_V2i dL_holds_160 ml_L_18 sX6_of rfl (by decide) (Nat.le_of_ble_eq_true rfl) (A0) ?_
  refine g_iload_n dL_holds_163 rfl ?_
  refine g_icmp_ne (tgt := 227) dL_holds_164 (by decide) (fun c164 => absurd rfl c164) (fun c164 => ?_)
  refine g_aload_n dL_holds_167 rfl ?_
  refine g_iload dL_holds_168 rfl ?_
  refine g_iconstv (v := 1) dL_holds_170 rfl ?_
  refine g_V2i dL_holds_171 ml_L_18 sX6_of rfl (by decide) (Nat.le_of_ble_eq_true rfl) (A1) ?_
  refine g_aload_n dL_holds_174 rfl ?_
  refine g_iload dL_holds_175 rfl ?_
  refine g_iconstv (v := 1) dL_holds_177 rfl ?_
  refine g_V2i dL_holds_178 ml_L_18 sX6_of rfl (by decide) (Nat.le_of_ble_eq_true rfl) (A2) ?_
  refine g_icmp_gt (tgt := 227) dL_holds_181 (by decide) (fun c181 => absurd c181 hr) (fun c181 => ?_)
  refine g_aload_n dL_holds_184 rfl ?_
  refine g_iload dL_holds_185 rfl ?_
  refine g_iconstv (v := 4) dL_holds_187 rfl ?_
  refine g_V2i dL_holds_188 ml_L_18 sX6_of rfl (by decide) (Nat.le_of_ble_eq_true rfl) (A4) ?_
  refine g_iload dL_holds_191 rfl ?_
  refine g_iload dL_holds_193 rfl ?_
  refine g_icmp_ne (tgt := 202) dL_holds_195 (by decide) (fun c195 => absurd hkh c195) (fun c195 => ?_)
  refine g_iconstv (v := 1) dL_holds_198 rfl ?_
  refine g_goto (tgt := 203) dL_holds_199 (by decide) ?_
  refine g_icmp_ne (tgt := 227) dL_holds_203 (by decide) (fun c203 => absurd rfl c203) (fun c203 => ?_)
  refine g_aload_n dL_holds_206 rfl ?_
  refine g_iload dL_holds_207 rfl ?_
  refine g_iconstv (v := 3) dL_holds_209 rfl ?_
  refine g_V2i dL_holds_210 ml_L_18 sX6_of rfl (by decide) (Nat.le_of_ble_eq_true rfl) (A3) ?_
  refine g_if_lt (tgt := 227) dL_holds_213 (by decide) (fun c213 => absurd c213 hc) (fun c213 => ?_)
  refine g_aload_n dL_holds_216 rfl ?_
  refine g_iload dL_holds_217 rfl ?_
  refine g_V1i dL_holds_219 ml_L_69 sX6_lender rfl (by decide) (Nat.le_of_ble_eq_true rfl) (AL) ?_
  refine g_iload dL_holds_222 rfl ?_
  refine g_icmp_ne (tgt := 229) dL_holds_224 (by decide) (fun c224 => ?_) (fun c224 => absurd c224 hl)
  refine g_iincN dL_holds_229 rfl (by decide) rfl ?_
  refine g_goto (tgt := 126) dL_holds_232 (by decide) ?_
  exact K
set_option maxHeartbeats 4000000 in
set_option maxRecDepth 100000 in
theorem ho_2o {L d : Nat} {F : Nat → Nat → Int32} {g : Nat → Option Nat} {out : mOut} {u dd s h p : Int32} {t : Nat} {x8 : Option Value} (k : Nat) (hk : k < 10) (hb : ((s >>> (nI k &&& 31)) &&& 1) = 1) (r1 r2 c ld : Int32) (A0 : mCall (d + 3) yX6_of MX6_of [.ref 4, .int (nI k), .int 0] (mHX L F g) (some (.int (nI t))) (mHX L F g))(A1 : mCall (d + 3) yX6_of MX6_of [.ref 4, .int (nI k), .int 1] (mHX L F g) (some (.int r1)) (mHX L F g))(A2 : mCall (d + 3) yX6_of MX6_of [.ref 4, .int (h), .int 1] (mHX L F g) (some (.int r2)) (mHX L F g)) (hr : ¬ r2 < r1) (hkh : ¬ nI k = h)(A4 : mCall (d + 3) yX6_of MX6_of [.ref 4, .int (nI k), .int 4] (mHX L F g) (some (.int 0)) (mHX L F g))(A3 : mCall (d + 3) yX6_of MX6_of [.ref 4, .int (nI k), .int 3] (mHX L F g) (some (.int c)) (mHX L F g)) (hc : ¬ c < 0) (AL : mCall (d + 3) yX6_lender MX6_lender [.ref 4, .int (nI k)] (mHX L F g) (some (.int ld)) (mHX L F g)) (hl : ¬ ld = nI k) (K : mGo ML_holds (d + 4) (126, [some (.ref 4), some (.int u), some (.int dd), some (.int (nI t)), some (.int s), some (.int h), some (.int p), some (.int (nI (k + 1))), some (.int 1)], [], mHX L F g) out) : mGo ML_holds (d + 4) (126, [some (.ref 4), some (.int u), some (.int dd), some (.int (nI t)), some (.int s), some (.int h), some (.int p), some (.int (nI k)), x8], [], mHX L F g) out := by
  refine g_iload dL_holds_126 rfl ?_
  refine g_bipushv (v := 10) dL_holds_128 rfl ?_
  refine g_icmp_ge (tgt := 235) dL_holds_130 (by decide) (fun c130 => absurd c130 (nI_ge (a := k) (b := 10) hk (by decide))) (fun c130 => ?_)
  refine g_iload dL_holds_133 rfl ?_
  refine g_iload dL_holds_135 rfl ?_
  refine g_ishr dL_holds_137 ?_
  refine g_iconstv (v := 1) dL_holds_138 rfl ?_
  refine g_iand dL_holds_139 ?_
  refine g_iconstv (v := 1) dL_holds_140 rfl ?_
  refine g_icmp_ne (tgt := 148) dL_holds_141 (by decide) (fun c141 => absurd hb c141) (fun c141 => ?_)
  refine g_iconstv (v := 1) dL_holds_144 rfl ?_
  refine g_goto (tgt := 149) dL_holds_145 (by decide) ?_
  refine g_istore dL_holds_149 (by decide) rfl ?_
  refine g_iload dL_holds_151 rfl ?_
  refine g_if_eq (tgt := 229) dL_holds_153 (by decide) (fun c153 => absurd c153 (by decide)) (fun c153 => ?_)
  refine g_aload_n dL_holds_156 rfl ?_
  refine g_iload dL_holds_157 rfl ?_
  refine g_iconstv (v := 0) dL_holds_159 rfl ?_
  refine g_V2i dL_holds_160 ml_L_18 sX6_of rfl (by decide) (Nat.le_of_ble_eq_true rfl) (A0) ?_
  refine g_iload_n dL_holds_163 rfl ?_
  refine g_icmp_ne (tgt := 227) dL_holds_164 (by decide) (fun c164 => absurd rfl c164) (fun c164 => ?_)
  refine g_aload_n dL_holds_167 rfl ?_
  refine g_iload dL_holds_168 rfl ?_
  refine g_iconstv (v := 1) dL_holds_170 rfl ?_
  refine g_V2i dL_holds_171 ml_L_18 sX6_of rfl (by decide) (Nat.le_of_ble_eq_true rfl) (A1) ?_
  refine g_aload_n dL_holds_174 rfl ?_
  refine g_iload dL_holds_175 rfl ?_
  refine g_iconstv (v := 1) dL_holds_177 rfl ?_
  refine g_V2i dL_holds_178 ml_L_18 sX6_of rfl (by decide) (Nat.le_of_ble_eq_true rfl) (A2) ?_
  refine g_icmp_gt (tgt := 227) dL_holds_181 (by decide) (fun c181 => absurd c181 hr) (fun c181 => ?_)
  refine g_aload_n dL_holds_184 rfl ?_
  refine g_iload dL_holds_185 rfl ?_
  refine g_iconstv (v := 4) dL_holds_187 rfl ?_
  refine g_V2i dL_holds_188 ml_L_18 sX6_of rfl (by decide) (Nat.le_of_ble_eq_true rfl) (A4) ?_
  refine g_iload dL_holds_191 rfl ?_
  refine g_iload dL_holds_193 rfl ?_
  refine g_icmp_ne (tgt := 202) dL_holds_195 (by decide) (fun c195 => ?_) (fun c195 => absurd c195 hkh)
  refine g_iconstv (v := 0) dL_holds_202 rfl ?_
  refine g_icmp_ne (tgt := 227) dL_holds_203 (by decide) (fun c203 => absurd rfl c203) (fun c203 => ?_)
  refine g_aload_n dL_holds_206 rfl ?_
  refine g_iload dL_holds_207 rfl ?_
  refine g_iconstv (v := 3) dL_holds_209 rfl ?_
  refine g_V2i dL_holds_210 ml_L_18 sX6_of rfl (by decide) (Nat.le_of_ble_eq_true rfl) (A3) ?_
  refine g_if_lt (tgt := 227) dL_holds_213 (by decide) (fun c213 => absurd c213 hc) (fun c213 => ?_)
  refine g_aload_n dL_holds_216 rfl ?_
  refine g_iload dL_holds_217 rfl ?_
  refine g_V1i dL_holds_219 ml_L_69 sX6_lender rfl (by decide) (Nat.le_of_ble_eq_true rfl) (AL) ?_
  refine g_iload dL_holds_222 rfl ?_
  refine g_icmp_ne (tgt := 229) dL_holds_224 (by decide) (fun c224 => ?_) (fun c224 => absurd c224 hl)
  refine g_iincN dL_holds_229 rfl (by decide) rfl ?_
  refine g_goto (tgt := 126) dL_holds_232 (by decide) ?_
  exact K
set_option maxHeartbeats 4000000 in
set_option maxRecDepth 100000 in
theorem ho_3a {L d : Nat} {F : Nat → Nat → Int32} {g : Nat → Option Nat} {out : mOut} {u dd s h p : Int32} {x8 : Option Value} (t : Nat) (hp : p < 0) (K : mGo ML_holds (d + 4) (6, [some (.ref 4), some (.int u), some (.int dd), some (.int (nI (t + 1))), some (.int s), some (.int h), some (.int p), some (.int (nI 10)), x8], [], mHX L F g) out) : mGo ML_holds (d + 4) (126, [some (.ref 4), some (.int u), some (.int dd), some (.int (nI t)), some (.int s), some (.int h), some (.int p), some (.int (nI 10)), x8], [], mHX L F g) out := by
  refine g_iload dL_holds_126 rfl ?_
  refine g_bipushv (v := 10) dL_holds_128 rfl ?_
  refine g_icmp_ge (tgt := 235) dL_holds_130 (by decide) (fun c130 => ?_) (fun c130 => absurd (nI_le (a := 10) (b := 10) (by decide) (by decide)) c130)
  refine g_iload dL_holds_235 rfl ?_
  refine g_if_lt (tgt := 292) dL_holds_237 (by decide) (fun c237 => ?_) (fun c237 => absurd hp c237)
  refine g_iincN dL_holds_292 rfl (by decide) rfl ?_
  refine g_goto (tgt := 6) dL_holds_295 (by decide) ?_
  exact K
set_option maxHeartbeats 4000000 in
set_option maxRecDepth 100000 in
theorem ho_3b {L d : Nat} {F : Nat → Nat → Int32} {g : Nat → Option Nat} {out : mOut} {u dd s h p : Int32} {x8 : Option Value} (t : Nat) {a c9 : Int32} (hp : ¬ p < 0) (M4 : mCall (d + 3) yX6_table MX6_table [.ref 4, .int (nI t), .int 4] (mHX L F g) (some (.int a)) (mHX L F g)) (hq : p ≤ 999) (MW : mCall (d + 3) yX6_wouldMean MX6_wouldMean [.ref 4, .int (nI t), .int p] (mHX L F g) (some (.int a)) (mHX L F g))(C9 : mCall (d + 3) yX6_count MX6_count [.ref 4, .int 9] (mHX L F g) (some (.int c9)) (mHX L F g)) (h9 : c9 ≤ p) (K : mGo ML_holds (d + 4) (6, [some (.ref 4), some (.int u), some (.int dd), some (.int (nI (t + 1))), some (.int s), some (.int h), some (.int p), some (.int (nI 10)), x8], [], mHX L F g) out) : mGo ML_holds (d + 4) (126, [some (.ref 4), some (.int u), some (.int dd), some (.int (nI t)), some (.int s), some (.int h), some (.int p), some (.int (nI 10)), x8], [], mHX L F g) out := by
  refine g_iload dL_holds_126 rfl ?_
  refine g_bipushv (v := 10) dL_holds_128 rfl ?_
  refine g_icmp_ge (tgt := 235) dL_holds_130 (by decide) (fun c130 => ?_) (fun c130 => absurd (nI_le (a := 10) (b := 10) (by decide) (by decide)) c130)
  refine g_iload dL_holds_235 rfl ?_
  refine g_if_lt (tgt := 292) dL_holds_237 (by decide) (fun c237 => absurd c237 hp) (fun c237 => ?_)
  refine g_aload_n dL_holds_240 rfl ?_
  refine g_iload_n dL_holds_241 rfl ?_
  refine g_iconstv (v := 4) dL_holds_242 rfl ?_
  refine g_V2i dL_holds_243 ml_L_25 sX6_table rfl (by decide) (Nat.le_of_ble_eq_true rfl) (M4) ?_
  refine g_aload_n dL_holds_246 rfl ?_
  refine g_iload_n dL_holds_247 rfl ?_
  refine g_iload dL_holds_248 rfl ?_
  refine g_sipushv (v := 999) dL_holds_250 rfl ?_
  refine g_icmp_le (tgt := 262) dL_holds_253 (by decide) (fun c253 => ?_) (fun c253 => absurd hq c253)
  refine g_iload dL_holds_262 rfl ?_
  refine g_V2i dL_holds_264 ml_L_72 sX6_wouldMean rfl (by decide) (Nat.le_of_ble_eq_true rfl) (MW) ?_
  refine g_icmp_ne (tgt := 290) dL_holds_267 (by decide) (fun c267 => absurd rfl c267) (fun c267 => ?_)
  refine g_iload dL_holds_270 rfl ?_
  refine g_aload_n dL_holds_272 rfl ?_
  refine g_bipushv (v := 9) dL_holds_273 rfl ?_
  refine g_V1i dL_holds_275 ml_L_12 sX6_count rfl (by decide) (Nat.le_of_ble_eq_true rfl) (C9) ?_
  refine g_icmp_ge (tgt := 292) dL_holds_278 (by decide) (fun c278 => ?_) (fun c278 => absurd h9 c278)
  refine g_iincN dL_holds_292 rfl (by decide) rfl ?_
  refine g_goto (tgt := 6) dL_holds_295 (by decide) ?_
  exact K
set_option maxHeartbeats 4000000 in
set_option maxRecDepth 100000 in
theorem ho_3c {L d : Nat} {F : Nat → Nat → Int32} {g : Nat → Option Nat} {out : mOut} {u dd s h p : Int32} {x8 : Option Value} (t : Nat) {a c9 : Int32} (hp : ¬ p < 0) (M4 : mCall (d + 3) yX6_table MX6_table [.ref 4, .int (nI t), .int 4] (mHX L F g) (some (.int a)) (mHX L F g)) (hq : p ≤ 999) (MW : mCall (d + 3) yX6_wouldMean MX6_wouldMean [.ref 4, .int (nI t), .int p] (mHX L F g) (some (.int a)) (mHX L F g))(C9 : mCall (d + 3) yX6_count MX6_count [.ref 4, .int 9] (mHX L F g) (some (.int c9)) (mHX L F g)) (h9 : ¬ c9 ≤ p) (ha : a = 0) (K : mGo ML_holds (d + 4) (6, [some (.ref 4), some (.int u), some (.int dd), some (.int (nI (t + 1))), some (.int s), some (.int h), some (.int p), some (.int (nI 10)), x8], [], mHX L F g) out) : mGo ML_holds (d + 4) (126, [some (.ref 4), some (.int u), some (.int dd), some (.int (nI t)), some (.int s), some (.int h), some (.int p), some (.int (nI 10)), x8], [], mHX L F g) out := by
  refine g_iload dL_holds_126 rfl ?_
  refine g_bipushv (v := 10) dL_holds_128 rfl ?_
  refine g_icmp_ge (tgt := 235) dL_holds_130 (by decide) (fun c130 => ?_) (fun c130 => absurd (nI_le (a := 10) (b := 10) (by decide) (by decide)) c130)
  refine g_iload dL_holds_235 rfl ?_
  refine g_if_lt (tgt := 292) dL_holds_237 (by decide) (fun c237 => absurd c237 hp) (fun c237 => ?_)
  refine g_aload_n dL_holds_240 rfl ?_
  refine g_iload_n dL_holds_241 rfl ?_
  refine g_iconstv (v := 4) dL_holds_242 rfl ?_
  refine g_V2i dL_holds_243 ml_L_25 sX6_table rfl (by decide) (Nat.le_of_ble_eq_true rfl) (M4) ?_
  refine g_aload_n dL_holds_246 rfl ?_
  refine g_iload_n dL_holds_247 rfl ?_
  refine g_iload dL_holds_248 rfl ?_
  refine g_sipushv (v := 999) dL_holds_250 rfl ?_
  refine g_icmp_le (tgt := 262) dL_holds_253 (by decide) (fun c253 => ?_) (fun c253 => absurd hq c253)
  refine g_iload dL_holds_262 rfl ?_
  refine g_V2i dL_holds_264 ml_L_72 sX6_wouldMean rfl (by decide) (Nat.le_of_ble_eq_true rfl) (MW) ?_
  refine g_icmp_ne (tgt := 290) dL_holds_267 (by decide) (fun c267 => absurd rfl c267) (fun c267 => ?_)
  refine g_iload dL_holds_270 rfl ?_
  refine g_aload_n dL_holds_272 rfl ?_
  refine g_bipushv (v := 9) dL_holds_273 rfl ?_
  refine g_V1i dL_holds_275 ml_L_12 sX6_count rfl (by decide) (Nat.le_of_ble_eq_true rfl) (C9) ?_
  refine g_icmp_ge (tgt := 292) dL_holds_278 (by decide) (fun c278 => absurd c278 h9) (fun c278 => ?_)
  refine g_aload_n dL_holds_281 rfl ?_
  refine g_iload_n dL_holds_282 rfl ?_
  refine g_iconstv (v := 4) dL_holds_283 rfl ?_
  refine g_V2i dL_holds_284 ml_L_25 sX6_table rfl (by decide) (Nat.le_of_ble_eq_true rfl) (M4) ?_
  refine g_if_eq (tgt := 292) dL_holds_287 (by decide) (fun c287 => ?_) (fun c287 => absurd ha c287)
  refine g_iincN dL_holds_292 rfl (by decide) rfl ?_
  refine g_goto (tgt := 6) dL_holds_295 (by decide) ?_
  exact K
set_option maxHeartbeats 4000000 in
set_option maxRecDepth 100000 in
theorem ho_3d {L d : Nat} {F : Nat → Nat → Int32} {g : Nat → Option Nat} {out : mOut} {u dd s h p : Int32} {x8 : Option Value} (t : Nat) {a c9 : Int32} (hp : ¬ p < 0) (M4 : mCall (d + 3) yX6_table MX6_table [.ref 4, .int (nI t), .int 4] (mHX L F g) (some (.int a)) (mHX L F g)) (hq : ¬ p ≤ 999) (MW : mCall (d + 3) yX6_wouldMean MX6_wouldMean [.ref 4, .int (nI t), .int 999] (mHX L F g) (some (.int a)) (mHX L F g))(C9 : mCall (d + 3) yX6_count MX6_count [.ref 4, .int 9] (mHX L F g) (some (.int c9)) (mHX L F g)) (h9 : c9 ≤ p) (K : mGo ML_holds (d + 4) (6, [some (.ref 4), some (.int u), some (.int dd), some (.int (nI (t + 1))), some (.int s), some (.int h), some (.int p), some (.int (nI 10)), x8], [], mHX L F g) out) : mGo ML_holds (d + 4) (126, [some (.ref 4), some (.int u), some (.int dd), some (.int (nI t)), some (.int s), some (.int h), some (.int p), some (.int (nI 10)), x8], [], mHX L F g) out := by
  refine g_iload dL_holds_126 rfl ?_
  refine g_bipushv (v := 10) dL_holds_128 rfl ?_
  refine g_icmp_ge (tgt := 235) dL_holds_130 (by decide) (fun c130 => ?_) (fun c130 => absurd (nI_le (a := 10) (b := 10) (by decide) (by decide)) c130)
  refine g_iload dL_holds_235 rfl ?_
  refine g_if_lt (tgt := 292) dL_holds_237 (by decide) (fun c237 => absurd c237 hp) (fun c237 => ?_)
  refine g_aload_n dL_holds_240 rfl ?_
  refine g_iload_n dL_holds_241 rfl ?_
  refine g_iconstv (v := 4) dL_holds_242 rfl ?_
  refine g_V2i dL_holds_243 ml_L_25 sX6_table rfl (by decide) (Nat.le_of_ble_eq_true rfl) (M4) ?_
  refine g_aload_n dL_holds_246 rfl ?_
  refine g_iload_n dL_holds_247 rfl ?_
  refine g_iload dL_holds_248 rfl ?_
  refine g_sipushv (v := 999) dL_holds_250 rfl ?_
  refine g_icmp_le (tgt := 262) dL_holds_253 (by decide) (fun c253 => absurd c253 hq) (fun c253 => ?_)
  refine g_sipushv (v := 999) dL_holds_256 rfl ?_
  refine g_goto (tgt := 264) dL_holds_259 (by decide) ?_
  refine g_V2i dL_holds_264 ml_L_72 sX6_wouldMean rfl (by decide) (Nat.le_of_ble_eq_true rfl) (MW) ?_
  refine g_icmp_ne (tgt := 290) dL_holds_267 (by decide) (fun c267 => absurd rfl c267) (fun c267 => ?_)
  refine g_iload dL_holds_270 rfl ?_
  refine g_aload_n dL_holds_272 rfl ?_
  refine g_bipushv (v := 9) dL_holds_273 rfl ?_
  refine g_V1i dL_holds_275 ml_L_12 sX6_count rfl (by decide) (Nat.le_of_ble_eq_true rfl) (C9) ?_
  refine g_icmp_ge (tgt := 292) dL_holds_278 (by decide) (fun c278 => ?_) (fun c278 => absurd h9 c278)
  refine g_iincN dL_holds_292 rfl (by decide) rfl ?_
  refine g_goto (tgt := 6) dL_holds_295 (by decide) ?_
  exact K
set_option maxHeartbeats 4000000 in
set_option maxRecDepth 100000 in
theorem ho_4 {L d : Nat} {F : Nat → Nat → Int32} {g : Nat → Option Nat} {out : mOut} {x4 x5 x6 x7 x8 : Option Value} {u dd : Int32} (K : mGo ML_holds (d + 4) (303, [some (.ref 4), some (.int u), some (.int dd), some (.int 0), some (.int (nI 1)), x5, x6, x7, x8], [], mHX L F g) out) : mGo ML_holds (d + 4) (6, [some (.ref 4), some (.int u), some (.int dd), some (.int (nI 3)), x4, x5, x6, x7, x8], [], mHX L F g) out := by
  refine g_iload_n dL_holds_6 rfl ?_
  refine g_iconstv (v := 3) dL_holds_7 rfl ?_
  refine g_icmp_ge (tgt := 298) dL_holds_8 (by decide) (fun c8 => ?_) (fun c8 => absurd (nI_le (a := 3) (b := 3) (by decide) (by decide)) c8)
  refine g_iconstv (v := 0) dL_holds_298 rfl ?_
  refine g_istore_n dL_holds_299 (by decide) rfl ?_
  refine g_iconstv (v := 1) dL_holds_300 rfl ?_
  refine g_istore dL_holds_301 (by decide) rfl ?_
  exact K
set_option maxHeartbeats 4000000 in
set_option maxRecDepth 100000 in
theorem ho_5a {L d : Nat} {F : Nat → Nat → Int32} {g : Nat → Option Nat} {out : mOut} {x5 x6 x7 x8 : Option Value} {u dd mt o l c : Int32} (m : Nat) (hm : m < 12) (M0 : mCall (d + 3) yX6_meaning MX6_meaning [.ref 4, .int (nI m), .int 0] (mHX L F g) (some (.int o)) (mHX L F g))(M1 : mCall (d + 3) yX6_meaning MX6_meaning [.ref 4, .int (nI m), .int 1] (mHX L F g) (some (.int l)) (mHX L F g))(C3 : mCall (d + 3) yX6_count MX6_count [.ref 4, .int 3] (mHX L F g) (some (.int c)) (mHX L F g)) (ho : ¬ o ≤ 0) (hl : ¬ l ≤ 0) (hoc : o ≤ c) (K : mGo ML_holds (d + 4) (303, [some (.ref 4), some (.int u), some (.int dd), some (.int (mt ||| ((1 : Int32) <<< (nI m &&& 31)))), some (.int (nI (m + 1))), x5, x6, x7, x8], [], mHX L F g) out) : mGo ML_holds (d + 4) (303, [some (.ref 4), some (.int u), some (.int dd), some (.int mt), some (.int (nI m)), x5, x6, x7, x8], [], mHX L F g) out := by
  refine g_iload dL_holds_303 rfl ?_
  refine g_bipushv (v := 12) dL_holds_305 rfl ?_
  refine g_icmp_ge (tgt := 387) dL_holds_307 (by decide) (fun c307 => absurd c307 (nI_ge (a := m) (b := 12) hm (by decide))) (fun c307 => ?_)
  refine g_iload_n dL_holds_310 rfl ?_
  refine g_aload_n dL_holds_311 rfl ?_
  refine g_iload dL_holds_312 rfl ?_
  refine g_iconstv (v := 0) dL_holds_314 rfl ?_
  refine g_V2i dL_holds_315 ml_L_28 sX6_meaning rfl (by decide) (Nat.le_of_ble_eq_true rfl) (M0) ?_
  refine g_if_le (tgt := 328) dL_holds_318 (by decide) (fun c318 => absurd c318 ho) (fun c318 => ?_)
  refine g_iconstv (v := 1) dL_holds_321 rfl ?_
  refine g_iload dL_holds_322 rfl ?_
  refine g_ishl dL_holds_324 ?_
  refine g_goto (tgt := 329) dL_holds_325 (by decide) ?_
  refine g_ior dL_holds_329 ?_
  refine g_istore_n dL_holds_330 (by decide) rfl ?_
  refine g_aload_n dL_holds_331 rfl ?_
  refine g_iload dL_holds_332 rfl ?_
  refine g_iconstv (v := 0) dL_holds_334 rfl ?_
  refine g_V2i dL_holds_335 ml_L_28 sX6_meaning rfl (by decide) (Nat.le_of_ble_eq_true rfl) (M0) ?_
  refine g_if_le (tgt := 345) dL_holds_338 (by decide) (fun c338 => absurd c338 ho) (fun c338 => ?_)
  refine g_iconstv (v := 1) dL_holds_341 rfl ?_
  refine g_goto (tgt := 346) dL_holds_342 (by decide) ?_
  refine g_aload_n dL_holds_346 rfl ?_
  refine g_iload dL_holds_347 rfl ?_
  refine g_iconstv (v := 1) dL_holds_349 rfl ?_
  refine g_V2i dL_holds_350 ml_L_28 sX6_meaning rfl (by decide) (Nat.le_of_ble_eq_true rfl) (M1) ?_
  refine g_if_le (tgt := 360) dL_holds_353 (by decide) (fun c353 => absurd c353 hl) (fun c353 => ?_)
  refine g_iconstv (v := 1) dL_holds_356 rfl ?_
  refine g_goto (tgt := 361) dL_holds_357 (by decide) ?_
  refine g_icmp_ne (tgt := 379) dL_holds_361 (by decide) (fun c361 => absurd rfl c361) (fun c361 => ?_)
  refine g_aload_n dL_holds_364 rfl ?_
  refine g_iload dL_holds_365 rfl ?_
  refine g_iconstv (v := 0) dL_holds_367 rfl ?_
  refine g_V2i dL_holds_368 ml_L_28 sX6_meaning rfl (by decide) (Nat.le_of_ble_eq_true rfl) (M0) ?_
  refine g_aload_n dL_holds_371 rfl ?_
  refine g_iconstv (v := 3) dL_holds_372 rfl ?_
  refine g_V1i dL_holds_373 ml_L_12 sX6_count rfl (by decide) (Nat.le_of_ble_eq_true rfl) (C3) ?_
  refine g_icmp_le (tgt := 381) dL_holds_376 (by decide) (fun c376 => ?_) (fun c376 => absurd hoc c376)
  refine g_iincN dL_holds_381 rfl (by decide) rfl ?_
  refine g_goto (tgt := 303) dL_holds_384 (by decide) ?_
  exact K
set_option maxHeartbeats 4000000 in
set_option maxRecDepth 100000 in
theorem ho_5b {L d : Nat} {F : Nat → Nat → Int32} {g : Nat → Option Nat} {out : mOut} {x5 x6 x7 x8 : Option Value} {u dd mt o l c : Int32} (m : Nat) (hm : m < 12) (M0 : mCall (d + 3) yX6_meaning MX6_meaning [.ref 4, .int (nI m), .int 0] (mHX L F g) (some (.int o)) (mHX L F g))(M1 : mCall (d + 3) yX6_meaning MX6_meaning [.ref 4, .int (nI m), .int 1] (mHX L F g) (some (.int l)) (mHX L F g))(C3 : mCall (d + 3) yX6_count MX6_count [.ref 4, .int 3] (mHX L F g) (some (.int c)) (mHX L F g)) (ho : o ≤ 0) (hl : l ≤ 0) (hoc : o ≤ c) (K : mGo ML_holds (d + 4) (303, [some (.ref 4), some (.int u), some (.int dd), some (.int (mt ||| 0)), some (.int (nI (m + 1))), x5, x6, x7, x8], [], mHX L F g) out) : mGo ML_holds (d + 4) (303, [some (.ref 4), some (.int u), some (.int dd), some (.int mt), some (.int (nI m)), x5, x6, x7, x8], [], mHX L F g) out := by
  refine g_iload dL_holds_303 rfl ?_
  refine g_bipushv (v := 12) dL_holds_305 rfl ?_
  refine g_icmp_ge (tgt := 387) dL_holds_307 (by decide) (fun c307 => absurd c307 (nI_ge (a := m) (b := 12) hm (by decide))) (fun c307 => ?_)
  refine g_iload_n dL_holds_310 rfl ?_
  refine g_aload_n dL_holds_311 rfl ?_
  refine g_iload dL_holds_312 rfl ?_
  refine g_iconstv (v := 0) dL_holds_314 rfl ?_
  refine g_V2i dL_holds_315 ml_L_28 sX6_meaning rfl (by decide) (Nat.le_of_ble_eq_true rfl) (M0) ?_
  refine g_if_le (tgt := 328) dL_holds_318 (by decide) (fun c318 => ?_) (fun c318 => absurd ho c318)
  refine g_iconstv (v := 0) dL_holds_328 rfl ?_
  refine g_ior dL_holds_329 ?_
  refine g_istore_n dL_holds_330 (by decide) rfl ?_
  refine g_aload_n dL_holds_331 rfl ?_
  refine g_iload dL_holds_332 rfl ?_
  refine g_iconstv (v := 0) dL_holds_334 rfl ?_
  refine g_V2i dL_holds_335 ml_L_28 sX6_meaning rfl (by decide) (Nat.le_of_ble_eq_true rfl) (M0) ?_
  refine g_if_le (tgt := 345) dL_holds_338 (by decide) (fun c338 => ?_) (fun c338 => absurd ho c338)
  refine g_iconstv (v := 0) dL_holds_345 rfl ?_
  refine g_aload_n dL_holds_346 rfl ?_
  refine g_iload dL_holds_347 rfl ?_
  refine g_iconstv (v := 1) dL_holds_349 rfl ?_
  refine g_V2i dL_holds_350 ml_L_28 sX6_meaning rfl (by decide) (Nat.le_of_ble_eq_true rfl) (M1) ?_
  refine g_if_le (tgt := 360) dL_holds_353 (by decide) (fun c353 => ?_) (fun c353 => absurd hl c353)
  refine g_iconstv (v := 0) dL_holds_360 rfl ?_
  refine g_icmp_ne (tgt := 379) dL_holds_361 (by decide) (fun c361 => absurd rfl c361) (fun c361 => ?_)
  refine g_aload_n dL_holds_364 rfl ?_
  refine g_iload dL_holds_365 rfl ?_
  refine g_iconstv (v := 0) dL_holds_367 rfl ?_
  refine g_V2i dL_holds_368 ml_L_28 sX6_meaning rfl (by decide) (Nat.le_of_ble_eq_true rfl) (M0) ?_
  refine g_aload_n dL_holds_371 rfl ?_
  refine g_iconstv (v := 3) dL_holds_372 rfl ?_
  refine g_V1i dL_holds_373 ml_L_12 sX6_count rfl (by decide) (Nat.le_of_ble_eq_true rfl) (C3) ?_
  refine g_icmp_le (tgt := 381) dL_holds_376 (by decide) (fun c376 => ?_) (fun c376 => absurd hoc c376)
  refine g_iincN dL_holds_381 rfl (by decide) rfl ?_
  refine g_goto (tgt := 303) dL_holds_384 (by decide) ?_
  exact K
set_option maxHeartbeats 4000000 in
set_option maxRecDepth 100000 in
theorem ho_6a {L d : Nat} {F : Nat → Nat → Int32} {g : Nat → Option Nat} {x5 x6 x7 x8 : Option Value} {u dd mt us c3 c4 c5 : Int32} (HU : mCall (d + 3) yX6_usual MX6_usual [.ref 4] (mHX L F g) (some (.int us)) (mHX L F g))(C1 : mCall (d + 3) yX6_count MX6_count [.ref 4, .int 1] (mHX L F g) (some (.int u)) (mHX L F g))(C7 : mCall (d + 3) yX6_count MX6_count [.ref 4, .int 7] (mHX L F g) (some (.int mt)) (mHX L F g))(C3 : mCall (d + 3) yX6_count MX6_count [.ref 4, .int 3] (mHX L F g) (some (.int c3)) (mHX L F g))(C4 : mCall (d + 3) yX6_count MX6_count [.ref 4, .int 4] (mHX L F g) (some (.int c4)) (mHX L F g))(C5 : mCall (d + 3) yX6_count MX6_count [.ref 4, .int 5] (mHX L F g) (some (.int c5)) (mHX L F g)) (hs : dd = c3 + c4 + c5) (hu : us = (-6)) (hm : mt = 0) : mGo ML_holds (d + 4) (303, [some (.ref 4), some (.int u), some (.int dd), some (.int mt), some (.int (nI 12)), x5, x6, x7, x8], [], mHX L F g) (some (.int 1), mHX L F g) := by
  refine g_iload dL_holds_303 rfl ?_
  refine g_bipushv (v := 12) dL_holds_305 rfl ?_
  refine g_icmp_ge (tgt := 387) dL_holds_307 (by decide) (fun c307 => ?_) (fun c307 => absurd (nI_le (a := 12) (b := 12) (by decide) (by decide)) c307)
  refine g_aload_n dL_holds_387 rfl ?_
  refine g_V0i dL_holds_388 ml_L_75 sX6_usual rfl (by decide) (Nat.le_of_ble_eq_true rfl) (HU) ?_
  refine g_istore dL_holds_391 (by decide) rfl ?_
  refine g_iload dL_holds_393 rfl ?_
  refine g_bipushv (v := (-6)) dL_holds_395 rfl ?_
  refine g_icmp_ne (tgt := 412) dL_holds_397 (by decide) (fun c397 => absurd hu c397) (fun c397 => ?_)
  refine g_iload_n dL_holds_400 rfl ?_
  refine g_if_ne (tgt := 408) dL_holds_401 (by decide) (fun c401 => absurd hm c401) (fun c401 => ?_)
  refine g_iconstv (v := 1) dL_holds_404 rfl ?_
  refine g_goto (tgt := 427) dL_holds_405 (by decide) ?_
  refine g_istore dL_holds_427 (by decide) rfl ?_
  refine g_iload dL_holds_429 rfl ?_
  refine g_if_eq (tgt := 478) dL_holds_431 (by decide) (fun c431 => absurd c431 (by decide)) (fun c431 => ?_)
  refine g_iload_n dL_holds_434 rfl ?_
  refine g_aload_n dL_holds_435 rfl ?_
  refine g_iconstv (v := 1) dL_holds_436 rfl ?_
  refine g_V1i dL_holds_437 ml_L_12 sX6_count rfl (by decide) (Nat.le_of_ble_eq_true rfl) (C1) ?_
  refine g_icmp_ne (tgt := 478) dL_holds_440 (by decide) (fun c440 => absurd rfl c440) (fun c440 => ?_)
  refine g_iload_n dL_holds_443 rfl ?_
  refine g_aload_n dL_holds_444 rfl ?_
  refine g_bipushv (v := 7) dL_holds_445 rfl ?_
  refine g_V1i dL_holds_447 ml_L_12 sX6_count rfl (by decide) (Nat.le_of_ble_eq_true rfl) (C7) ?_
  refine g_icmp_ne (tgt := 478) dL_holds_450 (by decide) (fun c450 => absurd rfl c450) (fun c450 => ?_)
  refine g_iload_n dL_holds_453 rfl ?_
  refine g_aload_n dL_holds_454 rfl ?_
  refine g_iconstv (v := 3) dL_holds_455 rfl ?_
  refine g_V1i dL_holds_456 ml_L_12 sX6_count rfl (by decide) (Nat.le_of_ble_eq_true rfl) (C3) ?_
  refine g_aload_n dL_holds_459 rfl ?_
  refine g_iconstv (v := 4) dL_holds_460 rfl ?_
  refine g_V1i dL_holds_461 ml_L_12 sX6_count rfl (by decide) (Nat.le_of_ble_eq_true rfl) (C4) ?_
  refine g_iadd dL_holds_464 ?_
  refine g_aload_n dL_holds_465 rfl ?_
  refine g_iconstv (v := 5) dL_holds_466 rfl ?_
  refine g_V1i dL_holds_467 ml_L_12 sX6_count rfl (by decide) (Nat.le_of_ble_eq_true rfl) (C5) ?_
  refine g_iadd dL_holds_470 ?_
  refine g_icmp_ne (tgt := 478) dL_holds_471 (by decide) (fun c471 => absurd hs c471) (fun c471 => ?_)
  refine g_iconstv (v := 1) dL_holds_474 rfl ?_
  refine g_goto (tgt := 479) dL_holds_475 (by decide) ?_
  exact g_iret dL_holds_479 rfl
set_option maxHeartbeats 4000000 in
set_option maxRecDepth 100000 in
theorem ho_6b {L d : Nat} {F : Nat → Nat → Int32} {g : Nat → Option Nat} {x5 x6 x7 x8 : Option Value} {u dd mt us c3 c4 c5 : Int32} (HU : mCall (d + 3) yX6_usual MX6_usual [.ref 4] (mHX L F g) (some (.int us)) (mHX L F g))(C1 : mCall (d + 3) yX6_count MX6_count [.ref 4, .int 1] (mHX L F g) (some (.int u)) (mHX L F g))(C7 : mCall (d + 3) yX6_count MX6_count [.ref 4, .int 7] (mHX L F g) (some (.int mt)) (mHX L F g))(C3 : mCall (d + 3) yX6_count MX6_count [.ref 4, .int 3] (mHX L F g) (some (.int c3)) (mHX L F g))(C4 : mCall (d + 3) yX6_count MX6_count [.ref 4, .int 4] (mHX L F g) (some (.int c4)) (mHX L F g))(C5 : mCall (d + 3) yX6_count MX6_count [.ref 4, .int 5] (mHX L F g) (some (.int c5)) (mHX L F g)) (hs : dd = c3 + c4 + c5) (hu : ¬ us = (-6)) (hm : ((mt >>> (us &&& 31)) &&& 1) = 1) : mGo ML_holds (d + 4) (303, [some (.ref 4), some (.int u), some (.int dd), some (.int mt), some (.int (nI 12)), x5, x6, x7, x8], [], mHX L F g) (some (.int 1), mHX L F g) := by
  refine g_iload dL_holds_303 rfl ?_
  refine g_bipushv (v := 12) dL_holds_305 rfl ?_
  refine g_icmp_ge (tgt := 387) dL_holds_307 (by decide) (fun c307 => ?_) (fun c307 => absurd (nI_le (a := 12) (b := 12) (by decide) (by decide)) c307)
  refine g_aload_n dL_holds_387 rfl ?_
  refine g_V0i dL_holds_388 ml_L_75 sX6_usual rfl (by decide) (Nat.le_of_ble_eq_true rfl) (HU) ?_
  refine g_istore dL_holds_391 (by decide) rfl ?_
  refine g_iload dL_holds_393 rfl ?_
  refine g_bipushv (v := (-6)) dL_holds_395 rfl ?_
  refine g_icmp_ne (tgt := 412) dL_holds_397 (by decide) (fun c397 => ?_) (fun c397 => absurd c397 hu)
  refine g_iload_n dL_holds_412 rfl ?_
  refine g_iload dL_holds_413 rfl ?_
  refine g_ishr dL_holds_415 ?_
  refine g_iconstv (v := 1) dL_holds_416 rfl ?_
  refine g_iand dL_holds_417 ?_
  refine g_iconstv (v := 1) dL_holds_418 rfl ?_
  refine g_icmp_ne (tgt := 426) dL_holds_419 (by decide) (fun c419 => absurd hm c419) (fun c419 => ?_)
  refine g_iconstv (v := 1) dL_holds_422 rfl ?_
  refine g_goto (tgt := 427) dL_holds_423 (by decide) ?_
  refine g_istore dL_holds_427 (by decide) rfl ?_
  refine g_iload dL_holds_429 rfl ?_
  refine g_if_eq (tgt := 478) dL_holds_431 (by decide) (fun c431 => absurd c431 (by decide)) (fun c431 => ?_)
  refine g_iload_n dL_holds_434 rfl ?_
  refine g_aload_n dL_holds_435 rfl ?_
  refine g_iconstv (v := 1) dL_holds_436 rfl ?_
  refine g_V1i dL_holds_437 ml_L_12 sX6_count rfl (by decide) (Nat.le_of_ble_eq_true rfl) (C1) ?_
  refine g_icmp_ne (tgt := 478) dL_holds_440 (by decide) (fun c440 => absurd rfl c440) (fun c440 => ?_)
  refine g_iload_n dL_holds_443 rfl ?_
  refine g_aload_n dL_holds_444 rfl ?_
  refine g_bipushv (v := 7) dL_holds_445 rfl ?_
  refine g_V1i dL_holds_447 ml_L_12 sX6_count rfl (by decide) (Nat.le_of_ble_eq_true rfl) (C7) ?_
  refine g_icmp_ne (tgt := 478) dL_holds_450 (by decide) (fun c450 => absurd rfl c450) (fun c450 => ?_)
  refine g_iload_n dL_holds_453 rfl ?_
  refine g_aload_n dL_holds_454 rfl ?_
  refine g_iconstv (v := 3) dL_holds_455 rfl ?_
  refine g_V1i dL_holds_456 ml_L_12 sX6_count rfl (by decide) (Nat.le_of_ble_eq_true rfl) (C3) ?_
  refine g_aload_n dL_holds_459 rfl ?_
  refine g_iconstv (v := 4) dL_holds_460 rfl ?_
  refine g_V1i dL_holds_461 ml_L_12 sX6_count rfl (by decide) (Nat.le_of_ble_eq_true rfl) (C4) ?_
  refine g_iadd dL_holds_464 ?_
  refine g_aload_n dL_holds_465 rfl ?_
  refine g_iconstv (v := 5) dL_holds_466 rfl ?_
  refine g_V1i dL_holds_467 ml_L_12 sX6_count rfl (by decide) (Nat.le_of_ble_eq_true rfl) (C5) ?_
  refine g_iadd dL_holds_470 ?_
  refine g_icmp_ne (tgt := 478) dL_holds_471 (by decide) (fun c471 => absurd hs c471) (fun c471 => ?_)
  refine g_iconstv (v := 1) dL_holds_474 rfl ?_
  refine g_goto (tgt := 479) dL_holds_475 (by decide) ?_
  exact g_iret dL_holds_479 rfl
/-! the same, over a room that keeps the invariant -/
def uSet (P : Nat → Int32) (n : Nat) : Nat → Int32
  | 0 => 0
  | t + 1 => uSet P n t ||| sSet P (nI t) n
def uTold (E : Nat → Int32) : Nat → Int32
  | 0 => 0
  | t + 1 => uTold E t + E t
theorem uSet_bit {P : Nat → Int32} {n : Nat} (hn : n ≤ 10) {i : Nat} (hi : i < 32) : ∀ t, bt (uSet P n t) i = true → ∃ t', t' < t ∧ P i = nI t' := by
  intro t
  induction t with
  | zero =>
    intro h
    rw [show uSet P n 0 = 0 from rfl, b_0] at h
    cases h
  | succ t ih =>
    intro h
    rw [show uSet P n (t + 1) = uSet P n t ||| sSet P (nI t) n from rfl, b_or, bt_sSet n (by omega) i hi] at h
    rcases Bool.or_eq_true_iff.mp h with h | h
    · obtain ⟨t', h1, h2⟩ := ih h
      exact ⟨t', by omega, h2⟩
    · exact ⟨t, Nat.lt_succ_self t, of_decide_eq_true (Bool.and_eq_true_iff.mp h).2⟩
theorem uSet_dis {P : Nat → Int32} {n t : Nat} (hn : n ≤ 10) (ht : t < 3) : (uSet P n t &&& sSet P (nI t) n) = 0 := by
  apply b_ext
  intro i hi
  rw [b_and, b_0]
  cases h1 : bt (uSet P n t) i with
  | false => rfl
  | true =>
    cases h2 : bt (sSet P (nI t) n) i with
    | false => rfl
    | true =>
      exfalso
      obtain ⟨t', h3, h4⟩ := uSet_bit hn hi t h1
      rw [bt_sSet n (by omega) i hi] at h2
      have h5 : P i = nI t := of_decide_eq_true (Bool.and_eq_true_iff.mp h2).2
      rw [h5, nI_eq (by omega) (by omega)] at h4
      omega
set_option maxHeartbeats 4000000 in
theorem ho_k {B L d n t : Nat} {F Z : Nat → Nat → Int32} {g : Nat → Option Nat} {out : mOut} {u dd p : Int32} (ht : t < 3) (hG : HG n (F 7) (F 8) (F 9) (F 11)) (K : ∀ x8 : Option Value, mGo ML_holds (d + 4) (126, [some (.ref 4), some (.int u), some (.int dd), some (.int (nI t)), some (.int (sSet (F 8) (nI t) n)), some (.int (sHost (F 8) (F 9) (nI t) n)), some (.int p), some (.int (nI 10)), x8], [], mHX L (mx F Z) g) out) : ∀ (m k : Nat) (x8 : Option Value), k + m = 10 → mGo ML_holds (d + 4) (126, [some (.ref 4), some (.int u), some (.int dd), some (.int (nI t)), some (.int (sSet (F 8) (nI t) n)), some (.int (sHost (F 8) (F 9) (nI t) n)), some (.int p), some (.int (nI k)), x8], [], mHX L (mx F Z) g) out := by
  obtain ⟨hn, h10, hs, ⟨q, hq⟩, hc⟩ := hG
  intro m
  induction m with
  | zero =>
    intro k x8 hk
    obtain rfl : k = 10 := by omega
    exact K x8
  | succ m ih =>
    intro k x8 hk
    by_cases hb : ((sSet (F 8) (nI t) n >>> (nI k &&& 31)) &&& 1) = 1
    · have hb2 := (bt_test (by omega)).mp hb
      rw [bt_sSet n (by omega) k (by omega)] at hb2
      obtain ⟨a1, a2⟩ := Bool.and_eq_true_iff.mp hb2
      have kn : k < n := of_decide_eq_true a1
      have ek : F 8 k = nI t := of_decide_eq_true a2
      have ek6 : ¬ F 8 k = (-6) := by rw [ek]; exact m_ne6 (by omega)
      rcases host_spec (P := F 8) (Q := F 9) (t := nI t) hq with ⟨-, z⟩ | ⟨j, hj, ej, pj, qj⟩
      · exact absurd ek (z k kn)
      · obtain ⟨c, c9, ec⟩ := hc k kn
        have A0 := c_of_0 (L := L) (F := mx F Z) (g := g) d n hn h10 k kn
        rw [show mx F Z 8 k = nI t from ek] at A0
        have A1 := c_of_1 (L := L) (F := mx F Z) (g := g) d n hn h10 k kn
        have A2 := c_of_1 (L := L) (F := mx F Z) (g := g) d n hn h10 j hj
        have A3 := c_of_3 (L := L) (F := mx F Z) (g := g) d n hn h10 k kn
        have A4 := c_of_4 (L := L) (F := mx F Z) (g := g) d n hn h10 k kn
        have AL := c_len_ok (L := L) (F := mx F Z) (g := g) d n hn h10 k kn ek6
        have hr : ¬ F 9 j < F 9 k := by
          rw [(hq j hj).1, (hq k kn).1]
          exact nI_nlt (qj k kn ek) (by have := (hq j hj).2; omega)
        have hc3 : ¬ F 11 k < 0 := by
          rw [ec]
          exact nI_pos (by omega)
        have hl : ¬ sLend (F 8) (F 9) (F 11) (nI k) (F 8 k) n = nI k := by
          rcases lend_spec (P := F 8) (Q := F 9) (R := F 11) (x := nI k) (t := F 8 k) n with e | ⟨i, hi, e, e2, -⟩
          · rw [e]
            exact fun z => m_ne6 (t := k) (by omega) z.symm
          · rw [e]
            exact e2
        rw [← ej] at A2
        by_cases hkj : k = j
        · have e4 : mbi (¬ mx F Z 8 k = (-6) ∧ sHost (mx F Z 8) (mx F Z 9) (mx F Z 8 k) n = nI k) = 1 := mbi_t ⟨ek6, by
            show sHost (F 8) (F 9) (F 8 k) n = nI k
            rw [ek, ej, hkj]⟩
          rw [e4] at A4
          exact ho_2h k (by omega) hb (F 9 k) (F 9 j) (F 11 k) _ A0 A1 A2 hr (by rw [ej, hkj]) A4 A3 hc3 AL hl (ih (k + 1) _ (by omega))
        · have e4 : mbi (¬ mx F Z 8 k = (-6) ∧ sHost (mx F Z 8) (mx F Z 9) (mx F Z 8 k) n = nI k) = 0 := mbi_f (fun z => hkj (by
            have z2 : sHost (F 8) (F 9) (F 8 k) n = nI k := z.2
            rw [ek, ej] at z2
            exact ((nI_eq (by omega) (by omega)).mp z2).symm))
          rw [e4] at A4
          exact ho_2o k (by omega) hb (F 9 k) (F 9 j) (F 11 k) _ A0 A1 A2 hr (fun z => hkj (by rw [ej] at z; exact (nI_eq (by omega) (by omega)).mp z)) A4 A3 hc3 AL hl (ih (k + 1) _ (by omega))
    · exact ho_2n k (by omega) hb (ih (k + 1) _ (by omega))
set_option maxHeartbeats 4000000 in
theorem ho_t {B L d n : Nat} {F Z : Nat → Nat → Int32} {g : Nat → Option Nat} {out : mOut} (hB : B ≤ 1000) (h3 : F 3 = mMB) (hG : HG n (F 7) (F 8) (F 9) (F 11)) (hC : HC (F 6)) (hP : HP B n (F 8) (F 19)) (K : ∀ x4 x5 x6 x7 x8 : Option Value, mGo ML_holds (d + 4) (6, [some (.ref 4), some (.int (uSet (F 8) n 3)), some (.int (uTold (F 20) 3)), some (.int (nI 3)), x4, x5, x6, x7, x8], [], mHX L (mx F Z) g) out) : ∀ (m t : Nat) (x4 x5 x6 x7 x8 : Option Value), t + m = 3 → mGo ML_holds (d + 4) (6, [some (.ref 4), some (.int (uSet (F 8) n t)), some (.int (uTold (F 20) t)), some (.int (nI t)), x4, x5, x6, x7, x8], [], mHX L (mx F Z) g) out := by
  have hG2 := hG
  obtain ⟨hn, h10, hs, ⟨q, hq⟩, -⟩ := hG2
  obtain ⟨a, b, l, s, c0, c1, -, -, a1, a20, b1, b20, -, -⟩ := hC
  intro m
  induction m with
  | zero =>
    intro t x4 x5 x6 x7 x8 hk
    obtain rfl : t = 3 := by omega
    exact K x4 x5 x6 x7 x8
  | succ m ih =>
    intro t x4 x5 x6 x7 x8 hk
    have ht : t < 3 := by omega
    have H0 := c_tab_0 (L := L) (F := mx F Z) (g := g) d n hn h10 t ht
    have H1 := c_tab_1 (L := L) (F := mx F Z) (g := g) d n hn h10 t ht
    have H3 := c_tab_3 (L := L) (F := mx F Z) (g := g) d t ht
    have H5 := c_tab_5 (L := L) (F := mx F Z) (g := g) d t ht
    have hd := uSet_dis (P := F 8) (n := n) h10 ht
    have hsome : ∀ k, k < n → F 8 k = nI t → ¬ sSet (F 8) (nI t) n = 0 ∧ ¬ sHost (F 8) (F 9) (nI t) n = (-6) := fun k hk ek => by
      refine ⟨fun z => (sSet_0 (by omega)).mp z k hk ek, ?_⟩
      rcases host_spec (P := F 8) (Q := F 9) (t := nI t) hq with ⟨-, z⟩ | ⟨j, hj, ej, -, -⟩
      · exact absurd ek (z k hk)
      · rw [ej]
        exact m_ne6 (by omega)
    rcases hP t ht with hp | ⟨⟨p, hpB, ep⟩, k, hk, ek⟩
    · have HT := c_ti_none (L := L) (F := mx F Z) (g := g) d t ht hp
      have K2 : mGo ML_holds (d + 4) (126, [some (.ref 4), some (.int (uSet (F 8) n (t + 1))), some (.int (uTold (F 20) (t + 1))), some (.int (nI t)), some (.int (sSet (F 8) (nI t) n)), some (.int (sHost (F 8) (F 9) (nI t) n)), some (.int (F 19 t)), some (.int (nI 0)), x8], [], mHX L (mx F Z) g) out := by
        refine ho_k (B := B) ht hG (fun x8 => ?_) 10 0 x8 rfl
        exact ho_3a t (by rw [hp]; decide) (ih (t + 1) _ _ _ _ _ (by omega))
      by_cases hz : ∃ k, k < n ∧ F 8 k = nI t
      · obtain ⟨k, hk, ek⟩ := hz
        exact ho_1b t ht H0 H1 H3 H5 hd (hsome k hk ek).1 (hsome k hk ek).2 hp HT K2
      · have hno : ∀ k, k < n → ¬ F 8 k = nI t := fun k hk ek => hz ⟨k, hk, ek⟩
        refine ho_1a t ht H0 H1 H3 H5 hd ((sSet_0 (by omega)).mpr hno) ?_ hp HT K2
        rcases host_spec (P := F 8) (Q := F 9) (t := nI t) hq with ⟨e, -⟩ | ⟨j, hj, -, pj, -⟩
        · exact e
        · exact absurd pj (hno j hj)
    · have hnp : ¬ F 19 t = (-6) := by
        rw [ep]
        exact m_ne6 (by omega)
      obtain ⟨c, hc, ec, -⟩ := comp_le (P := F 8) (Q := F 9) (t := nI t) h10
      have HT := c_ti_ok (L := L) (F := mx F Z) (g := g) d n hn h10 h3 t ht c hc ec hnp
      have M4 := c_tab_4 (L := L) (F := mx F Z) (g := g) d n hn h10 h3 t ht c hc ec hnp
      have C9 := c_cnt_9 (L := L) (F := mx F Z) (g := g) d
      refine ho_1c t ht H0 H1 H3 H5 hd (hsome k hk ek).1 (hsome k hk ek).2 (by rw [show mx F Z 19 t = nI p from ep]; exact nI_pos' (by omega)) _ (by
        show ¬ sTurn (F 6) c (F 19 t) 0 4 = (-5)
        rw [ep]
        exact turn_ne c0 c1 a20 b20 (by omega) 4 0 rfl) HT ?_
      refine ho_k (B := B) (u := uSet (F 8) n (t + 1)) (dd := uTold (F 20) (t + 1)) (p := F 19 t) ht hG (fun x8 => ?_) 10 0 x8 rfl
      have hp0 : ¬ F 19 t < 0 := by
        rw [ep]
        exact nI_pos (by omega)
      by_cases h999 : F 19 t ≤ 999
      · have MW := c_wm_ok (L := L) (F := mx F Z) (g := g) d n hn h10 h3 t ht c hc ec (F 19 t) ⟨by rw [ep]; exact nI_pos' (by omega), h999⟩
        by_cases h9 : F 6 0 ≤ F 19 t
        · exact ho_3b t hp0 M4 h999 MW C9 h9 (ih (t + 1) _ _ _ _ _ (by omega))
        · refine ho_3c t hp0 M4 h999 MW C9 h9 ?_ (ih (t + 1) _ _ _ _ _ (by omega))
          show sMean (F 6) c (F 19 t) = 0
          unfold sMean
          exact if_neg h9
      · have hp1 : 999 ≤ p := by
          rcases Nat.lt_or_ge p 999 with z | z
          · exact absurd (by rw [ep]; exact nI_le (a := p) (b := 999) (by omega) (by decide)) h999
          · exact z
        have MW := c_wm_ok (L := L) (F := mx F Z) (g := g) d n hn h10 h3 t ht c hc ec 999 ⟨by decide, by decide⟩
        have e1 : sMean (F 6) c (F 19 t) = sMean (F 6) c 999 := by
          rw [ep, mean_big c0 c1 a20 b20 hp1 (by omega), show (999 : Int32) = nI 999 from rfl, mean_big c0 c1 a20 b20 (Nat.le_refl _) (by decide)]
        have M4' : mCall (d + 3) yX6_table MX6_table [.ref 4, .int (nI t), .int 4] (mHX L (mx F Z) g) (some (.int (sMean (F 6) c 999))) (mHX L (mx F Z) g) := by
          rw [← e1]
          exact M4
        exact ho_3d t hp0 M4' h999 MW C9 (by rw [show mx F Z 6 0 = nI a from c0, ep]; exact nI_le (by omega) (by omega)) (ih (t + 1) _ _ _ _ _ (by omega))
set_option maxHeartbeats 4000000 in
theorem ho_m {B L d : Nat} {F Z : Nat → Nat → Int32} {g : Nat → Option Nat} {out : mOut} {u dd : Int32} {x5 x6 x7 x8 : Option Value} (hB : B ≤ 1000) (hE : HE B (F 15) (F 16) (F 17) (F 20)) (K : mGo ML_holds (d + 4) (303, [some (.ref 4), some (.int u), some (.int dd), some (.int (mfold (sMeantF (F 15)) 0 11)), some (.int (nI 12)), x5, x6, x7, x8], [], mHX L (mx F Z) g) out) : ∀ (m k : Nat), k + m = 11 → mGo ML_holds (d + 4) (303, [some (.ref 4), some (.int u), some (.int dd), some (.int (mfold (sMeantF (F 15)) 0 k)), some (.int (nI (k + 1))), x5, x6, x7, x8], [], mHX L (mx F Z) g) out := by
  obtain ⟨e, d', h1, -, h2, h4⟩ := hE
  intro m
  induction m with
  | zero =>
    intro k hk
    obtain rfl : k = 11 := by omega
    exact K
  | succ m ih =>
    intro k hk
    obtain ⟨o, l, eo, el, oe, lB, ol⟩ := h4 (k + 1) (by omega) (by omega)
    have M0 := c_mng_0 (L := L) (F := mx F Z) (g := g) d (k + 1) (by omega) (by omega)
    have M1 := c_mng_1 (L := L) (F := mx F Z) (g := g) d (k + 1) (by omega) (by omega)
    have C3 := c_cnt_3 (L := L) (F := mx F Z) (g := g) d
    have hoc : F 15 (k + 1) ≤ F 17 0 := by
      rw [eo, (h1 0 (by decide)).1]
      exact nI_le oe (by omega)
    have ih2 := ih (k + 1) (by omega)
    by_cases hz : 0 < o
    · have ho : ¬ F 15 (k + 1) ≤ 0 := by rw [eo]; exact nI_nle hz (by omega)
      have hl : ¬ F 16 (k + 1) ≤ 0 := by rw [el]; exact nI_nle (ol.mp hz) (by omega)
      refine ho_5a (k + 1) (by omega) M0 M1 C3 ho hl hoc ?_
      rw [mfold_succ] at ih2
      unfold sMeantF at ih2 ⊢
      rw [if_neg ho] at ih2
      exact ih2
    · have ho : F 15 (k + 1) ≤ 0 := by
        rw [eo, show o = 0 by omega]
        decide
      have hl : F 16 (k + 1) ≤ 0 := by
        rw [el, show l = 0 by omega]
        decide
      refine ho_5b (k + 1) (by omega) M0 M1 C3 ho hl hoc ?_
      rw [mfold_succ] at ih2
      unfold sMeantF at ih2 ⊢
      rw [if_pos ho] at ih2
      rw [Int32.or_zero]
      exact ih2
set_option maxHeartbeats 4000000 in
theorem ho_of {B d : Nat} {F : Nat → Nat → Int32} (hB : B ≤ 1000) (h3 : F 3 = mMB) (hI : HI B F) (L : Nat) (Z : Nat → Nat → Int32) (g : Nat → Option Nat) : mCall (d + 4) yL_holds ML_holds [.ref 4] (mHX L (mx F Z) g) (some (.int 1)) (mHX L (mx F Z) g) := by
  obtain ⟨n, hG, -, hC, hP, hE, -⟩ := hI
  have hG2 := hG
  obtain ⟨hn, h10, -⟩ := hG2
  refine mCall_of sL_holds.1 (Nat.le_of_ble_eq_true rfl) ⟨_, rfl, rfl⟩ ?_
  show mGo _ _ (0, [some (.ref 4), none, none, none, none, none, none, none, none], [], _) _
  refine g_iconstv (v := 0) dL_holds_0 rfl ?_
  refine g_istore_n dL_holds_1 (by decide) rfl ?_
  refine g_iconstv (v := 0) dL_holds_2 rfl ?_
  refine g_istore_n dL_holds_3 (by decide) rfl ?_
  refine g_iconstv (v := nI 0) dL_holds_4 rfl ?_
  refine g_istore_n dL_holds_5 (by decide) rfl ?_
  refine ho_t hB h3 hG hC hP (fun x4 x5 x6 x7 x8 => ?_) 3 0 none none none none none rfl
  refine ho_4 ?_
  refine ho_m hB hE ?_ 11 0 rfl
  have HU := c_usual (L := L) (F := mx F Z) (g := g) d
  have C1 := c_cnt_1 (L := L) (F := mx F Z) (g := g) d n hn h10
  have C7 := c_cnt_7 (L := L) (F := mx F Z) (g := g) d
  have C3 := c_cnt_3 (L := L) (F := mx F Z) (g := g) d
  have C4 := c_cnt_4 (L := L) (F := mx F Z) (g := g) d
  have C5 := c_cnt_5 (L := L) (F := mx F Z) (g := g) d
  obtain ⟨e, d', h1, h2, -, -⟩ := hE
  have hs : uTold (F 20) 3 = F 17 0 + F 17 1 + F 17 2 := by
    show 0 + F 20 0 + F 20 1 + F 20 2 = _
    rw [(h1 0 (by decide)).1, (h1 1 (by decide)).1, (h1 2 (by decide)).1, (h1 0 (by decide)).2, (h1 1 (by decide)).2, (h1 2 (by decide)).2, show (0 : Int32) = nI 0 from rfl, nI_add, nI_add, nI_add, nI_add, nI_add]
    exact congrArg nI (by omega)
  rcases usual_ok (o := F 15) with ⟨e1, e2⟩ | ⟨m, m1, m2, e1, e2⟩
  · exact ho_6a HU C1 C7 C3 C4 C5 hs e1 e2
  · exact ho_6b HU C1 C7 C3 C4 C5 hs (by show ¬ sMost (F 15) = (-6); rw [e1]; exact m_ne6 (by omega)) (by show ((sMeant (F 15) >>> (sMost (F 15) &&& 31)) &&& 1) = 1; rw [e1]; exact e2)
