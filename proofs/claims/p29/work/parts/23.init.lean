theorem m_a {sh t : List mShp} {b : Nat} {s : mShp} (h : sh[b]? = some s) : (sh ++ t)[b]? = some s := by
  rw [List.getElem?_append_left (List.getElem?_eq_some_iff.mp h).1]
  exact h
theorem m_l {sh : List mShp} {x : mShp} {n : Nat} (h : sh.length = n) : (sh ++ [x])[n]? = some x := by
  subst h
  rw [List.getElem?_append_right (Nat.le_refl _), Nat.sub_self]
  rfl
def rW (R : Nat → Nat → Option Nat) (l : List (Nat × Nat × Nat)) : Nat → Nat → Option Nat := l.foldl (fun R q => va_up R q.1 (va_up (R q.1) q.2.1 (some q.2.2))) R
theorem pe_id' {F : Nat → Nat → Int32} {c k : Nat} (h : F c = fun _ => 0) : pe F c k 0 = F := pe_id (congrFun h k)
set_option maxHeartbeats 4000000 in
set_option maxRecDepth 100000 in
theorem c_init_X0 {sh : List mShp} {F : Nat → Nat → Int32} {R : Nat → Nat → Option Nat} (d n b : Nat) (hn : sh.length = n) (hb : sh[b]? = some (.inl 0)) (h4 : 4 ≤ b) (hF0 : F b = fun _ => 0) (hF : ∀ j, n ≤ j → F j = fun _ => 0) : mCall (d + 1) yX0_init MX0_init [.ref b] (sh, F, R) none (sh ++ [.inr (0, 10)] ++ [.inr (0, 10)] ++ [.inr (0, 10)] ++ [.inr (0, 10)] ++ [.inr (0, 10)] ++ [.inr (0, 10)], F, rW R [(b, 1, n), (b, 2, (n + 1)), (b, 3, (n + 2)), (b, 4, (n + 3)), (b, 5, (n + 4)), (b, 6, (n + 5))]) := by
  refine mCall_of sX0_init.1 (Nat.le_of_ble_eq_true rfl) rfl ?_
  show mGo _ _ (0, [some (.ref b)], [], _) _
  refine g_aload_n dX0_init_0 rfl ?_
  refine g_obj dX0_init_1 ml_X0_3 wo_inst wo_code (Nat.le_of_ble_eq_true rfl) ?_
  refine g_aload_n dX0_init_4 rfl ?_
  refine g_iconstv (v := 0) dX0_init_5 rfl ?_
  refine g_pI dX0_init_6 fl_X0_9 (Or.inl rfl) hb (by omega) rfl ?_
  rw [pe_id' hF0]
  refine g_aload_n dX0_init_9 rfl ?_
  refine g_bipushv (v := 10) dX0_init_10 rfl ?_
  refine g_newi (n := n) (N := 10) dX0_init_12 (by decide) rfl (by decide) hn (hF _ (by omega)) wk_int ?_
  refine g_putR dX0_init_14 fl_X0_15 (Or.inr ⟨rfl, rfl, rfl⟩) (m_a hb) (by omega) (fun _ _ => rfl) (fun _ => ⟨rfl, rfl⟩) ?_
  refine g_aload_n dX0_init_17 rfl ?_
  refine g_bipushv (v := 10) dX0_init_18 rfl ?_
  refine g_newi (n := (n + 1)) (N := 10) dX0_init_20 (by decide) rfl (by decide) (by simp [hn]) (hF _ (by omega)) wk_int ?_
  refine g_putR dX0_init_22 fl_X0_19 (Or.inr ⟨rfl, rfl, rfl⟩) (m_a (m_a hb)) (by omega) (fun _ _ => rfl) (fun _ => ⟨rfl, rfl⟩) ?_
  refine g_aload_n dX0_init_25 rfl ?_
  refine g_bipushv (v := 10) dX0_init_26 rfl ?_
  refine g_newi (n := (n + 2)) (N := 10) dX0_init_28 (by decide) rfl (by decide) (by simp [hn]) (hF _ (by omega)) wk_int ?_
  refine g_putR dX0_init_30 fl_X0_22 (Or.inr ⟨rfl, rfl, rfl⟩) (m_a (m_a (m_a hb))) (by omega) (fun _ _ => rfl) (fun _ => ⟨rfl, rfl⟩) ?_
  refine g_aload_n dX0_init_33 rfl ?_
  refine g_bipushv (v := 10) dX0_init_34 rfl ?_
  refine g_newi (n := (n + 3)) (N := 10) dX0_init_36 (by decide) rfl (by decide) (by simp [hn]) (hF _ (by omega)) wk_int ?_
  refine g_putR dX0_init_38 fl_X0_25 (Or.inr ⟨rfl, rfl, rfl⟩) (m_a (m_a (m_a (m_a hb)))) (by omega) (fun _ _ => rfl) (fun _ => ⟨rfl, rfl⟩) ?_
  refine g_aload_n dX0_init_41 rfl ?_
  refine g_bipushv (v := 10) dX0_init_42 rfl ?_
  refine g_newi (n := (n + 4)) (N := 10) dX0_init_44 (by decide) rfl (by decide) (by simp [hn]) (hF _ (by omega)) wk_int ?_
  refine g_putR dX0_init_46 fl_X0_28 (Or.inr ⟨rfl, rfl, rfl⟩) (m_a (m_a (m_a (m_a (m_a hb))))) (by omega) (fun _ _ => rfl) (fun _ => ⟨rfl, rfl⟩) ?_
  refine g_aload_n dX0_init_49 rfl ?_
  refine g_bipushv (v := 10) dX0_init_50 rfl ?_
  refine g_newi (n := (n + 5)) (N := 10) dX0_init_52 (by decide) rfl (by decide) (by simp [hn]) (hF _ (by omega)) wk_int ?_
  refine g_putR dX0_init_54 fl_X0_31 (Or.inr ⟨rfl, rfl, rfl⟩) (m_a (m_a (m_a (m_a (m_a (m_a hb)))))) (by omega) (fun _ _ => rfl) (fun _ => ⟨rfl, rfl⟩) ?_
  exact g_vret dX0_init_57 rfl
set_option maxHeartbeats 4000000 in
set_option maxRecDepth 100000 in
theorem c_init_X2 {sh : List mShp} {F : Nat → Nat → Int32} {R : Nat → Nat → Option Nat} (d n b : Nat) (hn : sh.length = n) (hb : sh[b]? = some (.inl 2)) (h4 : 4 ≤ b) (hF0 : F b = fun _ => 0) (hF : ∀ j, n ≤ j → F j = fun _ => 0) : mCall (d + 1) yX2_init MX2_init [.ref b] (sh, F, R) none (sh ++ [.inr (0, 12)] ++ [.inr (0, 12)] ++ [.inr (0, 3)] ++ [.inr (0, 50)], F, rW R [(b, 0, n), (b, 1, (n + 1)), (b, 2, (n + 2)), (b, 3, (n + 3))]) := by
  refine mCall_of sX2_init.1 (Nat.le_of_ble_eq_true rfl) rfl ?_
  show mGo _ _ (0, [some (.ref b)], [], _) _
  refine g_aload_n dX2_init_0 rfl ?_
  refine g_obj dX2_init_1 ml_X2_3 wo_inst wo_code (Nat.le_of_ble_eq_true rfl) ?_
  refine g_aload_n dX2_init_4 rfl ?_
  refine g_bipushv (v := 12) dX2_init_5 rfl ?_
  refine g_newi (n := n) (N := 12) dX2_init_7 (by decide) rfl (by decide) hn (hF _ (by omega)) wk_int ?_
  refine g_putR dX2_init_9 fl_X2_9 (Or.inr ⟨rfl, rfl, rfl⟩) (m_a hb) (by omega) (fun _ _ => rfl) (fun _ => ⟨rfl, rfl⟩) ?_
  refine g_aload_n dX2_init_12 rfl ?_
  refine g_bipushv (v := 12) dX2_init_13 rfl ?_
  refine g_newi (n := (n + 1)) (N := 12) dX2_init_15 (by decide) rfl (by decide) (by simp [hn]) (hF _ (by omega)) wk_int ?_
  refine g_putR dX2_init_17 fl_X2_15 (Or.inr ⟨rfl, rfl, rfl⟩) (m_a (m_a hb)) (by omega) (fun _ _ => rfl) (fun _ => ⟨rfl, rfl⟩) ?_
  refine g_aload_n dX2_init_20 rfl ?_
  refine g_iconstv (v := 3) dX2_init_21 rfl ?_
  refine g_newi (n := (n + 2)) (N := 3) dX2_init_22 (by decide) rfl (by decide) (by simp [hn]) (hF _ (by omega)) wk_int ?_
  refine g_putR dX2_init_24 fl_X2_18 (Or.inr ⟨rfl, rfl, rfl⟩) (m_a (m_a (m_a hb))) (by omega) (fun _ _ => rfl) (fun _ => ⟨rfl, rfl⟩) ?_
  refine g_aload_n dX2_init_27 rfl ?_
  refine g_bipushv (v := 50) dX2_init_28 rfl ?_
  refine g_newi (n := (n + 3)) (N := 50) dX2_init_30 (by decide) rfl (by decide) (by simp [hn]) (hF _ (by omega)) wk_int ?_
  refine g_putR dX2_init_32 fl_X2_21 (Or.inr ⟨rfl, rfl, rfl⟩) (m_a (m_a (m_a (m_a hb)))) (by omega) (fun _ _ => rfl) (fun _ => ⟨rfl, rfl⟩) ?_
  refine g_aload_n dX2_init_35 rfl ?_
  refine g_iconstv (v := 0) dX2_init_36 rfl ?_
  refine g_pI dX2_init_37 fl_X2_24 (Or.inl rfl) (m_a (m_a (m_a (m_a hb)))) (by omega) rfl ?_
  rw [pe_id' hF0]
  exact g_vret dX2_init_40 rfl
set_option maxHeartbeats 4000000 in
set_option maxRecDepth 100000 in
theorem c_init_X3 {sh : List mShp} {F : Nat → Nat → Int32} {R : Nat → Nat → Option Nat} (d n b : Nat) (hn : sh.length = n) (hb : sh[b]? = some (.inl 3)) (h4 : 4 ≤ b) (hF0 : F b = fun _ => 0) (hF : ∀ j, n ≤ j → F j = fun _ => 0) : mCall (d + 1) yX3_init MX3_init [.ref b] (sh, F, R) none (sh ++ [.inr (0, 80)], F, rW R [(b, 0, n)]) := by
  refine mCall_of sX3_init.1 (Nat.le_of_ble_eq_true rfl) rfl ?_
  show mGo _ _ (0, [some (.ref b)], [], _) _
  refine g_aload_n dX3_init_0 rfl ?_
  refine g_obj dX3_init_1 ml_X3_3 wo_inst wo_code (Nat.le_of_ble_eq_true rfl) ?_
  refine g_aload_n dX3_init_4 rfl ?_
  refine g_bipushv (v := 80) dX3_init_5 rfl ?_
  refine g_newi (n := n) (N := 80) dX3_init_7 (by decide) rfl (by decide) hn (hF _ (by omega)) wk_int ?_
  refine g_putR dX3_init_9 fl_X3_9 (Or.inr ⟨rfl, rfl, rfl⟩) (m_a hb) (by omega) (fun _ _ => rfl) (fun _ => ⟨rfl, rfl⟩) ?_
  refine g_aload_n dX3_init_12 rfl ?_
  refine g_iconstv (v := 0) dX3_init_13 rfl ?_
  refine g_pI dX3_init_14 fl_X3_15 (Or.inl rfl) (m_a hb) (by omega) rfl ?_
  rw [pe_id' hF0]
  exact g_vret dX3_init_17 rfl
def iF (F : Nat → Nat → Int32) (n : Nat) : Nat → Nat → Int32 := (pe (pe (pe (va_up F n (F 1)) (n + 13) 0 (-6)) (n + 13) 1 (-6)) (n + 13) 2 (-6))
def iR (R : Nat → Nat → Option Nat) (n b : Nat) : Nat → Nat → Option Nat := rW R [(b, 1, n), (n + 1, 1, n + 2), (n + 1, 2, n + 3), (n + 1, 3, n + 4), (n + 1, 4, n + 5), (n + 1, 5, n + 6), (n + 1, 6, n + 7), (b, 2, n + 1), (n + 8, 0, n + 9), (n + 8, 1, n + 10), (n + 8, 2, n + 11), (n + 8, 3, n + 12), (b, 3, n + 8), (b, 4, n + 13), (b, 5, n + 14)]
def iS (sh : List mShp) : List mShp := sh ++ [.inr (0, 4)] ++ [.inl 0] ++ [.inr (0, 10)] ++ [.inr (0, 10)] ++ [.inr (0, 10)] ++ [.inr (0, 10)] ++ [.inr (0, 10)] ++ [.inr (0, 10)] ++ [.inl 2] ++ [.inr (0, 12)] ++ [.inr (0, 12)] ++ [.inr (0, 3)] ++ [.inr (0, 50)] ++ [.inr (0, 3)] ++ [.inr (0, 3)]
set_option maxHeartbeats 4000000 in
set_option maxRecDepth 100000 in
theorem c_init_X4 {sh : List mShp} {F : Nat → Nat → Int32} {R : Nat → Nat → Option Nat} (d n b : Nat) (hn : sh.length = n) (hb : sh[b]? = some (.inl 4)) (h4 : 4 ≤ b) (hbn : b < n) (h1 : sh[1]? = some (.inr (3, 4))) (hF0 : F b = fun _ => 0) (hF : ∀ j, n ≤ j → F j = fun _ => 0) (hR : ∀ j, n ≤ j → R j = fun _ => none) : mCall (d + 2) yX4_init MX4_init [.ref b] (sh, F, R) none (iS sh, iF F n, iR R n b) := by
  refine mCall_of sX4_init.1 (Nat.le_of_ble_eq_true rfl) rfl ?_
  show mGo _ _ (0, [some (.ref b)], [], _) _
  refine g_aload_n dX4_init_0 rfl ?_
  refine g_obj dX4_init_1 ml_X4_3 wo_inst wo_code (Nat.le_of_ble_eq_true rfl) ?_
  refine g_aload_n dX4_init_4 rfl ?_
  refine g_iconstv (v := 0) dX4_init_5 rfl ?_
  refine g_pI dX4_init_6 fl_X4_9 (Or.inl rfl) hb (by omega) rfl ?_
  rw [pe_id' hF0]
  refine g_aload_n dX4_init_9 rfl ?_
  refine g_gets (j := 0) dX4_init_10 sl_X4_15 (by decide) ?_
  refine g_clone (n := n) (N := 4) dX4_init_13 ml_X4_19 (Nat.le_of_ble_eq_true rfl) hn h1 ?_
  refine g_castI dX4_init_16 cl_X4_20 (m_l hn) (by omega) ?_
  refine g_putR dX4_init_19 fl_X4_24 (Or.inr ⟨rfl, rfl, rfl⟩) (m_a hb) (by omega) (fun _ _ => rfl) (fun _ => ⟨rfl, rfl⟩) ?_
  refine g_aload_n dX4_init_22 rfl ?_
  refine g_new (n := (n + 1)) dX4_init_23 cl_X4_27 nc_X0 (by simp [hn]) ((va_up_ne _ _ (by omega)).trans (hF _ (by omega))) (by (try simp only [rW, List.foldl_cons, List.foldl_nil]); (repeat (rw [va_up_ne _ _ (by omega)])); exact hR _ (by omega)) ?_
  refine g_dup dX4_init_26 rfl ?_
  refine g_IN0 dX4_init_27 ml_X4_29 sX0_init (Nat.le_of_ble_eq_true rfl) (c_init_X0 d (n + 2) (n + 1) (by simp [hn]) (m_l (by simp [hn])) (by omega) ((va_up_ne _ _ (by omega)).trans (hF _ (by omega))) (fun j hj => ((va_up_ne _ _ (by omega)).trans (hF _ (by omega))))) ?_
  refine g_putR dX4_init_30 fl_X4_30 (Or.inr ⟨rfl, rfl, rfl⟩) (m_a (m_a (m_a (m_a (m_a (m_a (m_a (m_a hb)))))))) (by omega) (fun _ _ => rfl) (fun _ => ⟨rfl, rfl⟩) ?_
  refine g_aload_n dX4_init_33 rfl ?_
  refine g_new (n := (n + 8)) dX4_init_34 cl_X4_34 nc_X2 (by simp [hn]) ((va_up_ne _ _ (by omega)).trans (hF _ (by omega))) (by (try simp only [rW, List.foldl_cons, List.foldl_nil]); (repeat (rw [va_up_ne _ _ (by omega)])); exact hR _ (by omega)) ?_
  refine g_dup dX4_init_37 rfl ?_
  refine g_IN0 dX4_init_38 ml_X4_36 sX2_init (Nat.le_of_ble_eq_true rfl) (c_init_X2 d (n + 9) (n + 8) (by simp [hn]) (m_l (by simp [hn])) (by omega) ((va_up_ne _ _ (by omega)).trans (hF _ (by omega))) (fun j hj => ((va_up_ne _ _ (by omega)).trans (hF _ (by omega))))) ?_
  refine g_putR dX4_init_41 fl_X4_37 (Or.inr ⟨rfl, rfl, rfl⟩) (m_a (m_a (m_a (m_a (m_a (m_a (m_a (m_a (m_a (m_a (m_a (m_a (m_a hb))))))))))))) (by omega) (fun _ _ => rfl) (fun _ => ⟨rfl, rfl⟩) ?_
  refine g_aload_n dX4_init_44 rfl ?_
  refine g_iconstv (v := 3) dX4_init_45 rfl ?_
  refine g_newi (n := (n + 13)) (N := 3) dX4_init_46 (by decide) rfl (by decide) (by simp [hn]) ((va_up_ne _ _ (by omega)).trans (hF _ (by omega))) wk_int ?_
  refine g_dup dX4_init_48 rfl ?_
  refine g_iconstv (v := 0) dX4_init_49 rfl ?_
  refine g_bipushv (v := (-6)) dX4_init_50 rfl ?_
  refine g_iastN (gx := 0) dX4_init_52 (m_l (by simp [hn])) (by omega) rfl (by decide) (by decide) ?_
  refine g_dup dX4_init_53 rfl ?_
  refine g_iconstv (v := 1) dX4_init_54 rfl ?_
  refine g_bipushv (v := (-6)) dX4_init_55 rfl ?_
  refine g_iastN (gx := 1) dX4_init_57 (m_l (by simp [hn])) (by omega) rfl (by decide) (by decide) ?_
  refine g_dup dX4_init_58 rfl ?_
  refine g_iconstv (v := 2) dX4_init_59 rfl ?_
  refine g_bipushv (v := (-6)) dX4_init_60 rfl ?_
  refine g_iastN (gx := 2) dX4_init_62 (m_l (by simp [hn])) (by omega) rfl (by decide) (by decide) ?_
  refine g_putR dX4_init_63 fl_X4_41 (Or.inr ⟨rfl, rfl, rfl⟩) (m_a (m_a (m_a (m_a (m_a (m_a (m_a (m_a (m_a (m_a (m_a (m_a (m_a (m_a hb)))))))))))))) (by omega) (fun _ _ => rfl) (fun _ => ⟨rfl, rfl⟩) ?_
  refine g_aload_n dX4_init_66 rfl ?_
  refine g_iconstv (v := 3) dX4_init_67 rfl ?_
  refine g_newi (n := (n + 14)) (N := 3) dX4_init_68 (by decide) rfl (by decide) (by simp [hn]) (by (repeat (first | rw [pe_row (by omega)] | rw [va_up_ne _ _ (by omega)])); exact hF _ (by omega)) wk_int ?_
  refine g_putR dX4_init_70 fl_X4_44 (Or.inr ⟨rfl, rfl, rfl⟩) (m_a (m_a (m_a (m_a (m_a (m_a (m_a (m_a (m_a (m_a (m_a (m_a (m_a (m_a (m_a hb))))))))))))))) (by omega) (fun _ _ => rfl) (fun _ => ⟨rfl, rfl⟩) ?_
  exact g_vret dX4_init_73 rfl
