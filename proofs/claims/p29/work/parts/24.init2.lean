theorem m_restC {base : Nat} {spa : Nat → Nat} {st : List Value} (h : (st.map fun v => v.category).sum ≤ 8) : ((st.map (mtv base spa)).map fun v => v.category).sum ≤ 8 := by
  rw [List.map_map, show ((fun v : Value => v.category) ∘ mtv base spa) = (fun v : Value => v.category) from funext (fun v => mtv_cat base spa v)]
  exact h
set_option maxHeartbeats 4000000 in
theorem g_callIN6 {M : mM} {o2 : String} {c2 : ByteArray} {n2 : Nat} {d pc b idx ci n : Nat} {L : mLs} {As rest : List Value} {hp hp1 : mHp} {out : mOut} {r : Option Value} {y : MethodName} {host : String} (hd : decode M.2.1 pc = .ok (.invokespecial idx, 3)) (hl : Cond.methodLinkNest M.1 idx y host ∈ mNW) (hy : mMethI y (o2, c2, n2, (none : Option FieldType), true) n)  (hn : As.length = n) (hst : (rest.map fun v => v.category).sum ≤ 8) (hc0 : mCall d y (o2, c2, n2, (none : Option FieldType), true) (.ref b :: As) hp r hp1) (k : mGo M (d + 1) (pc + 3, L, r.toList ++ rest, hp1) out) : mGo M (d + 1) (pc, L, As.reverse ++ .ref b :: rest, hp) out := by
  have k0 := hc0.1
  have k1 := k.1
  have j1 : hp.1.length ≤ hp1.1.length := k0.1
  have j2 : mSz hp.1 ≤ mSz hp1.1 := k0.2.1
  have j3 : hp1.1.length ≤ out.2.1.length := k1.1
  have j4 : mSz hp1.1 ≤ mSz out.2.1 := k1.2
  refine ⟨⟨Nat.le_trans j1 j3, Nat.le_trans j2 j4⟩, ?_⟩
  intro base spa spn spf cm D p l e R s m args below meth c Q cE sE H locs cells slots ls hX hfr hlo hcE hsE hK hc hs hD hS hL
  have hx := hX.1
  have hb := hX.2.1
  have hts := hX.2.2.2.2.2.2.2.1
  have hK0 : va_K D mcl (mtys cm) s := hX.2.2.2.2.2.2.2.2.1
  have hSt := hX.2.2.2.2.2.2.2.2
  have h8 := m_restC (base := base) (spa := spa) hst
  have hc' : cells + out.2.1.length = cE + hp.1.length := hc
  have hs' : slots + mSz out.2.1 = sE + mSz hp.1 := hs
  have hcall := hc0.2 l base spa spn spf cm D
  have hbm := hy.1
  have hR : d + 1 ≤ R.frames ∧ 8 + (n2 + 11) + 40 * d ≤ R.locals := ⟨hfr, by have h7 : n2 ≤ 21 := hbm.2.2.2.2.2.2; omega⟩
  have hPU : ∀ U : State, U.heap = H → s.WarmedH U.vm → va_Pc ((.ref b :: As).map (mtv base spa)) (fun U => mD base spa spn spf cm D hp U.heap ∧ mSta base spa spn spf cm D U U.heap) ((.ref b :: As).map (mtv base spa)).toArray U := fun U hU hW => ⟨rfl, by rw [hU]; exact hD, by rw [hU]; exact mSta_moved (mSta_kept hSt hS) hW.alike (mNW_warm hW)⟩

  refine m_after (rest := rest.map (mtv base spa)) (va_runIN (As := As.map (mtv base spa)) (rest := rest.map (mtv base spa)) ⟨hx, hb, hX.2.2.2.1, hX.2.2.2.2.1, hts⟩ hcall ⟨va_cnB n hts (m_good hbm) rfl rfl rfl (hX.2.2.2.2.2.2.2.2.2.1 _ hl) (hts _ hbm.2.2.2.2.1) hbm.2.2.2.2.2.1 hR, hbm.2.2.1 rfl, hts _ hy.2⟩ ⟨mBlind, hPU⟩ rfl (by rw [List.length_map]; exact hn) hL.1 (by first | exact m_stk | (show List.map _ _ = _; simp)) (lv_room (by omega)) hd ⟨by omega, by omega⟩) hS (fun H1 locs1 hD1 hS1 => ?_)
  have h9 := k.2 base spa spn spf cm D p l e R s m args below meth c Q cE sE H1 locs1 (cells + (hp1.1.length - hp.1.length)) (slots + (mSz hp1.1 - mSz hp.1)) ls hX hfr hlo hcE hsE hK (by show cells + _ + out.2.1.length = cE + hp1.1.length; omega) (by show slots + _ + mSz out.2.1 = sE + mSz hp1.1; omega) hD1 hS1 hL
  have e9 : List.map (mtv base spa) (r.toList ++ rest) = r.toList ++ rest.map (mtv base spa) := by
    cases r with
    | none => rfl
    | some v =>
      cases v with
      | ref a =>
        exact (k0.2.2 a rfl).elim
      | _ => rfl
  have h10 : W p l e R s m args below meth c H1 locs1 (cells + (hp1.1.length - hp.1.length)) (slots + (mSz hp1.1 - mSz hp.1)) Q (F0 m (pc + 3) ls (List.map (mtv base spa) (r.toList ++ rest))) := h9
  rw [e9] at h10
  exact h10
theorem rW1 {R : Nat → Nat → Option Nat} {c k v j : Nat} (h : j ≠ c) : rW R [(c, k, v)] j = R j := va_up_ne _ _ h
theorem iF_hi {F : Nat → Nat → Int32} {n j : Nat} (h : n + 15 ≤ j) : iF F n j = F j := by
  unfold iF
  rw [pe_row (by omega), pe_row (by omega), pe_row (by omega), va_up_ne _ _ (by omega)]
theorem iF_lo {F : Nat → Nat → Int32} {n j : Nat} (h : j < n) : iF F n j = F j := by
  unfold iF
  rw [pe_row (by omega), pe_row (by omega), pe_row (by omega), va_up_ne _ _ (by omega)]
theorem rW_ne {R : Nat → Nat → Option Nat} {l : List (Nat × Nat × Nat)} {j : Nat} (h : ∀ q ∈ l, j ≠ q.1) : rW R l j = R j := by
  induction l generalizing R with
  | nil => rfl
  | cons q l ih =>
    show rW (va_up R q.1 (va_up (R q.1) q.2.1 (some q.2.2))) l j = R j
    rw [ih (fun r hr => h r (List.mem_cons_of_mem _ hr))]
    exact va_up_ne _ _ (h q List.mem_cons_self)
theorem iR_hi {R : Nat → Nat → Option Nat} {n b j : Nat} (h : n + 15 ≤ j) (hb : b < n) : iR R n b j = R j := by
  unfold iR
  apply rW_ne
  intro q hq
  simp only [List.mem_cons, List.not_mem_nil, or_false] at hq
  rcases hq with rfl | rfl | rfl | rfl | rfl | rfl | rfl | rfl | rfl | rfl | rfl | rfl | rfl | rfl | rfl <;> (simp only; omega)
theorem g_putW {M : mM} {d pc : Nat} {L : mLs} {st : List Value} {sh : List mShp} {F : Nat → Nat → Int32} {R0 : Nat → Nat → Option Nat} {out : mOut} {idx ci f j r : Nat} (hd : decode M.2.1 pc = .ok (.putfield idx, 3)) (hf : mFL M.1 idx ci f) (hfin : mfin ci f = false ∨ (mfin ci f = true ∧ M.2.2.2.2 = true ∧ mdc ci = M.1)) (hsh : sh[j]? = some (.inl ci)) (h4 : 4 ≤ j) (ht : ∀ i r, mfv (mty ci f) i r = va_rf r) (hnf : ∀ x, narrow (mty ci f) (.ref x) = .ref x ∧ fits (mty ci f) (.ref x) = true)
    (k : mGo M d (pc + 3, L, st, (sh, F, rW R0 [(j, f, r)])) out) : mGo M d (pc, L, .ref r :: .ref j :: st, (sh, F, R0)) out := g_putR hd hf hfin hsh h4 ht hnf k
theorem g_aastW {M : mM} {d pc : Nat} {L : mLs} {st : List Value} {sh : List mShp} {F : Nat → Nat → Int32} {R0 : Nat → Nat → Option Nat} {out : mOut} {j n : Nat} {i : Int32} {v ci : Nat} (gx : Nat) (hd : decode M.2.1 pc = .ok (.aastore, 1)) (hsh : sh[j]? = some (.inr (2, n))) (h4 : 4 ≤ j) (hi : i = nI gx) (hg : gx < n) (hn : n < 2 ^ 31) (hv : sh[v]? = some (.inl ci)) (hv4 : 4 ≤ v) (hci : mcl[ci]?.map (fun q => q.1) = some RX4) (k : mGo M d (pc + 1, L, st, (sh, F, rW R0 [(j, gx, v)])) out) : mGo M d (pc, L, .ref v :: .int i :: .ref j :: st, (sh, F, R0)) out := g_aastN gx hd hsh h4 hi hg hn hv hv4 hci k
theorem c_roomN {L : Nat} (d n b : Nat) (F : Nat → Nat → Int32) (R : Nat → Nat → Option Nat) (hn : ((mSH L).take n).length = n) (hb : ((mSH L).take n)[b]? = some (.inl 4)) (hS : iS ((mSH L).take n) = (mSH L).take (n + 15)) (h1 : ((mSH L).take n)[1]? = some (.inr (3, 4))) (h4 : 4 ≤ b) (hbn : b < n) (hF0 : F b = fun _ => 0) (hF : ∀ j, n ≤ j → F j = fun _ => 0) (hR : ∀ j, n ≤ j → R j = fun _ => none) : mCall (d + 2) yX4_init MX4_init [.ref b] ((mSH L).take n, F, R) none ((mSH L).take (n + 15), iF F n, iR R n b) := by
  rw [← hS]
  exact c_init_X4 d n b hn hb h4 hbn h1 hF0 hF hR
def f1 (F : Nat → Nat → Int32) : Nat → Nat → Int32 := (iF (iF (iF (iF (iF (iF (iF F 24) 40) 56) 72) 88) 104) 120)
def r1 (R : Nat → Nat → Option Nat) : Nat → Nat → Option Nat := (rW (iR (rW (iR (rW (iR (rW (iR (rW (iR (rW (iR (rW (iR (rW R [(21, 0, 22)]) 24 23) [(22, 0, 23)]) 40 39) [(22, 1, 39)]) 56 55) [(22, 2, 55)]) 72 71) [(22, 3, 71)]) 88 87) [(22, 4, 87)]) 104 103) [(22, 5, 103)]) 120 119) [(22, 6, 119)])
theorem f1_hi {F : Nat → Nat → Int32} {j : Nat} (h : 135 ≤ j) : f1 F j = F j := by
  unfold f1
  repeat (first | rw [iF_hi (by omega)] | rw [pe_row (by omega)])
theorem r1_hi {R : Nat → Nat → Option Nat} {j : Nat} (h : 135 ≤ j) : r1 R j = R j := by
  unfold r1
  repeat (first | rw [rW1 (by omega)] | rw [iR_hi (by omega) (by omega)])
set_option maxHeartbeats 4000000 in
set_option maxRecDepth 100000 in
theorem c_init_X1 {L : Nat} (d : Nat) (F : Nat → Nat → Int32) (R : Nat → Nat → Option Nat) (hF0 : F 21 = fun _ => 0) (hF : ∀ j, 22 ≤ j → F j = fun _ => 0) (hR : ∀ j, 22 ≤ j → R j = fun _ => none) : mCall (d + 3) yX1_init MX1_init [.ref 21] ((mSH L).take 22, F, R) none ((mSH L).take 135, f1 F, r1 R) := by
  refine mCall_of sX1_init.1 (Nat.le_of_ble_eq_true rfl) rfl ?_
  show mGo _ _ (0, [some (.ref 21), none], [], _) _
  refine g_aload_n dX1_init_0 rfl ?_
  refine g_obj dX1_init_1 ml_X1_3 wo_inst wo_code (Nat.le_of_ble_eq_true rfl) ?_
  refine g_aload_n dX1_init_4 rfl ?_
  refine g_bipushv (v := 7) dX1_init_5 rfl ?_
  refine g_newq (n := 22) (N := 7) dX1_init_7 cl_X1_9 (by decide) rfl (by decide) rfl (by (repeat (first | rw [rW1 (by omega)] | rw [iR_hi (by omega) (by omega)] | rw [r1_hi (by omega)] | rw [r5_hi (by omega)] | rw [r3_hi (by omega)])); exact hR _ (by omega)) ?_
  rw [show (mSH L).take 22 ++ [.inr (2, 7)] = (mSH L).take 23 from rfl]
  refine g_putW dX1_init_10 fl_X1_11 (Or.inr ⟨rfl, rfl, rfl⟩) rfl (by decide) (fun _ _ => rfl) (fun _ => ⟨rfl, rfl⟩) ?_
  refine g_aload_n dX1_init_13 rfl ?_
  refine g_iconstv (v := 0) dX1_init_14 rfl ?_
  refine g_pI dX1_init_15 fl_X1_17 (Or.inl rfl) rfl (by decide) rfl ?_
  rw [pe_id' hF0]
  refine g_iconstv (v := 0) dX1_init_18 rfl ?_
  refine g_istore_n dX1_init_19 (by decide) rfl ?_
  refine g_iload_n dX1_init_20 rfl ?_
  refine g_aload_n dX1_init_21 rfl ?_
  refine g_gR (r := 22) dX1_init_22 fl_X1_11 (fun _ _ => rfl) rfl (by decide) rfl ?_
  refine g_alen (n := 7) dX1_init_25 rfl (by decide) (by decide) ?_
  refine g_icmp_ge (tgt := 48) dX1_init_26 (by decide) (fun c => absurd c (by decide)) (fun c => ?_)
  refine g_aload_n dX1_init_29 rfl ?_
  refine g_gR (r := 22) dX1_init_30 fl_X1_11 (fun _ _ => rfl) rfl (by decide) rfl ?_
  refine g_iload_n dX1_init_33 rfl ?_
  refine g_new (n := 23) dX1_init_34 cl_X1_9 nc_X4 rfl (by (repeat (first | rw [iF_hi (by omega)] | rw [f1_hi (by omega)] | rw [f5_hi (by omega)])); exact hF _ (by omega)) (by (repeat (first | rw [rW1 (by omega)] | rw [iR_hi (by omega) (by omega)] | rw [r1_hi (by omega)] | rw [r5_hi (by omega)] | rw [r3_hi (by omega)])); exact hR _ (by omega)) ?_
  rw [show (mSH L).take 23 ++ [.inl 4] = (mSH L).take 24 from rfl]
  refine g_dup dX1_init_37 rfl ?_
  refine g_IN0 dX1_init_38 ml_X1_21 sX4_init (Nat.le_of_ble_eq_true rfl) (c_roomN (L := L) (d) 24 23 _ _ rfl rfl rfl rfl (by decide) (by decide) (by (repeat (first | rw [iF_hi (by omega)] | rw [f1_hi (by omega)] | rw [f5_hi (by omega)])); exact hF _ (by omega)) (fun j hj => (by (repeat (first | rw [iF_hi (by omega)] | rw [f1_hi (by omega)] | rw [f5_hi (by omega)])); exact hF j (by omega))) (fun j hj => (by (repeat (first | rw [rW1 (by omega)] | rw [iR_hi (by omega) (by omega)] | rw [r1_hi (by omega)] | rw [r5_hi (by omega)] | rw [r3_hi (by omega)])); exact hR j (by omega)))) ?_
  refine g_aastW (gx := 0) dX1_init_41 rfl (by decide) rfl (by decide) (by decide) rfl (by decide) rfl ?_
  refine g_iincv (v := 1) dX1_init_42 rfl rfl (by decide) rfl ?_
  refine g_goto (tgt := 20) dX1_init_45 (by decide) ?_
  refine g_iload_n dX1_init_20 rfl ?_
  refine g_aload_n dX1_init_21 rfl ?_
  refine g_gR (r := 22) dX1_init_22 fl_X1_11 (fun _ _ => rfl) rfl (by decide) rfl ?_
  refine g_alen (n := 7) dX1_init_25 rfl (by decide) (by decide) ?_
  refine g_icmp_ge (tgt := 48) dX1_init_26 (by decide) (fun c => absurd c (by decide)) (fun c => ?_)
  refine g_aload_n dX1_init_29 rfl ?_
  refine g_gR (r := 22) dX1_init_30 fl_X1_11 (fun _ _ => rfl) rfl (by decide) rfl ?_
  refine g_iload_n dX1_init_33 rfl ?_
  refine g_new (n := 39) dX1_init_34 cl_X1_9 nc_X4 rfl (by (repeat (first | rw [iF_hi (by omega)] | rw [f1_hi (by omega)] | rw [f5_hi (by omega)])); exact hF _ (by omega)) (by (repeat (first | rw [rW1 (by omega)] | rw [iR_hi (by omega) (by omega)] | rw [r1_hi (by omega)] | rw [r5_hi (by omega)] | rw [r3_hi (by omega)])); exact hR _ (by omega)) ?_
  rw [show (mSH L).take 39 ++ [.inl 4] = (mSH L).take 40 from rfl]
  refine g_dup dX1_init_37 rfl ?_
  refine g_IN0 dX1_init_38 ml_X1_21 sX4_init (Nat.le_of_ble_eq_true rfl) (c_roomN (L := L) (d) 40 39 _ _ rfl rfl rfl rfl (by decide) (by decide) (by (repeat (first | rw [iF_hi (by omega)] | rw [f1_hi (by omega)] | rw [f5_hi (by omega)])); exact hF _ (by omega)) (fun j hj => (by (repeat (first | rw [iF_hi (by omega)] | rw [f1_hi (by omega)] | rw [f5_hi (by omega)])); exact hF j (by omega))) (fun j hj => (by (repeat (first | rw [rW1 (by omega)] | rw [iR_hi (by omega) (by omega)] | rw [r1_hi (by omega)] | rw [r5_hi (by omega)] | rw [r3_hi (by omega)])); exact hR j (by omega)))) ?_
  refine g_aastW (gx := 1) dX1_init_41 rfl (by decide) rfl (by decide) (by decide) rfl (by decide) rfl ?_
  refine g_iincv (v := 2) dX1_init_42 rfl rfl (by decide) rfl ?_
  refine g_goto (tgt := 20) dX1_init_45 (by decide) ?_
  refine g_iload_n dX1_init_20 rfl ?_
  refine g_aload_n dX1_init_21 rfl ?_
  refine g_gR (r := 22) dX1_init_22 fl_X1_11 (fun _ _ => rfl) rfl (by decide) rfl ?_
  refine g_alen (n := 7) dX1_init_25 rfl (by decide) (by decide) ?_
  refine g_icmp_ge (tgt := 48) dX1_init_26 (by decide) (fun c => absurd c (by decide)) (fun c => ?_)
  refine g_aload_n dX1_init_29 rfl ?_
  refine g_gR (r := 22) dX1_init_30 fl_X1_11 (fun _ _ => rfl) rfl (by decide) rfl ?_
  refine g_iload_n dX1_init_33 rfl ?_
  refine g_new (n := 55) dX1_init_34 cl_X1_9 nc_X4 rfl (by (repeat (first | rw [iF_hi (by omega)] | rw [f1_hi (by omega)] | rw [f5_hi (by omega)])); exact hF _ (by omega)) (by (repeat (first | rw [rW1 (by omega)] | rw [iR_hi (by omega) (by omega)] | rw [r1_hi (by omega)] | rw [r5_hi (by omega)] | rw [r3_hi (by omega)])); exact hR _ (by omega)) ?_
  rw [show (mSH L).take 55 ++ [.inl 4] = (mSH L).take 56 from rfl]
  refine g_dup dX1_init_37 rfl ?_
  refine g_IN0 dX1_init_38 ml_X1_21 sX4_init (Nat.le_of_ble_eq_true rfl) (c_roomN (L := L) (d) 56 55 _ _ rfl rfl rfl rfl (by decide) (by decide) (by (repeat (first | rw [iF_hi (by omega)] | rw [f1_hi (by omega)] | rw [f5_hi (by omega)])); exact hF _ (by omega)) (fun j hj => (by (repeat (first | rw [iF_hi (by omega)] | rw [f1_hi (by omega)] | rw [f5_hi (by omega)])); exact hF j (by omega))) (fun j hj => (by (repeat (first | rw [rW1 (by omega)] | rw [iR_hi (by omega) (by omega)] | rw [r1_hi (by omega)] | rw [r5_hi (by omega)] | rw [r3_hi (by omega)])); exact hR j (by omega)))) ?_
  refine g_aastW (gx := 2) dX1_init_41 rfl (by decide) rfl (by decide) (by decide) rfl (by decide) rfl ?_
  refine g_iincv (v := 3) dX1_init_42 rfl rfl (by decide) rfl ?_
  refine g_goto (tgt := 20) dX1_init_45 (by decide) ?_
  refine g_iload_n dX1_init_20 rfl ?_
  refine g_aload_n dX1_init_21 rfl ?_
  refine g_gR (r := 22) dX1_init_22 fl_X1_11 (fun _ _ => rfl) rfl (by decide) rfl ?_
  refine g_alen (n := 7) dX1_init_25 rfl (by decide) (by decide) ?_
  refine g_icmp_ge (tgt := 48) dX1_init_26 (by decide) (fun c => absurd c (by decide)) (fun c => ?_)
  refine g_aload_n dX1_init_29 rfl ?_
  refine g_gR (r := 22) dX1_init_30 fl_X1_11 (fun _ _ => rfl) rfl (by decide) rfl ?_
  refine g_iload_n dX1_init_33 rfl ?_
  refine g_new (n := 71) dX1_init_34 cl_X1_9 nc_X4 rfl (by (repeat (first | rw [iF_hi (by omega)] | rw [f1_hi (by omega)] | rw [f5_hi (by omega)])); exact hF _ (by omega)) (by (repeat (first | rw [rW1 (by omega)] | rw [iR_hi (by omega) (by omega)] | rw [r1_hi (by omega)] | rw [r5_hi (by omega)] | rw [r3_hi (by omega)])); exact hR _ (by omega)) ?_
  rw [show (mSH L).take 71 ++ [.inl 4] = (mSH L).take 72 from rfl]
  refine g_dup dX1_init_37 rfl ?_
  refine g_IN0 dX1_init_38 ml_X1_21 sX4_init (Nat.le_of_ble_eq_true rfl) (c_roomN (L := L) (d) 72 71 _ _ rfl rfl rfl rfl (by decide) (by decide) (by (repeat (first | rw [iF_hi (by omega)] | rw [f1_hi (by omega)] | rw [f5_hi (by omega)])); exact hF _ (by omega)) (fun j hj => (by (repeat (first | rw [iF_hi (by omega)] | rw [f1_hi (by omega)] | rw [f5_hi (by omega)])); exact hF j (by omega))) (fun j hj => (by (repeat (first | rw [rW1 (by omega)] | rw [iR_hi (by omega) (by omega)] | rw [r1_hi (by omega)] | rw [r5_hi (by omega)] | rw [r3_hi (by omega)])); exact hR j (by omega)))) ?_
  refine g_aastW (gx := 3) dX1_init_41 rfl (by decide) rfl (by decide) (by decide) rfl (by decide) rfl ?_
  refine g_iincv (v := 4) dX1_init_42 rfl rfl (by decide) rfl ?_
  refine g_goto (tgt := 20) dX1_init_45 (by decide) ?_
  refine g_iload_n dX1_init_20 rfl ?_
  refine g_aload_n dX1_init_21 rfl ?_
  refine g_gR (r := 22) dX1_init_22 fl_X1_11 (fun _ _ => rfl) rfl (by decide) rfl ?_
  refine g_alen (n := 7) dX1_init_25 rfl (by decide) (by decide) ?_
  refine g_icmp_ge (tgt := 48) dX1_init_26 (by decide) (fun c => absurd c (by decide)) (fun c => ?_)
  refine g_aload_n dX1_init_29 rfl ?_
  refine g_gR (r := 22) dX1_init_30 fl_X1_11 (fun _ _ => rfl) rfl (by decide) rfl ?_
  refine g_iload_n dX1_init_33 rfl ?_
  refine g_new (n := 87) dX1_init_34 cl_X1_9 nc_X4 rfl (by (repeat (first | rw [iF_hi (by omega)] | rw [f1_hi (by omega)] | rw [f5_hi (by omega)])); exact hF _ (by omega)) (by (repeat (first | rw [rW1 (by omega)] | rw [iR_hi (by omega) (by omega)] | rw [r1_hi (by omega)] | rw [r5_hi (by omega)] | rw [r3_hi (by omega)])); exact hR _ (by omega)) ?_
  rw [show (mSH L).take 87 ++ [.inl 4] = (mSH L).take 88 from rfl]
  refine g_dup dX1_init_37 rfl ?_
  refine g_IN0 dX1_init_38 ml_X1_21 sX4_init (Nat.le_of_ble_eq_true rfl) (c_roomN (L := L) (d) 88 87 _ _ rfl rfl rfl rfl (by decide) (by decide) (by (repeat (first | rw [iF_hi (by omega)] | rw [f1_hi (by omega)] | rw [f5_hi (by omega)])); exact hF _ (by omega)) (fun j hj => (by (repeat (first | rw [iF_hi (by omega)] | rw [f1_hi (by omega)] | rw [f5_hi (by omega)])); exact hF j (by omega))) (fun j hj => (by (repeat (first | rw [rW1 (by omega)] | rw [iR_hi (by omega) (by omega)] | rw [r1_hi (by omega)] | rw [r5_hi (by omega)] | rw [r3_hi (by omega)])); exact hR j (by omega)))) ?_
  refine g_aastW (gx := 4) dX1_init_41 rfl (by decide) rfl (by decide) (by decide) rfl (by decide) rfl ?_
  refine g_iincv (v := 5) dX1_init_42 rfl rfl (by decide) rfl ?_
  refine g_goto (tgt := 20) dX1_init_45 (by decide) ?_
  refine g_iload_n dX1_init_20 rfl ?_
  refine g_aload_n dX1_init_21 rfl ?_
  refine g_gR (r := 22) dX1_init_22 fl_X1_11 (fun _ _ => rfl) rfl (by decide) rfl ?_
  refine g_alen (n := 7) dX1_init_25 rfl (by decide) (by decide) ?_
  refine g_icmp_ge (tgt := 48) dX1_init_26 (by decide) (fun c => absurd c (by decide)) (fun c => ?_)
  refine g_aload_n dX1_init_29 rfl ?_
  refine g_gR (r := 22) dX1_init_30 fl_X1_11 (fun _ _ => rfl) rfl (by decide) rfl ?_
  refine g_iload_n dX1_init_33 rfl ?_
  refine g_new (n := 103) dX1_init_34 cl_X1_9 nc_X4 rfl (by (repeat (first | rw [iF_hi (by omega)] | rw [f1_hi (by omega)] | rw [f5_hi (by omega)])); exact hF _ (by omega)) (by (repeat (first | rw [rW1 (by omega)] | rw [iR_hi (by omega) (by omega)] | rw [r1_hi (by omega)] | rw [r5_hi (by omega)] | rw [r3_hi (by omega)])); exact hR _ (by omega)) ?_
  rw [show (mSH L).take 103 ++ [.inl 4] = (mSH L).take 104 from rfl]
  refine g_dup dX1_init_37 rfl ?_
  refine g_IN0 dX1_init_38 ml_X1_21 sX4_init (Nat.le_of_ble_eq_true rfl) (c_roomN (L := L) (d) 104 103 _ _ rfl rfl rfl rfl (by decide) (by decide) (by (repeat (first | rw [iF_hi (by omega)] | rw [f1_hi (by omega)] | rw [f5_hi (by omega)])); exact hF _ (by omega)) (fun j hj => (by (repeat (first | rw [iF_hi (by omega)] | rw [f1_hi (by omega)] | rw [f5_hi (by omega)])); exact hF j (by omega))) (fun j hj => (by (repeat (first | rw [rW1 (by omega)] | rw [iR_hi (by omega) (by omega)] | rw [r1_hi (by omega)] | rw [r5_hi (by omega)] | rw [r3_hi (by omega)])); exact hR j (by omega)))) ?_
  refine g_aastW (gx := 5) dX1_init_41 rfl (by decide) rfl (by decide) (by decide) rfl (by decide) rfl ?_
  refine g_iincv (v := 6) dX1_init_42 rfl rfl (by decide) rfl ?_
  refine g_goto (tgt := 20) dX1_init_45 (by decide) ?_
  refine g_iload_n dX1_init_20 rfl ?_
  refine g_aload_n dX1_init_21 rfl ?_
  refine g_gR (r := 22) dX1_init_22 fl_X1_11 (fun _ _ => rfl) rfl (by decide) rfl ?_
  refine g_alen (n := 7) dX1_init_25 rfl (by decide) (by decide) ?_
  refine g_icmp_ge (tgt := 48) dX1_init_26 (by decide) (fun c => absurd c (by decide)) (fun c => ?_)
  refine g_aload_n dX1_init_29 rfl ?_
  refine g_gR (r := 22) dX1_init_30 fl_X1_11 (fun _ _ => rfl) rfl (by decide) rfl ?_
  refine g_iload_n dX1_init_33 rfl ?_
  refine g_new (n := 119) dX1_init_34 cl_X1_9 nc_X4 rfl (by (repeat (first | rw [iF_hi (by omega)] | rw [f1_hi (by omega)] | rw [f5_hi (by omega)])); exact hF _ (by omega)) (by (repeat (first | rw [rW1 (by omega)] | rw [iR_hi (by omega) (by omega)] | rw [r1_hi (by omega)] | rw [r5_hi (by omega)] | rw [r3_hi (by omega)])); exact hR _ (by omega)) ?_
  rw [show (mSH L).take 119 ++ [.inl 4] = (mSH L).take 120 from rfl]
  refine g_dup dX1_init_37 rfl ?_
  refine g_IN0 dX1_init_38 ml_X1_21 sX4_init (Nat.le_of_ble_eq_true rfl) (c_roomN (L := L) (d) 120 119 _ _ rfl rfl rfl rfl (by decide) (by decide) (by (repeat (first | rw [iF_hi (by omega)] | rw [f1_hi (by omega)] | rw [f5_hi (by omega)])); exact hF _ (by omega)) (fun j hj => (by (repeat (first | rw [iF_hi (by omega)] | rw [f1_hi (by omega)] | rw [f5_hi (by omega)])); exact hF j (by omega))) (fun j hj => (by (repeat (first | rw [rW1 (by omega)] | rw [iR_hi (by omega) (by omega)] | rw [r1_hi (by omega)] | rw [r5_hi (by omega)] | rw [r3_hi (by omega)])); exact hR j (by omega)))) ?_
  refine g_aastW (gx := 6) dX1_init_41 rfl (by decide) rfl (by decide) (by decide) rfl (by decide) rfl ?_
  refine g_iincv (v := 7) dX1_init_42 rfl rfl (by decide) rfl ?_
  refine g_goto (tgt := 20) dX1_init_45 (by decide) ?_
  refine g_iload_n dX1_init_20 rfl ?_
  refine g_aload_n dX1_init_21 rfl ?_
  refine g_gR (r := 22) dX1_init_22 fl_X1_11 (fun _ _ => rfl) rfl (by decide) rfl ?_
  refine g_alen (n := 7) dX1_init_25 rfl (by decide) (by decide) ?_
  refine g_icmp_ge (tgt := 48) dX1_init_26 (by decide) (fun c => ?_) (fun c => absurd (by decide) c)
  exact g_vret dX1_init_48 rfl
def f5 (F : Nat → Nat → Int32) : Nat → Nat → Int32 := (iF (iF F 138) 154)
def r5 (R : Nat → Nat → Option Nat) : Nat → Nat → Option Nat := (rW (rW (rW (iR (rW (iR R 138 137) [(136, 0, 137)]) 154 153) [(136, 1, 153)]) [(135, 0, 136)]) [(135, 1, 169)])
theorem f5_hi {F : Nat → Nat → Int32} {j : Nat} (h : 170 ≤ j) : f5 F j = F j := by
  unfold f5
  repeat (first | rw [iF_hi (by omega)] | rw [pe_row (by omega)])
theorem r5_hi {R : Nat → Nat → Option Nat} {j : Nat} (h : 170 ≤ j) : r5 R j = R j := by
  unfold r5
  repeat (first | rw [rW1 (by omega)] | rw [iR_hi (by omega) (by omega)])
set_option maxHeartbeats 4000000 in
set_option maxRecDepth 100000 in
theorem c_init_X5 {L : Nat} (d : Nat) (F : Nat → Nat → Int32) (R : Nat → Nat → Option Nat) (hF0 : F 135 = fun _ => 0) (hF : ∀ j, 136 ≤ j → F j = fun _ => 0) (hR : ∀ j, 136 ≤ j → R j = fun _ => none) : mCall (d + 3) yX5_init MX5_init [.ref 135] ((mSH L).take 136, F, R) none ((mSH L).take 170, f5 F, r5 R) := by
  refine mCall_of sX5_init.1 (Nat.le_of_ble_eq_true rfl) rfl ?_
  show mGo _ _ (0, [some (.ref 135)], [], _) _
  refine g_aload_n dX5_init_0 rfl ?_
  refine g_obj dX5_init_1 ml_X5_3 wo_inst wo_code (Nat.le_of_ble_eq_true rfl) ?_
  refine g_aload_n dX5_init_4 rfl ?_
  refine g_iconstv (v := 2) dX5_init_5 rfl ?_
  refine g_newq (n := 136) (N := 2) dX5_init_6 cl_X5_9 (by decide) rfl (by decide) rfl (by (repeat (first | rw [rW1 (by omega)] | rw [iR_hi (by omega) (by omega)] | rw [r1_hi (by omega)] | rw [r5_hi (by omega)] | rw [r3_hi (by omega)])); exact hR _ (by omega)) ?_
  rw [show (mSH L).take 136 ++ [.inr (2, 2)] = (mSH L).take 137 from rfl]
  refine g_dup dX5_init_9 rfl ?_
  refine g_iconstv (v := 0) dX5_init_10 rfl ?_
  refine g_new (n := 137) dX5_init_11 cl_X5_9 nc_X4 rfl (by (repeat (first | rw [iF_hi (by omega)] | rw [f1_hi (by omega)] | rw [f5_hi (by omega)])); exact hF _ (by omega)) (by (repeat (first | rw [rW1 (by omega)] | rw [iR_hi (by omega) (by omega)] | rw [r1_hi (by omega)] | rw [r5_hi (by omega)] | rw [r3_hi (by omega)])); exact hR _ (by omega)) ?_
  rw [show (mSH L).take 137 ++ [.inl 4] = (mSH L).take 138 from rfl]
  refine g_dup dX5_init_14 rfl ?_
  refine g_callIN6 (ci := 0) (As := []) (n := 0) dX5_init_15 ml_X5_11 sX4_init rfl (by decide) (c_roomN (L := L) (d) 138 137 _ _ rfl rfl rfl rfl (by decide) (by decide) (by (repeat (first | rw [iF_hi (by omega)] | rw [f1_hi (by omega)] | rw [f5_hi (by omega)])); exact hF _ (by omega)) (fun j hj => (by (repeat (first | rw [iF_hi (by omega)] | rw [f1_hi (by omega)] | rw [f5_hi (by omega)])); exact hF j (by omega))) (fun j hj => (by (repeat (first | rw [rW1 (by omega)] | rw [iR_hi (by omega) (by omega)] | rw [r1_hi (by omega)] | rw [r5_hi (by omega)] | rw [r3_hi (by omega)])); exact hR j (by omega)))) ?_
  refine g_aastW (gx := 0) dX5_init_18 rfl (by decide) rfl (by decide) (by decide) rfl (by decide) rfl ?_
  refine g_dup dX5_init_19 rfl ?_
  refine g_iconstv (v := 1) dX5_init_20 rfl ?_
  refine g_new (n := 153) dX5_init_21 cl_X5_9 nc_X4 rfl (by (repeat (first | rw [iF_hi (by omega)] | rw [f1_hi (by omega)] | rw [f5_hi (by omega)])); exact hF _ (by omega)) (by (repeat (first | rw [rW1 (by omega)] | rw [iR_hi (by omega) (by omega)] | rw [r1_hi (by omega)] | rw [r5_hi (by omega)] | rw [r3_hi (by omega)])); exact hR _ (by omega)) ?_
  rw [show (mSH L).take 153 ++ [.inl 4] = (mSH L).take 154 from rfl]
  refine g_dup dX5_init_24 rfl ?_
  refine g_callIN6 (ci := 0) (As := []) (n := 0) dX5_init_25 ml_X5_11 sX4_init rfl (by decide) (c_roomN (L := L) (d) 154 153 _ _ rfl rfl rfl rfl (by decide) (by decide) (by (repeat (first | rw [iF_hi (by omega)] | rw [f1_hi (by omega)] | rw [f5_hi (by omega)])); exact hF _ (by omega)) (fun j hj => (by (repeat (first | rw [iF_hi (by omega)] | rw [f1_hi (by omega)] | rw [f5_hi (by omega)])); exact hF j (by omega))) (fun j hj => (by (repeat (first | rw [rW1 (by omega)] | rw [iR_hi (by omega) (by omega)] | rw [r1_hi (by omega)] | rw [r5_hi (by omega)] | rw [r3_hi (by omega)])); exact hR j (by omega)))) ?_
  refine g_aastW (gx := 1) dX5_init_28 rfl (by decide) rfl (by decide) (by decide) rfl (by decide) rfl ?_
  refine g_putW dX5_init_29 fl_X5_12 (Or.inr ⟨rfl, rfl, rfl⟩) rfl (by decide) (fun _ _ => rfl) (fun _ => ⟨rfl, rfl⟩) ?_
  refine g_aload_n dX5_init_32 rfl ?_
  refine g_iconstv (v := 2) dX5_init_33 rfl ?_
  refine g_newz (n := 169) (N := 2) dX5_init_34 (by decide) rfl (by decide) rfl (by (repeat (first | rw [iF_hi (by omega)] | rw [f1_hi (by omega)] | rw [f5_hi (by omega)])); exact hF _ (by omega)) wk_bool ?_
  rw [show (mSH L).take 169 ++ [.inr (1, 2)] = (mSH L).take 170 from rfl]
  refine g_putW dX5_init_36 fl_X5_18 (Or.inr ⟨rfl, rfl, rfl⟩) rfl (by decide) (fun _ _ => rfl) (fun _ => ⟨rfl, rfl⟩) ?_
  exact g_vret dX5_init_39 rfl
def f6 (F : Nat → Nat → Int32) : Nat → Nat → Int32 := (f5 (f1 (iF F 6)))
def r6 (R : Nat → Nat → Option Nat) : Nat → Nat → Option Nat := (rW (rW (rW (r5 (rW (r1 (rW (iR R 6 5) [(4, 0, 5)])) [(4, 1, 21)])) [(4, 2, 135)]) [(170, 0, 171)]) [(4, 3, 170)])
theorem f6_hi {F : Nat → Nat → Int32} {j : Nat} (h : 172 ≤ j) : f6 F j = F j := by
  unfold f6
  repeat (first | rw [iF_hi (by omega)] | rw [pe_row (by omega)] | rw [f1_hi (by omega)] | rw [f5_hi (by omega)])
theorem r6_hi {R : Nat → Nat → Option Nat} {j : Nat} (h : 172 ≤ j) : r6 R j = R j := by
  unfold r6
  repeat (first | rw [rW1 (by omega)] | rw [iR_hi (by omega) (by omega)] | rw [r1_hi (by omega)] | rw [r5_hi (by omega)])
set_option maxHeartbeats 4000000 in
set_option maxRecDepth 100000 in
theorem c_init_X6 {L : Nat} (d : Nat) (F : Nat → Nat → Int32) (R : Nat → Nat → Option Nat) (hF0 : F 4 = fun _ => 0) (hF : ∀ j, 5 ≤ j → F j = fun _ => 0) (hR : ∀ j, 5 ≤ j → R j = fun _ => none) : mCall (d + 4) yX6_init MX6_init [.ref 4] ((mSH L).take 5, F, R) none ((mSH L).take 172, f6 F, r6 R) := by
  refine mCall_of sX6_init.1 (Nat.le_of_ble_eq_true rfl) rfl ?_
  show mGo _ _ (0, [some (.ref 4)], [], _) _
  refine g_aload_n dX6_init_0 rfl ?_
  refine g_obj dX6_init_1 ml_X6_1 wo_inst wo_code (Nat.le_of_ble_eq_true rfl) ?_
  refine g_aload_n dX6_init_4 rfl ?_
  refine g_new (n := 5) dX6_init_5 cl_X6_7 nc_X4 rfl (by (repeat (first | rw [iF_hi (by omega)] | rw [f1_hi (by omega)] | rw [f5_hi (by omega)])); exact hF _ (by omega)) (by (repeat (first | rw [rW1 (by omega)] | rw [iR_hi (by omega) (by omega)] | rw [r1_hi (by omega)] | rw [r5_hi (by omega)] | rw [r3_hi (by omega)])); exact hR _ (by omega)) ?_
  rw [show (mSH L).take 5 ++ [.inl 4] = (mSH L).take 6 from rfl]
  refine g_dup dX6_init_8 rfl ?_
  refine g_IN0 dX6_init_9 ml_X6_9 sX4_init (Nat.le_of_ble_eq_true rfl) (c_roomN (L := L) (d + 1) 6 5 _ _ rfl rfl rfl rfl (by decide) (by decide) (by (repeat (first | rw [iF_hi (by omega)] | rw [f1_hi (by omega)] | rw [f5_hi (by omega)])); exact hF _ (by omega)) (fun j hj => (by (repeat (first | rw [iF_hi (by omega)] | rw [f1_hi (by omega)] | rw [f5_hi (by omega)])); exact hF j (by omega))) (fun j hj => (by (repeat (first | rw [rW1 (by omega)] | rw [iR_hi (by omega) (by omega)] | rw [r1_hi (by omega)] | rw [r5_hi (by omega)] | rw [r3_hi (by omega)])); exact hR j (by omega)))) ?_
  refine g_putW dX6_init_12 fl_X6_10 (Or.inr ⟨rfl, rfl, rfl⟩) rfl (by decide) (fun _ _ => rfl) (fun _ => ⟨rfl, rfl⟩) ?_
  refine g_aload_n dX6_init_15 rfl ?_
  refine g_new (n := 21) dX6_init_16 cl_X6_16 nc_X1 rfl (by (repeat (first | rw [iF_hi (by omega)] | rw [f1_hi (by omega)] | rw [f5_hi (by omega)])); exact hF _ (by omega)) (by (repeat (first | rw [rW1 (by omega)] | rw [iR_hi (by omega) (by omega)] | rw [r1_hi (by omega)] | rw [r5_hi (by omega)] | rw [r3_hi (by omega)])); exact hR _ (by omega)) ?_
  rw [show (mSH L).take 21 ++ [.inl 1] = (mSH L).take 22 from rfl]
  refine g_dup dX6_init_19 rfl ?_
  refine g_I0 dX6_init_20 ml_X6_18 sX1_init (Nat.le_of_ble_eq_true rfl) (c_init_X1 (L := L) d _ _ (by (repeat (first | rw [iF_hi (by omega)] | rw [f1_hi (by omega)] | rw [f5_hi (by omega)])); exact hF _ (by omega)) (fun j hj => (by (repeat (first | rw [iF_hi (by omega)] | rw [f1_hi (by omega)] | rw [f5_hi (by omega)])); exact hF j (by omega))) (fun j hj => (by (repeat (first | rw [rW1 (by omega)] | rw [iR_hi (by omega) (by omega)] | rw [r1_hi (by omega)] | rw [r5_hi (by omega)] | rw [r3_hi (by omega)])); exact hR j (by omega)))) ?_
  refine g_putW dX6_init_23 fl_X6_19 (Or.inr ⟨rfl, rfl, rfl⟩) rfl (by decide) (fun _ _ => rfl) (fun _ => ⟨rfl, rfl⟩) ?_
  refine g_aload_n dX6_init_26 rfl ?_
  refine g_new (n := 135) dX6_init_27 cl_X6_23 nc_X5 rfl (by (repeat (first | rw [iF_hi (by omega)] | rw [f1_hi (by omega)] | rw [f5_hi (by omega)])); exact hF _ (by omega)) (by (repeat (first | rw [rW1 (by omega)] | rw [iR_hi (by omega) (by omega)] | rw [r1_hi (by omega)] | rw [r5_hi (by omega)] | rw [r3_hi (by omega)])); exact hR _ (by omega)) ?_
  rw [show (mSH L).take 135 ++ [.inl 5] = (mSH L).take 136 from rfl]
  refine g_dup dX6_init_30 rfl ?_
  refine g_IN0 dX6_init_31 ml_X6_25 sX5_init (Nat.le_of_ble_eq_true rfl) (c_init_X5 (L := L) d _ _ (by (repeat (first | rw [iF_hi (by omega)] | rw [f1_hi (by omega)] | rw [f5_hi (by omega)])); exact hF _ (by omega)) (fun j hj => (by (repeat (first | rw [iF_hi (by omega)] | rw [f1_hi (by omega)] | rw [f5_hi (by omega)])); exact hF j (by omega))) (fun j hj => (by (repeat (first | rw [rW1 (by omega)] | rw [iR_hi (by omega) (by omega)] | rw [r1_hi (by omega)] | rw [r5_hi (by omega)] | rw [r3_hi (by omega)])); exact hR j (by omega)))) ?_
  refine g_putW dX6_init_34 fl_X6_26 (Or.inr ⟨rfl, rfl, rfl⟩) rfl (by decide) (fun _ _ => rfl) (fun _ => ⟨rfl, rfl⟩) ?_
  refine g_aload_n dX6_init_37 rfl ?_
  refine g_new (n := 170) dX6_init_38 cl_X6_30 nc_X3 rfl (by (repeat (first | rw [iF_hi (by omega)] | rw [f1_hi (by omega)] | rw [f5_hi (by omega)])); exact hF _ (by omega)) (by (repeat (first | rw [rW1 (by omega)] | rw [iR_hi (by omega) (by omega)] | rw [r1_hi (by omega)] | rw [r5_hi (by omega)] | rw [r3_hi (by omega)])); exact hR _ (by omega)) ?_
  rw [show (mSH L).take 170 ++ [.inl 3] = (mSH L).take 171 from rfl]
  refine g_dup dX6_init_41 rfl ?_
  refine g_IN0 dX6_init_42 ml_X6_32 sX3_init (Nat.le_of_ble_eq_true rfl) (c_init_X3 (sh := (mSH L).take 171) (d + 2) 171 170 rfl rfl (by decide) (by (repeat (first | rw [iF_hi (by omega)] | rw [f1_hi (by omega)] | rw [f5_hi (by omega)])); exact hF _ (by omega)) (fun j hj => (by (repeat (first | rw [iF_hi (by omega)] | rw [f1_hi (by omega)] | rw [f5_hi (by omega)])); exact hF j (by omega)))) ?_
  rw [show (mSH L).take 171 ++ [.inr (0, 80)] = (mSH L).take 172 from rfl]
  refine g_putW dX6_init_45 fl_X6_33 (Or.inr ⟨rfl, rfl, rfl⟩) rfl (by decide) (fun _ _ => rfl) (fun _ => ⟨rfl, rfl⟩) ?_
  exact g_vret dX6_init_48 rfl
