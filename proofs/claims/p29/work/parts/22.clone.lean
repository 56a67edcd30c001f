theorem mk_clone {scr : Cell} {cA : ClassId} {N : Nat} {f : Nat → Int32} (hc : scr.cls = cA) (hs : scr.slots.size = N) (hv : ∀ j : Nat, j < N → scr.slots[j]? = some (.int (f j))) : ({ cls := scr.cls, slots := scr.slots } : Cell) = vp_cell cA (N, .inl f) := by
  have e : scr.slots = (arrV cA N (fun j => .int (f j))).slots := by
    apply Array.ext_getElem?
    intro i
    by_cases hi : i < N
    · rw [hv i hi, arrV_read _ _ hi]
    · rw [Array.getElem?_eq_none (by omega), Array.getElem?_eq_none (by rw [arrV_size]; omega)]
  rw [hc, e]
  rfl
set_option maxHeartbeats 4000000 in
/-- a copy of the read-only array at cell 1 -/
theorem g_clone {M : mM} {d pc : Nat} {L : mLs} {st : List Value} {sh : List mShp} {F : Nat → Nat → Int32} {R0 : Nat → Nat → Option Nat} {out : mOut} {idx n N : Nat} (hd : decode M.2.1 pc = .ok (.invokevirtual idx, 3)) (hl : Cond.methodLink M.1 idx ⟨"[I", "clone", "()Ljava/lang/Object;"⟩ ∈ mGW) (hst : st.length ≤ 4) (hlen : sh.length = n) (hN : sh[1]? = some (.inr (3, N))) (k : mGo M (d + 1) (pc + 3, L, .ref n :: st, (sh ++ [.inr (0, N)], va_up F n (F 1), R0)) out) : mGo M (d + 1) (pc, L, .ref 1 :: st, (sh, F, R0)) out := by
  subst hlen
  have k1 := k.1
  simp only [List.length_append, List.length_singleton, mSz_push] at k1
  refine ⟨⟨by show sh.length ≤ _; omega, by show mSz sh ≤ _; omega⟩, ?_⟩
  intro base spa spn spf cm D p l e R s m args below meth c Q cE sE H locs cells slots ls hX hfr hlo hcE hsE hK hc hs hD hS hL
  have hx := hX.1
  have hb := hX.2.1
  have hml := hX.2.2.2.1
  have hown := hX.2.2.2.2.1
  have hts := hX.2.2.2.2.2.2.2.1
  have hSta := hX.2.2.2.2.2.2.2.2
  have hK0 : va_K D mcl (mtys cm) s := hSta.1
  have hNw := hSta.2.1
  have hc' : cells + out.2.1.length = cE + sh.length := hc
  have hs' : slots + mSz out.2.1 = sE + mSz sh := hs
  have hnm : s.vm.findClass "[I" = some (cm 0) := va_nm_int (hK0.2 0 _ rfl).2
  obtain ⟨hlt, scr, hcell0, hof, hkn, hsz, hval⟩ := hSta.2.2.2.2.1 1 (by decide)
  obtain ⟨scr2, hc2, hcl2⟩ := hSta.2.2.2.2.2.2
  obtain rfl : scr = scr2 := Option.some.inj (hcell0.symm.trans hc2)
  have hbase := hSta.2.2.2.1
  have hcellH : H[spa 1]? = some scr := by rw [hS.2.1 _ (Nat.lt_of_lt_of_le hlt hbase) (Nat.not_le.mpr hlt)]; exact hcell0
  obtain ⟨e1, e2⟩ := hD.2.2.2 1 (by decide)
  have eN : spn 1 = N := by
    have := e1.symm.trans hN
    simp only [Option.some.injEq, Sum.inr.injEq, Prod.mk.injEq, true_and] at this
    exact this
  have eF : F 1 = spf 1 := e2
  obtain ⟨c0, t0', f1, f2, f3⟩ := Cond.castable_spec (va_Nw.use (A := args) rfl (hNw _ wc_cast))
  obtain rfl : cm 0 = c0 := Option.some.inj (hnm.symm.trans f1)
  have hcell : ({ cls := scr.cls, slots := scr.slots } : Cell) = vp_cell (cm 0) (N, .inl (F 1)) := by
    rw [eF, ← eN]
    exact mk_clone hcl2 hsz hval
  intro T hT X
  have hcellT : T.heap[spa 1]? = some scr := by rw [hT]; exact hcellH
  obtain ⟨-, kA, hkA, comp, hkind⟩ := State.isArrayOf_alike X.warmed.alike ((hK0.2 0 _ rfl).1 0 (fun _ => .null))
  obtain ⟨-, kS, hkS, compS, hkindS⟩ := (hK0.2 0 _ rfl).1 0 (fun _ => .null)
  have hcat : ((st.map (mtv base spa)).map fun v => v.category).sum ≤ 8 := by
    have hle : ∀ (q : List Value), ((q.map (mtv base spa)).map fun v => v.category).sum ≤ 2 * q.length := by
      intro q
      induction q with
      | nil => simp
      | cons v q ih =>
        have : (mtv base spa v).category ≤ 2 := by cases v <;> simp [mtv, Value.category]
        simp only [List.map_cons, List.sum_cons, List.length_cons]
        omega
    have := hle st
    omega
  obtain ⟨vm', X', sT⟩ := X.cloneArray hx hown (hts _ hl) (hts _ wc_same) (hts _ wc_nat) (hts _ wc_inst) (hts _ wc_sel) (a := spa 1) (cell := scr) hcellT hof.1 hkn (by rw [hcl2]; exact hnm) f2 (by rw [hcl2]; exact f3)
    (fun i v hv => by
      rw [hcl2]
      have hk' : T.vm.classes[cm 0]? = some kA := hkA
      have hi : i < spn 1 := by
        by_cases hi : i < spn 1
        · exact hi
        · rw [Array.getElem?_eq_none (by omega)] at hv
          cases hv
      rw [hval i hi] at hv
      cases hv
      simp [State.fitsSlot, State.slotType?, hk', hkind, fits])
    (g := F0 m pc ls (.ref (spa 1) :: st.map (mtv base spa))) rfl (by rw [hml]; exact hL.1) rfl (by rw [hb]; exact hd) (by omega) (by show 2 * 0 + _ + 14 ≤ _; omega) (by omega) (by rw [hsz, eN]; omega) (hloader := by rw [hcl2]; exact Vm.clonesLoader_of_array hkS hkindS)
  rw [hcell, hsz, eN] at X'
  generalize hH1 : H.push (vp_cell (cm 0) (N, .inl (F 1))) = H1
  have z1 : H1.size = H.size + 1 := by rw [← hH1, Array.size_push]
  have g1 : H1[H.size]? = some (vp_cell (cm 0) (N, .inl (F 1))) := by rw [← hH1, Array.getElem?_push_size]
  have o1 : ∀ q : Nat, q < H.size → H1[q]? = H[q]? := fun q hq => by rw [← hH1, Array.getElem?_push, if_neg (Nat.ne_of_lt hq)]
  have hD1 : mD base spa spn spf cm D (sh ++ [.inr (0, N)], va_up F sh.length (F 1), R0) H1 := by
    refine mD_push hD (fun a ha => va_up_ne _ _ ha) (fun _ _ => rfl) z1 o1 ?_
    rw [mce_int (by decide), va_up_self]
    exact g1
  have h9 := k.2 base spa spn spf cm D p l e R s m args below meth c Q cE sE H1 locs (cells + 1) (slots + N) ls hX hfr hlo hcE hsE hK (by show cells + 1 + out.2.1.length = cE + (sh ++ [_]).length; simp; omega) (by show slots + N + mSz out.2.1 = sE + mSz (sh ++ [_]); rw [mSz_push]; simp only; omega) hD1 (mb_len hS z1 o1 hbase) hL
  have e9 : mtv base spa (.ref sh.length) = .ref H.size := congrArg Value.ref (mad_len hD)
  rw [List.map_cons, e9] at h9
  obtain ⟨t, b1, b2⟩ := h9 ((T.setVm vm').pushCell (vp_cell (cm 0) (N, .inl (F 1)))) (by rw [← hH1, ← hT]; rfl) X'
  refine ⟨t, ?_, b2⟩
  have h10 := sT t
  rw [hcell, hT] at h10
  exact h10 b1
/-- a cast of an array of ints to its own type -/
theorem g_castI {M : mM} {d pc : Nat} {L : mLs} {st : List Value} {hp : mHp} {out : mOut} {idx j N : Nat} (hd : decode M.2.1 pc = .ok (.checkcast idx, 3)) (hl : Cond.classLink M.1 idx "[I" ∈ mGW) (hsh : hp.1[j]? = some (.inr (0, N))) (h4 : 4 ≤ j) (k : mGo M d (pc + 3, L, .ref j :: st, hp) out) : mGo M d (pc, L, .ref j :: st, hp) out := by
  refine ⟨k.1, ?_⟩
  intro base spa spn spf cm D p l e R s m args below meth c Q cE sE H locs cells slots ls hX hfr hlo hcE hsE hK hc hs hD hS hL
  have hx := hX.1
  have hb := hX.2.1
  have hSta := hX.2.2.2.2.2.2.2.2
  have h9 := k.2 base spa spn spf cm D p l e R s m args below meth c Q cE sE H locs cells slots ls hX hfr hlo hcE hsE hK hc hs hD hS hL
  rw [List.map_cons] at h9 ⊢
  rw [show mtv base spa (.ref j) = .ref (base + (j - 4)) from congrArg Value.ref (mad_hi h4)] at h9 ⊢
  exact va_castA hx hb hX.2.2.2.2.1 (hX.2.2.2.2.2.2.2.1 _ hl) hD.2.2.1 (j - 4) (mW_get h4 hsh) (va_nm_int (hSta.1.2 0 _ rfl).2) hd h9
