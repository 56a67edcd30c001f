theorem mad_len {base : Nat} {spa spn : Nat → Nat} {spf : Nat → Nat → Int32} {cm : Nat → ClassId} {D : va_G} {hp : mHp} {H : Heap} (hD : mD base spa spn spf cm D hp H) : mad base spa hp.1.length = H.size := by rw [mad_hi hD.1]; exact hD.2.1.symm
theorem mb_len {base : Nat} {H0 H H1 : Heap} {locs : List Loc} (hS : va_S (fun q => base ≤ q) H0 H locs) (z : H1.size = H.size + 1) (oq : ∀ q : Nat, q < H.size → H1[q]? = H[q]?) (hb : base ≤ H0.size) : va_S (fun q => base ≤ q) H0 H1 locs :=
  ⟨Nat.le_trans hS.1 (by omega), fun x h1 h2 => (oq x (Nat.lt_of_lt_of_le h1 hS.1)).trans (hS.2.1 x h1 h2), hS.2.2⟩
theorem g_new {M : mM} {d pc : Nat} {L : mLs} {st : List Value} {sh : List mShp} {F : Nat → Nat → Int32} {R0 : Nat → Nat → Option Nat} {out : mOut} {idx ci n : Nat} {C : String} (hd : decode M.2.1 pc = .ok (.new idx, 3)) (hw : Cond.classLink M.1 idx C ∈ mGW) (hn : mNC ci C) (hlen : sh.length = n) (hF : F n = fun _ => 0) (hR : R0 n = fun _ => none) (k : mGo M d (pc + 3, L, .ref n :: st, (sh ++ [.inl ci], F, R0)) out) : mGo M d (pc, L, st, (sh, F, R0)) out := by
  subst hlen
  have k1 := k.1
  simp only [List.length_append, List.length_singleton, mSz_push] at k1
  refine ⟨⟨by show sh.length ≤ _; omega, by show mSz sh ≤ _; omega⟩, ?_⟩
  intro base spa spn spf cm D p l e R s m args below meth c Q cE sE H locs cells slots ls hX hfr hlo hcE hsE hK hc hs hD hS hL
  have hx := hX.1
  have hb := hX.2.1
  obtain ⟨T, N, e1, e2, e4, e5, e6, e7, e8⟩ := hn
  have hts := hX.2.2.2.2.2.2.2.1
  have hK0 : va_K D mcl (mtys cm) s := hX.2.2.2.2.2.2.2.2.1
  have hKn := hK0.1 ci _ e1
  have hc' : cells + out.2.1.length = cE + sh.length := hc
  have hs' : slots + mSz out.2.1 = sE + mSz sh := hs
  refine W.newcK hx hb hX.2.2.2.2.1 (hts _ hw) (hts _ e5) (hts _ e6) rfl hd (by omega) (by omega) hKn.2.1 rfl fun H1 kC hkC g1 z1 o1 => ?_
  have hD1 : mD base spa spn spf cm D (sh ++ [.inl ci], F, R0) H1 := by
    refine mD_push hD (fun _ _ => rfl) (fun _ _ => rfl) z1 o1 ?_
    rw [mce_obj, hF, hR]
    refine ⟨_, e1, (u_born (mty ci) hts e4 hKn hkC g1 e7).to (fun j hj => ?_)⟩
    show defaultValue (mty ci j) = ((List.range (mN ci)).map _).getD j .null
    have hjN : j < mN ci := by rw [e2]; exact hj
    rw [List.getD_eq_getElem?_getD, List.getElem?_map, List.getElem?_range hjN, e8 j hj]
    show mfv (mty ci j) 0 none = mtv base spa (mfv (mty ci j) 0 none)
    cases mty ci j <;> rfl
  have h9 := k.2 base spa spn spf cm D p l e R s m args below meth c Q cE sE H1 locs (cells + 1) (slots + N) ls hX hfr hlo hcE hsE hK (by show cells + 1 + out.2.1.length = cE + (sh ++ [_]).length; simp; omega) (by show slots + N + mSz out.2.1 = sE + mSz (sh ++ [_]); rw [mSz_push]; simp only [e2]; omega) hD1 (mb_len hS z1 o1 hX.2.2.2.2.2.2.2.2.2.2.2.1) hL
  have e9 : mtv base spa (.ref sh.length) = .ref H.size := congrArg Value.ref (mad_len hD)
  rw [List.map_cons, e9] at h9
  exact h9
theorem g_newi {M : mM} {d pc : Nat} {L : mLs} {st : List Value} {sh : List mShp} {F : Nat → Nat → Int32} {R0 : Nat → Nat → Option Nat} {out : mOut} {n N : Nat} {x : Int32} (hd : decode M.2.1 pc = .ok (.newarray .int, 2)) (hx0 : ¬ x < 0) (hN : x.toNatClampNeg = N) (hN2 : N ≤ 100000) (hlen : sh.length = n) (hF : F n = fun _ => 0) (hg : Cond.arrayClass .int ∈ mGW) (k : mGo M d (pc + 2, L, .ref n :: st, (sh ++ [.inr (0, N)], F, R0)) out) : mGo M d (pc, L, .int x :: st, (sh, F, R0)) out := by
  subst hlen
  have k1 := k.1
  simp only [List.length_append, List.length_singleton, mSz_push] at k1
  refine ⟨⟨by show sh.length ≤ _; omega, by show mSz sh ≤ _; omega⟩, ?_⟩
  intro base spa spn spf cm D p l e R s m args below meth c Q cE sE H locs cells slots ls hX hfr hlo hcE hsE hK hc hs hD hS hL
  have hx := hX.1
  have hb := hX.2.1
  have hts := hX.2.2.2.2.2.2.2.1
  have hK0 : va_K D mcl (mtys cm) s := hX.2.2.2.2.2.2.2.2.1
  have hc' : cells + out.2.1.length = cE + sh.length := hc
  have hs' : slots + mSz out.2.1 = sE + mSz sh := hs
  refine va_newaK (atype := .int) hx hb (hts _ hg) rfl hd rfl hx0 hN (by show N * 4 ≤ 536870912; omega) (by omega) (by omega) rfl fun H1 cA g1 z1 o1 hAr hNm => ?_
  have hcA : cA = cm 0 := Option.some.inj (hNm.symm.trans (hK0.2 0 _ rfl).2)
  subst hcA
  have hD1 : mD base spa spn spf cm D (sh ++ [.inr (0, N)], F, R0) H1 := by
    refine mD_push hD (fun _ _ => rfl) (fun _ _ => rfl) z1 o1 ?_
    rw [mce_int (by decide), hF]
    exact g1
  have h9 := k.2 base spa spn spf cm D p l e R s m args below meth c Q cE sE H1 locs (cells + 1) (slots + N) ls hX hfr hlo hcE hsE hK (by show cells + 1 + out.2.1.length = cE + (sh ++ [_]).length; simp; omega) (by show slots + N + mSz out.2.1 = sE + mSz (sh ++ [_]); rw [mSz_push]; simp only; omega) hD1 (mb_len hS z1 o1 hX.2.2.2.2.2.2.2.2.2.2.2.1) hL
  have e9 : mtv base spa (.ref sh.length) = .ref H.size := congrArg Value.ref (mad_len hD)
  rw [List.map_cons, e9] at h9
  exact h9
theorem g_newz {M : mM} {d pc : Nat} {L : mLs} {st : List Value} {sh : List mShp} {F : Nat → Nat → Int32} {R0 : Nat → Nat → Option Nat} {out : mOut} {n N : Nat} {x : Int32} (hd : decode M.2.1 pc = .ok (.newarray .boolean, 2)) (hx0 : ¬ x < 0) (hN : x.toNatClampNeg = N) (hN2 : N ≤ 100000) (hlen : sh.length = n) (hF : F n = fun _ => 0) (hg : Cond.arrayClass .boolean ∈ mGW) (k : mGo M d (pc + 2, L, .ref n :: st, (sh ++ [.inr (1, N)], F, R0)) out) : mGo M d (pc, L, .int x :: st, (sh, F, R0)) out := by
  subst hlen
  have k1 := k.1
  simp only [List.length_append, List.length_singleton, mSz_push] at k1
  refine ⟨⟨by show sh.length ≤ _; omega, by show mSz sh ≤ _; omega⟩, ?_⟩
  intro base spa spn spf cm D p l e R s m args below meth c Q cE sE H locs cells slots ls hX hfr hlo hcE hsE hK hc hs hD hS hL
  have hx := hX.1
  have hb := hX.2.1
  have hts := hX.2.2.2.2.2.2.2.1
  have hK0 : va_K D mcl (mtys cm) s := hX.2.2.2.2.2.2.2.2.1
  have hc' : cells + out.2.1.length = cE + sh.length := hc
  have hs' : slots + mSz out.2.1 = sE + mSz sh := hs
  refine va_newaK (atype := .boolean) hx hb (hts _ hg) rfl hd rfl hx0 hN (by show N * 1 ≤ 536870912; omega) (by omega) (by omega) rfl fun H1 cA g1 z1 o1 hAr hNm => ?_
  have hcA : cA = cm 1 := Option.some.inj (hNm.symm.trans (hK0.2 1 _ rfl).2)
  subst hcA
  have hD1 : mD base spa spn spf cm D (sh ++ [.inr (1, N)], F, R0) H1 := by
    refine mD_push hD (fun _ _ => rfl) (fun _ _ => rfl) z1 o1 ?_
    rw [mce_int (by decide), hF]
    exact g1
  have h9 := k.2 base spa spn spf cm D p l e R s m args below meth c Q cE sE H1 locs (cells + 1) (slots + N) ls hX hfr hlo hcE hsE hK (by show cells + 1 + out.2.1.length = cE + (sh ++ [_]).length; simp; omega) (by show slots + N + mSz out.2.1 = sE + mSz (sh ++ [_]); rw [mSz_push]; simp only; omega) hD1 (mb_len hS z1 o1 hX.2.2.2.2.2.2.2.2.2.2.2.1) hL
  have e9 : mtv base spa (.ref sh.length) = .ref H.size := congrArg Value.ref (mad_len hD)
  rw [List.map_cons, e9] at h9
  exact h9
theorem g_newq {M : mM} {d pc : Nat} {L : mLs} {st : List Value} {sh : List mShp} {F : Nat → Nat → Int32} {R0 : Nat → Nat → Option Nat} {out : mOut} {idx n N : Nat} {x : Int32} (hd : decode M.2.1 pc = .ok (.anewarray idx, 3)) (hw : Cond.classLink M.1 idx RX4 ∈ mGW) (hx0 : ¬ x < 0) (hN : x.toNatClampNeg = N) (hN2 : N ≤ 100000) (hlen : sh.length = n) (hR : R0 n = fun _ => none) (k : mGo M d (pc + 3, L, .ref n :: st, (sh ++ [.inr (2, N)], F, R0)) out) : mGo M d (pc, L, .int x :: st, (sh, F, R0)) out := by
  subst hlen
  subst hN
  have k1 := k.1
  simp only [List.length_append, List.length_singleton, mSz_push] at k1
  refine ⟨⟨by show sh.length ≤ _; omega, by show mSz sh ≤ _; omega⟩, ?_⟩
  intro base spa spn spf cm D p l e R s m args below meth c Q cE sE H locs cells slots ls hX hfr hlo hcE hsE hK hc hs hD hS hL
  have hx := hX.1
  have hb := hX.2.1
  have hts := hX.2.2.2.2.2.2.2.1
  have hK0 : va_K D mcl (mtys cm) s := hX.2.2.2.2.2.2.2.2.1
  have hc' : cells + out.2.1.length = cE + sh.length := hc
  have hs' : slots + mSz out.2.1 = sE + mSz sh := hs
  refine W.anew hx hb hX.2.2.2.2.1 (hts _ hw) (va_AO.use hX.2.2.2.2.2.2.2.2.2.2.1) rfl hd rfl hx0 (by omega) (by omega) (by omega) fun cA kA comp f1 f2 f3 f4 => ?_
  obtain ⟨kA2, comp2, -, -, -, j4⟩ := (hK0.2 2 _ rfl).2
  have hcA : cA = cm 2 := Option.some.inj (f1.symm.trans j4)
  subst hcA
  generalize hH1 : H.push ({ cls := cm 2, slots := Array.replicate x.toNatClampNeg .null, vm := .none } : Cell) = H1
  have z1 : H1.size = H.size + 1 := by rw [← hH1, Array.size_push]
  have g1 : H1[H.size]? = some (arrV (cm 2) x.toNatClampNeg (fun _ => .null)) := by rw [← hH1, Array.getElem?_push_size, ← arrV_new]
  have o1 : ∀ q : Nat, q < H.size → H1[q]? = H[q]? := fun q hq => by rw [← hH1, Array.getElem?_push, if_neg (Nat.ne_of_lt hq)]
  have hD1 : mD base spa spn spf cm D (sh ++ [.inr (2, x.toNatClampNeg)], F, R0) H1 := by
    refine mD_push hD (fun _ _ => rfl) (fun _ _ => rfl) z1 o1 ?_
    rw [mce_ref, hR]
    exact g1
  have h9 := k.2 base spa spn spf cm D p l e R s m args below meth c Q cE sE H1 locs (cells + 1) (slots + x.toNatClampNeg) ls hX hfr hlo hcE hsE hK (by show cells + 1 + out.2.1.length = cE + (sh ++ [_]).length; simp; omega) (by show slots + x.toNatClampNeg + mSz out.2.1 = sE + mSz (sh ++ [_]); rw [mSz_push]; simp only; omega) hD1 (mb_len hS z1 o1 hX.2.2.2.2.2.2.2.2.2.2.2.1) hL
  have e9 : mtv base spa (.ref sh.length) = .ref H.size := congrArg Value.ref (mad_len hD)
  rw [List.map_cons, e9] at h9
  exact h9
theorem m_rest {base : Nat} {spa : Nat → Nat} {st : List Value} {n : Nat} (h : st.length ≤ n) : ((st.map (mtv base spa)).map fun v => v.category).sum ≤ 2 * n := by
  induction st generalizing n with
  | nil => simp
  | cons v t ih =>
    have h1 : t.length + 1 ≤ n := by simpa using h
    have h2 := ih (n := n - 1) (by omega)
    have h3 : v.category ≤ 2 := by cases v <;> simp [Value.category]
    simp only [List.map_cons, List.sum_cons, mtv_cat]
    omega
theorem g_obj {M : mM} {d pc j : Nat} {L : mLs} {st : List Value} {hp : mHp} {out : mOut} {idx : Nat} (hd : decode M.2.1 pc = .ok (.invokespecial idx, 3)) (hw : Cond.methodLink M.1 idx objectInit ∈ mGW) (w1 : Cond.instanceMethod objectInit ∈ mGW) (w2 : Cond.code objectInit ⟨#[0xb1]⟩ 1 none ∈ mGW) (hst : st.length ≤ 4) (k : mGo M (d + 1) (pc + 3, L, st, hp) out) : mGo M (d + 1) (pc, L, .ref j :: st, hp) out := by
  refine ⟨k.1, ?_⟩
  intro base spa spn spf cm D p l e R s m args below meth c Q cE sE H locs cells slots ls hX hfr hlo hcE hsE hK hc hs hD hS hL
  have hx := hX.1
  have hb := hX.2.1
  have hts := hX.2.2.2.2.2.2.2.1
  have h8 := m_rest (base := base) (spa := spa) hst
  refine W.objInit (a := mad base spa j) (rest := st.map (mtv base spa)) hx hb hX.2.2.2.2.1 (hts _ hw) (hts _ w1) (hts _ w2) rfl (by show ls.size = _; rw [hX.2.2.2.1]; exact hL.1) rfl hd (by omega) (by show 2 * 0 + _ + 12 ≤ _; omega) ?_
  exact k.2 base spa spn spf cm D p l e R s m args below meth c Q cE sE H locs cells slots ls hX hfr hlo hcE hsE hK hc hs hD hS hL
theorem m_nn {z : Int32} (hz : ¬ z < 0) : z.toInt = (z.toNatClampNeg : Int) := by
  have hz0 : (0 : Int) ≤ z.toInt := by
    have := Int32.not_lt.mp hz
    simpa using Int32.le_iff_toInt_le.mp this
  show z.toInt = ((z.toInt.toNat : Nat) : Int)
  omega
theorem g_copy {M : mM} {d pc : Nat} {L : mLs} {st : List Value} {sh : List mShp} {F : Nat → Nat → Int32} {R0 : Nat → Nat → Option Nat} {out : mOut} {idx a b n0 n1 : Nat} {sp dp n : Int32} (hd : decode M.2.1 pc = .ok (.invokestatic idx, 3)) (hw : Cond.methodLink M.1 idx arraycopyName ∈ mGW) (w1 : Cond.native arraycopyName ∈ mGW) (w2 : Cond.static arraycopyName ∈ mGW) (w3 : Cond.initialized "java/lang/System" ∈ mGW) (ha : sh[a]? = some (.inr (0, n0))) (hb0 : sh[b]? = some (.inr (0, n1))) (ha4 : 4 ≤ a) (hb4 : 4 ≤ b)
    (h1 : ¬ sp < 0) (h2 : ¬ dp < 0) (h3 : ¬ n < 0) (h4 : sp.toNatClampNeg + n.toNatClampNeg ≤ n0) (h5 : dp.toNatClampNeg + n.toNatClampNeg ≤ n1) (hst : st.length ≤ 4) (k : mGo M (d + 1) (pc + 3, L, st, (sh, va_up F b (va_cpy (F a) (F b) sp.toNatClampNeg dp.toNatClampNeg n.toNatClampNeg), R0)) out) : mGo M (d + 1) (pc, L, .int n :: .int dp :: .ref b :: .int sp :: .ref a :: st, (sh, F, R0)) out := by
  refine ⟨k.1, ?_⟩
  intro base spa spn spf cm D p l e R s m args below meth c Q cE sE H locs cells slots ls hX hfr hlo hcE hsE hK hc hs hD hS hL
  have hx := hX.1
  have hb := hX.2.1
  have hts := hX.2.2.2.2.2.2.2.1
  have h8 := m_rest (base := base) (spa := spa) hst
  have hK0 : va_K D mcl (mtys cm) s := hX.2.2.2.2.2.2.2.2.1
  show W p l e R s m args below meth c H locs cells slots Q (F0 m pc ls (.int n :: .int dp :: .ref (mad base spa b) :: .int sp :: .ref (mad base spa a) :: st.map (mtv base spa)))
  rw [mad_hi ha4, mad_hi hb4]
  have hc0 : H[base + (a - 4)]? = some (vp_cell (cm 0) (n0, .inl (F a))) := hD.2.2.1 _ _ (mW_get (hp := (sh, F, R0)) ha4 ha)
  have hc1 : H[base + (b - 4)]? = some (vp_cell (cm 0) (n1, .inl (F b))) := hD.2.2.1 _ _ (mW_get (hp := (sh, F, R0)) hb4 hb0)
  intro T hT X
  obtain ⟨-, k0, hk0, cm0, hkk0⟩ := (hK0.2 0 _ rfl).1 n0 (fun j => .int (F a j))
  obtain ⟨vm', X', step⟩ := X.arraycopy hx hX.2.2.2.2.1 (hts _ hw) (hts _ w1) (hts _ w2) (hts _ w3) (src := base + (a - 4)) (dst := base + (b - 4)) (cs := vp_cell (cm 0) (n0, .inl (F a))) (cd := vp_cell (cm 0) (n1, .inl (F b))) (srcPos := sp) (destPos := dp) (n := n) (by rw [hT]; exact hc0) (by rw [hT]; exact hc1)
    (fun _ h => by cases h) (fun _ h => by cases h) (fun h => by cases h) (fun h => by cases h) hk0 hk0 hkk0 hkk0 (by simp [refKind]) h1 h2 h3
    (by rw [m_nn h1, m_nn h3]; show ¬ _ > ((arrV (cm 0) n0 (fun j => .int (F a j))).slots.size : Int); rw [arrV_size]; omega)
    (by rw [m_nn h2, m_nn h3]; show ¬ _ > ((arrV (cm 0) n1 (fun j => .int (F b j))).slots.size : Int); rw [arrV_size]; omega)
    (fun vm₁ _ i hi => by
      have e : (vp_cell (cm 0) (n0, .inl (F a))).slots.getD (sp.toNatClampNeg + i) .null = .int (F a (sp.toNatClampNeg + i)) := by
        show (arrV (cm 0) n0 (fun j => .int (F a j))).slots.getD _ _ = _
        rw [Array.getD_eq_getD_getElem?, arrV_read _ _ (by omega)]
        rfl
      refine ⟨?_, ?_⟩
      · rw [e]
        rfl
      · rw [e]
        exact trivial)
    (g := F0 m pc ls (.int n :: .int dp :: .ref (base + (b - 4)) :: .int sp :: .ref (base + (a - 4)) :: st.map (mtv base spa))) rfl (by rw [hX.2.2.2.1]; exact hL.1) (rest := st.map (mtv base spa)) rfl (by rw [hb]; exact hd) (by omega) (by
      have e8 : nativeFrameWords "java/lang/System" "arraycopy" 5 ≤ 21 := by decide +kernel
      show 2 * 0 + _ + _ ≤ _
      omega)
  have e1 : copied (vp_cell (cm 0) (n0, .inl (F a))) (vp_cell (cm 0) (n1, .inl (F b))) sp dp n = vp_cell (cm 0) (n1, .inl (va_cpy (F a) (F b) sp.toNatClampNeg dp.toNatClampNeg n.toNatClampNeg)) := va_copied (fun z => .int z) (cm 0) (cm 0) (F a) (F b) h4
  rw [e1] at X' step
  have hl : base + (b - 4) < H.size := (Array.getElem?_eq_some_iff.mp hc1).1
  generalize hH1 : H.setIfInBounds (base + (b - 4)) (vp_cell (cm 0) (n1, .inl (va_cpy (F a) (F b) sp.toNatClampNeg dp.toNatClampNeg n.toNatClampNeg))) = H1
  have hheap : ((T.setVm vm').setCell (base + (b - 4)) (vp_cell (cm 0) (n1, .inl (va_cpy (F a) (F b) sp.toNatClampNeg dp.toNatClampNeg n.toNatClampNeg)))).heap = H1 := by rw [← hH1, ← hT]; rfl
  have z1 : H1.size = H.size := by rw [← hH1]; simp
  have oq : ∀ q : Nat, q ≠ base + (b - 4) → H1[q]? = H[q]? := fun q hq => by rw [← hH1]; simp [Array.getElem?_setIfInBounds, Ne.symm hq]
  have g1 : H1[base + (b - 4)]? = some (vp_cell (cm 0) (n1, .inl (va_cpy (F a) (F b) sp.toNatClampNeg dp.toNatClampNeg n.toNatClampNeg))) := by rw [← hH1]; simp [Array.getElem?_setIfInBounds, hl]
  obtain ⟨t, a1, b1⟩ := k.2 base spa spn spf cm D p l e R s m args below meth c Q cE sE H1 _ cells slots ls hX hfr hlo hcE hsE hK hc hs (mD_upd hD hb4 hb0 (fun q hq => va_up_ne _ _ hq) (fun _ _ => rfl) z1 oq (by rw [mce_int (by decide), va_up_eq]; exact g1)) ⟨by rw [z1]; exact hS.1, fun q f1 f2 => by
      rw [oq q (fun e => f2 (by rw [e]; exact Nat.le_add_right _ _))]
      exact hS.2.1 q f1 f2, fun q hq => by
      rcases List.mem_append.mp hq with h | h
      · exact hS.2.2 q h
      · obtain ⟨z, -, hz⟩ := List.mem_map.mp h
        rw [← hz]
        exact Nat.le_add_right _ _⟩ hL _ hheap X'
  exact ⟨t, step t a1, b1⟩
theorem g_max {M : mM} {d pc : Nat} {L : mLs} {st : List Value} {hp : mHp} {out : mOut} {idx : Nat} {x y : Int32} (hd : decode M.2.1 pc = .ok (.invokestatic idx, 3)) (hw : Cond.methodLink M.1 idx Lib.Math.max.name ∈ mGW) (w1 : Cond.static Lib.Math.max.name ∈ mGW) (w2 : Cond.initialized "java/lang/Math" ∈ mGW) (w3 : Cond.code Lib.Math.max.name Lib.Math.max.code 2 (some .int) ∈ mGW) (hst : st.length ≤ 4) (k : mGo M (d + 1) (pc + 3, L, .int (if x < y then y else x) :: st, hp) out) : mGo M (d + 1) (pc, L, .int y :: .int x :: st, hp) out := by
  have k1 := k.1
  refine ⟨k.1, ?_⟩
  intro base spa spn spf cm D p l e R s m args below meth c Q cE sE H locs cells slots ls hX hfr hlo hcE hsE hK hc hs hD hS hL
  have hx := hX.1
  have hb := hX.2.1
  have hts := hX.2.2.2.2.2.2.2.1
  have h8 := m_rest (base := base) (spa := spa) hst
  have hc' : cells + out.2.1.length = cE + hp.1.length := hc
  have hs' : slots + mSz out.2.1 = sE + mSz hp.1 := hs
  have k2 : hp.1.length ≤ out.2.1.length := k1.1
  have k3 : mSz hp.1 ≤ mSz out.2.1 := k1.2
  refine va_mmax (rest := st.map (mtv base spa)) hx hb (by rw [hX.2.2.2.1]; exact hL.1.symm) hX.2.2.2.2.1 (hts _ hw) (hts _ w1) (hts _ w2) (hts _ w3) (by omega) (by omega) (by omega) (by omega) hd ?_
  exact k.2 base spa spn spf cm D p l e R s m args below meth c Q cE sE H locs cells slots ls hX hfr hlo hcE hsE hK hc hs hD hS hL
theorem g_min {M : mM} {d pc : Nat} {L : mLs} {st : List Value} {hp : mHp} {out : mOut} {idx : Nat} {x y : Int32} (hd : decode M.2.1 pc = .ok (.invokestatic idx, 3)) (hw : Cond.methodLink M.1 idx Lib.Math.min.name ∈ mGW) (w1 : Cond.static Lib.Math.min.name ∈ mGW) (w2 : Cond.initialized "java/lang/Math" ∈ mGW) (w3 : Cond.code Lib.Math.min.name Lib.Math.min.code 2 (some .int) ∈ mGW) (hst : st.length ≤ 4) (k : mGo M (d + 1) (pc + 3, L, .int (if y < x then y else x) :: st, hp) out) : mGo M (d + 1) (pc, L, .int y :: .int x :: st, hp) out := by
  have k1 := k.1
  refine ⟨k.1, ?_⟩
  intro base spa spn spf cm D p l e R s m args below meth c Q cE sE H locs cells slots ls hX hfr hlo hcE hsE hK hc hs hD hS hL
  have hx := hX.1
  have hb := hX.2.1
  have hts := hX.2.2.2.2.2.2.2.1
  have h8 := m_rest (base := base) (spa := spa) hst
  have hc' : cells + out.2.1.length = cE + hp.1.length := hc
  have hs' : slots + mSz out.2.1 = sE + mSz hp.1 := hs
  have k2 : hp.1.length ≤ out.2.1.length := k1.1
  have k3 : mSz hp.1 ≤ mSz out.2.1 := k1.2
  refine va_mmin (rest := st.map (mtv base spa)) hx hb (by rw [hX.2.2.2.1]; exact hL.1.symm) hX.2.2.2.2.1 (hts _ hw) (hts _ w1) (hts _ w2) (hts _ w3) (by omega) (by omega) (by omega) (by omega) hd ?_
  exact k.2 base spa spn spf cm D p l e R s m args below meth c Q cE sE H locs cells slots ls hX hfr hlo hcE hsE hK hc hs hD hS hL
def mQ (base : Nat) (spa spn : Nat → Nat) (spf : Nat → Nat → Int32) (cm : Nat → ClassId) (D : va_G) (r : Option Value) (hp : mHp) : Array Value → State → Outcome → State → Prop := match r with
  | some (.int v) => va_Qi (S := Unit) (fun x _ => x = v) (fun _ t => mD base spa spn spf cm D hp t.heap) (fun q => base ≤ q)
  | some (.long v) => va_Ql (S := Unit) (fun x _ => x = v) (fun _ t => mD base spa spn spf cm D hp t.heap) (fun q => base ≤ q)
  | none => va_Qv (S := Unit) (fun _ => True) (fun _ t => mD base spa spn spf cm D hp t.heap) (fun q => base ≤ q)
  | _ => fun _ _ _ _ => False
def mCall (d : Nat) (y : MethodName) (M : mM) (as : List Value) (hp : mHp) (r : Option Value) (hp1 : mHp) : Prop :=
  (hp.1.length ≤ hp1.1.length ∧ mSz hp.1 ≤ mSz hp1.1 ∧ ∀ a : Nat, r ≠ some (.ref a)) ∧
  ∀ (l : Launch) (base : Nat) (spa spn : Nat → Nat) (spf : Nat → Nat → Int32) (cm : Nat → ClassId) (D : va_G), Met l y (Cond.code y M.2.1 M.2.2.1 M.2.2.2.1 :: mGW) ({ frames := d, cells := hp1.1.length - hp.1.length, slots := mSz hp1.1 - mSz hp.1, locals := 40 * d } : Room) (va_Pc (as.map (mtv base spa)) (fun U => mD base spa spn spf cm D hp U.heap ∧ mSta base spa spn spf cm D U U.heap)) (mQ base spa spn spf cm D r hp1) (hp1.1.length - hp.1.length) (mSz hp1.1 - mSz hp.1) (fun q => base ≤ q)
def mMb (y : MethodName) (M : mM) (n : Nat) : Prop := plainName y.cls = true ∧ y.cls = M.1 ∧ (M.2.2.2.2 = true → y.name = "<init>") ∧ Cond.code y M.2.1 M.2.2.1 M.2.2.2.1 ∈ mGW ∧ Cond.initialized y.cls ∈ mGW ∧ (y.cls ≠ "java/lang/invoke/MethodHandle" ∧ y.cls ≠ "java/lang/invoke/VarHandle" ∧ (parseMethodDescriptor y.desc).map (fun d => d.parameters.length) = some n) ∧ M.2.2.1 ≤ 21
def mMethS (y : MethodName) (M : mM) (n : Nat) : Prop := mMb y M n ∧ Cond.static y ∈ mGW
def mMethI (y : MethodName) (M : mM) (n : Nat) : Prop := mMb y M n ∧ Cond.instanceMethod y ∈ mGW
def mMethV (y : MethodName) (M : mM) (ci n : Nat) : Prop := mMb y M n ∧ Cond.instanceMethod y ∈ mGW ∧ Cond.selects y.cls y y ∈ mGW ∧ mcl[ci]?.map (fun q => q.1) = some y.cls
def mEl (as : List Value) : mLs := as.flatMap (fun v => if v.category = 2 then [some v, none] else [some v])
def mEnt (as : List Value) (n : Nat) : mLs := mEl as ++ List.replicate (n - (mEl as).length) none
theorem mEl_len (base : Nat) (spa : Nat → Nat) (as : List Value) : (lg_sl (as.map (mtv base spa))).length = (mEl as).length := by
  induction as with
  | nil => rfl
  | cons v t ih =>
    have e1 : lg_sl ((v :: t).map (mtv base spa)) = (if (mtv base spa v).category = 2 then [.val (mtv base spa v), .second] else [.val (mtv base spa v)]) ++ lg_sl (t.map (mtv base spa)) := rfl
    have e2 : mEl (v :: t) = (if v.category = 2 then [some v, none] else [some v]) ++ mEl t := rfl
    rw [e1, e2, List.length_append, List.length_append, ih, mtv_cat]
    split <;> rfl
theorem mEl_at (base : Nat) (spa : Nat → Nat) : ∀ (as : List Value) (i : Nat) (v : Value), (mEl as)[i]? = some (some v) → (lg_sl (as.map (mtv base spa)))[i]? = some (Slot.val (mtv base spa v)) := by
  intro as
  induction as with
  | nil => intro i v h; simp [mEl] at h
  | cons w t ih =>
    intro i v h
    have e1 : lg_sl ((w :: t).map (mtv base spa)) = (if (mtv base spa w).category = 2 then [.val (mtv base spa w), .second] else [.val (mtv base spa w)]) ++ lg_sl (t.map (mtv base spa)) := rfl
    have e2 : mEl (w :: t) = (if w.category = 2 then [some w, none] else [some w]) ++ mEl t := rfl
    rw [e2] at h
    rw [e1, mtv_cat]
    by_cases hw : w.category = 2
    · rw [if_pos hw] at h ⊢
      rcases i with _ | _ | i
      · cases h
        rfl
      · cases h
      · exact ih i v h
    · rw [if_neg hw] at h ⊢
      rcases i with _ | i
      · cases h
        rfl
      · exact ih i v h
theorem mh_entry {base : Nat} {spa : Nat → Nat} {as : List Value} {n : Nat} (h : (mEl as).length ≤ n) : mh base spa ((lg_sl (as.map (mtv base spa)) ++ List.replicate (n - (lg_sl (as.map (mtv base spa))).length) Slot.unset).toArray) n (mEnt as n) := by
  have h0 := lv_entry (as.map (mtv base spa)) (n := n) (by rw [mEl_len]; exact h)
  refine ⟨h0.1, h0.2.1, fun i v hi => ?_⟩
  by_cases hil : i < (mEl as).length
  · rw [mEnt, List.getElem?_append_left hil] at hi
    rw [List.getElem?_toArray, List.getElem?_append_left (by rw [mEl_len]; exact hil)]
    exact mEl_at base spa as i v hi
  · rw [mEnt, List.getElem?_append_right (by omega)] at hi
    have := List.eq_of_mem_replicate (List.mem_of_getElem? hi)
    cases this
def mRok (ret : Option FieldType) (r : Option Value) : Prop := match r with
  | none => ret = none
  | some (.int v) => ∃ ty, ret = some ty ∧ narrow ty (.int v) = .int v
  | some (.long _) => ret = some .long
  | _ => False
theorem mCall_of {d n : Nat} {y : MethodName} {M : mM} {as : List Value} {hp hp1 : mHp} {r : Option Value} (hy : mMb y M n) (hfit : (mEl as).length ≤ M.2.2.1) (hr : mRok M.2.2.2.1 r) (k : mGo M d (0, mEnt as M.2.2.1, [], hp) (r, hp1)) : mCall d y M as hp r hp1 := by
  have k1 : hp.1.length ≤ hp1.1.length := k.1.1
  have k2 : mSz hp.1 ≤ mSz hp1.1 := k.1.2
  refine ⟨⟨k1, k2, fun a h => by rw [h] at hr; exact hr⟩, fun l base spa spn spf cm D => ?_⟩
  refine Met.ofW (cc := M.2.1) (maxL := M.2.2.1) (ret := M.2.2.2.1) hy.1 rfl ?_
  intro p e s m args below meth c s₁ B hml hv
  obtain ⟨rfl, hD, hSt⟩ := hv
  have hts := atoms_spec (ws := Cond.code y M.2.1 M.2.2.1 M.2.2.2.1 :: mGW) B.pre
  have hown : s.vm.findClass y.cls = some m.cls := findClass_of_methodNamed B.named
  have hX : mX base spa spn spf cm D M p s m (as.map (mtv base spa)).toArray meth c := ⟨B.exec, B.bytes, B.returns, hml, by rw [← hy.2.1]; exact hown, B.notSynchronized, fun h => ((name_of_methodNamed B.named B.method).1).trans (hy.2.2.1 h), fun w hw => hts w (List.mem_cons_of_mem _ hw), hSt⟩
  have hlocks := B.notSynchronized
  rw [lg_entry_eq]
  refine k.2 base spa spn spf cm D p l e _ s m _ below meth c _ (hp1.1.length - hp.1.length) (mSz hp1.1 - mSz hp.1) s.heap [] 0 0 _ hX (Nat.le_refl _) (Nat.le_refl _) (Nat.le_refl _) (Nat.le_refl _) ?_ (by show 0 + hp1.1.length = _ + hp.1.length; omega) (by show 0 + mSz hp1.1 = _ + mSz hp.1; omega) hD va_S.rf (mh_entry hfit)
  intro H1 locs1 pc1 ls1 hri hD1 hS1
  cases r with
  | none =>
    have hr' : meth.sig.returnType = none := hX.2.2.1.trans hr
    exact W.vret hX.1 hX.2.1 hr' (fun t ht hW => ⟨⟨(), rfl, trivial, by show mD base spa spn spf cm D hp1 t.heap; rw [ht]; exact hD1⟩, hS1.F ht⟩) hS1.2.2 hri
  | some v =>
    cases v with
    | int v =>
      obtain ⟨ty, h1, h2⟩ := hr
      exact W.zret hX.1 hX.2.1 (hX.2.2.1.trans h1) h2 (fun t ht hW => ⟨⟨v, (), rfl, rfl, by show mD base spa spn spf cm D hp1 t.heap; rw [ht]; exact hD1⟩, hS1.F ht⟩) hS1.2.2 hri
    | long v =>
      exact W.lret hX.1 hX.2.1 (hX.2.2.1.trans hr) (fun t ht hW => ⟨⟨v, (), rfl, rfl, by show mD base spa spn spf cm D hp1 t.heap; rw [ht]; exact hD1⟩, hS1.F ht⟩) hS1.2.2 hri
    | _ => exact hr.elim
theorem mNW_warm {s U : State} (hW : s.WarmedH U.vm) : ∀ w ∈ mNW, va_Nw w s → va_Nw w U := by
  intro w hw h
  have hN : mIsN w = true := (List.mem_filter.mp hw).2
  cases w <;> first | exact va_Nw.warmF hW h | exact va_Nw.warmM hW h | exact va_Nw.warmC hW h | (simp [mIsN] at hN)
theorem mNW_tab : ∀ w ∈ mNW, w.onTables = true := by
  intro w hw
  have hN : mIsN w = true := (List.mem_filter.mp hw).2
  cases w <;> first | rfl | (simp [mIsN] at hN)
theorem mSta_moved {base : Nat} {spa spn : Nat → Nat} {spf : Nat → Nat → Int32} {cm : Nat → ClassId} {D : va_G} {u U : State} {H : Heap} (h : mSta base spa spn spf cm D u H) (hvm : u.vm.Alike U.vm) (hn : ∀ w ∈ mNW, va_Nw w u → va_Nw w U) : mSta base spa spn spf cm D U H := by
  obtain ⟨h1, h2, h3, h4, h5, h6, h7⟩ := h
  exact ⟨va_K.moved hvm h1, fun w hw => hn w hw (h2 w hw), va_AO.moved hvm h3, h4, fun j hj => ⟨(h5 j hj).1, va_X.moved hvm (h5 j hj).2⟩, fun j hj => va_Z.moved hvm (h6 j hj), h7⟩
theorem mSta_kept {base : Nat} {spa spn : Nat → Nat} {spf : Nat → Nat → Int32} {cm : Nat → ClassId} {D : va_G} {u : State} {H H1 : Heap} {locs : List Loc} (h : mSta base spa spn spf cm D u H) (hS : va_S (fun q => base ≤ q) H H1 locs) : mSta base spa spn spf cm D u H1 := by
  obtain ⟨h1, h2, h3, h4, h5, h6, h7⟩ := h
  refine ⟨h1, h2, h3, Nat.le_trans h4 hS.1, fun j hj => ⟨(h5 j hj).1, va_X.kept (h5 j hj).2 (hS.2.1 _ (Nat.lt_of_lt_of_le (h5 j hj).1 h4) (Nat.not_le.mpr (h5 j hj).1))⟩, fun j hj => va_Z.kept (h6 j hj) hS.2.1, ?_⟩
  obtain ⟨scr, g1, g2⟩ := h7
  exact ⟨scr, by rw [hS.2.1 _ (Nat.lt_of_lt_of_le (h5 1 (by decide)).1 h4) (Nat.not_le.mpr (h5 1 (by decide)).1)]; exact g1, g2⟩
theorem mBlind {base : Nat} {spa spn : Nat → Nat} {spf : Nat → Nat → Int32} {cm : Nat → ClassId} {D : va_G} {as : List Value} {hp : mHp} : FrameBlind (va_Pc as (fun U => mD base spa spn spf cm D hp U.heap ∧ mSta base spa spn spf cm D U U.heap)) := by
  intro a U g mk q
  exact ⟨q.1, q.2.1, mSta_moved (u := U) (U := U.calling g mk a) q.2.2 (Vm.Alike.refl U.vm) (fun w hw h => va_Nw.same (u := U) (U := U.calling g mk a) (mNW_tab w hw) rfl h)⟩
section MCALL
variable {p : Program} {l : Launch} {e : Env} {R : Room} {s : State} {m : MethodId} {args : Array Value} {below : List Frame} {meth : Method} {c : Code} {H : Heap} {locs : List Loc} {cells slots : Nat} {Q : State → Prop}
theorem m_after {base : Nat} {spa spn : Nat → Nat} {spf : Nat → Nat → Int32} {cm : Nat → ClassId} {D : va_G} {pc mc ms : Nat} {ls : Array Slot} {st0 rest : List Value} {r : Option Value} {hp1 : mHp} {a : Array Value} {H0 : Heap} (hr : va_Run p l e R s m args below meth c H locs cells slots mc ms (F0 m pc ls st0) rest (mQ base spa spn spf cm D r hp1 a) (fun q => base ≤ q)) (hS : va_S (fun q => base ≤ q) H0 H locs)
    (kk : ∀ (H1 : Heap) (locs1 : List Loc), mD base spa spn spf cm D hp1 H1 → va_S (fun q => base ≤ q) H0 H1 locs1 → W p l e R s m args below meth c H1 locs1 (cells + mc) (slots + ms) Q (F0 m (pc + 3) ls (r.toList ++ rest))) : W p l e R s m args below meth c H locs cells slots Q (F0 m pc ls st0) := by
  cases r with
  | none => exact va_callv (a := a) hr hS (fun _ _ h => h) (fun _ h => h) (fun u t H1 locs1 ht hvm hp hB hz hk hS1 => kk H1 locs1 (by rw [← ht]; exact hB) hS1)
  | some v =>
    cases v with
    | int v => exact va_calli (a := a) hr hS (fun _ _ h => h) (fun _ h => h) (fun r u t H1 locs1 ht hvm hp hB hz hk hS1 => by
        have hp' : r = v := hp
        subst hp'
        exact kk H1 locs1 (by rw [← ht]; exact hB) hS1)
    | long v => exact va_calll (a := a) hr hS (fun _ _ h => h) (fun _ h => h) (fun r u t H1 locs1 ht hvm hp hB hz hk hS1 => by
        have hp' : r = v := hp
        subst hp'
        exact kk H1 locs1 (by rw [← ht]; exact hB) hS1)
    | _ =>
      intro T hT X
      obtain ⟨v, st₀, t, T', L, h0, X', hL, e1, e2, hq, st⟩ := hr T hT X
      exact hq.elim
end MCALL
theorem m_good {y : MethodName} {M : mM} {n : Nat} (hy : mMb y M n) : GoodIn mGW (Cond.code y M.2.1 M.2.2.1 M.2.2.2.1 :: mGW) := fun w hw => (List.mem_cons.mp hw).elim (fun e => by rw [e]; exact mg_good _ hy.2.2.2.1) (mg_good w)
theorem m_stk {base : Nat} {spa : Nat → Nat} {As rest : List Value} : (As.reverse ++ rest).map (mtv base spa) = (As.map (mtv base spa)).reverse ++ rest.map (mtv base spa) := by simp
theorem g_callV {M M' : mM}  {d pc b idx ci n : Nat} {L : mLs} {As rest : List Value} {hp hp1 : mHp} {out : mOut} {r : Option Value} {y : MethodName} {host : String} (hd : decode M.2.1 pc = .ok (.invokevirtual idx, 3)) (hl : Cond.methodLink M.1 idx y ∈ mGW) (hy : mMethV y M' ci n) (hsh : hp.1[b]? = some (.inl ci)) (h4 : 4 ≤ b) (hn : As.length = n) (hst : rest.length ≤ 4) (hc0 : mCall d y M' (.ref b :: As) hp r hp1) (k : mGo M (d + 1) (pc + 3, L, r.toList ++ rest, hp1) out) : mGo M (d + 1) (pc, L, As.reverse ++ .ref b :: rest, hp) out := by
  have k0 := hc0.1
  have k1 := k.1
  have j1 : hp.1.length ≤ hp1.1.length := k0.1
  have j2 : mSz hp.1 ≤ mSz hp1.1 := k0.2.1
  have j3 : hp1.1.length ≤ out.2.1.length := k1.1
  have j4 : mSz hp1.1 ≤ mSz out.2.1 := k1.2
  refine ⟨⟨Nat.le_trans j1 j3, Nat.le_trans j2 j4⟩, ?_⟩
  intro base spa spn spf cm D p l e R s m args below meth c Q cE sE H locs cells slots ls hX hfr hlo hcE hsE hK hc hs hD hS hL
  have hx := hX.1
  have hb := hX.2.1
  have hts := hX.2.2.2.2.2.2.2.1
  have hK0 : va_K D mcl (mtys cm) s := hX.2.2.2.2.2.2.2.2.1
  have hSt := hX.2.2.2.2.2.2.2.2
  have h8 := m_rest (base := base) (spa := spa) hst
  have hc' : cells + out.2.1.length = cE + hp.1.length := hc
  have hs' : slots + mSz out.2.1 = sE + mSz hp.1 := hs
  have hcall := hc0.2 l base spa spn spf cm D
  have hbm := hy.1
  have hR : d + 1 ≤ R.frames ∧ 8 + (M'.2.2.1 + 11) + 40 * d ≤ R.locals := ⟨hfr, by have h7 : M'.2.2.1 ≤ 21 := hbm.2.2.2.2.2.2; omega⟩
  have hPU : ∀ U : State, U.heap = H → s.WarmedH U.vm → va_Pc ((.ref b :: As).map (mtv base spa)) (fun U => mD base spa spn spf cm D hp U.heap ∧ mSta base spa spn spf cm D U U.heap) ((.ref b :: As).map (mtv base spa)).toArray U := fun U hU hW => ⟨rfl, by rw [hU]; exact hD, by rw [hU]; exact mSta_moved (mSta_kept hSt hS) hW.alike (mNW_warm hW)⟩
  obtain ⟨q, hq, hq1⟩ := Option.map_eq_some_iff.mp hy.2.2.2
  have hrc := va_recv hK0 hD.2.2.1 hq (mW_get (base := base) (spa := spa) (cm := cm) h4 hsh)
  rw [hq1, ← mad_hi (spa := spa) h4] at hrc
  refine m_after (rest := rest.map (mtv base spa)) (va_runV (C := y.cls) (As := As.map (mtv base spa)) (rest := rest.map (mtv base spa)) ⟨hx, hb, hX.2.2.2.1, hX.2.2.2.2.1, hts⟩ hcall ⟨callB_of n hts (m_good hbm) rfl rfl rfl (hts _ hbm.2.2.2.2.1) (hts _ hl) hbm.2.2.2.2.2.1 hR, hts _ hy.2.1, hts _ hy.2.2.1⟩ ⟨mBlind, hrc, hPU⟩ rfl (by rw [List.length_map]; exact hn) hL.1 (by first | exact m_stk | (show List.map _ _ = _; simp)) (lv_room (by omega)) hd ⟨by omega, by omega⟩) hS (fun H1 locs1 hD1 hS1 => ?_)
  have h9 := k.2 base spa spn spf cm D p l e R s m args below meth c Q cE sE H1 locs1 (cells + (hp1.1.length - hp.1.length)) (slots + (mSz hp1.1 - mSz hp.1)) ls hX hfr hlo hcE hsE hK (by show cells + _ + out.2.1.length = cE + hp1.1.length; omega) (by show slots + _ + mSz out.2.1 = sE + mSz hp1.1; omega) hD1 hS1 hL
  have e9 : List.map (mtv base spa) (r.toList ++ rest) = r.toList ++ rest.map (mtv base spa) := by
    cases r with
    | none => rfl
    | some v =>
      cases v with
      | ref a =>
        exact (k0.2.2 a rfl).elim
      | _ => rfl
  have h10 : W p l e R s m args below meth c H1 locs1 (cells + (hp1.1.length - hp.1.length)) (slots + (mSz hp1.1 - mSz hp.1)) Q (F0 m (pc + 3) ls (List.map (mtv base spa) (r.toList ++ rest))) := h9
  rw [e9] at h10
  exact h10
theorem g_callS {M M' : mM}  {d pc b idx ci n : Nat} {L : mLs} {As rest : List Value} {hp hp1 : mHp} {out : mOut} {r : Option Value} {y : MethodName} {host : String} (hd : decode M.2.1 pc = .ok (.invokestatic idx, 3)) (hl : Cond.methodLink M.1 idx y ∈ mGW) (hy : mMethS y M' n)  (hn : As.length = n) (hst : rest.length ≤ 4) (hc0 : mCall d y M' (As) hp r hp1) (k : mGo M (d + 1) (pc + 3, L, r.toList ++ rest, hp1) out) : mGo M (d + 1) (pc, L, As.reverse ++ rest, hp) out := by
  have k0 := hc0.1
  have k1 := k.1
  have j1 : hp.1.length ≤ hp1.1.length := k0.1
  have j2 : mSz hp.1 ≤ mSz hp1.1 := k0.2.1
  have j3 : hp1.1.length ≤ out.2.1.length := k1.1
  have j4 : mSz hp1.1 ≤ mSz out.2.1 := k1.2
  refine ⟨⟨Nat.le_trans j1 j3, Nat.le_trans j2 j4⟩, ?_⟩
  intro base spa spn spf cm D p l e R s m args below meth c Q cE sE H locs cells slots ls hX hfr hlo hcE hsE hK hc hs hD hS hL
  have hx := hX.1
  have hb := hX.2.1
  have hts := hX.2.2.2.2.2.2.2.1
  have hK0 : va_K D mcl (mtys cm) s := hX.2.2.2.2.2.2.2.2.1
  have hSt := hX.2.2.2.2.2.2.2.2
  have h8 := m_rest (base := base) (spa := spa) hst
  have hc' : cells + out.2.1.length = cE + hp.1.length := hc
  have hs' : slots + mSz out.2.1 = sE + mSz hp.1 := hs
  have hcall := hc0.2 l base spa spn spf cm D
  have hbm := hy.1
  have hR : d + 1 ≤ R.frames ∧ 8 + (M'.2.2.1 + 11) + 40 * d ≤ R.locals := ⟨hfr, by have h7 : M'.2.2.1 ≤ 21 := hbm.2.2.2.2.2.2; omega⟩
  have hPU : ∀ U : State, U.heap = H → s.WarmedH U.vm → va_Pc ((As).map (mtv base spa)) (fun U => mD base spa spn spf cm D hp U.heap ∧ mSta base spa spn spf cm D U U.heap) ((As).map (mtv base spa)).toArray U := fun U hU hW => ⟨rfl, by rw [hU]; exact hD, by rw [hU]; exact mSta_moved (mSta_kept hSt hS) hW.alike (mNW_warm hW)⟩

  refine m_after (rest := rest.map (mtv base spa)) (va_runS (As := As.map (mtv base spa)) (rest := rest.map (mtv base spa)) ⟨hx, hb, hX.2.2.2.1, hX.2.2.2.2.1, hts⟩ hcall ⟨callB_of n hts (m_good hbm) rfl rfl rfl (hts _ hbm.2.2.2.2.1) (hts _ hl) hbm.2.2.2.2.2.1 hR, hts _ hy.2⟩ ⟨mBlind, hPU⟩ rfl (by rw [List.length_map]; exact hn) hL.1 (by first | exact m_stk | (show List.map _ _ = _; simp)) (lv_room (by omega)) hd ⟨by omega, by omega⟩) hS (fun H1 locs1 hD1 hS1 => ?_)
  have h9 := k.2 base spa spn spf cm D p l e R s m args below meth c Q cE sE H1 locs1 (cells + (hp1.1.length - hp.1.length)) (slots + (mSz hp1.1 - mSz hp.1)) ls hX hfr hlo hcE hsE hK (by show cells + _ + out.2.1.length = cE + hp1.1.length; omega) (by show slots + _ + mSz out.2.1 = sE + mSz hp1.1; omega) hD1 hS1 hL
  have e9 : List.map (mtv base spa) (r.toList ++ rest) = r.toList ++ rest.map (mtv base spa) := by
    cases r with
    | none => rfl
    | some v =>
      cases v with
      | ref a =>
        exact (k0.2.2 a rfl).elim
      | _ => rfl
  have h10 : W p l e R s m args below meth c H1 locs1 (cells + (hp1.1.length - hp.1.length)) (slots + (mSz hp1.1 - mSz hp.1)) Q (F0 m (pc + 3) ls (List.map (mtv base spa) (r.toList ++ rest))) := h9
  rw [e9] at h10
  exact h10
theorem g_callSN {M M' : mM}  {d pc b idx ci n : Nat} {L : mLs} {As rest : List Value} {hp hp1 : mHp} {out : mOut} {r : Option Value} {y : MethodName} {host : String} (hd : decode M.2.1 pc = .ok (.invokestatic idx, 3)) (hl : Cond.methodLinkNest M.1 idx y host ∈ mNW) (hy : mMethS y M' n)  (hn : As.length = n) (hst : rest.length ≤ 4) (hc0 : mCall d y M' (As) hp r hp1) (k : mGo M (d + 1) (pc + 3, L, r.toList ++ rest, hp1) out) : mGo M (d + 1) (pc, L, As.reverse ++ rest, hp) out := by
  have k0 := hc0.1
  have k1 := k.1
  have j1 : hp.1.length ≤ hp1.1.length := k0.1
  have j2 : mSz hp.1 ≤ mSz hp1.1 := k0.2.1
  have j3 : hp1.1.length ≤ out.2.1.length := k1.1
  have j4 : mSz hp1.1 ≤ mSz out.2.1 := k1.2
  refine ⟨⟨Nat.le_trans j1 j3, Nat.le_trans j2 j4⟩, ?_⟩
  intro base spa spn spf cm D p l e R s m args below meth c Q cE sE H locs cells slots ls hX hfr hlo hcE hsE hK hc hs hD hS hL
  have hx := hX.1
  have hb := hX.2.1
  have hts := hX.2.2.2.2.2.2.2.1
  have hK0 : va_K D mcl (mtys cm) s := hX.2.2.2.2.2.2.2.2.1
  have hSt := hX.2.2.2.2.2.2.2.2
  have h8 := m_rest (base := base) (spa := spa) hst
  have hc' : cells + out.2.1.length = cE + hp.1.length := hc
  have hs' : slots + mSz out.2.1 = sE + mSz hp.1 := hs
  have hcall := hc0.2 l base spa spn spf cm D
  have hbm := hy.1
  have hR : d + 1 ≤ R.frames ∧ 8 + (M'.2.2.1 + 11) + 40 * d ≤ R.locals := ⟨hfr, by have h7 : M'.2.2.1 ≤ 21 := hbm.2.2.2.2.2.2; omega⟩
  have hPU : ∀ U : State, U.heap = H → s.WarmedH U.vm → va_Pc ((As).map (mtv base spa)) (fun U => mD base spa spn spf cm D hp U.heap ∧ mSta base spa spn spf cm D U U.heap) ((As).map (mtv base spa)).toArray U := fun U hU hW => ⟨rfl, by rw [hU]; exact hD, by rw [hU]; exact mSta_moved (mSta_kept hSt hS) hW.alike (mNW_warm hW)⟩

  refine m_after (rest := rest.map (mtv base spa)) (va_runSN (As := As.map (mtv base spa)) (rest := rest.map (mtv base spa)) ⟨hx, hb, hX.2.2.2.1, hX.2.2.2.2.1, hts⟩ hcall ⟨va_cnB n hts (m_good hbm) rfl rfl rfl (hX.2.2.2.2.2.2.2.2.2.1 _ hl) (hts _ hbm.2.2.2.2.1) hbm.2.2.2.2.2.1 hR, hts _ hy.2, trivial⟩ ⟨mBlind, hPU⟩ rfl (by rw [List.length_map]; exact hn) hL.1 (by first | exact m_stk | (show List.map _ _ = _; simp)) (lv_room (by omega)) hd ⟨by omega, by omega⟩) hS (fun H1 locs1 hD1 hS1 => ?_)
  have h9 := k.2 base spa spn spf cm D p l e R s m args below meth c Q cE sE H1 locs1 (cells + (hp1.1.length - hp.1.length)) (slots + (mSz hp1.1 - mSz hp.1)) ls hX hfr hlo hcE hsE hK (by show cells + _ + out.2.1.length = cE + hp1.1.length; omega) (by show slots + _ + mSz out.2.1 = sE + mSz hp1.1; omega) hD1 hS1 hL
  have e9 : List.map (mtv base spa) (r.toList ++ rest) = r.toList ++ rest.map (mtv base spa) := by
    cases r with
    | none => rfl
    | some v =>
      cases v with
      | ref a =>
        exact (k0.2.2 a rfl).elim
      | _ => rfl
  have h10 : W p l e R s m args below meth c H1 locs1 (cells + (hp1.1.length - hp.1.length)) (slots + (mSz hp1.1 - mSz hp.1)) Q (F0 m (pc + 3) ls (List.map (mtv base spa) (r.toList ++ rest))) := h9
  rw [e9] at h10
  exact h10
theorem g_callI {M : mM} {o2 : String} {c2 : ByteArray} {n2 : Nat} {d pc b idx ci n : Nat} {L : mLs} {As rest : List Value} {hp hp1 : mHp} {out : mOut} {r : Option Value} {y : MethodName} {host : String} (hd : decode M.2.1 pc = .ok (.invokespecial idx, 3)) (hl : Cond.methodLink M.1 idx y ∈ mGW) (hy : mMethI y (o2, c2, n2, (none : Option FieldType), true) n)  (hn : As.length = n) (hst : rest.length ≤ 4) (hc0 : mCall d y (o2, c2, n2, (none : Option FieldType), true) (.ref b :: As) hp r hp1) (k : mGo M (d + 1) (pc + 3, L, r.toList ++ rest, hp1) out) : mGo M (d + 1) (pc, L, As.reverse ++ .ref b :: rest, hp) out := by
  have k0 := hc0.1
  have k1 := k.1
  have j1 : hp.1.length ≤ hp1.1.length := k0.1
  have j2 : mSz hp.1 ≤ mSz hp1.1 := k0.2.1
  have j3 : hp1.1.length ≤ out.2.1.length := k1.1
  have j4 : mSz hp1.1 ≤ mSz out.2.1 := k1.2
  refine ⟨⟨Nat.le_trans j1 j3, Nat.le_trans j2 j4⟩, ?_⟩
  intro base spa spn spf cm D p l e R s m args below meth c Q cE sE H locs cells slots ls hX hfr hlo hcE hsE hK hc hs hD hS hL
  have hx := hX.1
  have hb := hX.2.1
  have hts := hX.2.2.2.2.2.2.2.1
  have hK0 : va_K D mcl (mtys cm) s := hX.2.2.2.2.2.2.2.2.1
  have hSt := hX.2.2.2.2.2.2.2.2
  have h8 := m_rest (base := base) (spa := spa) hst
  have hc' : cells + out.2.1.length = cE + hp.1.length := hc
  have hs' : slots + mSz out.2.1 = sE + mSz hp.1 := hs
  have hcall := hc0.2 l base spa spn spf cm D
  have hbm := hy.1
  have hR : d + 1 ≤ R.frames ∧ 8 + (n2 + 11) + 40 * d ≤ R.locals := ⟨hfr, by have h7 : n2 ≤ 21 := hbm.2.2.2.2.2.2; omega⟩
  have hPU : ∀ U : State, U.heap = H → s.WarmedH U.vm → va_Pc ((.ref b :: As).map (mtv base spa)) (fun U => mD base spa spn spf cm D hp U.heap ∧ mSta base spa spn spf cm D U U.heap) ((.ref b :: As).map (mtv base spa)).toArray U := fun U hU hW => ⟨rfl, by rw [hU]; exact hD, by rw [hU]; exact mSta_moved (mSta_kept hSt hS) hW.alike (mNW_warm hW)⟩

  refine m_after (rest := rest.map (mtv base spa)) (va_runI (As := As.map (mtv base spa)) (rest := rest.map (mtv base spa)) ⟨hx, hb, hX.2.2.2.1, hX.2.2.2.2.1, hts⟩ hcall ⟨callB_of n hts (m_good hbm) rfl rfl rfl (hts _ hbm.2.2.2.2.1) (hts _ hl) hbm.2.2.2.2.2.1 hR, hbm.2.2.1 rfl, hts _ hy.2⟩ ⟨mBlind, hPU⟩ rfl (by rw [List.length_map]; exact hn) hL.1 (by first | exact m_stk | (show List.map _ _ = _; simp)) (lv_room (by omega)) hd ⟨by omega, by omega⟩) hS (fun H1 locs1 hD1 hS1 => ?_)
  have h9 := k.2 base spa spn spf cm D p l e R s m args below meth c Q cE sE H1 locs1 (cells + (hp1.1.length - hp.1.length)) (slots + (mSz hp1.1 - mSz hp.1)) ls hX hfr hlo hcE hsE hK (by show cells + _ + out.2.1.length = cE + hp1.1.length; omega) (by show slots + _ + mSz out.2.1 = sE + mSz hp1.1; omega) hD1 hS1 hL
  have e9 : List.map (mtv base spa) (r.toList ++ rest) = r.toList ++ rest.map (mtv base spa) := by
    cases r with
    | none => rfl
    | some v =>
      cases v with
      | ref a =>
        exact (k0.2.2 a rfl).elim
      | _ => rfl
  have h10 : W p l e R s m args below meth c H1 locs1 (cells + (hp1.1.length - hp.1.length)) (slots + (mSz hp1.1 - mSz hp.1)) Q (F0 m (pc + 3) ls (List.map (mtv base spa) (r.toList ++ rest))) := h9
  rw [e9] at h10
  exact h10
theorem g_callIN {M : mM} {o2 : String} {c2 : ByteArray} {n2 : Nat} {d pc b idx ci n : Nat} {L : mLs} {As rest : List Value} {hp hp1 : mHp} {out : mOut} {r : Option Value} {y : MethodName} {host : String} (hd : decode M.2.1 pc = .ok (.invokespecial idx, 3)) (hl : Cond.methodLinkNest M.1 idx y host ∈ mNW) (hy : mMethI y (o2, c2, n2, (none : Option FieldType), true) n)  (hn : As.length = n) (hst : rest.length ≤ 4) (hc0 : mCall d y (o2, c2, n2, (none : Option FieldType), true) (.ref b :: As) hp r hp1) (k : mGo M (d + 1) (pc + 3, L, r.toList ++ rest, hp1) out) : mGo M (d + 1) (pc, L, As.reverse ++ .ref b :: rest, hp) out := by
  have k0 := hc0.1
  have k1 := k.1
  have j1 : hp.1.length ≤ hp1.1.length := k0.1
  have j2 : mSz hp.1 ≤ mSz hp1.1 := k0.2.1
  have j3 : hp1.1.length ≤ out.2.1.length := k1.1
  have j4 : mSz hp1.1 ≤ mSz out.2.1 := k1.2
  refine ⟨⟨Nat.le_trans j1 j3, Nat.le_trans j2 j4⟩, ?_⟩
  intro base spa spn spf cm D p l e R s m args below meth c Q cE sE H locs cells slots ls hX hfr hlo hcE hsE hK hc hs hD hS hL
  have hx := hX.1
  have hb := hX.2.1
  have hts := hX.2.2.2.2.2.2.2.1
  have hK0 : va_K D mcl (mtys cm) s := hX.2.2.2.2.2.2.2.2.1
  have hSt := hX.2.2.2.2.2.2.2.2
  have h8 := m_rest (base := base) (spa := spa) hst
  have hc' : cells + out.2.1.length = cE + hp.1.length := hc
  have hs' : slots + mSz out.2.1 = sE + mSz hp.1 := hs
  have hcall := hc0.2 l base spa spn spf cm D
  have hbm := hy.1
  have hR : d + 1 ≤ R.frames ∧ 8 + (n2 + 11) + 40 * d ≤ R.locals := ⟨hfr, by have h7 : n2 ≤ 21 := hbm.2.2.2.2.2.2; omega⟩
  have hPU : ∀ U : State, U.heap = H → s.WarmedH U.vm → va_Pc ((.ref b :: As).map (mtv base spa)) (fun U => mD base spa spn spf cm D hp U.heap ∧ mSta base spa spn spf cm D U U.heap) ((.ref b :: As).map (mtv base spa)).toArray U := fun U hU hW => ⟨rfl, by rw [hU]; exact hD, by rw [hU]; exact mSta_moved (mSta_kept hSt hS) hW.alike (mNW_warm hW)⟩

  refine m_after (rest := rest.map (mtv base spa)) (va_runIN (As := As.map (mtv base spa)) (rest := rest.map (mtv base spa)) ⟨hx, hb, hX.2.2.2.1, hX.2.2.2.2.1, hts⟩ hcall ⟨va_cnB n hts (m_good hbm) rfl rfl rfl (hX.2.2.2.2.2.2.2.2.2.1 _ hl) (hts _ hbm.2.2.2.2.1) hbm.2.2.2.2.2.1 hR, hbm.2.2.1 rfl, hts _ hy.2⟩ ⟨mBlind, hPU⟩ rfl (by rw [List.length_map]; exact hn) hL.1 (by first | exact m_stk | (show List.map _ _ = _; simp)) (lv_room (by omega)) hd ⟨by omega, by omega⟩) hS (fun H1 locs1 hD1 hS1 => ?_)
  have h9 := k.2 base spa spn spf cm D p l e R s m args below meth c Q cE sE H1 locs1 (cells + (hp1.1.length - hp.1.length)) (slots + (mSz hp1.1 - mSz hp.1)) ls hX hfr hlo hcE hsE hK (by show cells + _ + out.2.1.length = cE + hp1.1.length; omega) (by show slots + _ + mSz out.2.1 = sE + mSz hp1.1; omega) hD1 hS1 hL
  have e9 : List.map (mtv base spa) (r.toList ++ rest) = r.toList ++ rest.map (mtv base spa) := by
    cases r with
    | none => rfl
    | some v =>
      cases v with
      | ref a =>
        exact (k0.2.2 a rfl).elim
      | _ => rfl
  have h10 : W p l e R s m args below meth c H1 locs1 (cells + (hp1.1.length - hp.1.length)) (slots + (mSz hp1.1 - mSz hp.1)) Q (F0 m (pc + 3) ls (List.map (mtv base spa) (r.toList ++ rest))) := h9
  rw [e9] at h10
  exact h10
