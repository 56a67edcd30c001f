/-! THE SMALL MACHINE. Its heap: a list of shapes (an object of a kind, or an array of a kind and a length), the ints of each cell, the references of each cell. Cells 0 to 3 are read-only arrays of ints (the script, the statics), the others lie in the real heap one behind another from 'base' on. 'mGo' says of a frame at a place that the real machine goes from there to the frame's end with an outcome. -/
abbrev mShp : Type := Nat ⊕ (Nat × Nat)
abbrev mHp : Type := List mShp × (Nat → Nat → Int32) × (Nat → Nat → Option Nat)
abbrev mLs : Type := List (Option Value)
abbrev mSt : Type := Nat × mLs × List Value × mHp
abbrev mOut : Type := Option Value × mHp
abbrev mM : Type := String × ByteArray × Nat × Option FieldType × Bool
def mad (base : Nat) (spa : Nat → Nat) (j : Nat) : Nat := if j < 4 then spa j else base + (j - 4)
def mtv (base : Nat) (spa : Nat → Nat) (v : Value) : Value := match v with
  | .ref j => .ref (mad base spa j)
  | v => v
theorem mtv_cat (base : Nat) (spa : Nat → Nat) (v : Value) : (mtv base spa v).category = v.category := by cases v <;> rfl
theorem mad_hi {base : Nat} {spa : Nat → Nat} {j : Nat} (h : 4 ≤ j) : mad base spa j = base + (j - 4) := if_neg (by omega)
theorem mad_lo {base : Nat} {spa : Nat → Nat} {j : Nat} (h : j < 4) : mad base spa j = spa j := if_pos h
def mfv (ty : FieldType) (i : Int32) (r : Option Nat) : Value := match ty with
  | .int => .int i
  | .boolean => .int i
  | _ => va_rf r
def mce (base : Nat) (spa : Nat → Nat) (cm : Nat → ClassId) (F : Nat → Nat → Int32) (R : Nat → Nat → Option Nat) (j : Nat) (s : mShp) : va_E := match s with
  | .inl ci => .inr (ci, (List.range (mN ci)).map (fun k => mtv base spa (mfv (mty ci k) (F j k) (R j k))))
  | .inr (t, n) => if t = 2 then .inl (cm 2, n, .inr (.inr (.inr (.inr (fun i => (R j i).map (mad base spa)))))) else .inl (cm t, n, .inl (F j))
def mW (base : Nat) (spa : Nat → Nat) (cm : Nat → ClassId) (hp : mHp) : va_W := (List.range (hp.1.length - 4)).map (fun k => (base + k, mce base spa cm hp.2.1 hp.2.2 (k + 4) (hp.1.getD (k + 4) (.inl 0))))
theorem mce_congr {base : Nat} {spa : Nat → Nat} {cm : Nat → ClassId} {F F' : Nat → Nat → Int32} {R R' : Nat → Nat → Option Nat} {j : Nat} {s : mShp} (hF : F' j = F j) (hR : R' j = R j) : mce base spa cm F' R' j s = mce base spa cm F R j s := by
  cases s with
  | inl ci => simp [mce, hF, hR]
  | inr q => obtain ⟨t, n⟩ := q; simp [mce, hF, hR]
theorem mW_len {base : Nat} {spa : Nat → Nat} {cm : Nat → ClassId} {hp : mHp} : (mW base spa cm hp).length = hp.1.length - 4 := by simp [mW]
theorem mW_at {base : Nat} {spa : Nat → Nat} {cm : Nat → ClassId} {hp : mHp} {k : Nat} {q : Nat × va_E} (h : (mW base spa cm hp)[k]? = some q) : k < hp.1.length - 4 ∧ q.1 = base + k := by
  have hk : k < hp.1.length - 4 := by
    have := (List.getElem?_eq_some_iff.mp h).1
    rwa [mW_len] at this
  refine ⟨hk, ?_⟩
  rw [mW, List.getElem?_map, List.getElem?_range hk] at h
  cases h
  rfl
theorem mW_get {base : Nat} {spa : Nat → Nat} {cm : Nat → ClassId} {hp : mHp} {j : Nat} {s : mShp} (h4 : 4 ≤ j) (h : hp.1[j]? = some s) : (mW base spa cm hp)[j - 4]? = some (base + (j - 4), mce base spa cm hp.2.1 hp.2.2 j s) := by
  have hj : j < hp.1.length := (List.getElem?_eq_some_iff.mp h).1
  rw [mW, List.getElem?_map, List.getElem?_range (by omega)]
  have e : j - 4 + 4 = j := by omega
  simp only [Option.map_some, e, List.getD_eq_getElem?_getD, h, Option.getD_some]
theorem mW_D {base : Nat} {spa : Nat → Nat} {cm : Nat → ClassId} {hp : mHp} : va_D (fun q => base ≤ q) (mW base spa cm hp) := by
  refine ⟨fun i j p q hi hj hpq => ?_, fun k q hk => ?_⟩
  · have h1 := (mW_at hi).2
    have h2 := (mW_at hj).2
    omega
  · have h1 := (mW_at hk).2
    omega
theorem mW_upd {base : Nat} {spa : Nat → Nat} {cm : Nat → ClassId} {sh : List mShp} {F F' : Nat → Nat → Int32} {R R' : Nat → Nat → Option Nat} {j : Nat} {s : mShp} (h4 : 4 ≤ j) (hs : sh[j]? = some s) (hF : ∀ a, a ≠ j → F' a = F a) (hR : ∀ a, a ≠ j → R' a = R a) : mW base spa cm (sh, F', R') = (mW base spa cm (sh, F, R)).set (j - 4) (base + (j - 4), mce base spa cm F' R' j s) := by
  have hj : j < sh.length := (List.getElem?_eq_some_iff.mp hs).1
  apply List.ext_getElem?
  intro k
  by_cases hk : k = j - 4
  · subst hk
    rw [mW_get h4 (hp := (sh, F', R')) hs, List.getElem?_set_self (by rw [mW_len]; show j - 4 < sh.length - 4; omega)]
  · rw [List.getElem?_set_ne (Ne.symm hk)]
    by_cases hl : k < sh.length - 4
    · simp only [mW, List.getElem?_map, List.getElem?_range hl, Option.map_some]
      rw [mce_congr (hF _ (by omega)) (hR _ (by omega))]
    · rw [List.getElem?_eq_none (by rw [mW_len]; show sh.length - 4 ≤ k; omega), List.getElem?_eq_none (by rw [mW_len]; show sh.length - 4 ≤ k; omega)]
theorem mW_push {base : Nat} {spa : Nat → Nat} {cm : Nat → ClassId} {sh : List mShp} {F F' : Nat → Nat → Int32} {R R' : Nat → Nat → Option Nat} {s : mShp} (h4 : 4 ≤ sh.length) (hF : ∀ a, a ≠ sh.length → F' a = F a) (hR : ∀ a, a ≠ sh.length → R' a = R a) : mW base spa cm (sh ++ [s], F', R') = mW base spa cm (sh, F, R) ++ [(base + (sh.length - 4), mce base spa cm F' R' sh.length s)] := by
  apply List.ext_getElem?
  intro k
  by_cases hk : k < sh.length - 4
  · rw [List.getElem?_append_left (by rw [mW_len]; exact hk)]
    simp only [mW, List.length_append, List.length_singleton, List.getElem?_map]
    rw [List.getElem?_range (by omega), List.getElem?_range hk]
    simp only [Option.map_some, List.getD_eq_getElem?_getD]
    rw [List.getElem?_append_left (by omega), mce_congr (hF _ (by omega)) (hR _ (by omega))]
  · rw [List.getElem?_append_right (by rw [mW_len]; show sh.length - 4 ≤ k; omega), mW_len]
    show _ = [_][k - (sh.length - 4)]?
    by_cases hk2 : k = sh.length - 4
    · subst hk2
      rw [Nat.sub_self]
      have e := mW_get (base := base) (spa := spa) (cm := cm) (hp := (sh ++ [s], F', R')) (j := sh.length) (s := s) h4 (by simp)
      exact e
    · rw [List.getElem?_eq_none (by rw [mW_len]; show (sh ++ [s]).length - 4 ≤ k; simp; omega), List.getElem?_eq_none (by simp; omega)]
def mSz (sh : List mShp) : Nat := (sh.map (fun s => match s with | .inl ci => mN ci | .inr (_, n) => n)).sum
theorem mSz_push (sh : List mShp) (s : mShp) : mSz (sh ++ [s]) = mSz sh + (match s with | .inl ci => mN ci | .inr (_, n) => n) := by simp [mSz]
def mD (base : Nat) (spa spn : Nat → Nat) (spf : Nat → Nat → Int32) (cm : Nat → ClassId) (D : va_G) (hp : mHp) (H : Heap) : Prop :=
  4 ≤ hp.1.length ∧ H.size = base + (hp.1.length - 4) ∧ va_P D mcl (mW base spa cm hp) H ∧ ∀ j, j < 4 → hp.1[j]? = some (.inr (3, spn j)) ∧ hp.2.1 j = spf j
def mSN (j : Nat) : String := match j with
  | 0 => "FIRST_SETTINGS"
  | 1 => "HIGHEST_SETTINGS"
  | _ => "MEANING_BY_COMPANY"
abbrev mtys (cm : Nat → ClassId) : List (ClassId × FieldType) := [(cm 0, .int), (cm 1, .boolean), (cm 2, .object RX4)]
def mSta (base : Nat) (spa spn : Nat → Nat) (spf : Nat → Nat → Int32) (cm : Nat → ClassId) (D : va_G) (U : State) (H0 : Heap) : Prop :=
  va_K D mcl (mtys cm) U ∧ (∀ w ∈ mNW, va_Nw w U) ∧ va_AO RX4 U ∧ base ≤ H0.size ∧ (∀ j, j < 4 → spa j < base ∧ va_X (spa j) (spn j) (spf j) U H0) ∧ (∀ j, j < 3 → va_Z RX6 (mSN j) "[I" (.ref (spa (j + 1))) (fun q => base ≤ q) U H0) ∧ ∃ scr : Cell, H0[spa 1]? = some scr ∧ scr.cls = cm 0
def mX (base : Nat) (spa spn : Nat → Nat) (spf : Nat → Nat → Int32) (cm : Nat → ClassId) (D : va_G) (M : mM) (p : Program) (s : State) (m : MethodId) (args : Array Value) (meth : Method) (c : Code) : Prop :=
  p.tables.exec = Jvm.exec ∧ c.code = M.2.1 ∧ meth.sig.returnType = M.2.2.2.1 ∧ c.maxLocals = M.2.2.1 ∧ s.vm.findClass M.1 = some m.cls ∧ meth.locks = false ∧ (M.2.2.2.2 = true → meth.name = "<init>") ∧ (∀ w ∈ mGW, w.before args s = true) ∧ mSta base spa spn spf cm D s s.heap
def mh (base : Nat) (spa : Nat → Nat) (ls : Array Slot) (nL : Nat) (L : mLs) : Prop := ls.size = nL ∧ lv_wf ls ∧ ∀ (i : Nat) (v : Value), L[i]? = some (some v) → ls[i]? = some (.val (mtv base spa v))
def mRi (cc : ByteArray) (pc : Nat) (r : Option Value) : Prop := match r with
  | none => decode cc pc = .ok (.return_, 1)
  | some (.int _) => decode cc pc = .ok (.ireturn, 1)
  | some (.long _) => decode cc pc = .ok (.lreturn, 1)
  | _ => False
def mGo (M : mM) (d : Nat) (σ : mSt) (out : mOut) : Prop :=
  (σ.2.2.2.1.length ≤ out.2.1.length ∧ mSz σ.2.2.2.1 ≤ mSz out.2.1) ∧
  ∀ (base : Nat) (spa spn : Nat → Nat) (spf : Nat → Nat → Int32) (cm : Nat → ClassId) (D : va_G) (p : Program) (l : Launch) (e : Env) (R : Room) (s : State) (m : MethodId) (args : Array Value) (below : List Frame) (meth : Method) (c : Code) (Q : State → Prop) (cE sE : Nat) (H : Heap) (locs : List Loc) (cells slots : Nat) (ls : Array Slot),
    mX base spa spn spf cm D M p s m args meth c → d ≤ R.frames → 40 * d ≤ R.locals → cE ≤ R.cells → sE ≤ R.slots →
    (∀ (H1 : Heap) (locs1 : List Loc) (pc1 : Nat) (ls1 : Array Slot), mRi M.2.1 pc1 out.1 → mD base spa spn spf cm D out.2 H1 → va_S (fun q => base ≤ q) s.heap H1 locs1 → W p l e R s m args below meth c H1 locs1 cE sE Q (F0 m pc1 ls1 out.1.toList)) →
    cells + out.2.1.length = cE + σ.2.2.2.1.length → slots + mSz out.2.1 = sE + mSz σ.2.2.2.1 →
    mD base spa spn spf cm D σ.2.2.2 H → va_S (fun q => base ≤ q) s.heap H locs → mh base spa ls M.2.2.1 σ.2.1 →
    W p l e R s m args below meth c H locs cells slots Q (F0 m σ.1 ls (σ.2.2.1.map (mtv base spa)))
theorem g_iconst {M : mM} {d pc : Nat} {L : mLs} {st : List Value} {hp : mHp} {out : mOut} {n : Int} (hd : decode M.2.1 pc = .ok (.iconst n, 1))  (k : mGo M d (pc + 1, L, .int (Int32.ofInt n) :: st, hp) out) : mGo M d (pc, L, st, hp) out := by
  refine ⟨k.1, ?_⟩
  intro base spa spn spf cm D p l e R s m args below meth c Q cE sE H locs cells slots ls hX hfr hlo hcE hsE hK hc hs hD hS hL
  have hx := hX.1
  have hb := hX.2.1
  refine lv_iconst hx hb hd rfl ?_
  exact k.2 base spa spn spf cm D p l e R s m args below meth c Q cE sE H locs cells slots ls hX hfr hlo hcE hsE hK hc hs hD hS hL
theorem g_bipush {M : mM} {d pc : Nat} {L : mLs} {st : List Value} {hp : mHp} {out : mOut} {n : Int} (hd : decode M.2.1 pc = .ok (.bipush n, 2))  (k : mGo M d (pc + 2, L, .int (Int8.ofInt n).toInt32 :: st, hp) out) : mGo M d (pc, L, st, hp) out := by
  refine ⟨k.1, ?_⟩
  intro base spa spn spf cm D p l e R s m args below meth c Q cE sE H locs cells slots ls hX hfr hlo hcE hsE hK hc hs hD hS hL
  have hx := hX.1
  have hb := hX.2.1
  refine lv_bipush hx hb hd rfl ?_
  exact k.2 base spa spn spf cm D p l e R s m args below meth c Q cE sE H locs cells slots ls hX hfr hlo hcE hsE hK hc hs hD hS hL
theorem g_sipush {M : mM} {d pc : Nat} {L : mLs} {st : List Value} {hp : mHp} {out : mOut} {n : Int} (hd : decode M.2.1 pc = .ok (.sipush n, 3))  (k : mGo M d (pc + 3, L, .int (Int16.ofInt n).toInt32 :: st, hp) out) : mGo M d (pc, L, st, hp) out := by
  refine ⟨k.1, ?_⟩
  intro base spa spn spf cm D p l e R s m args below meth c Q cE sE H locs cells slots ls hX hfr hlo hcE hsE hK hc hs hD hS hL
  have hx := hX.1
  have hb := hX.2.1
  refine lv_sipush hx hb hd rfl ?_
  exact k.2 base spa spn spf cm D p l e R s m args below meth c Q cE sE H locs cells slots ls hX hfr hlo hcE hsE hK hc hs hD hS hL
theorem g_lconst {M : mM} {d pc : Nat} {L : mLs} {st : List Value} {hp : mHp} {out : mOut} {n : Fin 2} (hd : decode M.2.1 pc = .ok (.lconst n, 1))  (k : mGo M d (pc + 1, L, .long (Int64.ofNat (n : Nat)) :: st, hp) out) : mGo M d (pc, L, st, hp) out := by
  refine ⟨k.1, ?_⟩
  intro base spa spn spf cm D p l e R s m args below meth c Q cE sE H locs cells slots ls hX hfr hlo hcE hsE hK hc hs hD hS hL
  have hx := hX.1
  have hb := hX.2.1
  refine lv_lconst hx hb hd rfl ?_
  exact k.2 base spa spn spf cm D p l e R s m args below meth c Q cE sE H locs cells slots ls hX hfr hlo hcE hsE hK hc hs hD hS hL
theorem g_iconstv {M : mM} {d pc : Nat} {L : mLs} {st : List Value} {hp : mHp} {out : mOut} {n : Int} (hd : decode M.2.1 pc = .ok (.iconst n, 1)) {v : Int32} (hv : Int32.ofInt n = v) (k : mGo M d (pc + 1, L, .int v :: st, hp) out) : mGo M d (pc, L, st, hp) out := by
  refine ⟨k.1, ?_⟩
  intro base spa spn spf cm D p l e R s m args below meth c Q cE sE H locs cells slots ls hX hfr hlo hcE hsE hK hc hs hD hS hL
  have hx := hX.1
  have hb := hX.2.1
  refine lv_iconst hx hb hd hv ?_
  exact k.2 base spa spn spf cm D p l e R s m args below meth c Q cE sE H locs cells slots ls hX hfr hlo hcE hsE hK hc hs hD hS hL
theorem g_bipushv {M : mM} {d pc : Nat} {L : mLs} {st : List Value} {hp : mHp} {out : mOut} {n : Int} (hd : decode M.2.1 pc = .ok (.bipush n, 2)) {v : Int32} (hv : (Int8.ofInt n).toInt32 = v) (k : mGo M d (pc + 2, L, .int v :: st, hp) out) : mGo M d (pc, L, st, hp) out := by
  refine ⟨k.1, ?_⟩
  intro base spa spn spf cm D p l e R s m args below meth c Q cE sE H locs cells slots ls hX hfr hlo hcE hsE hK hc hs hD hS hL
  have hx := hX.1
  have hb := hX.2.1
  refine lv_bipush hx hb hd hv ?_
  exact k.2 base spa spn spf cm D p l e R s m args below meth c Q cE sE H locs cells slots ls hX hfr hlo hcE hsE hK hc hs hD hS hL
theorem g_sipushv {M : mM} {d pc : Nat} {L : mLs} {st : List Value} {hp : mHp} {out : mOut} {n : Int} (hd : decode M.2.1 pc = .ok (.sipush n, 3)) {v : Int32} (hv : (Int16.ofInt n).toInt32 = v) (k : mGo M d (pc + 3, L, .int v :: st, hp) out) : mGo M d (pc, L, st, hp) out := by
  refine ⟨k.1, ?_⟩
  intro base spa spn spf cm D p l e R s m args below meth c Q cE sE H locs cells slots ls hX hfr hlo hcE hsE hK hc hs hD hS hL
  have hx := hX.1
  have hb := hX.2.1
  refine lv_sipush hx hb hd hv ?_
  exact k.2 base spa spn spf cm D p l e R s m args below meth c Q cE sE H locs cells slots ls hX hfr hlo hcE hsE hK hc hs hD hS hL
theorem g_iadd {M : mM} {d pc : Nat} {L : mLs} {st : List Value} {hp : mHp} {out : mOut} {x y : Int32} (hd : decode M.2.1 pc = .ok (.iadd, 1))  (k : mGo M d (pc + 1, L, .int (x + y) :: st, hp) out) : mGo M d (pc, L, .int y :: .int x :: st, hp) out := by
  refine ⟨k.1, ?_⟩
  intro base spa spn spf cm D p l e R s m args below meth c Q cE sE H locs cells slots ls hX hfr hlo hcE hsE hK hc hs hD hS hL
  have hx := hX.1
  have hb := hX.2.1
  refine lv_iadd hx hb hd ?_
  exact k.2 base spa spn spf cm D p l e R s m args below meth c Q cE sE H locs cells slots ls hX hfr hlo hcE hsE hK hc hs hD hS hL
theorem g_isub {M : mM} {d pc : Nat} {L : mLs} {st : List Value} {hp : mHp} {out : mOut} {x y : Int32} (hd : decode M.2.1 pc = .ok (.isub, 1))  (k : mGo M d (pc + 1, L, .int (x - y) :: st, hp) out) : mGo M d (pc, L, .int y :: .int x :: st, hp) out := by
  refine ⟨k.1, ?_⟩
  intro base spa spn spf cm D p l e R s m args below meth c Q cE sE H locs cells slots ls hX hfr hlo hcE hsE hK hc hs hD hS hL
  have hx := hX.1
  have hb := hX.2.1
  refine lv_isub hx hb hd ?_
  exact k.2 base spa spn spf cm D p l e R s m args below meth c Q cE sE H locs cells slots ls hX hfr hlo hcE hsE hK hc hs hD hS hL
theorem g_imul {M : mM} {d pc : Nat} {L : mLs} {st : List Value} {hp : mHp} {out : mOut} {x y : Int32} (hd : decode M.2.1 pc = .ok (.imul, 1))  (k : mGo M d (pc + 1, L, .int (x * y) :: st, hp) out) : mGo M d (pc, L, .int y :: .int x :: st, hp) out := by
  refine ⟨k.1, ?_⟩
  intro base spa spn spf cm D p l e R s m args below meth c Q cE sE H locs cells slots ls hX hfr hlo hcE hsE hK hc hs hD hS hL
  have hx := hX.1
  have hb := hX.2.1
  refine lv_imul hx hb hd ?_
  exact k.2 base spa spn spf cm D p l e R s m args below meth c Q cE sE H locs cells slots ls hX hfr hlo hcE hsE hK hc hs hD hS hL
theorem g_iand {M : mM} {d pc : Nat} {L : mLs} {st : List Value} {hp : mHp} {out : mOut} {x y : Int32} (hd : decode M.2.1 pc = .ok (.iand, 1))  (k : mGo M d (pc + 1, L, .int (x &&& y) :: st, hp) out) : mGo M d (pc, L, .int y :: .int x :: st, hp) out := by
  refine ⟨k.1, ?_⟩
  intro base spa spn spf cm D p l e R s m args below meth c Q cE sE H locs cells slots ls hX hfr hlo hcE hsE hK hc hs hD hS hL
  have hx := hX.1
  have hb := hX.2.1
  refine lv_iand hx hb hd ?_
  exact k.2 base spa spn spf cm D p l e R s m args below meth c Q cE sE H locs cells slots ls hX hfr hlo hcE hsE hK hc hs hD hS hL
theorem g_ior {M : mM} {d pc : Nat} {L : mLs} {st : List Value} {hp : mHp} {out : mOut} {x y : Int32} (hd : decode M.2.1 pc = .ok (.ior, 1))  (k : mGo M d (pc + 1, L, .int (x ||| y) :: st, hp) out) : mGo M d (pc, L, .int y :: .int x :: st, hp) out := by
  refine ⟨k.1, ?_⟩
  intro base spa spn spf cm D p l e R s m args below meth c Q cE sE H locs cells slots ls hX hfr hlo hcE hsE hK hc hs hD hS hL
  have hx := hX.1
  have hb := hX.2.1
  refine lv_ior hx hb hd ?_
  exact k.2 base spa spn spf cm D p l e R s m args below meth c Q cE sE H locs cells slots ls hX hfr hlo hcE hsE hK hc hs hD hS hL
theorem g_ixor {M : mM} {d pc : Nat} {L : mLs} {st : List Value} {hp : mHp} {out : mOut} {x y : Int32} (hd : decode M.2.1 pc = .ok (.ixor, 1))  (k : mGo M d (pc + 1, L, .int (x ^^^ y) :: st, hp) out) : mGo M d (pc, L, .int y :: .int x :: st, hp) out := by
  refine ⟨k.1, ?_⟩
  intro base spa spn spf cm D p l e R s m args below meth c Q cE sE H locs cells slots ls hX hfr hlo hcE hsE hK hc hs hD hS hL
  have hx := hX.1
  have hb := hX.2.1
  refine lv_ixor hx hb hd ?_
  exact k.2 base spa spn spf cm D p l e R s m args below meth c Q cE sE H locs cells slots ls hX hfr hlo hcE hsE hK hc hs hD hS hL
theorem g_ishl {M : mM} {d pc : Nat} {L : mLs} {st : List Value} {hp : mHp} {out : mOut} {x y : Int32} (hd : decode M.2.1 pc = .ok (.ishl, 1))  (k : mGo M d (pc + 1, L, .int (x <<< (y &&& 31)) :: st, hp) out) : mGo M d (pc, L, .int y :: .int x :: st, hp) out := by
  refine ⟨k.1, ?_⟩
  intro base spa spn spf cm D p l e R s m args below meth c Q cE sE H locs cells slots ls hX hfr hlo hcE hsE hK hc hs hD hS hL
  have hx := hX.1
  have hb := hX.2.1
  refine lv_ishl hx hb hd ?_
  exact k.2 base spa spn spf cm D p l e R s m args below meth c Q cE sE H locs cells slots ls hX hfr hlo hcE hsE hK hc hs hD hS hL
theorem g_ishr {M : mM} {d pc : Nat} {L : mLs} {st : List Value} {hp : mHp} {out : mOut} {x y : Int32} (hd : decode M.2.1 pc = .ok (.ishr, 1))  (k : mGo M d (pc + 1, L, .int (x >>> (y &&& 31)) :: st, hp) out) : mGo M d (pc, L, .int y :: .int x :: st, hp) out := by
  refine ⟨k.1, ?_⟩
  intro base spa spn spf cm D p l e R s m args below meth c Q cE sE H locs cells slots ls hX hfr hlo hcE hsE hK hc hs hD hS hL
  have hx := hX.1
  have hb := hX.2.1
  refine lv_ishr hx hb hd ?_
  exact k.2 base spa spn spf cm D p l e R s m args below meth c Q cE sE H locs cells slots ls hX hfr hlo hcE hsE hK hc hs hD hS hL
theorem g_iushr {M : mM} {d pc : Nat} {L : mLs} {st : List Value} {hp : mHp} {out : mOut} {x y : Int32} (hd : decode M.2.1 pc = .ok (.iushr, 1))  (k : mGo M d (pc + 1, L, .int (x.toUInt32 >>> (y.toUInt32 &&& Int32.toUInt32 31)).toInt32 :: st, hp) out) : mGo M d (pc, L, .int y :: .int x :: st, hp) out := by
  refine ⟨k.1, ?_⟩
  intro base spa spn spf cm D p l e R s m args below meth c Q cE sE H locs cells slots ls hX hfr hlo hcE hsE hK hc hs hD hS hL
  have hx := hX.1
  have hb := hX.2.1
  refine lv_iushr hx hb hd rfl ?_
  exact k.2 base spa spn spf cm D p l e R s m args below meth c Q cE sE H locs cells slots ls hX hfr hlo hcE hsE hK hc hs hD hS hL
theorem g_idiv {M : mM} {d pc : Nat} {L : mLs} {st : List Value} {hp : mHp} {out : mOut} {x y : Int32} (hd : decode M.2.1 pc = .ok (.idiv, 1)) (hne : ¬ y = 0) (k : mGo M d (pc + 1, L, .int (x / y) :: st, hp) out) : mGo M d (pc, L, .int y :: .int x :: st, hp) out := by
  refine ⟨k.1, ?_⟩
  intro base spa spn spf cm D p l e R s m args below meth c Q cE sE H locs cells slots ls hX hfr hlo hcE hsE hK hc hs hD hS hL
  have hx := hX.1
  have hb := hX.2.1
  refine lv_idiv hx hb hd hne ?_
  exact k.2 base spa spn spf cm D p l e R s m args below meth c Q cE sE H locs cells slots ls hX hfr hlo hcE hsE hK hc hs hD hS hL
theorem g_irem {M : mM} {d pc : Nat} {L : mLs} {st : List Value} {hp : mHp} {out : mOut} {x y : Int32} (hd : decode M.2.1 pc = .ok (.irem, 1)) (hne : ¬ y = 0) (k : mGo M d (pc + 1, L, .int (x - x / y * y) :: st, hp) out) : mGo M d (pc, L, .int y :: .int x :: st, hp) out := by
  refine ⟨k.1, ?_⟩
  intro base spa spn spf cm D p l e R s m args below meth c Q cE sE H locs cells slots ls hX hfr hlo hcE hsE hK hc hs hD hS hL
  have hx := hX.1
  have hb := hX.2.1
  refine lv_irem hx hb hd hne ?_
  exact k.2 base spa spn spf cm D p l e R s m args below meth c Q cE sE H locs cells slots ls hX hfr hlo hcE hsE hK hc hs hD hS hL
theorem g_ladd {M : mM} {d pc : Nat} {L : mLs} {st : List Value} {hp : mHp} {out : mOut} {x y : Int64} (hd : decode M.2.1 pc = .ok (.ladd, 1))  (k : mGo M d (pc + 1, L, .long (x + y) :: st, hp) out) : mGo M d (pc, L, .long y :: .long x :: st, hp) out := by
  refine ⟨k.1, ?_⟩
  intro base spa spn spf cm D p l e R s m args below meth c Q cE sE H locs cells slots ls hX hfr hlo hcE hsE hK hc hs hD hS hL
  have hx := hX.1
  have hb := hX.2.1
  refine lv_ladd hx hb hd ?_
  exact k.2 base spa spn spf cm D p l e R s m args below meth c Q cE sE H locs cells slots ls hX hfr hlo hcE hsE hK hc hs hD hS hL
theorem g_lmul {M : mM} {d pc : Nat} {L : mLs} {st : List Value} {hp : mHp} {out : mOut} {x y : Int64} (hd : decode M.2.1 pc = .ok (.lmul, 1))  (k : mGo M d (pc + 1, L, .long (x * y) :: st, hp) out) : mGo M d (pc, L, .long y :: .long x :: st, hp) out := by
  refine ⟨k.1, ?_⟩
  intro base spa spn spf cm D p l e R s m args below meth c Q cE sE H locs cells slots ls hX hfr hlo hcE hsE hK hc hs hD hS hL
  have hx := hX.1
  have hb := hX.2.1
  refine lv_lmul hx hb hd ?_
  exact k.2 base spa spn spf cm D p l e R s m args below meth c Q cE sE H locs cells slots ls hX hfr hlo hcE hsE hK hc hs hD hS hL
theorem g_land {M : mM} {d pc : Nat} {L : mLs} {st : List Value} {hp : mHp} {out : mOut} {x y : Int64} (hd : decode M.2.1 pc = .ok (.land, 1))  (k : mGo M d (pc + 1, L, .long (x &&& y) :: st, hp) out) : mGo M d (pc, L, .long y :: .long x :: st, hp) out := by
  refine ⟨k.1, ?_⟩
  intro base spa spn spf cm D p l e R s m args below meth c Q cE sE H locs cells slots ls hX hfr hlo hcE hsE hK hc hs hD hS hL
  have hx := hX.1
  have hb := hX.2.1
  refine lv_land hx hb hd ?_
  exact k.2 base spa spn spf cm D p l e R s m args below meth c Q cE sE H locs cells slots ls hX hfr hlo hcE hsE hK hc hs hD hS hL
theorem g_lor {M : mM} {d pc : Nat} {L : mLs} {st : List Value} {hp : mHp} {out : mOut} {x y : Int64} (hd : decode M.2.1 pc = .ok (.lor, 1))  (k : mGo M d (pc + 1, L, .long (x ||| y) :: st, hp) out) : mGo M d (pc, L, .long y :: .long x :: st, hp) out := by
  refine ⟨k.1, ?_⟩
  intro base spa spn spf cm D p l e R s m args below meth c Q cE sE H locs cells slots ls hX hfr hlo hcE hsE hK hc hs hD hS hL
  have hx := hX.1
  have hb := hX.2.1
  refine lv_lor hx hb hd ?_
  exact k.2 base spa spn spf cm D p l e R s m args below meth c Q cE sE H locs cells slots ls hX hfr hlo hcE hsE hK hc hs hD hS hL
theorem g_i2l {M : mM} {d pc : Nat} {L : mLs} {st : List Value} {hp : mHp} {out : mOut} {x : Int32} (hd : decode M.2.1 pc = .ok (.i2l, 1))  (k : mGo M d (pc + 1, L, .long x.toInt64 :: st, hp) out) : mGo M d (pc, L, .int x :: st, hp) out := by
  refine ⟨k.1, ?_⟩
  intro base spa spn spf cm D p l e R s m args below meth c Q cE sE H locs cells slots ls hX hfr hlo hcE hsE hK hc hs hD hS hL
  have hx := hX.1
  have hb := hX.2.1
  refine lv_i2l hx hb hd rfl ?_
  exact k.2 base spa spn spf cm D p l e R s m args below meth c Q cE sE H locs cells slots ls hX hfr hlo hcE hsE hK hc hs hD hS hL
theorem g_l2i {M : mM} {d pc : Nat} {L : mLs} {st : List Value} {hp : mHp} {out : mOut} {x : Int64} (hd : decode M.2.1 pc = .ok (.l2i, 1))  (k : mGo M d (pc + 1, L, .int x.toInt32 :: st, hp) out) : mGo M d (pc, L, .long x :: st, hp) out := by
  refine ⟨k.1, ?_⟩
  intro base spa spn spf cm D p l e R s m args below meth c Q cE sE H locs cells slots ls hX hfr hlo hcE hsE hK hc hs hD hS hL
  have hx := hX.1
  have hb := hX.2.1
  refine lv_l2i hx hb hd rfl ?_
  exact k.2 base spa spn spf cm D p l e R s m args below meth c Q cE sE H locs cells slots ls hX hfr hlo hcE hsE hK hc hs hD hS hL
theorem g_lushr {M : mM} {d pc : Nat} {L : mLs} {st : List Value} {hp : mHp} {out : mOut} {x : Int64} {y : Int32} (hd : decode M.2.1 pc = .ok (.lushr, 1))  (k : mGo M d (pc + 1, L, .long (x.toUInt64 >>> (y.toInt64.toUInt64 &&& Int64.toUInt64 63)).toInt64 :: st, hp) out) : mGo M d (pc, L, .int y :: .long x :: st, hp) out := by
  refine ⟨k.1, ?_⟩
  intro base spa spn spf cm D p l e R s m args below meth c Q cE sE H locs cells slots ls hX hfr hlo hcE hsE hK hc hs hD hS hL
  have hx := hX.1
  have hb := hX.2.1
  refine lv_lushr hx hb hd rfl ?_
  exact k.2 base spa spn spf cm D p l e R s m args below meth c Q cE sE H locs cells slots ls hX hfr hlo hcE hsE hK hc hs hD hS hL
theorem g_lshl {M : mM} {d pc : Nat} {L : mLs} {st : List Value} {hp : mHp} {out : mOut} {x : Int64} {y : Int32} (hd : decode M.2.1 pc = .ok (.lshl, 1))  (k : mGo M d (pc + 1, L, .long (x <<< (y.toInt64 &&& 63)) :: st, hp) out) : mGo M d (pc, L, .int y :: .long x :: st, hp) out := by
  refine ⟨k.1, ?_⟩
  intro base spa spn spf cm D p l e R s m args below meth c Q cE sE H locs cells slots ls hX hfr hlo hcE hsE hK hc hs hD hS hL
  have hx := hX.1
  have hb := hX.2.1
  refine lv_lshl hx hb hd rfl ?_
  exact k.2 base spa spn spf cm D p l e R s m args below meth c Q cE sE H locs cells slots ls hX hfr hlo hcE hsE hK hc hs hD hS hL
theorem g_lshr {M : mM} {d pc : Nat} {L : mLs} {st : List Value} {hp : mHp} {out : mOut} {x : Int64} {y : Int32} (hd : decode M.2.1 pc = .ok (.lshr, 1))  (k : mGo M d (pc + 1, L, .long (x >>> (y.toInt64 &&& 63)) :: st, hp) out) : mGo M d (pc, L, .int y :: .long x :: st, hp) out := by
  refine ⟨k.1, ?_⟩
  intro base spa spn spf cm D p l e R s m args below meth c Q cE sE H locs cells slots ls hX hfr hlo hcE hsE hK hc hs hD hS hL
  have hx := hX.1
  have hb := hX.2.1
  refine lv_lshr hx hb hd rfl ?_
  exact k.2 base spa spn spf cm D p l e R s m args below meth c Q cE sE H locs cells slots ls hX hfr hlo hcE hsE hK hc hs hD hS hL
theorem g_dup {M : mM} {d pc : Nat} {L : mLs} {st : List Value} {hp : mHp} {out : mOut} {v : Value} (hd : decode M.2.1 pc = .ok (.dup, 1)) (hv : v.category = 1) (k : mGo M d (pc + 1, L, v :: v :: st, hp) out) : mGo M d (pc, L, v :: st, hp) out := by
  refine ⟨k.1, ?_⟩
  intro base spa spn spf cm D p l e R s m args below meth c Q cE sE H locs cells slots ls hX hfr hlo hcE hsE hK hc hs hD hS hL
  have hx := hX.1
  have hb := hX.2.1
  refine lv_dup hx hb hd (by rw [mtv_cat]; exact hv) ?_
  exact k.2 base spa spn spf cm D p l e R s m args below meth c Q cE sE H locs cells slots ls hX hfr hlo hcE hsE hK hc hs hD hS hL
theorem g_pop {M : mM} {d pc : Nat} {L : mLs} {st : List Value} {hp : mHp} {out : mOut} {v : Value} (hd : decode M.2.1 pc = .ok (.pop, 1)) (hv : v.category = 1) (k : mGo M d (pc + 1, L, st, hp) out) : mGo M d (pc, L, v :: st, hp) out := by
  refine ⟨k.1, ?_⟩
  intro base spa spn spf cm D p l e R s m args below meth c Q cE sE H locs cells slots ls hX hfr hlo hcE hsE hK hc hs hD hS hL
  have hx := hX.1
  have hb := hX.2.1
  refine lv_pop hx hb hd (by rw [mtv_cat]; exact hv) ?_
  exact k.2 base spa spn spf cm D p l e R s m args below meth c Q cE sE H locs cells slots ls hX hfr hlo hcE hsE hK hc hs hD hS hL
theorem g_dup2 {M : mM} {d pc : Nat} {L : mLs} {st : List Value} {hp : mHp} {out : mOut} {v w : Value} (hd : decode M.2.1 pc = .ok (.dup2, 1)) (hv : v.category = 1) (hw : w.category = 1) (k : mGo M d (pc + 1, L, v :: w :: v :: w :: st, hp) out) : mGo M d (pc, L, v :: w :: st, hp) out := by
  refine ⟨k.1, ?_⟩
  intro base spa spn spf cm D p l e R s m args below meth c Q cE sE H locs cells slots ls hX hfr hlo hcE hsE hK hc hs hD hS hL
  have hx := hX.1
  have hb := hX.2.1
  refine lv_dup2_11 hx hb hd (by rw [mtv_cat]; exact hv) (by rw [mtv_cat]; exact hw) ?_
  exact k.2 base spa spn spf cm D p l e R s m args below meth c Q cE sE H locs cells slots ls hX hfr hlo hcE hsE hK hc hs hD hS hL
theorem g_ldcw {M : mM} {d pc : Nat} {L : mLs} {st : List Value} {hp : mHp} {out : mOut} {i : Nat} {v : Int32} (hd : decode M.2.1 pc = .ok (.ldc_w i, 3)) (hw : Cond.constant M.1 i v ∈ mGW) (k : mGo M d (pc + 3, L, .int v :: st, hp) out) : mGo M d (pc, L, st, hp) out := by
  refine ⟨k.1, ?_⟩
  intro base spa spn spf cm D p l e R s m args below meth c Q cE sE H locs cells slots ls hX hfr hlo hcE hsE hK hc hs hD hS hL
  have hx := hX.1
  have hb := hX.2.1
  refine lv_ldcw hx hb hX.2.2.2.2.1 (hX.2.2.2.2.2.2.2.1 _ hw) hd ?_
  exact k.2 base spa spn spf cm D p l e R s m args below meth c Q cE sE H locs cells slots ls hX hfr hlo hcE hsE hK hc hs hD hS hL
theorem g_ldc {M : mM} {d pc : Nat} {L : mLs} {st : List Value} {hp : mHp} {out : mOut} {i : Nat} {v : Int32} (hd : decode M.2.1 pc = .ok (.ldc i, 2)) (hw : Cond.constant M.1 i v ∈ mGW) (k : mGo M d (pc + 2, L, .int v :: st, hp) out) : mGo M d (pc, L, st, hp) out := by
  refine ⟨k.1, ?_⟩
  intro base spa spn spf cm D p l e R s m args below meth c Q cE sE H locs cells slots ls hX hfr hlo hcE hsE hK hc hs hD hS hL
  have hx := hX.1
  have hb := hX.2.1
  refine lv_ldc hx hb hX.2.2.2.2.1 (hX.2.2.2.2.2.2.2.1 _ hw) hd ?_
  exact k.2 base spa spn spf cm D p l e R s m args below meth c Q cE sE H locs cells slots ls hX hfr hlo hcE hsE hK hc hs hD hS hL
theorem g_ldc2 {M : mM} {d pc : Nat} {L : mLs} {st : List Value} {hp : mHp} {out : mOut} {i : Nat} {v : Int64} (hd : decode M.2.1 pc = .ok (.ldc2_w i, 3)) (hw : Cond.constantLong M.1 i v ∈ mGW) (k : mGo M d (pc + 3, L, .long v :: st, hp) out) : mGo M d (pc, L, st, hp) out := by
  refine ⟨k.1, ?_⟩
  intro base spa spn spf cm D p l e R s m args below meth c Q cE sE H locs cells slots ls hX hfr hlo hcE hsE hK hc hs hD hS hL
  have hx := hX.1
  have hb := hX.2.1
  refine lv_ldc2 hx hb hX.2.2.2.2.1 (hX.2.2.2.2.2.2.2.1 _ hw) hd ?_
  exact k.2 base spa spn spf cm D p l e R s m args below meth c Q cE sE H locs cells slots ls hX hfr hlo hcE hsE hK hc hs hD hS hL
theorem g_lcmp {M : mM} {d pc : Nat} {L : mLs} {st : List Value} {hp : mHp} {out : mOut} {x y : Int64} (hd : decode M.2.1 pc = .ok (.lcmp, 1)) (k : mGo M d (pc + 1, L, .int (lg_cmp x y) :: st, hp) out) : mGo M d (pc, L, .long y :: .long x :: st, hp) out := by
  refine ⟨k.1, ?_⟩
  intro base spa spn spf cm D p l e R s m args below meth c Q cE sE H locs cells slots ls hX hfr hlo hcE hsE hK hc hs hD hS hL
  have hx := hX.1
  have hb := hX.2.1
  refine W.lcmp hx hb hd ?_
  exact k.2 base spa spn spf cm D p l e R s m args below meth c Q cE sE H locs cells slots ls hX hfr hlo hcE hsE hK hc hs hD hS hL
theorem g_iload_n {M : mM} {d pc : Nat} {L : mLs} {st : List Value} {hp : mHp} {out : mOut} {n : Fin 4} {x : Int32} (hd : decode M.2.1 pc = .ok (.iload_n n, 1)) (hl : L[(n : Nat)]? = some (some (.int x))) (k : mGo M d (pc + 1, L, .int x :: st, hp) out) : mGo M d (pc, L, st, hp) out := by
  refine ⟨k.1, ?_⟩
  intro base spa spn spf cm D p l e R s m args below meth c Q cE sE H locs cells slots ls hX hfr hlo hcE hsE hK hc hs hD hS hL
  have hx := hX.1
  have hb := hX.2.1
  refine lv_iload_n hx hb hd rfl (hL.2.2 _ _ hl) ?_
  exact k.2 base spa spn spf cm D p l e R s m args below meth c Q cE sE H locs cells slots ls hX hfr hlo hcE hsE hK hc hs hD hS hL
theorem g_iload {M : mM} {d pc : Nat} {L : mLs} {st : List Value} {hp : mHp} {out : mOut} {n : Nat} {x : Int32} (hd : decode M.2.1 pc = .ok (.iload n, 2)) (hl : L[n]? = some (some (.int x))) (k : mGo M d (pc + 2, L, .int x :: st, hp) out) : mGo M d (pc, L, st, hp) out := by
  refine ⟨k.1, ?_⟩
  intro base spa spn spf cm D p l e R s m args below meth c Q cE sE H locs cells slots ls hX hfr hlo hcE hsE hK hc hs hD hS hL
  have hx := hX.1
  have hb := hX.2.1
  refine lv_iload hx hb hd (hL.2.2 _ _ hl) ?_
  exact k.2 base spa spn spf cm D p l e R s m args below meth c Q cE sE H locs cells slots ls hX hfr hlo hcE hsE hK hc hs hD hS hL
theorem g_lload_n {M : mM} {d pc : Nat} {L : mLs} {st : List Value} {hp : mHp} {out : mOut} {n : Fin 4} {x : Int64} (hd : decode M.2.1 pc = .ok (.lload_n n, 1)) (hl : L[(n : Nat)]? = some (some (.long x))) (k : mGo M d (pc + 1, L, .long x :: st, hp) out) : mGo M d (pc, L, st, hp) out := by
  refine ⟨k.1, ?_⟩
  intro base spa spn spf cm D p l e R s m args below meth c Q cE sE H locs cells slots ls hX hfr hlo hcE hsE hK hc hs hD hS hL
  have hx := hX.1
  have hb := hX.2.1
  refine lv_lload_n hx hb hd rfl (hL.2.2 _ _ hl) ?_
  exact k.2 base spa spn spf cm D p l e R s m args below meth c Q cE sE H locs cells slots ls hX hfr hlo hcE hsE hK hc hs hD hS hL
theorem g_lload {M : mM} {d pc : Nat} {L : mLs} {st : List Value} {hp : mHp} {out : mOut} {n : Nat} {x : Int64} (hd : decode M.2.1 pc = .ok (.lload n, 2)) (hl : L[n]? = some (some (.long x))) (k : mGo M d (pc + 2, L, .long x :: st, hp) out) : mGo M d (pc, L, st, hp) out := by
  refine ⟨k.1, ?_⟩
  intro base spa spn spf cm D p l e R s m args below meth c Q cE sE H locs cells slots ls hX hfr hlo hcE hsE hK hc hs hD hS hL
  have hx := hX.1
  have hb := hX.2.1
  refine lv_lload hx hb hd (hL.2.2 _ _ hl) ?_
  exact k.2 base spa spn spf cm D p l e R s m args below meth c Q cE sE H locs cells slots ls hX hfr hlo hcE hsE hK hc hs hD hS hL
theorem g_aload_n {M : mM} {d pc : Nat} {L : mLs} {st : List Value} {hp : mHp} {out : mOut} {n : Fin 4} {x : Nat} (hd : decode M.2.1 pc = .ok (.aload_n n, 1)) (hl : L[(n : Nat)]? = some (some (.ref x))) (k : mGo M d (pc + 1, L, .ref x :: st, hp) out) : mGo M d (pc, L, st, hp) out := by
  refine ⟨k.1, ?_⟩
  intro base spa spn spf cm D p l e R s m args below meth c Q cE sE H locs cells slots ls hX hfr hlo hcE hsE hK hc hs hD hS hL
  have hx := hX.1
  have hb := hX.2.1
  refine lv_aload_n hx hb hd rfl (hL.2.2 _ _ hl) ?_
  exact k.2 base spa spn spf cm D p l e R s m args below meth c Q cE sE H locs cells slots ls hX hfr hlo hcE hsE hK hc hs hD hS hL
theorem g_aload {M : mM} {d pc : Nat} {L : mLs} {st : List Value} {hp : mHp} {out : mOut} {n : Nat} {x : Nat} (hd : decode M.2.1 pc = .ok (.aload n, 2)) (hl : L[n]? = some (some (.ref x))) (k : mGo M d (pc + 2, L, .ref x :: st, hp) out) : mGo M d (pc, L, st, hp) out := by
  refine ⟨k.1, ?_⟩
  intro base spa spn spf cm D p l e R s m args below meth c Q cE sE H locs cells slots ls hX hfr hlo hcE hsE hK hc hs hD hS hL
  have hx := hX.1
  have hb := hX.2.1
  refine lv_aload hx hb hd (hL.2.2 _ _ hl) ?_
  exact k.2 base spa spn spf cm D p l e R s m args below meth c Q cE sE H locs cells slots ls hX hfr hlo hcE hsE hK hc hs hD hS hL
def mSb (L : mLs) (i : Nat) : Bool := match i with
  | 0 => true
  | j + 1 => match L[j]? with
    | some (some v) => v.category == 1
    | _ => true
theorem mh_store1 {base : Nat} {spa : Nat → Nat} {ls : Array Slot} {nL i : Nat} {L : mLs} {v : Value} (h : mh base spa ls nL L) (hi : i < nL) (hc : v.category = 1) (hb : mSb L i = true) : ∃ ls', storeLocals ls i (mtv base spa v) = some ls' ∧ mh base spa ls' nL (L.set i (some v)) := by
  have h0 : lv_has ls nL ((List.range L.length).filterMap (fun j => (L.getD j none).map (fun w => (j, mtv base spa w)))) := by
    refine ⟨h.1, h.2.1, fun q hq => ?_⟩
    obtain ⟨j, hj, e⟩ := List.mem_filterMap.mp hq
    cases hw : L.getD j none with
    | none => rw [hw] at e; cases e
    | some w =>
      rw [hw] at e
      cases e
      have hjl := List.mem_range.mp hj
      refine h.2.2 j w ?_
      rw [List.getD_eq_getElem?_getD, List.getElem?_eq_getElem hjl] at hw
      rw [List.getElem?_eq_getElem hjl]
      exact congrArg some hw
  obtain ⟨ls', e', h'⟩ := lv_store1 (v := mtv base spa v) h0 hi (by rw [mtv_cat]; exact hc)
  refine ⟨ls', e', h'.1, h'.2.1, fun a w ha => ?_⟩
  by_cases hai : a = i
  · subst hai
    have hl : a < L.length := by
      have := (List.getElem?_eq_some_iff.mp ha).1
      simpa using this
    rw [List.getElem?_set_self hl] at ha
    cases ha
    exact h'.2.2 (a, _) List.mem_cons_self
  · rw [List.getElem?_set_ne (Ne.symm hai)] at ha
    refine h'.2.2 (a, mtv base spa w) (List.mem_cons_of_mem _ (List.mem_filter.mpr ⟨?_, ?_⟩))
    · refine List.mem_filterMap.mpr ⟨a, List.mem_range.mpr (List.getElem?_eq_some_iff.mp ha).1, ?_⟩
      rw [List.getD_eq_getElem?_getD, ha]
      rfl
    · by_cases h1 : a + 1 = i
      · subst h1
        simp only [mSb, ha] at hb
        have hcat : w.category = 1 := by simpa using hb
        simp [hai, mtv_cat, hcat]
      · simp [hai, h1]
theorem mh_store2 {base : Nat} {spa : Nat → Nat} {ls : Array Slot} {nL i : Nat} {L : mLs} {v : Value} (h : mh base spa ls nL L) (hi : i + 1 < nL) (hc : v.category = 2) (hb : mSb L i = true) : ∃ ls', storeLocals ls i (mtv base spa v) = some ls' ∧ mh base spa ls' nL ((L.set i (some v)).set (i + 1) none) := by
  have h0 : lv_has ls nL ((List.range L.length).filterMap (fun j => (L.getD j none).map (fun w => (j, mtv base spa w)))) := by
    refine ⟨h.1, h.2.1, fun q hq => ?_⟩
    obtain ⟨j, hj, e⟩ := List.mem_filterMap.mp hq
    cases hw : L.getD j none with
    | none => rw [hw] at e; cases e
    | some w =>
      rw [hw] at e
      cases e
      have hjl := List.mem_range.mp hj
      refine h.2.2 j w ?_
      rw [List.getD_eq_getElem?_getD, List.getElem?_eq_getElem hjl] at hw
      rw [List.getElem?_eq_getElem hjl]
      exact congrArg some hw
  obtain ⟨ls', e', h'⟩ := lv_store2 (v := mtv base spa v) h0 hi (by rw [mtv_cat]; exact hc)
  refine ⟨ls', e', h'.1, h'.2.1, fun a w ha => ?_⟩
  by_cases ha1 : a = i + 1
  · subst ha1
    have hl : i + 1 < L.length := by
      have := (List.getElem?_eq_some_iff.mp ha).1
      simpa using this
    rw [List.getElem?_set_self (by simpa using hl)] at ha
    cases ha
  · rw [List.getElem?_set_ne (Ne.symm ha1)] at ha
    by_cases hai : a = i
    · subst hai
      have hl : a < L.length := by
        have := (List.getElem?_eq_some_iff.mp ha).1
        simpa using this
      rw [List.getElem?_set_self hl] at ha
      cases ha
      exact h'.2.2 (a, _) List.mem_cons_self
    · rw [List.getElem?_set_ne (Ne.symm hai)] at ha
      refine h'.2.2 (a, mtv base spa w) (List.mem_cons_of_mem _ (List.mem_filter.mpr ⟨?_, ?_⟩))
      · refine List.mem_filterMap.mpr ⟨a, List.mem_range.mpr (List.getElem?_eq_some_iff.mp ha).1, ?_⟩
        rw [List.getD_eq_getElem?_getD, ha]
        rfl
      · by_cases h1 : a + 1 = i
        · subst h1
          simp only [mSb, ha] at hb
          have hcat : w.category = 1 := by simpa using hb
          simp [hai, ha1, mtv_cat, hcat]
        · simp [hai, h1, ha1]
theorem g_istore_n {M : mM} {d pc : Nat} {L : mLs} {st : List Value} {hp : mHp} {out : mOut} {n : Fin 4} {x : Int32} (hd : decode M.2.1 pc = .ok (.istore_n n, 1)) (hi : (n : Nat) < M.2.2.1) (hb1 : mSb L (n : Nat) = true) (k : mGo M d (pc + 1, L.set (n : Nat) (some (.int x)), st, hp) out) : mGo M d (pc, L, .int x :: st, hp) out := by
  refine ⟨k.1, ?_⟩
  intro base spa spn spf cm D p l e R s m args below meth c Q cE sE H locs cells slots ls hX hfr hlo hcE hsE hK hc hs hD hS hL
  have hx := hX.1
  have hb := hX.2.1
  obtain ⟨ls', e', h'⟩ := mh_store1 (v := .int x) hL hi rfl hb1
  intro T hT X
  obtain ⟨t, a, b⟩ := k.2 base spa spn spf cm D p l e R s m args below meth c Q cE sE H locs cells slots ls' hX hfr hlo hcE hsE hK hc hs hD hS h' T hT X
  refine ⟨t, ?_, b⟩
  simp only [mtv] at e'
  show Steps p.tables e below (T.setTop (F0 m pc ls (_ :: st.map (mtv base spa)))) t
  jvm_step X.here [X.here.top, ↓top_set X.here.top, hx, hb, hd, e', mtv]
  exact a
theorem g_istore {M : mM} {d pc : Nat} {L : mLs} {st : List Value} {hp : mHp} {out : mOut} {n : Nat} {x : Int32} (hd : decode M.2.1 pc = .ok (.istore n, 2)) (hi : n < M.2.2.1) (hb1 : mSb L n = true) (k : mGo M d (pc + 2, L.set n (some (.int x)), st, hp) out) : mGo M d (pc, L, .int x :: st, hp) out := by
  refine ⟨k.1, ?_⟩
  intro base spa spn spf cm D p l e R s m args below meth c Q cE sE H locs cells slots ls hX hfr hlo hcE hsE hK hc hs hD hS hL
  have hx := hX.1
  have hb := hX.2.1
  obtain ⟨ls', e', h'⟩ := mh_store1 (v := .int x) hL hi rfl hb1
  intro T hT X
  obtain ⟨t, a, b⟩ := k.2 base spa spn spf cm D p l e R s m args below meth c Q cE sE H locs cells slots ls' hX hfr hlo hcE hsE hK hc hs hD hS h' T hT X
  refine ⟨t, ?_, b⟩
  simp only [mtv] at e'
  show Steps p.tables e below (T.setTop (F0 m pc ls (_ :: st.map (mtv base spa)))) t
  jvm_step X.here [X.here.top, ↓top_set X.here.top, hx, hb, hd, e', mtv]
  exact a
theorem g_astore_n {M : mM} {d pc : Nat} {L : mLs} {st : List Value} {hp : mHp} {out : mOut} {n : Fin 4} {x : Nat} (hd : decode M.2.1 pc = .ok (.astore_n n, 1)) (hi : (n : Nat) < M.2.2.1) (hb1 : mSb L (n : Nat) = true) (k : mGo M d (pc + 1, L.set (n : Nat) (some (.ref x)), st, hp) out) : mGo M d (pc, L, .ref x :: st, hp) out := by
  refine ⟨k.1, ?_⟩
  intro base spa spn spf cm D p l e R s m args below meth c Q cE sE H locs cells slots ls hX hfr hlo hcE hsE hK hc hs hD hS hL
  have hx := hX.1
  have hb := hX.2.1
  obtain ⟨ls', e', h'⟩ := mh_store1 (v := .ref x) hL hi rfl hb1
  intro T hT X
  obtain ⟨t, a, b⟩ := k.2 base spa spn spf cm D p l e R s m args below meth c Q cE sE H locs cells slots ls' hX hfr hlo hcE hsE hK hc hs hD hS h' T hT X
  refine ⟨t, ?_, b⟩
  simp only [mtv] at e'
  show Steps p.tables e below (T.setTop (F0 m pc ls (_ :: st.map (mtv base spa)))) t
  jvm_step X.here [X.here.top, ↓top_set X.here.top, hx, hb, hd, e', mtv]
  exact ⟨rfl, a⟩
theorem g_astore {M : mM} {d pc : Nat} {L : mLs} {st : List Value} {hp : mHp} {out : mOut} {n : Nat} {x : Nat} (hd : decode M.2.1 pc = .ok (.astore n, 2)) (hi : n < M.2.2.1) (hb1 : mSb L n = true) (k : mGo M d (pc + 2, L.set n (some (.ref x)), st, hp) out) : mGo M d (pc, L, .ref x :: st, hp) out := by
  refine ⟨k.1, ?_⟩
  intro base spa spn spf cm D p l e R s m args below meth c Q cE sE H locs cells slots ls hX hfr hlo hcE hsE hK hc hs hD hS hL
  have hx := hX.1
  have hb := hX.2.1
  obtain ⟨ls', e', h'⟩ := mh_store1 (v := .ref x) hL hi rfl hb1
  intro T hT X
  obtain ⟨t, a, b⟩ := k.2 base spa spn spf cm D p l e R s m args below meth c Q cE sE H locs cells slots ls' hX hfr hlo hcE hsE hK hc hs hD hS h' T hT X
  refine ⟨t, ?_, b⟩
  simp only [mtv] at e'
  show Steps p.tables e below (T.setTop (F0 m pc ls (_ :: st.map (mtv base spa)))) t
  jvm_step X.here [X.here.top, ↓top_set X.here.top, hx, hb, hd, e', mtv]
  exact ⟨rfl, a⟩
theorem g_lstore_n {M : mM} {d pc : Nat} {L : mLs} {st : List Value} {hp : mHp} {out : mOut} {n : Fin 4} {x : Int64} (hd : decode M.2.1 pc = .ok (.lstore_n n, 1)) (hi : (n : Nat) + 1 < M.2.2.1) (hb1 : mSb L (n : Nat) = true) (k : mGo M d (pc + 1, (L.set (n : Nat) (some (.long x))).set ((n : Nat) + 1) none, st, hp) out) : mGo M d (pc, L, .long x :: st, hp) out := by
  refine ⟨k.1, ?_⟩
  intro base spa spn spf cm D p l e R s m args below meth c Q cE sE H locs cells slots ls hX hfr hlo hcE hsE hK hc hs hD hS hL
  have hx := hX.1
  have hb := hX.2.1
  obtain ⟨ls', e', h'⟩ := mh_store2 (v := .long x) hL hi rfl hb1
  intro T hT X
  obtain ⟨t, a, b⟩ := k.2 base spa spn spf cm D p l e R s m args below meth c Q cE sE H locs cells slots ls' hX hfr hlo hcE hsE hK hc hs hD hS h' T hT X
  refine ⟨t, ?_, b⟩
  simp only [mtv] at e'
  show Steps p.tables e below (T.setTop (F0 m pc ls (_ :: st.map (mtv base spa)))) t
  jvm_step X.here [X.here.top, ↓top_set X.here.top, hx, hb, hd, e', mtv]
  exact a
theorem g_lstore {M : mM} {d pc : Nat} {L : mLs} {st : List Value} {hp : mHp} {out : mOut} {n : Nat} {x : Int64} (hd : decode M.2.1 pc = .ok (.lstore n, 2)) (hi : n + 1 < M.2.2.1) (hb1 : mSb L n = true) (k : mGo M d (pc + 2, (L.set n (some (.long x))).set (n + 1) none, st, hp) out) : mGo M d (pc, L, .long x :: st, hp) out := by
  refine ⟨k.1, ?_⟩
  intro base spa spn spf cm D p l e R s m args below meth c Q cE sE H locs cells slots ls hX hfr hlo hcE hsE hK hc hs hD hS hL
  have hx := hX.1
  have hb := hX.2.1
  obtain ⟨ls', e', h'⟩ := mh_store2 (v := .long x) hL hi rfl hb1
  intro T hT X
  obtain ⟨t, a, b⟩ := k.2 base spa spn spf cm D p l e R s m args below meth c Q cE sE H locs cells slots ls' hX hfr hlo hcE hsE hK hc hs hD hS h' T hT X
  refine ⟨t, ?_, b⟩
  simp only [mtv] at e'
  show Steps p.tables e below (T.setTop (F0 m pc ls (_ :: st.map (mtv base spa)))) t
  jvm_step X.here [X.here.top, ↓top_set X.here.top, hx, hb, hd, e', mtv]
  exact a
theorem g_iinc {M : mM} {d pc : Nat} {L : mLs} {st : List Value} {hp : mHp} {out : mOut} {n : Nat} {z : Int} {x : Int32} (hd : decode M.2.1 pc = .ok (.iinc n z, 3)) (hl : L[n]? = some (some (.int x))) (hi : n < M.2.2.1) (hb1 : mSb L n = true) (k : mGo M d (pc + 3, L.set n (some (.int (x + Int32.ofInt z))), st, hp) out) : mGo M d (pc, L, st, hp) out := by
  refine ⟨k.1, ?_⟩
  intro base spa spn spf cm D p l e R s m args below meth c Q cE sE H locs cells slots ls hX hfr hlo hcE hsE hK hc hs hD hS hL
  have hx := hX.1
  have hb := hX.2.1
  obtain ⟨ls', e', h'⟩ := mh_store1 (v := .int (x + Int32.ofInt z)) hL hi rfl hb1
  have hg : ls[n]? = some (.val (.int x)) := hL.2.2 _ _ hl
  intro T hT X
  obtain ⟨t, a, b⟩ := k.2 base spa spn spf cm D p l e R s m args below meth c Q cE sE H locs cells slots ls' hX hfr hlo hcE hsE hK hc hs hD hS h' T hT X
  refine ⟨t, ?_, b⟩
  simp only [mtv] at e'
  show Steps p.tables e below (T.setTop (F0 m pc ls (st.map (mtv base spa)))) t
  jvm_step X.here [X.here.top, ↓top_set X.here.top, hx, hb, hd, hg, e', mtv]
  exact a
theorem g_goto {M : mM} {d pc tgt : Nat} {L : mLs} {st : List Value} {hp : mHp} {out : mOut} {off : Int} (hd : decode M.2.1 pc = .ok (.goto off, 3)) (ht : (pc : Int) + off = (tgt : Int)) (k : mGo M d (tgt, L, st, hp) out) : mGo M d (pc, L, st, hp) out := by
  refine ⟨k.1, ?_⟩
  intro base spa spn spf cm D p l e R s m args below meth c Q cE sE H locs cells slots ls hX hfr hlo hcE hsE hK hc hs hD hS hL
  have hx := hX.1
  have hb := hX.2.1
  refine lv_goto hx hb hd ht ?_
  exact k.2 base spa spn spf cm D p l e R s m args below meth c Q cE sE H locs cells slots ls hX hfr hlo hcE hsE hK hc hs hD hS hL
theorem g_if_eq {M : mM} {d pc tgt : Nat} {L : mLs} {st : List Value} {hp : mHp} {out : mOut} {x : Int32} {off : Int} (hd : decode M.2.1 pc = .ok (.ifCond .eq off, 3)) (ht : (pc : Int) + off = (tgt : Int)) (kt : x = 0 → mGo M d (tgt, L, st, hp) out) (kf : ¬ (x = 0) → mGo M d (pc + 3, L, st, hp) out) : mGo M d (pc, L, .int x :: st, hp) out := by
  refine ⟨by by_cases q : x = 0
             · exact (kt q).1
             · exact (kf q).1, ?_⟩
  intro base spa spn spf cm D p l e R s m args below meth c Q cE sE H locs cells slots ls hX hfr hlo hcE hsE hK hc hs hD hS hL
  have hx := hX.1
  have hb := hX.2.1
  refine lv_if_eq hx hb hd ht (fun q => ?_) (fun q => ?_)
  · exact (kt q).2 base spa spn spf cm D p l e R s m args below meth c Q cE sE H locs cells slots ls hX hfr hlo hcE hsE hK hc hs hD hS hL
  · exact (kf q).2 base spa spn spf cm D p l e R s m args below meth c Q cE sE H locs cells slots ls hX hfr hlo hcE hsE hK hc hs hD hS hL
theorem g_icmp_eq {M : mM} {d pc tgt : Nat} {L : mLs} {st : List Value} {hp : mHp} {out : mOut} {x y : Int32} {off : Int} (hd : decode M.2.1 pc = .ok (.if_icmp .eq off, 3)) (ht : (pc : Int) + off = (tgt : Int)) (kt : x = y → mGo M d (tgt, L, st, hp) out) (kf : ¬ (x = y) → mGo M d (pc + 3, L, st, hp) out) : mGo M d (pc, L, .int y :: .int x :: st, hp) out := by
  refine ⟨by by_cases q : x = y
             · exact (kt q).1
             · exact (kf q).1, ?_⟩
  intro base spa spn spf cm D p l e R s m args below meth c Q cE sE H locs cells slots ls hX hfr hlo hcE hsE hK hc hs hD hS hL
  have hx := hX.1
  have hb := hX.2.1
  refine lv_icmp_eq hx hb hd ht (fun q => ?_) (fun q => ?_)
  · exact (kt q).2 base spa spn spf cm D p l e R s m args below meth c Q cE sE H locs cells slots ls hX hfr hlo hcE hsE hK hc hs hD hS hL
  · exact (kf q).2 base spa spn spf cm D p l e R s m args below meth c Q cE sE H locs cells slots ls hX hfr hlo hcE hsE hK hc hs hD hS hL
theorem g_if_ne {M : mM} {d pc tgt : Nat} {L : mLs} {st : List Value} {hp : mHp} {out : mOut} {x : Int32} {off : Int} (hd : decode M.2.1 pc = .ok (.ifCond .ne off, 3)) (ht : (pc : Int) + off = (tgt : Int)) (kt : ¬ (x = 0) → mGo M d (tgt, L, st, hp) out) (kf : x = 0 → mGo M d (pc + 3, L, st, hp) out) : mGo M d (pc, L, .int x :: st, hp) out := by
  refine ⟨by by_cases q : x = 0
             · exact (kf q).1
             · exact (kt q).1, ?_⟩
  intro base spa spn spf cm D p l e R s m args below meth c Q cE sE H locs cells slots ls hX hfr hlo hcE hsE hK hc hs hD hS hL
  have hx := hX.1
  have hb := hX.2.1
  refine lv_if_ne hx hb hd ht (fun q => ?_) (fun q => ?_)
  · exact (kt q).2 base spa spn spf cm D p l e R s m args below meth c Q cE sE H locs cells slots ls hX hfr hlo hcE hsE hK hc hs hD hS hL
  · exact (kf q).2 base spa spn spf cm D p l e R s m args below meth c Q cE sE H locs cells slots ls hX hfr hlo hcE hsE hK hc hs hD hS hL
theorem g_icmp_ne {M : mM} {d pc tgt : Nat} {L : mLs} {st : List Value} {hp : mHp} {out : mOut} {x y : Int32} {off : Int} (hd : decode M.2.1 pc = .ok (.if_icmp .ne off, 3)) (ht : (pc : Int) + off = (tgt : Int)) (kt : ¬ (x = y) → mGo M d (tgt, L, st, hp) out) (kf : x = y → mGo M d (pc + 3, L, st, hp) out) : mGo M d (pc, L, .int y :: .int x :: st, hp) out := by
  refine ⟨by by_cases q : x = y
             · exact (kf q).1
             · exact (kt q).1, ?_⟩
  intro base spa spn spf cm D p l e R s m args below meth c Q cE sE H locs cells slots ls hX hfr hlo hcE hsE hK hc hs hD hS hL
  have hx := hX.1
  have hb := hX.2.1
  refine lv_icmp_ne hx hb hd ht (fun q => ?_) (fun q => ?_)
  · exact (kt q).2 base spa spn spf cm D p l e R s m args below meth c Q cE sE H locs cells slots ls hX hfr hlo hcE hsE hK hc hs hD hS hL
  · exact (kf q).2 base spa spn spf cm D p l e R s m args below meth c Q cE sE H locs cells slots ls hX hfr hlo hcE hsE hK hc hs hD hS hL
theorem g_if_lt {M : mM} {d pc tgt : Nat} {L : mLs} {st : List Value} {hp : mHp} {out : mOut} {x : Int32} {off : Int} (hd : decode M.2.1 pc = .ok (.ifCond .lt off, 3)) (ht : (pc : Int) + off = (tgt : Int)) (kt : x < 0 → mGo M d (tgt, L, st, hp) out) (kf : ¬ (x < 0) → mGo M d (pc + 3, L, st, hp) out) : mGo M d (pc, L, .int x :: st, hp) out := by
  refine ⟨by by_cases q : x < 0
             · exact (kt q).1
             · exact (kf q).1, ?_⟩
  intro base spa spn spf cm D p l e R s m args below meth c Q cE sE H locs cells slots ls hX hfr hlo hcE hsE hK hc hs hD hS hL
  have hx := hX.1
  have hb := hX.2.1
  refine lv_if_lt hx hb hd ht (fun q => ?_) (fun q => ?_)
  · exact (kt q).2 base spa spn spf cm D p l e R s m args below meth c Q cE sE H locs cells slots ls hX hfr hlo hcE hsE hK hc hs hD hS hL
  · exact (kf q).2 base spa spn spf cm D p l e R s m args below meth c Q cE sE H locs cells slots ls hX hfr hlo hcE hsE hK hc hs hD hS hL
theorem g_icmp_lt {M : mM} {d pc tgt : Nat} {L : mLs} {st : List Value} {hp : mHp} {out : mOut} {x y : Int32} {off : Int} (hd : decode M.2.1 pc = .ok (.if_icmp .lt off, 3)) (ht : (pc : Int) + off = (tgt : Int)) (kt : x < y → mGo M d (tgt, L, st, hp) out) (kf : ¬ (x < y) → mGo M d (pc + 3, L, st, hp) out) : mGo M d (pc, L, .int y :: .int x :: st, hp) out := by
  refine ⟨by by_cases q : x < y
             · exact (kt q).1
             · exact (kf q).1, ?_⟩
  intro base spa spn spf cm D p l e R s m args below meth c Q cE sE H locs cells slots ls hX hfr hlo hcE hsE hK hc hs hD hS hL
  have hx := hX.1
  have hb := hX.2.1
  refine lv_icmp_lt hx hb hd ht (fun q => ?_) (fun q => ?_)
  · exact (kt q).2 base spa spn spf cm D p l e R s m args below meth c Q cE sE H locs cells slots ls hX hfr hlo hcE hsE hK hc hs hD hS hL
  · exact (kf q).2 base spa spn spf cm D p l e R s m args below meth c Q cE sE H locs cells slots ls hX hfr hlo hcE hsE hK hc hs hD hS hL
theorem g_if_ge {M : mM} {d pc tgt : Nat} {L : mLs} {st : List Value} {hp : mHp} {out : mOut} {x : Int32} {off : Int} (hd : decode M.2.1 pc = .ok (.ifCond .ge off, 3)) (ht : (pc : Int) + off = (tgt : Int)) (kt : 0 ≤ x → mGo M d (tgt, L, st, hp) out) (kf : ¬ (0 ≤ x) → mGo M d (pc + 3, L, st, hp) out) : mGo M d (pc, L, .int x :: st, hp) out := by
  refine ⟨by by_cases q : 0 ≤ x
             · exact (kt q).1
             · exact (kf q).1, ?_⟩
  intro base spa spn spf cm D p l e R s m args below meth c Q cE sE H locs cells slots ls hX hfr hlo hcE hsE hK hc hs hD hS hL
  have hx := hX.1
  have hb := hX.2.1
  refine lv_if_ge hx hb hd ht (fun q => ?_) (fun q => ?_)
  · exact (kt q).2 base spa spn spf cm D p l e R s m args below meth c Q cE sE H locs cells slots ls hX hfr hlo hcE hsE hK hc hs hD hS hL
  · exact (kf q).2 base spa spn spf cm D p l e R s m args below meth c Q cE sE H locs cells slots ls hX hfr hlo hcE hsE hK hc hs hD hS hL
theorem g_icmp_ge {M : mM} {d pc tgt : Nat} {L : mLs} {st : List Value} {hp : mHp} {out : mOut} {x y : Int32} {off : Int} (hd : decode M.2.1 pc = .ok (.if_icmp .ge off, 3)) (ht : (pc : Int) + off = (tgt : Int)) (kt : y ≤ x → mGo M d (tgt, L, st, hp) out) (kf : ¬ (y ≤ x) → mGo M d (pc + 3, L, st, hp) out) : mGo M d (pc, L, .int y :: .int x :: st, hp) out := by
  refine ⟨by by_cases q : y ≤ x
             · exact (kt q).1
             · exact (kf q).1, ?_⟩
  intro base spa spn spf cm D p l e R s m args below meth c Q cE sE H locs cells slots ls hX hfr hlo hcE hsE hK hc hs hD hS hL
  have hx := hX.1
  have hb := hX.2.1
  refine lv_icmp_ge hx hb hd ht (fun q => ?_) (fun q => ?_)
  · exact (kt q).2 base spa spn spf cm D p l e R s m args below meth c Q cE sE H locs cells slots ls hX hfr hlo hcE hsE hK hc hs hD hS hL
  · exact (kf q).2 base spa spn spf cm D p l e R s m args below meth c Q cE sE H locs cells slots ls hX hfr hlo hcE hsE hK hc hs hD hS hL
theorem g_if_gt {M : mM} {d pc tgt : Nat} {L : mLs} {st : List Value} {hp : mHp} {out : mOut} {x : Int32} {off : Int} (hd : decode M.2.1 pc = .ok (.ifCond .gt off, 3)) (ht : (pc : Int) + off = (tgt : Int)) (kt : 0 < x → mGo M d (tgt, L, st, hp) out) (kf : ¬ (0 < x) → mGo M d (pc + 3, L, st, hp) out) : mGo M d (pc, L, .int x :: st, hp) out := by
  refine ⟨by by_cases q : 0 < x
             · exact (kt q).1
             · exact (kf q).1, ?_⟩
  intro base spa spn spf cm D p l e R s m args below meth c Q cE sE H locs cells slots ls hX hfr hlo hcE hsE hK hc hs hD hS hL
  have hx := hX.1
  have hb := hX.2.1
  refine lv_if_gt hx hb hd ht (fun q => ?_) (fun q => ?_)
  · exact (kt q).2 base spa spn spf cm D p l e R s m args below meth c Q cE sE H locs cells slots ls hX hfr hlo hcE hsE hK hc hs hD hS hL
  · exact (kf q).2 base spa spn spf cm D p l e R s m args below meth c Q cE sE H locs cells slots ls hX hfr hlo hcE hsE hK hc hs hD hS hL
theorem g_icmp_gt {M : mM} {d pc tgt : Nat} {L : mLs} {st : List Value} {hp : mHp} {out : mOut} {x y : Int32} {off : Int} (hd : decode M.2.1 pc = .ok (.if_icmp .gt off, 3)) (ht : (pc : Int) + off = (tgt : Int)) (kt : y < x → mGo M d (tgt, L, st, hp) out) (kf : ¬ (y < x) → mGo M d (pc + 3, L, st, hp) out) : mGo M d (pc, L, .int y :: .int x :: st, hp) out := by
  refine ⟨by by_cases q : y < x
             · exact (kt q).1
             · exact (kf q).1, ?_⟩
  intro base spa spn spf cm D p l e R s m args below meth c Q cE sE H locs cells slots ls hX hfr hlo hcE hsE hK hc hs hD hS hL
  have hx := hX.1
  have hb := hX.2.1
  refine lv_icmp_gt hx hb hd ht (fun q => ?_) (fun q => ?_)
  · exact (kt q).2 base spa spn spf cm D p l e R s m args below meth c Q cE sE H locs cells slots ls hX hfr hlo hcE hsE hK hc hs hD hS hL
  · exact (kf q).2 base spa spn spf cm D p l e R s m args below meth c Q cE sE H locs cells slots ls hX hfr hlo hcE hsE hK hc hs hD hS hL
theorem g_if_le {M : mM} {d pc tgt : Nat} {L : mLs} {st : List Value} {hp : mHp} {out : mOut} {x : Int32} {off : Int} (hd : decode M.2.1 pc = .ok (.ifCond .le off, 3)) (ht : (pc : Int) + off = (tgt : Int)) (kt : x ≤ 0 → mGo M d (tgt, L, st, hp) out) (kf : ¬ (x ≤ 0) → mGo M d (pc + 3, L, st, hp) out) : mGo M d (pc, L, .int x :: st, hp) out := by
  refine ⟨by by_cases q : x ≤ 0
             · exact (kt q).1
             · exact (kf q).1, ?_⟩
  intro base spa spn spf cm D p l e R s m args below meth c Q cE sE H locs cells slots ls hX hfr hlo hcE hsE hK hc hs hD hS hL
  have hx := hX.1
  have hb := hX.2.1
  refine lv_if_le hx hb hd ht (fun q => ?_) (fun q => ?_)
  · exact (kt q).2 base spa spn spf cm D p l e R s m args below meth c Q cE sE H locs cells slots ls hX hfr hlo hcE hsE hK hc hs hD hS hL
  · exact (kf q).2 base spa spn spf cm D p l e R s m args below meth c Q cE sE H locs cells slots ls hX hfr hlo hcE hsE hK hc hs hD hS hL
theorem g_icmp_le {M : mM} {d pc tgt : Nat} {L : mLs} {st : List Value} {hp : mHp} {out : mOut} {x y : Int32} {off : Int} (hd : decode M.2.1 pc = .ok (.if_icmp .le off, 3)) (ht : (pc : Int) + off = (tgt : Int)) (kt : x ≤ y → mGo M d (tgt, L, st, hp) out) (kf : ¬ (x ≤ y) → mGo M d (pc + 3, L, st, hp) out) : mGo M d (pc, L, .int y :: .int x :: st, hp) out := by
  refine ⟨by by_cases q : x ≤ y
             · exact (kt q).1
             · exact (kf q).1, ?_⟩
  intro base spa spn spf cm D p l e R s m args below meth c Q cE sE H locs cells slots ls hX hfr hlo hcE hsE hK hc hs hD hS hL
  have hx := hX.1
  have hb := hX.2.1
  refine lv_icmp_le hx hb hd ht (fun q => ?_) (fun q => ?_)
  · exact (kt q).2 base spa spn spf cm D p l e R s m args below meth c Q cE sE H locs cells slots ls hX hfr hlo hcE hsE hK hc hs hD hS hL
  · exact (kf q).2 base spa spn spf cm D p l e R s m args below meth c Q cE sE H locs cells slots ls hX hfr hlo hcE hsE hK hc hs hD hS hL
theorem g_lookup {M : mM} {d pc len tgt : Nat} {L : mLs} {st : List Value} {hp : mHp} {out : mOut} {x : Int32} {dflt off : Int} {ps : Array (Int × Int)} (hd : decode M.2.1 pc = .ok (.lookupswitch dflt ps, len)) (hp1 : (ps.toList.zip (ps.toList.drop 1)).all (fun (a, next) => a.1 < next.1) = true) (ho : Op.lookupswitch.offset ps.toList dflt x.toInt = off) (ht : (pc : Int) + off = (tgt : Int)) (k : mGo M d (tgt, L, st, hp) out) : mGo M d (pc, L, .int x :: st, hp) out := by
  refine ⟨k.1, ?_⟩
  intro base spa spn spf cm D p l e R s m args below meth c Q cE sE H locs cells slots ls hX hfr hlo hcE hsE hK hc hs hD hS hL
  have hx := hX.1
  have hb := hX.2.1
  refine lv_lookup hx hb hd hp1 ho ht ?_
  exact k.2 base spa spn spf cm D p l e R s m args below meth c Q cE sE H locs cells slots ls hX hfr hlo hcE hsE hK hc hs hD hS hL
theorem g_tabOut {M : mM} {d pc len tgt : Nat} {L : mLs} {st : List Value} {hp : mHp} {out : mOut} {x : Int32} {dflt lo hi : Int} {offs : Array Int} (hd : decode M.2.1 pc = .ok (.tableswitch dflt lo hi offs, len)) (h : x.toInt < lo ∨ hi < x.toInt) (ht : (pc : Int) + dflt = (tgt : Int)) (k : mGo M d (tgt, L, st, hp) out) : mGo M d (pc, L, .int x :: st, hp) out := by
  refine ⟨k.1, ?_⟩
  intro base spa spn spf cm D p l e R s m args below meth c Q cE sE H locs cells slots ls hX hfr hlo hcE hsE hK hc hs hD hS hL
  have hx := hX.1
  have hb := hX.2.1
  refine lv_tableOut hx hb hd h ht ?_
  exact k.2 base spa spn spf cm D p l e R s m args below meth c Q cE sE H locs cells slots ls hX hfr hlo hcE hsE hK hc hs hD hS hL
theorem g_tabIn {M : mM} {d pc len tgt : Nat} {L : mLs} {st : List Value} {hp : mHp} {out : mOut} {x : Int32} {dflt lo hi off : Int} {offs : Array Int} (hd : decode M.2.1 pc = .ok (.tableswitch dflt lo hi offs, len)) (h1 : ¬ x.toInt < lo) (h2 : ¬ hi < x.toInt) (ho : offs[(x.toInt - lo).toNat]? = some off) (ht : (pc : Int) + off = (tgt : Int)) (k : mGo M d (tgt, L, st, hp) out) : mGo M d (pc, L, .int x :: st, hp) out := by
  refine ⟨k.1, ?_⟩
  intro base spa spn spf cm D p l e R s m args below meth c Q cE sE H locs cells slots ls hX hfr hlo hcE hsE hK hc hs hD hS hL
  have hx := hX.1
  have hb := hX.2.1
  refine lv_tableIn hx hb hd h1 h2 ho ht ?_
  exact k.2 base spa spn spf cm D p l e R s m args below meth c Q cE sE H locs cells slots ls hX hfr hlo hcE hsE hK hc hs hD hS hL
theorem g_iret {M : mM} {d pc : Nat} {L : mLs} {hp : mHp} {out : mOut} {v : Int32} (hd : decode M.2.1 pc = .ok (.ireturn, 1)) (ho : out = (some (.int v), hp)) : mGo M d (pc, L, [.int v], hp) out := by
  subst ho
  refine ⟨⟨Nat.le_refl _, Nat.le_refl _⟩, ?_⟩
  intro base spa spn spf cm D p l e R s m args below meth c Q cE sE H locs cells slots ls hX hfr hlo hcE hsE hK hc hs hD hS hL
  have hx := hX.1
  have hb := hX.2.1
  have e1 : cells = cE := Nat.add_right_cancel hc
  have e2 : slots = sE := Nat.add_right_cancel hs
  subst e1
  subst e2
  exact hK H locs pc ls hd hD hS
theorem g_lret {M : mM} {d pc : Nat} {L : mLs} {hp : mHp} {out : mOut} {v : Int64} (hd : decode M.2.1 pc = .ok (.lreturn, 1)) (ho : out = (some (.long v), hp)) : mGo M d (pc, L, [.long v], hp) out := by
  subst ho
  refine ⟨⟨Nat.le_refl _, Nat.le_refl _⟩, ?_⟩
  intro base spa spn spf cm D p l e R s m args below meth c Q cE sE H locs cells slots ls hX hfr hlo hcE hsE hK hc hs hD hS hL
  have hx := hX.1
  have hb := hX.2.1
  have e1 : cells = cE := Nat.add_right_cancel hc
  have e2 : slots = sE := Nat.add_right_cancel hs
  subst e1
  subst e2
  exact hK H locs pc ls hd hD hS
theorem g_vret {M : mM} {d pc : Nat} {L : mLs} {hp : mHp} {out : mOut}  (hd : decode M.2.1 pc = .ok (.return_, 1)) (ho : out = (none, hp)) : mGo M d (pc, L, [], hp) out := by
  subst ho
  refine ⟨⟨Nat.le_refl _, Nat.le_refl _⟩, ?_⟩
  intro base spa spn spf cm D p l e R s m args below meth c Q cE sE H locs cells slots ls hX hfr hlo hcE hsE hK hc hs hD hS hL
  have hx := hX.1
  have hb := hX.2.1
  have e1 : cells = cE := Nat.add_right_cancel hc
  have e2 : slots = sE := Nat.add_right_cancel hs
  subst e1
  subst e2
  exact hK H locs pc ls hd hD hS
def mfin (ci k : Nat) : Bool := match mcl[ci]? with
  | some q => (q.2.1 k).2.2.2
  | none => false
def mdc (ci : Nat) : String := match mcl[ci]? with
  | some q => q.1
  | none => ""
def mFL (own : String) (idx ci k : Nat) : Prop := ∃ (C : String) (T : u_T) (N : Nat), mcl[ci]? = some (C, T, N) ∧ mN ci = N ∧ k < N ∧ (∀ w ∈ u_ws C T N, w ∈ mGW) ∧ Cond.fieldLink own idx (T k).1 (T k).2.1 (T k).2.2.1 ∈ mGW ∧ (∀ j, j < N → parseFieldDescriptor (T j).2.2.1 = some (mty ci j)) ∧ (∀ a, a < N → ∀ b, b < N → a ≠ b → (T a).2.1 ≠ (T b).2.1) ∧ (T k).1 = C
def mNC (ci : Nat) (C : String) : Prop := ∃ (T : u_T) (N : Nat), mcl[ci]? = some (C, T, N) ∧ mN ci = N ∧ (∀ w ∈ u_ws C T N, w ∈ mGW) ∧ Cond.instantiable C N ∈ mGW ∧ Cond.initialized C ∈ mGW ∧ (∀ j, j < N → parseFieldDescriptor (T j).2.2.1 = some (mty ci j)) ∧ ∀ j, j < N → defaultValue (mty ci j) = mfv (mty ci j) 0 none
theorem mce_obj {base : Nat} {spa : Nat → Nat} {cm : Nat → ClassId} {F : Nat → Nat → Int32} {R : Nat → Nat → Option Nat} {j ci : Nat} : mce base spa cm F R j (.inl ci) = .inr (ci, (List.range (mN ci)).map (fun k => mtv base spa (mfv (mty ci k) (F j k) (R j k)))) := rfl
theorem mce_int {base : Nat} {spa : Nat → Nat} {cm : Nat → ClassId} {F : Nat → Nat → Int32} {R : Nat → Nat → Option Nat} {j t n : Nat} (h : t ≠ 2) : mce base spa cm F R j (.inr (t, n)) = .inl (cm t, n, .inl (F j)) := by
  show (if t = 2 then _ else _) = _
  rw [if_neg h]
theorem mce_ref {base : Nat} {spa : Nat → Nat} {cm : Nat → ClassId} {F : Nat → Nat → Int32} {R : Nat → Nat → Option Nat} {j n : Nat} : mce base spa cm F R j (.inr (2, n)) = .inl (cm 2, n, .inr (.inr (.inr (.inr (fun i => (R j i).map (mad base spa)))))) := rfl
theorem m_rf (base : Nat) (spa : Nat → Nat) (r : Option Nat) : va_rf (r.map (mad base spa)) = mtv base spa (va_rf r) := by cases r <;> rfl
theorem mD_upd {base : Nat} {spa spn : Nat → Nat} {spf : Nat → Nat → Int32} {cm : Nat → ClassId} {D : va_G} {sh : List mShp} {F F' : Nat → Nat → Int32} {R R' : Nat → Nat → Option Nat} {j : Nat} {s : mShp} {H H1 : Heap} (hD : mD base spa spn spf cm D (sh, F, R) H) (h4 : 4 ≤ j) (hs : sh[j]? = some s) (hF : ∀ a, a ≠ j → F' a = F a) (hR : ∀ a, a ≠ j → R' a = R a) (z : H1.size = H.size) (oq : ∀ q : Nat, q ≠ base + (j - 4) → H1[q]? = H[q]?) (hat : va_at D mcl (base + (j - 4), mce base spa cm F' R' j s) H1) : mD base spa spn spf cm D (sh, F', R') H1 := by
  obtain ⟨h1, h2, h3, h5⟩ := hD
  refine ⟨h1, z.trans h2, ?_, fun a ha => ⟨(h5 a ha).1, (hF a (by omega)).trans (h5 a ha).2⟩⟩
  rw [mW_upd (sh := sh) (F := F) (R := R) h4 hs hF hR]
  exact h3.set mW_D (mW_get (hp := (sh, F, R)) h4 hs) hat oq
theorem mD_push {base : Nat} {spa spn : Nat → Nat} {spf : Nat → Nat → Int32} {cm : Nat → ClassId} {D : va_G} {sh : List mShp} {F F' : Nat → Nat → Int32} {R R' : Nat → Nat → Option Nat} {s : mShp} {H H1 : Heap} (hD : mD base spa spn spf cm D (sh, F, R) H) (hF : ∀ a, a ≠ sh.length → F' a = F a) (hR : ∀ a, a ≠ sh.length → R' a = R a) (z : H1.size = H.size + 1) (oq : ∀ q : Nat, q < H.size → H1[q]? = H[q]?) (hat : va_at D mcl (H.size, mce base spa cm F' R' sh.length s) H1) : mD base spa spn spf cm D (sh ++ [s], F', R') H1 := by
  obtain ⟨h1, h2, h3, h5⟩ := hD
  have h1' : 4 ≤ sh.length := h1
  have h2' : H.size = base + (sh.length - 4) := h2
  refine ⟨by show 4 ≤ (sh ++ [s]).length; simp; omega, by show H1.size = base + ((sh ++ [s]).length - 4); simp; omega, ?_, fun a ha => ⟨?_, (hF a (by omega)).trans (h5 a ha).2⟩⟩
  · rw [mW_push (sh := sh) (F := F) (R := R) h1 hF hR]
    refine (h3.kept (fun k q hk => oq q.1 ((h3 k q hk).lt))).app (fun k q hk => ?_)
    have hz : k < 1 := (List.getElem?_eq_some_iff.mp hk).1
    rw [show k = 0 by omega] at hk
    cases hk
    rw [← h2']
    exact hat
  · show (sh ++ [s])[a]? = _
    rw [List.getElem?_append_left (by omega)]
    exact (h5 a ha).1
theorem g_get {M : mM} {d pc : Nat} {L : mLs} {st : List Value} {hp : mHp} {out : mOut} {idx ci f j : Nat} (hd : decode M.2.1 pc = .ok (.getfield idx, 3)) (hf : mFL M.1 idx ci f) (hsh : hp.1[j]? = some (.inl ci)) (h4 : 4 ≤ j) (k : mGo M d (pc + 3, L, mfv (mty ci f) (hp.2.1 j f) (hp.2.2 j f) :: st, hp) out) : mGo M d (pc, L, .ref j :: st, hp) out := by
  refine ⟨k.1, ?_⟩
  intro base spa spn spf cm D p l e R s m args below meth c Q cE sE H locs cells slots ls hX hfr hlo hcE hsE hK hc hs hD hS hL
  have hx := hX.1
  have hb := hX.2.1
  obtain ⟨C, T, N, e1, e2, e3, e4, e5, -, -, -⟩ := hf
  have hts := hX.2.2.2.2.2.2.2.1
  show W p l e R s m args below meth c H locs cells slots Q (F0 m pc ls (.ref (mad base spa j) :: st.map (mtv base spa)))
  rw [mad_hi h4]
  refine va_get (D := D) (cl := mcl) (tys := mtys cm) (ws := mW base spa cm hp) (own := M.1) hx hb hts e4 hX.2.2.2.2.1 hX.2.2.2.2.2.2.2.2.1 hD.2.2.1 (j - 4) (mW_get h4 hsh) e1 f e3 (hts _ e5) (fun _ h => h) (v := mtv base spa (mfv (mty ci f) (hp.2.1 j f) (hp.2.2 j f))) ?_ hd ?_
  · rw [e2, List.getElem?_map, List.getElem?_range e3]
    rfl
  · exact k.2 base spa spn spf cm D p l e R s m args below meth c Q cE sE H locs cells slots ls hX hfr hlo hcE hsE hK hc hs hD hS hL
theorem g_getI {M : mM} {d pc : Nat} {L : mLs} {st : List Value} {hp : mHp} {out : mOut} {idx ci f j : Nat} (hd : decode M.2.1 pc = .ok (.getfield idx, 3)) (hf : mFL M.1 idx ci f) (ht : ∀ i r, mfv (mty ci f) i r = .int i) (hsh : hp.1[j]? = some (.inl ci)) (h4 : 4 ≤ j) (k : mGo M d (pc + 3, L, .int (hp.2.1 j f) :: st, hp) out) : mGo M d (pc, L, .ref j :: st, hp) out :=
  g_get hd hf hsh h4 (by rw [ht]; exact k)
theorem g_getR {M : mM} {d pc : Nat} {L : mLs} {st : List Value} {hp : mHp} {out : mOut} {idx ci f j r : Nat} (hd : decode M.2.1 pc = .ok (.getfield idx, 3)) (hf : mFL M.1 idx ci f) (ht : ∀ i r, mfv (mty ci f) i r = va_rf r) (hsh : hp.1[j]? = some (.inl ci)) (h4 : 4 ≤ j) (hr : hp.2.2 j f = some r) (k : mGo M d (pc + 3, L, .ref r :: st, hp) out) : mGo M d (pc, L, .ref j :: st, hp) out :=
  g_get hd hf hsh h4 (by rw [ht, hr]; exact k)
theorem g_put {M : mM} {d pc : Nat} {L : mLs} {st : List Value} {sh : List mShp} {F F' : Nat → Nat → Int32} {R0 R1 : Nat → Nat → Option Nat} {out : mOut} {idx ci f j : Nat} {v : Value} (hd : decode M.2.1 pc = .ok (.putfield idx, 3)) (hf : mFL M.1 idx ci f) (hfin : mfin ci f = false ∨ (mfin ci f = true ∧ M.2.2.2.2 = true ∧ mdc ci = M.1)) (hsh : sh[j]? = some (.inl ci)) (h4 : 4 ≤ j)
    (hF : ∀ a, a ≠ j → F' a = F a) (hR : ∀ a, a ≠ j → R1 a = R0 a) (hset : ∀ i, mfv (mty ci i) (F' j i) (R1 j i) = if i = f then v else mfv (mty ci i) (F j i) (R0 j i)) (hnf : ∀ base spa, narrow (mty ci f) (mtv base spa v) = mtv base spa v ∧ fits (mty ci f) (mtv base spa v) = true)
    (k : mGo M d (pc + 3, L, st, (sh, F', R1)) out) : mGo M d (pc, L, v :: .ref j :: st, (sh, F, R0)) out := by
  refine ⟨k.1, ?_⟩
  intro base spa spn spf cm D p l e R s m args below meth c Q cE sE H locs cells slots ls hX hfr hlo hcE hsE hK hc hs hD hS hL
  have hx := hX.1
  have hb := hX.2.1
  obtain ⟨C, T, N, e1, e2, e3, e4, e5, e6, e7, e8⟩ := hf
  have hts := hX.2.2.2.2.2.2.2.1
  have hown := hX.2.2.2.2.1
  have hK0 : va_K D mcl (mtys cm) s := hX.2.2.2.2.2.2.2.2.1
  have hap := va_apart (own := M.1) hts e4 (mty ci) e6 e7 hK0 e1
  have hw := mW_get (base := base) (spa := spa) (cm := cm) (hp := (sh, F, R0)) h4 hsh
  obtain ⟨r, h1, cell, q1, q2, q3, q4⟩ := hD.2.2.1 (j - 4) _ hw
  have hr : r = (C, T, N) := Option.some.inj (h1.symm.trans e1)
  subst hr
  obtain ⟨hS0, hfc, kC, hkC, hkind⟩ := hK0.1 ci _ e1
  obtain ⟨cf, kf, fi, fd, hi, hsl⟩ := hS0 f e3
  have hlay := hts _ (e4 _ (u_in_lay e3))
  have hst := (u_facts hfc hkC (u_lays hts e4 e3) hi).1
  have hfs : ((List.range (mN ci)).map (fun k => mtv base spa (mfv (mty ci k) (F j k) (R0 j k)))).set f (mtv base spa v) = (List.range (mN ci)).map (fun k => mtv base spa (mfv (mty ci k) (F' j k) (R1 j k))) := by
    apply List.ext_getElem?
    intro i
    by_cases hif : i = f
    · subst hif
      rw [List.getElem?_set_self (by simp; omega), List.getElem?_map, List.getElem?_range (by omega)]
      show _ = some (mtv base spa (mfv (mty ci i) (F' j i) (R1 j i)))
      rw [hset i, if_pos rfl]
    · rw [List.getElem?_set_ne (Ne.symm hif), List.getElem?_map, List.getElem?_map]
      by_cases hin : i < mN ci
      · rw [List.getElem?_range hin]
        simp only [Option.map_some, hset i, if_neg hif]
      · rw [List.getElem?_eq_none (by simp; omega)]
        rfl
  have hlen : f < ((List.range (mN ci)).map (fun k => mtv base spa (mfv (mty ci k) (F j k) (R0 j k)))).length := by simp; omega
  show W p l e R s m args below meth c H locs cells slots Q (F0 m pc ls (mtv base spa v :: .ref (mad base spa j) :: st.map (mtv base spa)))
  rw [mad_hi h4]
  have fin1 : ∀ H' : Heap, H'[base + (j - 4)]? = some (cell.setSlot fd.slot (mtv base spa v)) → H'.size = H.size → (∀ q, q ≠ base + (j - 4) → H'[q]? = H[q]?) → W p l e R s m args below meth c H' (locs ++ [⟨base + (j - 4), fd.slot⟩]) cells slots Q (F0 m (pc + 3) ls (st.map (mtv base spa))) := by
    intro H' g1 g2 g3
    rw [hsl] at g1
    refine k.2 base spa spn spf cm D p l e R s m args below meth c Q cE sE H' _ cells slots ls hX hfr hlo hcE hsE hK hc hs (mD_upd hD h4 hsh hF hR g2 g3 ?_) (hS.put g2 g3 (by show base ≤ base + (j - 4); omega)) hL
    rw [mce_obj, ← hfs]
    exact ⟨_, e1, t_OB.to (V := updV (vp_V _) f (mtv base spa v)) ⟨_, g1, q2, q3, t_set q4 hap e3 (mtv base spa v)⟩ (fun i _ => vp_updV_set hlen (mtv base spa v) i)⟩
  have hmf : mfin ci f = (T f).2.2.2 := by simp [mfin, e1]
  rcases hfin with hfin | ⟨hfin, hini, hdc⟩
  · rw [hmf] at hfin
    unfold u_lay at hlay
    rw [if_neg (by rw [hfin]; decide)] at hlay
    have h6 := u_store hfc hkC hkind hlay hi (e6 f e3) (hnf base spa).1 (hnf base spa).2
    exact W.putK hx hb (f := fd) ⟨hown, hts _ e5, ⟨_, _, _, hi⟩, hst⟩ (by rw [q2]; exact h6) q1 q3 (by rw [hsl]; exact k2_hasslot (q4 f e3)) rfl rfl hd fin1
  · rw [hmf] at hfin
    have hC : C = M.1 := by rw [← hdc]; simp [mdc, e1]
    unfold u_lay at hlay
    rw [if_pos hfin] at hlay
    have hcf : m.cls = cf := by
      obtain ⟨_, _, c', _, _, _, -, -, hf', -, -, -, hown2, -⟩ := Cond.laysFinal_spec hlay
      have e1' : c' = cf := by have := hi.symm.trans hf'; simp at this; exact this.1.symm
      rw [e8, hC] at hown2
      rw [← e1']; exact Option.some.inj (hown.symm.trans hown2)
    have h6 := u_fits hfc hkC hkind (Or.inr hlay) hi (e6 f e3) (hnf base spa).1 (hnf base spa).2
    exact W.putFinK hx hb hown (hts _ e5) hi hst hcf (hX.2.2.2.2.2.2.1 hini) (by rw [q2]; exact h6) q1 q3 (by rw [hsl]; exact k2_hasslot (q4 f e3)) rfl rfl hd fin1
theorem va_up_eq {α : Type} (f : Nat → α) (k : Nat) (v : α) : va_up f k v k = v := if_pos rfl
theorem g_putI {M : mM} {d pc : Nat} {L : mLs} {st : List Value} {sh : List mShp} {F : Nat → Nat → Int32} {R0 : Nat → Nat → Option Nat} {out : mOut} {idx ci f j : Nat} {x : Int32} (hd : decode M.2.1 pc = .ok (.putfield idx, 3)) (hf : mFL M.1 idx ci f) (hfin : mfin ci f = false ∨ (mfin ci f = true ∧ M.2.2.2.2 = true ∧ mdc ci = M.1)) (hsh : sh[j]? = some (.inl ci)) (h4 : 4 ≤ j) (ht : mty ci f = .int)
    (k : mGo M d (pc + 3, L, st, (sh, va_up F j (va_up (F j) f x), R0)) out) : mGo M d (pc, L, .int x :: .ref j :: st, (sh, F, R0)) out := by
  refine g_put hd hf hfin hsh h4 (fun a ha => va_up_ne _ _ ha) (fun _ _ => rfl) (fun i => ?_) (fun _ _ => by rw [ht]; exact ⟨rfl, rfl⟩) k
  rw [va_up_eq]
  by_cases hi : i = f
  · subst hi
    rw [if_pos rfl, va_up_eq, ht]
    rfl
  · rw [if_neg hi, va_up_ne _ _ hi]
theorem g_putZ {M : mM} {d pc : Nat} {L : mLs} {st : List Value} {sh : List mShp} {F : Nat → Nat → Int32} {R0 : Nat → Nat → Option Nat} {out : mOut} {idx ci f j : Nat} {x : Int32} (hd : decode M.2.1 pc = .ok (.putfield idx, 3)) (hf : mFL M.1 idx ci f) (hfin : mfin ci f = false ∨ (mfin ci f = true ∧ M.2.2.2.2 = true ∧ mdc ci = M.1)) (hsh : sh[j]? = some (.inl ci)) (h4 : 4 ≤ j) (ht : mty ci f = .boolean) (h01 : x = 0 ∨ x = 1)
    (k : mGo M d (pc + 3, L, st, (sh, va_up F j (va_up (F j) f x), R0)) out) : mGo M d (pc, L, .int x :: .ref j :: st, (sh, F, R0)) out := by
  refine g_put hd hf hfin hsh h4 (fun a ha => va_up_ne _ _ ha) (fun _ _ => rfl) (fun i => ?_) (fun _ _ => by rw [ht]; rcases h01 with rfl | rfl <;> exact ⟨rfl, rfl⟩) k
  rw [va_up_eq]
  by_cases hi : i = f
  · subst hi
    rw [if_pos rfl, va_up_eq, ht]
    rfl
  · rw [if_neg hi, va_up_ne _ _ hi]
theorem g_putR {M : mM} {d pc : Nat} {L : mLs} {st : List Value} {sh : List mShp} {F : Nat → Nat → Int32} {R0 : Nat → Nat → Option Nat} {out : mOut} {idx ci f j r : Nat} (hd : decode M.2.1 pc = .ok (.putfield idx, 3)) (hf : mFL M.1 idx ci f) (hfin : mfin ci f = false ∨ (mfin ci f = true ∧ M.2.2.2.2 = true ∧ mdc ci = M.1)) (hsh : sh[j]? = some (.inl ci)) (h4 : 4 ≤ j) (ht : ∀ i r, mfv (mty ci f) i r = va_rf r) (hnf : ∀ x, narrow (mty ci f) (.ref x) = .ref x ∧ fits (mty ci f) (.ref x) = true)
    (k : mGo M d (pc + 3, L, st, (sh, F, va_up R0 j (va_up (R0 j) f (some r)))) out) : mGo M d (pc, L, .ref r :: .ref j :: st, (sh, F, R0)) out := by
  refine g_put hd hf hfin hsh h4 (fun _ _ => rfl) (fun a ha => va_up_ne _ _ ha) (fun i => ?_) (fun base spa => hnf _) k
  rw [va_up_eq]
  by_cases hi : i = f
  · subst hi
    rw [if_pos rfl, va_up_eq, ht]
    rfl
  · rw [if_neg hi, va_up_ne _ _ hi]
theorem g_iald {M : mM} {d pc : Nat} {L : mLs} {st : List Value} {hp : mHp} {out : mOut} {j n : Nat} {i : Int32} (hd : decode M.2.1 pc = .ok (.iaload, 1)) (hsh : hp.1[j]? = some (.inr (0, n))) (h4 : 4 ≤ j) (hi : vp_in i n) (k : mGo M d (pc + 1, L, .int (hp.2.1 j i.toNatClampNeg) :: st, hp) out) : mGo M d (pc, L, .int i :: .ref j :: st, hp) out := by
  refine ⟨k.1, ?_⟩
  intro base spa spn spf cm D p l e R s m args below meth c Q cE sE H locs cells slots ls hX hfr hlo hcE hsE hK hc hs hD hS hL
  have hx := hX.1
  have hb := hX.2.1
  show W p l e R s m args below meth c H locs cells slots Q (F0 m pc ls (.int i :: .ref (mad base spa j) :: st.map (mtv base spa)))
  rw [mad_hi h4]
  refine va_iald (D := D) (cl := mcl) (tys := mtys cm) (ws := mW base spa cm hp) hx hb hX.2.2.2.2.2.2.2.2.1 hD.2.2.1 (j - 4) 0 (mW_get h4 hsh) rfl hi hd ?_
  exact k.2 base spa spn spf cm D p l e R s m args below meth c Q cE sE H locs cells slots ls hX hfr hlo hcE hsE hK hc hs hD hS hL
theorem g_zald {M : mM} {d pc : Nat} {L : mLs} {st : List Value} {hp : mHp} {out : mOut} {j n : Nat} {i : Int32} (hd : decode M.2.1 pc = .ok (.baload, 1)) (hsh : hp.1[j]? = some (.inr (1, n))) (h4 : 4 ≤ j) (hi : vp_in i n) (k : mGo M d (pc + 1, L, .int (hp.2.1 j i.toNatClampNeg) :: st, hp) out) : mGo M d (pc, L, .int i :: .ref j :: st, hp) out := by
  refine ⟨k.1, ?_⟩
  intro base spa spn spf cm D p l e R s m args below meth c Q cE sE H locs cells slots ls hX hfr hlo hcE hsE hK hc hs hD hS hL
  have hx := hX.1
  have hb := hX.2.1
  show W p l e R s m args below meth c H locs cells slots Q (F0 m pc ls (.int i :: .ref (mad base spa j) :: st.map (mtv base spa)))
  rw [mad_hi h4]
  refine va_zald (D := D) (cl := mcl) (tys := mtys cm) (ws := mW base spa cm hp) hx hb hX.2.2.2.2.2.2.2.2.1 hD.2.2.1 (j - 4) 1 (mW_get h4 hsh) rfl hi hd ?_
  exact k.2 base spa spn spf cm D p l e R s m args below meth c Q cE sE H locs cells slots ls hX hfr hlo hcE hsE hK hc hs hD hS hL
theorem g_aald {M : mM} {d pc : Nat} {L : mLs} {st : List Value} {hp : mHp} {out : mOut} {j n r : Nat} {i : Int32} (hd : decode M.2.1 pc = .ok (.aaload, 1)) (hsh : hp.1[j]? = some (.inr (2, n))) (h4 : 4 ≤ j) (hi : vp_in i n) (hr : hp.2.2 j i.toNatClampNeg = some r) (k : mGo M d (pc + 1, L, .ref r :: st, hp) out) : mGo M d (pc, L, .int i :: .ref j :: st, hp) out := by
  refine ⟨k.1, ?_⟩
  intro base spa spn spf cm D p l e R s m args below meth c Q cE sE H locs cells slots ls hX hfr hlo hcE hsE hK hc hs hD hS hL
  have hx := hX.1
  have hb := hX.2.1
  show W p l e R s m args below meth c H locs cells slots Q (F0 m pc ls (.int i :: .ref (mad base spa j) :: st.map (mtv base spa)))
  rw [mad_hi h4]
  refine va_aldq (D := D) (cl := mcl) (tys := mtys cm) (ws := mW base spa cm hp) (C := RX4) hx hb hX.2.2.2.2.2.2.2.2.1 hD.2.2.1 (j - 4) 2 (mW_get h4 hsh) rfl hi hd ?_
  simp only [hr, Option.map_some]
  exact k.2 base spa spn spf cm D p l e R s m args below meth c Q cE sE H locs cells slots ls hX hfr hlo hcE hsE hK hc hs hD hS hL
theorem g_sald {M : mM} {d pc : Nat} {L : mLs} {st : List Value} {hp : mHp} {out : mOut} {j n : Nat} {i : Int32} (hd : decode M.2.1 pc = .ok (.iaload, 1)) (hsh : hp.1[j]? = some (.inr (3, n))) (h4 : j < 4) (hi : vp_in i n) (k : mGo M d (pc + 1, L, .int (hp.2.1 j i.toNatClampNeg) :: st, hp) out) : mGo M d (pc, L, .int i :: .ref j :: st, hp) out := by
  refine ⟨k.1, ?_⟩
  intro base spa spn spf cm D p l e R s m args below meth c Q cE sE H locs cells slots ls hX hfr hlo hcE hsE hK hc hs hD hS hL
  have hx := hX.1
  have hb := hX.2.1
  have h5 := hD.2.2.2 j h4
  have h6 := hX.2.2.2.2.2.2.2.2.2.2.2.2.1 j h4
  have h7 : base ≤ s.heap.size := hX.2.2.2.2.2.2.2.2.2.2.2.1
  have hn : n = spn j := by
    have := hsh.symm.trans h5.1
    simpa using this
  show W p l e R s m args below meth c H locs cells slots Q (F0 m pc ls (.int i :: .ref (mad base spa j) :: st.map (mtv base spa)))
  rw [mad_lo h4]
  refine va_sld (A := fun q => base ≤ q) hx hb h6.2 (by omega) (by show ¬ base ≤ spa j; omega) hS (by rw [← hn]; exact hi) hd ?_
  rw [← h5.2]
  exact k.2 base spa spn spf cm D p l e R s m args below meth c Q cE sE H locs cells slots ls hX hfr hlo hcE hsE hK hc hs hD hS hL
theorem g_alen {M : mM} {d pc : Nat} {L : mLs} {st : List Value} {hp : mHp} {out : mOut} {j t n : Nat} (hd : decode M.2.1 pc = .ok (.arraylength, 1)) (hsh : hp.1[j]? = some (.inr (t, n))) (ht : t < 3) (h4 : 4 ≤ j) (k : mGo M d (pc + 1, L, .int (Int32.ofNat n) :: st, hp) out) : mGo M d (pc, L, .ref j :: st, hp) out := by
  refine ⟨k.1, ?_⟩
  intro base spa spn spf cm D p l e R s m args below meth c Q cE sE H locs cells slots ls hX hfr hlo hcE hsE hK hc hs hD hS hL
  have hx := hX.1
  have hb := hX.2.1
  show W p l e R s m args below meth c H locs cells slots Q (F0 m pc ls (.ref (mad base spa j) :: st.map (mtv base spa)))
  rw [mad_hi h4]
  have hw := mW_get (base := base) (spa := spa) (cm := cm) h4 hsh
  rcases (by omega : t = 0 ∨ t = 1 ∨ t = 2) with rfl | rfl | rfl
  · refine va_alen (D := D) (cl := mcl) (tys := mtys cm) (ws := mW base spa cm hp) hx hb hX.2.2.2.2.2.2.2.2.1 hD.2.2.1 (j - 4) 0 hw rfl rfl hd ?_
    exact k.2 base spa spn spf cm D p l e R s m args below meth c Q cE sE H locs cells slots ls hX hfr hlo hcE hsE hK hc hs hD hS hL
  · refine va_alen (D := D) (cl := mcl) (tys := mtys cm) (ws := mW base spa cm hp) hx hb hX.2.2.2.2.2.2.2.2.1 hD.2.2.1 (j - 4) 1 hw rfl rfl hd ?_
    exact k.2 base spa spn spf cm D p l e R s m args below meth c Q cE sE H locs cells slots ls hX hfr hlo hcE hsE hK hc hs hD hS hL
  · refine va_alen (D := D) (cl := mcl) (tys := mtys cm) (ws := mW base spa cm hp) hx hb hX.2.2.2.2.2.2.2.2.1 hD.2.2.1 (j - 4) 2 hw rfl rfl hd ?_
    exact k.2 base spa spn spf cm D p l e R s m args below meth c Q cE sE H locs cells slots ls hX hfr hlo hcE hsE hK hc hs hD hS hL
theorem g_slen {M : mM} {d pc : Nat} {L : mLs} {st : List Value} {hp : mHp} {out : mOut} {j n : Nat} (hd : decode M.2.1 pc = .ok (.arraylength, 1)) (hsh : hp.1[j]? = some (.inr (3, n))) (h4 : j < 4) (k : mGo M d (pc + 1, L, .int (Int32.ofNat n) :: st, hp) out) : mGo M d (pc, L, .ref j :: st, hp) out := by
  refine ⟨k.1, ?_⟩
  intro base spa spn spf cm D p l e R s m args below meth c Q cE sE H locs cells slots ls hX hfr hlo hcE hsE hK hc hs hD hS hL
  have hx := hX.1
  have hb := hX.2.1
  have h5 := hD.2.2.2 j h4
  have h6 := hX.2.2.2.2.2.2.2.2.2.2.2.2.1 j h4
  have h7 : base ≤ s.heap.size := hX.2.2.2.2.2.2.2.2.2.2.2.1
  have hn : n = spn j := by
    have := hsh.symm.trans h5.1
    simpa using this
  show W p l e R s m args below meth c H locs cells slots Q (F0 m pc ls (.ref (mad base spa j) :: st.map (mtv base spa)))
  rw [mad_lo h4]
  refine va_slen (A := fun q => base ≤ q) hx hb h6.2 (by omega) (by show ¬ base ≤ spa j; omega) hS hd ?_
  rw [← hn]
  exact k.2 base spa spn spf cm D p l e R s m args below meth c Q cE sE H locs cells slots ls hX hfr hlo hcE hsE hK hc hs hD hS hL
theorem g_iast {M : mM} {d pc : Nat} {L : mLs} {st : List Value} {sh : List mShp} {F : Nat → Nat → Int32} {R0 : Nat → Nat → Option Nat} {out : mOut} {j n : Nat} {i x : Int32} (hd : decode M.2.1 pc = .ok (.iastore, 1)) (hsh : sh[j]? = some (.inr (0, n))) (h4 : 4 ≤ j) (hi : vp_in i n) (k : mGo M d (pc + 1, L, st, (sh, va_up F j (va_up (F j) i.toNatClampNeg x), R0)) out) : mGo M d (pc, L, .int x :: .int i :: .ref j :: st, (sh, F, R0)) out := by
  refine ⟨k.1, ?_⟩
  intro base spa spn spf cm D p l e R s m args below meth c Q cE sE H locs cells slots ls hX hfr hlo hcE hsE hK hc hs hD hS hL
  have hx := hX.1
  have hb := hX.2.1
  show W p l e R s m args below meth c H locs cells slots Q (F0 m pc ls (.int x :: .int i :: .ref (mad base spa j) :: st.map (mtv base spa)))
  rw [mad_hi h4]
  have hK0 : va_K D mcl (mtys cm) s := hX.2.2.2.2.2.2.2.2.1
  have hw := hD.2.2.1 _ _ (mW_get (base := base) (spa := spa) (cm := cm) h4 hsh)
  refine W.iast (a := base + (j - 4)) (cell := vp_cell (cm 0) (n, .inl (F j))) hx hb hw ((hK0.2 0 _ rfl).1 n (fun a => .int (F j a))) (fun q => by cases q) (by show ¬ (i < 0 ∨ (arrV _ _ _).slots.size ≤ _); rw [arrV_size]; exact hi) rfl rfl hd fun H1 e1 z oq => ?_
  refine k.2 base spa spn spf cm D p l e R s m args below meth c Q cE sE H1 _ cells slots ls hX hfr hlo hcE hsE hK hc hs (mD_upd hD h4 hsh (fun a ha => va_up_ne _ _ ha) (fun _ _ => rfl) z oq ?_) (hS.put z oq (by show base ≤ base + (j - 4); omega)) hL
  rw [mce_int (by decide), va_up_eq]
  show H1[base + (j - 4)]? = some (vp_cell _ _)
  rw [e1, vp_cell_i, vp_cell_i, arrV_store]
  congr 2
  funext q
  by_cases hq : q = i.toNatClampNeg
  · subst hq
    simp [updV, va_up]
  · simp [updV, va_up, hq]
theorem g_zast {M : mM} {d pc : Nat} {L : mLs} {st : List Value} {sh : List mShp} {F : Nat → Nat → Int32} {R0 : Nat → Nat → Option Nat} {out : mOut} {j n : Nat} {i x : Int32} (hd : decode M.2.1 pc = .ok (.bastore, 1)) (hsh : sh[j]? = some (.inr (1, n))) (h4 : 4 ≤ j) (hi : vp_in i n) (h01 : narrow .boolean (.int x) = .int x) (k : mGo M d (pc + 1, L, st, (sh, va_up F j (va_up (F j) i.toNatClampNeg x), R0)) out) : mGo M d (pc, L, .int x :: .int i :: .ref j :: st, (sh, F, R0)) out := by
  refine ⟨k.1, ?_⟩
  intro base spa spn spf cm D p l e R s m args below meth c Q cE sE H locs cells slots ls hX hfr hlo hcE hsE hK hc hs hD hS hL
  have hx := hX.1
  have hb := hX.2.1
  show W p l e R s m args below meth c H locs cells slots Q (F0 m pc ls (.int x :: .int i :: .ref (mad base spa j) :: st.map (mtv base spa)))
  rw [mad_hi h4]
  have hK0 : va_K D mcl (mtys cm) s := hX.2.2.2.2.2.2.2.2.1
  have hw := hD.2.2.1 _ _ (mW_get (base := base) (spa := spa) (cm := cm) h4 hsh)
  refine W.zast (a := base + (j - 4)) (cell := vp_cell (cm 1) (n, .inl (F j))) hx hb hw ((hK0.2 1 _ rfl).1 n (fun a => .int (F j a))) (fun q => by cases q) (by show ¬ (i < 0 ∨ (arrV _ _ _).slots.size ≤ _); rw [arrV_size]; exact hi) rfl rfl hd fun H1 e1 z oq => ?_
  refine k.2 base spa spn spf cm D p l e R s m args below meth c Q cE sE H1 _ cells slots ls hX hfr hlo hcE hsE hK hc hs (mD_upd hD h4 hsh (fun a ha => va_up_ne _ _ ha) (fun _ _ => rfl) z oq ?_) (hS.put z oq (by show base ≤ base + (j - 4); omega)) hL
  rw [mce_int (by decide), va_up_eq]
  show H1[base + (j - 4)]? = some (vp_cell _ _)
  rw [e1, vp_cell_i, vp_cell_i, arrV_store]
  congr 2
  funext q
  by_cases hq : q = i.toNatClampNeg
  · subst hq
    simp [updV, va_up, h01]
  · simp [updV, va_up, hq]
theorem g_aast {M : mM} {d pc : Nat} {L : mLs} {st : List Value} {sh : List mShp} {F : Nat → Nat → Int32} {R0 : Nat → Nat → Option Nat} {out : mOut} {j n v ci : Nat} {i : Int32} (hd : decode M.2.1 pc = .ok (.aastore, 1)) (hsh : sh[j]? = some (.inr (2, n))) (h4 : 4 ≤ j) (hi : vp_in i n) (hv : sh[v]? = some (.inl ci)) (hv4 : 4 ≤ v) (hci : mcl[ci]?.map (fun q => q.1) = some RX4) (k : mGo M d (pc + 1, L, st, (sh, F, va_up R0 j (va_up (R0 j) i.toNatClampNeg (some v)))) out) : mGo M d (pc, L, .ref v :: .int i :: .ref j :: st, (sh, F, R0)) out := by
  refine ⟨k.1, ?_⟩
  intro base spa spn spf cm D p l e R s m args below meth c Q cE sE H locs cells slots ls hX hfr hlo hcE hsE hK hc hs hD hS hL
  have hx := hX.1
  have hb := hX.2.1
  show W p l e R s m args below meth c H locs cells slots Q (F0 m pc ls (.ref (mad base spa v) :: .int i :: .ref (mad base spa j) :: st.map (mtv base spa)))
  rw [mad_hi h4, mad_hi hv4]
  have hK0 : va_K D mcl (mtys cm) s := hX.2.2.2.2.2.2.2.2.1
  have hw := hD.2.2.1 _ _ (mW_get (base := base) (spa := spa) (cm := cm) h4 hsh)
  obtain ⟨r, hr, hr1⟩ := Option.map_eq_some_iff.mp hci
  obtain ⟨r', hr', cellV, g1, g2, g3, -⟩ := hD.2.2.1 _ _ (mW_get (base := base) (spa := spa) (cm := cm) hv4 hv)
  have hcls := (hK0.1 ci r hr).2
  rw [hr1] at hcls
  obtain ⟨kA, comp, k1, k2, k3, -⟩ := (hK0.2 2 _ rfl).2
  have hcomp : comp = D.1 ci := Option.some.inj (k3.symm.trans hcls.1)
  subst hcomp
  obtain ⟨kC, hkC, -⟩ := hcls.2
  have hlt : i.toNatClampNeg < n := Nat.not_le.mp fun q => hi (Or.inr q)
  have h0 : ¬ i < 0 := fun q => hi (Or.inl q)
  refine W.aast (a := base + (j - 4)) (cell := vp_cell (cm 2) (n, .inr (.inr (.inr (.inr (fun i => (R0 j i).map (mad base spa))))))) hx hb hw (fun q h => by cases h) (fun h => by cases h) k1 k2 rfl hkC ⟨h0, by show _ < (arrV _ _ _).slots.size; rw [arrV_size]; exact hlt⟩ g1 (fun q h => by rw [g3] at h; cases h) (by rw [g2]; exact hkC) (by rw [g2]; exact va_assign hcls) rfl rfl hd fun H1 e1 z oq => ?_
  refine k.2 base spa spn spf cm D p l e R s m args below meth c Q cE sE H1 _ cells slots ls hX hfr hlo hcE hsE hK hc hs (mD_upd hD h4 hsh (fun _ _ => rfl) (fun a ha => va_up_ne _ _ ha) z oq ?_) (hS.put z oq (by show base ≤ base + (j - 4); omega)) hL
  rw [mce_ref, va_up_eq]
  show H1[base + (j - 4)]? = some (vp_cell _ _)
  rw [e1, vp_cell_q, vp_cell_q, arrV_store]
  congr 2
  funext q
  by_cases hq : q = i.toNatClampNeg
  · subst hq
    simp [updV, va_up, va_rf, mad_hi hv4]
  · simp [updV, va_up, hq]
theorem g_gets {M : mM} {d pc : Nat} {L : mLs} {st : List Value} {hp : mHp} {out : mOut} {idx j : Nat} {host : String} (hd : decode M.2.1 pc = .ok (.getstatic idx, 3)) (hl : Cond.fieldLinkNest M.1 idx RX6 (mSN j) "[I" host ∈ mNW) (hj : j < 3) (k : mGo M d (pc + 3, L, .ref (j + 1) :: st, hp) out) : mGo M d (pc, L, st, hp) out := by
  refine ⟨k.1, ?_⟩
  intro base spa spn spf cm D p l e R s m args below meth c Q cE sE H locs cells slots ls hX hfr hlo hcE hsE hK hc hs hD hS hL
  have hx := hX.1
  have hb := hX.2.1
  have hz := hX.2.2.2.2.2.2.2.2.2.2.2.2.2.1 j hj
  have hn := hX.2.2.2.2.2.2.2.2.2.1 _ hl
  refine va_getsN (A := fun q => base ≤ q) hx hb hz hS hX.2.2.2.2.1 (va_Nw.use rfl hn) (fun _ h => h) hd ?_
  have e9 : mad base spa (j + 1) = spa (j + 1) := mad_lo (by omega)
  have h9 := k.2 base spa spn spf cm D p l e R s m args below meth c Q cE sE H locs cells slots ls hX hfr hlo hcE hsE hK hc hs hD hS hL
  rw [List.map_cons] at h9
  rw [← e9]
  exact h9
