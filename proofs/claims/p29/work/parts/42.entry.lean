def F00 (xs : Nat → Int32) (j : Nat) : Nat → Int32 := match j with
  | 0 => xs
  | 1 => mFS
  | 2 => mHS
  | 3 => mMB
  | _ => fun _ => 0
theorem m_len {args : Array Value} {s : State} {t : Term} {a N : Nat} {cell : Cell} (hN : N < 2 ^ 31) (h : (Term.length t).eval args s none [] s = some (.int (Int32.ofNat N))) (ht : t.eval args s none [] s = some (.ref a)) (hc : s.heap[a]? = some cell) : cell.slots.size = N := by
  simp only [Term.eval, Option.bind_eq_bind, ht, Option.bind_some] at h
  obtain ⟨cell', hcell, h⟩ := Option.bind_eq_some_iff.mp h
  have e : cell' = cell := Option.some.inj ((State.arrayAt?_spec hcell).1.symm.trans hc)
  subst e
  by_cases hn : cell'.slots.size < 2 ^ 31
  · have h1 : (some (Value.int cell'.slots.size.toInt32) : Option Value) = some (.int (Int32.ofNat N)) := by
      simpa [hn] using h
    have h2 : Int32.ofNat cell'.slots.size = Int32.ofNat N := Value.int.inj (Option.some.inj h1)
    exact (nI_eq hn hN).mp h2
  · rw [if_neg hn] at h
    cases h
theorem m_static {args : Array Value} {s : State} {n : String} {N : Nat} {f : Nat → Int32} {A : Nat → Prop} (hN : N < 2 ^ 31) (hl : (Cond.laysStatic RX6 n "[I").before args s = true) (hini : (Cond.initialized RX6).before args s = true) (harr : (Cond.arrayOf (.static RX6 n "[I") .int).before args s = true) (hlen : (Cond.eq (.length (.static RX6 n "[I")) (.int (Int32.ofNat N))).before args s = true) (hel : ∀ j : Nat, j < N → (Cond.eq (.elem (.static RX6 n "[I") (.int (Int32.ofNat j))) (.int (f j))).before args s = true) (hA : ∀ a : Nat, a < s.heap.size → ¬ A a) : ∃ t : Nat, t < s.heap.size ∧ va_X t N f s s.heap ∧ va_Z RX6 n "[I" (.ref t) A s s.heap ∧ (Term.static RX6 n "[I").eval args s none [] s = some (.ref t) := by
  obtain ⟨t, ht, cell, h1, h2, h3, h4, h5, h6, h7⟩ := va_Tof (f := fun j => .int (f j)) hN harr (va_eqt hlen) (fun j hj => va_eqt (hel j hj)) hA
  exact ⟨t, (Array.getElem?_eq_some_iff.mp h1).1, ⟨cell, h1, h2, h3, m_len hN (va_eqt hlen) ht h1, h6⟩, va_Zof hl hini ht hA, ht⟩
theorem m_words {args : Array Value} {s : State} (hts : ∀ w ∈ lw_tbl, w.before args s = true) : ∀ w ∈ mGW, w.before args s = true := fun w hw => hts w (List.mem_filter.mp hw).1
theorem m_world {args : Array Value} {s : State} (hts : ∀ w ∈ lw_tbl, w.before args s = true) : ∃ (D : va_G) (cm : Nat → ClassId), va_K D mcl (mtys cm) s := by
  have hG := m_words hts
  obtain ⟨c0, i0, k0⟩ := u_known hG muX0 (hG _ miX0)
  obtain ⟨c1, i1, k1⟩ := u_known hG muX1 (hG _ miX1)
  obtain ⟨c2, i2, k2⟩ := u_known hG muX2 (hG _ miX2)
  obtain ⟨c3, i3, k3⟩ := u_known hG muX3 (hG _ miX3)
  obtain ⟨c4, i4, k4⟩ := u_known hG muX4 (hG _ miX4)
  obtain ⟨c5, i5, k5⟩ := u_known hG muX5 (hG _ miX5)
  obtain ⟨c6, i6, k6⟩ := u_known hG muX6 (hG _ miX6)
  obtain ⟨cI, kI, compI, fI, hI, nI'⟩ := Cond.arrayClass_spec (hG _ wk_int)
  obtain ⟨cZ, kZ, compZ, fZ, hZ, nZ⟩ := Cond.arrayClass_spec (hG _ wk_bool)
  obtain ⟨comp, cR, kR, g1, g2, g3, g4, g5⟩ := Cond.arrayOver_spec (hts (Cond.arrayOver (.object RX4)) (by decide +kernel))
  refine ⟨(fun c => ([c0, c1, c2, c3, c4, c5, c6] : List ClassId).getD c c0, fun c => ([i0, i1, i2, i3, i4, i5, i6] : List (Nat → Nat)).getD c i0), fun t => ([cI, cZ, cR] : List ClassId).getD t cI, ?_, ?_⟩
  · intro c q hq
    rcases c with _ | _ | _ | _ | _ | _ | _ | c
    · cases hq; exact k0
    · cases hq; exact k1
    · cases hq; exact k2
    · cases hq; exact k3
    · cases hq; exact k4
    · cases hq; exact k5
    · cases hq; exact k6
    · cases hq
  · intro k q hq
    rcases k with _ | _ | _ | k
    · cases hq
      exact ⟨fun n z => ⟨fun k h => (by cases h), kI, hI, compI, nI'⟩, fI⟩
    · cases hq
      exact ⟨fun n z => ⟨fun k h => (by cases h), kZ, hZ, compZ, nZ⟩, fZ⟩
    · cases hq
      exact ⟨fun n z => ⟨fun k h => (by cases h), kR, g3, comp, g4⟩, kR, comp, g3, g4, g1, g5⟩
    · cases hq
set_option maxHeartbeats 4000000 in
/-- from the law's entry into the small machine -/
theorem m_start {p : Program} {l : Launch} {e : Env} {R : Room} {s : State} {m : MethodId} {below : List Frame} {meth : Method} {c : Code} {b L : Nat} {xs : Nat → Int32} {Q : State → Prop} {d : Nat} {F : Nat → Nat → Int32} {g : Nat → Option Nat}
    (hgo : mGo ML_law d (0, mEnt [.ref 0] 13, [], ((mSH L).take 4, F00 xs, fun _ _ => none)) (some (.int 1), mHX L F g))
    (hx : p.tables.exec = Jvm.exec) (hcode : c.code = code) (hret : meth.sig.returnType = some .boolean) (hml : c.maxLocals = 13) (hown : s.vm.findClass RL = some m.cls) (hts : ∀ w ∈ lw_tbl, w.before #[Value.ref b] s = true) (hX : va_X b L xs s s.heap) (hb : b < s.heap.size) (hlocks : meth.locks = false) (hgv : (Jvm.Cond.and given_1 narrow_1).before #[Value.ref b] s = true)
    (hfr : d ≤ R.frames) (hlo : 40 * d ≤ R.locals) (hce : 168 ≤ R.cells) (hsl : mSz (mSH L) - mSz ((mSH L).take 4) ≤ R.slots)
    (hend : ∀ (H1 : Heap) (pc1 : Nat) (ls1 : Array Slot), decode cL_law pc1 = .ok (.ireturn, 1) → W p l e R s m #[Value.ref b] below meth c H1 [] R.cells R.slots Q (F0 m pc1 ls1 [.int 1])) :
    W p l e R s m #[Value.ref b] below meth c s.heap [] 0 0 Q (entryFrame m ([Value.ref b] : List Value).toArray 13) := by
  have hs := flat_of_before _ hgv
  have hA : ∀ a : Nat, a < s.heap.size → ¬ s.heap.size ≤ a := fun a h1 h2 => by omega
  obtain ⟨D, cm, hK⟩ := m_world hts
  obtain ⟨t1, l1, x1, z1, v1⟩ := m_static (args := #[Value.ref b]) (s := s) (n := "FIRST_SETTINGS") (N := 4) (f := mFS) (A := fun q => s.heap.size ≤ q) (by decide) (hts _ (by decide +kernel)) (hts _ (by decide +kernel)) (hs _ (by decide +kernel)) (hs _ (by decide +kernel)) (fun j hj => by
    rcases (by omega : j = 0 ∨ j = 1 ∨ j = 2 ∨ j = 3) with rfl | rfl | rfl | rfl <;> exact hs _ (by decide +kernel)) hA
  obtain ⟨t2, l2, x2, z2, v2⟩ := m_static (args := #[Value.ref b]) (s := s) (n := "HIGHEST_SETTINGS") (N := 4) (f := mHS) (A := fun q => s.heap.size ≤ q) (by decide) (hts _ (by decide +kernel)) (hts _ (by decide +kernel)) (hs _ (by decide +kernel)) (hs _ (by decide +kernel)) (fun j hj => by
    rcases (by omega : j = 0 ∨ j = 1 ∨ j = 2 ∨ j = 3) with rfl | rfl | rfl | rfl <;> exact hs _ (by decide +kernel)) hA
  obtain ⟨t3, l3, x3, z3, v3⟩ := m_static (args := #[Value.ref b]) (s := s) (n := "MEANING_BY_COMPANY") (N := 20) (f := mMB) (A := fun q => s.heap.size ≤ q) (by decide) (hts _ (by decide +kernel)) (hts _ (by decide +kernel)) (hs _ (by decide +kernel)) (hs _ (by decide +kernel)) (fun j hj => by
    rcases (by omega : j = 0 ∨ j = 1 ∨ j = 2 ∨ j = 3 ∨ j = 4 ∨ j = 5 ∨ j = 6 ∨ j = 7 ∨ j = 8 ∨ j = 9 ∨ j = 10 ∨ j = 11 ∨ j = 12 ∨ j = 13 ∨ j = 14 ∨ j = 15 ∨ j = 16 ∨ j = 17 ∨ j = 18 ∨ j = 19) with rfl | rfl | rfl | rfl | rfl | rfl | rfl | rfl | rfl | rfl | rfl | rfl | rfl | rfl | rfl | rfl | rfl | rfl | rfl | rfl <;> exact hs _ (by decide +kernel)) hA
  obtain ⟨a1, cA, cell, kA, w1, w2, w3, w4, w5, w6, -⟩ := Cond.exactly_spec (hs (Cond.exactly (.static RX6 "FIRST_SETTINGS" "[I") "[I") (by decide +kernel))
  obtain rfl : a1 = t1 := by
    have := w1.symm.trans v1
    simpa using this
  have ecA : cm 0 = cA := Option.some.inj ((va_nm_int (hK.2 0 _ rfl).2).symm.trans w2)
  have hSta : mSta s.heap.size (fun j => ([b, a1, t2, t3] : List Nat).getD j b) (fun j => ([L, 4, 4, 20] : List Nat).getD j L) (F00 xs) cm D s s.heap := by
    refine ⟨hK, fun w hw => va_Nw.of (mNW_tab w hw) (hts w (List.mem_filter.mp hw).1), va_AO.of (hts _ (by decide +kernel)), Nat.le_refl _, ?_, ?_, cell, w3, by rw [ecA]; exact w6⟩
    · intro j hj
      rcases (by omega : j = 0 ∨ j = 1 ∨ j = 2 ∨ j = 3) with rfl | rfl | rfl | rfl
      · exact ⟨hb, hX⟩
      · exact ⟨l1, x1⟩
      · exact ⟨l2, x2⟩
      · exact ⟨l3, x3⟩
    · intro j hj
      rcases (by omega : j = 0 ∨ j = 1 ∨ j = 2) with rfl | rfl | rfl
      · exact z1
      · exact z2
      · exact z3
  have hD : mD s.heap.size (fun j => ([b, a1, t2, t3] : List Nat).getD j b) (fun j => ([L, 4, 4, 20] : List Nat).getD j L) (F00 xs) cm D ((mSH L).take 4, F00 xs, fun _ _ => none) s.heap := by
    refine ⟨Nat.le_refl 4, rfl, ?_, ?_⟩
    · intro k q hk
      have := (mW_at hk).1
      have h0 : ((mSH L).take 4).length - 4 = 0 := rfl
      change k < ((mSH L).take 4).length - 4 at this
      omega
    · intro j hj
      rcases (by omega : j = 0 ∨ j = 1 ∨ j = 2 ∨ j = 3) with rfl | rfl | rfl | rfl <;> exact ⟨rfl, rfl⟩
  have hXX : mX s.heap.size (fun j => ([b, a1, t2, t3] : List Nat).getD j b) (fun j => ([L, 4, 4, 20] : List Nat).getD j L) (F00 xs) cm D ML_law p s m #[Value.ref b] meth c := ⟨hx, hcode, hret, hml, hown, hlocks, (fun h => absurd h (by decide)), m_words hts, hSta⟩
  have hmono : mSz ((mSH L).take 4) ≤ mSz (mSH L) := hgo.1.2
  rw [lg_entry_eq]
  refine W.widen (k := R.cells - 168) (n := R.slots - (mSz (mSH L) - mSz ((mSH L).take 4))) (Nat.zero_le _) (Nat.zero_le _) ?_
  refine hgo.2 s.heap.size _ _ _ cm D p l e R s m #[Value.ref b] below meth c Q R.cells R.slots s.heap [] _ _ _ hXX hfr hlo (Nat.le_refl _) (Nat.le_refl _) ?_ ?_ ?_ hD va_S.rf (mh_entry (as := [.ref 0]) (n := 13) (by decide))
  · intro H1 locs1 pc1 ls1 hri hD1 hS1
    exact va_forget (fun q hq => hS1.2.2 q hq) (hend H1 pc1 ls1 hri)
  · show R.cells - 168 + 172 = R.cells + 4
    omega
  · show R.slots - (mSz (mSH L) - mSz ((mSH L).take 4)) + mSz (mSH L) = R.slots + mSz ((mSH L).take 4)
    omega
