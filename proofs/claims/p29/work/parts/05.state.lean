/-! the heap behind the constructors: shapes and fixed references; the references of cell 22 (the kept rooms) move -/
def mSH (L : Nat) : List mShp := [.inr (3, L), .inr (3, 4), .inr (3, 4), .inr (3, 20), .inl 6, .inl 4, .inr (0, 4), .inl 0, .inr (0, 10), .inr (0, 10), .inr (0, 10), .inr (0, 10), .inr (0, 10), .inr (0, 10), .inl 2, .inr (0, 12), .inr (0, 12), .inr (0, 3), .inr (0, 50), .inr (0, 3), .inr (0, 3), .inl 1, .inr (2, 7), .inl 4, .inr (0, 4), .inl 0, .inr (0, 10), .inr (0, 10), .inr (0, 10), .inr (0, 10), .inr (0, 10), .inr (0, 10), .inl 2, .inr (0, 12), .inr (0, 12), .inr (0, 3), .inr (0, 50), .inr (0, 3), .inr (0, 3), .inl 4, .inr (0, 4), .inl 0, .inr (0, 10), .inr (0, 10), .inr (0, 10), .inr (0, 10), .inr (0, 10), .inr (0, 10), .inl 2, .inr (0, 12), .inr (0, 12), .inr (0, 3), .inr (0, 50), .inr (0, 3), .inr (0, 3), .inl 4, .inr (0, 4), .inl 0, .inr (0, 10), .inr (0, 10), .inr (0, 10), .inr (0, 10), .inr (0, 10), .inr (0, 10), .inl 2, .inr (0, 12), .inr (0, 12), .inr (0, 3), .inr (0, 50), .inr (0, 3), .inr (0, 3), .inl 4, .inr (0, 4), .inl 0, .inr (0, 10), .inr (0, 10), .inr (0, 10), .inr (0, 10), .inr (0, 10), .inr (0, 10), .inl 2, .inr (0, 12), .inr (0, 12), .inr (0, 3), .inr (0, 50), .inr (0, 3), .inr (0, 3), .inl 4, .inr (0, 4), .inl 0, .inr (0, 10), .inr (0, 10), .inr (0, 10), .inr (0, 10), .inr (0, 10), .inr (0, 10), .inl 2, .inr (0, 12), .inr (0, 12), .inr (0, 3), .inr (0, 50), .inr (0, 3), .inr (0, 3), .inl 4, .inr (0, 4), .inl 0, .inr (0, 10), .inr (0, 10), .inr (0, 10), .inr (0, 10), .inr (0, 10), .inr (0, 10), .inl 2, .inr (0, 12), .inr (0, 12), .inr (0, 3), .inr (0, 50), .inr (0, 3), .inr (0, 3), .inl 4, .inr (0, 4), .inl 0, .inr (0, 10), .inr (0, 10), .inr (0, 10), .inr (0, 10), .inr (0, 10), .inr (0, 10), .inl 2, .inr (0, 12), .inr (0, 12), .inr (0, 3), .inr (0, 50), .inr (0, 3), .inr (0, 3), .inl 5, .inr (2, 2), .inl 4, .inr (0, 4), .inl 0, .inr (0, 10), .inr (0, 10), .inr (0, 10), .inr (0, 10), .inr (0, 10), .inr (0, 10), .inl 2, .inr (0, 12), .inr (0, 12), .inr (0, 3), .inr (0, 50), .inr (0, 3), .inr (0, 3), .inl 4, .inr (0, 4), .inl 0, .inr (0, 10), .inr (0, 10), .inr (0, 10), .inr (0, 10), .inr (0, 10), .inr (0, 10), .inl 2, .inr (0, 12), .inr (0, 12), .inr (0, 3), .inr (0, 50), .inr (0, 3), .inr (0, 3), .inr (1, 2), .inl 3, .inr (0, 80)]
def mRL : List (List Nat) := [[], [], [], [], [5, 21, 135, 170], [0, 6, 7, 14, 19, 20], [], [0, 8, 9, 10, 11, 12, 13], [], [], [], [], [], [], [15, 16, 17, 18, 0], [], [], [], [], [], [], [22, 0], [], [0, 24, 25, 32, 37, 38], [], [0, 26, 27, 28, 29, 30, 31], [], [], [], [], [], [], [33, 34, 35, 36, 0], [], [], [], [], [], [], [0, 40, 41, 48, 53, 54], [], [0, 42, 43, 44, 45, 46, 47], [], [], [], [], [], [], [49, 50, 51, 52, 0], [], [], [], [], [], [], [0, 56, 57, 64, 69, 70], [], [0, 58, 59, 60, 61, 62, 63], [], [], [], [], [], [], [65, 66, 67, 68, 0], [], [], [], [], [], [], [0, 72, 73, 80, 85, 86], [], [0, 74, 75, 76, 77, 78, 79], [], [], [], [], [], [], [81, 82, 83, 84, 0], [], [], [], [], [], [], [0, 88, 89, 96, 101, 102], [], [0, 90, 91, 92, 93, 94, 95], [], [], [], [], [], [], [97, 98, 99, 100, 0], [], [], [], [], [], [], [0, 104, 105, 112, 117, 118], [], [0, 106, 107, 108, 109, 110, 111], [], [], [], [], [], [], [113, 114, 115, 116, 0], [], [], [], [], [], [], [0, 120, 121, 128, 133, 134], [], [0, 122, 123, 124, 125, 126, 127], [], [], [], [], [], [], [129, 130, 131, 132, 0], [], [], [], [], [], [], [136, 169], [137, 153], [0, 138, 139, 146, 151, 152], [], [0, 140, 141, 142, 143, 144, 145], [], [], [], [], [], [], [147, 148, 149, 150, 0], [], [], [], [], [], [], [0, 154, 155, 162, 167, 168], [], [0, 156, 157, 158, 159, 160, 161], [], [], [], [], [], [], [163, 164, 165, 166, 0], [], [], [], [], [], [], [], [171, 0], []]
def mR0 (c k : Nat) : Option Nat := match (mRL.getD c []).getD k 0 with
  | 0 => none
  | r + 1 => some (r + 1)
def mRF (g : Nat → Option Nat) (c k : Nat) : Option Nat := if c = 22 then g k else mR0 c k
abbrev mHX (L : Nat) (F : Nat → Nat → Int32) (g : Nat → Option Nat) : mHp := (mSH L, F, mRF g)
def pe (F : Nat → Nat → Int32) (c k : Nat) (v : Int32) : Nat → Nat → Int32 := va_up F c (va_up (F c) k v)
def cpB (F : Nat → Nat → Int32) (a b sx dx n : Nat) : Nat → Nat → Int32 := va_up F a (va_cpy (F b) (F a) sx dx n)
theorem pe_at (F : Nat → Nat → Int32) (c k : Nat) (v : Int32) (a b : Nat) : pe F c k v a b = if a = c ∧ b = k then v else F a b := by
  unfold pe va_up
  by_cases h : a = c
  · subst h
    by_cases h2 : b = k
    · simp [h2]
    · simp [h2]
  · simp [h]
theorem pe_eq (F : Nat → Nat → Int32) (c k : Nat) (v : Int32) : pe F c k v c k = v := by rw [pe_at, if_pos ⟨rfl, rfl⟩]
theorem pe_row {F : Nat → Nat → Int32} {c k : Nat} {v : Int32} {a : Nat} (h : a ≠ c) : pe F c k v a = F a := va_up_ne _ _ h
theorem pe_ne {F : Nat → Nat → Int32} {c k : Nat} {v : Int32} {a b : Nat} (h : ¬ (a = c ∧ b = k)) : pe F c k v a b = F a b := by rw [pe_at, if_neg h]
theorem pe_self (F : Nat → Nat → Int32) (c k : Nat) (v : Int32) : pe F c k v c = va_up (F c) k v := va_up_self _ _ _
theorem cpB_at (F : Nat → Nat → Int32) (a b sx dx n c k : Nat) : cpB F a b sx dx n c k = if c = a ∧ dx ≤ k ∧ k < dx + n then F b (sx + (k - dx)) else F c k := by
  unfold cpB va_up va_cpy
  by_cases h : c = a
  · subst h
    simp
  · simp [h]
theorem cpB_row {F : Nat → Nat → Int32} {a b sx dx n c : Nat} (h : c ≠ a) : cpB F a b sx dx n c = F c := va_up_ne _ _ h
def mbi (p : Prop) [Decidable p] : Int32 := if p then 1 else 0
theorem mbi_t {p : Prop} [Decidable p] (h : p) : mbi p = 1 := if_pos h
theorem mbi_f {p : Prop} [Decidable p] (h : ¬ p) : mbi p = 0 := if_neg h
theorem mbi_0 {p : Prop} [Decidable p] : mbi p = 0 ↔ ¬ p := by
  unfold mbi
  by_cases h : p
  · simp [h]
  · simp [h]
theorem mbi_n0 {p : Prop} [Decidable p] : ¬ mbi p = 0 ↔ p := by rw [mbi_0]; exact Decidable.not_not
theorem mbi_ok {p : Prop} [Decidable p] : narrow .boolean (.int (mbi p)) = .int (mbi p) := by
  unfold mbi
  split <;> rfl
theorem m_ret {a b : Int32} {hp : mHp} (h : a = b) : ((some (Value.int a), hp) : mOut) = (some (Value.int b), hp) := by rw [h]
theorem m_ret2 {a b : Int32} {hp hp1 : mHp} (h : a = b) (h2 : hp = hp1) : ((some (Value.int a), hp) : mOut) = (some (Value.int b), hp1) := by rw [h, h2]
theorem m_ret0 {hp hp1 : mHp} (h2 : hp = hp1) : ((none, hp) : mOut) = (none, hp1) := by rw [h2]
theorem m_hx {L : Nat} {F F1 : Nat → Nat → Int32} {g : Nat → Option Nat} (h : F = F1) : mHX L F g = mHX L F1 g := by rw [h]
theorem i_lt {x y : Int32} : x < y ↔ x.toInt < y.toInt := Int32.lt_iff_toInt_lt
theorem i_le {x y : Int32} : x ≤ y ↔ x.toInt ≤ y.toInt := Int32.le_iff_toInt_le
theorem i_eq {x y : Int32} : x = y ↔ x.toInt = y.toInt := Int32.toInt_inj.symm
theorem i_0 : (0 : Int32).toInt = 0 := by decide
theorem i_1 : (1 : Int32).toInt = 1 := by decide
theorem i_n {n : Nat} (h : n < 2 ^ 31) : (nI n).toInt = (n : Int) := nI_toInt h
theorem g_ialdN {M : mM} {d pc : Nat} {L : mLs} {st : List Value} {sh : List mShp} {F : Nat → Nat → Int32} {R0 : Nat → Nat → Option Nat} {out : mOut} {j n : Nat} {i : Int32} (gx : Nat) (hd : decode M.2.1 pc = .ok (.iaload, 1)) (hsh : sh[j]? = some (.inr (0, n))) (h4 : 4 ≤ j) (hi : i = nI gx) (hg : gx < n) (hn : n < 2 ^ 31) (k : mGo M d (pc + 1, L, .int (F j gx) :: st, (sh, F, R0)) out) : mGo M d (pc, L, .int i :: .ref j :: st, (sh, F, R0)) out := by
  subst hi
  exact g_iald hd hsh h4 (vp_in_nI hg hn) (by rw [nI_clamp (Nat.lt_trans hg hn)]; exact k)
theorem g_zaldN {M : mM} {d pc : Nat} {L : mLs} {st : List Value} {sh : List mShp} {F : Nat → Nat → Int32} {R0 : Nat → Nat → Option Nat} {out : mOut} {j n : Nat} {i : Int32} (gx : Nat) (hd : decode M.2.1 pc = .ok (.baload, 1)) (hsh : sh[j]? = some (.inr (1, n))) (h4 : 4 ≤ j) (hi : i = nI gx) (hg : gx < n) (hn : n < 2 ^ 31) (k : mGo M d (pc + 1, L, .int (F j gx) :: st, (sh, F, R0)) out) : mGo M d (pc, L, .int i :: .ref j :: st, (sh, F, R0)) out := by
  subst hi
  exact g_zald hd hsh h4 (vp_in_nI hg hn) (by rw [nI_clamp (Nat.lt_trans hg hn)]; exact k)
theorem g_saldN {M : mM} {d pc : Nat} {L : mLs} {st : List Value} {sh : List mShp} {F : Nat → Nat → Int32} {R0 : Nat → Nat → Option Nat} {out : mOut} {j n : Nat} {i : Int32} (gx : Nat) (hd : decode M.2.1 pc = .ok (.iaload, 1)) (hsh : sh[j]? = some (.inr (3, n))) (h4 : j < 4) (hi : i = nI gx) (hg : gx < n) (hn : n < 2 ^ 31) (k : mGo M d (pc + 1, L, .int (F j gx) :: st, (sh, F, R0)) out) : mGo M d (pc, L, .int i :: .ref j :: st, (sh, F, R0)) out := by
  subst hi
  exact g_sald hd hsh h4 (vp_in_nI hg hn) (by rw [nI_clamp (Nat.lt_trans hg hn)]; exact k)
theorem g_aaldN {M : mM} {d pc : Nat} {L : mLs} {st : List Value} {sh : List mShp} {F : Nat → Nat → Int32} {R0 : Nat → Nat → Option Nat} {out : mOut} {j n : Nat} {i : Int32} {r : Nat} (gx : Nat) (hd : decode M.2.1 pc = .ok (.aaload, 1)) (hsh : sh[j]? = some (.inr (2, n))) (h4 : 4 ≤ j) (hi : i = nI gx) (hg : gx < n) (hn : n < 2 ^ 31) (hr : R0 j gx = some r) (k : mGo M d (pc + 1, L, .ref r :: st, (sh, F, R0)) out) : mGo M d (pc, L, .int i :: .ref j :: st, (sh, F, R0)) out := by
  subst hi
  exact g_aald hd hsh h4 (vp_in_nI hg hn) (by rw [nI_clamp (Nat.lt_trans hg hn)]; exact hr) k
theorem g_iastN {M : mM} {d pc : Nat} {L : mLs} {st : List Value} {sh : List mShp} {F : Nat → Nat → Int32} {R0 : Nat → Nat → Option Nat} {out : mOut} {j n : Nat} {i : Int32} {x : Int32} (gx : Nat) (hd : decode M.2.1 pc = .ok (.iastore, 1)) (hsh : sh[j]? = some (.inr (0, n))) (h4 : 4 ≤ j) (hi : i = nI gx) (hg : gx < n) (hn : n < 2 ^ 31) (k : mGo M d (pc + 1, L, st, (sh, pe F j gx x, R0)) out) : mGo M d (pc, L, .int x :: .int i :: .ref j :: st, (sh, F, R0)) out := by
  subst hi
  exact g_iast hd hsh h4 (vp_in_nI hg hn) (by rw [nI_clamp (Nat.lt_trans hg hn)]; exact k)
theorem g_zastN {M : mM} {d pc : Nat} {L : mLs} {st : List Value} {sh : List mShp} {F : Nat → Nat → Int32} {R0 : Nat → Nat → Option Nat} {out : mOut} {j n : Nat} {i : Int32} {x : Int32} (gx : Nat) (hd : decode M.2.1 pc = .ok (.bastore, 1)) (hsh : sh[j]? = some (.inr (1, n))) (h4 : 4 ≤ j) (hi : i = nI gx) (hg : gx < n) (hn : n < 2 ^ 31) (h01 : narrow .boolean (.int x) = .int x) (k : mGo M d (pc + 1, L, st, (sh, pe F j gx x, R0)) out) : mGo M d (pc, L, .int x :: .int i :: .ref j :: st, (sh, F, R0)) out := by
  subst hi
  exact g_zast hd hsh h4 (vp_in_nI hg hn) h01 (by rw [nI_clamp (Nat.lt_trans hg hn)]; exact k)
theorem g_aastN {M : mM} {d pc : Nat} {L : mLs} {st : List Value} {sh : List mShp} {F : Nat → Nat → Int32} {R0 : Nat → Nat → Option Nat} {out : mOut} {j n : Nat} {i : Int32} {v ci : Nat} (gx : Nat) (hd : decode M.2.1 pc = .ok (.aastore, 1)) (hsh : sh[j]? = some (.inr (2, n))) (h4 : 4 ≤ j) (hi : i = nI gx) (hg : gx < n) (hn : n < 2 ^ 31) (hv : sh[v]? = some (.inl ci)) (hv4 : 4 ≤ v) (hci : mcl[ci]?.map (fun q => q.1) = some RX4) (k : mGo M d (pc + 1, L, st, (sh, F, va_up R0 j (va_up (R0 j) gx (some v)))) out) : mGo M d (pc, L, .ref v :: .int i :: .ref j :: st, (sh, F, R0)) out := by
  subst hi
  exact g_aast hd hsh h4 (vp_in_nI hg hn) hv hv4 hci (by rw [nI_clamp (Nat.lt_trans hg hn)]; exact k)
theorem g_lconstv {M : mM} {d pc : Nat} {L : mLs} {st : List Value} {hp : mHp} {out : mOut} {n : Fin 2} {v : Int64} (hd : decode M.2.1 pc = .ok (.lconst n, 1)) (hv : Int64.ofNat (n : Nat) = v) (k : mGo M d (pc + 1, L, .long v :: st, hp) out) : mGo M d (pc, L, st, hp) out := by
  subst hv
  exact g_lconst hd k
theorem g_pI {M : mM} {d pc : Nat} {L : mLs} {st : List Value} {sh : List mShp} {F : Nat → Nat → Int32} {R0 : Nat → Nat → Option Nat} {out : mOut} {idx ci f j : Nat} {x : Int32} (hd : decode M.2.1 pc = .ok (.putfield idx, 3)) (hf : mFL M.1 idx ci f) (hfin : mfin ci f = false ∨ (mfin ci f = true ∧ M.2.2.2.2 = true ∧ mdc ci = M.1)) (hsh : sh[j]? = some (.inl ci)) (h4 : 4 ≤ j) (ht : mty ci f = .int)
    (k : mGo M d (pc + 3, L, st, (sh, pe F j f x, R0)) out) : mGo M d (pc, L, .int x :: .ref j :: st, (sh, F, R0)) out := g_putI hd hf hfin hsh h4 ht k
theorem g_pZ {M : mM} {d pc : Nat} {L : mLs} {st : List Value} {sh : List mShp} {F : Nat → Nat → Int32} {R0 : Nat → Nat → Option Nat} {out : mOut} {idx ci f j : Nat} {x : Int32} (hd : decode M.2.1 pc = .ok (.putfield idx, 3)) (hf : mFL M.1 idx ci f) (hfin : mfin ci f = false ∨ (mfin ci f = true ∧ M.2.2.2.2 = true ∧ mdc ci = M.1)) (hsh : sh[j]? = some (.inl ci)) (h4 : 4 ≤ j) (ht : mty ci f = .boolean) (h01 : x = 0 ∨ x = 1)
    (k : mGo M d (pc + 3, L, st, (sh, pe F j f x, R0)) out) : mGo M d (pc, L, .int x :: .ref j :: st, (sh, F, R0)) out := g_putZ hd hf hfin hsh h4 ht h01 k
theorem g_gI {M : mM} {d pc : Nat} {L : mLs} {st : List Value} {sh : List mShp} {F : Nat → Nat → Int32} {R0 : Nat → Nat → Option Nat} {out : mOut} {idx ci f j : Nat} (hd : decode M.2.1 pc = .ok (.getfield idx, 3)) (hf : mFL M.1 idx ci f) (ht : ∀ i r, mfv (mty ci f) i r = .int i) (hsh : sh[j]? = some (.inl ci)) (h4 : 4 ≤ j) (k : mGo M d (pc + 3, L, .int (F j f) :: st, (sh, F, R0)) out) : mGo M d (pc, L, .ref j :: st, (sh, F, R0)) out := g_getI hd hf ht hsh h4 k
theorem g_gR {M : mM} {d pc : Nat} {L : mLs} {st : List Value} {sh : List mShp} {F : Nat → Nat → Int32} {R0 : Nat → Nat → Option Nat} {out : mOut} {idx ci f j r : Nat} (hd : decode M.2.1 pc = .ok (.getfield idx, 3)) (hf : mFL M.1 idx ci f) (ht : ∀ i r, mfv (mty ci f) i r = va_rf r) (hsh : sh[j]? = some (.inl ci)) (h4 : 4 ≤ j) (hr : R0 j f = some r) (k : mGo M d (pc + 3, L, .ref r :: st, (sh, F, R0)) out) : mGo M d (pc, L, .ref j :: st, (sh, F, R0)) out := g_getR hd hf ht hsh h4 hr k
theorem g_iincN {M : mM} {d pc : Nat} {L : mLs} {st : List Value} {hp : mHp} {out : mOut} {n j : Nat} (hd : decode M.2.1 pc = .ok (.iinc n 1, 3)) (hl : L[n]? = some (some (.int (nI j)))) (hi : n < M.2.2.1) (hb1 : mSb L n = true) (k : mGo M d (pc + 3, L.set n (some (.int (nI (j + 1)))), st, hp) out) : mGo M d (pc, L, st, hp) out :=
  g_iinc hd hl hi hb1 (by rw [show nI j + Int32.ofInt 1 = nI (j + 1) from nI_1 j]; exact k)
theorem g_iincv {M : mM} {d pc : Nat} {L : mLs} {st : List Value} {hp : mHp} {out : mOut} {n : Nat} {z : Int} {x v : Int32} (hd : decode M.2.1 pc = .ok (.iinc n z, 3)) (hl : L[n]? = some (some (.int x))) (hv : x + Int32.ofInt z = v) (hi : n < M.2.2.1) (hb1 : mSb L n = true) (k : mGo M d (pc + 3, L.set n (some (.int v)), st, hp) out) : mGo M d (pc, L, st, hp) out := by
  subst hv
  exact g_iinc hd hl hi hb1 k
theorem g_iincx {M : mM} {d pc : Nat} {L : mLs} {st : List Value} {hp : mHp} {out : mOut} {n : Nat} {z : Int} {x w : Int32} (hd : decode M.2.1 pc = .ok (.iinc n z, 3)) (hl : L[n]? = some (some (.int x))) (hw : Int32.ofInt z = w) (hi : n < M.2.2.1) (hb1 : mSb L n = true) (k : mGo M d (pc + 3, L.set n (some (.int (x + w))), st, hp) out) : mGo M d (pc, L, st, hp) out := by
  subst hw
  exact g_iinc hd hl hi hb1 k
theorem g_topi {M : mM} {d pc : Nat} {L : mLs} {st : List Value} {hp : mHp} {out : mOut} {x : Int32} (k : ∀ y : Int32, y = x → mGo M d (pc, L, .int y :: st, hp) out) : mGo M d (pc, L, .int x :: st, hp) out := k x rfl
theorem g_copyN {M : mM} {d pc : Nat} {L : mLs} {st : List Value} {sh : List mShp} {F : Nat → Nat → Int32} {R0 : Nat → Nat → Option Nat} {out : mOut} {idx a b n0 n1 : Nat} {sp dp n : Int32} (sx dx nx : Nat) (hd : decode M.2.1 pc = .ok (.invokestatic idx, 3)) (hw : Cond.methodLink M.1 idx arraycopyName ∈ mGW) (ha : sh[a]? = some (.inr (0, n0))) (hb0 : sh[b]? = some (.inr (0, n1))) (ha4 : 4 ≤ a) (hb4 : 4 ≤ b)
    (h1 : sp = nI sx) (h2 : dp = nI dx) (h3 : n = nI nx) (h4 : sx + nx ≤ n0) (h5 : dx + nx ≤ n1) (h6 : sx + nx < 2 ^ 31) (h7 : dx < 2 ^ 31) (hst : st.length ≤ 4) (k : mGo M (d + 1) (pc + 3, L, st, (sh, cpB F b a sx dx nx, R0)) out) : mGo M (d + 1) (pc, L, .int n :: .int dp :: .ref b :: .int sp :: .ref a :: st, (sh, F, R0)) out := by
  subst h1
  subst h2
  subst h3
  have e1 : (nI sx).toNatClampNeg = sx := nI_clamp (by omega)
  have e2 : (nI dx).toNatClampNeg = dx := nI_clamp h7
  have e3 : (nI nx).toNatClampNeg = nx := nI_clamp (by omega)
  exact g_copy hd hw wa_nat wa_stat wa_ini ha hb0 ha4 hb4 (nI_pos (by omega)) (nI_pos h7) (nI_pos (by omega)) (by rw [e1, e3]; exact h4) (by rw [e2, e3]; exact h5) hst (by rw [e1, e2, e3]; exact k)
def mfold {α : Type} (f : α → Nat → α) (a : α) : Nat → α
  | 0 => a
  | n + 1 => f (mfold f a n) n
def sSet (seat : Nat → Int32) (t : Int32) (n : Nat) : Int32 := mfold (fun a k => if seat k = t then a ||| ((1 : Int32) <<< (nI k &&& 31)) else a) 0 n
theorem mfold_succ {α : Type} (f : α → Nat → α) (a : α) (n : Nat) : mfold f a (n + 1) = f (mfold f a n) n := rfl
def sHostF (seat rank : Nat → Int32) (t : Int32) (a : Int32 × Int32) (k : Nat) : Int32 × Int32 := if seat k = t then (if rank k ≤ a.2 then a else (nI k, rank k)) else a
def sHost (seat rank : Nat → Int32) (t : Int32) (n : Nat) : Int32 := (mfold (sHostF seat rank t) (-6, 0) n).1
def sCompF (seat rank : Nat → Int32) (t ab : Int32) (a : Int32 × Int32 × Int32) (k : Nat) : Int32 × Int32 × Int32 := if seat k = t then (if nI k = ab then a else (a.1 + 1, (if a.1 = 0 then rank k else a.2.1), (if a.2.2 = 0 then 0 else if rank k = (if a.1 = 0 then rank k else a.2.1) then 1 else 0))) else a
def sComp (seat rank : Nat → Int32) (t ab : Int32) (n : Nat) : Int32 := if 3 ≤ (mfold (sCompF seat rank t ab) (0, 0, 1) n).1 then (if (mfold (sCompF seat rank t ab) (0, 0, 1) n).2.2 = 0 then 4 else 3) else (mfold (sCompF seat rank t ab) (0, 0, 1) n).1
def sLendF (seat rank cough : Nat → Int32) (x t : Int32) (a : Int32 × Int32) (k : Nat) : Int32 × Int32 := if nI k = x then a else if seat k = t then (if cough k ≤ 0 then a else if a.2 ≤ rank k then a else (nI k, rank k)) else a
def sLend (seat rank cough : Nat → Int32) (x t : Int32) (n : Nat) : Int32 := (mfold (sLendF seat rank cough x t) (-6, 10) n).1
def sSum (a : Nat → Int32) (n : Nat) : Int32 := mfold (fun b k => b + a k) 0 n
def sSumHere (seat cough : Nat → Int32) (n : Nat) : Int32 := mfold (fun b k => b + (if seat k = (-6) then 0 else cough k)) 0 n
