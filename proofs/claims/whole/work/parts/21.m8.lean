theorem mSg_dg {P : Nat → Int32} {l k : Nat} (h : mDb (mSg P l k) = true) : k < l := by
  by_cases q : k < l
  · exact q
  · simp only [mSg, if_neg q] at h
    exact absurd h (by decide)
theorem mSg_nz {P : Nat → Int32} {l k : Nat} {x : Int32} (h : mSg P l k = x) (hx : x ≠ 0) : k < l := by
  by_cases q : k < l
  · exact q
  · simp only [mSg, if_neg q] at h
    exact absurd h.symm hx
theorem mOrd_at {P : Nat → Int32} {l i : Nat} (hi : i ≤ l) : i ≤ (mOrd P l i).2 ∧ (mOrd P l i).2 ≤ l ∧ ((mOrd P l i).1 = true → i + 2 ≤ (mOrd P l i).2) := by
  unfold mOrd
  split
  · next h0 =>
    have := mSg_nz h0 (by decide)
    split
    · next h1 =>
      have := mSg_dg h1
      split
      · next h2 =>
        have := mSg_nz h2 (by decide)
        split
        · next h3 =>
          have := mSg_dg h3
          refine ⟨by show i ≤ i + 4; omega, by show i + 4 ≤ l; omega, fun _ => by show i + 2 ≤ i + 4; omega⟩
        · refine ⟨by show i ≤ i + 3; omega, by show i + 3 ≤ l; omega, fun h => by cases h⟩
      · refine ⟨by show i ≤ i + 2; omega, by show i + 2 ≤ l; omega, fun h => by cases h⟩
    · refine ⟨by show i ≤ i + 1; omega, by show i + 1 ≤ l; omega, fun h => by cases h⟩
  · split
    · next h0 =>
      have : i < l := by
        rcases h0 with h0 | h0
        · exact mSg_nz h0 (by decide)
        · exact mSg_nz h0 (by decide)
      split
      · next h1 =>
        have := mSg_dg h1
        refine ⟨by show i ≤ i + 2; omega, by show i + 2 ≤ l; omega, fun _ => Nat.le_refl _⟩
      · refine ⟨by show i ≤ i + 1; omega, by show i + 1 ≤ l; omega, fun h => by cases h⟩
    · split
      · next h0 =>
        have : i < l := by
          rcases h0 with h0 | h0 | h0 | h0
          · exact mSg_nz h0 (by decide)
          · exact mSg_nz h0 (by decide)
          · exact mSg_nz h0 (by decide)
          · exact mSg_nz h0 (by decide)
        split
        · next h1 =>
          have := mSg_dg h1
          split
          · refine ⟨by show i ≤ i + 2; omega, by show i + 2 ≤ l; omega, fun _ => Nat.le_refl _⟩
          · split
            · next h2 =>
              have := mSg_dg h2
              refine ⟨by show i ≤ i + 3; omega, by show i + 3 ≤ l; omega, fun _ => by show i + 2 ≤ i + 3; omega⟩
            · refine ⟨by show i ≤ i + 2; omega, by show i + 2 ≤ l; omega, fun _ => Nat.le_refl _⟩
        · refine ⟨by show i ≤ i + 1; omega, by show i + 1 ≤ l; omega, fun h => by cases h⟩
      · exact ⟨Nat.le_refl _, hi, fun h => by cases h⟩
def mTl (P : Nat → Int32) (l : Nat) : Nat → Nat → Bool × Nat → List (Nat × Nat) × Option Nat
  | 0, _, o => ([], some o.2)
  | f + 1, i, o => if o.1 = true then (if o.2 < l then (if P o.2 = 59 then ((i, o.2) :: (mTl P l f (o.2 + 1) (mOrd P l (o.2 + 1))).1, (mTl P l f (o.2 + 1) (mOrd P l (o.2 + 1))).2) else ([(i, o.2)], some o.2)) else ([(i, o.2)], none)) else ([], some o.2)
def mPar (P : Nat → Int32) (l : Nat) : List (Nat × Nat) × Option Nat := mTl P l (l + 1) 0 (mOrd P l 0)
def rdR (P : Nat → Int32) (l : Nat) (R : Nat → Int32) (m i j : Nat) : Prop := R (3 * m) = mSg P l i ∧ R (3 * m + 1) = mA P l i j ∧ (mSg P l i = 103 → R (3 * m + 2) = mSg P l (i + 3) - 48)
def rdP (P : Nat → Int32) (F F1 : Nat → Nat → Int32) (l m : Nat) (ls : List (Nat × Nat)) : Prop :=
  (∀ c k : Nat, c ≠ 178 → (c = 172 → k ≠ 8 ∧ k ≠ 9 ∧ k ≠ 11) → F1 c k = F c k) ∧ F1 172 11 = nI (m + ls.length) ∧ (∀ k, k < 3 * m → F1 178 k = F 178 k) ∧ (∀ q i j, ls[q]? = some (i, j) → rdR P l (F1 178) (m + q) i j)
theorem e_rdL {L : Nat} {g : Nat → Option Nat} (d : Nat) (P : Nat → Int32) (l : Nat) (hl : l ≤ 80) : ∀ (f i m : Nat) (G : Nat → Nat → Int32) (o : Bool × Nat), G 172 7 = nI l → G 172 8 = nI o.2 → G 172 9 = (if o.1 = true then 1 else 0) → G 172 11 = nI (if o.1 = true then m + 1 else m) → G 177 = P → o = mOrd P l i → i ≤ l → 3 * m ≤ i → l < i + f → (o.1 = true → rdR P l (G 178) m i o.2) → ∃ F1, mGo MX7_reads (d + 4) (14, [some (.ref 172)], [], mHX L G g) (some (.int (oI (mTl P l f i o).2)), mHX L F1 g) ∧ rdP P G F1 l m (mTl P l f i o).1 := by
  intro f
  induction f with
  | zero =>
    intro i m G o e7 e8 e9 e11 eP eo hi hm hf hR
    omega
  | succ f ih =>
    intro i m G o e7 e8 e9 e11 eP eo hi hm hf hR
    have ho := mOrd_at (P := P) hi
    rw [← eo] at ho
    cases ho1 : o.1 with
    | false =>
      simp only [mTl, ho1, Bool.false_eq_true, if_false]
      rw [ho1] at e9 e11
      refine ⟨G, lp_rd_bad d l o.2 e7 hl e8 (by omega) e9, fun _ _ _ _ => rfl, e11, fun _ _ => rfl, ?_⟩
      intro q i j h
      cases h
    | true =>
      rw [ho1, if_pos rfl] at e9 e11
      have hR1 := hR ho1
      have h2 := ho.2.2 ho1
      simp only [mTl, ho1, if_true]
      by_cases hj : o.2 < l
      · simp only [if_pos hj]
        by_cases h59 : P o.2 = 59
        · simp only [if_pos h59]
          have e1 : (pe G 172 8 (nI (o.2 + 1))) 172 7 = nI l := by rw [pe_ne (by decide)]; exact e7
          have e2 : (pe G 172 8 (nI (o.2 + 1))) 172 11 = nI (m + 1) := by rw [pe_ne (by decide)]; exact e11
          have e3 : (pe G 172 8 (nI (o.2 + 1))) 177 = P := eP
          obtain ⟨F2, H2, p1, p2, p3, p4, p5⟩ := e_ro (L := L) (g := g) (F := pe G 172 8 (nI (o.2 + 1))) d l (o.2 + 1) (m + 1) e1 hl (pe_eq _ _ _ _) (by omega) e2 (by omega)
          rw [e3] at p1 p2 p3 p5
          have eF7 : F2 172 7 = nI l := by rw [p4 172 7 (fun _ => by decide) (fun h => absurd h (by decide))]; exact e1
          have eFP : F2 177 = P := by
            funext k
            rw [p4 177 k (fun h => absurd h (by decide)) (fun h => absurd h (by decide))]
            exact congrFun e3 k
          obtain ⟨F1, K, q1, q2, q3, q4⟩ := ih (o.2 + 1) (m + 1) F2 (mOrd P l (o.2 + 1)) eF7 p1 p2 p3 eFP rfl (by omega) (by omega) (by omega) p5
          refine ⟨F1, lp_rd_yes d l o.2 e7 hl e8 (by omega) e9 hj (by rw [eP]; simp only [mSg, if_pos hj]; exact h59) F2 H2 _ K, ?_, ?_, ?_, ?_⟩
          · intro c k h1 h2
            rw [q1 c k h1 h2, p4 c k h2 (fun h => absurd h h1)]
            exact pe_ne (fun h => (h2 h.1).1 h.2)
          · rw [q2, List.length_cons]
            congr 1
            omega
          · intro k hk
            rw [q3 k (by omega), p4 178 k (fun h => absurd h (by decide)) (fun _ => by omega)]
            rfl
          · intro q i' j' h
            cases q with
            | zero =>
              simp only [List.getElem?_cons_zero, Option.some.injEq, Prod.mk.injEq] at h
              obtain ⟨rfl, rfl⟩ := h
              have ek : ∀ k, k < 3 * (m + 1) → F1 178 k = G 178 k := by
                intro k hk
                rw [q3 k hk, p4 178 k (fun h => absurd h (by decide)) (fun _ => by omega)]
                rfl
              refine ⟨?_, ?_, ?_⟩
              · rw [Nat.add_zero, ek _ (by omega)]
                exact hR1.1
              · rw [Nat.add_zero, ek _ (by omega)]
                exact hR1.2.1
              · intro h
                rw [Nat.add_zero, ek _ (by omega)]
                exact hR1.2.2 h
            | succ q =>
              rw [List.getElem?_cons_succ] at h
              have := q4 q i' j' h
              rw [show m + (q + 1) = m + 1 + q by omega]
              exact this
        · simp only [if_neg h59]
          refine ⟨_, lp_rd_not d l o.2 e7 hl e8 (by omega) e9 hj _ rfl (by rw [eP]; simp only [mSg, if_pos hj]; exact h59), ?_, ?_, ?_, ?_⟩
          · intro c k h1 h2
            exact pe_ne (fun h => (h2 h.1).2.1 h.2)
          · rw [pe_ne (by decide)]
            exact e11
          · intro k hk
            rfl
          · intro q i' j' h
            cases q with
            | zero =>
              simp only [List.getElem?_cons_zero, Option.some.injEq, Prod.mk.injEq] at h
              obtain ⟨rfl, rfl⟩ := h
              exact hR1
            | succ q => simp at h
      · simp only [if_neg hj]
        refine ⟨_, lp_rd_end d l o.2 e7 hl e8 (by omega) e9 (by omega), fun _ _ _ _ => rfl, e11, fun _ _ => rfl, ?_⟩
        intro q i' j' h
        cases q with
        | zero =>
          simp only [List.getElem?_cons_zero, Option.some.injEq, Prod.mk.injEq] at h
          obtain ⟨rfl, rfl⟩ := h
          exact hR1
        | succ q => simp at h
theorem e_reads {L : Nat} {F : Nat → Nat → Int32} {g : Nat → Option Nat} (d l : Nat) (el : F 172 7 = nI l) (hl : l ≤ 80) : ∃ F1, mCall (d + 4) yX7_reads MX7_reads [.ref 172] (mHX L F g) (some (.int (oI (mPar (F 177) l).2))) (mHX L F1 g) ∧ rdP (F 177) F F1 l 0 (mPar (F 177) l).1 := by
  have e1 : (pe (pe F 172 8 0) 172 11 0) 172 7 = nI l := by rw [pe_ne (by decide), pe_ne (by decide)]; exact el
  have e8 : (pe (pe F 172 8 0) 172 11 0) 172 8 = nI 0 := by rw [pe_ne (by decide), pe_eq]; rfl
  have e11 : (pe (pe F 172 8 0) 172 11 0) 172 11 = nI 0 := by rw [pe_eq]; rfl
  obtain ⟨F2, H2, p1, p2, p3, p4, p5⟩ := e_ro (L := L) (g := g) (F := pe (pe F 172 8 0) 172 11 0) d l 0 0 e1 hl e8 (by omega) e11 (by omega)
  have eF7 : F2 172 7 = nI l := by rw [p4 172 7 (fun _ => by decide) (fun h => absurd h (by decide))]; exact e1
  have eFP : F2 177 = F 177 := by
    funext k
    rw [p4 177 k (fun h => absurd h (by decide)) (fun h => absurd h (by decide))]
    rfl
  obtain ⟨F1, K, q1, q2, q3, q4⟩ := e_rdL (L := L) (g := g) d (F 177) l hl (l + 1) 0 0 F2 (mOrd (F 177) l 0) eF7 p1 p2 p3 eFP rfl (by omega) (by omega) (by omega) p5
  refine ⟨F1, c_rd0 d F2 H2 _ _ K, ?_, q2, ?_, q4⟩
  · intro c k h1 h2
    rw [q1 c k h1 h2, p4 c k h2 (fun h => absurd h h1), pe_ne (fun h => (h2 h.1).2.2 h.2), pe_ne (fun h => (h2 h.1).1 h.2)]
  · intro k hk
    omega
