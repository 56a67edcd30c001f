/-! a text is carried out, both ways -/
def SG (B : Nat) (A : Nat → Nat → Int32) (S : Nat → Int32) (i j : Nat) (x a b0 : Int32) : Prop :=
  (∃ e : Int32, (e ≤ (-1) ∧ (-5) ≤ e) ∧ (∀ (L : Nat) (g : Nat → Option Nat) (d : Nat), mCall (d + 4) yX6_obeyOrder MX6_obeyOrder [.ref 4, .int (nI i), .int (nI j)] (mHX L A g) (some (.int e)) (mHX L A g)) ∧ ∀ (N : Nat → Nat → Int32) (b : Int32), N 173 = S → (x = 103 → b = b0) → ∀ (L : Nat) (g : Nat → Option Nat) (d : Nat), mCall (d + 4) yX7_refuses MX7_refuses [.ref 172, .int x, .int a, .int b] (mHX L N g) (some (.int e)) (mHX L N g)) ∨
  ∃ (r : Int32) (A1 : Nat → Nat → Int32) (S1 : Nat → Int32) (n1 t1 : Nat), ¬ (r ≤ (-1) ∧ (-5) ≤ r) ∧ (∀ (L : Nat) (g : Nat → Option Nat) (d : Nat), mCall (d + 4) yX6_obeyOrder MX6_obeyOrder [.ref 4, .int (nI i), .int (nI j)] (mHX L A g) (some (.int r)) (mHX L A1 g)) ∧ (∀ (N : Nat → Nat → Int32) (b : Int32), N 173 = S → (x = 103 → b = b0) → ∀ (L : Nat) (g : Nat → Option Nat) (d : Nat), mCall (d + 4) yX7_refuses MX7_refuses [.ref 172, .int x, .int a, .int b] (mHX L N g) (some (.int 0)) (mHX L N g)) ∧ (∀ (N : Nat → Nat → Int32) (b : Int32), N 173 = S → (x = 103 → b = b0) → ∃ N1, N1 173 = S1 ∧ FrM N N1 ∧ ∀ (L : Nat) (g : Nat → Option Nat) (d : Nat), mCall (d + 4) yX7_does MX7_does [.ref 172, .int x, .int a, .int b] (mHX L N g) none (mHX L N1 g)) ∧ RR 5 n1 t1 A1 S1 ∧ VV n1 (B + 10) S1 ∧ FrA A A1
theorem sg_of_ag {B i j : Nat} {A : Nat → Nat → Int32} {S : Nat → Int32} {x a b0 : Int32} {yc : MethodName} {Mc : mM} {ca : List Value} {yr : MethodName} {Mr : mM} {ra : List Value} {yd : MethodName} {Md : mM} {da : List Value} (hag : AG B A (fun _ => S) yc Mc ca yr Mr ra yd Md da)
    (wc : ∀ (L : Nat) (g : Nat → Option Nat) (d : Nat) (r : Int32) (F1 : Nat → Nat → Int32), mCall (d + 3) yc Mc ca (mHX L A g) (some (.int r)) (mHX L F1 g) → mCall (d + 4) yX6_obeyOrder MX6_obeyOrder [.ref 4, .int (nI i), .int (nI j)] (mHX L A g) (some (.int r)) (mHX L F1 g))
    (wr : ∀ (b : Int32), (x = 103 → b = b0) → ∀ (L : Nat) (N : Nat → Nat → Int32) (g : Nat → Option Nat) (d : Nat) (r : Int32), mCall (d + 3) yr Mr ra (mHX L N g) (some (.int r)) (mHX L N g) → mCall (d + 4) yX7_refuses MX7_refuses [.ref 172, .int x, .int a, .int b] (mHX L N g) (some (.int r)) (mHX L N g))
    (wd : ∀ (b : Int32), (x = 103 → b = b0) → ∀ (L : Nat) (N : Nat → Nat → Int32) (g : Nat → Option Nat) (d : Nat) (r : Int32) (hp1 : mHp), mCall (d + 3) yd Md da (mHX L N g) (some (.int r)) hp1 → mCall (d + 4) yX7_does MX7_does [.ref 172, .int x, .int a, .int b] (mHX L N g) none hp1) : SG B A S i j x a b0 := by
  rcases hag with ⟨e, he, h1, h2⟩ | ⟨r, A1, S1, n1, t1, hr, h1, h2, h3, hR, hV, hA⟩
  · left
    exact ⟨e, he, fun L g d => wc L g d e A (h1 L g d), fun N b eN hb L g d => wr b hb L N g d e (h2 N eN L g d)⟩
  · right
    refine ⟨r, A1, S1, n1, t1, hr, fun L g d => wc L g d r A1 (h1 L g d), fun N b eN hb L g d => wr b hb L N g d 0 (h2 N eN L g d), ?_, hR, hV, hA⟩
    intro N b eN hb
    obtain ⟨N1, p1, p2, p3⟩ := h3 N eN
    exact ⟨N1, p1, p2, fun L g d => wd b hb L N g d r _ (p3 L g d)⟩
theorem sg_ord {B n t l i j : Nat} {A : Nat → Nat → Int32} {S P : Nat → Int32} (hB : B ≤ 1000000) (h3 : A 3 = mMB) (eP : A 171 = P) (hl : l ≤ 80) (hR : RR 5 n t A S) (hV : VV n B S) (ho : ordF P l i j) : SG B A S i j (P i) (mA P l i j) (mSg P l (i + 3) - 48) := by
  subst eP
  obtain ⟨hil, hij, hjl, -, ho⟩ := ho
  rcases ho with ⟨hg, hj, e1, e2⟩ | ⟨hx, e1⟩
  · rw [hg, ← e1, e2]
    refine sg_of_ag (ag_guest (M := fun _ => S) hR hV (A 171 (i + 1) - 48) (sNumL (A 171) 0 (i + 1) (j - i - 1))) (fun L g d r F1 H => c_o_g d i j (j - i - 1) (by omega) (by omega) hg _ (c_dig (d + 3) i j (by omega) (by omega) (by omega)) r _ H) ?_ ?_
    · intro b hb L N g d r H
      rw [hb rfl]
      exact c_rf_g d _ _ r H
    · intro b hb L N g d r hp1 H
      rw [hb rfl]
      exact c_do_g d _ _ r hp1 H
  · rw [← e1]
    rcases hx with h | h | h | h | h | h
    · rw [h]
      exact sg_of_ag (ag_pause (M := fun _ => S) hR hV _) (fun L g d r F1 H => c_o_p d i j (j - i - 1) (by omega) (by omega) h r _ H) (fun b _ L N g d r H => c_rf_p d _ _ r H) (fun b _ L N g d r hp1 H => c_do_p d _ _ r hp1 H)
    · rw [h]
      exact sg_of_ag (ag_close (M := fun _ => S) h3 hR hV _) (fun L g d r F1 H => c_o_e d i j (j - i - 1) (by omega) (by omega) h r _ H) (fun b _ L N g d r H => c_rf_e d _ _ r H) (fun b _ L N g d r hp1 H => c_do_e d _ _ r hp1 H)
    · rw [h]
      exact sg_of_ag (ag_leave (M := fun _ => S) hR hV _) (fun L g d r F1 H => c_o_x d i j (j - i - 1) (by omega) (by omega) h r _ H) (fun b _ L N g d r H => c_rf_x d _ _ r H) (fun b _ L N g d r hp1 H => c_do_x d _ _ r hp1 H)
    · rw [h]
      exact sg_of_ag (ag_word (M := fun _ => S) hB hR hV _) (fun L g d r F1 H => c_o_w d i j (j - i - 1) (by omega) (by omega) h r _ H) (fun b _ L N g d r H => c_rf_w d _ _ r H) (fun b _ L N g d r hp1 H => c_do_w d _ _ r hp1 H)
    · rw [h]
      exact sg_of_ag (ag_cough (M := fun _ => S) hR hV _) (fun L g d r F1 H => c_o_c d i j (j - i - 1) (by omega) (by omega) h r _ H) (fun b _ L N g d r H => c_rf_c d _ _ r H) (fun b _ L N g d r hp1 H => c_do_c d _ _ r hp1 H)
    · rw [h]
      exact sg_of_ag (ag_pass (M := fun _ => S) h3 hR hV _) (fun L g d r F1 H => c_o_t d i j (j - i - 1) (by omega) (by omega) h r _ H) (fun b _ L N g d r H => c_rf_t d _ _ r H) (fun b _ L N g d r hp1 H => c_do_t d _ _ r hp1 H)
/-- a row of orders, one behind the other, to the text's end -/
def Chn (P : Nat → Int32) (l : Nat) : List (Nat × Nat) → Nat → Prop
  | [], i => i = l + 1
  | o :: ls, i => o.1 = i ∧ ordF P l i o.2 ∧ (o.2 < l → P o.2 = 59) ∧ Chn P l ls (o.2 + 1)
theorem chn_of {P : Nat → Int32} {l : Nat} : ∀ (f i : Nat), i ≤ l → l < i + f → (mTl P l f i (mOrd P l i)).2 = none → Chn P l (mTl P l f i (mOrd P l i)).1 i := by
  intro f
  induction f with
  | zero =>
    intro i hi hf
    omega
  | succ f ih =>
    intro i hi hf h
    cases ho : (mOrd P l i).1 with
    | false =>
      simp only [mTl, ho, Bool.false_eq_true, if_false] at h
      cases h
    | true =>
      have hord := ord_is hi ho
      have h2 := hord.2.1
      have h3 := hord.2.2.1
      by_cases hj : (mOrd P l i).2 < l
      · by_cases h59 : P (mOrd P l i).2 = 59
        · simp only [mTl, ho, if_true, if_pos hj, if_pos h59] at h ⊢
          exact ⟨rfl, hord, fun _ => h59, ih _ (by omega) (by omega) h⟩
        · simp only [mTl, ho, if_true, if_pos hj, if_neg h59] at h
          cases h
      · simp only [mTl, ho, if_true, if_neg hj] at h ⊢
        exact ⟨rfl, hord, fun q => absurd q hj, by show _ = l + 1; omega⟩
theorem mTl_le {P : Nat → Int32} {l : Nat} : ∀ (f i : Nat), i ≤ l → l < i + f → ∀ v, (mTl P l f i (mOrd P l i)).2 = some v → v ≤ l := by
  intro f
  induction f with
  | zero =>
    intro i hi hf
    omega
  | succ f ih =>
    intro i hi hf v h
    have hat := mOrd_at (P := P) hi
    cases ho : (mOrd P l i).1 with
    | false =>
      simp only [mTl, ho, Bool.false_eq_true, if_false] at h
      cases h
      exact hat.2.1
    | true =>
      have h2 := hat.2.2 ho
      by_cases hj : (mOrd P l i).2 < l
      · by_cases h59 : P (mOrd P l i).2 = 59
        · simp only [mTl, ho, if_true, if_pos hj, if_pos h59] at h
          exact ih _ (by omega) (by omega) v h
        · simp only [mTl, ho, if_true, if_pos hj, if_neg h59] at h
          cases h
          exact hat.2.1
      · simp only [mTl, ho, if_true, if_neg hj] at h
        cases h
theorem chn_len {P : Nat → Int32} {l : Nat} : ∀ (ls : List (Nat × Nat)) (i : Nat), Chn P l ls i → i + 3 * ls.length ≤ l + 1 := by
  intro ls
  induction ls with
  | nil =>
    intro i h
    have h : i = l + 1 := h
    simp only [List.length_nil]
    omega
  | cons o ls ih =>
    intro i h
    have := ih _ h.2.2.2
    have := h.2.1.2.1
    simp only [List.length_cons]
    omega
theorem FrM_trans {A B C : Nat → Nat → Int32} (h1 : FrM A B) (h2 : FrM B C) : FrM A C := fun c hc => (h2 c hc).trans (h1 c hc)
theorem FrA_trans {A B C : Nat → Nat → Int32} (h1 : FrA A B) (h2 : FrA B C) : FrA A C := fun c hc => (h2 c hc).trans (h1 c hc)
theorem co_loop {L l : Nat} {g g2 : Nat → Option Nat} {P : Nat → Int32} (hl : l ≤ 80) : ∀ (ls : List (Nat × Nat)) (i q n t B : Nat) (A : Nat → Nat → Int32) (S : Nat → Int32), Chn P l ls i → q + ls.length ≤ 40 → A 171 = P → A 170 1 = nI l → A 3 = mMB → RR 5 n t A S → VV n B S → B + 10 * ls.length ≤ 1000000 →
    ∃ (r : Nat) (A1 : Nat → Nat → Int32) (S1 : Nat → Int32) (n1 t1 : Nat), r ≤ 40 ∧ (∀ (d t0 : Nat), (t0 = i ∨ t0 = i + 1) → mGo MX6_obeyOrders (d + 5) (6, [some (.ref 4), some (.int (nI q)), some (.int (nI i)), some (.int (nI t0))], [], mHX L A g) (some (.int (nI r)), mHX L A1 g)) ∧
      (∀ (d : Nat) (N : Nat → Nat → Int32), N 173 = S → N 172 11 = nI (q + ls.length) → (∀ k x y, ls[k]? = some (x, y) → rdR P l (N 178) (q + k) x y) → ∃ N1, N1 173 = S1 ∧ FrM N N1 ∧ mGo MX7_carryOut (d + 5) (28, [some (.ref 172), some (.int (nI q))], [], mHX L N g2) (some (.int (nI r)), mHX L N1 g2)) ∧
      RR 5 n1 t1 A1 S1 ∧ VV n1 (B + 10 * ls.length) S1 ∧ FrA A A1 := by
  intro ls
  induction ls with
  | nil =>
    intro i q n t B A S hc hq e171 el h3 hR hV hB
    have hc : i = l + 1 := hc
    refine ⟨q, A, S, n, t, hq, fun d t0 h0 => c_os_end d q i t0 l el hl (by omega) (by omega), ?_, hR, hV, FrA_rf⟩
    intro d N eN e11 hr
    exact ⟨N, eN, FrM_rf, lp_co_end d q (q + 0) hq e11 hq (Nat.le_refl _)⟩
  | cons o ls ih =>
    intro i q n t B A S hc hq e171 el h3 hR hV hB
    obtain ⟨oi, j⟩ := o
    obtain ⟨e0, ho, h59, hc⟩ := hc
    simp only at e0 ho h59 hc
    subst e0
    simp only [List.length_cons] at hq hB ⊢
    have hE : sEnd (A 171) oi (l - oi) = j := by rw [e171]; exact ho.2.2.2.1 h59
    have hil := ho.1
    have hn : ¬ P oi = 59 := by
      rcases ho.2.2.2.2 with h | ⟨h, -⟩
      · rw [h.1]
        decide
      · rcases h with h | h | h | h | h | h <;> (rw [h]; decide)
    have hE2 : ∀ t0, (t0 = oi ∨ t0 = oi + 1) → sEnd (A 171) t0 (l - t0) = j := by
      intro t0 h0
      rcases h0 with h0 | h0
      · rw [h0]
        exact hE
      · rw [h0, ← sE_go hil (by rw [e171]; exact hn)]
        exact hE
    have hj59 : j < l → A 171 j = 59 := by
      rw [e171]
      exact h59
    have hjl := ho.2.2.1
    rcases sg_ord (by omega) h3 e171 hl hR hV ho with ⟨e, he, c1, m1⟩ | ⟨r, A1, S1, n1, t1, hr, c1, m1, m2, hR1, hV1, hA1⟩
    · refine ⟨q, A, S, n, t, by omega, ?_, ?_, hR, VV_mono hV (Nat.le_add_right _ _), FrA_rf⟩
      · intro d t0 h0
        refine lp_os d q oi l el hl _ (l - t0) t0 (by omega) ?_
        rw [hE2 t0 h0]
        exact c_os_err d q oi j l el hl hjl hj59 e A (c1 L g d) he
      · intro d N eN e11 hrd
        have h0 := hrd 0 oi j rfl
        refine ⟨N, eN, FrM_rf, lp_co_ref d q (q + (ls.length + 1)) (by omega) e11 (by omega) (by omega) (P oi) (mA P l oi j) (N 178 (3 * q + 2)) (h0.1.trans (mSg_lt hil)) h0.2.1 rfl e ?_ (m1 N _ eN (fun z => h0.2.2 ((mSg_lt hil).trans z)) L g2 d)⟩
        intro z
        rw [z] at he
        exact absurd he (by decide)
    · obtain ⟨r2, A2, S2, n2, t2, hr40, c2, m3, hR2, hV2, hA2⟩ := ih (j + 1) (q + 1) n1 t1 (B + 10) A1 S1 hc (by omega) (by rw [hA1 171 (by omega)]; exact e171) (by rw [hA1 170 (by omega)]; exact el) (by rw [hA1 3 (by omega)]; exact h3) hR1 hV1 (by omega)
      refine ⟨r2, A2, S2, n2, t2, hr40, ?_, ?_, hR2, VV_mono hV2 (by omega), FrA_trans hA1 hA2⟩
      · intro d t0 h0
        refine lp_os d q oi l el hl _ (l - t0) t0 (by omega) ?_
        rw [hE2 t0 h0]
        exact c_os_ok d q oi j l el hl hjl hj59 r A1 (c1 L g d) hr _ (c2 d (j + 1) (Or.inl rfl))
      · intro d N eN e11 hrd
        have h0 := hrd 0 oi j rfl
        have hb : P oi = 103 → N 178 (3 * q + 2) = mSg P l (oi + 3) - 48 := fun z => h0.2.2 ((mSg_lt hil).trans z)
        obtain ⟨N1, a1, a2, a3⟩ := m2 N _ eN hb
        obtain ⟨N2, b1, b2, b3⟩ := m3 d N1 a1 (by rw [a2 172 (by decide), e11]; congr 1; omega) (fun k x y hk => by
          have := hrd (k + 1) x y hk
          rw [a2 178 (by decide), show q + 1 + k = q + (k + 1) by omega]
          exact this)
        exact ⟨N2, b1, FrM_trans a2 b2, lp_co_go d q (q + (ls.length + 1)) (by omega) e11 (by omega) (by omega) (P oi) (mA P l oi j) (N 178 (3 * q + 2)) (h0.1.trans (mSg_lt hil)) h0.2.1 rfl (m1 N _ eN hb L g2 d) N1 (a3 L g2 d) _ b3⟩
theorem oI_none {o : Option Nat} {l : Nat} (hl : l ≤ 80) (h : ∀ v, o = some v → v ≤ l) (e : oI o = (-6)) : o = none := by
  cases o with
  | none => rfl
  | some v =>
    have := h v rfl
    exact absurd e (m_ne6 (by omega))
theorem ok_carry {L d B : Nat} {X : Nat → Int32} (hB : B ≤ 900000) : OK L d B (B + 300) X yX6_carryOut MX6_carryOut [.ref 4] yX7_carryOut MX7_carryOut [.ref 172] := by
  intro F g ⟨π, k, l, hI⟩
  have hI2 := hI
  obtain ⟨hg, hH, hS, hP, hC, hR⟩ := hI2
  obtain ⟨l80, p0, p7, pq⟩ := hP
  have k6 := hH.2.2.1
  have pk7 := hH.1 k (by omega)
  have cp : ∀ c, c < 23 ∨ 135 ≤ c → xCopyR F (23 + 16 * π k) 5 c = F c := fun c hc => xCopyR_out (by omega)
  by_cases hf : sFaultL (F 171) 0 0 l = (-6)
  · have ef : oI (mPar (F 177) l).2 = (-6) := by rw [← text_eq, ← pq]; exact hf
    have en : (mPar (F 177) l).2 = none := oI_none l80 (fun v hv => mTl_le (l + 1) 0 (Nat.zero_le l) (by omega) v hv) ef
    have hch : Chn (F 177) l (mPar (F 177) l).1 0 := chn_of (l + 1) 0 (Nat.zero_le l) (by omega) en
    have hlen := chn_len _ _ hch
    have hR2 : RV B 5 (xCopyR F (23 + 16 * π k) 5) (F 173) := RV_rows (Nat.le_refl _) (fun c h1 h2 => cp c (by omega)) (fun _ _ => rfl) hR
    obtain ⟨n, t, hRR, hVV, y, hy, ey⟩ := hR2
    obtain ⟨r, A1, S1, n1, t1, r40, hcl, hmo, hR1, hV1, hA⟩ := co_loop (L := L) (g := g) (g2 := xKG g π k) (P := F 177) l80 (mPar (F 177) l).1 0 0 n t B (xCopyR F (23 + 16 * π k) 5) (F 173) hch (by omega) (by rw [cp 171 (by omega)]; exact pq) (by rw [cp 170 (by omega)]; exact p0) (by rw [cp 3 (by omega)]; exact hC.2.2.2.1) hRR hVV (by omega)
    have a21 : A1 21 1 = nI k := by rw [hA 21 (by omega), cp 21 (by omega)]; exact hH.2.2.2.1
    have b21 : pe A1 170 1 0 21 1 = nI k := by rw [pe_row (by decide)]; exact a21
    have a2 : ∀ c, 171 ≤ c → xKF (pe A1 170 1 0) k c = F c := fun c hc => by rw [xKF_o (by omega), pe_row (by omega), hA c (by omega), cp c (by omega)]
    obtain ⟨F1, H, q1, q2, q3, q4⟩ := e_reads (L := L) (g := xKG g π k) (F := xKF (pe A1 170 1 0) k) (d + 2) l (by rw [a2 172 (by decide)]; exact p7) l80
    rw [a2 177 (by decide)] at H q2 q4
    rw [ef] at H
    have f1 : ∀ c j, c ≠ 178 → (c = 172 → j ≠ 8 ∧ j ≠ 9 ∧ j ≠ 11) → F1 c j = xKF (pe A1 170 1 0) k c j := q1
    have f173 : F1 173 = F 173 := funext (fun j => (f1 173 j (by decide) (fun q => absurd q (by decide))).trans (congrFun (a2 173 (by decide)) j))
    have f174 : F1 174 = F 174 := funext (fun j => (f1 174 j (by decide) (fun q => absurd q (by decide))).trans (congrFun (a2 174 (by decide)) j))
    obtain ⟨N1, e1, hM, hgo⟩ := hmo (d + 2) (pe (xRec F1 k) 172 7 0) (by rw [pe_row (by decide), xRec_row (by decide) (by decide)]; exact f173) (by rw [pe_ne (by decide), xRec_o (by decide) (by decide)]; exact q2) (fun z x y hz => by
      rw [pe_row (by decide), xRec_row (by decide) (by decide)]
      exact q4 z x y hz)
    have row : ∀ c, c ≠ 170 → c ≠ 172 → c ≠ 173 → c ≠ 174 → c ≠ 178 → c ≠ 21 → N1 c = A1 c := fun c h0 h1 h2 h3 h4 h5 => by
      rw [hM c h2, pe_row h1, xRec_row h3 h1]
      funext j
      rw [f1 c j h4 (fun q => absurd q h1), xKF_o h5, pe_row h0]
    have r2 : ∀ c, c ≠ 170 → c ≠ 172 → c ≠ 173 → c ≠ 174 → c ≠ 178 → c ≠ 21 → (c < 5 ∨ 21 ≤ c) → N1 c = xCopyR F (23 + 16 * π k) 5 c := fun c h0 h1 h2 h3 h4 h5 h6 => (row c h0 h1 h2 h3 h4 h5).trans (hA c (by omega))
    have r3 : ∀ c, c ≠ 170 → c ≠ 172 → c ≠ 173 → c ≠ 174 → c ≠ 178 → c ≠ 21 → (c < 5 ∨ 135 ≤ c) → N1 c = F c := fun c h0 h1 h2 h3 h4 h5 h6 => (r2 c h0 h1 h2 h3 h4 h5 (by omega)).trans (cp c (by omega))
    refine ⟨nI r, xKF (pe A1 170 1 0) k, xKG g π k, N1, by rw [xKF_o (by decide), pe_row (by decide), hA 0 (by omega), cp 0 (by omega)]; exact hC.1, ?_, ?_, kP π k, kN k, 0, kP_g hg, ?_, ?_, ?_, ?_, ?_⟩
    · exact c_co_ok (d + 1) l p0 l80 π hg hH.1 k (by omega) hH.2.2.2.1 hf (nI r) A1 a21 (c_os (d + 1) (nI r) _ (hcl (d + 1) 1 (Or.inr rfl)))
    · exact c_mco_ok (d + 2) (by rw [a2 172 (by decide)]; exact hC.2.2.2.2) F1 H k k6 (by rw [f1 172 3 (by decide) (fun _ => by decide), a2 172 (by decide)]; exact hH.2.2.2.2.1) (nI r) _ hgo
    · refine IVH_done (A := F1) (Nat.le_add_right _ _) hH hR (fun c h1 h2 => r2 c (by omega) (by omega) (by omega) (by omega) (by omega) (by omega) (by omega)) ?_ f174 f173 ?_ ?_
      · rw [hM 174 (by decide), pe_row (by decide)]
      · rw [hM 21 (by decide), pe_row (by decide), xRec_row (by decide) (by decide), f1 21 1 (by decide) (fun q => absurd q (by decide))]
        exact xKF_21 k6 b21
      · rw [hM 172 (by decide), pe_ne (by decide)]
        exact xRec_3
    · exact IVS_fr (Nat.le_add_right _ _) (fun c h1 h2 => r3 c (by omega) (by omega) (by omega) (by omega) (by omega) (by omega) (by omega)) (r3 175 (by decide) (by decide) (by decide) (by decide) (by decide) (by decide) (by decide)) (r3 176 (by decide) (by decide) (by decide) (by decide) (by decide) (by decide) (by decide)) hS
    · refine ⟨by decide, ?_, ?_, ?_⟩
      · rw [hM 170 (by decide), pe_row (by decide), xRec_row (by decide) (by decide), f1 170 1 (by decide) (fun q => absurd q (by decide)), xKF_o (by decide), pe_eq]
        rfl
      · rw [hM 172 (by decide), pe_eq]
        rfl
      · rw [r3 171 (by decide) (by decide) (by decide) (by decide) (by decide) (by decide) (by decide), r3 177 (by decide) (by decide) (by decide) (by decide) (by decide) (by decide) (by decide)]
        exact pq
    · refine IVC_fr (fun c hc => r3 c (by omega) (by omega) (by omega) (by omega) (by omega) (by omega) (by omega)) ?_ hC
      rw [hM 172 (by decide), pe_ne (by decide), xRec_o (by decide) (by decide), f1 172 0 (by decide) (fun _ => by decide), a2 172 (by decide)]
    · rw [e1]
      refine RV_rows (Nat.le_refl _) (F := A1) (S := S1) (fun c h1 h2 => row c (by omega) (by omega) (by omega) (by omega) (by omega) (by omega)) (fun _ _ => rfl) ⟨n1, t1, hR1, VV_mono hV1 (by omega), y, hy, ?_⟩
      rw [RR_s hR1 (by decide), hA 6 (by omega)]
      exact (RR_s hRR (by decide)).symm.trans ey
  · have ef : oI (mPar (F 177) l).2 = sFaultL (F 171) 0 0 l := by rw [← text_eq, pq]
    obtain ⟨F1, H, q1, q2, q3, q4⟩ := e_reads (L := L) (g := g) (F := F) (d + 2) l p7 l80
    rw [ef] at H
    refine ⟨-3, F, g, F1, hC.1, c_co_bad (d + 1) l p0 l80 hf, c_mco_bad (d + 2) hC.2.2.2.2 _ hf F1 H, ?_⟩
    refine IV_mono (Nat.le_add_right B 300) ⟨π, k, l, iv_pad hI ?_ ⟨l80, ?_, ?_, ?_⟩⟩
    · intro c j h1 h2 h3 h4 h5
      exact q1 c j h4 (fun e => by omega)
    · rw [q1 170 1 (by decide) (fun e => absurd e (by decide))]
      exact p0
    · rw [q1 172 7 (by decide) (fun _ => by decide)]
      exact p7
    · funext j
      rw [q1 171 j (by decide) (fun e => absurd e (by decide)), q1 177 j (by decide) (fun e => absurd e (by decide))]
      exact congrFun pq j
