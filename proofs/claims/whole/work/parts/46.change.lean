/-! a public change, both ways -/
def PC (B : Nat) (A M : Nat → Nat → Int32) (yc : MethodName) (Mc : mM) (ca : List Value) (ym : MethodName) (Mm : mM) (ma : List Value) : Prop :=
  (∃ e : Int32, (e ≤ (-1) ∧ (-5) ≤ e) ∧ (∀ (L : Nat) (g : Nat → Option Nat) (d : Nat), mCall (d + 3) yc Mc ca (mHX L A g) (some (.int e)) (mHX L A g)) ∧ ∀ (N : Nat → Nat → Int32), N 173 = M 173 → N 172 0 = 0 → ∀ (L : Nat) (g : Nat → Option Nat) (d : Nat), mCall (d + 4) ym Mm ma (mHX L N g) (some (.int e)) (mHX L N g)) ∨
  ∃ (r : Int32) (A1 : Nat → Nat → Int32) (S1 : Nat → Int32), ¬ (r ≤ (-1) ∧ (-5) ≤ r) ∧ (∀ (L : Nat) (g : Nat → Option Nat) (d : Nat), mCall (d + 3) yc Mc ca (mHX L A g) (some (.int r)) (mHX L A1 g)) ∧ (∀ (N : Nat → Nat → Int32), N 173 = M 173 → N 172 0 = 0 → ∀ q, q ≤ 6 → N 172 3 = nI q → ∃ N1, N1 173 = S1 ∧ FrM (xRec N q) N1 ∧ ∀ (L : Nat) (g : Nat → Option Nat) (d : Nat), mCall (d + 4) ym Mm ma (mHX L N g) (some (.int r)) (mHX L N1 g)) ∧ RV (B + 10) 5 A1 S1 ∧ FrB A A1
def CWr (yc : MethodName) (Mc : mM) (ca : List Value) (yx : MethodName) (Mx : mM) (ax : List Value) : Prop :=
  ∀ (L : Nat) (F : Nat → Nat → Int32) (g : Nat → Option Nat) (d : Nat) (π : Nat → Nat), (∀ i, i < 7 → g i = some (23 + 16 * π i)) → (∀ i, i < 7 → π i < 7) → ∀ k, k < 7 → F 21 1 = nI k → ∀ (r : Int32) (F1 : Nat → Nat → Int32) (hp2 : mHp), mCall (d + 3) yc Mc ca (mHX L (xCopyR F (23 + 16 * π k) 5) g) (some (.int r)) (mHX L F1 g) → mCall (d + 3) yX6_keptUnlessError MX6_keptUnlessError [.ref 4, .int r] (mHX L F1 g) (some (.int r)) hp2 → mCall (d + 4) yx Mx ax (mHX L F g) (some (.int r)) hp2
/-- a public call of both: the same answer, and all holds again -/
def OK (L d B B2 : Nat) (X : Nat → Int32) (yx : MethodName) (Mx : mM) (ax : List Value) (ym : MethodName) (Mm : mM) (ma : List Value) : Prop :=
  ∀ (F : Nat → Nat → Int32) (g : Nat → Option Nat), IVx B X F g → ∃ (r : Int32) (F1 : Nat → Nat → Int32) (g1 : Nat → Option Nat) (F2 : Nat → Nat → Int32), F1 0 = X ∧ mCall (d + 7) yx Mx ax (mHX L F g) (some (.int r)) (mHX L F1 g1) ∧ mCall (d + 7) ym Mm ma (mHX L F1 g1) (some (.int r)) (mHX L F2 g1) ∧ IVx B2 X F2 g1
theorem pc_of_ag {B : Nat} {A M : Nat → Nat → Int32} {yc : MethodName} {Mc : mM} {ca : List Value} {yr : MethodName} {Mr : mM} {ra : List Value} {yd : MethodName} {Md : mM} {da : List Value} {ym : MethodName} {Mm : mM} {ma : List Value} (hag : AG B A M yc Mc ca yr Mr ra yd Md da) (hL : ∃ y, y ≤ 9 ∧ A 6 2 = nI y)
    (wr : ∀ (L : Nat) (F : Nat → Nat → Int32) (g : Nat → Option Nat) (d : Nat), F 172 0 = 0 → ∀ r : Int32, ¬ r = 0 → mCall (d + 3) yr Mr ra (mHX L F g) (some (.int r)) (mHX L F g) → mCall (d + 4) ym Mm ma (mHX L F g) (some (.int r)) (mHX L F g))
    (wk : ∀ (L : Nat) (F : Nat → Nat → Int32) (g : Nat → Option Nat) (d : Nat), F 172 0 = 0 → ∀ q, q ≤ 6 → F 172 3 = nI q → ∀ (r : Int32) (hp1 : mHp), mCall (d + 3) yr Mr ra (mHX L F g) (some (.int 0)) (mHX L F g) → mCall (d + 3) yd Md da (mHX L (xRec F q) g) (some (.int r)) hp1 → mCall (d + 4) ym Mm ma (mHX L F g) (some (.int r)) hp1) : PC B A M yc Mc ca ym Mm ma := by
  rcases hag with ⟨e, he, h1, h2⟩ | ⟨r, A1, S1, n1, t1, hr, h1, h2, h3, hR, hV, hA⟩
  · left
    refine ⟨e, he, h1, fun N eN n0 L g d => wr L N g d n0 e (fun z => ?_) (h2 N eN L g d)⟩
    rw [z] at he
    exact absurd he (by decide)
  · right
    refine ⟨r, A1, S1, hr, h1, ?_, ⟨n1, t1, hR, hV, ?_⟩, fun c hc => hA c (by omega)⟩
    rotate_left
    · obtain ⟨y, hy, ey⟩ := hL
      exact ⟨y, hy, by rw [RR_s hR (by decide), hA 6 (by omega)]; exact ey⟩
    intro N eN n0 q hq n3
    obtain ⟨N1, a, b, c⟩ := h3 (xRec N q) (by rw [xRec_row (by decide) (by decide)]; exact eN)
    exact ⟨N1, a, b, fun L g d => wk L N g d n0 q hq n3 r _ (h2 N eN L g d) (c L g d)⟩
theorem ok_change {L d B : Nat} {X : Nat → Int32} {yc : MethodName} {Mc : mM} {ca : List Value} {yx : MethodName} {Mx : mM} {ax : List Value} {ym : MethodName} {Mm : mM} {ma : List Value} (hCW : CWr yc Mc ca yx Mx ax) (hPC : ∀ (A M : Nat → Nat → Int32), A 2 = mHS → A 3 = mMB → ∀ n t, RR 5 n t A (M 173) → VV n B (M 173) → (∃ y, y ≤ 9 ∧ A 6 2 = nI y) → PC B A M yc Mc ca ym Mm ma) : OK L d B (B + 10) X yx Mx ax ym Mm ma := by
  intro F g ⟨π, k, l, hI⟩
  have hI2 := hI
  obtain ⟨hg, hH, hS, hP, hC, hR⟩ := hI2
  have k6 := hH.2.2.1
  have pk7 := hH.1 k (by omega)
  have cp : ∀ c, c < 23 ∨ 135 ≤ c → xCopyR F (23 + 16 * π k) 5 c = F c := fun c hc => xCopyR_out (by omega)
  have hR2 : RV B 5 (xCopyR F (23 + 16 * π k) 5) (F 173) := RV_rows (Nat.le_refl _) (fun c h1 h2 => cp c (by omega)) (fun _ _ => rfl) hR
  obtain ⟨n, t, hRR, hVV, y, hy, ey⟩ := hR2
  rcases hPC (xCopyR F (23 + 16 * π k) 5) F (by rw [cp 2 (by omega)]; exact hC.2.2.1) (by rw [cp 3 (by omega)]; exact hC.2.2.2.1) n t hRR hVV ⟨y, hy, (RR_s hRR (by decide)).symm.trans ey⟩ with ⟨e, he, h1, h2⟩ | ⟨r, A1, S1, hr, h1, h2, hR1, hA⟩
  · refine ⟨e, xCopyR F (23 + 16 * π k) 5, g, xCopyR F (23 + 16 * π k) 5, by rw [cp 0 (by omega)]; exact hC.1, ?_, ?_, ⟨π, k, l, IV_ref (Nat.le_add_right _ _) hI⟩⟩
    · exact hCW L F g (d + 3) π hg hH.1 k (by omega) hH.2.2.2.1 e _ _ (h1 L g (d + 3)) (c_kept_err (d + 5) e he)
    · exact h2 _ (cp 173 (by omega)) (by rw [cp 172 (by omega)]; exact hC.2.2.2.2) L g (d + 3)
  · have a21 : A1 21 1 = nI k := by rw [hA 21 (by omega), cp 21 (by omega)]; exact hH.2.2.2.1
    have a2 : ∀ c, 172 ≤ c → xKF A1 k c = F c := fun c hc => by rw [xKF_o (by omega), hA c (by omega), cp c (by omega)]
    obtain ⟨N1, e1, hM, hc⟩ := h2 (xKF A1 k) (a2 173 (by decide)) (by rw [a2 172 (by decide)]; exact hC.2.2.2.2) k k6 (by rw [a2 172 (by decide)]; exact hH.2.2.2.2.1)
    refine ⟨r, xKF A1 k, xKG g π k, N1, by rw [xKF_o (by decide), hA 0 (by omega), cp 0 (by omega)]; exact hC.1, ?_, ?_, ⟨_, _, _, IV_done (Nat.le_add_right _ _) hI hA hM (by rw [e1]; exact hR1)⟩⟩
    · exact hCW L F g (d + 3) π hg hH.1 k (by omega) hH.2.2.2.1 r _ _ (h1 L g (d + 3)) (c_kept_ok (d + 5) π hg hH.1 k (by omega) a21 r hr)
    · exact hc L (xKG g π k) (d + 3)
theorem ok_guest {L d B : Nat} {X : Nat → Int32} (x v : Int32) : OK L d B (B + 10) X yX6_guest MX6_guest [.ref 4, .int x, .int v] yX7_guest MX7_guest [.ref 172, .int x, .int v] :=
  ok_change (fun _ _ _ d π hg hπ k hk ek r F1 hp2 H HK => c_x_guest d π hg hπ k hk ek x v r F1 hp2 H HK) (fun A M _ _ n t hR hV hL => pc_of_ag (ag_guest hR hV x v) hL (fun _ _ _ d h0 r hr H => c_mguest_r d h0 x v r hr H) (fun _ _ _ d h0 q hq e3 r hp1 H H2 => c_mguest_k d h0 x v q hq e3 r hp1 H H2))
theorem ok_leave {L d B : Nat} {X : Nat → Int32} (x : Int32) : OK L d B (B + 10) X yX6_leave MX6_leave [.ref 4, .int x] yX7_leave MX7_leave [.ref 172, .int x] :=
  ok_change (fun _ _ _ d π hg hπ k hk ek r F1 hp2 H HK => c_x_leave d π hg hπ k hk ek x r F1 hp2 H HK) (fun A M _ _ n t hR hV hL => pc_of_ag (ag_leave hR hV x) hL (fun _ _ _ d h0 r hr H => c_mleave_r d h0 x r hr H) (fun _ _ _ d h0 q hq e3 r hp1 H H2 => c_mleave_k d h0 x q hq e3 r hp1 H H2))
theorem ok_pause {L d B : Nat} {X : Nat → Int32} (x : Int32) : OK L d B (B + 10) X yX6_pause MX6_pause [.ref 4, .int x] yX7_pause MX7_pause [.ref 172, .int x] :=
  ok_change (fun _ _ _ d π hg hπ k hk ek r F1 hp2 H HK => c_x_pause d π hg hπ k hk ek x r F1 hp2 H HK) (fun A M _ _ n t hR hV hL => pc_of_ag (ag_pause hR hV x) hL (fun _ _ _ d h0 r hr H => c_mpause_r d h0 x r hr H) (fun _ _ _ d h0 q hq e3 r hp1 H H2 => c_mpause_k d h0 x q hq e3 r hp1 H H2))
theorem ok_close {L d B : Nat} {X : Nat → Int32} (x : Int32) : OK L d B (B + 10) X yX6_close MX6_close [.ref 4, .int x] yX7_close MX7_close [.ref 172, .int x] :=
  ok_change (fun _ _ _ d π hg hπ k hk ek r F1 hp2 H HK => c_x_close d π hg hπ k hk ek x r F1 hp2 H HK) (fun A M _ h3 n t hR hV hL => pc_of_ag (ag_close h3 hR hV x) hL (fun _ _ _ d h0 r hr H => c_mclose_r d h0 x r hr H) (fun _ _ _ d h0 q hq e3 r hp1 H H2 => c_mclose_k d h0 x q hq e3 r hp1 H H2))
theorem ok_word {L d B : Nat} {X : Nat → Int32} (hB : B ≤ 1000000) (x : Int32) : OK L d B (B + 10) X yX6_word MX6_word [.ref 4, .int x] yX7_word MX7_word [.ref 172, .int x] :=
  ok_change (fun _ _ _ d π hg hπ k hk ek r F1 hp2 H HK => c_x_word d π hg hπ k hk ek x r F1 hp2 H HK) (fun A M _ _ n t hR hV hL => pc_of_ag (ag_word hB hR hV x) hL (fun _ _ _ d h0 r hr H => c_mword_r d h0 x r hr H) (fun _ _ _ d h0 q hq e3 r hp1 H H2 => c_mword_k d h0 x q hq e3 r hp1 H H2))
theorem ok_cough {L d B : Nat} {X : Nat → Int32} (x : Int32) : OK L d B (B + 10) X yX6_cough MX6_cough [.ref 4, .int x] yX7_cough MX7_cough [.ref 172, .int x] :=
  ok_change (fun _ _ _ d π hg hπ k hk ek r F1 hp2 H HK => c_x_cough d π hg hπ k hk ek x r F1 hp2 H HK) (fun A M _ _ n t hR hV hL => pc_of_ag (ag_cough hR hV x) hL (fun _ _ _ d h0 r hr H => c_mcough_r d h0 x r hr H) (fun _ _ _ d h0 q hq e3 r hp1 H H2 => c_mcough_k d h0 x q hq e3 r hp1 H H2))
theorem ok_pass {L d B : Nat} {X : Nat → Int32} (x : Int32) : OK L d B (B + 10) X yX6_pass MX6_pass [.ref 4, .int x] yX7_pass MX7_pass [.ref 172, .int x] :=
  ok_change (fun _ _ _ d π hg hπ k hk ek r F1 hp2 H HK => c_x_pass d π hg hπ k hk ek x r F1 hp2 H HK) (fun A M _ h3 n t hR hV hL => pc_of_ag (ag_pass h3 hR hV x) hL (fun _ _ _ d h0 r hr H => c_mpass_r d h0 x r hr H) (fun _ _ _ d h0 q hq e3 r hp1 H H2 => c_mpass_k d h0 x q hq e3 r hp1 H H2))
theorem set_i {x : Int32} : (0 ≤ x ∧ x < 4) ↔ (0 ≤ x ∧ x ≤ 3) := by
  rw [i_le, i_le, i_lt, i_0, show (4 : Int32).toInt = 4 from by decide, show (3 : Int32).toInt = 3 from by decide]
  omega
theorem pc_rng {B n t j : Nat} {A M : Nat → Nat → Int32} (hR : RR 5 n t A (M 173)) (hV : VV n B (M 173)) (hL : ∃ y, y ≤ 9 ∧ A 6 2 = nI y) (hj : j < 4) : ∃ y, y ≤ 1000 ∧ M 173 j = nI y := by
  obtain ⟨a, b, tm, v1, v2, v3, v4, v5, v6, v7, v8, v9, v10, v11, ⟨sh, v12, v12'⟩, v13⟩ := hV
  obtain ⟨y, hy, ey⟩ := hL
  rcases (by omega : j = 0 ∨ j = 1 ∨ j = 2 ∨ j = 3) with rfl | rfl | rfl | rfl
  · exact ⟨a, by omega, v1⟩
  · exact ⟨b, by omega, v2⟩
  · exact ⟨y, by omega, (RR_s hR (by decide)).trans ey⟩
  · exact ⟨sh, by omega, v12'⟩
theorem pc_set {B n t : Nat} {A M : Nat → Nat → Int32} (h2 : A 2 = mHS) (hR : RR 5 n t A (M 173)) (hV : VV n B (M 173)) (hL : ∃ y, y ≤ 9 ∧ A 6 2 = nI y) (x v : Int32) : PC B A M yX4_changeSetting MX4_changeSetting [.ref 5, .int x, .int v] yX7_set MX7_set [.ref 172, .int x, .int v] := by
  by_cases hx : 0 ≤ x ∧ x < 4
  · obtain ⟨j, hj, e⟩ := nI_of2 (x := x) (M := 3) (n := 3) (by decide) (Int32.not_lt.mpr hx.1) (set_i.mp hx).2
    subst e
    have hj4 : j < 4 := by omega
    by_cases hv : 1 ≤ v ∧ v ≤ mHS j
    · right
      have es : M 173 j = A 6 j := RR_s hR hj4
      have hne : ¬ (A 6 j ≤ (-1) ∧ (-5) ≤ A 6 j) := by
        obtain ⟨y, hy, ey⟩ := pc_rng hR hV hL hj4
        rw [← es, ey]
        exact err_n (by omega)
      refine ⟨A 6 j, pe A 6 j v, pe M 173 j v 173, hne, fun L g d => c_set_ok (d + 3) j hj4 v h2 hv.1 hv.2, ?_, ⟨n, t, RR_set hR hj4 v, VV_mono (VV_set hV hj4 hv.1 hv.2) (Nat.le_add_right _ _), ?_⟩, fun c hc => pe_row (by omega)⟩
      rotate_left
      · by_cases j2 : j = 2
        · subst j2
          obtain ⟨x, x1, ⟨x20, x9⟩, ex⟩ := set_n hj4 hv.1 hv.2
          exact ⟨x, x9 (by decide), (pe_eq _ _ _ _).trans ex⟩
        · obtain ⟨y, hy, ey⟩ := hL
          exact ⟨y, hy, by rw [m_row (by omega)]; exact (RR_s hR (by decide)).trans ey⟩
      intro N eN n0 q hq n3
      refine ⟨pe (xRec N q) 173 j v, pe_cg (by rw [xRec_row (by decide) (by decide)]; exact eN) rfl, FrM_pe FrM_rf, ?_⟩
      intro L g d
      rw [← es, ← eN]
      exact c_ms_ok d n0 q hq n3 j hj4 v hv
    · left
      exact ⟨-2, by decide, fun L g d => c_set_bad (d + 3) j hj4 v h2 hv, fun N eN n0 L g d => c_ms_bad d n0 j hj4 v hv⟩
  · left
    exact ⟨-2, by decide, fun L g d => c_set_no (d + 3) x v hx, fun N eN n0 L g d => c_ms_no d n0 x v (fun z => hx (set_i.mpr z))⟩
theorem ok_set {L d B : Nat} {X : Nat → Int32} (x v : Int32) : OK L d B (B + 10) X yX6_set MX6_set [.ref 4, .int x, .int v] yX7_set MX7_set [.ref 172, .int x, .int v] :=
  ok_change (fun _ _ _ d π hg hπ k hk ek r F1 hp2 H HK => c_x_set d π hg hπ k hk ek x v r F1 hp2 H HK) (fun A M h2 _ n t hR hV hL => pc_set h2 hR hV hL x v)
