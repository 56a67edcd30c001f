/-! the relation between a room of the class and the reference's row of ints -/
def RR (i n t : Nat) (A : Nat → Nat → Int32) (S : Nat → Int32) : Prop :=
  (∀ j, j < 4 → S j = A (i + 1) j) ∧ S 4 = A i 0 ∧ (S 5 = nI n ∧ A (i + 2) 0 = nI n ∧ n ≤ 10) ∧ (∀ h, h < 3 → S (6 + h) = A (i + 12) h) ∧
  (S 9 = nI t ∧ A (i + 9) 4 = nI t ∧ t ≤ 10) ∧ (∀ k, k < 3 → S (10 + k) = A (i + 14) k) ∧ (∀ k, k < 3 → S (13 + k) = A (i + 15) k) ∧
  (∀ m, 1 ≤ m → m ≤ 11 → S (16 + 2 * (m - 1)) = A (i + 10) m ∧ S (16 + 2 * (m - 1) + 1) = A (i + 11) m) ∧
  (∀ r w, r < t → w < 5 → S (38 + 5 * (t - 1 - r) + w) = A (i + 13) (5 * r + w)) ∧ (∀ k w, k < 10 → w < 6 → S (88 + 6 * k + w) = A (i + 3 + w) k)
def VV (n B : Nat) (S : Nat → Int32) : Prop :=
  ∃ a b tm, S 0 = nI a ∧ S 1 = nI b ∧ 1 ≤ a ∧ a ≤ 20 ∧ 1 ≤ b ∧ b ≤ 20 ∧ S 4 = nI tm ∧ tm ≤ 9999 ∧ (∀ k, k < n → mC S 0 k = (-6) ∨ ∃ u, u < 3 ∧ mC S 0 k = nI u) ∧ (∃ q, nR (mC S 1) q n) ∧ (∀ u, u < 3 → S (10 + u) = (-6) ∨ ∃ p, p ≤ tm ∧ S (10 + u) = nI p) ∧ (∃ sh, sh ≤ 9 ∧ S 3 = nI sh) ∧ ∃ f : Nat → Nat, ∀ k, k < 10 → mC S 2 k = nI (f k) ∧ f k ≤ B
theorem VV_mono {n B B2 : Nat} {S : Nat → Int32} (h : VV n B S) (hB : B ≤ B2) : VV n B2 S := by
  obtain ⟨a, b, tm, v1, v2, v3, v4, v5, v6, v7, v8, v9, v10, v11, v12, f, v13⟩ := h
  exact ⟨a, b, tm, v1, v2, v3, v4, v5, v6, v7, v8, v9, v10, v11, v12, f, fun k hk => ⟨(v13 k hk).1, Nat.le_trans (v13 k hk).2 hB⟩⟩
def FrA (A A1 : Nat → Nat → Int32) : Prop := ∀ c, c < 5 ∨ 21 ≤ c ∨ c = 6 → A1 c = A c
def FrB (A A1 : Nat → Nat → Int32) : Prop := ∀ c, c < 5 ∨ 21 ≤ c → A1 c = A c
def FrM (M M1 : Nat → Nat → Int32) : Prop := ∀ c, c ≠ 173 → M1 c = M c
/-- an order of the room, in both: refused alike, or done alike; the reference's at every memory with M's row 173 -/
def AG (B : Nat) (A M : Nat → Nat → Int32) (yc : MethodName) (Mc : mM) (ca : List Value) (yr : MethodName) (Mr : mM) (ra : List Value) (yd : MethodName) (Md : mM) (da : List Value) : Prop :=
  (∃ e : Int32, (e ≤ (-1) ∧ (-5) ≤ e) ∧ (∀ (L : Nat) (g : Nat → Option Nat) (d : Nat), mCall (d + 3) yc Mc ca (mHX L A g) (some (.int e)) (mHX L A g)) ∧ ∀ (N : Nat → Nat → Int32), N 173 = M 173 → ∀ (L : Nat) (g : Nat → Option Nat) (d : Nat), mCall (d + 3) yr Mr ra (mHX L N g) (some (.int e)) (mHX L N g)) ∨
  ∃ (r : Int32) (A1 : Nat → Nat → Int32) (S1 : Nat → Int32) (n1 t1 : Nat), ¬ (r ≤ (-1) ∧ (-5) ≤ r) ∧ (∀ (L : Nat) (g : Nat → Option Nat) (d : Nat), mCall (d + 3) yc Mc ca (mHX L A g) (some (.int r)) (mHX L A1 g)) ∧ (∀ (N : Nat → Nat → Int32), N 173 = M 173 → ∀ (L : Nat) (g : Nat → Option Nat) (d : Nat), mCall (d + 3) yr Mr ra (mHX L N g) (some (.int 0)) (mHX L N g)) ∧ (∀ (N : Nat → Nat → Int32), N 173 = M 173 → ∃ N1, N1 173 = S1 ∧ FrM N N1 ∧ ∀ (L : Nat) (g : Nat → Option Nat) (d : Nat), mCall (d + 3) yd Md da (mHX L N g) (some (.int r)) (mHX L N1 g)) ∧ RR 5 n1 t1 A1 S1 ∧ VV n1 (B + 10) S1 ∧ FrA A A1
theorem pe_cg {N M : Nat → Nat → Int32} {k : Nat} {v w : Int32} (e : N 173 = M 173) (ev : v = w) : pe N 173 k v 173 = pe M 173 k w 173 := by rw [pe_self, pe_self, e, ev]
theorem cp_cg {N M : Nat → Nat → Int32} {a b n : Nat} (e : N 173 = M 173) : cpB N 173 173 a b n 173 = cpB M 173 173 a b n 173 := by
  unfold cpB
  rw [va_up_self, va_up_self, e]
theorem yCm_cg {N M : Nat → Nat → Int32} {n : Nat} {x v : Int32} (e : N 173 = M 173) : yComes N n x v 173 = yComes M n x v 173 := by
  unfold yComes
  have e3 := pe_cg (k := 88 + 6 * n + 1) (v := v) (w := v) (pe_cg (k := 88 + 6 * n + 0) (v := x) (w := x) (pe_cg (k := 5) e (show N 173 5 + 1 = M 173 5 + 1 by rw [e])) rfl) rfl
  exact pe_cg e3 (congrFun e3 2)
theorem yComes_r {M : Nat → Nat → Int32} {n : Nat} {x v : Int32} : FrM M (yComes M n x v) := by
  intro c hc
  unfold yComes
  repeat (rw [pe_row hc])
theorem tab_i {x : Int32} : (0 ≤ x ∧ x < 3) ↔ (0 ≤ x ∧ x ≤ 2) := by
  rw [i_le, i_le, i_lt, i_0, show (3 : Int32).toInt = 3 from by decide, show (2 : Int32).toInt = 2 from by decide]
  omega
theorem tab_n {x : Int32} (h : 0 ≤ x ∧ x < 3) : ∃ u, u < 3 ∧ x = nI u := by
  obtain ⟨j, hj, e⟩ := nI_of2 (x := x) (M := 2) (n := 2) (by decide) (Int32.not_lt.mpr h.1) (tab_i.mp h).2
  exact ⟨j, by omega, e⟩
theorem rank_n {x : Int32} (h : 1 ≤ x ∧ x ≤ 9) : ∃ u, 1 ≤ u ∧ u ≤ 9 ∧ x = nI u := by
  have h0 : ¬ x < 0 := by
    have := h.1
    rw [i_le, show (1 : Int32).toInt = 1 from by decide] at this
    rw [i_lt, i_0]
    omega
  obtain ⟨j, hj, e⟩ := nI_of2 (x := x) (M := 9) (n := 9) (by decide) h0 h.2
  refine ⟨j, ?_, hj, e⟩
  have := h.1
  rw [e] at this
  exact (nI_leI (a := 1) (by decide) (by omega)).mp this
theorem err_c : ∀ e : Int32, e = (-1) ∨ e = (-2) ∨ e = (-4) ∨ e = (-5) → (e ≤ (-1) ∧ (-5) ≤ e) := by
  intro e h
  rcases h with rfl | rfl | rfl | rfl <;> decide
theorem err_n {n : Nat} (h : n < 2 ^ 31) : ¬ (nI n ≤ (-1) ∧ (-5) ≤ nI n) := fun q => by
  have := q.1
  rw [i_le, i_n h, show (-1 : Int32).toInt = -1 from by decide] at this
  omega
theorem ag_guest {A M : Nat → Nat → Int32} {n t B : Nat} (hR : RR 5 n t A (M 173)) (hV : VV n B (M 173)) (x v : Int32) : AG B A M yX4_welcome MX4_welcome [.ref 5, .int x, .int v] yX7_refusesGuest MX7_refusesGuest [.ref 172, .int x, .int v] yX7_comes MX7_comes [.ref 172, .int x, .int v] := by
  obtain ⟨r1, r2, ⟨r3, r3', h10⟩, r4, ⟨r5, r5', t10⟩, r6, r7, r8, r9, r10⟩ := hR
  have a7 : A 7 0 = nI n := r3'
  by_cases hx : 0 ≤ x ∧ x < 3
  · have hx2 := tab_i.mp hx
    by_cases hv : 1 ≤ v ∧ v ≤ 9
    · by_cases hn : n < 10
      · right
        refine ⟨nI n, xAdd A n x v, yComes M n x v 173, n + 1, t, err_n (by omega), fun L g d => c_wel_ok (d + 2) x v hx hv n a7 hn, fun N eN L g d => c_rG_ok d x v hx2 hv (by rw [eN, r3]; exact fun z => absurd ((nI_eq (a := n) (b := 10) (by omega) (by decide)).mp z) (by omega)), fun N eN => ⟨yComes N n x v, yCm_cg eN, yComes_r, fun L g d => c_comes (d + 2) n (by rw [eN]; exact r3) hn x v⟩, ?_, ?_, ?_⟩
        · unfold xAdd yComes
          refine ⟨?_, ?_, ⟨?_, ?_, hn⟩, ?_, ⟨?_, ?_, t10⟩, ?_, ?_, ?_, ?_, ?_⟩
          · intro j hj
            rw [pe_ne (by omega), pe_ne (by omega), pe_ne (by omega), pe_ne (by omega), pe_ne (by omega), pe_ne (by omega), pe_ne (by omega), pe_ne (by omega)]
            exact r1 j hj
          · repeat (rw [pe_ne (by omega)])
            exact r2
          · rw [pe_ne (by omega), pe_ne (by omega), pe_ne (by omega), pe_eq, r3]
            exact nI_1 n
          · show pe _ 7 0 _ 7 0 = _
            rw [pe_eq, a7]
            exact nI_1 n
          · intro h hh
            repeat (rw [pe_ne (by omega)])
            exact r4 h hh
          · repeat (rw [pe_ne (by omega)])
            exact r5
          · repeat (rw [pe_ne (by omega)])
            exact r5'
          · intro k hk
            repeat (rw [pe_ne (by omega)])
            exact r6 k hk
          · intro k hk
            repeat (rw [pe_ne (by omega)])
            exact r7 k hk
          · intro m h1 h2
            repeat (rw [pe_ne (by omega)])
            exact r8 m h1 h2
          · intro r w hr hw
            repeat (rw [pe_ne (by omega)])
            exact r9 r w hr hw
          · intro k w hk hw
            have h := r10 k w hk hw
            by_cases e : k = n
            · subst e
              rcases (by omega : w = 0 ∨ w = 1 ∨ w = 2 ∨ w = 3 ∨ w = 4 ∨ w = 5) with rfl | rfl | rfl | rfl | rfl | rfl
              all_goals (repeat (first | rw [pe_at, if_pos (by omega)] | rw [pe_at, if_neg (by omega)]))
              · exact h
              · exact r1 2 (by decide)
              · exact h
              · exact h
            · repeat (rw [pe_ne (by omega)])
              exact h
        · obtain ⟨a, b, tm, v1, v2, v3, v4, v5, v6, v7, v8, v9, ⟨q, v10⟩, v11, ⟨sh, v12, v12'⟩, f, v13⟩ := hV
          obtain ⟨u, hu, eu⟩ := tab_n hx
          obtain ⟨rk, k1, k2, ek⟩ := rank_n hv
          have lo : ∀ j, j < 88 → j ≠ 5 → yComes M n x v 173 j = M 173 j := by
            intro j hj h5
            unfold yComes
            repeat (rw [pe_ne (by omega)])
          have c0 : ∀ k, mC (yComes M n x v 173) 0 k = if k = n then x else mC (M 173) 0 k := by
            intro k
            unfold yComes mC
            by_cases e : k = n
            · rw [if_pos e, e]
              repeat (first | rw [pe_at, if_pos (by omega)] | rw [pe_at, if_neg (by omega)])
            · rw [if_neg e]
              repeat (rw [pe_ne (by omega)])
          have c1 : ∀ k, mC (yComes M n x v 173) 1 k = if k = n then v else mC (M 173) 1 k := by
            intro k
            unfold yComes mC
            by_cases e : k = n
            · rw [if_pos e, e]
              repeat (first | rw [pe_at, if_pos (by omega)] | rw [pe_at, if_neg (by omega)])
            · rw [if_neg e]
              repeat (rw [pe_ne (by omega)])
          refine ⟨a, b, tm, (lo 0 (by decide) (by decide)).trans v1, (lo 1 (by decide) (by decide)).trans v2, v3, v4, v5, v6, (lo 4 (by decide) (by decide)).trans v7, v8, ?_, ⟨fun k => if k = n then rk else q k, ?_⟩, ?_, ⟨sh, v12, (lo 3 (by decide) (by decide)).trans v12'⟩, f, ?_⟩
          · intro k hk
            rw [c0]
            by_cases e : k = n
            · rw [if_pos e]
              exact Or.inr ⟨u, hu, eu⟩
            · rw [if_neg e]
              exact v9 k (by omega)
          · intro k hk
            simp only [c1]
            by_cases e : k = n
            · rw [if_pos e, if_pos e]
              exact ⟨ek, k1, k2⟩
            · rw [if_neg e, if_neg e]
              exact v10 k (by omega)
          · intro u hu
            rw [lo (10 + u) (by omega) (by omega)]
            exact v11 u hu
          · intro k hk
            have e : mC (yComes M n x v 173) 2 k = mC (M 173) 2 k := by
              unfold yComes mC
              repeat (rw [pe_ne (by omega)])
            rw [e]
            exact ⟨(v13 k hk).1, by have := (v13 k hk).2; omega⟩
        · intro c hc
          unfold xAdd
          repeat (rw [pe_row (by omega)])
      · left
        obtain rfl : n = 10 := by omega
        exact ⟨-4, by decide, fun L g d => c_wel_full (d + 2) x v hx hv a7, fun N eN L g d => c_rG_full d x v hx2 hv (by rw [eN]; exact r3)⟩
    · left
      exact ⟨-2, by decide, fun L g d => c_wel_bad (d + 2) x v hx hv, fun N eN L g d => c_rG_bad d x v hx2 hv⟩
  · left
    exact ⟨-1, by decide, fun L g d => c_wel_no (d + 2) x v hx, fun N eN L g d => c_rG_no d x v (fun z => hx (tab_i.mpr z))⟩
