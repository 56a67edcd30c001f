/-! the pad, both ways -/
theorem iv_pad {B k l l2 : Nat} {X : Nat → Int32} {π : Nat → Nat} {F F2 : Nat → Nat → Int32} {g : Nat → Option Nat} (h : IV B X π k l F g) (hF : ∀ c j, c ≠ 170 → c ≠ 171 → c ≠ 177 → c ≠ 178 → ¬ (c = 172 ∧ 7 ≤ j) → F2 c j = F c j) (hP : IVP l2 F2) : IV B X π k l2 F2 g := by
  obtain ⟨hg, hH, hS, -, hC, hR⟩ := h
  have row : ∀ c, c ≠ 170 → c ≠ 171 → c ≠ 172 → c ≠ 177 → c ≠ 178 → F2 c = F c := fun c h1 h2 h3 h4 h5 => funext (fun j => hF c j h1 h2 h4 h5 (fun q => h3 q.1))
  refine ⟨hg, ?_, ?_, hP, ?_, ?_⟩
  · refine IVH_fr (Nat.le_refl _) (fun i hi c h1 h2 => ?_) (row 174 (by decide) (by decide) (by decide) (by decide) (by decide)) (hF 21 1 (by decide) (by decide) (by decide) (by decide) (by omega)) (hF 172 3 (by decide) (by decide) (by decide) (by decide) (by omega)) hH
    have := hH.1 i (by have := hH.2.2.1; omega)
    exact row c (by omega) (by omega) (by omega) (by omega) (by omega)
  · exact IVS_fr (Nat.le_refl _) (fun c h1 h2 => row c (by omega) (by omega) (by omega) (by omega) (by omega)) (row 175 (by decide) (by decide) (by decide) (by decide) (by decide)) (row 176 (by decide) (by decide) (by decide) (by decide) (by decide)) hS
  · exact IVC_fr (fun c hc => row c (by omega) (by omega) (by omega) (by omega) (by omega)) (hF 172 0 (by decide) (by decide) (by decide) (by decide) (by omega)) hC
  · exact RV_rows (Nat.le_refl _) (fun c h1 h2 => row c (by omega) (by omega) (by omega) (by omega) (by omega)) (fun q _ => by rw [row 173 (by decide) (by decide) (by decide) (by decide) (by decide)]) hR
theorem ok_wipe {L d B : Nat} {X : Nat → Int32} : OK L d B B X yX6_wipe MX6_wipe [.ref 4] yX7_wipe MX7_wipe [.ref 172] := by
  intro F g ⟨π, k, l, hI⟩
  have hI2 := hI
  obtain ⟨hg, hH, hS, hP, hC, hR⟩ := hI2
  refine ⟨F 170 1, pe F 170 1 0, g, pe (pe F 170 1 0) 172 7 0, (pe_row (by decide)).trans hC.1, c_x_wipe (d + 3) _ _ (c_clear (d + 6)), ?_, π, k, 0, iv_pad hI ?_ ⟨by decide, ?_, ?_, ?_⟩⟩
  · have := c_mwipe (L := L) (F := pe F 170 1 0) (g := g) (d + 3) hC.2.2.2.2
    rw [show pe F 170 1 0 172 7 = F 170 1 from hP.2.2.1.trans hP.2.1.symm] at this
    exact this
  · intro c j h1 h2 h3 h4 h5
    rw [pe_ne (by omega), pe_ne (by omega)]
  · rw [pe_row (by decide), pe_eq]
    rfl
  · rw [pe_eq]
    rfl
  · rw [pe_row (by decide), pe_row (by decide), pe_row (by decide), pe_row (by decide)]
    exact hP.2.2.2
theorem ok_fault {L d B : Nat} {X : Nat → Int32} : OK L d B B X yX6_fault MX6_fault [.ref 4] yX7_fault MX7_fault [.ref 172] := by
  intro F g ⟨π, k, l, hI⟩
  have hI2 := hI
  obtain ⟨hg, hH, hS, hP, hC, hR⟩ := hI2
  obtain ⟨l80, p0, p7, pq⟩ := hP
  obtain ⟨F1, H, q1, q2, q3, q4⟩ := e_reads (L := L) (g := g) (F := F) (d + 2) l p7 l80
  have ef : oI (mPar (F 177) l).2 = sFaultL (F 171) 0 0 l := by
    rw [← text_eq, pq]
  rw [ef] at H
  refine ⟨sFaultL (F 171) 0 0 l, F, g, F1, hC.1, c_x_fault (d + 3) _ _ (c_fault (d + 4) l p0 l80), c_mfault (d + 2) hC.2.2.2.2 _ F1 H, π, k, l, iv_pad hI ?_ ⟨l80, ?_, ?_, ?_⟩⟩
  · intro c j h1 h2 h3 h4 h5
    exact q1 c j h4 (fun e => by omega)
  · rw [q1 170 1 (by decide) (fun e => absurd e (by decide))]
    exact p0
  · rw [q1 172 7 (by decide) (fun _ => by decide)]
    exact p7
  · funext j
    rw [q1 171 j (by decide) (fun e => absurd e (by decide)), q1 177 j (by decide) (fun e => absurd e (by decide))]
    exact congrFun pq j
theorem xPut_at {c : Int64} {l m : Nat} {F : Nat → Nat → Int32} : ∀ k, k ≤ m → ∀ a j, mfold (xPutF c (l + m)) F k a j = if a = 171 ∧ l + m - k ≤ j ∧ j < l + m then sCode c (nI (l + m - 1 - j)) else F a j := by
  intro k
  induction k with
  | zero =>
    intro _ a j
    rw [if_neg (by omega)]
    rfl
  | succ k ih =>
    intro hk a j
    show pe (mfold (xPutF c (l + m)) F k) 171 (l + m - 1 - k) (sCode c (nI k)) a j = _
    rw [pe_at, ih (by omega)]
    by_cases e : a = 171 ∧ j = l + m - 1 - k
    · rw [if_pos e, if_pos (by omega), show l + m - 1 - j = k by omega]
    · rw [if_neg e]
      by_cases e2 : a = 171 ∧ l + m - k ≤ j ∧ j < l + m
      · rw [if_pos e2, if_pos (by omega)]
      · rw [if_neg e2, if_neg (by omega)]
theorem yPut_at {c : Int64} {l m : Nat} {F : Nat → Nat → Int32} : ∀ k, k ≤ m → ∀ a j, ¬ (a = 172 ∧ j = 7) → mfold (yPutF c l m) F k a j = if a = 177 ∧ l ≤ j ∧ j < l + k then mCode c (nI (l + m - 1 - j)) else F a j := by
  intro k
  induction k with
  | zero =>
    intro _ a j _
    rw [if_neg (by omega)]
    rfl
  | succ k ih =>
    intro hk a j h7
    show pe (pe (mfold (yPutF c l m) F k) 177 (l + k) (mCode c (nI (m - 1 - k)))) 172 7 (nI (l + k + 1)) a j = _
    rw [pe_ne h7, pe_at, ih (by omega) a j h7]
    by_cases e : a = 177 ∧ j = l + k
    · rw [if_pos e, if_pos (by omega), show l + m - 1 - j = m - 1 - k by omega]
    · rw [if_neg e]
      by_cases e2 : a = 177 ∧ l ≤ j ∧ j < l + k
      · rw [if_pos e2, if_pos (by omega)]
      · rw [if_neg e2, if_neg (by omega)]
theorem ok_put {L d B : Nat} {X : Nat → Int32} (c : Int64) : OK L d B B X yX6_put MX6_put [.ref 4, .long c] yX7_put MX7_put [.ref 172, .long c] := by
  intro F g ⟨π, k, l, hI⟩
  have hI2 := hI
  obtain ⟨hg, hH, hS, hP, hC, hR⟩ := hI2
  obtain ⟨l80, p0, p7, pq⟩ := hP
  have n0 := hC.2.2.2.2
  rcases put_eq c with ⟨m, m0, m8, e1, e2, e3⟩ | ⟨hb, e0⟩
  · by_cases h80 : l + m ≤ 80
    · have ex : ∀ a j, a ≠ 170 → a ≠ 171 → xPut F c l m a j = F a j := fun a j h1 h2 => by
        unfold xPut
        rw [pe_row h1, xPut_at m (Nat.le_refl m), if_neg (fun q => h2 q.1)]
      have ex7 : xPut F c l m 172 7 = nI l := (ex 172 7 (by decide) (by decide)).trans p7
      refine ⟨nI (l + m), xPut F c l m, g, yPut (xPut F c l m) c l m, (funext (fun j => ex 0 j (by decide) (by decide))).trans hC.1, c_x_put (d + 3) c _ _ (c_app_ok (d + 4) c l m p0 l80 e3 m8 m0 h80), c_mput_ok (d + 3) ((ex 172 0 (by decide) (by decide)).trans n0) c m l m0 m8 ex7 l80 e1 e2 h80, π, k, l + m, iv_pad hI ?_ ⟨h80, ?_, ?_, ?_⟩⟩
      · intro a j h1 h2 h3 h4 h5
        unfold yPut
        rw [yPut_at m (Nat.le_refl m) a j (by omega), if_neg (fun q => h3 q.1), ex a j h1 h2]
      · unfold yPut
        rw [yPut_at m (Nat.le_refl m) 170 1 (by omega), if_neg (by omega)]
        exact pe_eq _ _ _ _
      · exact yPut_7 ex7
      · funext j
        unfold yPut
        rw [yPut_at m (Nat.le_refl m) 171 j (by omega), if_neg (by omega), yPut_at m (Nat.le_refl m) 177 j (by omega)]
        have e171 : xPut F c l m 171 j = if 171 = 171 ∧ l + m - m ≤ j ∧ j < l + m then sCode c (nI (l + m - 1 - j)) else F 171 j := by
          unfold xPut
          rw [pe_row (by decide), xPut_at m (Nat.le_refl m)]
        rw [e171]
        by_cases q : l ≤ j ∧ j < l + m
        · rw [if_pos (by omega), if_pos (by omega), mCode_s c (by omega)]
        · rw [if_neg (by omega), if_neg (by omega), ex 177 j (by decide) (by decide)]
          exact congrFun pq j
    · exact ⟨-4, F, g, F, hC.1, c_x_put (d + 3) c _ _ (c_app_many (d + 4) c l m p0 l80 e3 m8 m0 (by omega)), c_mput_many (d + 3) n0 c m l m0 m8 p7 l80 e1 e2 (by omega), π, k, l, hI⟩
  · exact ⟨-2, F, g, F, hC.1, c_x_put (d + 3) c _ _ (c_app_bad (d + 4) c e0), c_mput_bad (d + 3) n0 c hb, π, k, l, hI⟩
