/-! a guest moves, both ways -/
theorem pc_move {B n t : Nat} {A M : Nat → Nat → Int32} (hR : RR 5 n t A (M 173)) (hV : VV n B (M 173)) (hL : ∃ y, y ≤ 9 ∧ A 6 2 = nI y) (x y : Int32) : PC B A M yX4_reseat MX4_reseat [.ref 5, .int x, .int y] yX7_move MX7_move [.ref 172, .int x, .int y] := by
  obtain ⟨m5, a7, h10⟩ := RR_n hR
  by_cases hx : 0 ≤ x ∧ x < nI n
  · by_cases hy : 0 ≤ y ∧ y < 3
    · obtain ⟨k, hk, rfl⟩ := kn_i hx h10
      obtain ⟨u, hu, rfl⟩ := tab_n hy
      have e8 : mC (M 173) 0 k = A 8 k := RR_c hR (by omega) (by decide)
      have hv9 := hV
      obtain ⟨a, b, tm, v1, v2, v3, v4, v5, v6, v7, v8, v9, v10, v11, v12, v13⟩ := hv9
      rcases v9 k hk with hs | ⟨w, hw, hs⟩
      · left
        exact ⟨-5, by decide, fun L g d => c_mov_gone (d + 2) n a7 h10 k hk u hu (e8.symm.trans hs), fun N eN n0 L g d => c_mmove_gone d n0 n (by rw [eN]; exact m5) h10 k hk u hu (by rw [eN]; exact hs)⟩
      · by_cases hwu : w = u
        · subst hwu
          left
          exact ⟨-5, by decide, fun L g d => c_mov_same (d + 2) n a7 h10 k hk w hu (e8.symm.trans hs), fun N eN n0 L g d => c_mmove_same d n0 n (by rw [eN]; exact m5) h10 k hk w hu (by rw [eN]; exact hs)⟩
        · right
          have hsA : A 8 k = nI w := e8.symm.trans hs
          have hR1 : RR 5 n t (pe A 8 k (nI u)) (pe M 173 (88 + 6 * k + 0) (nI u) 173) := RR_col hR (w := 0) (by decide) (by omega) (nI u)
          have hset : sSet (va_up (A 8) k (nI u)) (nI w) n = sSet (mC (pe M 173 (88 + 6 * k + 0) (nI u) 173) 0) (nI w) n := by
            have := seat_eq (x := nI w) hR1
            rwa [pe_self] at this
          obtain ⟨p1, p2, c, hc, p3⟩ := pop_eq (P := mC (pe M 173 (88 + 6 * k + 0) (nI u) 173) 0) (t := nI w) (n := n) h10
          have hV1 : VV n B (pe M 173 (88 + 6 * k + 0) (nI u) 173) := VV_of hV (m_lay5 (by decide)) (m_lay5 (by decide)) (m_lay5 (by decide)) (m_lay5 (by decide)) (fun j hj => by
            rw [mC_hi (by decide)]
            by_cases e : j = k
            · rw [e, va_up_self]
              exact Or.inr (Or.inr ⟨u, hu, rfl⟩)
            · rw [va_up_ne _ _ e]
              exact Or.inl rfl) (fun j hj => by rw [mC_ne (by decide) (by decide) (by decide)]) (fun u hu => Or.inl (m_lay5 (by omega))) (fun j hj => by rw [mC_ne (by decide) (by decide) (by decide)])
          obtain ⟨z, hz, ez⟩ := hL
          by_cases h0 : sOnes (sSet (mC (pe M 173 (88 + 6 * k + 0) (nI u) 173) 0) (nI w) n) = 0
          · have hzr := p2.mp h0
            have hR2 := RR_pause hR1 hw (-6)
            refine ⟨nI w, pe (pe A 8 k (nI u)) 19 w (-6), pe (pe M 173 (88 + 6 * k + 0) (nI u)) 173 (10 + w) (-6) 173, err_n (by omega), fun L g d => c_mov_0 (d + 1) n a7 h10 k hk w u hw hu hwu hsA (hset.trans hzr), ?_, ⟨n, t, hR2, ?_, z, hz, ?_⟩, fun c hc => by rw [pe_row (by omega), pe_row (by omega)]⟩
            · intro N eN n0 q hq n3
              have eX : xRec N q 173 = M 173 := by rw [xRec_row (by decide) (by decide)]; exact eN
              have eP : pe (xRec N q) 173 (88 + 6 * k + 0) (nI u) 173 = pe M 173 (88 + 6 * k + 0) (nI u) 173 := pe_cg eX rfl
              refine ⟨pe (pe (xRec N q) 173 (88 + 6 * k + 0) (nI u)) 173 (10 + w) (-6), pe_cg eP rfl, FrM_pe (FrM_pe FrM_rf), ?_⟩
              intro L g d
              exact c_mmove_k d n0 n (by rw [eN]; exact m5) h10 k hk u hu w hw hwu (by rw [eN]; exact hs) q hq n3 _ _ (c_goes_0 (L := L) (g := g) (F := xRec N q) (d + 1) n (by rw [eX]; exact m5) h10 k hk w hw (nI u) (by rw [eX]; exact hs) (by rw [eP]; exact h0))
            · exact VV_mono (VV_of hV1 (m_row (by omega)) (m_row (by omega)) (m_row (by omega)) (m_row (by omega)) (fun j hj => Or.inl (by rw [mC_lo (by omega)])) (fun j hj => by rw [mC_lo (by omega)]) (fun z hz2 => by
                by_cases e : z = w
                · rw [e, pe_eq]
                  exact Or.inr (Or.inl rfl)
                · exact Or.inl (m_row (by omega))) (fun j hj => by rw [mC_lo (by omega)])) (Nat.le_add_right _ _)
            · rw [RR_s hR2 (by decide), pe_row (by decide), pe_row (by decide)]
              exact ez
          · refine ⟨nI w, pe A 8 k (nI u), pe M 173 (88 + 6 * k + 0) (nI u) 173, err_n (by omega), fun L g d => c_mov_n (d + 1) n a7 h10 k hk w u hw hu hwu hsA (by rw [hset]; exact fun z => h0 (p2.mpr z)), ?_, ⟨n, t, hR1, VV_mono hV1 (Nat.le_add_right _ _), z, hz, ?_⟩, fun c hc => by rw [pe_row (by omega)]⟩
            · intro N eN n0 q hq n3
              have eX : xRec N q 173 = M 173 := by rw [xRec_row (by decide) (by decide)]; exact eN
              have eP : pe (xRec N q) 173 (88 + 6 * k + 0) (nI u) 173 = pe M 173 (88 + 6 * k + 0) (nI u) 173 := pe_cg eX rfl
              refine ⟨pe (xRec N q) 173 (88 + 6 * k + 0) (nI u), eP, FrM_pe FrM_rf, ?_⟩
              intro L g d
              exact c_mmove_k d n0 n (by rw [eN]; exact m5) h10 k hk u hu w hw hwu (by rw [eN]; exact hs) q hq n3 _ _ (c_goes_n (L := L) (g := g) (F := xRec N q) (d + 1) n (by rw [eX]; exact m5) h10 k hk w hw (nI u) (by rw [eX]; exact hs) (by rw [eP]; exact h0))
            · rw [RR_s hR1 (by decide), pe_row (by decide)]
              exact ez
    · left
      exact ⟨-1, by decide, fun L g d => c_mov_notab (d + 2) x y (by rw [a7]; exact hx) hy, fun N eN n0 L g d => c_mmove_notab d n0 n (by rw [eN]; exact m5) h10 x y hx (fun z => hy (tab_i.mpr z))⟩
  · left
    exact ⟨-1, by decide, fun L g d => c_mov_no (d + 2) x y (by rw [a7]; exact hx), fun N eN n0 L g d => c_mmove_no d n0 n (by rw [eN]; exact m5) h10 x y hx⟩
theorem ok_move {L d B : Nat} {X : Nat → Int32} (x y : Int32) : OK L d B (B + 10) X yX6_move MX6_move [.ref 4, .int x, .int y] yX7_move MX7_move [.ref 172, .int x, .int y] :=
  ok_change (fun _ _ _ d π hg hπ k hk ek r F1 hp2 H HK => c_x_move d π hg hπ k hk ek x y r F1 hp2 H HK) (fun A M _ _ n t hR hV hL => pc_move hR hV hL x y)
/-! undo, save, restore -/
theorem slot_i {x : Int32} : (0 ≤ x ∧ x < 2) ↔ (0 ≤ x ∧ x ≤ 1) := by
  rw [i_le, i_le, i_lt, i_0, show (2 : Int32).toInt = 2 from by decide, show (1 : Int32).toInt = 1 from by decide]
  omega
theorem slot_n {x : Int32} (h : 0 ≤ x ∧ x < 2) : ∃ b, b < 2 ∧ x = nI b := by
  obtain ⟨j, hj, e⟩ := nI_of2 (x := x) (M := 1) (n := 1) (by decide) (Int32.not_lt.mpr h.1) (slot_i.mp h).2
  exact ⟨j, by omega, e⟩
theorem ok_undo {L d B : Nat} {X : Nat → Int32} : OK L d B B X yX6_undo MX6_undo [.ref 4] yX7_undo MX7_undo [.ref 172] := by
  intro F g ⟨π, k, l, hI⟩
  have hI2 := hI
  obtain ⟨hg, hH, hS, hP, hC, hR⟩ := hI2
  have k6 := hH.2.2.1
  by_cases hk : k = 0
  · have e21 : F 21 1 = 0 := by rw [hH.2.2.2.1, hk]; rfl
    have e3 : F 172 3 = 0 := by rw [hH.2.2.2.2.1, hk]; rfl
    exact ⟨-5, F, g, F, hC.1, c_x_undo (d + 3) _ _ (c_undo_no _ e21), c_mundo_no (d + 3) hC.2.2.2.2 e3, π, k, l, hI⟩
  · obtain ⟨j, rfl⟩ : ∃ j, k = j + 1 := ⟨k - 1, by omega⟩
    have pj7 := hH.1 j (by omega)
    have cp : ∀ c, c < 5 ∨ 21 < c → xCopyR (pe F 21 1 (F 21 1 - 1)) 5 (23 + 16 * π j) c = F c := fun c hc => by
      rw [xCopyR_out (by omega), pe_row (by omega)]
    have c21 : xCopyR (pe F 21 1 (F 21 1 - 1)) 5 (23 + 16 * π j) 21 1 = nI j := by
      rw [xCopyR_out (by omega), pe_eq, hH.2.2.2.1]
      exact nI_pred j
    generalize hF1 : xCopyR (pe F 21 1 (F 21 1 - 1)) 5 (23 + 16 * π j) = F1 at cp c21
    have e0 : F1 172 0 = 0 := by rw [cp 172 (by omega)]; exact hC.2.2.2.2
    have e3 : F1 172 3 = nI (j + 1) := by rw [cp 172 (by omega)]; exact hH.2.2.2.2.1
    refine ⟨nI j, F1, g, cpB (pe F1 172 3 (nI j)) 173 174 (150 * j) 0 150, by rw [cp 0 (by omega)]; exact hC.1, ?_, c_mundo_ok (d + 3) e0 j (by omega) e3, π, j, l, hg, ?_, ?_, ?_, ?_, ?_⟩
    · rw [← hF1]
      exact c_x_undo (d + 3) _ _ (c_undo_ok (d + 3) π hg hH.1 j (by omega) hH.2.2.2.1)
    · have hl : ∀ c, c ≠ 172 → c ≠ 173 → cpB (pe F1 172 3 (nI j)) 173 174 (150 * j) 0 150 c = F1 c := fun c h1 h2 => by rw [cpB_row h2, pe_row h1]
      refine ⟨hH.1, hH.2.1, by omega, ?_, ?_, ?_⟩
      · rw [hl 21 (by decide) (by decide)]
        exact c21
      · rw [cpB_row (by decide), pe_eq]
      · intro i hi
        have pi7 := hH.1 i (by omega)
        refine RV_rows (Nat.le_refl _) (fun c h1 h2 => ?_) (fun q _ => ?_) (hH.2.2.2.2.2 i (by omega))
        · rw [hl c (by omega) (by omega), cp c (by omega)]
        · unfold rwM
          rw [hl 174 (by decide) (by decide), cp 174 (by omega)]
    · refine IVS_fr (Nat.le_refl _) (fun c h1 h2 => ?_) ?_ ?_ hS
      · rw [cpB_row (by omega), pe_row (by omega), cp c (by omega)]
      · rw [cpB_row (by decide), pe_row (by decide), cp 175 (by omega)]
      · rw [cpB_row (by decide), pe_row (by decide), cp 176 (by omega)]
    · refine IVP_fr ?_ ?_ ?_ ?_ hP
      · rw [cpB_row (by decide), pe_row (by decide), cp 170 (by omega)]
      · rw [cpB_row (by decide), pe_ne (by decide), cp 172 (by omega)]
      · rw [cpB_row (by decide), pe_row (by decide), cp 171 (by omega)]
      · rw [cpB_row (by decide), pe_row (by decide), cp 177 (by omega)]
    · refine IVC_fr (fun c hc => ?_) ?_ hC
      · rw [cpB_row (by omega), pe_row (by omega), cp c (by omega)]
      · rw [cpB_row (by decide), pe_ne (by decide), cp 172 (by omega)]
    · refine RV_congr (Nat.le_refl _) (fun c z hc hv => ?_) (fun q hq => ?_) (hH.2.2.2.2.2 j (by omega))
      · rw [cpB_row (by omega), pe_row (by omega), ← hF1, xCopyR_in (by omega) hc hv, pe_row (by omega)]
      · rw [cpB_at, if_pos (by omega), pe_row (by decide), cp 174 (by omega)]
        show F 174 (150 * j + (q - 0)) = F 174 (150 * j + q)
        rfl
theorem ok_save {L d B : Nat} {X : Nat → Int32} (x : Int32) : OK L d B B X yX6_save MX6_save [.ref 4, .int x] yX7_save MX7_save [.ref 172, .int x] := by
  intro F g ⟨π, k, l, hI⟩
  have hI2 := hI
  obtain ⟨hg, hH, hS, hP, hC, hR⟩ := hI2
  by_cases hx : 0 ≤ x ∧ x < 2
  · obtain ⟨b, hb, rfl⟩ := slot_n hx
    have cp : ∀ c, c < 137 ∨ 170 ≤ c → pe (xCopyR F (137 + 16 * b) 5) 169 b 1 c = F c := fun c hc => by rw [pe_row (by omega), xCopyR_out (by omega)]
    have c169 : ∀ z, pe (xCopyR F (137 + 16 * b) 5) 169 b 1 169 z = if z = b then 1 else F 169 z := fun z => by
      rw [pe_at]
      by_cases e : z = b
      · rw [if_pos ⟨rfl, e⟩, if_pos e]
      · rw [if_neg (fun q => e q.2), if_neg e, xCopyR_out (by omega)]
    have cin : ∀ c z, c < 16 → mVal c z → pe (xCopyR F (137 + 16 * b) 5) 169 b 1 (137 + 16 * b + c) z = F (5 + c) z := fun c z hc hv => by rw [pe_row (by omega), xCopyR_in (by omega) hc hv]
    have cot : ∀ y, y < 2 → y ≠ b → ∀ c, 137 + 16 * y ≤ c → c < 137 + 16 * y + 16 → pe (xCopyR F (137 + 16 * b) 5) 169 b 1 c = F c := fun y hy hyb c h1 h2 => by rw [pe_row (by omega), xCopyR_out (by omega)]
    obtain ⟨n, t, hRR, hVV, hLL⟩ := hR
    have ea : F 7 0 = F 173 5 := by rw [(RR_n hRR).2.1, (RR_n hRR).1]
    generalize hF1 : pe (xCopyR F (137 + 16 * b) 5) 169 b 1 = F1 at cp c169 cin cot
    refine ⟨F 7 0, F1, g, pe (cpB F1 175 173 0 (150 * b) 150) 176 b 1, by rw [cp 0 (by omega)]; exact hC.1, ?_, ?_, π, k, l, hg, ?_, ?_, ?_, ?_, ?_⟩
    · rw [← hF1]
      exact c_x_save (d + 3) _ _ _ (c_slot_keep (d + 3) b hb)
    · have := c_msv_ok (L := L) (F := F1) (g := g) (d + 3) (by rw [cp 172 (by omega)]; exact hC.2.2.2.2) b hb
      rw [cp 173 (by omega), ← ea] at this
      exact this
    · refine IVH_fr (Nat.le_refl _) (fun i hi c h1 h2 => ?_) ?_ ?_ ?_ hH
      · have := hH.1 i (by have := hH.2.2.1; omega)
        rw [pe_row (by omega), cpB_row (by omega), cp c (by omega)]
      · rw [pe_row (by decide), cpB_row (by decide), cp 174 (by omega)]
      · rw [pe_row (by decide), cpB_row (by decide), cp 21 (by omega)]
      · rw [pe_row (by decide), cpB_row (by decide), cp 172 (by omega)]
    · intro y hy
      have h69 : pe (cpB F1 175 173 0 (150 * b) 150) 176 b 1 169 y = if y = b then 1 else F 169 y := by rw [pe_row (by decide), cpB_row (by decide), c169]
      by_cases e : y = b
      · subst e
        rw [h69, if_pos rfl, pe_eq]
        refine ⟨rfl, fun _ => RV_congr (Nat.le_refl _) (j := 5) (F := F) (S := F 173) (fun c z hc hv => ?_) (fun q hq => ?_) ⟨n, t, hRR, hVV, hLL⟩⟩
        · rw [pe_row (by omega), cpB_row (by omega), cin c z hc hv]
        · show pe (cpB F1 175 173 0 (150 * y) 150) 176 y 1 175 (150 * y + q) = F 173 q
          rw [pe_row (by decide), cpB_at, if_pos (by omega), cp 173 (by omega)]
          exact congrArg (F 173) (by omega)
      · rw [h69, if_neg e, pe_ne (by omega), cpB_row (by decide), cp 176 (by omega)]
        obtain ⟨s1, s2⟩ := hS y hy
        refine ⟨s1, fun q => RV_rows (Nat.le_refl _) (fun c h1 h2 => ?_) (fun q hq => ?_) (s2 q)⟩
        · rw [pe_row (by omega), cpB_row (by omega), cot y hy e c h1 h2]
        · show pe (cpB F1 175 173 0 (150 * b) 150) 176 b 1 175 (150 * y + q) = F 175 (150 * y + q)
          rw [pe_row (by decide), cpB_at, if_neg (by omega), cp 175 (by omega)]
    · refine IVP_fr ?_ ?_ ?_ ?_ hP
      · rw [pe_row (by decide), cpB_row (by decide), cp 170 (by omega)]
      · rw [pe_row (by decide), cpB_row (by decide), cp 172 (by omega)]
      · rw [pe_row (by decide), cpB_row (by decide), cp 171 (by omega)]
      · rw [pe_row (by decide), cpB_row (by decide), cp 177 (by omega)]
    · refine IVC_fr (fun c hc => ?_) ?_ hC
      · rw [pe_row (by omega), cpB_row (by omega), cp c (by omega)]
      · rw [pe_row (by decide), cpB_row (by decide), cp 172 (by omega)]
    · refine RV_rows (Nat.le_refl _) (fun c h1 h2 => ?_) (fun q _ => ?_) ⟨n, t, hRR, hVV, hLL⟩
      · rw [pe_row (by omega), cpB_row (by omega), cp c (by omega)]
      · rw [pe_row (by decide), cpB_row (by decide), cp 173 (by omega)]
  · exact ⟨-2, F, g, F, hC.1, c_x_save (d + 3) x _ _ (c_slot_no _ x hx), c_msv_no (d + 3) hC.2.2.2.2 x (fun z => hx (slot_i.mpr z)), π, k, l, hI⟩
theorem ok_restore {L d B : Nat} {X : Nat → Int32} (x : Int32) : OK L d B B X yX6_restore MX6_restore [.ref 4, .int x] yX7_restore MX7_restore [.ref 172, .int x] := by
  intro F g ⟨π, k, l, hI⟩
  have hI2 := hI
  obtain ⟨hg, hH, hS, hP, hC, hR⟩ := hI2
  have k6 := hH.2.2.1
  have pk7 := hH.1 k (by omega)
  have cp : ∀ c, c < 23 ∨ 135 ≤ c → xCopyR F (23 + 16 * π k) 5 c = F c := fun c hc => xCopyR_out (by omega)
  have e0 : xCopyR F (23 + 16 * π k) 5 172 0 = 0 := by rw [cp 172 (by omega)]; exact hC.2.2.2.2
  by_cases hx : 0 ≤ x ∧ x < 2
  · obtain ⟨b, hb, rfl⟩ := slot_n hx
    obtain ⟨s1, s2⟩ := hS b hb
    by_cases hz : F 169 b = 0
    · refine ⟨-5, xCopyR F (23 + 16 * π k) 5, g, _, by rw [cp 0 (by omega)]; exact hC.1, c_x_restore (d + 3) π hg hH.1 k (by omega) hH.2.2.2.1 _ _ _ _ (c_back_none _ b hb (by rw [cp 169 (by omega)]; exact hz)) (c_kept_err (d + 5) _ (by decide)), c_mrs_none (d + 3) e0 b hb (by rw [cp 176 (by omega), ← s1]; exact hz), π, k, l, IV_ref (Nat.le_refl _) hI⟩
    · have hRV := s2 hz
      have hin : ∀ c z, c < 16 → mVal c z → xCopyR (xCopyR F (23 + 16 * π k) 5) 5 (137 + 16 * b) (5 + c) z = F (137 + 16 * b + c) z := fun c z hc hv => by rw [xCopyR_in (by omega) hc hv, cp _ (by omega)]
      have hA : FrB (xCopyR F (23 + 16 * π k) 5) (xCopyR (xCopyR F (23 + 16 * π k) 5) 5 (137 + 16 * b)) := fun c hc => xCopyR_out (by omega)
      generalize hA1 : xCopyR (xCopyR F (23 + 16 * π k) 5) 5 (137 + 16 * b) = A1 at hin hA
      have a21 : A1 21 1 = nI k := by rw [hA 21 (by omega), cp 21 (by omega)]; exact hH.2.2.2.1
      have a2 : ∀ c, 172 ≤ c → xKF A1 k c = F c := fun c hc => by rw [xKF_o (by omega), hA c (by omega), cp c (by omega)]
      have hS2 : ∀ q, q < 150 → cpB (xRec (xKF A1 k) k) 173 175 (150 * b) 0 150 173 q = rwM F 175 b q := fun q hq => by
        rw [cpB_at, if_pos (by omega), xRec_row (by decide) (by decide), a2 175 (by decide)]
        show F 175 (150 * b + (q - 0)) = F 175 (150 * b + q)
        rfl
      have hR1 : RV B 5 A1 (cpB (xRec (xKF A1 k) k) 173 175 (150 * b) 0 150 173) := RV_congr (Nat.le_refl _) hin hS2 hRV
      obtain ⟨n, t, hRR, hVV, hLL⟩ := hR1
      have er : A1 7 0 = nI n := (RR_n hRR).2.1
      have es : cpB (xRec (xKF A1 k) k) 173 175 (150 * b) 0 150 173 5 = nI n := (RR_n hRR).1
      refine ⟨nI n, xKF A1 k, xKG g π k, cpB (xRec (xKF A1 k) k) 173 175 (150 * b) 0 150, by rw [xKF_o (by decide), hA 0 (by omega), cp 0 (by omega)]; exact hC.1, ?_, ?_, _, _, _, IV_done (N1 := cpB (xRec (xKF A1 k) k) 173 175 (150 * b) 0 150) (Nat.le_refl _) hI hA (fun c hc => cpB_row hc) ⟨n, t, hRR, hVV, hLL⟩⟩
      · refine c_x_restore (d + 3) π hg hH.1 k (by omega) hH.2.2.2.1 _ _ A1 _ ?_ (c_kept_ok (d + 5) π hg hH.1 k (by omega) a21 _ (err_n (by have := (RR_n hRR).2.2; omega)))
        have := c_back_ok (L := L) (F := xCopyR F (23 + 16 * π k) 5) (g := g) (d + 3) b hb (by rw [cp 169 (by omega)]; exact hz)
        rw [hA1, er] at this
        exact this
      · have := c_mrs_ok (L := L) (F := xKF A1 k) (g := xKG g π k) (d + 3) (by rw [a2 172 (by decide)]; exact hC.2.2.2.2) k k6 (by rw [a2 172 (by decide)]; exact hH.2.2.2.2.1) b hb (by rw [a2 176 (by decide), ← s1]; exact hz)
        rw [es] at this
        exact this
  · exact ⟨-2, xCopyR F (23 + 16 * π k) 5, g, _, by rw [cp 0 (by omega)]; exact hC.1, c_x_restore (d + 3) π hg hH.1 k (by omega) hH.2.2.2.1 _ _ _ _ (c_back_no _ x hx) (c_kept_err (d + 5) _ (by decide)), c_mrs_no (d + 3) e0 x (fun z => hx (slot_i.mpr z)), π, k, l, IV_ref (Nat.le_refl _) hI⟩
