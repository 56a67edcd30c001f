/-! what holds between two calls: the histories, the slots, the pad, the room -/
def rwM (F : Nat → Nat → Int32) (c i : Nat) : Nat → Int32 := fun q => F c (150 * i + q)
def RV (B i : Nat) (F : Nat → Nat → Int32) (S : Nat → Int32) : Prop := ∃ n t, RR i n t F S ∧ VV n B S ∧ ∃ y, y ≤ 9 ∧ S 2 = nI y
def IVH (B k : Nat) (π : Nat → Nat) (F : Nat → Nat → Int32) : Prop := (∀ i, i < 7 → π i < 7) ∧ (∀ i j, i < 7 → j < 7 → π i = π j → i = j) ∧ k ≤ 6 ∧ F 21 1 = nI k ∧ F 172 3 = nI k ∧ ∀ i, i < k → RV B (23 + 16 * π i) F (rwM F 174 i)
def IVS (B : Nat) (F : Nat → Nat → Int32) : Prop := ∀ b, b < 2 → F 169 b = F 176 b ∧ (¬ F 169 b = 0 → RV B (137 + 16 * b) F (rwM F 175 b))
def IVP (l : Nat) (F : Nat → Nat → Int32) : Prop := l ≤ 80 ∧ F 170 1 = nI l ∧ F 172 7 = nI l ∧ F 171 = F 177
def IVC (X : Nat → Int32) (F : Nat → Nat → Int32) : Prop := F 0 = X ∧ F 1 = mFS ∧ F 2 = mHS ∧ F 3 = mMB ∧ F 172 0 = 0
def IV (B : Nat) (X : Nat → Int32) (π : Nat → Nat) (k l : Nat) (F : Nat → Nat → Int32) (g : Nat → Option Nat) : Prop := (∀ i, i < 7 → g i = some (23 + 16 * π i)) ∧ IVH B k π F ∧ IVS B F ∧ IVP l F ∧ IVC X F ∧ RV B 5 F (F 173)
def IVx (B : Nat) (X : Nat → Int32) (F : Nat → Nat → Int32) (g : Nat → Option Nat) : Prop := ∃ π k l, IV B X π k l F g
theorem RV_congr {B B2 i j : Nat} {F F2 : Nat → Nat → Int32} {S S2 : Nat → Int32} (hB : B ≤ B2) (hA : ∀ c k, c < 16 → mVal c k → F2 (i + c) k = F (j + c) k) (hS : ∀ q, q < 150 → S2 q = S q) (h : RV B j F S) : RV B2 i F2 S2 := by
  obtain ⟨n, t, hR, hV, y, hy, ey⟩ := h
  exact ⟨n, t, RR_congr hA hS hR, VV_mono (VV_congr hS hR.2.2.1.2.2 hV) hB, y, hy, (hS 2 (by decide)).trans ey⟩
theorem RV_rows {B B2 i : Nat} {F F2 : Nat → Nat → Int32} {S S2 : Nat → Int32} (hB : B ≤ B2) (hA : ∀ c, i ≤ c → c < i + 16 → F2 c = F c) (hS : ∀ q, q < 150 → S2 q = S q) (h : RV B i F S) : RV B2 i F2 S2 := RV_congr hB (fun c k hc _ => by rw [hA (i + c) (by omega) (by omega)]) hS h
theorem IVS_fr {B B2 : Nat} {F F2 : Nat → Nat → Int32} (hB : B ≤ B2) (h : ∀ c, 137 ≤ c → c < 170 → F2 c = F c) (h5 : F2 175 = F 175) (h6 : F2 176 = F 176) (hS : IVS B F) : IVS B2 F2 := by
  intro b hb
  obtain ⟨a, c⟩ := hS b hb
  rw [h 169 (by decide) (by decide), h6]
  exact ⟨a, fun q => RV_rows hB (fun c h1 h2 => h c (by omega) (by omega)) (fun q _ => by unfold rwM; rw [h5]) (c q)⟩
theorem IVP_fr {l : Nat} {F F2 : Nat → Nat → Int32} (h0 : F2 170 1 = F 170 1) (h2 : F2 172 7 = F 172 7) (h1 : F2 171 = F 171) (h7 : F2 177 = F 177) (hP : IVP l F) : IVP l F2 := by
  obtain ⟨a, b, c, d⟩ := hP
  refine ⟨a, h0.trans b, h2.trans c, ?_⟩
  rw [h1, h7]
  exact d
theorem IVC_fr {X : Nat → Int32} {F F2 : Nat → Nat → Int32} (h : ∀ c, c < 4 → F2 c = F c) (h2 : F2 172 0 = F 172 0) (hC : IVC X F) : IVC X F2 := by
  obtain ⟨a, b, c, d, e⟩ := hC
  exact ⟨(h 0 (by decide)).trans a, (h 1 (by decide)).trans b, (h 2 (by decide)).trans c, (h 3 (by decide)).trans d, h2.trans e⟩
theorem IVH_fr {B B2 k : Nat} {π : Nat → Nat} {F F2 : Nat → Nat → Int32} (hB : B ≤ B2) (h : ∀ i, i < k → ∀ c, 23 + 16 * π i ≤ c → c < 23 + 16 * π i + 16 → F2 c = F c) (h4 : F2 174 = F 174) (h21 : F2 21 1 = F 21 1) (h3 : F2 172 3 = F 172 3) (hH : IVH B k π F) : IVH B2 k π F2 := by
  obtain ⟨a, b, c, d, e, f⟩ := hH
  exact ⟨a, b, c, h21.trans d, h3.trans e, fun i hi => RV_rows hB (h i hi) (fun q _ => by unfold rwM; rw [h4]) (f i hi)⟩
theorem IVH_lo {B B2 k : Nat} {π : Nat → Nat} {F F2 : Nat → Nat → Int32} (hB : B ≤ B2) (hk : k < 6) (hH : IVH B k π F) (hR : RV B 5 F (F 173)) (h : ∀ c, 23 ≤ c → c < 135 → F2 c = xCopyR F (23 + 16 * π k) 5 c) (h4 : ∀ j, F2 174 j = if 150 * k ≤ j ∧ j < 150 * k + 150 then F 173 (j - 150 * k) else F 174 j) (h21 : F2 21 1 = nI (k + 1)) (h3 : F2 172 3 = nI (k + 1)) : IVH B2 (k + 1) π F2 := by
  obtain ⟨p7, pj, -, -, -, hs⟩ := hH
  refine ⟨p7, pj, by omega, h21, h3, ?_⟩
  intro i hi
  have pi7 := p7 i (by omega)
  by_cases e : i = k
  · subst e
    refine RV_congr hB (j := 5) ?_ ?_ hR
    · intro c z hc hv
      rw [h _ (by omega) (by omega)]
      exact xCopyR_in (by omega) hc hv
    · intro q hq
      show F2 174 (150 * i + q) = F 173 q
      rw [h4, if_pos (by omega)]
      exact congrArg (F 173) (by omega)
  · have pk7 := p7 k (by omega)
    have hne : ¬ π i = π k := fun q => e (pj i k (by omega) (by omega) q)
    refine RV_rows hB ?_ ?_ (hs i (by omega))
    · intro c h1 h2
      rw [h c (by omega) (by omega)]
      exact xCopyR_out (by omega)
    · intro q hq
      show F2 174 (150 * i + q) = F 174 (150 * i + q)
      rw [h4, if_neg (by omega)]
theorem IVH_hi {B B2 : Nat} {π : Nat → Nat} {F F2 : Nat → Nat → Int32} (hB : B ≤ B2) (hH : IVH B 6 π F) (hR : RV B 5 F (F 173)) (h : ∀ c, 23 ≤ c → c < 135 → F2 c = xCopyR F (23 + 16 * π 6) 5 c) (h4 : ∀ j, F2 174 j = if 750 ≤ j ∧ j < 900 then F 173 (j - 750) else if j < 750 then F 174 (150 + j) else F 174 j) (h21 : F2 21 1 = nI 6) (h3 : F2 172 3 = nI 6) : IVH B2 6 (fun i => π ((i + 1) % 7)) F2 := by
  obtain ⟨p7, pj, -, -, -, hs⟩ := hH
  refine ⟨fun i hi => p7 _ (Nat.mod_lt _ (by decide)), ?_, by omega, h21, h3, ?_⟩
  · intro i j hi hj e
    have := pj _ _ (Nat.mod_lt _ (by decide)) (Nat.mod_lt _ (by decide)) e
    omega
  · intro i hi
    have p6 := p7 6 (by decide)
    by_cases e : i = 5
    · subst e
      show RV B2 (23 + 16 * π 6) F2 (rwM F2 174 5)
      refine RV_congr hB (j := 5) ?_ ?_ hR
      · intro c z hc hv
        rw [h _ (by omega) (by omega)]
        exact xCopyR_in (by omega) hc hv
      · intro q hq
        show F2 174 (150 * 5 + q) = F 173 q
        rw [h4, if_pos (by omega)]
        exact congrArg (F 173) (by omega)
    · show RV B2 (23 + 16 * π ((i + 1) % 7)) F2 (rwM F2 174 i)
      rw [show (i + 1) % 7 = i + 1 by omega]
      have pi7 := p7 (i + 1) (by omega)
      have hne : ¬ π (i + 1) = π 6 := fun q => by
        have := pj (i + 1) 6 (by omega) (by omega) q
        omega
      refine RV_rows hB ?_ ?_ (hs (i + 1) (by omega))
      · intro c h1 h2
        rw [h c (by omega) (by omega)]
        exact xCopyR_out (by omega)
      · intro q hq
        show F2 174 (150 * i + q) = F 174 (150 * (i + 1) + q)
        rw [h4, if_neg (by omega), if_pos (by omega)]
        exact congrArg (F 174) (by omega)
def kN (k : Nat) : Nat := if k < 6 then k + 1 else 6
def kP (π : Nat → Nat) (k : Nat) : Nat → Nat := if k < 6 then π else fun i => π ((i + 1) % 7)
theorem xRec_3 {A : Nat → Nat → Int32} {k : Nat} : xRec A k 172 3 = nI (kN k) := by
  unfold xRec kN
  split
  · exact pe_eq _ _ _ _
  · exact pe_eq _ _ _ _
theorem xRec_o {A : Nat → Nat → Int32} {k c j : Nat} (h1 : c ≠ 174) (h2 : ¬ (c = 172 ∧ j = 3)) : xRec A k c j = A c j := by
  unfold xRec
  split
  · unfold xRec1
    rw [pe_ne h2, cpB_row h1]
  · unfold xRec1 xSh
    rw [pe_ne h2, cpB_row h1, pe_ne h2, cpB_row h1]
theorem IVH_done {B B2 k : Nat} {π : Nat → Nat} {F F2 A : Nat → Nat → Int32} (hB : B ≤ B2) (hH : IVH B k π F) (hR : RV B 5 F (F 173)) (h : ∀ c, 23 ≤ c → c < 135 → F2 c = xCopyR F (23 + 16 * π k) 5 c) (h4 : F2 174 = xRec A k 174) (e4 : A 174 = F 174) (e3 : A 173 = F 173) (h21 : F2 21 1 = nI (kN k)) (h3 : F2 172 3 = nI (kN k)) : IVH B2 (kN k) (kP π k) F2 := by
  by_cases hk : k < 6
  · have ek : kN k = k + 1 := if_pos hk
    have ep : kP π k = π := if_pos hk
    rw [ek] at h21 h3
    rw [ek, ep]
    refine IVH_lo hB hk hH hR h ?_ h21 h3
    intro j
    rw [h4, ← e3, ← e4]
    unfold xRec xRec1
    rw [if_pos hk, pe_row (by decide), cpB_at, Nat.zero_add]
    simp only [true_and]
  · obtain rfl : k = 6 := by have := hH.2.2.1; omega
    refine IVH_hi hB hH hR h ?_ h21 h3
    intro j
    rw [h4, ← e3, ← e4]
    unfold xRec xRec1 xSh
    rw [if_neg (by decide), pe_row (by decide), cpB_at, pe_row (by decide), pe_row (by decide), cpB_row (by decide), cpB_at]
    by_cases p : 750 ≤ j ∧ j < 900
    · refine (if_pos (by omega)).trans (Eq.trans ?_ (if_pos p).symm)
      exact congrArg (A 173) (by omega)
    · refine (if_neg (by omega)).trans (Eq.trans ?_ (if_neg p).symm)
      by_cases p2 : j < 750
      · refine (if_pos (by omega)).trans (Eq.trans ?_ (if_pos p2).symm)
        exact congrArg (A 174) (by omega)
      · exact (if_neg (by omega)).trans (if_neg p2).symm
theorem kP_g {g : Nat → Option Nat} {π : Nat → Nat} {k : Nat} (hg : ∀ i, i < 7 → g i = some (23 + 16 * π i)) : ∀ i, i < 7 → xKG g π k i = some (23 + 16 * kP π k i) := by
  intro i hi
  unfold xKG kP
  split
  · exact hg i hi
  · exact xRot_at hi
theorem xKF_21 {A : Nat → Nat → Int32} {k : Nat} (hk : k ≤ 6) (e : A 21 1 = nI k) : xKF A k 21 1 = nI (kN k) := by
  unfold xKF kN
  split
  · rw [pe_eq, e]
    exact nI_1 k
  · rw [e]
    congr 1
    omega
theorem xKF_o {A : Nat → Nat → Int32} {k c : Nat} (h : c ≠ 21) : xKF A k c = A c := by
  unfold xKF
  split
  · exact pe_row h
  · rfl
theorem IV_done {B B2 k l : Nat} {X : Nat → Int32} {π : Nat → Nat} {F A1 N1 : Nat → Nat → Int32} {g : Nat → Option Nat} (hB : B ≤ B2) (h : IV B X π k l F g) (hA : FrB (xCopyR F (23 + 16 * π k) 5) A1) (hM : FrM (xRec (xKF A1 k) k) N1) (hR1 : RV B2 5 A1 (N1 173)) : IV B2 X (kP π k) (kN k) l N1 (xKG g π k) := by
  obtain ⟨hg, hH, hS, hP, hC, hR⟩ := h
  have k6 := hH.2.2.1
  have pk7 := hH.1 k (by omega)
  have cp : ∀ c, c < 23 ∨ 135 ≤ c → xCopyR F (23 + 16 * π k) 5 c = F c := fun c hc => xCopyR_out (by omega)
  have r1 : ∀ c, c ≠ 172 → c ≠ 173 → c ≠ 174 → c ≠ 21 → N1 c = A1 c := fun c h1 h2 h3 h4 => by
    rw [hM c h2, xRec_row h3 h1, xKF_o h4]
  have r2 : ∀ c, c ≠ 172 → c ≠ 173 → c ≠ 174 → c ≠ 21 → (c < 5 ∨ 21 ≤ c) → N1 c = xCopyR F (23 + 16 * π k) 5 c := fun c h1 h2 h3 h4 h5 => (r1 c h1 h2 h3 h4).trans (hA c h5)
  have r3 : ∀ c, c ≠ 172 → c ≠ 173 → c ≠ 174 → c ≠ 21 → (c < 5 ∨ 135 ≤ c) → N1 c = F c := fun c h1 h2 h3 h4 h5 => (r2 c h1 h2 h3 h4 (by omega)).trans (cp c (by omega))
  have a21 : A1 21 1 = nI k := by rw [hA 21 (by omega), cp 21 (by omega)]; exact hH.2.2.2.1
  have a2 : ∀ c, 172 ≤ c → xKF A1 k c = F c := fun c hc => by rw [xKF_o (by omega), hA c (by omega), cp c (by omega)]
  have n2 : ∀ j, j ≠ 3 → N1 172 j = F 172 j := fun j hj => by
    rw [hM 172 (by decide), xRec_o (by decide) (fun q => hj q.2), a2 172 (by omega)]
  refine ⟨kP_g hg, ?_, ?_, ?_, ?_, ?_⟩
  · refine IVH_done (A := xKF A1 k) hB hH hR ?_ ?_ (a2 174 (by decide)) (a2 173 (by decide)) ?_ ?_
    · intro c h1 h2
      exact r2 c (by omega) (by omega) (by omega) (by omega) (by omega)
    · exact hM 174 (by decide)
    · rw [hM 21 (by decide), xRec_row (by decide) (by decide)]
      exact xKF_21 k6 a21
    · rw [hM 172 (by decide)]
      exact xRec_3
  · exact IVS_fr hB (fun c h1 h2 => r3 c (by omega) (by omega) (by omega) (by omega) (by omega)) (r3 175 (by decide) (by decide) (by decide) (by decide) (by decide)) (r3 176 (by decide) (by decide) (by decide) (by decide) (by decide)) hS
  · exact IVP_fr (by rw [r3 170 (by decide) (by decide) (by decide) (by decide) (by decide)]) (n2 7 (by decide)) (r3 171 (by decide) (by decide) (by decide) (by decide) (by decide)) (r3 177 (by decide) (by decide) (by decide) (by decide) (by decide)) hP
  · exact IVC_fr (fun c hc => r3 c (by omega) (by omega) (by omega) (by omega) (by omega)) (n2 0 (by decide)) hC
  · exact RV_rows (Nat.le_refl _) (fun c h1 h2 => r1 c (by omega) (by omega) (by omega) (by omega)) (fun _ _ => rfl) hR1
theorem IV_ref {B B2 k l : Nat} {X : Nat → Int32} {π : Nat → Nat} {F : Nat → Nat → Int32} {g : Nat → Option Nat} (hB : B ≤ B2) (h : IV B X π k l F g) : IV B2 X π k l (xCopyR F (23 + 16 * π k) 5) g := by
  obtain ⟨hg, hH, hS, hP, hC, hR⟩ := h
  have k6 := hH.2.2.1
  have pk7 := hH.1 k (by omega)
  have cp : ∀ c, c < 23 ∨ 135 ≤ c → xCopyR F (23 + 16 * π k) 5 c = F c := fun c hc => xCopyR_out (by omega)
  refine ⟨hg, ?_, ?_, ?_, ?_, ?_⟩
  · refine IVH_fr hB ?_ (cp 174 (by omega)) (by rw [cp 21 (by omega)]) (by rw [cp 172 (by omega)]) hH
    intro i hi c h1 h2
    have pi7 := hH.1 i (by omega)
    have hne : ¬ π i = π k := fun q => by
      have := hH.2.1 i k (by omega) (by omega) q
      omega
    exact xCopyR_out (by omega)
  · exact IVS_fr hB (fun c h1 h2 => cp c (by omega)) (cp 175 (by omega)) (cp 176 (by omega)) hS
  · exact IVP_fr (by rw [cp 170 (by omega)]) (by rw [cp 172 (by omega)]) (cp 171 (by omega)) (cp 177 (by omega)) hP
  · exact IVC_fr (fun c hc => cp c (by omega)) (by rw [cp 172 (by omega)]) hC
  · exact RV_rows hB (fun c h1 h2 => cp c (by omega)) (fun q _ => by rw [cp 173 (by omega)]) hR
theorem IV_mono {B B2 : Nat} {X : Nat → Int32} {F : Nat → Nat → Int32} {g : Nat → Option Nat} (hB : B ≤ B2) (h : IVx B X F g) : IVx B2 X F g := by
  obtain ⟨π, k, l, hg, hH, hS, hP, hC, hR⟩ := h
  exact ⟨π, k, l, hg, IVH_fr hB (fun _ _ _ _ _ => rfl) rfl rfl rfl hH, IVS_fr hB (fun _ _ _ => rfl) rfl rfl hS, hP, hC, RV_rows hB (fun _ _ _ => rfl) (fun _ _ => rfl) hR⟩
