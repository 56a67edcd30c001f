/-! a room copied, a row copied -/
theorem RR_congr {i j n t : Nat} {A A1 : Nat → Nat → Int32} {S S1 : Nat → Int32} (hA : ∀ c k, c < 16 → mVal c k → A1 (i + c) k = A (j + c) k) (hS : ∀ q, q < 150 → S1 q = S q) (hR : RR j n t A S) : RR i n t A1 S1 := by
  obtain ⟨r1, r2, ⟨r3, r3', h10⟩, r4, ⟨r5, r5', t10⟩, r6, r7, r8, r9, r10⟩ := hR
  refine ⟨?_, ?_, ⟨?_, ?_, h10⟩, ?_, ⟨?_, ?_, t10⟩, ?_, ?_, ?_, ?_, ?_⟩
  · intro z hz
    rw [hS z (by omega), hA 1 z (by decide) hz]
    exact r1 z hz
  · have := hA 0 0 (by decide) rfl
    rw [Nat.add_zero, Nat.add_zero] at this
    rw [hS 4 (by omega), this]
    exact r2
  · rw [hS 5 (by omega)]
    exact r3
  · rw [hA 2 0 (by decide) rfl]
    exact r3'
  · intro z hz
    rw [hS (6 + z) (by omega), hA 12 z (by decide) hz]
    exact r4 z hz
  · rw [hS 9 (by omega)]
    exact r5
  · rw [hA 9 4 (by decide) rfl]
    exact r5'
  · intro z hz
    rw [hS (10 + z) (by omega), hA 14 z (by decide) hz]
    exact r6 z hz
  · intro z hz
    rw [hS (13 + z) (by omega), hA 15 z (by decide) hz]
    exact r7 z hz
  · intro z h1 h2
    rw [hS _ (by omega), hS _ (by omega), hA 10 z (by decide) (show z < 12 by omega), hA 11 z (by decide) (show z < 12 by omega)]
    exact r8 z h1 h2
  · intro r w hr hw
    rw [hS _ (by omega), hA 13 (5 * r + w) (by decide) (show 5 * r + w < 50 by omega)]
    exact r9 r w hr hw
  · intro k w hk hw
    have hv : mVal (3 + w) k := by
      rcases (by omega : w = 0 ∨ w = 1 ∨ w = 2 ∨ w = 3 ∨ w = 4 ∨ w = 5) with rfl | rfl | rfl | rfl | rfl | rfl <;> exact hk
    have := hA (3 + w) k (by omega) hv
    rw [← Nat.add_assoc, ← Nat.add_assoc] at this
    rw [hS _ (by omega), this]
    exact r10 k w hk hw
theorem RR_copy {i j n t : Nat} {A : Nat → Nat → Int32} {S : Nat → Int32} (hd : i + 16 ≤ j ∨ j + 16 ≤ i) (hR : RR j n t A S) : RR i n t (xCopyR A i j) S := RR_congr (fun _ _ hc hv => xCopyR_in hd hc hv) (fun _ _ => rfl) hR
theorem RR_keep {i n t : Nat} {A A1 : Nat → Nat → Int32} {S : Nat → Int32} (hA : ∀ c, i ≤ c → c < i + 16 → A1 c = A c) (hR : RR i n t A S) : RR i n t A1 S := RR_congr (fun c k hc _ => by rw [hA (i + c) (by omega) (by omega)]) (fun _ _ => rfl) hR
theorem VV_congr {n B : Nat} {S S1 : Nat → Int32} (hS : ∀ q, q < 150 → S1 q = S q) (hn : n ≤ 10) (hV : VV n B S) : VV n B S1 := by
  obtain ⟨a, b, tm, v1, v2, v3, v4, v5, v6, v7, v8, v9, ⟨q, v10⟩, v11, ⟨sh, v12, v12'⟩, f, v13⟩ := hV
  have hC : ∀ k w, k < 10 → w < 6 → mC S1 w k = mC S w k := fun k w hk hw => hS _ (by omega)
  refine ⟨a, b, tm, (hS 0 (by omega)).trans v1, (hS 1 (by omega)).trans v2, v3, v4, v5, v6, (hS 4 (by omega)).trans v7, v8, ?_, ⟨q, ?_⟩, ?_, ⟨sh, v12, (hS 3 (by omega)).trans v12'⟩, f, ?_⟩
  · intro k hk
    rw [hC k 0 (by omega) (by omega)]
    exact v9 k hk
  · intro k hk
    rw [hC k 1 (by omega) (by omega)]
    exact v10 k hk
  · intro z hz
    rw [hS (10 + z) (by omega)]
    exact v11 z hz
  · intro k hk
    rw [hC k 2 hk (by omega)]
    exact v13 k hk
