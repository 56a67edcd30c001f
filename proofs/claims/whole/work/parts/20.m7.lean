def mOrd (P : Nat → Int32) (l i : Nat) : Bool × Nat :=
  if mSg P l i = 103 then
    (if mDb (mSg P l (i + 1)) = true then (if mSg P l (i + 2) = 46 then (if mDb (mSg P l (i + 3)) = true then (true, i + 4) else (false, i + 3)) else (false, i + 2)) else (false, i + 1))
  else if mSg P l i = 112 ∨ mSg P l i = 101 then (if mDb (mSg P l (i + 1)) = true then (true, i + 2) else (false, i + 1))
  else if mSg P l i = 120 ∨ mSg P l i = 119 ∨ mSg P l i = 99 ∨ mSg P l i = 116 then
    (if mDb (mSg P l (i + 1)) = true then (if mSg P l (i + 1) = 48 then (true, i + 2) else if mDb (mSg P l (i + 2)) = true then (true, i + 3) else (true, i + 2)) else (false, i + 1))
  else (false, i)
def mA (P : Nat → Int32) (l i j : Nat) : Int32 := if ¬ mSg P l i = 103 ∧ j = i + 3 then 10 * (mSg P l (i + 1) - 48) + mSg P l (i + 2) - 48 else mSg P l (i + 1) - 48
def roP (F F1 : Nat → Nat → Int32) (l i m : Nat) (o : Bool × Nat) : Prop :=
  F1 172 8 = nI o.2 ∧ F1 172 9 = (if o.1 = true then 1 else 0) ∧ F1 172 11 = nI (if o.1 = true then m + 1 else m) ∧ (∀ c k : Nat, (c = 172 → k ≠ 8 ∧ k ≠ 9 ∧ k ≠ 11) → (c = 178 → k < 3 * m) → F1 c k = F c k) ∧ (o.1 = true → F1 178 (3 * m) = mSg (F 177) l i ∧ F1 178 (3 * m + 1) = mA (F 177) l i o.2 ∧ (mSg (F 177) l i = 103 → F1 178 (3 * m + 2) = mSg (F 177) l (i + 3) - 48))
def roE (L : Nat) (g : Nat → Option Nat) (d : Nat) (F : Nat → Nat → Int32) (l i m : Nat) : Prop := ∃ F1, mCall (d + 3) yX7_readsOrder MX7_readsOrder [.ref 172] (mHX L F g) none (mHX L F1 g) ∧ roP F F1 l i m (mOrd (F 177) l i)
set_option maxHeartbeats 4000000 in
set_option maxRecDepth 100000 in
theorem ero_p0 {L : Nat} {F : Nat → Nat → Int32} {g : Nat → Option Nat} (d : Nat) (l i m : Nat) (el : F 172 7 = nI l) (hl : l ≤ 80) (ea : F 172 8 = nI i) (hi : i ≤ 80) (em : F 172 11 = nI m) (hm : m ≤ 40) (e0 : mSg (F 177) l i = 112) (h1 : mDb (mSg (F 177) l (i + 1)) = false) : roE L g d F l i m := by
  have eo : mOrd (F 177) l i = (false, i + 1) := by simp [mOrd, e0, h1, show mDb 48 = true from by decide]
  refine ⟨_, c_ro_p0 d l i m el hl ea hi em hm 0 _ 0 e0 rfl (mDb_f h1), ?_⟩
  rw [eo]
  unfold yro_p0
  refine ⟨by simp [pe_at], by simp [pe_at], by simp [pe_at], ?_, ?_⟩
  · intro c k h1 h2
    repeat (rw [pe_ne (by omega)])
  · intro h
    cases h
set_option maxHeartbeats 4000000 in
set_option maxRecDepth 100000 in
theorem ero_p1 {L : Nat} {F : Nat → Nat → Int32} {g : Nat → Option Nat} (d : Nat) (l i m : Nat) (el : F 172 7 = nI l) (hl : l ≤ 80) (ea : F 172 8 = nI i) (hi : i ≤ 80) (em : F 172 11 = nI m) (hm : m ≤ 40) (e0 : mSg (F 177) l i = 112) (h1 : mDb (mSg (F 177) l (i + 1)) = true) : roE L g d F l i m := by
  have eo : mOrd (F 177) l i = (true, i + 2) := by simp [mOrd, e0, h1, show mDb 48 = true from by decide]
  refine ⟨_, c_ro_p1 d l i m el hl ea hi em hm 0 _ 0 e0 rfl (mDb_t h1), ?_⟩
  rw [eo]
  unfold yro_p1
  refine ⟨by simp [pe_at], by simp [pe_at], by simp [pe_at], ?_, ?_⟩
  · intro c k h1 h2
    repeat (rw [pe_ne (by omega)])
  · intro _
    refine ⟨by simp [pe_at, e0, h1], by simp [pe_at, mA, e0, h1], ?_⟩
    intro h
    rw [e0] at h
    exact absurd h (by decide)
set_option maxHeartbeats 4000000 in
set_option maxRecDepth 100000 in
theorem ero_e0 {L : Nat} {F : Nat → Nat → Int32} {g : Nat → Option Nat} (d : Nat) (l i m : Nat) (el : F 172 7 = nI l) (hl : l ≤ 80) (ea : F 172 8 = nI i) (hi : i ≤ 80) (em : F 172 11 = nI m) (hm : m ≤ 40) (e0 : mSg (F 177) l i = 101) (h1 : mDb (mSg (F 177) l (i + 1)) = false) : roE L g d F l i m := by
  have eo : mOrd (F 177) l i = (false, i + 1) := by simp [mOrd, e0, h1, show mDb 48 = true from by decide]
  refine ⟨_, c_ro_e0 d l i m el hl ea hi em hm 0 _ 0 e0 rfl (mDb_f h1), ?_⟩
  rw [eo]
  unfold yro_e0
  refine ⟨by simp [pe_at], by simp [pe_at], by simp [pe_at], ?_, ?_⟩
  · intro c k h1 h2
    repeat (rw [pe_ne (by omega)])
  · intro h
    cases h
set_option maxHeartbeats 4000000 in
set_option maxRecDepth 100000 in
theorem ero_e1 {L : Nat} {F : Nat → Nat → Int32} {g : Nat → Option Nat} (d : Nat) (l i m : Nat) (el : F 172 7 = nI l) (hl : l ≤ 80) (ea : F 172 8 = nI i) (hi : i ≤ 80) (em : F 172 11 = nI m) (hm : m ≤ 40) (e0 : mSg (F 177) l i = 101) (h1 : mDb (mSg (F 177) l (i + 1)) = true) : roE L g d F l i m := by
  have eo : mOrd (F 177) l i = (true, i + 2) := by simp [mOrd, e0, h1, show mDb 48 = true from by decide]
  refine ⟨_, c_ro_e1 d l i m el hl ea hi em hm 0 _ 0 e0 rfl (mDb_t h1), ?_⟩
  rw [eo]
  unfold yro_e1
  refine ⟨by simp [pe_at], by simp [pe_at], by simp [pe_at], ?_, ?_⟩
  · intro c k h1 h2
    repeat (rw [pe_ne (by omega)])
  · intro _
    refine ⟨by simp [pe_at, e0, h1], by simp [pe_at, mA, e0, h1], ?_⟩
    intro h
    rw [e0] at h
    exact absurd h (by decide)
set_option maxHeartbeats 4000000 in
set_option maxRecDepth 100000 in
theorem ero_x0 {L : Nat} {F : Nat → Nat → Int32} {g : Nat → Option Nat} (d : Nat) (l i m : Nat) (el : F 172 7 = nI l) (hl : l ≤ 80) (ea : F 172 8 = nI i) (hi : i ≤ 80) (em : F 172 11 = nI m) (hm : m ≤ 40) (e0 : mSg (F 177) l i = 120) (h1 : mDb (mSg (F 177) l (i + 1)) = false) : roE L g d F l i m := by
  have eo : mOrd (F 177) l i = (false, i + 1) := by simp [mOrd, e0, h1, show mDb 48 = true from by decide]
  refine ⟨_, c_ro_x0 d l i m el hl ea hi em hm 0 _ 0 e0 rfl (mDb_f h1), ?_⟩
  rw [eo]
  unfold yro_x0
  refine ⟨by simp [pe_at], by simp [pe_at], by simp [pe_at], ?_, ?_⟩
  · intro c k h1 h2
    repeat (rw [pe_ne (by omega)])
  · intro h
    cases h
set_option maxHeartbeats 4000000 in
set_option maxRecDepth 100000 in
theorem ero_x1 {L : Nat} {F : Nat → Nat → Int32} {g : Nat → Option Nat} (d : Nat) (l i m : Nat) (el : F 172 7 = nI l) (hl : l ≤ 80) (ea : F 172 8 = nI i) (hi : i ≤ 80) (em : F 172 11 = nI m) (hm : m ≤ 40) (e0 : mSg (F 177) l i = 120) (h1 : mDb (mSg (F 177) l (i + 1)) = true) (hx : mSg (F 177) l (i + 1) = 48) : roE L g d F l i m := by
  have eo : mOrd (F 177) l i = (true, i + 2) := by simp [mOrd, e0, h1, hx, show mDb 48 = true from by decide]
  refine ⟨_, c_ro_x1 d l i m el hl ea hi em hm 0 _ 0 e0 rfl (mDb_t h1) hx, ?_⟩
  rw [eo]
  unfold yro_x1
  refine ⟨by simp [pe_at], by simp [pe_at], by simp [pe_at], ?_, ?_⟩
  · intro c k h1 h2
    repeat (rw [pe_ne (by omega)])
  · intro _
    refine ⟨by simp [pe_at, e0, h1, hx], by simp [pe_at, mA, e0, h1, hx], ?_⟩
    intro h
    rw [e0] at h
    exact absurd h (by decide)
set_option maxHeartbeats 4000000 in
set_option maxRecDepth 100000 in
theorem ero_x2 {L : Nat} {F : Nat → Nat → Int32} {g : Nat → Option Nat} (d : Nat) (l i m : Nat) (el : F 172 7 = nI l) (hl : l ≤ 80) (ea : F 172 8 = nI i) (hi : i ≤ 80) (em : F 172 11 = nI m) (hm : m ≤ 40) (e0 : mSg (F 177) l i = 120) (h1 : mDb (mSg (F 177) l (i + 1)) = true) (hx : ¬ mSg (F 177) l (i + 1) = 48) (h2 : mDb (mSg (F 177) l (i + 2)) = false) : roE L g d F l i m := by
  have eo : mOrd (F 177) l i = (true, i + 2) := by simp [mOrd, e0, h1, hx, h2, show mDb 48 = true from by decide]
  refine ⟨_, c_ro_x2 d l i m el hl ea hi em hm 0 _ _ e0 rfl (mDb_t h1) hx rfl (mDb_f h2), ?_⟩
  rw [eo]
  unfold yro_x2
  refine ⟨by simp [pe_at], by simp [pe_at], by simp [pe_at], ?_, ?_⟩
  · intro c k h1 h2
    repeat (rw [pe_ne (by omega)])
  · intro _
    refine ⟨by simp [pe_at, e0, h1, hx, h2], by simp [pe_at, mA, e0, h1, hx, h2], ?_⟩
    intro h
    rw [e0] at h
    exact absurd h (by decide)
set_option maxHeartbeats 4000000 in
set_option maxRecDepth 100000 in
theorem ero_x3 {L : Nat} {F : Nat → Nat → Int32} {g : Nat → Option Nat} (d : Nat) (l i m : Nat) (el : F 172 7 = nI l) (hl : l ≤ 80) (ea : F 172 8 = nI i) (hi : i ≤ 80) (em : F 172 11 = nI m) (hm : m ≤ 40) (e0 : mSg (F 177) l i = 120) (h1 : mDb (mSg (F 177) l (i + 1)) = true) (hx : ¬ mSg (F 177) l (i + 1) = 48) (h2 : mDb (mSg (F 177) l (i + 2)) = true) : roE L g d F l i m := by
  have eo : mOrd (F 177) l i = (true, i + 3) := by simp [mOrd, e0, h1, hx, h2, show mDb 48 = true from by decide]
  refine ⟨_, c_ro_x3 d l i m el hl ea hi em hm 0 _ _ e0 rfl (mDb_t h1) hx rfl (mDb_t h2), ?_⟩
  rw [eo]
  unfold yro_x3
  refine ⟨by simp [pe_at], by simp [pe_at], by simp [pe_at], ?_, ?_⟩
  · intro c k h1 h2
    repeat (rw [pe_ne (by omega)])
  · intro _
    refine ⟨by simp [pe_at, e0, h1, hx, h2], by simp [pe_at, mA, e0, h1, hx, h2], ?_⟩
    intro h
    rw [e0] at h
    exact absurd h (by decide)
set_option maxHeartbeats 4000000 in
set_option maxRecDepth 100000 in
theorem ero_w0 {L : Nat} {F : Nat → Nat → Int32} {g : Nat → Option Nat} (d : Nat) (l i m : Nat) (el : F 172 7 = nI l) (hl : l ≤ 80) (ea : F 172 8 = nI i) (hi : i ≤ 80) (em : F 172 11 = nI m) (hm : m ≤ 40) (e0 : mSg (F 177) l i = 119) (h1 : mDb (mSg (F 177) l (i + 1)) = false) : roE L g d F l i m := by
  have eo : mOrd (F 177) l i = (false, i + 1) := by simp [mOrd, e0, h1, show mDb 48 = true from by decide]
  refine ⟨_, c_ro_w0 d l i m el hl ea hi em hm 0 _ 0 e0 rfl (mDb_f h1), ?_⟩
  rw [eo]
  unfold yro_w0
  refine ⟨by simp [pe_at], by simp [pe_at], by simp [pe_at], ?_, ?_⟩
  · intro c k h1 h2
    repeat (rw [pe_ne (by omega)])
  · intro h
    cases h
set_option maxHeartbeats 4000000 in
set_option maxRecDepth 100000 in
theorem ero_w1 {L : Nat} {F : Nat → Nat → Int32} {g : Nat → Option Nat} (d : Nat) (l i m : Nat) (el : F 172 7 = nI l) (hl : l ≤ 80) (ea : F 172 8 = nI i) (hi : i ≤ 80) (em : F 172 11 = nI m) (hm : m ≤ 40) (e0 : mSg (F 177) l i = 119) (h1 : mDb (mSg (F 177) l (i + 1)) = true) (hx : mSg (F 177) l (i + 1) = 48) : roE L g d F l i m := by
  have eo : mOrd (F 177) l i = (true, i + 2) := by simp [mOrd, e0, h1, hx, show mDb 48 = true from by decide]
  refine ⟨_, c_ro_w1 d l i m el hl ea hi em hm 0 _ 0 e0 rfl (mDb_t h1) hx, ?_⟩
  rw [eo]
  unfold yro_w1
  refine ⟨by simp [pe_at], by simp [pe_at], by simp [pe_at], ?_, ?_⟩
  · intro c k h1 h2
    repeat (rw [pe_ne (by omega)])
  · intro _
    refine ⟨by simp [pe_at, e0, h1, hx], by simp [pe_at, mA, e0, h1, hx], ?_⟩
    intro h
    rw [e0] at h
    exact absurd h (by decide)
set_option maxHeartbeats 4000000 in
set_option maxRecDepth 100000 in
theorem ero_w2 {L : Nat} {F : Nat → Nat → Int32} {g : Nat → Option Nat} (d : Nat) (l i m : Nat) (el : F 172 7 = nI l) (hl : l ≤ 80) (ea : F 172 8 = nI i) (hi : i ≤ 80) (em : F 172 11 = nI m) (hm : m ≤ 40) (e0 : mSg (F 177) l i = 119) (h1 : mDb (mSg (F 177) l (i + 1)) = true) (hx : ¬ mSg (F 177) l (i + 1) = 48) (h2 : mDb (mSg (F 177) l (i + 2)) = false) : roE L g d F l i m := by
  have eo : mOrd (F 177) l i = (true, i + 2) := by simp [mOrd, e0, h1, hx, h2, show mDb 48 = true from by decide]
  refine ⟨_, c_ro_w2 d l i m el hl ea hi em hm 0 _ _ e0 rfl (mDb_t h1) hx rfl (mDb_f h2), ?_⟩
  rw [eo]
  unfold yro_w2
  refine ⟨by simp [pe_at], by simp [pe_at], by simp [pe_at], ?_, ?_⟩
  · intro c k h1 h2
    repeat (rw [pe_ne (by omega)])
  · intro _
    refine ⟨by simp [pe_at, e0, h1, hx, h2], by simp [pe_at, mA, e0, h1, hx, h2], ?_⟩
    intro h
    rw [e0] at h
    exact absurd h (by decide)
set_option maxHeartbeats 4000000 in
set_option maxRecDepth 100000 in
theorem ero_w3 {L : Nat} {F : Nat → Nat → Int32} {g : Nat → Option Nat} (d : Nat) (l i m : Nat) (el : F 172 7 = nI l) (hl : l ≤ 80) (ea : F 172 8 = nI i) (hi : i ≤ 80) (em : F 172 11 = nI m) (hm : m ≤ 40) (e0 : mSg (F 177) l i = 119) (h1 : mDb (mSg (F 177) l (i + 1)) = true) (hx : ¬ mSg (F 177) l (i + 1) = 48) (h2 : mDb (mSg (F 177) l (i + 2)) = true) : roE L g d F l i m := by
  have eo : mOrd (F 177) l i = (true, i + 3) := by simp [mOrd, e0, h1, hx, h2, show mDb 48 = true from by decide]
  refine ⟨_, c_ro_w3 d l i m el hl ea hi em hm 0 _ _ e0 rfl (mDb_t h1) hx rfl (mDb_t h2), ?_⟩
  rw [eo]
  unfold yro_w3
  refine ⟨by simp [pe_at], by simp [pe_at], by simp [pe_at], ?_, ?_⟩
  · intro c k h1 h2
    repeat (rw [pe_ne (by omega)])
  · intro _
    refine ⟨by simp [pe_at, e0, h1, hx, h2], by simp [pe_at, mA, e0, h1, hx, h2], ?_⟩
    intro h
    rw [e0] at h
    exact absurd h (by decide)
set_option maxHeartbeats 4000000 in
set_option maxRecDepth 100000 in
theorem ero_c0 {L : Nat} {F : Nat → Nat → Int32} {g : Nat → Option Nat} (d : Nat) (l i m : Nat) (el : F 172 7 = nI l) (hl : l ≤ 80) (ea : F 172 8 = nI i) (hi : i ≤ 80) (em : F 172 11 = nI m) (hm : m ≤ 40) (e0 : mSg (F 177) l i = 99) (h1 : mDb (mSg (F 177) l (i + 1)) = false) : roE L g d F l i m := by
  have eo : mOrd (F 177) l i = (false, i + 1) := by simp [mOrd, e0, h1, show mDb 48 = true from by decide]
  refine ⟨_, c_ro_c0 d l i m el hl ea hi em hm 0 _ 0 e0 rfl (mDb_f h1), ?_⟩
  rw [eo]
  unfold yro_c0
  refine ⟨by simp [pe_at], by simp [pe_at], by simp [pe_at], ?_, ?_⟩
  · intro c k h1 h2
    repeat (rw [pe_ne (by omega)])
  · intro h
    cases h
set_option maxHeartbeats 4000000 in
set_option maxRecDepth 100000 in
theorem ero_c1 {L : Nat} {F : Nat → Nat → Int32} {g : Nat → Option Nat} (d : Nat) (l i m : Nat) (el : F 172 7 = nI l) (hl : l ≤ 80) (ea : F 172 8 = nI i) (hi : i ≤ 80) (em : F 172 11 = nI m) (hm : m ≤ 40) (e0 : mSg (F 177) l i = 99) (h1 : mDb (mSg (F 177) l (i + 1)) = true) (hx : mSg (F 177) l (i + 1) = 48) : roE L g d F l i m := by
  have eo : mOrd (F 177) l i = (true, i + 2) := by simp [mOrd, e0, h1, hx, show mDb 48 = true from by decide]
  refine ⟨_, c_ro_c1 d l i m el hl ea hi em hm 0 _ 0 e0 rfl (mDb_t h1) hx, ?_⟩
  rw [eo]
  unfold yro_c1
  refine ⟨by simp [pe_at], by simp [pe_at], by simp [pe_at], ?_, ?_⟩
  · intro c k h1 h2
    repeat (rw [pe_ne (by omega)])
  · intro _
    refine ⟨by simp [pe_at, e0, h1, hx], by simp [pe_at, mA, e0, h1, hx], ?_⟩
    intro h
    rw [e0] at h
    exact absurd h (by decide)
set_option maxHeartbeats 4000000 in
set_option maxRecDepth 100000 in
theorem ero_c2 {L : Nat} {F : Nat → Nat → Int32} {g : Nat → Option Nat} (d : Nat) (l i m : Nat) (el : F 172 7 = nI l) (hl : l ≤ 80) (ea : F 172 8 = nI i) (hi : i ≤ 80) (em : F 172 11 = nI m) (hm : m ≤ 40) (e0 : mSg (F 177) l i = 99) (h1 : mDb (mSg (F 177) l (i + 1)) = true) (hx : ¬ mSg (F 177) l (i + 1) = 48) (h2 : mDb (mSg (F 177) l (i + 2)) = false) : roE L g d F l i m := by
  have eo : mOrd (F 177) l i = (true, i + 2) := by simp [mOrd, e0, h1, hx, h2, show mDb 48 = true from by decide]
  refine ⟨_, c_ro_c2 d l i m el hl ea hi em hm 0 _ _ e0 rfl (mDb_t h1) hx rfl (mDb_f h2), ?_⟩
  rw [eo]
  unfold yro_c2
  refine ⟨by simp [pe_at], by simp [pe_at], by simp [pe_at], ?_, ?_⟩
  · intro c k h1 h2
    repeat (rw [pe_ne (by omega)])
  · intro _
    refine ⟨by simp [pe_at, e0, h1, hx, h2], by simp [pe_at, mA, e0, h1, hx, h2], ?_⟩
    intro h
    rw [e0] at h
    exact absurd h (by decide)
set_option maxHeartbeats 4000000 in
set_option maxRecDepth 100000 in
theorem ero_c3 {L : Nat} {F : Nat → Nat → Int32} {g : Nat → Option Nat} (d : Nat) (l i m : Nat) (el : F 172 7 = nI l) (hl : l ≤ 80) (ea : F 172 8 = nI i) (hi : i ≤ 80) (em : F 172 11 = nI m) (hm : m ≤ 40) (e0 : mSg (F 177) l i = 99) (h1 : mDb (mSg (F 177) l (i + 1)) = true) (hx : ¬ mSg (F 177) l (i + 1) = 48) (h2 : mDb (mSg (F 177) l (i + 2)) = true) : roE L g d F l i m := by
  have eo : mOrd (F 177) l i = (true, i + 3) := by simp [mOrd, e0, h1, hx, h2, show mDb 48 = true from by decide]
  refine ⟨_, c_ro_c3 d l i m el hl ea hi em hm 0 _ _ e0 rfl (mDb_t h1) hx rfl (mDb_t h2), ?_⟩
  rw [eo]
  unfold yro_c3
  refine ⟨by simp [pe_at], by simp [pe_at], by simp [pe_at], ?_, ?_⟩
  · intro c k h1 h2
    repeat (rw [pe_ne (by omega)])
  · intro _
    refine ⟨by simp [pe_at, e0, h1, hx, h2], by simp [pe_at, mA, e0, h1, hx, h2], ?_⟩
    intro h
    rw [e0] at h
    exact absurd h (by decide)
set_option maxHeartbeats 4000000 in
set_option maxRecDepth 100000 in
theorem ero_t0 {L : Nat} {F : Nat → Nat → Int32} {g : Nat → Option Nat} (d : Nat) (l i m : Nat) (el : F 172 7 = nI l) (hl : l ≤ 80) (ea : F 172 8 = nI i) (hi : i ≤ 80) (em : F 172 11 = nI m) (hm : m ≤ 40) (e0 : mSg (F 177) l i = 116) (h1 : mDb (mSg (F 177) l (i + 1)) = false) : roE L g d F l i m := by
  have eo : mOrd (F 177) l i = (false, i + 1) := by simp [mOrd, e0, h1, show mDb 48 = true from by decide]
  refine ⟨_, c_ro_t0 d l i m el hl ea hi em hm 0 _ 0 e0 rfl (mDb_f h1), ?_⟩
  rw [eo]
  unfold yro_t0
  refine ⟨by simp [pe_at], by simp [pe_at], by simp [pe_at], ?_, ?_⟩
  · intro c k h1 h2
    repeat (rw [pe_ne (by omega)])
  · intro h
    cases h
set_option maxHeartbeats 4000000 in
set_option maxRecDepth 100000 in
theorem ero_t1 {L : Nat} {F : Nat → Nat → Int32} {g : Nat → Option Nat} (d : Nat) (l i m : Nat) (el : F 172 7 = nI l) (hl : l ≤ 80) (ea : F 172 8 = nI i) (hi : i ≤ 80) (em : F 172 11 = nI m) (hm : m ≤ 40) (e0 : mSg (F 177) l i = 116) (h1 : mDb (mSg (F 177) l (i + 1)) = true) (hx : mSg (F 177) l (i + 1) = 48) : roE L g d F l i m := by
  have eo : mOrd (F 177) l i = (true, i + 2) := by simp [mOrd, e0, h1, hx, show mDb 48 = true from by decide]
  refine ⟨_, c_ro_t1 d l i m el hl ea hi em hm 0 _ 0 e0 rfl (mDb_t h1) hx, ?_⟩
  rw [eo]
  unfold yro_t1
  refine ⟨by simp [pe_at], by simp [pe_at], by simp [pe_at], ?_, ?_⟩
  · intro c k h1 h2
    repeat (rw [pe_ne (by omega)])
  · intro _
    refine ⟨by simp [pe_at, e0, h1, hx], by simp [pe_at, mA, e0, h1, hx], ?_⟩
    intro h
    rw [e0] at h
    exact absurd h (by decide)
set_option maxHeartbeats 4000000 in
set_option maxRecDepth 100000 in
theorem ero_t2 {L : Nat} {F : Nat → Nat → Int32} {g : Nat → Option Nat} (d : Nat) (l i m : Nat) (el : F 172 7 = nI l) (hl : l ≤ 80) (ea : F 172 8 = nI i) (hi : i ≤ 80) (em : F 172 11 = nI m) (hm : m ≤ 40) (e0 : mSg (F 177) l i = 116) (h1 : mDb (mSg (F 177) l (i + 1)) = true) (hx : ¬ mSg (F 177) l (i + 1) = 48) (h2 : mDb (mSg (F 177) l (i + 2)) = false) : roE L g d F l i m := by
  have eo : mOrd (F 177) l i = (true, i + 2) := by simp [mOrd, e0, h1, hx, h2, show mDb 48 = true from by decide]
  refine ⟨_, c_ro_t2 d l i m el hl ea hi em hm 0 _ _ e0 rfl (mDb_t h1) hx rfl (mDb_f h2), ?_⟩
  rw [eo]
  unfold yro_t2
  refine ⟨by simp [pe_at], by simp [pe_at], by simp [pe_at], ?_, ?_⟩
  · intro c k h1 h2
    repeat (rw [pe_ne (by omega)])
  · intro _
    refine ⟨by simp [pe_at, e0, h1, hx, h2], by simp [pe_at, mA, e0, h1, hx, h2], ?_⟩
    intro h
    rw [e0] at h
    exact absurd h (by decide)
set_option maxHeartbeats 4000000 in
set_option maxRecDepth 100000 in
theorem ero_t3 {L : Nat} {F : Nat → Nat → Int32} {g : Nat → Option Nat} (d : Nat) (l i m : Nat) (el : F 172 7 = nI l) (hl : l ≤ 80) (ea : F 172 8 = nI i) (hi : i ≤ 80) (em : F 172 11 = nI m) (hm : m ≤ 40) (e0 : mSg (F 177) l i = 116) (h1 : mDb (mSg (F 177) l (i + 1)) = true) (hx : ¬ mSg (F 177) l (i + 1) = 48) (h2 : mDb (mSg (F 177) l (i + 2)) = true) : roE L g d F l i m := by
  have eo : mOrd (F 177) l i = (true, i + 3) := by simp [mOrd, e0, h1, hx, h2, show mDb 48 = true from by decide]
  refine ⟨_, c_ro_t3 d l i m el hl ea hi em hm 0 _ _ e0 rfl (mDb_t h1) hx rfl (mDb_t h2), ?_⟩
  rw [eo]
  unfold yro_t3
  refine ⟨by simp [pe_at], by simp [pe_at], by simp [pe_at], ?_, ?_⟩
  · intro c k h1 h2
    repeat (rw [pe_ne (by omega)])
  · intro _
    refine ⟨by simp [pe_at, e0, h1, hx, h2], by simp [pe_at, mA, e0, h1, hx, h2], ?_⟩
    intro h
    rw [e0] at h
    exact absurd h (by decide)
set_option maxHeartbeats 4000000 in
set_option maxRecDepth 100000 in
theorem ero_g0 {L : Nat} {F : Nat → Nat → Int32} {g : Nat → Option Nat} (d : Nat) (l i m : Nat) (el : F 172 7 = nI l) (hl : l ≤ 80) (ea : F 172 8 = nI i) (hi : i ≤ 80) (em : F 172 11 = nI m) (hm : m ≤ 40) (e0 : mSg (F 177) l i = 103) (h1 : mDb (mSg (F 177) l (i + 1)) = false) : roE L g d F l i m := by
  have eo : mOrd (F 177) l i = (false, i + 1) := by simp [mOrd, e0, h1, show mDb 48 = true from by decide]
  refine ⟨_, c_ro_g0 d l i m el hl ea hi em hm 0 _ 0 0 e0 rfl (mDb_f h1), ?_⟩
  rw [eo]
  unfold yro_g0
  refine ⟨by simp [pe_at], by simp [pe_at], by simp [pe_at], ?_, ?_⟩
  · intro c k h1 h2
    repeat (rw [pe_ne (by omega)])
  · intro h
    cases h
set_option maxHeartbeats 4000000 in
set_option maxRecDepth 100000 in
theorem ero_g1 {L : Nat} {F : Nat → Nat → Int32} {g : Nat → Option Nat} (d : Nat) (l i m : Nat) (el : F 172 7 = nI l) (hl : l ≤ 80) (ea : F 172 8 = nI i) (hi : i ≤ 80) (em : F 172 11 = nI m) (hm : m ≤ 40) (e0 : mSg (F 177) l i = 103) (h1 : mDb (mSg (F 177) l (i + 1)) = true) (h2 : ¬ mSg (F 177) l (i + 2) = 46) : roE L g d F l i m := by
  have eo : mOrd (F 177) l i = (false, i + 2) := by simp [mOrd, e0, h1, h2, show mDb 48 = true from by decide]
  refine ⟨_, c_ro_g1 d l i m el hl ea hi em hm 0 _ _ 0 e0 rfl (mDb_t h1) rfl h2, ?_⟩
  rw [eo]
  unfold yro_g1
  refine ⟨by simp [pe_at], by simp [pe_at], by simp [pe_at], ?_, ?_⟩
  · intro c k h1 h2
    repeat (rw [pe_ne (by omega)])
  · intro h
    cases h
set_option maxHeartbeats 4000000 in
set_option maxRecDepth 100000 in
theorem ero_g2 {L : Nat} {F : Nat → Nat → Int32} {g : Nat → Option Nat} (d : Nat) (l i m : Nat) (el : F 172 7 = nI l) (hl : l ≤ 80) (ea : F 172 8 = nI i) (hi : i ≤ 80) (em : F 172 11 = nI m) (hm : m ≤ 40) (e0 : mSg (F 177) l i = 103) (h1 : mDb (mSg (F 177) l (i + 1)) = true) (h2 : mSg (F 177) l (i + 2) = 46) (h3 : mDb (mSg (F 177) l (i + 3)) = false) : roE L g d F l i m := by
  have eo : mOrd (F 177) l i = (false, i + 3) := by simp [mOrd, e0, h1, h2, h3, show mDb 48 = true from by decide]
  refine ⟨_, c_ro_g2 d l i m el hl ea hi em hm 0 _ _ _ e0 rfl (mDb_t h1) rfl h2 rfl (mDb_f h3), ?_⟩
  rw [eo]
  unfold yro_g2
  refine ⟨by simp [pe_at], by simp [pe_at], by simp [pe_at], ?_, ?_⟩
  · intro c k h1 h2
    repeat (rw [pe_ne (by omega)])
  · intro h
    cases h
set_option maxHeartbeats 4000000 in
set_option maxRecDepth 100000 in
theorem ero_g3 {L : Nat} {F : Nat → Nat → Int32} {g : Nat → Option Nat} (d : Nat) (l i m : Nat) (el : F 172 7 = nI l) (hl : l ≤ 80) (ea : F 172 8 = nI i) (hi : i ≤ 80) (em : F 172 11 = nI m) (hm : m ≤ 40) (e0 : mSg (F 177) l i = 103) (h1 : mDb (mSg (F 177) l (i + 1)) = true) (h2 : mSg (F 177) l (i + 2) = 46) (h3 : mDb (mSg (F 177) l (i + 3)) = true) : roE L g d F l i m := by
  have eo : mOrd (F 177) l i = (true, i + 4) := by simp [mOrd, e0, h1, h2, h3, show mDb 48 = true from by decide]
  refine ⟨_, c_ro_g3 d l i m el hl ea hi em hm 0 _ _ _ e0 rfl (mDb_t h1) rfl h2 rfl (mDb_t h3), ?_⟩
  rw [eo]
  unfold yro_g3
  refine ⟨by simp [pe_at], by simp [pe_at], by simp [pe_at], ?_, ?_⟩
  · intro c k h1 h2
    repeat (rw [pe_ne (by omega)])
  · intro _
    refine ⟨by simp [pe_at, e0, h1, h2, h3], by simp [pe_at, mA, e0, h1, h2, h3], ?_⟩
    intro _
    simp [pe_at]
set_option maxHeartbeats 4000000 in
set_option maxRecDepth 100000 in
theorem ero_no {L : Nat} {F : Nat → Nat → Int32} {g : Nat → Option Nat} (d : Nat) (l i m : Nat) (el : F 172 7 = nI l) (hl : l ≤ 80) (ea : F 172 8 = nI i) (hi : i ≤ 80) (em : F 172 11 = nI m) (hm : m ≤ 40) (n103 : ¬ mSg (F 177) l i = 103) (n120 : ¬ mSg (F 177) l i = 120) (n112 : ¬ mSg (F 177) l i = 112) (n101 : ¬ mSg (F 177) l i = 101) (n119 : ¬ mSg (F 177) l i = 119) (n99 : ¬ mSg (F 177) l i = 99) (n116 : ¬ mSg (F 177) l i = 116) : roE L g d F l i m := by
  have eo : mOrd (F 177) l i = (false, i) := by simp [mOrd, n103, n120, n112, n101, n119, n99, n116, show mDb 48 = true from by decide]
  refine ⟨_, c_ro_no d l i m el hl ea hi em hm _ 0 0 rfl n103 n120 n112 n101 n119 n99 n116, ?_⟩
  rw [eo]
  unfold yro_no
  refine ⟨by simp [pe_at, ea], by simp [pe_at], by simp [pe_at], ?_, ?_⟩
  · intro c k h1 h2
    repeat (rw [pe_ne (by omega)])
  · intro h
    cases h
theorem e_ro {L : Nat} {F : Nat → Nat → Int32} {g : Nat → Option Nat} (d : Nat) (l i m : Nat) (el : F 172 7 = nI l) (hl : l ≤ 80) (ea : F 172 8 = nI i) (hi : i ≤ 80) (em : F 172 11 = nI m) (hm : m ≤ 40) : roE L g d F l i m := by
  by_cases n103 : mSg (F 177) l i = 103
  · cases h1 : mDb (mSg (F 177) l (i + 1))
    · exact ero_g0 d l i m el hl ea hi em hm n103 h1
    · by_cases h2 : mSg (F 177) l (i + 2) = 46
      · cases h3 : mDb (mSg (F 177) l (i + 3))
        · exact ero_g2 d l i m el hl ea hi em hm n103 h1 h2 h3
        · exact ero_g3 d l i m el hl ea hi em hm n103 h1 h2 h3
      · exact ero_g1 d l i m el hl ea hi em hm n103 h1 h2
  by_cases n112 : mSg (F 177) l i = 112
  · cases h1 : mDb (mSg (F 177) l (i + 1))
    · exact ero_p0 d l i m el hl ea hi em hm n112 h1
    · exact ero_p1 d l i m el hl ea hi em hm n112 h1
  by_cases n101 : mSg (F 177) l i = 101
  · cases h1 : mDb (mSg (F 177) l (i + 1))
    · exact ero_e0 d l i m el hl ea hi em hm n101 h1
    · exact ero_e1 d l i m el hl ea hi em hm n101 h1
  by_cases n120 : mSg (F 177) l i = 120
  · cases h1 : mDb (mSg (F 177) l (i + 1))
    · exact ero_x0 d l i m el hl ea hi em hm n120 h1
    · by_cases hx : mSg (F 177) l (i + 1) = 48
      · exact ero_x1 d l i m el hl ea hi em hm n120 h1 hx
      · cases h2 : mDb (mSg (F 177) l (i + 2))
        · exact ero_x2 d l i m el hl ea hi em hm n120 h1 hx h2
        · exact ero_x3 d l i m el hl ea hi em hm n120 h1 hx h2
  by_cases n119 : mSg (F 177) l i = 119
  · cases h1 : mDb (mSg (F 177) l (i + 1))
    · exact ero_w0 d l i m el hl ea hi em hm n119 h1
    · by_cases hx : mSg (F 177) l (i + 1) = 48
      · exact ero_w1 d l i m el hl ea hi em hm n119 h1 hx
      · cases h2 : mDb (mSg (F 177) l (i + 2))
        · exact ero_w2 d l i m el hl ea hi em hm n119 h1 hx h2
        · exact ero_w3 d l i m el hl ea hi em hm n119 h1 hx h2
  by_cases n99 : mSg (F 177) l i = 99
  · cases h1 : mDb (mSg (F 177) l (i + 1))
    · exact ero_c0 d l i m el hl ea hi em hm n99 h1
    · by_cases hx : mSg (F 177) l (i + 1) = 48
      · exact ero_c1 d l i m el hl ea hi em hm n99 h1 hx
      · cases h2 : mDb (mSg (F 177) l (i + 2))
        · exact ero_c2 d l i m el hl ea hi em hm n99 h1 hx h2
        · exact ero_c3 d l i m el hl ea hi em hm n99 h1 hx h2
  by_cases n116 : mSg (F 177) l i = 116
  · cases h1 : mDb (mSg (F 177) l (i + 1))
    · exact ero_t0 d l i m el hl ea hi em hm n116 h1
    · by_cases hx : mSg (F 177) l (i + 1) = 48
      · exact ero_t1 d l i m el hl ea hi em hm n116 h1 hx
      · cases h2 : mDb (mSg (F 177) l (i + 2))
        · exact ero_t2 d l i m el hl ea hi em hm n116 h1 hx h2
        · exact ero_t3 d l i m el hl ea hi em hm n116 h1 hx h2
  exact ero_no d l i m el hl ea hi em hm n103 n120 n112 n101 n119 n99 n116
set_option maxHeartbeats 4000000 in
set_option maxRecDepth 100000 in
theorem lp_rd_bad {L : Nat} {F : Nat → Nat → Int32} {g : Nat → Option Nat} (d : Nat) (l j : Nat) (el : F 172 7 = nI l) (hl : l ≤ 80) (ea : F 172 8 = nI j) (hj : j ≤ 80) (e9 : F 172 9 = 0) : mGo MX7_reads (d + 4) (14, [some (.ref 172)], [], mHX L F g) (some (.int (nI j)), mHX L F g) := by
  refine g_aload_n dX7_reads_14 rfl ?_
  refine g_gI dX7_reads_15 fl_X7_154 (fun _ _ => rfl) rfl (by decide) ?_
  refine g_if_eq (tgt := 85) dX7_reads_18 (by decide) (fun c18 => ?_) (fun c18 => absurd e9 c18)
  refine g_aload_n dX7_reads_85 rfl ?_
  refine g_gI dX7_reads_86 fl_X7_154 (fun _ _ => rfl) rfl (by decide) ?_
  refine g_if_eq (tgt := 97) dX7_reads_89 (by decide) (fun c89 => ?_) (fun c89 => absurd e9 c89)
  refine g_aload_n dX7_reads_97 rfl ?_
  refine g_gI dX7_reads_98 fl_X7_151 (fun _ _ => rfl) rfl (by decide) ?_
  exact g_iret dX7_reads_101 (m_ret ea.symm)
set_option maxHeartbeats 4000000 in
set_option maxRecDepth 100000 in
theorem lp_rd_end {L : Nat} {F : Nat → Nat → Int32} {g : Nat → Option Nat} (d : Nat) (l j : Nat) (el : F 172 7 = nI l) (hl : l ≤ 80) (ea : F 172 8 = nI j) (hj : j ≤ 80) (e9 : F 172 9 = 1) (h : l ≤ j) : mGo MX7_reads (d + 4) (14, [some (.ref 172)], [], mHX L F g) (some (.int (-6)), mHX L F g) := by
  refine g_aload_n dX7_reads_14 rfl ?_
  refine g_gI dX7_reads_15 fl_X7_154 (fun _ _ => rfl) rfl (by decide) ?_
  refine g_if_eq (tgt := 85) dX7_reads_18 (by decide) (fun c18 => absurd c18 (by rw [e9]; decide)) (fun c18 => ?_)
  refine g_aload_n dX7_reads_21 rfl ?_
  refine g_gI dX7_reads_22 fl_X7_151 (fun _ _ => rfl) rfl (by decide) ?_
  refine g_aload_n dX7_reads_25 rfl ?_
  refine g_gI dX7_reads_26 fl_X7_146 (fun _ _ => rfl) rfl (by decide) ?_
  refine g_icmp_ge (tgt := 85) dX7_reads_29 (by decide) (fun c29 => ?_) (fun c29 => absurd (by rw [ea, el]; exact nI_le h (by omega)) c29)
  refine g_aload_n dX7_reads_85 rfl ?_
  refine g_gI dX7_reads_86 fl_X7_154 (fun _ _ => rfl) rfl (by decide) ?_
  refine g_if_eq (tgt := 97) dX7_reads_89 (by decide) (fun c89 => absurd c89 (by rw [e9]; decide)) (fun c89 => ?_)
  refine g_bipushv (v := (-6)) dX7_reads_92 rfl ?_
  refine g_goto (tgt := 101) dX7_reads_94 (by decide) ?_
  exact g_iret dX7_reads_101 rfl
set_option maxHeartbeats 4000000 in
set_option maxRecDepth 100000 in
theorem lp_rd_not {L : Nat} {F : Nat → Nat → Int32} {g : Nat → Option Nat} (d : Nat) (l j : Nat) (el : F 172 7 = nI l) (hl : l ≤ 80) (ea : F 172 8 = nI j) (hj : j ≤ 80) (e9 : F 172 9 = 1) (h : j < l) (x : Int32) (es : mSg (F 177) l j = x) (hx : ¬ x = 59) : mGo MX7_reads (d + 4) (14, [some (.ref 172)], [], mHX L F g) (some (.int (nI j)), mHX L (pe F 172 9 0) g) := by
  refine g_aload_n dX7_reads_14 rfl ?_
  refine g_gI dX7_reads_15 fl_X7_154 (fun _ _ => rfl) rfl (by decide) ?_
  refine g_if_eq (tgt := 85) dX7_reads_18 (by decide) (fun c18 => absurd c18 (by rw [e9]; decide)) (fun c18 => ?_)
  refine g_aload_n dX7_reads_21 rfl ?_
  refine g_gI dX7_reads_22 fl_X7_151 (fun _ _ => rfl) rfl (by decide) ?_
  refine g_aload_n dX7_reads_25 rfl ?_
  refine g_gI dX7_reads_26 fl_X7_146 (fun _ _ => rfl) rfl (by decide) ?_
  refine g_icmp_ge (tgt := 85) dX7_reads_29 (by decide) (fun c29 => absurd c29 (by rw [ea, el]; exact nI_ge h (by omega))) (fun c29 => ?_)
  refine g_aload_n dX7_reads_32 rfl ?_
  refine g_aload_n dX7_reads_33 rfl ?_
  refine g_V0i dX7_reads_34 ml_X7_158 sX7_sign rfl (by decide) (Nat.le_of_ble_eq_true rfl) (c_sign (d + 3) l j el hl ea (by omega) x es) ?_
  refine g_bipushv (v := 59) dX7_reads_37 rfl ?_
  refine g_icmp_ne (tgt := 46) dX7_reads_39 (by decide) (fun c39 => ?_) (fun c39 => absurd c39 hx)
  refine g_iconstv (v := 0) dX7_reads_46 rfl ?_
  refine g_pZ dX7_reads_47 fl_X7_154 (Or.inl rfl) rfl (by decide) rfl (by first | exact Or.inl rfl | exact Or.inr rfl) ?_
  refine g_aload_n dX7_reads_50 rfl ?_
  refine g_dup dX7_reads_51 rfl ?_
  refine g_gI dX7_reads_52 fl_X7_151 (fun _ _ => rfl) rfl (by decide) ?_
  refine g_aload_n dX7_reads_55 rfl ?_
  refine g_gI dX7_reads_56 fl_X7_154 (fun _ _ => rfl) rfl (by decide) ?_
  refine g_if_eq (tgt := 66) dX7_reads_59 (by decide) (fun c59 => ?_) (fun c59 => absurd (pe_eq _ _ _ _) c59)
  refine g_iconstv (v := 0) dX7_reads_66 rfl ?_
  refine g_iadd dX7_reads_67 ?_
  rw [Int32.add_zero]
  refine g_pI dX7_reads_68 fl_X7_151 (Or.inl rfl) rfl (by decide) rfl ?_
  rw [pe_id rfl]
  refine g_aload_n dX7_reads_71 rfl ?_
  refine g_gI dX7_reads_72 fl_X7_154 (fun _ _ => rfl) rfl (by decide) ?_
  refine g_if_eq (tgt := 14) dX7_reads_75 (by decide) (fun c75 => ?_) (fun c75 => absurd (pe_eq _ _ _ _) c75)
  refine g_aload_n dX7_reads_14 rfl ?_
  refine g_gI dX7_reads_15 fl_X7_154 (fun _ _ => rfl) rfl (by decide) ?_
  refine g_if_eq (tgt := 85) dX7_reads_18 (by decide) (fun c18 => ?_) (fun c18 => absurd (pe_eq _ _ _ _) c18)
  refine g_aload_n dX7_reads_85 rfl ?_
  refine g_gI dX7_reads_86 fl_X7_154 (fun _ _ => rfl) rfl (by decide) ?_
  refine g_if_eq (tgt := 97) dX7_reads_89 (by decide) (fun c89 => ?_) (fun c89 => absurd (pe_eq _ _ _ _) c89)
  refine g_aload_n dX7_reads_97 rfl ?_
  refine g_gI dX7_reads_98 fl_X7_151 (fun _ _ => rfl) rfl (by decide) ?_
  exact g_iret dX7_reads_101 (m_ret (by rw [pe_ne (by decide)]; exact ea.symm))
set_option maxHeartbeats 4000000 in
set_option maxRecDepth 100000 in
theorem lp_rd_yes {L : Nat} {F : Nat → Nat → Int32} {g : Nat → Option Nat} (d : Nat) (l j : Nat) (el : F 172 7 = nI l) (hl : l ≤ 80) (ea : F 172 8 = nI j) (hj : j ≤ 80) (e9 : F 172 9 = 1) (h : j < l) (es : mSg (F 177) l j = 59) (F1 : Nat → Nat → Int32) (H : mCall (d + 3) yX7_readsOrder MX7_readsOrder [.ref 172] (mHX L (pe F 172 8 (nI (j + 1))) g) none (mHX L F1 g)) (out : mOut) (K : mGo MX7_reads (d + 4) (14, [some (.ref 172)], [], mHX L F1 g) out) : mGo MX7_reads (d + 4) (14, [some (.ref 172)], [], mHX L F g) out := by
  refine g_aload_n dX7_reads_14 rfl ?_
  refine g_gI dX7_reads_15 fl_X7_154 (fun _ _ => rfl) rfl (by decide) ?_
  refine g_if_eq (tgt := 85) dX7_reads_18 (by decide) (fun c18 => absurd c18 (by rw [e9]; decide)) (fun c18 => ?_)
  refine g_aload_n dX7_reads_21 rfl ?_
  refine g_gI dX7_reads_22 fl_X7_151 (fun _ _ => rfl) rfl (by decide) ?_
  refine g_aload_n dX7_reads_25 rfl ?_
  refine g_gI dX7_reads_26 fl_X7_146 (fun _ _ => rfl) rfl (by decide) ?_
  refine g_icmp_ge (tgt := 85) dX7_reads_29 (by decide) (fun c29 => absurd c29 (by rw [ea, el]; exact nI_ge h (by omega))) (fun c29 => ?_)
  refine g_aload_n dX7_reads_32 rfl ?_
  refine g_aload_n dX7_reads_33 rfl ?_
  refine g_V0i dX7_reads_34 ml_X7_158 sX7_sign rfl (by decide) (Nat.le_of_ble_eq_true rfl) (c_sign (d + 3) l j el hl ea (by omega) 59 es) ?_
  refine g_bipushv (v := 59) dX7_reads_37 rfl ?_
  refine g_icmp_ne (tgt := 46) dX7_reads_39 (by decide) (fun c39 => absurd (by decide) c39) (fun c39 => ?_)
  refine g_iconstv (v := 1) dX7_reads_42 rfl ?_
  refine g_goto (tgt := 47) dX7_reads_43 (by decide) ?_
  refine g_pZ dX7_reads_47 fl_X7_154 (Or.inl rfl) rfl (by decide) rfl (by first | exact Or.inl rfl | exact Or.inr rfl) ?_
  rw [pe_id e9]
  refine g_aload_n dX7_reads_50 rfl ?_
  refine g_dup dX7_reads_51 rfl ?_
  refine g_gI dX7_reads_52 fl_X7_151 (fun _ _ => rfl) rfl (by decide) ?_
  refine g_aload_n dX7_reads_55 rfl ?_
  refine g_gI dX7_reads_56 fl_X7_154 (fun _ _ => rfl) rfl (by decide) ?_
  refine g_if_eq (tgt := 66) dX7_reads_59 (by decide) (fun c59 => absurd c59 (by rw [e9]; decide)) (fun c59 => ?_)
  refine g_iconstv (v := 1) dX7_reads_62 rfl ?_
  refine g_goto (tgt := 67) dX7_reads_63 (by decide) ?_
  refine g_iadd dX7_reads_67 ?_
  rw [ea, nI_1]
  refine g_pI dX7_reads_68 fl_X7_151 (Or.inl rfl) rfl (by decide) rfl ?_
  refine g_aload_n dX7_reads_71 rfl ?_
  refine g_gI dX7_reads_72 fl_X7_154 (fun _ _ => rfl) rfl (by decide) ?_
  refine g_if_eq (tgt := 14) dX7_reads_75 (by decide) (fun c75 => absurd c75 (by rw [pe_ne (by decide), e9]; decide)) (fun c75 => ?_)
  refine g_aload_n dX7_reads_78 rfl ?_
  refine g_V0v dX7_reads_79 ml_X7_170 sX7_readsOrder rfl (by decide) (Nat.le_of_ble_eq_true rfl) (H) ?_
  refine g_goto (tgt := 14) dX7_reads_82 (by decide) ?_
  exact K
set_option maxHeartbeats 4000000 in
set_option maxRecDepth 100000 in
theorem c_rd0 {L : Nat} {F : Nat → Nat → Int32} {g : Nat → Option Nat} (d : Nat) (F1 : Nat → Nat → Int32) (H : mCall (d + 3) yX7_readsOrder MX7_readsOrder [.ref 172] (mHX L (pe (pe F 172 8 0) 172 11 0) g) none (mHX L F1 g)) (r : Int32) (hp1 : mHp) (K : mGo MX7_reads (d + 4) (14, [some (.ref 172)], [], mHX L F1 g) (some (.int r), hp1)) : mCall (d + 4) yX7_reads MX7_reads [.ref 172] (mHX L F g) (some (.int r)) (hp1) := by
  refine mCall_of sX7_reads.1 (Nat.le_of_ble_eq_true rfl) ⟨_, rfl, rfl⟩ ?_
  show mGo _ _ (0, [some (.ref 172)], [], _) _
  refine g_aload_n dX7_reads_0 rfl ?_
  refine g_iconstv (v := 0) dX7_reads_1 rfl ?_
  refine g_pI dX7_reads_2 fl_X7_151 (Or.inl rfl) rfl (by decide) rfl ?_
  refine g_aload_n dX7_reads_5 rfl ?_
  refine g_iconstv (v := 0) dX7_reads_6 rfl ?_
  refine g_pI dX7_reads_7 fl_X7_164 (Or.inl rfl) rfl (by decide) rfl ?_
  refine g_aload_n dX7_reads_10 rfl ?_
  refine g_V0v dX7_reads_11 ml_X7_170 sX7_readsOrder rfl (by decide) (Nat.le_of_ble_eq_true rfl) (H) ?_
  exact K
