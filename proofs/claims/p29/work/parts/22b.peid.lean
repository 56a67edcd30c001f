theorem pe_id {F : Nat → Nat → Int32} {c k : Nat} {v : Int32} (h : F c k = v) : pe F c k v = F := by
  funext a b
  rw [pe_at]
  split
  · next q => rw [q.1, q.2, h]
  · rfl
