theorem jv_up_self {g : jv_Mem} {i k v : Int} (h : v = g i k) : jv_up g i k v = g := by
  funext a b
  unfold jv_up
  split
  · rename_i h1; rw [h1.1, h1.2, h]
  · rfl
