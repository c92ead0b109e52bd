def iv_JM (g : jv_Mem) (p m w x : Int) (gl : jv_Mem) : Prop :=
  (∀ s, 0 ≤ s → s < 6 → gl 143 s = if s < x then g 143 s + iv_pb (g (90 + 6 * s + 4)) w p 9 else g 143 s) ∧
  (∀ s q c, 0 ≤ s → s < 6 → 0 ≤ q → q < 20 → 0 ≤ c → c < 9 → gl 145 (((180 * s) + (9 * q)) + c) = if s < x ∧ q = p ∧ iv_bit m c = 1 then 0 else g 145 (((180 * s) + (9 * q)) + c)) ∧
  (∀ s d, 0 ≤ s → s < 6 → 0 ≤ d → d < 1252 → gl 147 ((1260 * s) + d) = if s < x then iv_jc g p m s d else g 147 ((1260 * s) + d))
