/-! small methods -/
theorem u_isIndex {a0 a1 : Int} {Q : Int → jv_Mem → Prop} {g : jv_Mem} (r0 : jv_r a0) (r1 : jv_r a1) (h1 : 0 ≤ a0 ∧ a0 < a1 → Q 1 g) (h2 : ¬ (0 ≤ a0 ∧ a0 < a1) → Q 0 g) : wp_X8_isIndex a0 a1 Q g :=
  ⟨r0, fun h => h2 (by omega), fun h => ⟨⟨r0, r1⟩, fun h' => h2 (by omega), fun h' => h1 ⟨h, h'⟩⟩⟩
theorem u_needIndex {a0 a1 : Int} {Q : jv_Mem → Prop} {Qx : String → jv_Mem → Prop} {g : jv_Mem} (r0 : jv_r a0) (r1 : jv_r a1) (h1 : 0 ≤ a0 ∧ a0 < a1 → Q g) (h2 : ¬ (0 ≤ a0 ∧ a0 < a1) → Qx "java/lang/IndexOutOfBoundsException" g) : wp_X8_needIndex a0 a1 Q Qx g :=
  u_isIndex r0 r1 (fun h => ⟨by unfold jv_r; omega, fun _ => h1 h, fun h' => absurd h' (by omega)⟩) (fun h => ⟨by unfold jv_r; omega, fun h' => absurd rfl h', fun _ => h2 h⟩)
theorem u_needRange {a0 a1 a2 : Int} {Q : jv_Mem → Prop} {Qx : String → jv_Mem → Prop} {g : jv_Mem} (r0 : jv_r a0) (r1 : jv_r a1) (r2 : jv_r a2) (h1 : a1 ≤ a0 ∧ a0 ≤ a2 → Q g) (h2 : ¬ (a1 ≤ a0 ∧ a0 ≤ a2) → Qx "java/lang/IllegalArgumentException" g) : wp_X8_needRange a0 a1 a2 Q Qx g :=
  ⟨⟨r0, r1⟩, fun h => h2 (by omega), fun h => ⟨⟨r0, r2⟩, fun h' => h1 ⟨h, h'⟩, fun h' => h2 (by omega)⟩⟩
theorem u_in {a0 a1 a2 : Int} {Q : Int → jv_Mem → Prop} {g : jv_Mem} (r0 : jv_r a0) (r1 : jv_r a1) (r2 : jv_r a2) (h1 : a1 ≤ a0 ∧ a0 ≤ a2 → Q 1 g) (h2 : ¬ (a1 ≤ a0 ∧ a0 ≤ a2) → Q 0 g) : wp_X9_in a0 a1 a2 Q g :=
  ⟨⟨r0, r1⟩, fun h => h2 (by omega), fun h => ⟨⟨r0, r2⟩, fun h' => h2 (by omega), fun h' => h1 ⟨h, h'⟩⟩⟩
theorem u_isPuzzle {a : Int} {Q : Int → jv_Mem → Prop} {g : jv_Mem} (r0 : jv_r a) (hn : 0 ≤ g 126 16 ∧ g 126 16 ≤ 20) (h1 : 0 ≤ a ∧ a < g 126 16 → Q 1 g) (h2 : ¬ (0 ≤ a ∧ a < g 126 16) → Q 0 g) : wp_X9_isPuzzle a Q g :=
  u_in r0 (by unfold jv_r; omega) (by unfold jv_r; omega) (fun h => ⟨Or.inr rfl, h1 (by omega)⟩) (fun h => ⟨Or.inl rfl, h2 (by omega)⟩)
theorem u_isSolver {a : Int} {Q : Int → jv_Mem → Prop} {g : jv_Mem} (r0 : jv_r a) (hn : 0 ≤ g 126 22 ∧ g 126 22 ≤ 6) (h1 : 0 ≤ a ∧ a < g 126 22 → Q 1 g) (h2 : ¬ (0 ≤ a ∧ a < g 126 22) → Q 0 g) : wp_X9_isSolver a Q g :=
  u_in r0 (by unfold jv_r; omega) (by unfold jv_r; omega) (fun h => ⟨Or.inr rfl, h1 (by omega)⟩) (fun h => ⟨Or.inl rfl, h2 (by omega)⟩)
theorem r01 : jv_r 0 ∧ jv_r 1 ∧ jv_r 2 := by unfold jv_r; omega
