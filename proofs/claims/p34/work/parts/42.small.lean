/-! small methods -/
theorem u_isIndex {a0 a1 : Int} {Q : Int → jv_Mem → Prop} {g : jv_Mem} (r0 : jv_r a0) (r1 : jv_r a1) (h1 : 0 ≤ a0 ∧ a0 < a1 → Q 1 g) (h2 : ¬ (0 ≤ a0 ∧ a0 < a1) → Q 0 g) : wp_X8_isIndex a0 a1 Q g :=
  ⟨r0, fun h => h2 (by omega), fun h => ⟨⟨r0, r1⟩, fun h' => h2 (by omega), fun h' => h1 ⟨h, h'⟩⟩⟩
theorem u_needIndex {a0 a1 : Int} {Q : jv_Mem → Prop} {g : jv_Mem} (r1 : jv_r a1) (h : 0 ≤ a0 ∧ a0 < a1) (hQ : Q g) : wp_X8_needIndex a0 a1 Q g :=
  u_isIndex ⟨by omega, by have := r1.2; omega⟩ r1 (fun _ => ⟨by unfold jv_r; omega, fun _ => hQ, fun h' => absurd h' (by omega)⟩) (fun h' => absurd h h')
theorem u_needRange {a0 a1 a2 : Int} {Q : jv_Mem → Prop} {g : jv_Mem} (r1 : jv_r a1) (r2 : jv_r a2) (h : a1 ≤ a0 ∧ a0 ≤ a2) (hQ : Q g) : wp_X8_needRange a0 a1 a2 Q g :=
  ⟨⟨⟨by have := r1.1; omega, by have := r2.2; omega⟩, r1⟩, fun h' => absurd h' (by omega), fun _ => ⟨⟨⟨by have := r1.1; omega, by have := r2.2; omega⟩, r2⟩, fun _ => hQ, fun h' => absurd h' (by omega)⟩⟩
theorem r01 : jv_r 0 ∧ jv_r 1 ∧ jv_r 2 := by unfold jv_r; omega

