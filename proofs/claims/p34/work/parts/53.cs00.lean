theorem u_room {Q : jv_Mem → Prop} {g : jv_Mem} (n0 : 0 ≤ g 1 1) (n1 : g 1 1 < 3) (hQ : Q g) : wp_X8_needRoomForLetter Q g := by
  unfold wp_X8_needRoomForLetter wp_X5_isFull
  exact ⟨(by unfold jv_r; omega), fun hl => ⟨(by unfold jv_r; omega), fun _ => hQ, fun h9 => absurd rfl h9⟩, fun hl => absurd hl (by omega)⟩
theorem u_spellX {a : Int} {Q : Int → jv_Mem → Prop} {g : jv_Mem} (h : 0 ≤ a ∧ a < 9) (n0 : 0 ≤ g 1 1) (hl : g 1 1 < 3) (hs : ∀ i, 0 ≤ i → i < g 1 1 → 0 ≤ g 2 i ∧ g 2 i < 9) (h1 : Q (iv_cd (jv_up g 2 (g 1 1) a 2) 0 (g 1 1 + 1).toNat) (jv_up (jv_up g 2 (g 1 1) a) 1 1 (g 1 1 + 1))) : wp_X8_spell a Q g := by
  unfold wp_X8_spell
  refine u_needIndex (by unfold jv_r; omega) h (u_room n0 hl ?_)
  unfold wp_X5_putAtEnd
  refine ⟨by omega, ?_⟩
  rintro g1 rfl g2 rfl
  have e : jv_up g 2 (g 1 1) a 1 1 = g 1 1 := jv_up_n (by omega)
  rw [e]
  have e2 : jv_up (jv_up g 2 (g 1 1) a) 1 1 (g 1 1 + 1) 2 = jv_up g 2 (g 1 1) a 2 := jv_up_row (by omega)
  have e3 : jv_up (jv_up g 2 (g 1 1) a) 1 1 (g 1 1 + 1) 1 1 = g 1 1 + 1 := jv_up_e rfl rfl
  refine u_charCount (by rw [e3]; omega) (by rw [e3]; omega) (fun i i0 i1 => ?_) ?_
  · rw [e3] at i1
    rw [e2]
    by_cases e4 : i = g 1 1
    · rw [jv_up_e rfl e4]; unfold jv_r; omega
    · rw [jv_up_n (by omega)]; have := hs i i0 (by omega); unfold jv_r; omega
  · rw [e2, e3]; exact h1
