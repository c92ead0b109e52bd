theorem u_insertX {a : Int} {Q : Int → jv_Mem → Prop} {g : jv_Mem} (h : 0 ≤ a ∧ a < 9) (n0 : 0 ≤ g 1 1) (hl : g 1 1 < 3) (hs : ∀ i, 0 ≤ i → i < g 1 1 → 0 ≤ g 2 i ∧ g 2 i < 9) (h1 : ∀ g' : jv_Mem, (∀ i k, i ≠ 2 → ¬ (i = 1 ∧ k = 1) → g' i k = g i k) → g' 1 1 = g 1 1 + 1 → g' 2 0 = a → (∀ j, 1 ≤ j → j ≤ g 1 1 → g' 2 j = g 2 (j - 1)) → Q (iv_cd (g' 2) 0 (g 1 1 + 1).toNat) g') : wp_X8_insert a Q g := by
  unfold wp_X8_insert
  refine u_needIndex (by unfold jv_r; omega) h (u_room n0 hl ?_)
  unfold wp_X5_putAtBeginning
  rintro v2 rfl
  refine ⟨fun n x2 gl => 0 ≤ x2 ∧ x2 ≤ g 1 1 ∧ (∀ i k, i ≠ 2 → gl i k = g i k) ∧ (∀ j, 0 ≤ j → j ≤ x2 → gl 2 j = g 2 j) ∧ (∀ j, x2 < j → j ≤ g 1 1 → gl 2 j = g 2 (j - 1)) ∧ n = x2.toNat, ⟨_, n0, by omega, fun _ _ _ => rfl, fun _ _ _ => rfl, fun j j0 j1 => by omega, rfl⟩, ?_⟩
  rintro n x2 gl ⟨a0, a1, a2, a3, a4, a5⟩
  refine ⟨(by unfold jv_r; omega), fun hz => ⟨by omega, ?_⟩, fun hz => ⟨by omega, by omega, ?_⟩⟩
  · rintro g1 rfl g2 rfl
    have e : jv_up gl 2 0 a 1 1 = g 1 1 := by rw [jv_up_n (by omega)]; exact a2 1 1 (by omega)
    rw [e]
    have e3 : jv_up (jv_up gl 2 0 a) 1 1 (g 1 1 + 1) 1 1 = g 1 1 + 1 := jv_up_e rfl rfl
    have e4 : jv_up (jv_up gl 2 0 a) 1 1 (g 1 1 + 1) 2 0 = a := by rw [jv_up_n (by omega), jv_up_e rfl rfl]
    have e5 : ∀ j, 1 ≤ j → j ≤ g 1 1 → jv_up (jv_up gl 2 0 a) 1 1 (g 1 1 + 1) 2 j = g 2 (j - 1) := fun j j0 j1 => by rw [jv_up_n (by omega), jv_up_n (by omega)]; exact a4 j (by omega) j1
    refine u_charCount (by rw [e3]; omega) (by rw [e3]; omega) (fun i i0 i1 => ?_) ?_
    · rw [e3] at i1
      by_cases ei : i = 0
      · rw [ei, e4]; unfold jv_r; omega
      · rw [e5 i (by omega) (by omega)]; have := hs (i - 1) (by omega) (by omega); unfold jv_r; omega
    · have := h1 (jv_up (jv_up gl 2 0 a) 1 1 (g 1 1 + 1)) (fun i k p q => by rw [jv_up_n q, jv_up_n (fun hh => p hh.1)]; exact a2 i k p) e3 e4 e5
      rw [e3]; exact this
  · rintro g1 rfl v3 e3
    refine ⟨v3.toNat, by omega, by omega, by omega, fun i k p => by rw [jv_up_n (fun hh => p hh.1)]; exact a2 i k p, fun j j0 j1 => by rw [jv_up_n (by omega)]; exact a3 j j0 (by omega), fun j j0 j1 => ?_, rfl⟩
    by_cases ej : j = x2
    · rw [jv_up_e rfl ej, ej]; exact a3 (x2 - 1) (by omega) (by omega)
    · rw [jv_up_n (by omega)]; exact a4 j (by omega) j1
