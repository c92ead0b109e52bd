theorem cs_7 {L : Nat} {xs : Nat → Int32} (hL : L ≤ 2560) : ∀ (x4 : Int) (g : jv_Mem), 0 ≤ x4 → x4 + 4 < ((L : Nat) : Int) → iJ x4 g → wp_LC_7 xs L x4 (iJ (x4 + 5)) g := by
  intro x4 g h0 h4 hI
  obtain ⟨hx, j1, j2, j3, j4, j5, j6, j7, j8⟩ := id hI
  obtain ⟨m1, m2, m3, hw, hb, -, ho, hs, hj⟩ := id j2
  have ra := jv_sx_r xs (x4 + 1)
  unfold wp_LC_7 wp_X8_wordAt wp_X7_count
  generalize jv_sx xs (x4 + 1) = a at ra ⊢
  have ra' := ra
  obtain ⟨ra0, ra1⟩ := ra
  have model : ∀ v : Int, jv_r v → (0 ≤ a → a < g 3 6 → v = g 7 a) → (¬ (0 ≤ a ∧ a < g 3 6) → v = -1) → wp_X9_wordAt a (fun (r_511 : Int) (g_511 : jv_Mem) => ((jv_r v ∧ jv_r r_511) ∧ (v = r_511 → iJ (x4 + 5) g_511) ∧ (¬ v = r_511 → False))) g := by
    intro v rv h1 h2
    unfold wp_X9_wordAt
    rintro g1 rfl
    refine u_orders (j2.fr (by (intro i k hik; (try unfold f1 at hik); (try unfold f2 at hik); (try unfold f3 at hik); (try unfold f4 at hik); (try unfold f5 at hik); (try unfold f6 at hik); (try unfold f7 at hik); (try unfold f8 at hik); (try unfold jv_scr at hik); repeat rw [jv_up_n (by omega)]))) (fun g' c1 c2 => ?_)
    have k1 : g' 126 2 = g 3 6 := by rw [c1 126 2 (by omega), jv_up_n (by omega)]; exact m1
    have k2 : jv_up g 126 29 0 3 6 = g 3 6 := jv_up_n (by omega)
    have k3 : iJ (x4 + 5) g' := hI.fr (by omega) (fun i k hik => by rw [c1 i k (by (try unfold f1 at hik); (try unfold f2 at hik); (try unfold f3 at hik); (try unfold f4 at hik); (try unfold f5 at hik); (try unfold f6 at hik); (try unfold f7 at hik); (try unfold f8 at hik); (try unfold jv_scr at hik); omega), jv_up_n (by (try unfold f1 at hik); (try unfold f2 at hik); (try unfold f3 at hik); (try unfold f4 at hik); (try unfold f5 at hik); (try unfold f6 at hik); (try unfold f7 at hik); (try unfold f8 at hik); (try unfold jv_scr at hik); omega)])
    refine u_in ra' (by unfold jv_r; omega) (by rw [k1]; unfold jv_r; omega) (fun h => ⟨(by unfold jv_r; omega), fun h9 => by omega, fun _ => ⟨by omega, ?_⟩⟩) (fun h => ⟨(by unfold jv_r; omega), fun _ => ?_, fun h9 => absurd rfl h9⟩)
    · rw [k1] at h
      have k4 : g' 131 a = v := by rw [c2 a h.1 (by rw [k2]; omega), jv_up_n (by omega), h1 h.1 (by omega)]
      rw [k4]
      exact ⟨⟨rv, rv⟩, fun _ => k3, fun h9 => h9 rfl⟩
    · rw [k1] at h
      have k4 := h2 (by omega)
      rw [k4]
      exact ⟨⟨(by unfold jv_r; omega), (by unfold jv_r; omega)⟩, fun _ => k3, fun h9 => h9 rfl⟩
  refine ⟨by omega, u_isIndex ra' (by unfold jv_r; omega) (fun h => ⟨(by unfold jv_r; omega), fun h9 => by omega, fun _ => ⟨by omega, by omega, ?_⟩⟩) (fun h => ⟨(by unfold jv_r; omega), fun _ => ⟨by omega, ?_⟩, fun h9 => absurd rfl h9⟩)⟩
  · have := ho a h.1 h.2
    exact model (g 7 a) (by unfold jv_r; omega) (fun _ _ => rfl) (fun h9 => absurd h h9)
  · exact model (-1) (by unfold jv_r; omega) (fun p q => absurd ⟨p, q⟩ h) (fun _ => rfl)
theorem cs_8 {L : Nat} {xs : Nat → Int32} (hL : L ≤ 2560) : ∀ (x4 : Int) (g : jv_Mem), 0 ≤ x4 → x4 + 4 < ((L : Nat) : Int) → iJ x4 g → wp_LC_8 xs L x4 (iJ (x4 + 5)) g := by
  intro x4 g h0 h4 hI
  obtain ⟨hx, j1, j2, j3, j4, j5, j6, j7, j8⟩ := id hI
  obtain ⟨e1, e2, e3, e4⟩ := id j1
  obtain ⟨m1, m2, m3, hw, hb, hc, ho, hs, hj⟩ := id j2
  unfold wp_LC_8 wp_X8_beginning
  have hr := iv_cod_r e2 e3 (fun i i0 i1 => (e4 i i0 i1).2)
  have hq := (hc (iv_cod (g 2) (g 1 1).toNat) (by omega) hr.2.1).2
  have hz := @iv_bg_0 (g 129) (iv_cod (g 2) (g 1 1).toNat) (g 3 6).toNat
  refine u_code e2 e3 ⟨by omega, ?_⟩
  refine u_beginningM (by omega) (by omega) (by omega) (by omega) (fun i i0 i1 => by rw [(e4 i i0 (by omega)).1]; exact (e4 i i0 (by omega)).2) (fun w w0 w1 => ⟨(hw w w0 (by omega)).1, (hw w w0 (by omega)).2.1⟩) ?_
  have k1 : iv_cod (g 127) (g 126 1).toNat = iv_cod (g 2) (g 1 1).toNat := by rw [e1]; exact iv_cod_congr (fun j j0 j1 => (e4 j j0 (by omega)).1)
  rw [k1, m1, ← hq]
  exact ⟨⟨(by unfold jv_r; omega), (by unfold jv_r; omega)⟩, fun _ => hI.fr (by omega) (by (intro i k hik; (try unfold f1 at hik); (try unfold f2 at hik); (try unfold f3 at hik); (try unfold f4 at hik); (try unfold f5 at hik); (try unfold f6 at hik); (try unfold f7 at hik); (try unfold f8 at hik); (try unfold jv_scr at hik); repeat rw [jv_up_n (by omega)])), fun h9 => h9 rfl⟩
