theorem lc_end {KU : jv_Mem → Prop} {rk b : Int} {g : jv_Mem} (h1 : g 126 29 = rk) (h2 : jv_r rk) (h3 : rk = 0 → g 148 0 = b ∧ jv_r b) (h4 : KU g) :
    (jv_r (g 126 29) ∧ jv_r rk) ∧ (g 126 29 = rk → (jv_r rk ∧ (¬ rk = 0 → KU g) ∧ (rk = 0 → (((0 : Int) ≤ 0 ∧ 0 < (1 : Int)) ∧ (jv_r b ∧ ((jv_r (g 148 0) ∧ jv_r b) ∧ (g 148 0 = b → KU g) ∧ (¬ g 148 0 = b → False))))))) ∧ (¬ g 126 29 = rk → False) := by
  refine ⟨⟨by rw [h1]; exact h2, h2⟩, fun _ => ⟨h2, fun _ => h4, fun h => ?_⟩, fun h => h h1⟩
  obtain ⟨e, r⟩ := h3 h
  exact ⟨by omega, r, ⟨by rw [e]; exact r, r⟩, fun _ => h4, fun h => h e⟩
theorem cs_18 {L : Nat} {xs : Nat → Int32} (hL : L ≤ 2560) : ∀ (x4 : Int) (g : jv_Mem), 0 ≤ x4 → x4 + 4 < ((L : Nat) : Int) → iJ x4 g → wp_LC_18 xs L x4 (iJ (x4 + 5)) g := by
  intro x4 g h0 h4 hI
  obtain ⟨hx, j1, j2, j3, j4, j5, j6, j7, j8⟩ := id hI
  obtain ⟨e1, e2, e3⟩ := j5
  simp only [wp_LC_18, wp_X8_now, wp_X9_now, forall_eq]
  repeat' (first | (with_reducible apply And.intro) | (refine Or.inl (And.intro rfl ?_)) | (refine Or.inl (And.intro trivial ?_)) | (refine Or.inr (And.intro trivial ?_)) | (refine And.intro trivial ?_) | (refine jv_J1_s ?_) | (refine jv_J2_s ?_) | (refine u_openOf (by omega) (by omega) ?_) | (refine Or.inr (And.intro rfl ?_)) | (intro hq; (try simp (disch := omega) only [jv_up_e, jv_up_i, jv_up_k, not_true_eq_false] at hq) <;> (try omega)))
  · (unfold jv_r; (try simp (disch := omega) only [jv_up_e, jv_up_i, jv_up_k]); omega)
  · (unfold jv_r; (try simp (disch := omega) only [jv_up_e, jv_up_i, jv_up_k]); omega)
  · exact hI.fr (by omega) (by (intro i k hik; (try unfold f1 at hik); (try unfold f2 at hik); (try unfold f3 at hik); (try unfold f4 at hik); (try unfold f5 at hik); (try unfold f6 at hik); (try unfold f7 at hik); (try unfold f8 at hik); (try unfold jv_scr at hik); repeat rw [jv_up_n (by omega)]))
