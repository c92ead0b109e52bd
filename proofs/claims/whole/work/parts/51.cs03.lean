theorem cs_3 {L : Nat} {xs : Nat → Int32} (hL : L ≤ 2560) : ∀ (x4 : Int) (g : jv_Mem), 0 ≤ x4 → x4 + 4 < ((L : Nat) : Int) → iJ x4 g → wp_LC_3 xs L x4 (iJ (x4 + 5)) g := by
  intro x4 g h0 h4 hI
  obtain ⟨hx, j1, j2, j3, j4, j5, j6, j7, j8⟩ := id hI
  obtain ⟨e1, e2, e3, e4⟩ := id j1
  simp only [wp_LC_3, wp_X8_clearSpelled, wp_X9_clearSpelled, wp_X5_letterCount, wp_X5_empty, forall_eq]
  repeat' (first | (with_reducible apply And.intro) | (refine Or.inl (And.intro rfl ?_)) | (refine Or.inl (And.intro trivial ?_)) | (refine Or.inr (And.intro trivial ?_)) | (refine And.intro trivial ?_) | (refine jv_J1_s ?_) | (refine jv_J2_s ?_) | (refine u_openOf (by omega) (by omega) ?_) | (refine Or.inr (And.intro rfl ?_)) | (intro hq; (try simp (disch := omega) only [jv_up_e, jv_up_i, jv_up_k, not_true_eq_false] at hq) <;> (try omega)))
  all_goals (first | (omega; done) | (unfold jv_r; (try simp (disch := omega) only [jv_up_e, jv_up_i, jv_up_k]); omega; done) | ((simp (disch := omega) only [jv_up_e, jv_up_i, jv_up_k]); omega; done) | (refine hI.fr (by omega) ?_; (intro i k hik; (try unfold f1 at hik); (try unfold f2 at hik); (try unfold f3 at hik); (try unfold f4 at hik); (try unfold f5 at hik); (try unfold f6 at hik); (try unfold f7 at hik); (try unfold f8 at hik); (try unfold jv_scr at hik); repeat rw [jv_up_n (by omega)]); done) | (exact Or.inl trivial) | (exact Or.inr trivial) | skip)
  refine ⟨by omega, ?_, j2.fr (by (intro i k hik; (try unfold f1 at hik); (try unfold f2 at hik); (try unfold f3 at hik); (try unfold f4 at hik); (try unfold f5 at hik); (try unfold f6 at hik); (try unfold f7 at hik); (try unfold f8 at hik); (try unfold jv_scr at hik); repeat rw [jv_up_n (by omega)])), j3.fr (by (intro i k hik; (try unfold f1 at hik); (try unfold f2 at hik); (try unfold f3 at hik); (try unfold f4 at hik); (try unfold f5 at hik); (try unfold f6 at hik); (try unfold f7 at hik); (try unfold f8 at hik); (try unfold jv_scr at hik); repeat rw [jv_up_n (by omega)])), j4.fr (by (intro i k hik; (try unfold f1 at hik); (try unfold f2 at hik); (try unfold f3 at hik); (try unfold f4 at hik); (try unfold f5 at hik); (try unfold f6 at hik); (try unfold f7 at hik); (try unfold f8 at hik); (try unfold jv_scr at hik); repeat rw [jv_up_n (by omega)])), j5.fr (by (intro i k hik; (try unfold f1 at hik); (try unfold f2 at hik); (try unfold f3 at hik); (try unfold f4 at hik); (try unfold f5 at hik); (try unfold f6 at hik); (try unfold f7 at hik); (try unfold f8 at hik); (try unfold jv_scr at hik); repeat rw [jv_up_n (by omega)])), j6.fr (by (intro i k hik; (try unfold f1 at hik); (try unfold f2 at hik); (try unfold f3 at hik); (try unfold f4 at hik); (try unfold f5 at hik); (try unfold f6 at hik); (try unfold f7 at hik); (try unfold f8 at hik); (try unfold jv_scr at hik); repeat rw [jv_up_n (by omega)])), j7.fr (by omega) (by (intro i k hik; (try unfold f1 at hik); (try unfold f2 at hik); (try unfold f3 at hik); (try unfold f4 at hik); (try unfold f5 at hik); (try unfold f6 at hik); (try unfold f7 at hik); (try unfold f8 at hik); (try unfold jv_scr at hik); repeat rw [jv_up_n (by omega)])), j8.fr (by omega) (by (intro i k hik; (try unfold f1 at hik); (try unfold f2 at hik); (try unfold f3 at hik); (try unfold f4 at hik); (try unfold f5 at hik); (try unfold f6 at hik); (try unfold f7 at hik); (try unfold f8 at hik); (try unfold jv_scr at hik); repeat rw [jv_up_n (by omega)]))⟩
  unfold iJ1
  simp (disch := omega) only [jv_up_e, jv_up_i, jv_up_k, jv_up_row, true_and, and_true]
  exact ⟨by omega, by omega, fun i a b => by omega⟩
theorem cs_9 {L : Nat} {xs : Nat → Int32} (hL : L ≤ 2560) : ∀ (x4 : Int) (g : jv_Mem), 0 ≤ x4 → x4 + 4 < ((L : Nat) : Int) → iJ x4 g → wp_LC_9 xs L x4 (iJ (x4 + 5)) g := by
  intro x4 g h0 h4 hI
  obtain ⟨hx, j1, j2, j3, j4, j5, j6, j7, j8⟩ := id hI
  have ra := jv_sx_r xs (x4 + 1)
  have rb := jv_sx_r xs (x4 + 2)
  simp only [wp_LC_9, wp_L_fix, wp_X9_fix, wp_X9_thrown, wB_LC_9_597, wp_X8_fix, wp_X9_in, wB_X9_fix_25, wB_X9_fix_26, wp_X8_needIndex, wB_X8_fix_17, wB_X9_in_14, wp_X8_isIndex, wp_X6_fixedLetter, wp_X6_setFixed, wB_X8_isIndex_13, forall_eq]
  generalize jv_sx xs (x4 + 1) = a at ra ⊢
  generalize jv_sx xs (x4 + 2) = b at rb ⊢
  obtain ⟨ra0, ra1⟩ := ra
  obtain ⟨rb0, rb1⟩ := rb
  have ha := j3 a
  repeat' (first | (with_reducible apply And.intro) | (refine Or.inl (And.intro rfl ?_)) | (refine Or.inl (And.intro trivial ?_)) | (refine Or.inr (And.intro trivial ?_)) | (refine And.intro trivial ?_) | (refine jv_J1_s ?_) | (refine jv_J2_s ?_) | (refine u_openOf (by omega) (by omega) ?_) | (refine Or.inr (And.intro rfl ?_)) | (intro hq; (try simp (disch := omega) only [jv_up_e, jv_up_i, jv_up_k, not_true_eq_false] at hq) <;> (try omega)))
  all_goals (first | (omega; done) | (unfold jv_r; (try simp (disch := omega) only [jv_up_e, jv_up_i, jv_up_k]); omega; done) | ((simp (disch := omega) only [jv_up_e, jv_up_i, jv_up_k]); omega; done) | (refine hI.fr (by omega) ?_; (intro i k hik; (try unfold f1 at hik); (try unfold f2 at hik); (try unfold f3 at hik); (try unfold f4 at hik); (try unfold f5 at hik); (try unfold f6 at hik); (try unfold f7 at hik); (try unfold f8 at hik); (try unfold jv_scr at hik); repeat rw [jv_up_n (by omega)]); done) | (exact Or.inl trivial) | (exact Or.inr trivial) | skip)
  all_goals
    refine ⟨by omega, j1.fr (by (intro i k hik; (try unfold f1 at hik); (try unfold f2 at hik); (try unfold f3 at hik); (try unfold f4 at hik); (try unfold f5 at hik); (try unfold f6 at hik); (try unfold f7 at hik); (try unfold f8 at hik); (try unfold jv_scr at hik); repeat rw [jv_up_n (by omega)])), j2.fr (by (intro i k hik; (try unfold f1 at hik); (try unfold f2 at hik); (try unfold f3 at hik); (try unfold f4 at hik); (try unfold f5 at hik); (try unfold f6 at hik); (try unfold f7 at hik); (try unfold f8 at hik); (try unfold jv_scr at hik); repeat rw [jv_up_n (by omega)])), ?_, j4.fr (by (intro i k hik; (try unfold f1 at hik); (try unfold f2 at hik); (try unfold f3 at hik); (try unfold f4 at hik); (try unfold f5 at hik); (try unfold f6 at hik); (try unfold f7 at hik); (try unfold f8 at hik); (try unfold jv_scr at hik); repeat rw [jv_up_n (by omega)])), j5.fr (by (intro i k hik; (try unfold f1 at hik); (try unfold f2 at hik); (try unfold f3 at hik); (try unfold f4 at hik); (try unfold f5 at hik); (try unfold f6 at hik); (try unfold f7 at hik); (try unfold f8 at hik); (try unfold jv_scr at hik); repeat rw [jv_up_n (by omega)])), j6.fr (by (intro i k hik; (try unfold f1 at hik); (try unfold f2 at hik); (try unfold f3 at hik); (try unfold f4 at hik); (try unfold f5 at hik); (try unfold f6 at hik); (try unfold f7 at hik); (try unfold f8 at hik); (try unfold jv_scr at hik); repeat rw [jv_up_n (by omega)])), j7.fr (by omega) (by (intro i k hik; (try unfold f1 at hik); (try unfold f2 at hik); (try unfold f3 at hik); (try unfold f4 at hik); (try unfold f5 at hik); (try unfold f6 at hik); (try unfold f7 at hik); (try unfold f8 at hik); (try unfold jv_scr at hik); repeat rw [jv_up_n (by omega)])), j8.fr (by omega) (by (intro i k hik; (try unfold f1 at hik); (try unfold f2 at hik); (try unfold f3 at hik); (try unfold f4 at hik); (try unfold f5 at hik); (try unfold f6 at hik); (try unfold f7 at hik); (try unfold f8 at hik); (try unfold jv_scr at hik); repeat rw [jv_up_n (by omega)]))⟩
    intro c c0 c1
    have hc := j3 c c0 c1
    by_cases e : c = a <;> simp (disch := omega) only [jv_up_e, jv_up_i, jv_up_k, jv_up_row, true_and, and_true] <;> omega
theorem cs_6 {L : Nat} {xs : Nat → Int32} (hL : L ≤ 2560) : ∀ (x4 : Int) (g : jv_Mem), 0 ≤ x4 → x4 + 4 < ((L : Nat) : Int) → iJ x4 g → wp_LC_6 xs L x4 (iJ (x4 + 5)) g := by
  intro x4 g h0 h4 hI
  obtain ⟨hx, j1, j2, j3, j4, j5, j6, j7, j8⟩ := id hI
  obtain ⟨n1, n2, n3, hs, -⟩ := id j2
  have ra := jv_sx_r xs (x4 + 1)
  have rb := jv_sx_r xs (x4 + 2)
  simp only [wp_LC_6, wp_L_setWeight, wp_X9_setWeight, wp_X9_thrown, wB_LC_6_491, wp_X8_setWeight, wp_X9_isWord, wp_X9_in, wB_X9_setWeight_28, wp_X7_count, wp_X8_needIndex, wp_X8_needRange, wp_X7_weight, wp_X7_weigh, wB_X9_in_14, wp_X8_isIndex, wB_X8_needRange_10, wB_X8_isIndex_13, forall_eq]
  generalize jv_sx xs (x4 + 1) = a at ra ⊢
  generalize jv_sx xs (x4 + 2) = b at rb ⊢
  obtain ⟨ra0, ra1⟩ := ra
  obtain ⟨rb0, rb1⟩ := rb
  have ha : 0 ≤ a → a < g 3 6 → g 6 a = g 130 a ∧ 0 ≤ g 130 a ∧ g 130 a ≤ 99 := fun p q => by
    obtain ⟨_, _, _, _, h5, h6, h7, _⟩ := hs a p q
    exact ⟨h5, h6, h7⟩
  repeat' (first | (with_reducible apply And.intro) | (refine Or.inl (And.intro rfl ?_)) | (refine Or.inl (And.intro trivial ?_)) | (refine Or.inr (And.intro trivial ?_)) | (refine And.intro trivial ?_) | (refine jv_J1_s ?_) | (refine jv_J2_s ?_) | (refine u_openOf (by omega) (by omega) ?_) | (refine Or.inr (And.intro rfl ?_)) | (intro hq; (try simp (disch := omega) only [jv_up_e, jv_up_i, jv_up_k, not_true_eq_false] at hq) <;> (try omega)))
  all_goals (first | (omega; done) | (unfold jv_r; (try simp (disch := omega) only [jv_up_e, jv_up_i, jv_up_k]); omega; done) | ((simp (disch := omega) only [jv_up_e, jv_up_i, jv_up_k]); omega; done) | (refine hI.fr (by omega) ?_; (intro i k hik; (try unfold f1 at hik); (try unfold f2 at hik); (try unfold f3 at hik); (try unfold f4 at hik); (try unfold f5 at hik); (try unfold f6 at hik); (try unfold f7 at hik); (try unfold f8 at hik); (try unfold jv_scr at hik); repeat rw [jv_up_n (by omega)]); done) | (exact Or.inl trivial) | (exact Or.inr trivial) | skip)
  refine ⟨by omega, j1.fr (by (intro i k hik; (try unfold f1 at hik); (try unfold f2 at hik); (try unfold f3 at hik); (try unfold f4 at hik); (try unfold f5 at hik); (try unfold f6 at hik); (try unfold f7 at hik); (try unfold f8 at hik); (try unfold jv_scr at hik); repeat rw [jv_up_n (by omega)])), ?_, j3.fr (by (intro i k hik; (try unfold f1 at hik); (try unfold f2 at hik); (try unfold f3 at hik); (try unfold f4 at hik); (try unfold f5 at hik); (try unfold f6 at hik); (try unfold f7 at hik); (try unfold f8 at hik); (try unfold jv_scr at hik); repeat rw [jv_up_n (by omega)])), j4.fr (by (intro i k hik; (try unfold f1 at hik); (try unfold f2 at hik); (try unfold f3 at hik); (try unfold f4 at hik); (try unfold f5 at hik); (try unfold f6 at hik); (try unfold f7 at hik); (try unfold f8 at hik); (try unfold jv_scr at hik); repeat rw [jv_up_n (by omega)])), j5.fr (by (intro i k hik; (try unfold f1 at hik); (try unfold f2 at hik); (try unfold f3 at hik); (try unfold f4 at hik); (try unfold f5 at hik); (try unfold f6 at hik); (try unfold f7 at hik); (try unfold f8 at hik); (try unfold jv_scr at hik); repeat rw [jv_up_n (by omega)])), j6.fr (by (intro i k hik; (try unfold f1 at hik); (try unfold f2 at hik); (try unfold f3 at hik); (try unfold f4 at hik); (try unfold f5 at hik); (try unfold f6 at hik); (try unfold f7 at hik); (try unfold f8 at hik); (try unfold jv_scr at hik); repeat rw [jv_up_n (by omega)])), j7.fr (by omega) (by (intro i k hik; (try unfold f1 at hik); (try unfold f2 at hik); (try unfold f3 at hik); (try unfold f4 at hik); (try unfold f5 at hik); (try unfold f6 at hik); (try unfold f7 at hik); (try unfold f8 at hik); (try unfold jv_scr at hik); repeat rw [jv_up_n (by omega)])), j8.fr (by omega) (by (intro i k hik; (try unfold f1 at hik); (try unfold f2 at hik); (try unfold f3 at hik); (try unfold f4 at hik); (try unfold f5 at hik); (try unfold f6 at hik); (try unfold f7 at hik); (try unfold f8 at hik); (try unfold jv_scr at hik); repeat rw [jv_up_n (by omega)]))⟩
  obtain ⟨m1, m2, m3, hw, m5⟩ := id j2
  unfold iJ2
  simp (disch := omega) only [jv_up_e, jv_up_i, jv_up_k, jv_up_row, true_and, and_true]
  refine ⟨m1, m2, m3, fun w w0 w1 => ?_, m5⟩
  obtain ⟨h1, h2, h3, h4, h5, h6, h7, h8⟩ := hw w w0 w1
  by_cases e : w = a
  · simp (disch := omega) only [jv_up_e, jv_up_i, jv_up_k, jv_up_row, true_and, and_true]
    exact ⟨h1, h2, h3, h4, by omega, by omega, h8⟩
  · simp (disch := omega) only [jv_up_e, jv_up_i, jv_up_k, jv_up_row, true_and, and_true]
    exact ⟨h1, h2, h3, h4, h5, h6, h7, h8⟩
theorem cs_14 {L : Nat} {xs : Nat → Int32} (hL : L ≤ 2560) : ∀ (x4 : Int) (g : jv_Mem), 0 ≤ x4 → x4 + 4 < ((L : Nat) : Int) → iJ x4 g → wp_LC_14 xs L x4 (iJ (x4 + 5)) g := by
  intro x4 g h0 h4 hI
  obtain ⟨hx, j1, j2, j3, j4, j5, j6, j7, j8⟩ := id hI
  obtain ⟨n1, n2, n3, -⟩ := id j2
  obtain ⟨c1, c2, c3, hc, hc2⟩ := id j4
  have ra := jv_sx_r xs (x4 + 1)
  simp only [wp_LC_14, wp_L_clue, wp_X9_clue, wp_X9_thrown, wB_LC_14_748, wp_X8_clue, wp_X9_isWord, wB_X9_clue_27, wp_X7_count, wp_X8_needIndex, wp_X0_count, wp_X0_add, wp_X9_in, wp_X8_isIndex, wB_X9_in_14, wB_X8_isIndex_13, forall_eq]
  generalize jv_sx xs (x4 + 1) = a at ra ⊢
  obtain ⟨ra0, ra1⟩ := ra
  repeat' (first | (with_reducible apply And.intro) | (refine Or.inl (And.intro rfl ?_)) | (refine Or.inl (And.intro trivial ?_)) | (refine Or.inr (And.intro trivial ?_)) | (refine And.intro trivial ?_) | (refine jv_J1_s ?_) | (refine jv_J2_s ?_) | (refine u_openOf (by omega) (by omega) ?_) | (refine Or.inr (And.intro rfl ?_)) | (intro hq; (try simp (disch := omega) only [jv_up_e, jv_up_i, jv_up_k, not_true_eq_false] at hq) <;> (try omega)))
  all_goals (first | (omega; done) | (unfold jv_r; (try simp (disch := omega) only [jv_up_e, jv_up_i, jv_up_k]); omega; done) | ((simp (disch := omega) only [jv_up_e, jv_up_i, jv_up_k]); omega; done) | (refine hI.fr (by omega) ?_; (intro i k hik; (try unfold f1 at hik); (try unfold f2 at hik); (try unfold f3 at hik); (try unfold f4 at hik); (try unfold f5 at hik); (try unfold f6 at hik); (try unfold f7 at hik); (try unfold f8 at hik); (try unfold jv_scr at hik); repeat rw [jv_up_n (by omega)]); done) | (exact Or.inl trivial) | (exact Or.inr trivial) | skip)
  simp (disch := omega) only [jv_up_e, jv_up_i, jv_up_k, jv_up_row, true_and, and_true]
  refine ⟨by omega, j1.fr (by (intro i k hik; (try unfold f1 at hik); (try unfold f2 at hik); (try unfold f3 at hik); (try unfold f4 at hik); (try unfold f5 at hik); (try unfold f6 at hik); (try unfold f7 at hik); (try unfold f8 at hik); (try unfold jv_scr at hik); repeat rw [jv_up_n (by omega)])), j2.fr (by (intro i k hik; (try unfold f1 at hik); (try unfold f2 at hik); (try unfold f3 at hik); (try unfold f4 at hik); (try unfold f5 at hik); (try unfold f6 at hik); (try unfold f7 at hik); (try unfold f8 at hik); (try unfold jv_scr at hik); repeat rw [jv_up_n (by omega)])), j3.fr (by (intro i k hik; (try unfold f1 at hik); (try unfold f2 at hik); (try unfold f3 at hik); (try unfold f4 at hik); (try unfold f5 at hik); (try unfold f6 at hik); (try unfold f7 at hik); (try unfold f8 at hik); (try unfold jv_scr at hik); repeat rw [jv_up_n (by omega)])), ?_, j5.fr (by (intro i k hik; (try unfold f1 at hik); (try unfold f2 at hik); (try unfold f3 at hik); (try unfold f4 at hik); (try unfold f5 at hik); (try unfold f6 at hik); (try unfold f7 at hik); (try unfold f8 at hik); (try unfold jv_scr at hik); repeat rw [jv_up_n (by omega)])), j6.fr (by (intro i k hik; (try unfold f1 at hik); (try unfold f2 at hik); (try unfold f3 at hik); (try unfold f4 at hik); (try unfold f5 at hik); (try unfold f6 at hik); (try unfold f7 at hik); (try unfold f8 at hik); (try unfold jv_scr at hik); repeat rw [jv_up_n (by omega)])), j7.fr (by omega) (by (intro i k hik; (try unfold f1 at hik); (try unfold f2 at hik); (try unfold f3 at hik); (try unfold f4 at hik); (try unfold f5 at hik); (try unfold f6 at hik); (try unfold f7 at hik); (try unfold f8 at hik); (try unfold jv_scr at hik); repeat rw [jv_up_n (by omega)])), j8.fr (by omega) (by (intro i k hik; (try unfold f1 at hik); (try unfold f2 at hik); (try unfold f3 at hik); (try unfold f4 at hik); (try unfold f5 at hik); (try unfold f6 at hik); (try unfold f7 at hik); (try unfold f8 at hik); (try unfold jv_scr at hik); repeat rw [jv_up_n (by omega)]))⟩
  unfold iJ4
  simp (disch := omega) only [jv_up_e, jv_up_i, jv_up_k, jv_up_row, true_and, and_true]
  refine ⟨by omega, by omega, by omega, fun c c0 c1' => ?_, fun c c0 c1' => ?_⟩
  · by_cases e : c = g 14 4
    · have := hc2 c c0 (by omega)
      simp (disch := omega) only [jv_up_e, jv_up_i, jv_up_k, jv_up_row, true_and, and_true]
      omega
    · have := hc c c0 (by omega)
      simp (disch := omega) only [jv_up_e, jv_up_i, jv_up_k, jv_up_row, true_and, and_true]
      exact this
  · obtain ⟨h1, h2, h3, h4, h5, h6⟩ := hc2 c c0 c1'
    exact ⟨h1, h2, h3, h4, h5, fun h => h6 (by omega)⟩
theorem cs_15 {L : Nat} {xs : Nat → Int32} (hL : L ≤ 2560) : ∀ (x4 : Int) (g : jv_Mem), 0 ≤ x4 → x4 + 4 < ((L : Nat) : Int) → iJ x4 g → wp_LC_15 xs L x4 (iJ (x4 + 5)) g := by
  intro x4 g h0 h4 hI
  obtain ⟨hx, j1, j2, j3, j4, j5, j6, j7, j8⟩ := id hI
  obtain ⟨c1, c2, c3, hc, hc2⟩ := id j4
  have ra := jv_sx_r xs (x4 + 1)
  have rb := jv_sx_r xs (x4 + 2)
  simp only [wp_LC_15, wB_LC_15_772, wp_L_edit, wB_LC_15_799, wp_X8_edit, wp_X9_edit, wp_X9_thrown, wB_LC_15_832, wp_X0_count, wp_X8_needIndex, wp_X0_isReady, wp_X0_look, wp_X9_isClue, wB_X9_edit_28, wp_X8_isIndex, wB_X0_look_21, wp_X9_in, wB_X9_edit_61, wB_X8_isIndex_13, wB_X9_in_14, forall_eq]
  generalize jv_sx xs (x4 + 1) = a at ra ⊢
  generalize jv_sx xs (x4 + 2) = b at rb ⊢
  obtain ⟨ra0, ra1⟩ := ra
  obtain ⟨rb0, rb1⟩ := rb
  have ha : 0 ≤ a → a < 60 → g 16 a = g 135 a ∧ 0 ≤ g 135 a ∧ g 135 a ≤ 2 := fun p q => by
    obtain ⟨h5, h6, h7, _⟩ := hc2 a p q
    exact ⟨h5, h6, h7⟩
  repeat' (first | (with_reducible apply And.intro) | (refine Or.inl (And.intro rfl ?_)) | (refine Or.inl (And.intro trivial ?_)) | (refine Or.inr (And.intro trivial ?_)) | (refine And.intro trivial ?_) | (refine jv_J1_s ?_) | (refine jv_J2_s ?_) | (refine u_openOf (by omega) (by omega) ?_) | (refine Or.inr (And.intro rfl ?_)) | (intro hq; (try simp (disch := omega) only [jv_up_e, jv_up_i, jv_up_k, not_true_eq_false] at hq) <;> (try omega)))
  all_goals (first | (omega; done) | (unfold jv_r; (try simp (disch := omega) only [jv_up_e, jv_up_i, jv_up_k]); omega; done) | ((simp (disch := omega) only [jv_up_e, jv_up_i, jv_up_k]); omega; done) | (refine hI.fr (by omega) ?_; (intro i k hik; (try unfold f1 at hik); (try unfold f2 at hik); (try unfold f3 at hik); (try unfold f4 at hik); (try unfold f5 at hik); (try unfold f6 at hik); (try unfold f7 at hik); (try unfold f8 at hik); (try unfold jv_scr at hik); repeat rw [jv_up_n (by omega)]); done) | (exact Or.inl trivial) | (exact Or.inr trivial) | skip)
  all_goals
    simp (disch := omega) only [jv_up_e, jv_up_i, jv_up_k, jv_up_row, true_and, and_true]
    refine ⟨by omega, j1.fr (by (intro i k hik; (try unfold f1 at hik); (try unfold f2 at hik); (try unfold f3 at hik); (try unfold f4 at hik); (try unfold f5 at hik); (try unfold f6 at hik); (try unfold f7 at hik); (try unfold f8 at hik); (try unfold jv_scr at hik); repeat rw [jv_up_n (by omega)])), j2.fr (by (intro i k hik; (try unfold f1 at hik); (try unfold f2 at hik); (try unfold f3 at hik); (try unfold f4 at hik); (try unfold f5 at hik); (try unfold f6 at hik); (try unfold f7 at hik); (try unfold f8 at hik); (try unfold jv_scr at hik); repeat rw [jv_up_n (by omega)])), j3.fr (by (intro i k hik; (try unfold f1 at hik); (try unfold f2 at hik); (try unfold f3 at hik); (try unfold f4 at hik); (try unfold f5 at hik); (try unfold f6 at hik); (try unfold f7 at hik); (try unfold f8 at hik); (try unfold jv_scr at hik); repeat rw [jv_up_n (by omega)])), ?_, j5.fr (by (intro i k hik; (try unfold f1 at hik); (try unfold f2 at hik); (try unfold f3 at hik); (try unfold f4 at hik); (try unfold f5 at hik); (try unfold f6 at hik); (try unfold f7 at hik); (try unfold f8 at hik); (try unfold jv_scr at hik); repeat rw [jv_up_n (by omega)])), j6.fr (by (intro i k hik; (try unfold f1 at hik); (try unfold f2 at hik); (try unfold f3 at hik); (try unfold f4 at hik); (try unfold f5 at hik); (try unfold f6 at hik); (try unfold f7 at hik); (try unfold f8 at hik); (try unfold jv_scr at hik); repeat rw [jv_up_n (by omega)])), j7.fr (by omega) (by (intro i k hik; (try unfold f1 at hik); (try unfold f2 at hik); (try unfold f3 at hik); (try unfold f4 at hik); (try unfold f5 at hik); (try unfold f6 at hik); (try unfold f7 at hik); (try unfold f8 at hik); (try unfold jv_scr at hik); repeat rw [jv_up_n (by omega)])), j8.fr (by omega) (by (intro i k hik; (try unfold f1 at hik); (try unfold f2 at hik); (try unfold f3 at hik); (try unfold f4 at hik); (try unfold f5 at hik); (try unfold f6 at hik); (try unfold f7 at hik); (try unfold f8 at hik); (try unfold jv_scr at hik); repeat rw [jv_up_n (by omega)]))⟩
    unfold iJ4
    simp (disch := omega) only [jv_up_e, jv_up_i, jv_up_k, jv_up_row, true_and, and_true]
    refine ⟨c1, c2, c3, hc, fun c c0 c1' => ?_⟩
    obtain ⟨h1, h2, h3, h4, h5, h6⟩ := hc2 c c0 c1'
    by_cases e : c = a
    · simp (disch := omega) only [jv_up_e, jv_up_i, jv_up_k, jv_up_row, true_and, and_true]
      subst e
      first | omega | (refine ⟨by omega, by omega, by omega, h4, h5, fun h => by omega⟩) | (refine ⟨by omega, h4, h5, fun h => by omega⟩) | (refine ⟨by omega, by omega, h4, h5, fun h => by omega⟩) | (refine ⟨h4, h5, fun h => by omega⟩)
    · simp (disch := omega) only [jv_up_e, jv_up_i, jv_up_k, jv_up_row, true_and, and_true]
      exact ⟨h1, h2, h3, h4, h5, h6⟩
