theorem jv_up_self {g : jv_Mem} {i k v : Int} (h : v = g i k) : jv_up g i k v = g := by
  funext a b
  unfold jv_up
  split
  · rename_i h1; rw [h1.1, h1.2, h]
  · rfl
theorem cs_17 {L : Nat} {xs : Nat → Int32} (hL : L ≤ 2560) : ∀ (x4 : Int) (g : jv_Mem), 0 ≤ x4 → x4 + 4 < ((L : Nat) : Int) → iJ x4 g → wp_LC_17 xs L x4 (iJ (x4 + 5)) g := by
  intro x4 g h0 h4 hI
  obtain ⟨hx, j1, j2, j3, j4, j5, j6, j7, j8⟩ := id hI
  obtain ⟨e1, e2, e3⟩ := id j5
  have ra := jv_sx_r xs (x4 + 1)
  simp only [wp_LC_17, wp_L_pass, wp_X9_pass, wp_X9_thrown, wB_LC_17_944, wp_X8_pass, wp_X9_in, wB_X9_pass_33, wp_X8_needRange, wB_X9_in_14, wB_X9_pass_53, wB_X8_needRange_10, forall_eq]
  generalize jv_sx xs (x4 + 1) = a at ra ⊢
  obtain ⟨ra0, ra1⟩ := ra
  repeat' (first | (with_reducible apply And.intro) | (refine Or.inl (And.intro rfl ?_)) | (refine Or.inl (And.intro trivial ?_)) | (refine Or.inr (And.intro trivial ?_)) | (refine And.intro trivial ?_) | (refine jv_J1_s ?_) | (refine jv_J2_s ?_) | (refine u_openOf (by omega) (by omega) ?_) | (refine Or.inr (And.intro rfl ?_)) | (intro hq; (try simp (disch := omega) only [jv_up_e, jv_up_i, jv_up_k, not_true_eq_false] at hq) <;> (try omega)))
  all_goals (first | (omega; done) | (unfold jv_r; (try simp (disch := omega) only [jv_up_e, jv_up_i, jv_up_k]); omega; done) | ((simp (disch := omega) only [jv_up_e, jv_up_i, jv_up_k]); omega; done) | (refine hI.fr (by omega) ?_; (intro i k hik; (try unfold f1 at hik); (try unfold f2 at hik); (try unfold f3 at hik); (try unfold f4 at hik); (try unfold f5 at hik); (try unfold f6 at hik); (try unfold f7 at hik); (try unfold f8 at hik); (try unfold jv_scr at hik); repeat rw [jv_up_n (by omega)]); done) | (exact Or.inl trivial) | (exact Or.inr trivial) | skip)
  · rw [jv_up_self (by first | omega | (simp (disch := omega) only [jv_up_e, jv_up_i, jv_up_k]; done) | (simp (disch := omega) only [jv_up_e, jv_up_i, jv_up_k]; omega))]; exact hI.fr (by omega) (by (intro i k hik; (try unfold f1 at hik); (try unfold f2 at hik); (try unfold f3 at hik); (try unfold f4 at hik); (try unfold f5 at hik); (try unfold f6 at hik); (try unfold f7 at hik); (try unfold f8 at hik); (try unfold jv_scr at hik); repeat rw [jv_up_n (by omega)]))
  · refine ⟨by omega, j1.fr (by (intro i k hik; (try unfold f1 at hik); (try unfold f2 at hik); (try unfold f3 at hik); (try unfold f4 at hik); (try unfold f5 at hik); (try unfold f6 at hik); (try unfold f7 at hik); (try unfold f8 at hik); (try unfold jv_scr at hik); repeat rw [jv_up_n (by omega)])), j2.fr (by (intro i k hik; (try unfold f1 at hik); (try unfold f2 at hik); (try unfold f3 at hik); (try unfold f4 at hik); (try unfold f5 at hik); (try unfold f6 at hik); (try unfold f7 at hik); (try unfold f8 at hik); (try unfold jv_scr at hik); repeat rw [jv_up_n (by omega)])), j3.fr (by (intro i k hik; (try unfold f1 at hik); (try unfold f2 at hik); (try unfold f3 at hik); (try unfold f4 at hik); (try unfold f5 at hik); (try unfold f6 at hik); (try unfold f7 at hik); (try unfold f8 at hik); (try unfold jv_scr at hik); repeat rw [jv_up_n (by omega)])), j4.fr (by (intro i k hik; (try unfold f1 at hik); (try unfold f2 at hik); (try unfold f3 at hik); (try unfold f4 at hik); (try unfold f5 at hik); (try unfold f6 at hik); (try unfold f7 at hik); (try unfold f8 at hik); (try unfold jv_scr at hik); repeat rw [jv_up_n (by omega)])), ?_, ?_, j7.fr (by omega) (by (intro i k hik; (try unfold f1 at hik); (try unfold f2 at hik); (try unfold f3 at hik); (try unfold f4 at hik); (try unfold f5 at hik); (try unfold f6 at hik); (try unfold f7 at hik); (try unfold f8 at hik); (try unfold jv_scr at hik); repeat rw [jv_up_n (by omega)])), j8.fr (by omega) (by (intro i k hik; (try unfold f1 at hik); (try unfold f2 at hik); (try unfold f3 at hik); (try unfold f4 at hik); (try unfold f5 at hik); (try unfold f6 at hik); (try unfold f7 at hik); (try unfold f8 at hik); (try unfold jv_scr at hik); repeat rw [jv_up_n (by omega)]))⟩
    · unfold iJ5; simp (disch := omega) only [jv_up_e, jv_up_i, jv_up_k]; omega
    · obtain ⟨a1, a2, a3, a4, a5⟩ := id j6
      unfold iJ6
      simp (disch := omega) only [jv_up_e, jv_up_i, jv_up_k]
      refine ⟨a1, a2, a3, fun p p0 p1 => ?_, fun p p0 p1 => ?_⟩
      · simp (disch := omega) only [jv_up_row]
        obtain ⟨b1, b2, b3, b4⟩ := a4 p p0 p1
        exact ⟨b1, b2, by omega, b4⟩
      · (try simp (disch := omega) only [jv_up_row])
        exact a5 p p0 p1
  · rw [jv_up_self (by first | omega | (simp (disch := omega) only [jv_up_e, jv_up_i, jv_up_k]; done) | (simp (disch := omega) only [jv_up_e, jv_up_i, jv_up_k]; omega))]; exact hI.fr (by omega) (by (intro i k hik; (try unfold f1 at hik); (try unfold f2 at hik); (try unfold f3 at hik); (try unfold f4 at hik); (try unfold f5 at hik); (try unfold f6 at hik); (try unfold f7 at hik); (try unfold f8 at hik); (try unfold jv_scr at hik); repeat rw [jv_up_n (by omega)]))
  · rw [jv_up_self (by first | omega | (simp (disch := omega) only [jv_up_e, jv_up_i, jv_up_k]; done) | (simp (disch := omega) only [jv_up_e, jv_up_i, jv_up_k]; omega))]; exact hI.fr (by omega) (by (intro i k hik; (try unfold f1 at hik); (try unfold f2 at hik); (try unfold f3 at hik); (try unfold f4 at hik); (try unfold f5 at hik); (try unfold f6 at hik); (try unfold f7 at hik); (try unfold f8 at hik); (try unfold jv_scr at hik); repeat rw [jv_up_n (by omega)]))
theorem cs_27 {L : Nat} {xs : Nat → Int32} (hL : L ≤ 2560) : ∀ (x4 : Int) (g : jv_Mem), 0 ≤ x4 → x4 + 4 < ((L : Nat) : Int) → iJ x4 g → wp_LC_27 xs L x4 (iJ (x4 + 5)) g := by
  intro x4 g h0 h4 hI
  obtain ⟨hx, j1, j2, j3, j4, j5, j6, j7, j8⟩ := id hI
  obtain ⟨n1, n2, n3, hs, -⟩ := j7
  have ra := jv_sx_r xs (x4 + 1)
  simp only [wp_LC_27, wp_L_coins, wp_X9_coins, wp_X9_thrown, wB_LC_27_1564, wp_X8_coins, wp_X9_isSolver, wB_X9_coins_14, wp_X8_needIndex, wp_X4_purse, wp_X9_in, wp_X8_isIndex, wB_X9_in_14, wB_X8_isIndex_13, forall_eq]
  generalize jv_sx xs (x4 + 1) = a at ra ⊢
  obtain ⟨ra0, ra1⟩ := ra
  have ha : 0 ≤ a → a < g 0 10 → g (90 + 6 * a) 3 = g 143 a ∧ 0 ≤ g 143 a ∧ g 143 a ≤ 1000 + 72 * x4 := fun p q => ⟨(hs a p q).1, (hs a p q).2.1, (hs a p q).2.2.1⟩
  repeat' (first | (with_reducible apply And.intro) | (refine Or.inl (And.intro rfl ?_)) | (refine Or.inl (And.intro trivial ?_)) | (refine Or.inr (And.intro trivial ?_)) | (refine And.intro trivial ?_) | (refine jv_J1_s ?_) | (refine jv_J2_s ?_) | (refine u_openOf (by omega) (by omega) ?_) | (refine Or.inr (And.intro rfl ?_)) | (intro hq; (try simp (disch := omega) only [jv_up_e, jv_up_i, jv_up_k, not_true_eq_false] at hq) <;> (try omega)))
  all_goals (first | (omega; done) | (unfold jv_r; (try simp (disch := omega) only [jv_up_e, jv_up_i, jv_up_k]); omega; done) | ((simp (disch := omega) only [jv_up_e, jv_up_i, jv_up_k]); omega; done) | (refine hI.fr (by omega) ?_; (intro i k hik; (try unfold f1 at hik); (try unfold f2 at hik); (try unfold f3 at hik); (try unfold f4 at hik); (try unfold f5 at hik); (try unfold f6 at hik); (try unfold f7 at hik); (try unfold f8 at hik); (try unfold jv_scr at hik); repeat rw [jv_up_n (by omega)]); done) | (exact Or.inl trivial) | (exact Or.inr trivial) | skip)
theorem cs_16 {L : Nat} {xs : Nat → Int32} (hL : L ≤ 2560) : ∀ (x4 : Int) (g : jv_Mem), 0 ≤ x4 → x4 + 4 < ((L : Nat) : Int) → iJ x4 g → wp_LC_16 xs L x4 (iJ (x4 + 5)) g := by
  intro x4 g h0 h4 hI
  obtain ⟨hx, j1, j2, j3, j4, j5, j6, j7, j8⟩ := id hI
  obtain ⟨n1, n2, n3, hs, hs2⟩ := j4
  have ra := jv_sx_r xs (x4 + 1)
  simp only [wp_LC_16, wp_L_lastUsed, wp_X9_lastUsed, wp_X9_thrown, wB_LC_16_888, wp_X8_lastUsed, wp_X9_isClue, wB_X9_lastUsed_14, wp_X0_count, wp_X8_needIndex, wp_X0_lastDay, wp_X9_in, wp_X8_isIndex, wB_X9_in_14, wB_X8_isIndex_13, forall_eq]
  generalize jv_sx xs (x4 + 1) = a at ra ⊢
  obtain ⟨ra0, ra1⟩ := ra
  have ha : 0 ≤ a → a < g 14 4 → g 17 a = g 136 a - 1 ∧ 0 ≤ g 136 a ∧ g 136 a ≤ 2000 := fun p q => ⟨(hs a p q).2.2.2, (hs2 a p (by omega)).2.2.2.1, (hs2 a p (by omega)).2.2.2.2.1⟩
  repeat' (first | (with_reducible apply And.intro) | (refine Or.inl (And.intro rfl ?_)) | (refine Or.inl (And.intro trivial ?_)) | (refine Or.inr (And.intro trivial ?_)) | (refine And.intro trivial ?_) | (refine jv_J1_s ?_) | (refine jv_J2_s ?_) | (refine u_openOf (by omega) (by omega) ?_) | (refine Or.inr (And.intro rfl ?_)) | (intro hq; (try simp (disch := omega) only [jv_up_e, jv_up_i, jv_up_k, not_true_eq_false] at hq) <;> (try omega)))
  all_goals (first | (omega; done) | (unfold jv_r; (try simp (disch := omega) only [jv_up_e, jv_up_i, jv_up_k]); omega; done) | ((simp (disch := omega) only [jv_up_e, jv_up_i, jv_up_k]); omega; done) | (refine hI.fr (by omega) ?_; (intro i k hik; (try unfold f1 at hik); (try unfold f2 at hik); (try unfold f3 at hik); (try unfold f4 at hik); (try unfold f5 at hik); (try unfold f6 at hik); (try unfold f7 at hik); (try unfold f8 at hik); (try unfold jv_scr at hik); repeat rw [jv_up_n (by omega)]); done) | (exact Or.inl trivial) | (exact Or.inr trivial) | skip)
theorem cs_20 {L : Nat} {xs : Nat → Int32} (hL : L ≤ 2560) : ∀ (x4 : Int) (g : jv_Mem), 0 ≤ x4 → x4 + 4 < ((L : Nat) : Int) → iJ x4 g → wp_LC_20 xs L x4 (iJ (x4 + 5)) g := by
  intro x4 g h0 h4 hI
  obtain ⟨hx, j1, j2, j3, j4, j5, j6, j7, j8⟩ := id hI
  obtain ⟨n1, n2, n3, hs, hs2⟩ := j6
  have ra := jv_sx_r xs (x4 + 1)
  have rb := jv_sx_r xs (x4 + 2)
  simp only [wp_LC_20, wp_L_clueOf, wp_X9_clueOf, wp_X9_thrown, wB_LC_20_1069, wp_X8_clueOf, wp_X9_isPuzzle, wB_X9_clueOf_22, wp_X9_in, wB_X9_clueOf_23, wp_X8_needIndex, wp_X3_clueNumber, wB_X9_in_14, wp_X8_isIndex, wB_X8_isIndex_13, forall_eq]
  generalize jv_sx xs (x4 + 1) = a at ra ⊢
  generalize jv_sx xs (x4 + 2) = b at rb ⊢
  obtain ⟨ra0, ra1⟩ := ra
  obtain ⟨rb0, rb1⟩ := rb
  have ha : 0 ≤ a → a < g 0 9 → 0 ≤ b → b < 6 → g (30 + 3 * a + 2) b = g 139 ((6 * a) + b) ∧ 0 ≤ g 139 ((6 * a) + b) ∧ g 139 ((6 * a) + b) < 60 := fun p q r s => (hs a p q).2.2.2.2 b r s
  repeat' (first | (with_reducible apply And.intro) | (refine Or.inl (And.intro rfl ?_)) | (refine Or.inl (And.intro trivial ?_)) | (refine Or.inr (And.intro trivial ?_)) | (refine And.intro trivial ?_) | (refine jv_J1_s ?_) | (refine jv_J2_s ?_) | (refine u_openOf (by omega) (by omega) ?_) | (refine Or.inr (And.intro rfl ?_)) | (intro hq; (try simp (disch := omega) only [jv_up_e, jv_up_i, jv_up_k, not_true_eq_false] at hq) <;> (try omega)))
  all_goals (first | (omega; done) | (unfold jv_r; (try simp (disch := omega) only [jv_up_e, jv_up_i, jv_up_k]); omega; done) | ((simp (disch := omega) only [jv_up_e, jv_up_i, jv_up_k]); omega; done) | (refine hI.fr (by omega) ?_; (intro i k hik; (try unfold f1 at hik); (try unfold f2 at hik); (try unfold f3 at hik); (try unfold f4 at hik); (try unfold f5 at hik); (try unfold f6 at hik); (try unfold f7 at hik); (try unfold f8 at hik); (try unfold jv_scr at hik); repeat rw [jv_up_n (by omega)]); done) | (exact Or.inl trivial) | (exact Or.inr trivial) | skip)
theorem cs_26 {L : Nat} {xs : Nat → Int32} (hL : L ≤ 2560) : ∀ (x4 : Int) (g : jv_Mem), 0 ≤ x4 → x4 + 4 < ((L : Nat) : Int) → iJ x4 g → wp_LC_26 xs L x4 (iJ (x4 + 5)) g := by
  intro x4 g h0 h4 hI
  obtain ⟨hx, j1, j2, j3, j4, j5, j6, j7, j8⟩ := id hI
  obtain ⟨n1, n2, n3, hs, hs2⟩ := j6
  have ra := jv_sx_r xs (x4 + 1)
  simp only [wp_LC_26, wp_L_open, wp_X9_open, wp_X9_thrown, wB_LC_26_1508, wp_X8_open, wp_X9_isPuzzle, wB_X9_open_14, wp_X8_needIndex, wp_X3_openCells, wp_X9_in, wp_X8_isIndex, wB_X9_in_14, wB_X8_isIndex_13, forall_eq]
  generalize jv_sx xs (x4 + 1) = a at ra ⊢
  obtain ⟨ra0, ra1⟩ := ra
  have ha : 0 ≤ a → a < g 0 9 → g (30 + 3 * a) 4 = iv_op (g 140 a) ∧ 0 ≤ g 140 a ∧ g 140 a < 64 := fun p q => by
    have := hs2 a p (by omega)
    exact ⟨this.2.2.2.1, this.2.1, this.2.2.1⟩
  have hb : 0 ≤ a → a < g 0 9 → 0 ≤ iv_op (g 140 a) ∧ iv_op (g 140 a) < 512 := fun p q => by
    have := ha p q
    exact ib_op this.2.1 this.2.2
  repeat' (first | (with_reducible apply And.intro) | (refine Or.inl (And.intro rfl ?_)) | (refine Or.inl (And.intro trivial ?_)) | (refine Or.inr (And.intro trivial ?_)) | (refine And.intro trivial ?_) | (refine jv_J1_s ?_) | (refine jv_J2_s ?_) | (refine u_openOf (by omega) (by omega) ?_) | (refine Or.inr (And.intro rfl ?_)) | (intro hq; (try simp (disch := omega) only [jv_up_e, jv_up_i, jv_up_k, not_true_eq_false] at hq) <;> (try omega)))
  all_goals (first | (omega; done) | (unfold jv_r; (try simp (disch := omega) only [jv_up_e, jv_up_i, jv_up_k]); omega; done) | ((simp (disch := omega) only [jv_up_e, jv_up_i, jv_up_k]); omega; done) | (refine hI.fr (by omega) ?_; (intro i k hik; (try unfold f1 at hik); (try unfold f2 at hik); (try unfold f3 at hik); (try unfold f4 at hik); (try unfold f5 at hik); (try unfold f6 at hik); (try unfold f7 at hik); (try unfold f8 at hik); (try unfold jv_scr at hik); repeat rw [jv_up_n (by omega)]); done) | (exact Or.inl trivial) | (exact Or.inr trivial) | skip)
