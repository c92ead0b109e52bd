theorem u_spellX {a : Int} {Q : Int → jv_Mem → Prop} {Qx : String → jv_Mem → Prop} {g : jv_Mem} (ra : jv_r a) (n0 : 0 ≤ g 1 1) (n1 : g 1 1 ≤ 3) (hs : ∀ i, 0 ≤ i → i < g 1 1 → 0 ≤ g 2 i ∧ g 2 i < 9) (h1 : 0 ≤ a ∧ a < 9 → g 1 1 < 3 → Q (iv_cd (jv_up g 2 (g 1 1) a 2) 0 (g 1 1 + 1).toNat) (jv_up (jv_up g 2 (g 1 1) a) 1 1 (g 1 1 + 1))) (h2 : ¬ (0 ≤ a ∧ a < 9) → Qx "java/lang/IndexOutOfBoundsException" g) (h3 : 0 ≤ a ∧ a < 9 → g 1 1 = 3 → Qx "java/lang/IllegalStateException" g) : wp_X8_spell a Q Qx g := by
  unfold wp_X8_spell
  refine u_needIndex ra (by unfold jv_r; omega) (fun h => ?_) h2
  unfold wp_X8_needRoomForLetter wp_X5_isFull
  refine ⟨(by unfold jv_r; omega), fun hl => ⟨(by unfold jv_r; omega), fun _ => ?_, fun h9 => absurd rfl h9⟩, fun hl => ⟨(by unfold jv_r; omega), fun h9 => absurd h9 (by omega), fun _ => h3 h (by omega)⟩⟩
  unfold wp_X5_putAtEnd
  refine ⟨by omega, ?_⟩
  rintro g1 rfl g2 rfl
  have e : jv_up g 2 (g 1 1) a 1 1 = g 1 1 := jv_up_n (by omega)
  rw [e]
  have e2 : jv_up (jv_up g 2 (g 1 1) a) 1 1 (g 1 1 + 1) 2 = jv_up g 2 (g 1 1) a 2 := jv_up_row (by omega)
  have e3 : jv_up (jv_up g 2 (g 1 1) a) 1 1 (g 1 1 + 1) 1 1 = g 1 1 + 1 := jv_up_e rfl rfl
  refine u_charCount (by rw [e3]; omega) (by rw [e3]; omega) (fun i i0 i1 => ?_) ?_
  · rw [e3] at i1
    rw [e2]
    by_cases e4 : i = g 1 1
    · rw [jv_up_e rfl e4]; unfold jv_r; omega
    · rw [jv_up_n (by omega)]; have := hs i i0 (by omega); unfold jv_r; omega
  · rw [e2, e3]; exact h1 h hl
theorem u_canSpell {a : Int} {Q : Int → jv_Mem → Prop} {g : jv_Mem} (ra : jv_r a) (n0 : 0 ≤ g 126 1) (n1 : g 126 1 ≤ 3) (h1 : 0 ≤ a ∧ a < 9 → g 126 1 < 3 → Q 1 (jv_up g 126 29 0)) (h2 : ¬ (0 ≤ a ∧ a < 9) → Q 0 (jv_up g 126 29 1)) (h3 : 0 ≤ a ∧ a < 9 → g 126 1 = 3 → Q 0 (jv_up g 126 29 2)) : wp_X9_canSpell a Q g := by
  unfold wp_X9_canSpell
  have e : ∀ v, jv_up g 126 29 v 126 29 = v := fun v => jv_up_e rfl rfl
  refine u_in ra (by unfold jv_r; omega) (by unfold jv_r; omega) (fun h => ⟨(by unfold jv_r; omega), fun _ => ⟨(by unfold jv_r; omega), fun hn => ?_, fun hn => ?_⟩, fun h9 => absurd h9 (by omega)⟩) (fun h => ⟨(by unfold jv_r; omega), fun h9 => absurd rfl h9, fun _ => ?_⟩)
  · rintro g1 rfl
    rw [e]
    exact ⟨(by unfold jv_r; omega), fun h9 => absurd rfl h9, fun _ => h1 (by omega) (by omega)⟩
  · rintro g1 rfl
    rw [e]
    exact ⟨(by unfold jv_r; omega), fun _ => h3 (by omega) (by omega), fun h9 => absurd h9 (by omega)⟩
  · rintro g1 rfl
    rw [e]
    exact ⟨(by unfold jv_r; omega), fun _ => h2 (by omega), fun h9 => absurd h9 (by omega)⟩
theorem u_spellM {a : Int} {Q : Int → jv_Mem → Prop} {g : jv_Mem} (ra : jv_r a) (n0 : 0 ≤ g 126 1) (n1 : g 126 1 ≤ 3) (hs : ∀ i, 0 ≤ i → i < g 126 1 → 0 ≤ g 127 i ∧ g 127 i < 9) (h1 : 0 ≤ a ∧ a < 9 → g 126 1 < 3 → Q (iv_cd (jv_up g 127 (g 126 1) a 127) 0 (g 126 1 + 1).toNat) (jv_up (jv_up (jv_up g 126 29 0) 127 (g 126 1) a) 126 1 (g 126 1 + 1))) (h2 : ¬ (0 ≤ a ∧ a < 9) → Q 0 (jv_up g 126 29 1)) (h3 : 0 ≤ a ∧ a < 9 → g 126 1 = 3 → Q 0 (jv_up g 126 29 2)) : wp_X9_spell a Q g := by
  unfold wp_X9_spell
  refine u_canSpell ra n0 n1 (fun h hl => ⟨(by unfold jv_r; omega), fun _ => ?_, fun h9 => absurd h9 (by omega)⟩) (fun h => ⟨(by unfold jv_r; omega), fun h9 => absurd rfl h9, fun _ => h2 h⟩) (fun h hl => ⟨(by unfold jv_r; omega), fun h9 => absurd rfl h9, fun _ => h3 h hl⟩)
  have e : jv_up g 126 29 0 126 1 = g 126 1 := jv_up_n (by omega)
  rw [e]
  refine ⟨by omega, ?_⟩
  rintro g1 rfl g2 rfl
  have e1 : jv_up (jv_up g 126 29 0) 127 (g 126 1) a 126 1 = g 126 1 := by rw [jv_up_n (by omega), jv_up_n (by omega)]
  rw [e1]
  have e2 : jv_up (jv_up (jv_up g 126 29 0) 127 (g 126 1) a) 126 1 (g 126 1 + 1) 127 = jv_up g 127 (g 126 1) a 127 := by
    rw [jv_up_row (by omega)]
    funext k
    by_cases e : k = g 126 1
    · rw [jv_up_e rfl e, jv_up_e rfl e]
    · rw [jv_up_n (by omega), jv_up_n (by omega), jv_up_n (by omega)]
  have e3 : jv_up (jv_up (jv_up g 126 29 0) 127 (g 126 1) a) 126 1 (g 126 1 + 1) 126 1 = g 126 1 + 1 := jv_up_e rfl rfl
  refine u_chars (by rw [e3]; omega) (by rw [e3]; omega) (fun i i0 i1 => ?_) ?_
  · rw [e3] at i1
    rw [e2]
    by_cases e4 : i = g 126 1
    · rw [jv_up_e rfl e4]; unfold jv_r; omega
    · rw [jv_up_n (by omega)]; have := hs i i0 (by omega); unfold jv_r; omega
  · rw [e2, e3]; exact h1 h hl
theorem cs_0 {L : Nat} {xs : Nat → Int32} (hL : L ≤ 2560) : ∀ (x4 : Int) (g : jv_Mem), 0 ≤ x4 → x4 + 4 < ((L : Nat) : Int) → iJ x4 g → wp_LC_0 xs L x4 (iJ (x4 + 5)) g := by
  intro x4 g h0 h4 hI
  obtain ⟨hx, j1, j2, j3, j4, j5, j6, j7, j8⟩ := id hI
  obtain ⟨e1, e2, e3, e4⟩ := id j1
  have ra := jv_sx_r xs (x4 + 1)
  unfold wp_LC_0 wp_L_spell
  generalize jv_sx xs (x4 + 1) = a at ra ⊢
  obtain ⟨ra0, ra1⟩ := ra
  have d1 : ∀ c v w : Int, jv_up (jv_up (jv_up g 2 (g 1 1) a) 1 1 v) 148 0 w 126 1 = g 1 1 := fun c v w => by simp (disch := omega) only [jv_up_e, jv_up_i, jv_up_k, jv_up_row, true_and, and_true]; exact e1
  refine ⟨by omega, u_spellX ⟨ra0, ra1⟩ e2 e3 (fun i i0 i1 => (e4 i i0 i1).2) (fun h hl => ?_) (fun h => Or.inl ⟨rfl, by omega, ?_⟩) (fun h hl => Or.inr ⟨rfl, by omega, ?_⟩)⟩
  · have hr := @iv_cd_r (jv_up g 2 (g 1 1) a 2) (g 1 1 + 1).toNat 0
    generalize hcc : iv_cd (jv_up g 2 (g 1 1) a 2) 0 (g 1 1 + 1).toNat = c at hr ⊢
    refine ⟨(by unfold jv_r; omega), by omega, ?_⟩
    rintro g1 rfl
    have q1 : jv_up (jv_up (jv_up g 2 (g 1 1) a) 1 1 (g 1 1 + 1)) 148 0 c 126 1 = g 1 1 := by simp (disch := omega) only [jv_up_e, jv_up_i, jv_up_k, jv_up_row, true_and, and_true]; exact e1
    have q2 : ∀ i, jv_up (jv_up (jv_up g 2 (g 1 1) a) 1 1 (g 1 1 + 1)) 148 0 c 127 i = g 127 i := fun i => by simp (disch := omega) only [jv_up_e, jv_up_i, jv_up_k, jv_up_row, true_and, and_true]
    refine ⟨by omega, u_spellM ⟨ra0, ra1⟩ (by rw [q1]; exact e2) (by rw [q1]; exact e3) (fun i i0 i1 => ?_) (fun _ _ => ?_) (fun h' => absurd h h') (fun _ h' => ?_)⟩
    · rw [q1] at i1; rw [q2, (e4 i i0 i1).1]; exact (e4 i i0 i1).2
    · rw [q1]
      have hd : iv_cd (jv_up (jv_up (jv_up (jv_up g 2 (g 1 1) a) 1 1 (g 1 1 + 1)) 148 0 c) 127 (g 1 1) a 127) 0 (g 1 1 + 1).toNat = c := by
        rw [← hcc]
        refine iv_cd_congr (fun j j0 j1 => ?_)
        by_cases e : j = g 1 1
        · simp (disch := omega) only [jv_up_e, jv_up_i, jv_up_k, jv_up_row, true_and, and_true]
        · simp (disch := omega) only [jv_up_e, jv_up_i, jv_up_k, jv_up_row, true_and, and_true]; exact (e4 j j0 (by omega)).1
      rw [hd]
      refine lc_end (by first | omega | (simp (disch := omega) only [jv_up_e, jv_up_i, jv_up_k]; done) | (simp (disch := omega) only [jv_up_e, jv_up_i, jv_up_k]; omega)) (by unfold jv_r; omega) (fun _ => ⟨(by first | omega | (simp (disch := omega) only [jv_up_e, jv_up_i, jv_up_k]; done) | (simp (disch := omega) only [jv_up_e, jv_up_i, jv_up_k]; omega)), (by unfold jv_r; omega)⟩) ?_
      refine ⟨by omega, ?_, j2.fr (by (intro i k hik; (try unfold f1 at hik); (try unfold f2 at hik); (try unfold f3 at hik); (try unfold f4 at hik); (try unfold f5 at hik); (try unfold f6 at hik); (try unfold f7 at hik); (try unfold f8 at hik); (try unfold jv_scr at hik); repeat rw [jv_up_n (by omega)])), j3.fr (by (intro i k hik; (try unfold f1 at hik); (try unfold f2 at hik); (try unfold f3 at hik); (try unfold f4 at hik); (try unfold f5 at hik); (try unfold f6 at hik); (try unfold f7 at hik); (try unfold f8 at hik); (try unfold jv_scr at hik); repeat rw [jv_up_n (by omega)])), j4.fr (by (intro i k hik; (try unfold f1 at hik); (try unfold f2 at hik); (try unfold f3 at hik); (try unfold f4 at hik); (try unfold f5 at hik); (try unfold f6 at hik); (try unfold f7 at hik); (try unfold f8 at hik); (try unfold jv_scr at hik); repeat rw [jv_up_n (by omega)])), j5.fr (by (intro i k hik; (try unfold f1 at hik); (try unfold f2 at hik); (try unfold f3 at hik); (try unfold f4 at hik); (try unfold f5 at hik); (try unfold f6 at hik); (try unfold f7 at hik); (try unfold f8 at hik); (try unfold jv_scr at hik); repeat rw [jv_up_n (by omega)])), j6.fr (by (intro i k hik; (try unfold f1 at hik); (try unfold f2 at hik); (try unfold f3 at hik); (try unfold f4 at hik); (try unfold f5 at hik); (try unfold f6 at hik); (try unfold f7 at hik); (try unfold f8 at hik); (try unfold jv_scr at hik); repeat rw [jv_up_n (by omega)])), j7.fr (by omega) (by (intro i k hik; (try unfold f1 at hik); (try unfold f2 at hik); (try unfold f3 at hik); (try unfold f4 at hik); (try unfold f5 at hik); (try unfold f6 at hik); (try unfold f7 at hik); (try unfold f8 at hik); (try unfold jv_scr at hik); repeat rw [jv_up_n (by omega)])), j8.fr (by omega) (by (intro i k hik; (try unfold f1 at hik); (try unfold f2 at hik); (try unfold f3 at hik); (try unfold f4 at hik); (try unfold f5 at hik); (try unfold f6 at hik); (try unfold f7 at hik); (try unfold f8 at hik); (try unfold jv_scr at hik); repeat rw [jv_up_n (by omega)]))⟩
      unfold iJ1
      simp (disch := omega) only [jv_up_e, jv_up_i, jv_up_k, jv_up_row, true_and, and_true]
      refine ⟨by omega, by omega, fun j j0 j1 => ?_⟩
      by_cases e : j = g 1 1
      · simp (disch := omega) only [jv_up_e, jv_up_i, jv_up_k, jv_up_row, true_and, and_true]; omega
      · simp (disch := omega) only [jv_up_e, jv_up_i, jv_up_k, jv_up_row, true_and, and_true]; exact e4 j j0 (by omega)
    · rw [q1] at h'; omega
  · refine u_spellM ⟨ra0, ra1⟩ (by omega) (by omega) (fun i i0 i1 => by rw [(e4 i i0 (by omega)).1]; exact (e4 i i0 (by omega)).2) (fun h' => absurd h' h) (fun _ => ?_) (fun h' => absurd h' h)
    exact lc_end (by first | omega | (simp (disch := omega) only [jv_up_e, jv_up_i, jv_up_k]; done) | (simp (disch := omega) only [jv_up_e, jv_up_i, jv_up_k]; omega)) (by unfold jv_r; omega) (fun h => absurd h (by omega)) (hI.fr (by omega) (by (intro i k hik; (try unfold f1 at hik); (try unfold f2 at hik); (try unfold f3 at hik); (try unfold f4 at hik); (try unfold f5 at hik); (try unfold f6 at hik); (try unfold f7 at hik); (try unfold f8 at hik); (try unfold jv_scr at hik); repeat rw [jv_up_n (by omega)])))
  · refine u_spellM ⟨ra0, ra1⟩ (by omega) (by omega) (fun i i0 i1 => by rw [(e4 i i0 (by omega)).1]; exact (e4 i i0 (by omega)).2) (fun h' h9 => by omega) (fun h' => absurd h h') (fun _ _ => ?_)
    exact lc_end (by first | omega | (simp (disch := omega) only [jv_up_e, jv_up_i, jv_up_k]; done) | (simp (disch := omega) only [jv_up_e, jv_up_i, jv_up_k]; omega)) (by unfold jv_r; omega) (fun h => absurd h (by omega)) (hI.fr (by omega) (by (intro i k hik; (try unfold f1 at hik); (try unfold f2 at hik); (try unfold f3 at hik); (try unfold f4 at hik); (try unfold f5 at hik); (try unfold f6 at hik); (try unfold f7 at hik); (try unfold f8 at hik); (try unfold jv_scr at hik); repeat rw [jv_up_n (by omega)])))
