theorem u_insertX {a : Int} {Q : Int → jv_Mem → Prop} {Qx : String → jv_Mem → Prop} {g : jv_Mem} (ra : jv_r a) (n0 : 0 ≤ g 1 1) (n1 : g 1 1 ≤ 3) (hs : ∀ i, 0 ≤ i → i < g 1 1 → 0 ≤ g 2 i ∧ g 2 i < 9) (h1 : 0 ≤ a ∧ a < 9 → g 1 1 < 3 → ∀ g' : jv_Mem, (∀ i k, i ≠ 2 → ¬ (i = 1 ∧ k = 1) → g' i k = g i k) → g' 1 1 = g 1 1 + 1 → g' 2 0 = a → (∀ j, 1 ≤ j → j ≤ g 1 1 → g' 2 j = g 2 (j - 1)) → Q (iv_cd (g' 2) 0 (g 1 1 + 1).toNat) g') (h2 : ¬ (0 ≤ a ∧ a < 9) → Qx "java/lang/IndexOutOfBoundsException" g) (h3 : 0 ≤ a ∧ a < 9 → g 1 1 = 3 → Qx "java/lang/IllegalStateException" g) : wp_X8_insert a Q Qx g := by
  unfold wp_X8_insert
  refine u_needIndex ra (by unfold jv_r; omega) (fun h => ?_) h2
  unfold wp_X8_needRoomForLetter wp_X5_isFull
  refine ⟨(by unfold jv_r; omega), fun hl => ⟨(by unfold jv_r; omega), fun _ => ?_, fun h9 => absurd rfl h9⟩, fun hl => ⟨(by unfold jv_r; omega), fun h9 => absurd h9 (by omega), fun _ => h3 h (by omega)⟩⟩
  have h1 := h1 h hl
  unfold wp_X5_putAtBeginning
  rintro v2 rfl
  refine ⟨fun n x2 gl => 0 ≤ x2 ∧ x2 ≤ g 1 1 ∧ (∀ i k, i ≠ 2 → gl i k = g i k) ∧ (∀ j, 0 ≤ j → j ≤ x2 → gl 2 j = g 2 j) ∧ (∀ j, x2 < j → j ≤ g 1 1 → gl 2 j = g 2 (j - 1)) ∧ n = x2.toNat, ⟨_, n0, by omega, fun _ _ _ => rfl, fun _ _ _ => rfl, fun j j0 j1 => by omega, rfl⟩, ?_⟩
  rintro n x2 gl ⟨a0, a1, a2, a3, a4, a5⟩
  refine ⟨(by unfold jv_r; omega), fun hz => ⟨by omega, ?_⟩, fun hz => ⟨by omega, by omega, ?_⟩⟩
  · rintro g1 rfl g2 rfl
    have e : jv_up gl 2 0 a 1 1 = g 1 1 := by rw [jv_up_n (by omega)]; exact a2 1 1 (by omega)
    rw [e]
    have e3 : jv_up (jv_up gl 2 0 a) 1 1 (g 1 1 + 1) 1 1 = g 1 1 + 1 := jv_up_e rfl rfl
    have e4 : jv_up (jv_up gl 2 0 a) 1 1 (g 1 1 + 1) 2 0 = a := by rw [jv_up_n (by omega), jv_up_e rfl rfl]
    have e5 : ∀ j, 1 ≤ j → j ≤ g 1 1 → jv_up (jv_up gl 2 0 a) 1 1 (g 1 1 + 1) 2 j = g 2 (j - 1) := fun j j0 j1 => by rw [jv_up_n (by omega), jv_up_n (by omega)]; exact a4 j (by omega) j1
    refine u_charCount (by rw [e3]; omega) (by rw [e3]; omega) (fun i i0 i1 => ?_) ?_
    · rw [e3] at i1
      by_cases ei : i = 0
      · rw [ei, e4]; unfold jv_r; omega
      · rw [e5 i (by omega) (by omega)]; have := hs (i - 1) (by omega) (by omega); unfold jv_r; omega
    · have := h1 (jv_up (jv_up gl 2 0 a) 1 1 (g 1 1 + 1)) (fun i k p q => by rw [jv_up_n q, jv_up_n (fun hh => p hh.1)]; exact a2 i k p) e3 e4 e5
      rw [e3]; exact this
  · rintro g1 rfl v3 e3
    refine ⟨v3.toNat, by omega, by omega, by omega, fun i k p => by rw [jv_up_n (fun hh => p hh.1)]; exact a2 i k p, fun j j0 j1 => by rw [jv_up_n (by omega)]; exact a3 j j0 (by omega), fun j j0 j1 => ?_, rfl⟩
    by_cases ej : j = x2
    · rw [jv_up_e rfl ej, ej]; exact a3 (x2 - 1) (by omega) (by omega)
    · rw [jv_up_n (by omega)]; exact a4 j (by omega) j1
theorem u_insertM {a : Int} {Q : Int → jv_Mem → Prop} {g : jv_Mem} (ra : jv_r a) (n0 : 0 ≤ g 126 1) (n1 : g 126 1 ≤ 3) (hs : ∀ i, 0 ≤ i → i < g 126 1 → 0 ≤ g 127 i ∧ g 127 i < 9) (h1 : 0 ≤ a ∧ a < 9 → g 126 1 < 3 → ∀ g' : jv_Mem, (∀ i k, i ≠ 127 → ¬ (i = 126 ∧ (k = 1 ∨ k = 29)) → g' i k = g i k) → g' 126 29 = 0 → g' 126 1 = g 126 1 + 1 → g' 127 0 = a → (∀ j, 1 ≤ j → j ≤ g 126 1 → g' 127 j = g 127 (j - 1)) → Q (iv_cd (g' 127) 0 (g 126 1 + 1).toNat) g') (h2 : ¬ (0 ≤ a ∧ a < 9) → Q 0 (jv_up g 126 29 1)) (h3 : 0 ≤ a ∧ a < 9 → g 126 1 = 3 → Q 0 (jv_up g 126 29 2)) : wp_X9_insert a Q g := by
  unfold wp_X9_insert
  refine u_canSpell ra n0 n1 (fun h hl => ⟨(by unfold jv_r; omega), fun _ => ?_, fun h9 => absurd h9 (by omega)⟩) (fun h => ⟨(by unfold jv_r; omega), fun h9 => absurd rfl h9, fun _ => h2 h⟩) (fun h hl => ⟨(by unfold jv_r; omega), fun h9 => absurd rfl h9, fun _ => h3 h hl⟩)
  have h1 := h1 h hl
  have e : jv_up g 126 29 0 126 1 = g 126 1 := jv_up_n (by omega)
  rintro v2 ev
  rw [e] at ev
  refine ⟨fun n x2 gl => 0 ≤ x2 ∧ x2 ≤ g 126 1 ∧ gl 126 29 = 0 ∧ (∀ i k, i ≠ 127 → ¬ (i = 126 ∧ k = 29) → gl i k = g i k) ∧ (∀ j, 0 ≤ j → j ≤ x2 → gl 127 j = g 127 j) ∧ (∀ j, x2 < j → j ≤ g 126 1 → gl 127 j = g 127 (j - 1)) ∧ n = x2.toNat, ⟨_, by omega, by omega, jv_up_e rfl rfl, fun i k p q => jv_up_n q, fun j _ _ => jv_up_n (by omega), fun j j0 j1 => by omega, rfl⟩, ?_⟩
  rintro n x2 gl ⟨a0, a1, a9, a2, a3, a4, a5⟩
  refine ⟨(by unfold jv_r; omega), fun hz => ⟨by omega, ?_⟩, fun hz => ⟨by omega, by omega, ?_⟩⟩
  · rintro g1 rfl g2 rfl
    have e : jv_up gl 127 0 a 126 1 = g 126 1 := by rw [jv_up_n (by omega)]; exact a2 126 1 (by omega) (by omega)
    rw [e]
    have e3 : jv_up (jv_up gl 127 0 a) 126 1 (g 126 1 + 1) 126 1 = g 126 1 + 1 := jv_up_e rfl rfl
    have e4 : jv_up (jv_up gl 127 0 a) 126 1 (g 126 1 + 1) 127 0 = a := by rw [jv_up_n (by omega), jv_up_e rfl rfl]
    have e5 : ∀ j, 1 ≤ j → j ≤ g 126 1 → jv_up (jv_up gl 127 0 a) 126 1 (g 126 1 + 1) 127 j = g 127 (j - 1) := fun j j0 j1 => by rw [jv_up_n (by omega), jv_up_n (by omega)]; exact a4 j (by omega) j1
    refine u_chars (by rw [e3]; omega) (by rw [e3]; omega) (fun i i0 i1 => ?_) ?_
    · rw [e3] at i1
      by_cases ei : i = 0
      · rw [ei, e4]; unfold jv_r; omega
      · rw [e5 i (by omega) (by omega)]; have := hs (i - 1) (by omega) (by omega); unfold jv_r; omega
    · have := h1 (jv_up (jv_up gl 127 0 a) 126 1 (g 126 1 + 1)) (fun i k p q => by rw [jv_up_n (by omega), jv_up_n (by omega)]; exact a2 i k p (by omega)) (by rw [jv_up_n (by omega), jv_up_n (by omega)]; exact a9) e3 e4 e5
      rw [e3]; exact this
  · rintro g1 rfl v3 e3
    refine ⟨v3.toNat, by omega, by omega, by omega, by rw [jv_up_n (by omega)]; exact a9, fun i k p q => by rw [jv_up_n (fun hh => p hh.1)]; exact a2 i k p q, fun j j0 j1 => by rw [jv_up_n (by omega)]; exact a3 j j0 (by omega), fun j j0 j1 => ?_, rfl⟩
    by_cases ej : j = x2
    · rw [jv_up_e rfl ej, ej]; exact a3 (x2 - 1) (by omega) (by omega)
    · rw [jv_up_n (by omega)]; exact a4 j (by omega) j1
theorem cs_1 {L : Nat} {xs : Nat → Int32} (hL : L ≤ 2560) : ∀ (x4 : Int) (g : jv_Mem), 0 ≤ x4 → x4 + 4 < ((L : Nat) : Int) → iJ x4 g → wp_LC_1 xs L x4 (iJ (x4 + 5)) g := by
  intro x4 g h0 h4 hI
  obtain ⟨hx, j1, j2, j3, j4, j5, j6, j7, j8⟩ := id hI
  obtain ⟨e1, e2, e3, e4⟩ := id j1
  have ra := jv_sx_r xs (x4 + 1)
  unfold wp_LC_1 wp_L_insert
  generalize jv_sx xs (x4 + 1) = a at ra ⊢
  obtain ⟨ra0, ra1⟩ := ra
  refine ⟨by omega, u_insertX ⟨ra0, ra1⟩ e2 e3 (fun i i0 i1 => (e4 i i0 i1).2) (fun h hl g1 b1 b2 b3 b4 => ?_) (fun h => Or.inl ⟨rfl, by omega, ?_⟩) (fun h hl => Or.inr ⟨rfl, by omega, ?_⟩)⟩
  · have hr := @iv_cd_r (g1 2) (g 1 1 + 1).toNat 0
    generalize hcc : iv_cd (g1 2) 0 (g 1 1 + 1).toNat = c at hr ⊢
    refine ⟨(by unfold jv_r; omega), by omega, ?_⟩
    rintro g2 rfl
    have q1 : jv_up g1 148 0 c 126 1 = g 1 1 := by rw [jv_up_n (by omega), b1 126 1 (by omega) (by omega)]; exact e1
    have q2 : ∀ i, jv_up g1 148 0 c 127 i = g 127 i := fun i => by rw [jv_up_n (by omega), b1 127 i (by omega) (by omega)]
    refine ⟨by omega, u_insertM ⟨ra0, ra1⟩ (by rw [q1]; exact e2) (by rw [q1]; exact e3) (fun i i0 i1 => ?_) (fun _ _ g3 c1 c2 c3 c4 c5 => ?_) (fun h' => absurd h h') (fun _ h' => ?_)⟩
    · rw [q1] at i1; rw [q2, (e4 i i0 i1).1]; exact (e4 i i0 i1).2
    · rw [q1] at c3 c5 ⊢
      have k1 : g3 1 1 = g 1 1 + 1 := by rw [c1 1 1 (by omega) (by omega), jv_up_n (by omega)]; exact b2
      have k2 : ∀ j, 0 ≤ j → j < g 1 1 + 1 → g3 127 j = g1 2 j ∧ 0 ≤ g1 2 j ∧ g1 2 j < 9 := fun j j0 j1 => by
        by_cases e : j = 0
        · rw [e, c4, b3]; omega
        · rw [c5 j (by omega) (by omega), b4 j (by omega) (by omega), q2]; exact e4 (j - 1) (by omega) (by omega)
      have hd : iv_cd (g3 127) 0 (g 1 1 + 1).toNat = c := by
        rw [← hcc]
        exact iv_cd_congr (fun j j0 j1 => (k2 j j0 (by omega)).1)
      rw [hd]
      have fr : ∀ i k, i ≠ 127 → ¬ (i = 126 ∧ (k = 1 ∨ k = 29)) → ¬ (i = 148 ∧ k = 0) → i ≠ 2 → ¬ (i = 1 ∧ k = 1) → g3 i k = g i k := fun i k p1 p2 p3 p4 p5 => by rw [c1 i k p1 p2, jv_up_n p3, b1 i k p4 p5]
      refine lc_end c2 (by unfold jv_r; omega) (fun _ => ⟨by rw [c1 148 0 (by omega) (by omega)]; exact jv_up_e rfl rfl, (by unfold jv_r; omega)⟩) ?_
      refine ⟨by omega, ?_, j2.fr fun i k hik => fr i k (by (try unfold f1 at hik); (try unfold f2 at hik); (try unfold f3 at hik); (try unfold f4 at hik); (try unfold f5 at hik); (try unfold f6 at hik); (try unfold f7 at hik); (try unfold f8 at hik); (try unfold jv_scr at hik); omega) (by (try unfold f1 at hik); (try unfold f2 at hik); (try unfold f3 at hik); (try unfold f4 at hik); (try unfold f5 at hik); (try unfold f6 at hik); (try unfold f7 at hik); (try unfold f8 at hik); (try unfold jv_scr at hik); omega) (by (try unfold f1 at hik); (try unfold f2 at hik); (try unfold f3 at hik); (try unfold f4 at hik); (try unfold f5 at hik); (try unfold f6 at hik); (try unfold f7 at hik); (try unfold f8 at hik); (try unfold jv_scr at hik); omega) (by (try unfold f1 at hik); (try unfold f2 at hik); (try unfold f3 at hik); (try unfold f4 at hik); (try unfold f5 at hik); (try unfold f6 at hik); (try unfold f7 at hik); (try unfold f8 at hik); (try unfold jv_scr at hik); omega) (by (try unfold f1 at hik); (try unfold f2 at hik); (try unfold f3 at hik); (try unfold f4 at hik); (try unfold f5 at hik); (try unfold f6 at hik); (try unfold f7 at hik); (try unfold f8 at hik); (try unfold jv_scr at hik); omega), j3.fr fun i k hik => fr i k (by (try unfold f1 at hik); (try unfold f2 at hik); (try unfold f3 at hik); (try unfold f4 at hik); (try unfold f5 at hik); (try unfold f6 at hik); (try unfold f7 at hik); (try unfold f8 at hik); (try unfold jv_scr at hik); omega) (by (try unfold f1 at hik); (try unfold f2 at hik); (try unfold f3 at hik); (try unfold f4 at hik); (try unfold f5 at hik); (try unfold f6 at hik); (try unfold f7 at hik); (try unfold f8 at hik); (try unfold jv_scr at hik); omega) (by (try unfold f1 at hik); (try unfold f2 at hik); (try unfold f3 at hik); (try unfold f4 at hik); (try unfold f5 at hik); (try unfold f6 at hik); (try unfold f7 at hik); (try unfold f8 at hik); (try unfold jv_scr at hik); omega) (by (try unfold f1 at hik); (try unfold f2 at hik); (try unfold f3 at hik); (try unfold f4 at hik); (try unfold f5 at hik); (try unfold f6 at hik); (try unfold f7 at hik); (try unfold f8 at hik); (try unfold jv_scr at hik); omega) (by (try unfold f1 at hik); (try unfold f2 at hik); (try unfold f3 at hik); (try unfold f4 at hik); (try unfold f5 at hik); (try unfold f6 at hik); (try unfold f7 at hik); (try unfold f8 at hik); (try unfold jv_scr at hik); omega), j4.fr fun i k hik => fr i k (by (try unfold f1 at hik); (try unfold f2 at hik); (try unfold f3 at hik); (try unfold f4 at hik); (try unfold f5 at hik); (try unfold f6 at hik); (try unfold f7 at hik); (try unfold f8 at hik); (try unfold jv_scr at hik); omega) (by (try unfold f1 at hik); (try unfold f2 at hik); (try unfold f3 at hik); (try unfold f4 at hik); (try unfold f5 at hik); (try unfold f6 at hik); (try unfold f7 at hik); (try unfold f8 at hik); (try unfold jv_scr at hik); omega) (by (try unfold f1 at hik); (try unfold f2 at hik); (try unfold f3 at hik); (try unfold f4 at hik); (try unfold f5 at hik); (try unfold f6 at hik); (try unfold f7 at hik); (try unfold f8 at hik); (try unfold jv_scr at hik); omega) (by (try unfold f1 at hik); (try unfold f2 at hik); (try unfold f3 at hik); (try unfold f4 at hik); (try unfold f5 at hik); (try unfold f6 at hik); (try unfold f7 at hik); (try unfold f8 at hik); (try unfold jv_scr at hik); omega) (by (try unfold f1 at hik); (try unfold f2 at hik); (try unfold f3 at hik); (try unfold f4 at hik); (try unfold f5 at hik); (try unfold f6 at hik); (try unfold f7 at hik); (try unfold f8 at hik); (try unfold jv_scr at hik); omega), j5.fr fun i k hik => fr i k (by (try unfold f1 at hik); (try unfold f2 at hik); (try unfold f3 at hik); (try unfold f4 at hik); (try unfold f5 at hik); (try unfold f6 at hik); (try unfold f7 at hik); (try unfold f8 at hik); (try unfold jv_scr at hik); omega) (by (try unfold f1 at hik); (try unfold f2 at hik); (try unfold f3 at hik); (try unfold f4 at hik); (try unfold f5 at hik); (try unfold f6 at hik); (try unfold f7 at hik); (try unfold f8 at hik); (try unfold jv_scr at hik); omega) (by (try unfold f1 at hik); (try unfold f2 at hik); (try unfold f3 at hik); (try unfold f4 at hik); (try unfold f5 at hik); (try unfold f6 at hik); (try unfold f7 at hik); (try unfold f8 at hik); (try unfold jv_scr at hik); omega) (by (try unfold f1 at hik); (try unfold f2 at hik); (try unfold f3 at hik); (try unfold f4 at hik); (try unfold f5 at hik); (try unfold f6 at hik); (try unfold f7 at hik); (try unfold f8 at hik); (try unfold jv_scr at hik); omega) (by (try unfold f1 at hik); (try unfold f2 at hik); (try unfold f3 at hik); (try unfold f4 at hik); (try unfold f5 at hik); (try unfold f6 at hik); (try unfold f7 at hik); (try unfold f8 at hik); (try unfold jv_scr at hik); omega), j6.fr fun i k hik => fr i k (by (try unfold f1 at hik); (try unfold f2 at hik); (try unfold f3 at hik); (try unfold f4 at hik); (try unfold f5 at hik); (try unfold f6 at hik); (try unfold f7 at hik); (try unfold f8 at hik); (try unfold jv_scr at hik); omega) (by (try unfold f1 at hik); (try unfold f2 at hik); (try unfold f3 at hik); (try unfold f4 at hik); (try unfold f5 at hik); (try unfold f6 at hik); (try unfold f7 at hik); (try unfold f8 at hik); (try unfold jv_scr at hik); omega) (by (try unfold f1 at hik); (try unfold f2 at hik); (try unfold f3 at hik); (try unfold f4 at hik); (try unfold f5 at hik); (try unfold f6 at hik); (try unfold f7 at hik); (try unfold f8 at hik); (try unfold jv_scr at hik); omega) (by (try unfold f1 at hik); (try unfold f2 at hik); (try unfold f3 at hik); (try unfold f4 at hik); (try unfold f5 at hik); (try unfold f6 at hik); (try unfold f7 at hik); (try unfold f8 at hik); (try unfold jv_scr at hik); omega) (by (try unfold f1 at hik); (try unfold f2 at hik); (try unfold f3 at hik); (try unfold f4 at hik); (try unfold f5 at hik); (try unfold f6 at hik); (try unfold f7 at hik); (try unfold f8 at hik); (try unfold jv_scr at hik); omega), j7.fr (by omega) fun i k hik => fr i k (by (try unfold f1 at hik); (try unfold f2 at hik); (try unfold f3 at hik); (try unfold f4 at hik); (try unfold f5 at hik); (try unfold f6 at hik); (try unfold f7 at hik); (try unfold f8 at hik); (try unfold jv_scr at hik); omega) (by (try unfold f1 at hik); (try unfold f2 at hik); (try unfold f3 at hik); (try unfold f4 at hik); (try unfold f5 at hik); (try unfold f6 at hik); (try unfold f7 at hik); (try unfold f8 at hik); (try unfold jv_scr at hik); omega) (by (try unfold f1 at hik); (try unfold f2 at hik); (try unfold f3 at hik); (try unfold f4 at hik); (try unfold f5 at hik); (try unfold f6 at hik); (try unfold f7 at hik); (try unfold f8 at hik); (try unfold jv_scr at hik); omega) (by (try unfold f1 at hik); (try unfold f2 at hik); (try unfold f3 at hik); (try unfold f4 at hik); (try unfold f5 at hik); (try unfold f6 at hik); (try unfold f7 at hik); (try unfold f8 at hik); (try unfold jv_scr at hik); omega) (by (try unfold f1 at hik); (try unfold f2 at hik); (try unfold f3 at hik); (try unfold f4 at hik); (try unfold f5 at hik); (try unfold f6 at hik); (try unfold f7 at hik); (try unfold f8 at hik); (try unfold jv_scr at hik); omega), j8.fr (by omega) fun i k hik => fr i k (by (try unfold f1 at hik); (try unfold f2 at hik); (try unfold f3 at hik); (try unfold f4 at hik); (try unfold f5 at hik); (try unfold f6 at hik); (try unfold f7 at hik); (try unfold f8 at hik); (try unfold jv_scr at hik); omega) (by (try unfold f1 at hik); (try unfold f2 at hik); (try unfold f3 at hik); (try unfold f4 at hik); (try unfold f5 at hik); (try unfold f6 at hik); (try unfold f7 at hik); (try unfold f8 at hik); (try unfold jv_scr at hik); omega) (by (try unfold f1 at hik); (try unfold f2 at hik); (try unfold f3 at hik); (try unfold f4 at hik); (try unfold f5 at hik); (try unfold f6 at hik); (try unfold f7 at hik); (try unfold f8 at hik); (try unfold jv_scr at hik); omega) (by (try unfold f1 at hik); (try unfold f2 at hik); (try unfold f3 at hik); (try unfold f4 at hik); (try unfold f5 at hik); (try unfold f6 at hik); (try unfold f7 at hik); (try unfold f8 at hik); (try unfold jv_scr at hik); omega) (by (try unfold f1 at hik); (try unfold f2 at hik); (try unfold f3 at hik); (try unfold f4 at hik); (try unfold f5 at hik); (try unfold f6 at hik); (try unfold f7 at hik); (try unfold f8 at hik); (try unfold jv_scr at hik); omega)⟩
      unfold iJ1
      rw [k1, c3]
      refine ⟨rfl, by omega, by omega, fun j j0 j1 => ?_⟩
      have k3 : g3 2 j = g1 2 j := by rw [c1 2 j (by omega) (by omega), jv_up_n (by omega)]
      rw [k3]; exact k2 j j0 j1
    · rw [q1] at h'; omega
  · refine u_insertM ⟨ra0, ra1⟩ (by omega) (by omega) (fun i i0 i1 => by rw [(e4 i i0 (by omega)).1]; exact (e4 i i0 (by omega)).2) (fun h' => absurd h' h) (fun _ => ?_) (fun h' => absurd h' h)
    exact lc_end (by first | omega | (simp (disch := omega) only [jv_up_e, jv_up_i, jv_up_k]; done) | (simp (disch := omega) only [jv_up_e, jv_up_i, jv_up_k]; omega)) (by unfold jv_r; omega) (fun h => absurd h (by omega)) (hI.fr (by omega) (by (intro i k hik; (try unfold f1 at hik); (try unfold f2 at hik); (try unfold f3 at hik); (try unfold f4 at hik); (try unfold f5 at hik); (try unfold f6 at hik); (try unfold f7 at hik); (try unfold f8 at hik); (try unfold jv_scr at hik); repeat rw [jv_up_n (by omega)])))
  · refine u_insertM ⟨ra0, ra1⟩ (by omega) (by omega) (fun i i0 i1 => by rw [(e4 i i0 (by omega)).1]; exact (e4 i i0 (by omega)).2) (fun h' h9 => by omega) (fun h' => absurd h h') (fun _ _ => ?_)
    exact lc_end (by first | omega | (simp (disch := omega) only [jv_up_e, jv_up_i, jv_up_k]; done) | (simp (disch := omega) only [jv_up_e, jv_up_i, jv_up_k]; omega)) (by unfold jv_r; omega) (fun h => absurd h (by omega)) (hI.fr (by omega) (by (intro i k hik; (try unfold f1 at hik); (try unfold f2 at hik); (try unfold f3 at hik); (try unfold f4 at hik); (try unfold f5 at hik); (try unfold f6 at hik); (try unfold f7 at hik); (try unfold f8 at hik); (try unfold jv_scr at hik); repeat rw [jv_up_n (by omega)])))
theorem cs_4 {L : Nat} {xs : Nat → Int32} (hL : L ≤ 2560) : ∀ (x4 : Int) (g : jv_Mem), 0 ≤ x4 → x4 + 4 < ((L : Nat) : Int) → iJ x4 g → wp_LC_4 xs L x4 (iJ (x4 + 5)) g := by
  intro x4 g h0 h4 hI
  obtain ⟨hx, j1, j2, j3, j4, j5, j6, j7, j8⟩ := id hI
  obtain ⟨e1, e2, e3, e4⟩ := id j1
  have ra := jv_sx_r xs (x4 + 1)
  unfold wp_LC_4 wp_L_charAt wp_X8_charAt
  generalize jv_sx xs (x4 + 1) = a at ra ⊢
  have ra' := ra
  obtain ⟨ra0, ra1⟩ := ra
  have hs : ∀ i, 0 ≤ i → i < g 126 1 → 0 ≤ g 127 i ∧ g 127 i < 9 := fun i i0 i1 => by rw [(e4 i i0 (by omega)).1]; exact (e4 i i0 (by omega)).2
  have hc := @iv_cd_r (g 2) (g 1 1).toNat 0
  have q1 : iv_cd (g 127) 0 (g 126 1).toNat = iv_cd (g 2) 0 (g 1 1).toNat := by rw [e1]; exact iv_cd_congr (fun j j0 j1 => (e4 j j0 (by omega)).1)
  refine ⟨by omega, u_charOrNone ra' e2 e3 (fun i i0 i1 => (e4 i i0 i1).2) (fun h => ?_) (fun h => ?_)⟩
  · have hn := @iv_at_n (g 2) a (g 1 1).toNat 0 0 h (fun j j0 j1 => (e4 j j0 (by omega)).2)
    have q2 : iv_at (g 127) a 0 0 (g 126 1).toNat = iv_at (g 2) a 0 0 (g 1 1).toNat := by rw [e1]; exact iv_at_congr (fun j j0 j1 => (e4 j j0 (by omega)).1)
    generalize hv : iv_at (g 2) a 0 0 (g 1 1).toNat = v at hn q2 ⊢
    by_cases hlt : a < 0 + iv_cd (g 2) 0 (g 1 1).toNat
    · have hn := hn.2 hlt
      refine ⟨(by unfold jv_r; omega), fun _ => ⟨by omega, by omega, (by unfold jv_r; omega), by omega, ?_⟩, fun h9 => by omega⟩
      rintro g1 rfl
      have k1 : jv_up g 148 0 v 126 1 = g 126 1 := jv_up_n (by omega)
      have k2 : jv_up g 148 0 v 127 = g 127 := jv_up_row (by omega)
      refine ⟨by omega, u_charAtM ra' (by rw [k1]; omega) (by rw [k1]; omega) (by rw [k1, k2]; exact hs) (fun _ _ => ?_) (fun h9 => ?_)⟩
      · rw [k1, k2, q2]
        exact lc_end (by first | omega | (simp (disch := omega) only [jv_up_e, jv_up_i, jv_up_k]; done) | (simp (disch := omega) only [jv_up_e, jv_up_i, jv_up_k]; omega)) (by unfold jv_r; omega) (fun _ => ⟨(by first | omega | (simp (disch := omega) only [jv_up_e, jv_up_i, jv_up_k]; done) | (simp (disch := omega) only [jv_up_e, jv_up_i, jv_up_k]; omega)), (by unfold jv_r; omega)⟩) (hI.fr (by omega) (by (intro i k hik; (try unfold f1 at hik); (try unfold f2 at hik); (try unfold f3 at hik); (try unfold f4 at hik); (try unfold f5 at hik); (try unfold f6 at hik); (try unfold f7 at hik); (try unfold f8 at hik); (try unfold jv_scr at hik); repeat rw [jv_up_n (by omega)])))
      · rw [k1, k2, q1] at h9; omega
    · have hn := hn.1 (by omega)
      refine ⟨(by unfold jv_r; omega), fun h9 => absurd hn h9, fun _ => ⟨rfl, by omega, ?_⟩⟩
      refine u_charAtM ra' (by omega) (by omega) hs (fun _ h9 => by rw [q1] at h9; omega) (fun h9 => ?_)
      exact lc_end (by first | omega | (simp (disch := omega) only [jv_up_e, jv_up_i, jv_up_k]; done) | (simp (disch := omega) only [jv_up_e, jv_up_i, jv_up_k]; omega)) (by unfold jv_r; omega) (fun h => absurd h (by omega)) (hI.fr (by omega) (by (intro i k hik; (try unfold f1 at hik); (try unfold f2 at hik); (try unfold f3 at hik); (try unfold f4 at hik); (try unfold f5 at hik); (try unfold f6 at hik); (try unfold f7 at hik); (try unfold f8 at hik); (try unfold jv_scr at hik); repeat rw [jv_up_n (by omega)])))
  · refine ⟨(by unfold jv_r; omega), fun h9 => absurd rfl h9, fun _ => ⟨rfl, by omega, ?_⟩⟩
    refine u_charAtM ra' (by omega) (by omega) hs (fun h9 => by omega) (fun h9 => ?_)
    exact lc_end (by first | omega | (simp (disch := omega) only [jv_up_e, jv_up_i, jv_up_k]; done) | (simp (disch := omega) only [jv_up_e, jv_up_i, jv_up_k]; omega)) (by unfold jv_r; omega) (fun h => absurd h (by omega)) (hI.fr (by omega) (by (intro i k hik; (try unfold f1 at hik); (try unfold f2 at hik); (try unfold f3 at hik); (try unfold f4 at hik); (try unfold f5 at hik); (try unfold f6 at hik); (try unfold f7 at hik); (try unfold f8 at hik); (try unfold jv_scr at hik); repeat rw [jv_up_n (by omega)])))
