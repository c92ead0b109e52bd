theorem iv_rr_none {sv pz pt hr : Int → Int} {s : Int} : ∀ {n : Nat}, (∀ e : Int, 0 ≤ e → e < n → sv e ≠ s) → iv_rr sv pz pt hr s n = fun _ => -1 := by
  intro n
  induction n with
  | zero => intro _; rfl
  | succ n ih => intro h; funext k; simp only [iv_rr]; rw [if_neg (fun hh => h n (by omega) (by omega) hh.1), ih (fun e e0 e1 => h e e0 (by omega))]
theorem iv_sl_none {p m a : Int} : iv_sl (fun _ => -1) p m a = -1 := by
  unfold iv_sl
  have h : ∀ n : Nat, iv_sm (fun _ => -1) p n = 0 := by
    intro n
    induction n with
    | zero => rfl
    | succ n ih => simp only [iv_sm]; exact ih
  rw [if_neg (fun hh => by rw [h 9] at hh; omega)]
theorem iv_rc_none {sv pz pt hr ap : Int → Int} {s o : Int} : ∀ {n : Nat}, (∀ e : Int, 0 ≤ e → e < n → sv e ≠ s) → iv_rc sv pz pt hr ap s o n = fun _ => 0 := by
  intro n
  induction n with
  | zero => intro _; rfl
  | succ n ih =>
    intro h
    funext d
    simp only [iv_rc]
    rw [iv_rr_none h, ih (fun e e0 e1 => h e e0 (by omega)), iv_sl_none]
    split
    · unfold iv_sc; rw [if_pos rfl]
    · rfl
theorem u_addSolverM {a b : Int} {Q : Int → jv_Mem → Prop} {g : jv_Mem} (ra : jv_r a) (rb : jv_r b) (n : 0 ≤ g 126 22 ∧ g 126 22 ≤ 6) (h1 : ¬ ((-12 ≤ a ∧ a ≤ 14) ∧ (0 ≤ b ∧ b ≤ 1000)) → Q 0 (jv_up g 126 29 1)) (h2 : (-12 ≤ a ∧ a ≤ 14) → (0 ≤ b ∧ b ≤ 1000) → g 126 22 = 6 → Q 0 (jv_up g 126 29 2)) (h3 : (-12 ≤ a ∧ a ≤ 14) → (0 ≤ b ∧ b ≤ 1000) → g 126 22 < 6 → Q (g 126 22) (jv_up (jv_up (jv_up (jv_up g 126 29 0) 142 (g 126 22) a) 143 (g 126 22) b) 126 22 (g 126 22 + 1))) : wp_X9_addSolver a b Q g := by
  unfold wp_X9_addSolver
  have bad : ∀ v : Int, 0 < v ∧ v ≤ 2 → Q 0 (jv_up g 126 29 v) → wB_X9_addSolver_41 a b Q v g := by
    intro v hv hq
    rintro g1 rfl
    have e : jv_up g 126 29 v 126 29 = v := jv_up_e rfl rfl
    rw [e]
    exact ⟨(by unfold jv_r; omega), fun h9 => by omega, fun _ => hq⟩
  refine u_in ra (by unfold jv_r; omega) (by unfold jv_r; omega) (fun ha => ⟨(by unfold jv_r; omega), fun h9 => by omega, fun _ => ?_⟩) (fun ha => ⟨(by unfold jv_r; omega), fun _ => bad 1 (by omega) (h1 (fun h => ha h.1)), fun h9 => absurd rfl h9⟩)
  refine u_in rb (by unfold jv_r; omega) (by unfold jv_r; omega) (fun hb => ⟨(by unfold jv_r; omega), fun _ => ⟨(by unfold jv_r; omega), fun hn => ?_, fun hn => bad 2 (by omega) (h2 ha hb hn)⟩, fun h9 => by omega⟩) (fun hb => ⟨(by unfold jv_r; omega), fun h9 => absurd rfl h9, fun _ => bad 1 (by omega) (h1 (fun h => hb h.2))⟩)
  have h3 := h3 ha hb (by omega)
  rintro g1 e1
  have q29 : g1 126 29 = 0 := by rw [e1, jv_up_e rfl rfl]
  have q22 : g1 126 22 = g 126 22 := by rw [e1, jv_up_n (by omega)]
  rw [q29, q22]
  refine ⟨(by unfold jv_r; omega), fun _ => ⟨by omega, ?_⟩, fun h9 => by omega⟩
  rintro g2 e2
  have r22 : g2 126 22 = g 126 22 := by rw [e2, jv_up_n (by omega)]; exact q22
  rw [r22]
  refine ⟨by omega, ?_⟩
  rintro g3 e3 g4 e4
  have s22 : g3 126 22 = g 126 22 := by rw [e3, jv_up_n (by omega)]; exact r22
  rw [s22] at e4
  have t22 : g4 126 22 = g 126 22 + 1 := by rw [e4, jv_up_e rfl rfl]
  have e : g 126 22 + 1 - 1 = g 126 22 := by omega
  rw [t22, e, e4, e3, e2, e1]
  exact h3
theorem cs_21 {L : Nat} {xs : Nat → Int32} (hL : L ≤ 2560) : ∀ (x4 : Int) (g : jv_Mem), 0 ≤ x4 → x4 + 4 < ((L : Nat) : Int) → iJ x4 g → wp_LC_21 xs L x4 (iJ (x4 + 5)) g := by
  intro x4 g h0 h4 hI
  obtain ⟨hx, j1, j2, j3, j4, j5, j6, j7, j8⟩ := id hI
  have ra := jv_sx_r xs (x4 + 1)
  have rb := jv_sx_r xs (x4 + 2)
  unfold wp_LC_21 wp_L_addSolver wp_X8_addSolver
  generalize jv_sx xs (x4 + 1) = a at ra ⊢
  generalize jv_sx xs (x4 + 2) = b at rb ⊢
  obtain ⟨n1, n2, n3, n4, n5⟩ := id j7
  obtain ⟨y1, y2, y3, y4, y5, y6⟩ := id j8
  refine ⟨by omega, by omega, u_needRange ra (by unfold jv_r; omega) (by unfold jv_r; omega) (fun ha => ?_) (fun ha => Or.inl ⟨rfl, by omega, by omega, ?_⟩)⟩
  · refine u_needRange rb (by unfold jv_r; omega) (by unfold jv_r; omega) (fun hb => ⟨(by unfold jv_r; omega), fun hn => ⟨⟨n2, hn⟩, ?_⟩, fun hn => Or.inr ⟨rfl, by omega, by omega, ?_⟩⟩) (fun hb => Or.inl ⟨rfl, by omega, by omega, ?_⟩)
    · unfold wp_X4_join
      refine u_begin (fun ga b1 b2 b3 b4 => ?_)
      rintro gb eb gc ec
      have qb : gb 0 10 = g 0 10 := by rw [eb, jv_up_n (by omega)]; exact b1 0 10 (by omega) (by omega) (by omega)
      rw [qb] at ec
      have qc : gc 0 10 = g 0 10 + 1 := by rw [ec, jv_up_e rfl rfl]
      have ee : g 0 10 + 1 - 1 = g 0 10 := by omega
      rw [qc, ee]
      refine ⟨(by unfold jv_r; omega), by omega, ?_⟩
      rintro gd ed
      have fr : ∀ i k, i ≠ 90 + 6 * g 0 10 + 1 + 1 → i ≠ 90 + 6 * g 0 10 + 1 + 2 → ¬ (i = 90 + 6 * g 0 10 + 1 ∧ k = 2) → ¬ (i = 90 + 6 * g 0 10 ∧ k = 3) → ¬ (i = 0 ∧ k = 10) → i ≠ 148 → gd i k = g i k := fun i k x1 x2 x3 x4 x5 x6 => by rw [ed, jv_up_n (by omega), ec, jv_up_n x5, eb, jv_up_n x4]; exact b1 i k x1 x2 x3
      have d3 : gd (90 + 6 * g 0 10) 3 = b := by rw [ed, jv_up_n (by omega), ec, jv_up_n (by omega), eb, jv_up_e rfl rfl]
      have d2 : gd (90 + 6 * g 0 10 + 1) 2 = a := by rw [ed, jv_up_n (by omega), ec, jv_up_n (by omega), eb, jv_up_n (by omega)]; exact b2
      have dr : ∀ k, 0 ≤ k → k < 180 → gd (90 + 6 * g 0 10 + 1 + 1) k = -1 := fun k k0 k1 => by rw [ed, jv_up_n (by omega), ec, jv_up_n (by omega), eb, jv_up_n (by omega)]; exact b3 k k0 k1
      have dc : ∀ k, 0 ≤ k → k < 1252 → gd (90 + 6 * g 0 10 + 1 + 2) k = 0 := fun k k0 k1 => by rw [ed, jv_up_n (by omega), ec, jv_up_n (by omega), eb, jv_up_n (by omega)]; exact b4 k k0 k1
      have dn : gd 0 10 = g 0 10 + 1 := by rw [ed, jv_up_n (by omega)]; exact qc
      have d148 : gd 148 0 = g 0 10 := by rw [ed, jv_up_e rfl rfl]
      clear b1 b2 b3 b4 eb ec ed qb qc
      have q22 : gd 126 22 = g 0 10 := by rw [fr 126 22 (by omega) (by omega) (by omega) (by omega) (by omega) (by omega)]; exact n1
      refine ⟨by omega, by omega, u_addSolverM ra rb (by rw [q22]; omega) (fun h => absurd ⟨ha, hb⟩ h) (fun _ _ h => by omega) (fun _ _ _ => ?_)⟩
      rw [q22]
      generalize hge : jv_up (jv_up (jv_up (jv_up gd 126 29 0) 142 (g 0 10) a) 143 (g 0 10) b) 126 22 (g 0 10 + 1) = ge
      have er : ∀ i k, i ≠ 142 → i ≠ 143 → ¬ (i = 126 ∧ (k = 29 ∨ k = 22)) → ge i k = gd i k := fun i k x1 x2 x3 => by rw [← hge, jv_up_n (by omega), jv_up_n (by omega), jv_up_n (by omega), jv_up_n (by omega)]
      have e142 : ∀ k, ge 142 k = if k = g 0 10 then a else g 142 k := fun k => by
        rw [← hge, jv_up_n (by omega), jv_up_n (by omega)]
        by_cases e : k = g 0 10
        · rw [jv_up_e rfl e, if_pos e]
        · rw [jv_up_n (fun hh => e hh.2), if_neg e, jv_up_n (by omega)]; exact fr 142 k (by omega) (by omega) (by omega) (by omega) (by omega) (by omega)
      have e143 : ∀ k, ge 143 k = if k = g 0 10 then b else g 143 k := fun k => by
        rw [← hge, jv_up_n (by omega)]
        by_cases e : k = g 0 10
        · rw [jv_up_e rfl e, if_pos e]
        · rw [jv_up_n (fun hh => e hh.2), if_neg e, jv_up_n (by omega), jv_up_n (by omega)]; exact fr 143 k (by omega) (by omega) (by omega) (by omega) (by omega) (by omega)
      have e22 : ge 126 22 = g 0 10 + 1 := by rw [← hge, jv_up_e rfl rfl]
      have e29 : ge 126 29 = 0 := by rw [← hge, jv_up_n (by omega), jv_up_n (by omega), jv_up_n (by omega), jv_up_e rfl rfl]
      clear hge
      have fe : ∀ i k, i ≠ 90 + 6 * g 0 10 + 1 + 1 → i ≠ 90 + 6 * g 0 10 + 1 + 2 → ¬ (i = 90 + 6 * g 0 10 + 1 ∧ k = 2) → ¬ (i = 90 + 6 * g 0 10 ∧ k = 3) → ¬ (i = 0 ∧ k = 10) → i ≠ 148 → i ≠ 142 → i ≠ 143 → ¬ (i = 126 ∧ (k = 29 ∨ k = 22)) → ge i k = g i k := fun i k x1 x2 x3 x4 x5 x6 x7 x8 x9 => by rw [er i k x7 x8 x9]; exact fr i k x1 x2 x3 x4 x5 x6
      refine lc_end e29 (by unfold jv_r; omega) (fun _ => ⟨by rw [er 148 0 (by omega) (by omega) (by omega)]; exact d148, (by unfold jv_r; omega)⟩) ?_
      have en : ge 0 10 = g 0 10 + 1 := by rw [er 0 10 (by omega) (by omega) (by omega)]; exact dn
      refine ⟨by omega, j1.fr fun i k hik => fe i k (by (try unfold f1 at hik); (try unfold f2 at hik); (try unfold f3 at hik); (try unfold f4 at hik); (try unfold f5 at hik); (try unfold f6 at hik); (try unfold f7 at hik); (try unfold f8 at hik); (try unfold jv_scr at hik); omega) (by (try unfold f1 at hik); (try unfold f2 at hik); (try unfold f3 at hik); (try unfold f4 at hik); (try unfold f5 at hik); (try unfold f6 at hik); (try unfold f7 at hik); (try unfold f8 at hik); (try unfold jv_scr at hik); omega) (by (try unfold f1 at hik); (try unfold f2 at hik); (try unfold f3 at hik); (try unfold f4 at hik); (try unfold f5 at hik); (try unfold f6 at hik); (try unfold f7 at hik); (try unfold f8 at hik); (try unfold jv_scr at hik); omega) (by (try unfold f1 at hik); (try unfold f2 at hik); (try unfold f3 at hik); (try unfold f4 at hik); (try unfold f5 at hik); (try unfold f6 at hik); (try unfold f7 at hik); (try unfold f8 at hik); (try unfold jv_scr at hik); omega) (by (try unfold f1 at hik); (try unfold f2 at hik); (try unfold f3 at hik); (try unfold f4 at hik); (try unfold f5 at hik); (try unfold f6 at hik); (try unfold f7 at hik); (try unfold f8 at hik); (try unfold jv_scr at hik); omega) (by (try unfold f1 at hik); (try unfold f2 at hik); (try unfold f3 at hik); (try unfold f4 at hik); (try unfold f5 at hik); (try unfold f6 at hik); (try unfold f7 at hik); (try unfold f8 at hik); (try unfold jv_scr at hik); omega) (by (try unfold f1 at hik); (try unfold f2 at hik); (try unfold f3 at hik); (try unfold f4 at hik); (try unfold f5 at hik); (try unfold f6 at hik); (try unfold f7 at hik); (try unfold f8 at hik); (try unfold jv_scr at hik); omega) (by (try unfold f1 at hik); (try unfold f2 at hik); (try unfold f3 at hik); (try unfold f4 at hik); (try unfold f5 at hik); (try unfold f6 at hik); (try unfold f7 at hik); (try unfold f8 at hik); (try unfold jv_scr at hik); omega) (by (try unfold f1 at hik); (try unfold f2 at hik); (try unfold f3 at hik); (try unfold f4 at hik); (try unfold f5 at hik); (try unfold f6 at hik); (try unfold f7 at hik); (try unfold f8 at hik); (try unfold jv_scr at hik); omega), j2.fr fun i k hik => fe i k (by (try unfold f1 at hik); (try unfold f2 at hik); (try unfold f3 at hik); (try unfold f4 at hik); (try unfold f5 at hik); (try unfold f6 at hik); (try unfold f7 at hik); (try unfold f8 at hik); (try unfold jv_scr at hik); omega) (by (try unfold f1 at hik); (try unfold f2 at hik); (try unfold f3 at hik); (try unfold f4 at hik); (try unfold f5 at hik); (try unfold f6 at hik); (try unfold f7 at hik); (try unfold f8 at hik); (try unfold jv_scr at hik); omega) (by (try unfold f1 at hik); (try unfold f2 at hik); (try unfold f3 at hik); (try unfold f4 at hik); (try unfold f5 at hik); (try unfold f6 at hik); (try unfold f7 at hik); (try unfold f8 at hik); (try unfold jv_scr at hik); omega) (by (try unfold f1 at hik); (try unfold f2 at hik); (try unfold f3 at hik); (try unfold f4 at hik); (try unfold f5 at hik); (try unfold f6 at hik); (try unfold f7 at hik); (try unfold f8 at hik); (try unfold jv_scr at hik); omega) (by (try unfold f1 at hik); (try unfold f2 at hik); (try unfold f3 at hik); (try unfold f4 at hik); (try unfold f5 at hik); (try unfold f6 at hik); (try unfold f7 at hik); (try unfold f8 at hik); (try unfold jv_scr at hik); omega) (by (try unfold f1 at hik); (try unfold f2 at hik); (try unfold f3 at hik); (try unfold f4 at hik); (try unfold f5 at hik); (try unfold f6 at hik); (try unfold f7 at hik); (try unfold f8 at hik); (try unfold jv_scr at hik); omega) (by (try unfold f1 at hik); (try unfold f2 at hik); (try unfold f3 at hik); (try unfold f4 at hik); (try unfold f5 at hik); (try unfold f6 at hik); (try unfold f7 at hik); (try unfold f8 at hik); (try unfold jv_scr at hik); omega) (by (try unfold f1 at hik); (try unfold f2 at hik); (try unfold f3 at hik); (try unfold f4 at hik); (try unfold f5 at hik); (try unfold f6 at hik); (try unfold f7 at hik); (try unfold f8 at hik); (try unfold jv_scr at hik); omega) (by (try unfold f1 at hik); (try unfold f2 at hik); (try unfold f3 at hik); (try unfold f4 at hik); (try unfold f5 at hik); (try unfold f6 at hik); (try unfold f7 at hik); (try unfold f8 at hik); (try unfold jv_scr at hik); omega), j3.fr fun i k hik => fe i k (by (try unfold f1 at hik); (try unfold f2 at hik); (try unfold f3 at hik); (try unfold f4 at hik); (try unfold f5 at hik); (try unfold f6 at hik); (try unfold f7 at hik); (try unfold f8 at hik); (try unfold jv_scr at hik); omega) (by (try unfold f1 at hik); (try unfold f2 at hik); (try unfold f3 at hik); (try unfold f4 at hik); (try unfold f5 at hik); (try unfold f6 at hik); (try unfold f7 at hik); (try unfold f8 at hik); (try unfold jv_scr at hik); omega) (by (try unfold f1 at hik); (try unfold f2 at hik); (try unfold f3 at hik); (try unfold f4 at hik); (try unfold f5 at hik); (try unfold f6 at hik); (try unfold f7 at hik); (try unfold f8 at hik); (try unfold jv_scr at hik); omega) (by (try unfold f1 at hik); (try unfold f2 at hik); (try unfold f3 at hik); (try unfold f4 at hik); (try unfold f5 at hik); (try unfold f6 at hik); (try unfold f7 at hik); (try unfold f8 at hik); (try unfold jv_scr at hik); omega) (by (try unfold f1 at hik); (try unfold f2 at hik); (try unfold f3 at hik); (try unfold f4 at hik); (try unfold f5 at hik); (try unfold f6 at hik); (try unfold f7 at hik); (try unfold f8 at hik); (try unfold jv_scr at hik); omega) (by (try unfold f1 at hik); (try unfold f2 at hik); (try unfold f3 at hik); (try unfold f4 at hik); (try unfold f5 at hik); (try unfold f6 at hik); (try unfold f7 at hik); (try unfold f8 at hik); (try unfold jv_scr at hik); omega) (by (try unfold f1 at hik); (try unfold f2 at hik); (try unfold f3 at hik); (try unfold f4 at hik); (try unfold f5 at hik); (try unfold f6 at hik); (try unfold f7 at hik); (try unfold f8 at hik); (try unfold jv_scr at hik); omega) (by (try unfold f1 at hik); (try unfold f2 at hik); (try unfold f3 at hik); (try unfold f4 at hik); (try unfold f5 at hik); (try unfold f6 at hik); (try unfold f7 at hik); (try unfold f8 at hik); (try unfold jv_scr at hik); omega) (by (try unfold f1 at hik); (try unfold f2 at hik); (try unfold f3 at hik); (try unfold f4 at hik); (try unfold f5 at hik); (try unfold f6 at hik); (try unfold f7 at hik); (try unfold f8 at hik); (try unfold jv_scr at hik); omega), j4.fr fun i k hik => fe i k (by (try unfold f1 at hik); (try unfold f2 at hik); (try unfold f3 at hik); (try unfold f4 at hik); (try unfold f5 at hik); (try unfold f6 at hik); (try unfold f7 at hik); (try unfold f8 at hik); (try unfold jv_scr at hik); omega) (by (try unfold f1 at hik); (try unfold f2 at hik); (try unfold f3 at hik); (try unfold f4 at hik); (try unfold f5 at hik); (try unfold f6 at hik); (try unfold f7 at hik); (try unfold f8 at hik); (try unfold jv_scr at hik); omega) (by (try unfold f1 at hik); (try unfold f2 at hik); (try unfold f3 at hik); (try unfold f4 at hik); (try unfold f5 at hik); (try unfold f6 at hik); (try unfold f7 at hik); (try unfold f8 at hik); (try unfold jv_scr at hik); omega) (by (try unfold f1 at hik); (try unfold f2 at hik); (try unfold f3 at hik); (try unfold f4 at hik); (try unfold f5 at hik); (try unfold f6 at hik); (try unfold f7 at hik); (try unfold f8 at hik); (try unfold jv_scr at hik); omega) (by (try unfold f1 at hik); (try unfold f2 at hik); (try unfold f3 at hik); (try unfold f4 at hik); (try unfold f5 at hik); (try unfold f6 at hik); (try unfold f7 at hik); (try unfold f8 at hik); (try unfold jv_scr at hik); omega) (by (try unfold f1 at hik); (try unfold f2 at hik); (try unfold f3 at hik); (try unfold f4 at hik); (try unfold f5 at hik); (try unfold f6 at hik); (try unfold f7 at hik); (try unfold f8 at hik); (try unfold jv_scr at hik); omega) (by (try unfold f1 at hik); (try unfold f2 at hik); (try unfold f3 at hik); (try unfold f4 at hik); (try unfold f5 at hik); (try unfold f6 at hik); (try unfold f7 at hik); (try unfold f8 at hik); (try unfold jv_scr at hik); omega) (by (try unfold f1 at hik); (try unfold f2 at hik); (try unfold f3 at hik); (try unfold f4 at hik); (try unfold f5 at hik); (try unfold f6 at hik); (try unfold f7 at hik); (try unfold f8 at hik); (try unfold jv_scr at hik); omega) (by (try unfold f1 at hik); (try unfold f2 at hik); (try unfold f3 at hik); (try unfold f4 at hik); (try unfold f5 at hik); (try unfold f6 at hik); (try unfold f7 at hik); (try unfold f8 at hik); (try unfold jv_scr at hik); omega), j5.fr fun i k hik => fe i k (by (try unfold f1 at hik); (try unfold f2 at hik); (try unfold f3 at hik); (try unfold f4 at hik); (try unfold f5 at hik); (try unfold f6 at hik); (try unfold f7 at hik); (try unfold f8 at hik); (try unfold jv_scr at hik); omega) (by (try unfold f1 at hik); (try unfold f2 at hik); (try unfold f3 at hik); (try unfold f4 at hik); (try unfold f5 at hik); (try unfold f6 at hik); (try unfold f7 at hik); (try unfold f8 at hik); (try unfold jv_scr at hik); omega) (by (try unfold f1 at hik); (try unfold f2 at hik); (try unfold f3 at hik); (try unfold f4 at hik); (try unfold f5 at hik); (try unfold f6 at hik); (try unfold f7 at hik); (try unfold f8 at hik); (try unfold jv_scr at hik); omega) (by (try unfold f1 at hik); (try unfold f2 at hik); (try unfold f3 at hik); (try unfold f4 at hik); (try unfold f5 at hik); (try unfold f6 at hik); (try unfold f7 at hik); (try unfold f8 at hik); (try unfold jv_scr at hik); omega) (by (try unfold f1 at hik); (try unfold f2 at hik); (try unfold f3 at hik); (try unfold f4 at hik); (try unfold f5 at hik); (try unfold f6 at hik); (try unfold f7 at hik); (try unfold f8 at hik); (try unfold jv_scr at hik); omega) (by (try unfold f1 at hik); (try unfold f2 at hik); (try unfold f3 at hik); (try unfold f4 at hik); (try unfold f5 at hik); (try unfold f6 at hik); (try unfold f7 at hik); (try unfold f8 at hik); (try unfold jv_scr at hik); omega) (by (try unfold f1 at hik); (try unfold f2 at hik); (try unfold f3 at hik); (try unfold f4 at hik); (try unfold f5 at hik); (try unfold f6 at hik); (try unfold f7 at hik); (try unfold f8 at hik); (try unfold jv_scr at hik); omega) (by (try unfold f1 at hik); (try unfold f2 at hik); (try unfold f3 at hik); (try unfold f4 at hik); (try unfold f5 at hik); (try unfold f6 at hik); (try unfold f7 at hik); (try unfold f8 at hik); (try unfold jv_scr at hik); omega) (by (try unfold f1 at hik); (try unfold f2 at hik); (try unfold f3 at hik); (try unfold f4 at hik); (try unfold f5 at hik); (try unfold f6 at hik); (try unfold f7 at hik); (try unfold f8 at hik); (try unfold jv_scr at hik); omega), j6.fr fun i k hik => fe i k (by (try unfold f1 at hik); (try unfold f2 at hik); (try unfold f3 at hik); (try unfold f4 at hik); (try unfold f5 at hik); (try unfold f6 at hik); (try unfold f7 at hik); (try unfold f8 at hik); (try unfold jv_scr at hik); omega) (by (try unfold f1 at hik); (try unfold f2 at hik); (try unfold f3 at hik); (try unfold f4 at hik); (try unfold f5 at hik); (try unfold f6 at hik); (try unfold f7 at hik); (try unfold f8 at hik); (try unfold jv_scr at hik); omega) (by (try unfold f1 at hik); (try unfold f2 at hik); (try unfold f3 at hik); (try unfold f4 at hik); (try unfold f5 at hik); (try unfold f6 at hik); (try unfold f7 at hik); (try unfold f8 at hik); (try unfold jv_scr at hik); omega) (by (try unfold f1 at hik); (try unfold f2 at hik); (try unfold f3 at hik); (try unfold f4 at hik); (try unfold f5 at hik); (try unfold f6 at hik); (try unfold f7 at hik); (try unfold f8 at hik); (try unfold jv_scr at hik); omega) (by (try unfold f1 at hik); (try unfold f2 at hik); (try unfold f3 at hik); (try unfold f4 at hik); (try unfold f5 at hik); (try unfold f6 at hik); (try unfold f7 at hik); (try unfold f8 at hik); (try unfold jv_scr at hik); omega) (by (try unfold f1 at hik); (try unfold f2 at hik); (try unfold f3 at hik); (try unfold f4 at hik); (try unfold f5 at hik); (try unfold f6 at hik); (try unfold f7 at hik); (try unfold f8 at hik); (try unfold jv_scr at hik); omega) (by (try unfold f1 at hik); (try unfold f2 at hik); (try unfold f3 at hik); (try unfold f4 at hik); (try unfold f5 at hik); (try unfold f6 at hik); (try unfold f7 at hik); (try unfold f8 at hik); (try unfold jv_scr at hik); omega) (by (try unfold f1 at hik); (try unfold f2 at hik); (try unfold f3 at hik); (try unfold f4 at hik); (try unfold f5 at hik); (try unfold f6 at hik); (try unfold f7 at hik); (try unfold f8 at hik); (try unfold jv_scr at hik); omega) (by (try unfold f1 at hik); (try unfold f2 at hik); (try unfold f3 at hik); (try unfold f4 at hik); (try unfold f5 at hik); (try unfold f6 at hik); (try unfold f7 at hik); (try unfold f8 at hik); (try unfold jv_scr at hik); omega), ?_, ?_⟩
      · unfold iJ7
        rw [e22, en]
        refine ⟨rfl, by omega, by omega, fun s q0 q1 => ?_, fun s q0 q1 => ?_⟩
        · rw [e142, e143]
          by_cases e : s = g 0 10
          · obtain ⟨z1, z2, -⟩ := n5 s q0 (by omega)
            rw [if_pos e, if_pos e]
            subst e
            rw [er _ 3 (by omega) (by omega) (by omega), d3, er _ 2 (by omega) (by omega) (by omega), d2]
            refine ⟨rfl, hb.1, by omega, rfl, ha.1, ha.2, fun p c p0 p1 c0 c1 => ?_, fun d d0 d1 => ?_⟩
            · have := (z1 p c p0 p1 c0 c1).2.2 (by omega)
              rw [er _ _ (by omega) (by omega) (by omega), dr _ (by omega) (by omega), fe 144 _ (by omega) (by omega) (by omega) (by omega) (by omega) (by omega) (by omega) (by omega) (by omega)]; omega
            · have := (z2 d d0 d1).2 (by omega)
              rw [er _ _ (by omega) (by omega) (by omega), dc _ (by omega) (by omega), fe 147 _ (by omega) (by omega) (by omega) (by omega) (by omega) (by omega) (by omega) (by omega) (by omega)]; omega
          · obtain ⟨z1, z2, z3, z4, z5, z6, z7, z8⟩ := n4 s q0 (by omega)
            rw [if_neg e, if_neg e, fe (90 + 6 * s) 3 (by omega) (by omega) (by omega) (by omega) (by omega) (by omega) (by omega) (by omega) (by omega), fe (90 + 6 * s + 1) 2 (by omega) (by omega) (by omega) (by omega) (by omega) (by omega) (by omega) (by omega) (by omega)]
            refine ⟨z1, z2, by omega, z4, z5, z6, fun p c p0 p1 c0 c1 => ?_, fun d d0 d1 => ?_⟩
            · rw [fe (90 + 6 * s + 1 + 1) _ (by omega) (by omega) (by omega) (by omega) (by omega) (by omega) (by omega) (by omega) (by omega), fe 144 _ (by omega) (by omega) (by omega) (by omega) (by omega) (by omega) (by omega) (by omega) (by omega)]
              exact z7 p c p0 p1 c0 c1
            · rw [fe (90 + 6 * s + 1 + 2) _ (by omega) (by omega) (by omega) (by omega) (by omega) (by omega) (by omega) (by omega) (by omega), fe 147 _ (by omega) (by omega) (by omega) (by omega) (by omega) (by omega) (by omega) (by omega) (by omega)]
              exact z8 d d0 d1
        · obtain ⟨z1, z2, z3, z4⟩ := n5 s q0 q1
          refine ⟨fun p c p0 p1 c0 c1 => ?_, fun d d0 d1 => ?_, fun p p0 p1 => ?_, fun p c p0 p1 c0 c1 => ?_⟩
          · rw [fe 144 _ (by omega) (by omega) (by omega) (by omega) (by omega) (by omega) (by omega) (by omega) (by omega)]
            have := z1 p c p0 p1 c0 c1
            exact ⟨this.1, this.2.1, fun h => this.2.2 (by omega)⟩
          · rw [fe 147 _ (by omega) (by omega) (by omega) (by omega) (by omega) (by omega) (by omega) (by omega) (by omega)]
            have := z2 d d0 d1
            exact ⟨this.1, fun h => this.2 (by omega)⟩
          · rw [fe (90 + 6 * s + 5) p (by omega) (by omega) (by omega) (by omega) (by omega) (by omega) (by omega) (by omega) (by omega), fe 146 _ (by omega) (by omega) (by omega) (by omega) (by omega) (by omega) (by omega) (by omega) (by omega)]
            have := z3 p p0 p1
            exact ⟨this.1, this.2.1, by omega⟩
          · rw [fe (90 + 6 * s + 4) _ (by omega) (by omega) (by omega) (by omega) (by omega) (by omega) (by omega) (by omega) (by omega), fe 145 _ (by omega) (by omega) (by omega) (by omega) (by omega) (by omega) (by omega) (by omega) (by omega), fe (30 + 3 * p) 4 (by omega) (by omega) (by omega) (by omega) (by omega) (by omega) (by omega) (by omega) (by omega)]
            obtain ⟨v1, v2, v3, v4⟩ := z4 p c p0 p1 c0 c1
            exact ⟨v1, v2, v3, fun h => v4 (by omega)⟩
      · have f21 := fe 21 4 (by omega) (by omega) (by omega) (by omega) (by omega) (by omega) (by omega) (by omega) (by omega)
        have row : ∀ i, 22 ≤ i → i ≤ 25 ∨ i = 137 → i < 138 → ge i = g i ∨ False := fun i i0 i1 i2 => by
          by_cases e : i ≤ 25
          · exact Or.inl (funext fun k => fe i k (by omega) (by omega) (by omega) (by omega) (by omega) (by omega) (by omega) (by omega) (by omega))
          · exact Or.inl (funext fun k => fe i k (by omega) (by omega) (by omega) (by omega) (by omega) (by omega) (by omega) (by omega) (by omega))
        have r22 : ge 22 = g 22 := (row 22 (by omega) (by omega) (by omega)).elim id False.elim
        have r23 : ge 23 = g 23 := (row 23 (by omega) (by omega) (by omega)).elim id False.elim
        have r24 : ge 24 = g 24 := (row 24 (by omega) (by omega) (by omega)).elim id False.elim
        have r25 : ge 25 = g 25 := (row 25 (by omega) (by omega) (by omega)).elim id False.elim
        have r137 : ge 137 = g 137 := (row 137 (by omega) (by omega) (by omega)).elim id False.elim
        have f09 := fe 0 9 (by omega) (by omega) (by omega) (by omega) (by omega) (by omega) (by omega) (by omega) (by omega)
        unfold iJ8
        rw [f21, en, f09, r22, r23, r24, r25, r137]
        refine ⟨y1, by omega, by omega, fun e e0 e1 => ?_, fun p p0 p1 => ?_, fun s q0 q1 => ?_⟩
        · obtain ⟨z1, z2, z3, z4, z5⟩ := y4 e e0 e1
          exact ⟨z1, z2, z3, z4, by omega⟩
        · rw [fe (30 + 3 * p) 4 (by omega) (by omega) (by omega) (by omega) (by omega) (by omega) (by omega) (by omega) (by omega)]; exact y5 p p0 p1
        · rw [e142]
          by_cases e : s = g 0 10
          · have nos : ∀ e' : Int, 0 ≤ e' → e' < ((g 21 4).toNat : Int) → g 22 e' ≠ s := fun e' f0 f1 => by
              have := (y4 e' f0 (by omega)).2.2.2.2
              omega
            rw [iv_rr_none nos, iv_rc_none nos]
            refine ⟨fun k k0 k1 => ?_, fun d d0 d1 => ?_⟩
            · rw [er _ k (by omega) (by omega) (by omega), e, dr k k0 k1]
            · rw [er _ d (by omega) (by omega) (by omega), e, dc d d0 d1]
          · rw [if_neg e]
            obtain ⟨z1, z2⟩ := y6 s q0 (by omega)
            refine ⟨fun k k0 k1 => ?_, fun d d0 d1 => ?_⟩
            · rw [fe _ k (by omega) (by omega) (by omega) (by omega) (by omega) (by omega) (by omega) (by omega) (by omega)]; exact z1 k k0 k1
            · rw [fe _ d (by omega) (by omega) (by omega) (by omega) (by omega) (by omega) (by omega) (by omega) (by omega)]; exact z2 d d0 d1
    · refine u_addSolverM ra rb (by omega) (fun h => absurd ⟨ha, hb⟩ h) (fun _ _ _ => ?_) (fun _ _ h => by omega)
      exact lc_end (by first | omega | (simp (disch := omega) only [jv_up_e, jv_up_i, jv_up_k]; done) | (simp (disch := omega) only [jv_up_e, jv_up_i, jv_up_k]; omega)) (by unfold jv_r; omega) (fun h9 => absurd h9 (by omega)) (hI.fr (by omega) (by (intro i k hik; (try unfold f1 at hik); (try unfold f2 at hik); (try unfold f3 at hik); (try unfold f4 at hik); (try unfold f5 at hik); (try unfold f6 at hik); (try unfold f7 at hik); (try unfold f8 at hik); (try unfold jv_scr at hik); repeat rw [jv_up_n (by omega)])))
    · refine u_addSolverM ra rb (by omega) (fun h => ?_) (fun _ h _ => absurd h hb) (fun _ h _ => absurd h hb)
      exact lc_end (by first | omega | (simp (disch := omega) only [jv_up_e, jv_up_i, jv_up_k]; done) | (simp (disch := omega) only [jv_up_e, jv_up_i, jv_up_k]; omega)) (by unfold jv_r; omega) (fun h9 => absurd h9 (by omega)) (hI.fr (by omega) (by (intro i k hik; (try unfold f1 at hik); (try unfold f2 at hik); (try unfold f3 at hik); (try unfold f4 at hik); (try unfold f5 at hik); (try unfold f6 at hik); (try unfold f7 at hik); (try unfold f8 at hik); (try unfold jv_scr at hik); repeat rw [jv_up_n (by omega)])))
  · refine u_addSolverM ra rb (by omega) (fun h => ?_) (fun h _ _ => absurd h ha) (fun h _ _ => absurd h ha)
    exact lc_end (by first | omega | (simp (disch := omega) only [jv_up_e, jv_up_i, jv_up_k]; done) | (simp (disch := omega) only [jv_up_e, jv_up_i, jv_up_k]; omega)) (by unfold jv_r; omega) (fun h9 => absurd h9 (by omega)) (hI.fr (by omega) (by (intro i k hik; (try unfold f1 at hik); (try unfold f2 at hik); (try unfold f3 at hik); (try unfold f4 at hik); (try unfold f5 at hik); (try unfold f6 at hik); (try unfold f7 at hik); (try unfold f8 at hik); (try unfold jv_scr at hik); repeat rw [jv_up_n (by omega)])))
