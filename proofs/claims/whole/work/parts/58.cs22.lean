theorem u_needCellOf {a b c : Int} {Q : jv_Mem → Prop} {Qx : String → jv_Mem → Prop} {g : jv_Mem} (ra : jv_r a) (rb : jv_r b) (rc : jv_r c) (n : jv_r (g 0 10)) (m : jv_r (g 0 9)) (h1 : (0 ≤ a ∧ a < g 0 10) → (0 ≤ b ∧ b < g 0 9) → (0 ≤ c ∧ c < 9) → Q g) (h2 : ¬ ((0 ≤ a ∧ a < g 0 10) ∧ (0 ≤ b ∧ b < g 0 9) ∧ (0 ≤ c ∧ c < 9)) → Qx "java/lang/IndexOutOfBoundsException" g) : wp_X8_needCellOf a b c Q Qx g := by
  unfold wp_X8_needCellOf
  exact u_needIndex ra n (fun ha => u_needIndex rb m (fun hb => u_needIndex rc (by unfold jv_r; omega) (fun hc => h1 ha hb hc) (fun hc => h2 (fun h => hc h.2.2))) (fun hb => h2 (fun h => hb h.2.1))) (fun ha => h2 (fun h => ha h.1))
theorem u_needUnfinished {s p c : Int} {Q : jv_Mem → Prop} {Qx : String → jv_Mem → Prop} {g : jv_Mem} (s0 : 0 ≤ s) (s1 : s < 6) (p0 : 0 ≤ p) (p1 : p < 20) (c0 : 0 ≤ c) (c1 : c < 9) (hr : jv_r (g (90 + 6 * s + 1 + 1) (p * 9 + c))) (h1 : g (90 + 6 * s + 1 + 1) (p * 9 + c) = -1 → iv_bit (g (30 + 3 * p) 4) c = 0 → Q g) (h2 : ¬ (g (90 + 6 * s + 1 + 1) (p * 9 + c) = -1 ∧ iv_bit (g (30 + 3 * p) 4) c = 0) → Qx "java/lang/IllegalStateException" g) : wp_X8_needUnfinished s p c Q Qx g := by
  unfold wp_X8_needUnfinished
  refine ⟨⟨s0, s1⟩, u_isRight p0 p1 c0 c1 hr (fun h => ⟨(by unfold jv_r; omega), fun _ => h2 (fun hh => h hh.1), fun h9 => by omega⟩) (fun h => ⟨(by unfold jv_r; omega), fun h9 => absurd rfl h9, fun _ => ⟨⟨p0, p1⟩, ?_⟩⟩)⟩
  unfold wp_X3_isOpen
  refine ⟨ir_and, fun hb => ⟨(by unfold jv_r; omega), fun _ => h1 h hb, fun h9 => absurd rfl h9⟩, fun hb => ⟨(by unfold jv_r; omega), fun h9 => by omega, fun _ => h2 (fun hh => hb hh.2)⟩⟩
theorem u_isCell {a b c : Int} {Q : Int → jv_Mem → Prop} {g : jv_Mem} (ra : jv_r a) (rb : jv_r b) (rc : jv_r c) (n : 0 ≤ g 126 22 ∧ g 126 22 ≤ 6) (m : 0 ≤ g 126 16 ∧ g 126 16 ≤ 20) (h1 : (0 ≤ a ∧ a < g 126 22) → (0 ≤ b ∧ b < g 126 16) → (0 ≤ c ∧ c < 9) → Q 1 g) (h2 : ¬ ((0 ≤ a ∧ a < g 126 22) ∧ (0 ≤ b ∧ b < g 126 16) ∧ (0 ≤ c ∧ c < 9)) → Q 0 g) : wp_X9_isCell a b c Q g := by
  unfold wp_X9_isCell
  refine u_isSolver ra n (fun ha => ⟨(by unfold jv_r; omega), fun h9 => by omega, fun _ => ?_⟩) (fun ha => ⟨(by unfold jv_r; omega), fun _ => h2 (fun h => ha h.1), fun h9 => absurd rfl h9⟩)
  refine u_isPuzzle rb m (fun hb => ⟨(by unfold jv_r; omega), fun h9 => by omega, fun _ => ?_⟩) (fun hb => ⟨(by unfold jv_r; omega), fun _ => h2 (fun h => hb h.2.1), fun h9 => absurd rfl h9⟩)
  exact u_in rc (by unfold jv_r; omega) (by unfold jv_r; omega) (fun hc => ⟨(by unfold jv_r; omega), fun h9 => by omega, fun _ => h1 ha hb (by omega)⟩) (fun hc => ⟨(by unfold jv_r; omega), fun _ => h2 (fun h => by omega), fun h9 => absurd rfl h9⟩)
theorem u_isOver {s p c : Int} {Q : Int → jv_Mem → Prop} {g : jv_Mem} (s0 : 0 ≤ s) (s1 : s < 6) (p0 : 0 ≤ p) (p1 : p < 20) (c0 : 0 ≤ c) (c1 : c < 9) (j0 : 0 ≤ g 140 p) (j1 : g 140 p < 64) (hr : jv_r (g 144 (((180 * s) + (9 * p)) + c))) (h1 : g 144 (((180 * s) + (9 * p)) + c) ≤ 0 → iv_bit (iv_op (g 140 p)) c = 0 → Q 0 g) (h2 : ¬ (g 144 (((180 * s) + (9 * p)) + c) ≤ 0 ∧ iv_bit (iv_op (g 140 p)) c = 0) → Q 1 g) : wp_X9_isOver s p c Q g := by
  unfold wp_X9_isOver
  have hj := ib_op j0 j1
  have hb := ib_m hj.1 hj.2 c0 c1
  refine ⟨by omega, hr, fun hh => h2 (fun h => by omega), fun hh => u_openOf p0 p1 ⟨ir_and, fun h => h1 hh ?_, fun h => h2 (fun h9 => ?_)⟩⟩
  · rw [bit_eq] at h; omega
  · rw [bit_eq] at h; omega
theorem u_enterM {s p c d : Int} {Q : Int → jv_Mem → Prop} {g : jv_Mem} (ra : jv_r s) (rb : jv_r p) (rc : jv_r c) (rd : jv_r d) (n : 0 ≤ g 126 22 ∧ g 126 22 ≤ 6) (m : 0 ≤ g 126 16 ∧ g 126 16 ≤ 20)
    (hf : (0 ≤ s ∧ s < g 126 22) → (0 ≤ p ∧ p < g 126 16) → (0 ≤ c ∧ c < 9) → 0 ≤ g 140 p ∧ g 140 p < 64 ∧ jv_r (g 144 (((180 * s) + (9 * p)) + c)) ∧ jv_r (g 138 ((9 * p) + c)))
    (h1 : ¬ (((0 ≤ s ∧ s < g 126 22) ∧ (0 ≤ p ∧ p < g 126 16) ∧ (0 ≤ c ∧ c < 9)) ∧ (0 ≤ d ∧ d < 9)) → Q 0 (jv_up g 126 29 1))
    (h2 : (0 ≤ s ∧ s < g 126 22) → (0 ≤ p ∧ p < g 126 16) → (0 ≤ c ∧ c < 9) → (0 ≤ d ∧ d < 9) → ¬ (g 144 (((180 * s) + (9 * p)) + c) ≤ 0 ∧ iv_bit (iv_op (g 140 p)) c = 0) → Q 0 (jv_up g 126 29 2))
    (h3 : (0 ≤ s ∧ s < g 126 22) → (0 ≤ p ∧ p < g 126 16) → (0 ≤ c ∧ c < 9) → (0 ≤ d ∧ d < 9) → g 144 (((180 * s) + (9 * p)) + c) ≤ 0 → iv_bit (iv_op (g 140 p)) c = 0 → ¬ g 138 ((9 * p) + c) = d → Q 0 (jv_up g 126 29 0))
    (h4 : (0 ≤ s ∧ s < g 126 22) → (0 ≤ p ∧ p < g 126 16) → (0 ≤ c ∧ c < 9) → (0 ≤ d ∧ d < 9) → g 144 (((180 * s) + (9 * p)) + c) ≤ 0 → iv_bit (iv_op (g 140 p)) c = 0 → g 138 ((9 * p) + c) = d → wp_X9_counts s p (fun g_95 => Q 1 g_95) (jv_up (jv_up g 126 29 0) 144 (((180 * s) + (9 * p)) + c) (g 126 15 + 1))) : wp_X9_enter s p c d Q g := by
  unfold wp_X9_enter
  have bad : Q 0 (jv_up g 126 29 1) → wB_X9_enter_22 s p c d Q g := by
    intro hq
    rintro g1 rfl
    have e : jv_up g 126 29 1 126 29 = 1 := jv_up_e rfl rfl
    rw [e]
    exact ⟨(by unfold jv_r; omega), fun _ => hq, fun h9 => by omega⟩
  refine u_isCell ra rb rc n m (fun hs hp hc => ⟨(by unfold jv_r; omega), fun h9 => by omega, fun _ => ?_⟩) (fun h => ⟨(by unfold jv_r; omega), fun _ => bad (h1 (fun hh => h hh.1)), fun h9 => absurd rfl h9⟩)
  refine u_in rd (by unfold jv_r; omega) (by unfold jv_r; omega) (fun hd => ⟨(by unfold jv_r; omega), fun _ => ?_, fun h9 => by omega⟩) (fun hd => ⟨(by unfold jv_r; omega), fun h9 => absurd rfl h9, fun _ => bad (h1 (fun hh => by omega))⟩)
  have hd : 0 ≤ d ∧ d < 9 := by omega
  obtain ⟨f1, f2, f3, f4⟩ := hf hs hp hc
  refine u_isOver hs.1 (by omega) hp.1 (by omega) hc.1 hc.2 f1 f2 f3 (fun h5 h6 => ⟨(by unfold jv_r; omega), fun _ => ?_, fun h9 => absurd rfl h9⟩) (fun h5 => ⟨(by unfold jv_r; omega), fun h9 => by omega, fun _ => ?_⟩)
  · rintro g1 rfl
    have e : jv_up g 126 29 0 126 29 = 0 := jv_up_e rfl rfl
    have e138 : jv_up g 126 29 0 138 = g 138 := jv_up_row (by omega)
    have e15 : jv_up g 126 29 0 126 15 = g 126 15 := jv_up_n (by omega)
    rw [e, e138, e15]
    refine ⟨(by unfold jv_r; omega), fun h9 => by omega, fun _ => ⟨by omega, ⟨f4, rd⟩, fun h7 => ⟨by omega, ?_⟩, fun h7 => h3 hs hp hc hd h5 h6 h7⟩⟩
    rintro g2 rfl
    exact h4 hs hp hc hd h5 h6 h7
  · rintro g1 rfl
    have e : jv_up g 126 29 2 126 29 = 2 := jv_up_e rfl rfl
    rw [e]
    exact ⟨(by unfold jv_r; omega), fun _ => h2 hs hp hc hd h5, fun h9 => by omega⟩
theorem lc_endB {KU : jv_Mem → Prop} {rk b : Int} {g : jv_Mem} (h1 : g 126 29 = rk) (h2 : jv_r rk) (h3 : rk = 0 → (b = 0 ∧ g 148 0 = 0) ∨ (b = 1 ∧ g 148 0 = 1)) (h4 : KU g) :
    (jv_r (g 126 29) ∧ jv_r rk) ∧ (g 126 29 = rk → (jv_r rk ∧ (¬ rk = 0 → KU g) ∧ (rk = 0 → (((0 : Int) ≤ 0 ∧ 0 < (1 : Int)) ∧ ((jv_r b) ∧ (b = 0 → ((jv_r (g 148 0)) ∧ (g 148 0 = 0 → KU g) ∧ (¬ g 148 0 = 0 → False))) ∧ (¬ b = 0 → ((jv_r (g 148 0)) ∧ (g 148 0 = 1 → KU g) ∧ (¬ g 148 0 = 1 → False)))))))) ∧ (¬ g 126 29 = rk → False) := by
  refine ⟨⟨by rw [h1]; exact h2, h2⟩, fun _ => ⟨h2, fun _ => h4, fun h => ?_⟩, fun h => h h1⟩
  rcases h3 h with ⟨e, r⟩ | ⟨e, r⟩
  · rw [e, r]
    exact ⟨by omega, (by unfold jv_r; omega), fun _ => ⟨(by unfold jv_r; omega), fun _ => h4, fun h => h rfl⟩, fun h => absurd rfl h⟩
  · rw [e, r]
    exact ⟨by omega, (by unfold jv_r; omega), fun h => by omega, fun _ => ⟨(by unfold jv_r; omega), fun _ => h4, fun h => h rfl⟩⟩
theorem iJ.right {x4 : Int} {g gd : jv_Mem} (h : iJ x4 g) (fr : ∀ i k, ¬ (21 ≤ i ∧ i ≤ 25) → ¬ (90 ≤ i ∧ i < 126) → ¬ (143 ≤ i ∧ i ≤ 148) → ¬ (i = 126 ∧ k = 29) → gd i k = g i k) (h78 : iJ7 (x4 + 5) gd ∧ iJ8 (x4 + 5) gd) : iJ (x4 + 5) gd := by
  obtain ⟨h0, h1, h2, h3, h4, h5, h6, h7, h8⟩ := h
  exact ⟨by omega, h1.fr fun i k hik => fr i k (by (try unfold f1 at hik); (try unfold f2 at hik); (try unfold f3 at hik); (try unfold f4 at hik); (try unfold f5 at hik); (try unfold f6 at hik); (try unfold f7 at hik); (try unfold f8 at hik); (try unfold jv_scr at hik); omega) (by (try unfold f1 at hik); (try unfold f2 at hik); (try unfold f3 at hik); (try unfold f4 at hik); (try unfold f5 at hik); (try unfold f6 at hik); (try unfold f7 at hik); (try unfold f8 at hik); (try unfold jv_scr at hik); omega) (by (try unfold f1 at hik); (try unfold f2 at hik); (try unfold f3 at hik); (try unfold f4 at hik); (try unfold f5 at hik); (try unfold f6 at hik); (try unfold f7 at hik); (try unfold f8 at hik); (try unfold jv_scr at hik); omega) (by (try unfold f1 at hik); (try unfold f2 at hik); (try unfold f3 at hik); (try unfold f4 at hik); (try unfold f5 at hik); (try unfold f6 at hik); (try unfold f7 at hik); (try unfold f8 at hik); (try unfold jv_scr at hik); omega), h2.fr fun i k hik => fr i k (by (try unfold f1 at hik); (try unfold f2 at hik); (try unfold f3 at hik); (try unfold f4 at hik); (try unfold f5 at hik); (try unfold f6 at hik); (try unfold f7 at hik); (try unfold f8 at hik); (try unfold jv_scr at hik); omega) (by (try unfold f1 at hik); (try unfold f2 at hik); (try unfold f3 at hik); (try unfold f4 at hik); (try unfold f5 at hik); (try unfold f6 at hik); (try unfold f7 at hik); (try unfold f8 at hik); (try unfold jv_scr at hik); omega) (by (try unfold f1 at hik); (try unfold f2 at hik); (try unfold f3 at hik); (try unfold f4 at hik); (try unfold f5 at hik); (try unfold f6 at hik); (try unfold f7 at hik); (try unfold f8 at hik); (try unfold jv_scr at hik); omega) (by (try unfold f1 at hik); (try unfold f2 at hik); (try unfold f3 at hik); (try unfold f4 at hik); (try unfold f5 at hik); (try unfold f6 at hik); (try unfold f7 at hik); (try unfold f8 at hik); (try unfold jv_scr at hik); omega), h3.fr fun i k hik => fr i k (by (try unfold f1 at hik); (try unfold f2 at hik); (try unfold f3 at hik); (try unfold f4 at hik); (try unfold f5 at hik); (try unfold f6 at hik); (try unfold f7 at hik); (try unfold f8 at hik); (try unfold jv_scr at hik); omega) (by (try unfold f1 at hik); (try unfold f2 at hik); (try unfold f3 at hik); (try unfold f4 at hik); (try unfold f5 at hik); (try unfold f6 at hik); (try unfold f7 at hik); (try unfold f8 at hik); (try unfold jv_scr at hik); omega) (by (try unfold f1 at hik); (try unfold f2 at hik); (try unfold f3 at hik); (try unfold f4 at hik); (try unfold f5 at hik); (try unfold f6 at hik); (try unfold f7 at hik); (try unfold f8 at hik); (try unfold jv_scr at hik); omega) (by (try unfold f1 at hik); (try unfold f2 at hik); (try unfold f3 at hik); (try unfold f4 at hik); (try unfold f5 at hik); (try unfold f6 at hik); (try unfold f7 at hik); (try unfold f8 at hik); (try unfold jv_scr at hik); omega), h4.fr fun i k hik => fr i k (by (try unfold f1 at hik); (try unfold f2 at hik); (try unfold f3 at hik); (try unfold f4 at hik); (try unfold f5 at hik); (try unfold f6 at hik); (try unfold f7 at hik); (try unfold f8 at hik); (try unfold jv_scr at hik); omega) (by (try unfold f1 at hik); (try unfold f2 at hik); (try unfold f3 at hik); (try unfold f4 at hik); (try unfold f5 at hik); (try unfold f6 at hik); (try unfold f7 at hik); (try unfold f8 at hik); (try unfold jv_scr at hik); omega) (by (try unfold f1 at hik); (try unfold f2 at hik); (try unfold f3 at hik); (try unfold f4 at hik); (try unfold f5 at hik); (try unfold f6 at hik); (try unfold f7 at hik); (try unfold f8 at hik); (try unfold jv_scr at hik); omega) (by (try unfold f1 at hik); (try unfold f2 at hik); (try unfold f3 at hik); (try unfold f4 at hik); (try unfold f5 at hik); (try unfold f6 at hik); (try unfold f7 at hik); (try unfold f8 at hik); (try unfold jv_scr at hik); omega), h5.fr fun i k hik => fr i k (by (try unfold f1 at hik); (try unfold f2 at hik); (try unfold f3 at hik); (try unfold f4 at hik); (try unfold f5 at hik); (try unfold f6 at hik); (try unfold f7 at hik); (try unfold f8 at hik); (try unfold jv_scr at hik); omega) (by (try unfold f1 at hik); (try unfold f2 at hik); (try unfold f3 at hik); (try unfold f4 at hik); (try unfold f5 at hik); (try unfold f6 at hik); (try unfold f7 at hik); (try unfold f8 at hik); (try unfold jv_scr at hik); omega) (by (try unfold f1 at hik); (try unfold f2 at hik); (try unfold f3 at hik); (try unfold f4 at hik); (try unfold f5 at hik); (try unfold f6 at hik); (try unfold f7 at hik); (try unfold f8 at hik); (try unfold jv_scr at hik); omega) (by (try unfold f1 at hik); (try unfold f2 at hik); (try unfold f3 at hik); (try unfold f4 at hik); (try unfold f5 at hik); (try unfold f6 at hik); (try unfold f7 at hik); (try unfold f8 at hik); (try unfold jv_scr at hik); omega), h6.fr fun i k hik => fr i k (by (try unfold f1 at hik); (try unfold f2 at hik); (try unfold f3 at hik); (try unfold f4 at hik); (try unfold f5 at hik); (try unfold f6 at hik); (try unfold f7 at hik); (try unfold f8 at hik); (try unfold jv_scr at hik); omega) (by (try unfold f1 at hik); (try unfold f2 at hik); (try unfold f3 at hik); (try unfold f4 at hik); (try unfold f5 at hik); (try unfold f6 at hik); (try unfold f7 at hik); (try unfold f8 at hik); (try unfold jv_scr at hik); omega) (by (try unfold f1 at hik); (try unfold f2 at hik); (try unfold f3 at hik); (try unfold f4 at hik); (try unfold f5 at hik); (try unfold f6 at hik); (try unfold f7 at hik); (try unfold f8 at hik); (try unfold jv_scr at hik); omega) (by (try unfold f1 at hik); (try unfold f2 at hik); (try unfold f3 at hik); (try unfold f4 at hik); (try unfold f5 at hik); (try unfold f6 at hik); (try unfold f7 at hik); (try unfold f8 at hik); (try unfold jv_scr at hik); omega), h78.1, h78.2⟩
theorem cs_22 {L : Nat} {xs : Nat → Int32} (hL : L ≤ 2560) : ∀ (x4 : Int) (g : jv_Mem), 0 ≤ x4 → x4 + 4 < ((L : Nat) : Int) → iJ x4 g → wp_LC_22 xs L x4 (iJ (x4 + 5)) g := by
  intro x4 g h0 h4 hI
  obtain ⟨hx, j1, j2, j3, j4, j5, j6, j7, j8⟩ := id hI
  have ra := jv_sx_r xs (x4 + 1)
  have rb := jv_sx_r xs (x4 + 2)
  have rc := jv_sx_r xs (x4 + 3)
  have rd := jv_sx_r xs (x4 + 4)
  unfold wp_LC_22 wp_L_enter wp_X8_enter
  generalize jv_sx xs (x4 + 1) = s at ra ⊢
  generalize jv_sx xs (x4 + 2) = p at rb ⊢
  generalize jv_sx xs (x4 + 3) = c at rc ⊢
  generalize jv_sx xs (x4 + 4) = d at rd ⊢
  obtain ⟨n1, n2, n3, -⟩ := id j7
  obtain ⟨m1, m2, m3, m4, m5⟩ := id j6
  obtain ⟨y1, y2, y3, -⟩ := id j8
  have j52 := j5.2.1
  have j53 := j5.2.2
  have facts : ∀ gm : jv_Mem, (∀ i k, 126 ≤ i → i ≤ 147 → gm i k = g i k) → ((0 ≤ gm 126 22 ∧ gm 126 22 ≤ 6) ∧ (0 ≤ gm 126 16 ∧ gm 126 16 ≤ 20) ∧ ((0 ≤ s ∧ s < gm 126 22) → (0 ≤ p ∧ p < gm 126 16) → (0 ≤ c ∧ c < 9) → 0 ≤ gm 140 p ∧ gm 140 p < 64 ∧ jv_r (gm 144 (((180 * s) + (9 * p)) + c)) ∧ jv_r (gm 138 ((9 * p) + c)))) := by
    intro gm hg
    rw [hg 126 22 (by omega) (by omega), hg 126 16 (by omega) (by omega), hg 140 p (by omega) (by omega), hg 144 _ (by omega) (by omega), hg 138 _ (by omega) (by omega)]
    refine ⟨by omega, by omega, fun hs hp hc => ?_⟩
    have k := ex_s j7 hs.1 (by omega)
    have l := ex_p j6 hp.1 (by omega)
    have k9 := k.2.2.2.2.2.2.2.2 p c hp.1 l.1 hc.1 hc.2
    have l9 := (m4 p hp.1 (by omega)).2.2.2.1 c hc.1 hc.2
    exact ⟨l.2.2.2.2.2.1, l.2.2.2.2.2.2.1, by unfold jv_r; omega, by unfold jv_r; omega⟩
  obtain ⟨f1g, f2g, f3g⟩ := facts g (fun _ _ _ _ => rfl)
  refine ⟨by omega, by omega, by omega, by omega, ?_⟩
  refine u_needCellOf ra rb rc (by unfold jv_r; omega) (by unfold jv_r; omega) (fun hs hp hc => u_needIndex rd (by unfold jv_r; omega) (fun hd => ?_) (fun hd => Or.inl ⟨rfl, by omega, by omega, by omega, by omega, ?_⟩)) (fun h => Or.inl ⟨rfl, by omega, by omega, by omega, by omega, ?_⟩)
  · have k := ex_s j7 hs.1 hs.2
    obtain ⟨k1, k2, k3, k4, k5, k6, k7, k8, k9⟩ := k
    have l := ex_p j6 hp.1 hp.2
    obtain ⟨l1, l2, l3, l4, l5, l6, l7, l8, l9⟩ := l
    have kc := k9 p c hp.1 l1 hc.1 hc.2
    have lc := (m4 p hp.1 (by omega)).2.2.2.1 c hc.1 hc.2
    refine u_needUnfinished hs.1 k1 hp.1 l1 hc.1 hc.2 (by unfold jv_r; omega) (fun hr hb => ?_) (fun hr => Or.inr ⟨rfl, by omega, by omega, by omega, by omega, ?_⟩)
    · refine ⟨by omega, hc, ?_⟩
      dsimp only
      rw [lc.1]
      refine ⟨⟨(by unfold jv_r; omega), rd⟩, fun hne => ⟨(by unfold jv_r; omega), fun _ => ⟨Or.inl rfl, (by unfold jv_r; omega), fun _ => ⟨by omega, ?_⟩, fun h9 => absurd rfl h9⟩, fun h9 => absurd rfl h9⟩, fun he => ⟨(by unfold jv_r; omega), fun h9 => by omega, fun _ => ?_⟩⟩
      · rintro g1 rfl
        obtain ⟨f1, f2, f3⟩ := facts (jv_up g 148 0 0) (fun i k i0 i1 => jv_up_n (by omega))
        refine ⟨by omega, by omega, by omega, by omega, u_enterM ra rb rc rd f1 f2 f3 (fun h => ?_) (fun _ _ _ _ h => ?_) (fun _ _ _ _ _ _ _ => ?_) (fun _ _ _ _ _ _ h => ?_)⟩
        · exfalso
          rw [jv_up_n (by omega), jv_up_n (by omega)] at h
          exact h ⟨⟨by omega, by omega, hc⟩, hd⟩
        · exfalso
          rw [jv_up_n (by omega), jv_up_n (by omega), ← l5] at h
          exact h ⟨by omega, hb⟩
        · exact lc_endB (by first | omega | (simp (disch := omega) only [jv_up_e, jv_up_i, jv_up_k]; done) | (simp (disch := omega) only [jv_up_e, jv_up_i, jv_up_k]; omega)) (by unfold jv_r; omega) (fun _ => Or.inl ⟨rfl, (by first | omega | (simp (disch := omega) only [jv_up_e, jv_up_i, jv_up_k]; done) | (simp (disch := omega) only [jv_up_e, jv_up_i, jv_up_k]; omega))⟩) (hI.fr (by omega) (by (intro i k hik; (try unfold f1 at hik); (try unfold f2 at hik); (try unfold f3 at hik); (try unfold f4 at hik); (try unfold f5 at hik); (try unfold f6 at hik); (try unfold f7 at hik); (try unfold f8 at hik); (try unfold jv_scr at hik); repeat rw [jv_up_n (by omega)])))
        · exfalso
          rw [jv_up_n (by omega)] at h
          exact hne h
      · refine u_becomeRight y1 (by omega) hs.1 k1 hp.1 l1 hc.1 hc.2 j52 j53 (by omega) (by omega) (by omega) (by omega) (by omega) (by omega) (fun x x0 x1 => (k9 p x hp.1 l1 x0 x1).2) (fun ga b1 b2 b3 b4 b5 b6 b7 b8 => ?_)
        refine ⟨Or.inr rfl, (by unfold jv_r; omega), fun h9 => by omega, fun _ => ⟨by omega, ?_⟩⟩
        rintro gb eb
        have fm : ∀ i k, 126 ≤ i → i ≤ 147 → gb i k = g i k := fun i k i0 i1 => by rw [eb, jv_up_n (by omega)]; exact b1 i k (by omega) (by omega) (by omega) (by omega) (by omega) (by omega) (by omega)
        obtain ⟨f1, f2, f3⟩ := facts gb fm
        refine ⟨by omega, by omega, by omega, by omega, u_enterM ra rb rc rd f1 f2 f3 (fun h => ?_) (fun _ _ _ _ h => ?_) (fun _ _ _ _ _ _ h => ?_) (fun _ _ _ _ _ _ _ => ?_)⟩
        · exfalso
          rw [fm 126 22 (by omega) (by omega), fm 126 16 (by omega) (by omega)] at h
          exact h ⟨⟨by omega, by omega, hc⟩, hd⟩
        · exfalso
          rw [fm 144 _ (by omega) (by omega), fm 140 p (by omega) (by omega), ← l5] at h
          exact h ⟨by omega, hb⟩
        · exfalso
          rw [fm 138 _ (by omega) (by omega)] at h
          exact h he
        · generalize hgc : jv_up (jv_up gb 126 29 0) 144 (((180 * s) + (9 * p)) + c) (gb 126 15 + 1) = gc
          have g15 : gb 126 15 = g 0 11 := by rw [fm 126 15 (by omega) (by omega)]; exact j5.1
          have gc1 : ∀ i k, i ≠ 144 → ¬ (i = 126 ∧ k = 29) → gc i k = gb i k := fun i k p1 p2 => by rw [← hgc, jv_up_n (by omega), jv_up_n p2]
          have gc144 : ∀ k, gc 144 k = if k = ((180 * s) + (9 * p)) + c then g 0 11 + 1 else g 144 k := fun k => by
            rw [← hgc, g15]
            by_cases e : k = ((180 * s) + (9 * p)) + c
            · rw [jv_up_e rfl e, if_pos e]
            · rw [jv_up_n (fun hh => e hh.2), if_neg e, jv_up_n (by omega)]; exact fm 144 k (by omega) (by omega)
          have gc29 : gc 126 29 = 0 := by rw [← hgc, jv_up_n (by omega), jv_up_e rfl rfl]
          have c140 : gc 140 p = g 140 p := by rw [gc1 140 p (by omega) (by omega)]; exact fm 140 p (by omega) (by omega)
          have c142 : gc 142 s = g 142 s := by rw [gc1 142 s (by omega) (by omega)]; exact fm 142 s (by omega) (by omega)
          have c137 : gc 137 p = g 137 p := by rw [gc1 137 p (by omega) (by omega)]; exact fm 137 p (by omega) (by omega)
          have RR : ∀ x, 0 ≤ x → x < 9 → -1 ≤ ga (90 + 6 * s + 1 + 1) (p * 9 + x) ∧ ga (90 + 6 * s + 1 + 1) (p * 9 + x) ≤ 30001 := fun x x0 x1 => by
            rw [b7]
            have := (k9 p x hp.1 l1 x0 x1).2
            split <;> omega
          refine u_countsM (R := ga (90 + 6 * s + 1 + 1)) hs.1 k1 hp.1 l1 (by rw [c140]; exact l6) (by rw [c140]; exact l7) (by rw [c142]; exact k6) (by rw [c142]; exact k7) (fun x x0 x1 => ?_) RR (by rw [c137]; omega) (fun gd d1 d2 => ?_)
          · rw [gc144, b7]
            by_cases e : x = c
            · rw [if_pos (by omega), if_pos (by omega)]; omega
            · rw [if_neg (by omega), if_neg (by omega)]; exact (k9 p x hp.1 l1 x0 x1).1
          · rw [c140, c137, c142, ← l5, ← l2] at d2
            have c147 : ∀ k, gc 147 k = g 147 k := fun k => by rw [gc1 147 k (by omega) (by omega)]; exact fm 147 k (by omega) (by omega)
            have dfar : ∀ i k, 126 ≤ i → i ≤ 147 → i ≠ 144 → i ≠ 147 → ¬ (i = 126 ∧ k = 29) → gd i k = g i k := fun i k i0 i1 i2 i3 i4 => by rw [d1 i i3, gc1 i k i2 i4]; exact fm i k i0 i1
            have dga : ∀ i k, i < 126 → gd i k = ga i k := fun i k i0 => by rw [d1 i (by omega), gc1 i k (by omega) (by omega), eb, jv_up_n (by omega)]
            have dg : ∀ i k, i < 126 → i ≠ 22 → i ≠ 23 → i ≠ 24 → i ≠ 25 → ¬ (i = 21 ∧ k = 4) → i ≠ 90 + 6 * s + 1 + 1 → i ≠ 90 + 6 * s + 1 + 2 → gd i k = g i k := fun i k i0 x1 x2 x3 x4 x5 x6 x7 => by rw [dga i k i0]; exact b1 i k x1 x2 x3 x4 x5 x6 x7
            have d29 : gd 126 29 = 0 := by rw [d1 126 (by omega)]; exact gc29
            have d148 : gd 148 0 = 1 := by rw [d1 148 (by omega), gc1 148 0 (by omega) (by omega), eb, jv_up_e rfl rfl]
            have d144 : ∀ k, gd 144 k = if k = ((180 * s) + (9 * p)) + c then g 0 11 + 1 else g 144 k := fun k => by rw [d1 144 (by omega)]; exact gc144 k
            have gdr : gd (90 + 6 * s + 1 + 1) = ga (90 + 6 * s + 1 + 1) := funext fun k => dga _ k (by omega)
            have J78 : iJ7 (x4 + 5) gd ∧ iJ8 (x4 + 5) gd := by
              refine step_right (s := s) (p := p) (c := c) j5 j6 j7 j8 (by omega) hs.1 hs.2 hp.1 hp.2 hc.1 hc.2 (fun k => dg 0 k (by omega) (by omega) (by omega) (by omega) (by omega) (by omega) (by omega) (by omega)) (dfar 126 22 (by omega) (by omega) (by omega) (by omega) (by omega)) (fun i k i0 i1 => dg i k (by omega) (by omega) (by omega) (by omega) (by omega) (by omega) (by omega) (by omega)) (fun i k hi => dfar i k (by omega) (by omega) (by omega) (by omega) (by omega)) (fun s' k q0 q1 => dg _ k (by omega) (by omega) (by omega) (by omega) (by omega) (by omega) (by omega) (by omega)) (fun s' k q0 q1 q2 => ⟨dg _ k (by omega) (by omega) (by omega) (by omega) (by omega) (by omega) (by omega) (by omega), dg _ k (by omega) (by omega) (by omega) (by omega) (by omega) (by omega) (by omega) (by omega)⟩) (by rw [dga 21 4 (by omega)]; exact b2) (fun k => by rw [dga 22 k (by omega)]; exact b3 k) (fun k => by rw [dga 23 k (by omega)]; exact b4 k) (fun k => by rw [dga 24 k (by omega)]; exact b5 k) (fun k => by rw [dga 25 k (by omega)]; exact b6 k) (fun k => by rw [gdr]; exact b7 k) (fun k => by rw [gdr, dga _ k (by omega)]; exact b8 k) d144 (fun k => by rw [gdr, d2 k, c147]) (fun s' q0 q1 => ?_) (fun s' q q0 q1 w0 w1 => ?_) (fun s' q x q0 q1 w0 w1 w2 w3 => ?_)
              · obtain ⟨b1', b2', b3', -⟩ := j7.2.2.2.1 s' q0 q1
                rw [dg _ 3 (by omega) (by omega) (by omega) (by omega) (by omega) (by omega) (by omega) (by omega), dfar 143 s' (by omega) (by omega) (by omega) (by omega) (by omega)]
                exact ⟨b1', b2', by omega⟩
              · obtain ⟨-, -, b3', -⟩ := j7.2.2.2.2 s' q0 q1
                rw [dg (90 + 6 * s' + 5) q (by omega) (by omega) (by omega) (by omega) (by omega) (by omega) (by omega) (by omega), dfar 146 _ (by omega) (by omega) (by omega) (by omega) (by omega)]
                have := b3' q w0 w1
                omega
              · obtain ⟨-, -, -, b4'⟩ := j7.2.2.2.2 s' q0 q1
                rw [dg (90 + 6 * s' + 4) _ (by omega) (by omega) (by omega) (by omega) (by omega) (by omega) (by omega) (by omega), dfar 145 _ (by omega) (by omega) (by omega) (by omega) (by omega)]
                exact b4' q x w0 w1 w2 w3
            refine lc_endB d29 (by unfold jv_r; omega) (fun _ => Or.inr ⟨rfl, d148⟩) ?_
            refine hI.right (fun i k i0 i1 i2 i3 => ?_) J78
            by_cases e : i < 126
            · exact dg i k e (by omega) (by omega) (by omega) (by omega) (by omega) (by omega) (by omega)
            · by_cases e2 : i ≤ 147
              · exact dfar i k (by omega) e2 (by omega) (by omega) i3
              · rw [d1 i (by omega), gc1 i k (by omega) (by omega), eb, jv_up_n (by omega)]
                exact b1 i k (by omega) (by omega) (by omega) (by omega) (by omega) (by omega) (by omega)
    · refine u_enterM ra rb rc rd f1g f2g f3g (fun h => ?_) (fun _ _ _ _ h => ?_) (fun _ _ _ _ h5 h6 h => ?_) (fun _ _ _ _ h5 h6 _ => ?_)
      · exfalso
        exact h ⟨⟨by omega, by omega, hc⟩, hd⟩
      · exact lc_endB (by first | omega | (simp (disch := omega) only [jv_up_e, jv_up_i, jv_up_k]; done) | (simp (disch := omega) only [jv_up_e, jv_up_i, jv_up_k]; omega)) (by unfold jv_r; omega) (fun h9 => absurd h9 (by omega)) (hI.fr (by omega) (by (intro i k hik; (try unfold f1 at hik); (try unfold f2 at hik); (try unfold f3 at hik); (try unfold f4 at hik); (try unfold f5 at hik); (try unfold f6 at hik); (try unfold f7 at hik); (try unfold f8 at hik); (try unfold jv_scr at hik); repeat rw [jv_up_n (by omega)])))
      · exact absurd ⟨by omega, by rw [l5]; exact h6⟩ hr
      · exact absurd ⟨by omega, by rw [l5]; exact h6⟩ hr
  · refine u_enterM ra rb rc rd f1g f2g f3g (fun h => ?_) (fun _ _ _ h9 _ => absurd h9 hd) (fun _ _ _ h9 _ _ _ => absurd h9 hd) (fun _ _ _ h9 _ _ _ => absurd h9 hd)
    exact lc_endB (by first | omega | (simp (disch := omega) only [jv_up_e, jv_up_i, jv_up_k]; done) | (simp (disch := omega) only [jv_up_e, jv_up_i, jv_up_k]; omega)) (by unfold jv_r; omega) (fun h9 => absurd h9 (by omega)) (hI.fr (by omega) (by (intro i k hik; (try unfold f1 at hik); (try unfold f2 at hik); (try unfold f3 at hik); (try unfold f4 at hik); (try unfold f5 at hik); (try unfold f6 at hik); (try unfold f7 at hik); (try unfold f8 at hik); (try unfold jv_scr at hik); repeat rw [jv_up_n (by omega)])))
  · refine u_enterM ra rb rc rd f1g f2g f3g (fun h => ?_) (fun z1 z2 z3 _ _ => absurd ⟨by omega, by omega, z3⟩ h) (fun z1 z2 z3 _ _ _ _ => absurd ⟨by omega, by omega, z3⟩ h) (fun z1 z2 z3 _ _ _ _ => absurd ⟨by omega, by omega, z3⟩ h)
    exact lc_endB (by first | omega | (simp (disch := omega) only [jv_up_e, jv_up_i, jv_up_k]; done) | (simp (disch := omega) only [jv_up_e, jv_up_i, jv_up_k]; omega)) (by unfold jv_r; omega) (fun h9 => absurd h9 (by omega)) (hI.fr (by omega) (by (intro i k hik; (try unfold f1 at hik); (try unfold f2 at hik); (try unfold f3 at hik); (try unfold f4 at hik); (try unfold f5 at hik); (try unfold f6 at hik); (try unfold f7 at hik); (try unfold f8 at hik); (try unfold jv_scr at hik); repeat rw [jv_up_n (by omega)])))
