/-! the house's search -/
theorem u_letterX {w k : Int} {Q : Int → jv_Mem → Prop} {g : jv_Mem} (h2 : iJ2 g) (w0 : 0 ≤ w) (w1 : w < g 3 6) (k0 : 0 ≤ k) (k1 : k < 3) (hQ : Q (iv_dg (g 129 w) k) g) : wp_X7_letter w k Q g := by
  obtain ⟨m1, m2, m3, hw, -⟩ := h2
  have := (hw w w0 w1).2.2.2.1 k k0 k1
  unfold wp_X7_letter
  refine ⟨by omega, ?_⟩
  rw [this]; exact hQ
theorem u_agrees {r : Int} {Q : Int → jv_Mem → Prop} {g : jv_Mem} (h2 : iJ2 g) (h3 : iJ3 g) (r0 : 0 ≤ r) (r1 : r < 3) (w0 : 0 ≤ g 12 r) (w1 : g 12 r < g 3 6) (hQ : Q (iv_fk (g 132) (g 129) r (g 12 r) 3) g) : wp_X6_agreesWithFixed r Q g := by
  have hw := (h2.2.2.2.1 (g 12 r) w0 w1)
  unfold wp_X6_agreesWithFixed
  refine ⟨fun n x3 gl => gl = g ∧ 0 ≤ x3 ∧ x3 ≤ 3 ∧ iv_fk (g 132) (g 129) r (g 12 r) x3.toNat = 1 ∧ n = (3 - x3).toNat, ⟨_, rfl, by omega, by omega, rfl, rfl⟩, ?_⟩
  rintro n x3 gl ⟨rfl, a0, a1, a2, a3⟩
  refine ⟨(by unfold jv_r; omega), fun h => ?_, fun h => ⟨by omega, ?_⟩⟩
  · have e : x3.toNat = 3 := by omega
    rw [e] at a2
    rw [a2] at hQ; exact hQ
  · rintro v4 ev
    have hf := h3 (3 * r + x3) (by omega) (by omega)
    have e9 : r * 3 + x3 = 3 * r + x3 := by omega
    rw [e9] at ev
    have e6 : ((x3.toNat : Nat) : Int) = x3 := by omega
    have hd := @iv_dg_r (gl 129 (gl 12 r)) x3 hw.1 hw.2.1
    have step : (gl 132 (3 * r + x3) = 0 ∨ gl 132 (3 * r + x3) = iv_dg (gl 129 (gl 12 r)) x3 + 1) → wB_X6_agreesWithFixed_43 (fun x1' g' => ∃ n', n' < n ∧ g' = gl ∧ 0 ≤ x1' ∧ x1' ≤ 3 ∧ iv_fk (gl 132) (gl 129) r (gl 12 r) x1'.toNat = 1 ∧ n' = (3 - x1').toNat) x3 gl := by
      intro hh v e
      refine ⟨(3 - v).toNat, by omega, rfl, by omega, by omega, ?_, rfl⟩
      have e5 : v.toNat = x3.toNat + 1 := by omega
      rw [e5]; simp only [iv_fk]; rw [e6, if_neg (by omega), if_pos hh]
    refine ⟨(by unfold jv_r; omega), fun hn => step (Or.inl (by omega)), fun hn => ⟨by omega, u_letterX h2 w0 w1 a0 h ⟨⟨(by unfold jv_r; omega), (by unfold jv_r; omega)⟩, fun he => step (Or.inr (by omega)), fun hne => ?_⟩⟩⟩
    have e0 : iv_fk (gl 132) (gl 129) r (gl 12 r) 3 = 0 := by
      have h01 := @iv_fk_01 (gl 132) (gl 129) r (gl 12 r) 3
      have := iv_fk_0 (fr := gl 132) (lc := gl 129) (r := r) (w := gl 12 r) (n := x3.toNat + 1) (by simp only [iv_fk]; rw [e6, if_neg (by omega), if_neg (by omega)]; decide) 3 (by omega)
      omega
    rw [e0] at hQ; exact hQ
theorem u_columnCode {rr col d : Int} {Q : Int → jv_Mem → Prop} {g : jv_Mem} (h2 : iJ2 g) (c0 : 0 ≤ col) (c1 : col < 3) (d0 : 0 ≤ d) (d1 : d ≤ 3) (hr : ∀ x, 0 ≤ x → x < d → 0 ≤ g rr x ∧ g rr x < g 3 6) (hQ : Q (iv_pc (g 129) (g rr) d.toNat col) g) : wp_X6_columnCode rr col d Q g := by
  unfold wp_X6_columnCode
  refine ⟨fun n x4 x5 gl => gl = g ∧ 0 ≤ x5 ∧ x5 ≤ d ∧ x4 = iv_pc (g 129) (g rr) x5.toNat col ∧ n = (d - x5).toNat, ⟨_, rfl, by omega, by omega, rfl, rfl⟩, ?_⟩
  rintro n x4 x5 gl ⟨rfl, a0, a1, a2, a3⟩
  refine ⟨⟨(by unfold jv_r; omega), (by unfold jv_r; omega)⟩, fun h => ?_, fun h => ⟨by omega, ?_⟩⟩
  · have e : x5 = d := by omega
    rw [a2, e]; exact hQ
  · have hx := hr x5 a0 h
    refine u_letterX h2 hx.1 hx.2 c0 c1 ?_
    intro v4 e4 v5 e5
    refine ⟨(d - v5).toNat, by omega, rfl, by omega, by omega, ?_, rfl⟩
    have e : v5.toNat = x5.toNat + 1 := by omega
    have e6 : ((x5.toNat : Nat) : Int) = x5 := by omega
    rw [e, e4, a2]
    unfold iv_pc
    simp only [iv_cod]; rw [e6]
theorem iv_pc_r {g : jv_Mem} (h2 : iJ2 g) {rows : Int → Int} {k d : Int} (d0 : 0 ≤ d) (d1 : d ≤ 3) (k0 : 0 ≤ k) (k1 : k < 3) (hr : ∀ x, 0 ≤ x → x < d → 0 ≤ rows x ∧ rows x < g 3 6) : 1 ≤ iv_pc (g 129) rows d.toNat k ∧ iv_pc (g 129) rows d.toNat k < 1458 ∧ (d = 3 → 729 ≤ iv_pc (g 129) rows d.toNat k) := by
  unfold iv_pc
  exact iv_cod_r d0 d1 (fun i i0 i1 => by
    have := hr i i0 i1
    have hw := h2.2.2.2.1 _ this.1 this.2
    exact iv_dg_r hw.1 hw.2.1)
theorem u_canStand {r w : Int} {Q : Int → jv_Mem → Prop} {g : jv_Mem} (h2 : iJ2 g) (h3 : iJ3 g) (r0 : 0 ≤ r) (r1 : r < 3) (w0 : 0 ≤ w) (w1 : w < g 3 6) (hr : ∀ x, 0 ≤ x → x < r → 0 ≤ g 12 x ∧ g 12 x < g 3 6)
    (hY : iv_fk (g 132) (g 129) r w 3 = 1 → (∀ k, 0 ≤ k → k < 3 → iv_bg (g 129) (iv_pc (g 129) (jv_up g 12 r w 12) (r + 1).toNat k) (g 3 6).toNat ≠ 0) → Q 1 (jv_up g 12 r w))
    (hN : (iv_fk (g 132) (g 129) r w 3 ≠ 1 ∨ ∃ k, 0 ≤ k ∧ k < 3 ∧ iv_bg (g 129) (iv_pc (g 129) (jv_up g 12 r w 12) (r + 1).toNat k) (g 3 6).toNat = 0) → Q 0 (jv_up g 12 r w)) : wp_X6_canStand r w Q g := by
  unfold wp_X6_canStand
  refine ⟨⟨r0, r1⟩, ?_⟩
  rintro g1 e1
  have q3 : g1 3 = g 3 := by rw [e1]; exact jv_up_row (by omega)
  have q129 : g1 129 = g 129 := by rw [e1]; exact jv_up_row (by omega)
  have q132 : g1 132 = g 132 := by rw [e1]; exact jv_up_row (by omega)
  have j2 : iJ2 g1 := h2.fr (fun i k hik => by rw [e1]; exact jv_up_n (by (try unfold f1 at hik); (try unfold f2 at hik); (try unfold f3 at hik); (try unfold f4 at hik); (try unfold f5 at hik); (try unfold f6 at hik); (try unfold f7 at hik); (try unfold f8 at hik); (try unfold jv_scr at hik); omega))
  have j3 : iJ3 g1 := h3.fr (fun i k hik => by rw [e1]; exact jv_up_n (by (try unfold f1 at hik); (try unfold f2 at hik); (try unfold f3 at hik); (try unfold f4 at hik); (try unfold f5 at hik); (try unfold f6 at hik); (try unfold f7 at hik); (try unfold f8 at hik); (try unfold jv_scr at hik); omega))
  have q12 : g1 12 r = w := by rw [e1]; exact jv_up_e rfl rfl
  have hr' : ∀ x, 0 ≤ x → x < r + 1 → 0 ≤ g1 12 x ∧ g1 12 x < g1 3 6 := fun x x0 x1 => by
    rw [q3]
    by_cases e : x = r
    · rw [e, q12]; exact ⟨w0, w1⟩
    · have : g1 12 x = g 12 x := by rw [e1]; exact jv_up_n (by omega)
      rw [this]; exact hr x x0 (by omega)
  rw [← e1, ← q129, ← q132, ← q3] at hY hN
  clear e1 hr
  have h01 := @iv_fk_01 (g1 132) (g1 129) r w 3
  refine u_agrees j2 j3 r0 r1 (by rw [q12]; exact w0) (by rw [q12, q3]; exact w1) ?_
  rw [q12]
  refine ⟨(by unfold jv_r; omega), fun hz => ?_, fun hz => hN (Or.inl (by omega))⟩
  refine ⟨fun n x4 gl => gl = g1 ∧ 0 ≤ x4 ∧ x4 ≤ 3 ∧ (∀ k, 0 ≤ k → k < x4 → iv_bg (g1 129) (iv_pc (g1 129) (g1 12) (r + 1).toNat k) (g1 3 6).toNat ≠ 0) ∧ n = (3 - x4).toNat, ⟨_, rfl, by omega, by omega, fun k k0 k1 => by omega, rfl⟩, ?_⟩
  rintro n x4 gl ⟨rfl, a0, a1, a2, a3⟩
  refine ⟨(by unfold jv_r; omega), fun h => ?_, fun h => ?_⟩
  · have e : x4 = 3 := by omega
    rw [e] at a2
    exact hY (by omega) a2
  · have hpr := iv_pc_r j2 (rows := gl 12) (k := x4) (d := r + 1) (by omega) (by omega) a0 h hr'
    refine u_columnCode j2 a0 h (by omega) (by omega) hr' ?_
    have hc := (j2.2.2.2.2.2.1 (iv_pc (gl 129) (gl 12) (r + 1).toNat x4) (by omega) hpr.2.1).2
    have hb := (@iv_bg_0 (gl 129) (iv_pc (gl 129) (gl 12) (r + 1).toNat x4) (gl 3 6).toNat).1
    have hb' := (@iv_bg_0 (gl 129) (iv_pc (gl 129) (gl 12) (r + 1).toNat x4) (gl 3 6).toNat).2.1
    have hn := j2.2.1
    have hn2 := j2.2.2.1
    unfold wp_X7_beginningWith
    refine ⟨by omega, ?_⟩
    rw [hc]
    refine ⟨(by unfold jv_r; omega), fun hne => ?_, fun he => hN (Or.inr ⟨x4, a0, h, he⟩)⟩
    intro v ev
    refine ⟨(3 - v).toNat, by omega, rfl, by omega, by omega, fun k k0 k1 => ?_, rfl⟩
    by_cases e : k = x4
    · rw [e]; exact hne
    · exact a2 k k0 (by omega)
theorem u_wordOrNone {a b c k : Int} {Q : Int → jv_Mem → Prop} {g : jv_Mem} (h2 : iJ2 g) (a0 : 0 ≤ a ∧ a < g 3 6) (b0 : 0 ≤ b ∧ b < g 3 6) (c0 : 0 ≤ c ∧ c < g 3 6) (hQ : Q (g 128 (iv_col (g 129) a b c k) - 1) g) : wp_X7_wordOrNone (729 + iv_col (g 129) a b c k) Q g := by
  have wa := h2.2.2.2.1 a a0.1 a0.2
  have wb := h2.2.2.2.1 b b0.1 b0.2
  have wc := h2.2.2.2.1 c c0.1 c0.2
  have hr := @iv_col_r (g 129) a b c k ⟨wa.1, wa.2.1⟩ ⟨wb.1, wb.2.1⟩ ⟨wc.1, wc.2.1⟩
  have hc := (h2.2.2.2.2.2.1 (729 + iv_col (g 129) a b c k) (by omega) (by omega)).1
  rw [if_pos (by omega)] at hc
  have e : 729 + iv_col (g 129) a b c k - 729 = iv_col (g 129) a b c k := by omega
  rw [e] at hc
  unfold wp_X7_wordOrNone
  refine ⟨by omega, ?_⟩
  rw [hc]; exact hQ
theorem u_weightOfSquare {Q : Int → jv_Mem → Prop} {g : jv_Mem} (h2 : iJ2 g) (hr : ∀ x, 0 ≤ x → x < 3 → 0 ≤ g 12 x ∧ g 12 x < g 3 6) (hv : ∀ k, 0 ≤ k → k < 3 → g 128 (iv_col (g 129) (g 12 0) (g 12 1) (g 12 2) k) ≠ 0) (hQ : Q (iv_wgt (g 129) (g 128) (g 130) (g 12 0) (g 12 1) (g 12 2)) g) : wp_X6_weightOfSquare Q g := by
  have r0 := hr 0 (by omega) (by omega)
  have r1 := hr 1 (by omega) (by omega)
  have r2 := hr 2 (by omega) (by omega)
  have wa := h2.2.2.2.1 _ r0.1 r0.2
  have wb := h2.2.2.2.1 _ r1.1 r1.2
  have wc := h2.2.2.2.1 _ r2.1 r2.2
  have hb := h2.2.2.2.2.1
  have hm := h2.2.2.1
  have hkk : ∀ k, 0 ≤ k → k < 3 → 1 ≤ g 128 (iv_col (g 129) (g 12 0) (g 12 1) (g 12 2) k) ∧ g 128 (iv_col (g 129) (g 12 0) (g 12 1) (g 12 2) k) ≤ g 3 6 := fun k k0 k1 => by
    have hcr := @iv_col_r (g 129) (g 12 0) (g 12 1) (g 12 2) k ⟨wa.1, wa.2.1⟩ ⟨wb.1, wb.2.1⟩ ⟨wc.1, wc.2.1⟩
    have := hb _ hcr.1 hcr.2
    have := hv k k0 k1
    omega
  have e6 : ∀ w, 0 ≤ w → w < g 3 6 → g 6 w = g 130 w := fun w w0 w1 => (h2.2.2.2.1 w w0 w1).2.2.2.2.1
  unfold wp_X6_weightOfSquare
  refine ⟨fun n x2 x3 gl => gl = g ∧ 0 ≤ x3 ∧ x3 ≤ 3 ∧ x2 = (if 0 < x3 then g 130 (g 12 0) + g 130 (g 128 (iv_col (g 129) (g 12 0) (g 12 1) (g 12 2) 0) - 1) else 0) + (if 1 < x3 then g 130 (g 12 1) + g 130 (g 128 (iv_col (g 129) (g 12 0) (g 12 1) (g 12 2) 1) - 1) else 0) + (if 2 < x3 then g 130 (g 12 2) + g 130 (g 128 (iv_col (g 129) (g 12 0) (g 12 1) (g 12 2) 2) - 1) else 0) ∧ n = (3 - x3).toNat, ⟨_, rfl, by omega, by omega, by rw [if_neg (by omega), if_neg (by omega), if_neg (by omega)]; rfl, rfl⟩, ?_⟩
  rintro n x2 x3 gl ⟨rfl, a0, a1, a2, a3⟩
  refine ⟨(by unfold jv_r; omega), fun h => ?_, fun h => ⟨⟨a0, h⟩, ?_⟩⟩
  · have e : x3 = 3 := by omega
    have e2 : x2 = iv_wgt (gl 129) (gl 128) (gl 130) (gl 12 0) (gl 12 1) (gl 12 2) := by
      rw [a2, e, if_pos (by omega), if_pos (by omega), if_pos (by omega)]; unfold iv_wgt; omega
    rw [e2]; exact hQ
  · have hx := hr x3 a0 h
    unfold wp_X7_weight
    refine ⟨by omega, ?_⟩
    rw [e6 _ hx.1 hx.2]
    intro v2 ev2
    refine u_columnCode h2 a0 h (by omega) (by omega) (fun x x0 x1 => hr x x0 x1) ?_
    have e3 : (3 : Int).toNat = 3 := rfl
    rw [e3, iv_pc_v.2.2]
    refine u_wordOrNone h2 r0 r1 r2 ?_
    have hk := hkk x3 a0 h
    refine ⟨(by unfold jv_r; omega), fun h9 => by omega, fun _ => ⟨by omega, ?_⟩⟩
    rw [e6 _ (by omega) (by omega)]
    intro v3 ev3 v4 ev4
    refine ⟨(3 - v4).toNat, by omega, rfl, by omega, by omega, ?_, rfl⟩
    rw [ev3, ev2, a2]
    have hxx : x3 = 0 ∨ x3 = 1 ∨ x3 = 2 := by omega
    rcases hxx with hx | hx | hx <;> subst hx <;> subst ev4 <;> simp only [Int.reduceLT, Int.reduceAdd, if_true, if_false, reduceIte] <;> omega

