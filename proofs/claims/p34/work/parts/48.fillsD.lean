theorem iv_prune {g : jv_Mem} (h2 : iJ2 g) {a b c k : Int} (a0 : 0 ≤ a ∧ a < g 3 6) (b0 : 0 ≤ b ∧ b < g 3 6) (c0 : 0 ≤ c ∧ c < g 3 6) (h : iv_bg (g 129) (9 + iv_dg (g 129 a) k) (g 3 6).toNat = 0 ∨ iv_bg (g 129) (81 + 9 * iv_dg (g 129 a) k + iv_dg (g 129 b) k) (g 3 6).toNat = 0 ∨ iv_bg (g 129) (729 + iv_col (g 129) a b c k) (g 3 6).toNat = 0) : g 128 (iv_col (g 129) a b c k) = 0 := by
  obtain ⟨m1, m2, m3, hw, hb, -, -, -, -⟩ := h2
  have wa := hw a a0.1 a0.2
  have wb := hw b b0.1 b0.2
  have wc := hw c c0.1 c0.2
  have hr := @iv_col_r (g 129) a b c k ⟨wa.1, wa.2.1⟩ ⟨wb.1, wb.2.1⟩ ⟨wc.1, wc.2.1⟩
  have da := @iv_dg_r (g 129 a) k wa.1 wa.2.1
  have db := @iv_dg_r (g 129 b) k wb.1 wb.2.1
  have dc := @iv_dg_r (g 129 c) k wc.1 wc.2.1
  have hc : iv_col (g 129) a b c k = 81 * iv_dg (g 129 a) k + 9 * iv_dg (g 129 b) k + iv_dg (g 129 c) k := rfl
  rcases hb _ hr.1 hr.2 with h9 | ⟨h9, h10, h11⟩
  · exact h9
  · exfalso
    generalize iv_dg (g 129 a) k = x at *
    generalize iv_dg (g 129 b) k = y at *
    generalize iv_dg (g 129 c) k = z at *
    have n0 : g 128 (iv_col (g 129) a b c k) - 1 < ((g 3 6).toNat : Int) := by omega
    rcases h with h | h | h
    · have := (iv_bg_0.2.2.1 h) (g 128 (iv_col (g 129) a b c k) - 1) (by omega) n0
      rw [h11] at this; omega
    · have := (iv_bg_0.2.2.1 h) (g 128 (iv_col (g 129) a b c k) - 1) (by omega) n0
      rw [h11] at this; omega
    · have := (iv_bg_0.2.2.1 h) (g 128 (iv_col (g 129) a b c k) - 1) (by omega) n0
      rw [h11] at this; omega
theorem iv_isword {g : jv_Mem} (h2 : iJ2 g) {v : Int} (v0 : 0 ≤ v) (v1 : v < 729) (h : iv_bg (g 129) (729 + v) (g 3 6).toNat ≠ 0) : g 128 v ≠ 0 := by
  obtain ⟨m1, m2, m3, hw, hb, -, -, -, -⟩ := h2
  have h0 := (@iv_bg_0 (g 129) (729 + v) (g 3 6).toNat).1
  obtain ⟨w, w0, w1, h9⟩ := (@iv_bg_0 (g 129) (729 + v) (g 3 6).toNat).2.2.2 (by omega)
  have h10 := hw w w0 (by omega)
  have h11 : g 129 w = v := by omega
  rw [h11] at h10; omega
theorem u_keep {a : Int} {Q : jv_Mem → Prop} {g : jv_Mem} (ra : jv_r a) (rb : jv_r (g 10 3)) (hQ : ∀ g' : jv_Mem, (∀ i, i ≠ 10 → i ≠ 13 → g' i = g i) → g' 10 4 = g 10 4 + 1 → (a ≤ g 10 3 → g' 10 3 = g 10 3 ∧ g' 13 = g 13) → (g 10 3 < a → g' 10 3 = a ∧ g' 13 0 = g 12 0 ∧ g' 13 1 = g 12 1 ∧ g' 13 2 = g 12 2) → Q g') : wp_X6_keep a Q g := by
  unfold wp_X6_keep
  rintro g1 rfl
  have r3 : jv_up g 10 4 (g 10 4 + 1) 10 3 = g 10 3 := jv_up_n (by omega)
  rw [r3]
  refine ⟨⟨ra, rb⟩, fun h => ?_, fun h => ?_⟩
  · exact hQ _ (fun i p1 p2 => jv_up_row p1) (jv_up_e rfl rfl) (fun _ => ⟨r3, jv_up_row (by omega)⟩) (fun h9 => by omega)
  · rintro g2 e2
    refine ⟨fun n x2 gl => 0 ≤ x2 ∧ x2 ≤ 3 ∧ (∀ i, i ≠ 10 → i ≠ 13 → gl i = g i) ∧ gl 10 4 = g 10 4 + 1 ∧ gl 10 3 = a ∧ (∀ x, 0 ≤ x → x < x2 → gl 13 x = g 12 x) ∧ n = (3 - x2).toNat, ⟨_, by omega, by omega, fun i p1 p2 => by rw [e2, jv_up_row p1, jv_up_row p1], by rw [e2, jv_up_n (by omega), jv_up_e rfl rfl], by rw [e2, jv_up_e rfl rfl], fun x x0 x1 => by omega, rfl⟩, ?_⟩
    rintro n x2 gl ⟨a0, a1, a2, a3, a4, a5, a6⟩
    refine ⟨(by unfold jv_r; omega), fun h9 => ?_, fun h9 => ⟨⟨a0, h9⟩, ⟨a0, h9⟩, ?_⟩⟩
    · exact hQ gl a2 a3 (fun h10 => by omega) (fun _ => ⟨a4, a5 0 (by omega) (by omega), a5 1 (by omega) (by omega), a5 2 (by omega) (by omega)⟩)
    · rintro g3 rfl v ev
      refine ⟨(3 - v).toNat, by omega, by omega, by omega, fun i p1 p2 => by rw [jv_up_row p2]; exact a2 i p1 p2, by rw [jv_up_n (by omega)]; exact a3, by rw [jv_up_n (by omega)]; exact a4, fun x x0 x1 => ?_, rfl⟩
      by_cases e : x = x2
      · rw [jv_up_e rfl e, e, a2 12 (by omega) (by omega)]
      · rw [jv_up_n (by omega)]; exact a5 x x0 (by omega)
def iv_RC (s : iv_S) (gl : jv_Mem) : Prop := gl 10 4 = s.1 ∧ gl 10 3 = s.2.1 ∧ (s.2.1 ≠ -1 → gl 13 0 = s.2.2.1 ∧ gl 13 1 = s.2.2.2.1 ∧ gl 13 2 = s.2.2.2.2) ∧ -1 ≤ gl 10 3 ∧ gl 10 3 ≤ 594
theorem iv_RC.fr {s : iv_S} {g g' : jv_Mem} (h : iv_RC s g) (h1 : g' 10 = g 10) (h2 : g' 13 = g 13) : iv_RC s g' := by
  unfold iv_RC; rw [h1, h2]; exact h
theorem u_search {Q : jv_Mem → Prop} {g : jv_Mem} (h2 : iJ2 g) (h3 : iJ3 g) (hQ : ∀ g' : jv_Mem, (∀ i, i ≠ 10 → i ≠ 12 → i ≠ 13 → g' i = g i) → iv_RC (iv_F (g 132) (g 129) (g 128) (g 130) (g 7) (g 3 6).toNat) g' → Q g') : wp_X6_search Q g := by
  obtain ⟨m1, m2, m3, hw, hb, hcc, ho, -, -⟩ := id h2
  unfold wp_X6_search
  rintro gb rfl gc ec
  have gcr : ∀ i, i ≠ 10 → gc i = g i := fun i p1 => by rw [ec, jv_up_row p1, jv_up_row p1]
  have gc4 : gc 10 4 = 0 := by rw [ec, jv_up_e rfl rfl]
  have gc3 : gc 10 3 = -1 := by rw [ec, jv_up_n (by omega), jv_up_e rfl rfl]
  clear ec
  let n := g 3 6
  let N := (g 3 6).toNat
  let s0 : iv_S := (0, -1, 0, 0, 0)
  let G1 := iv_g1 (g 132) (g 129) (g 128) (g 130) (g 7) N
  let G2 := iv_g2 (g 132) (g 129) (g 128) (g 130) (g 7) N
  let G3 := iv_g3 (g 132) (g 129) (g 128) (g 130) (g 7)
  let FR : jv_Mem → Prop := fun gl => ∀ i, i ≠ 10 → i ≠ 12 → i ≠ 13 → gl i = g i
  have fj2 : ∀ gl, FR gl → iJ2 gl := fun gl hf => h2.fr (fun i k q => by unfold f2 at q; rw [hf i (by omega) (by omega) (by omega)])
  have fj3 : ∀ gl, FR gl → iJ3 gl := fun gl hf => h3.fr (fun i k q => by unfold f3 at q; rw [hf i (by omega) (by omega) (by omega)])
  have nn : ∀ x : Int, 0 ≤ x → ((x.toNat : Nat) : Int) = x := fun x h => by omega
  have r3 : ∀ gl, FR gl → gl 3 = g 3 := fun gl hf => hf 3 (by omega) (by omega) (by omega)
  have r7 : ∀ gl, FR gl → gl 7 = g 7 := fun gl hf => hf 7 (by omega) (by omega) (by omega)
  have r128 : ∀ gl, FR gl → gl 128 = g 128 := fun gl hf => hf 128 (by omega) (by omega) (by omega)
  have r129 : ∀ gl, FR gl → gl 129 = g 129 := fun gl hf => hf 129 (by omega) (by omega) (by omega)
  have r130 : ∀ gl, FR gl → gl 130 = g 130 := fun gl hf => hf 130 (by omega) (by omega) (by omega)
  have r132 : ∀ gl, FR gl → gl 132 = g 132 := fun gl hf => hf 132 (by omega) (by omega) (by omega)
  have fup : ∀ gl (x v : Int), FR gl → FR (jv_up gl 12 x v) := fun gl x v hf i p1 p2 p3 => by rw [jv_up_row p2]; exact hf i p1 p2 p3
  have cup : ∀ gl (x v : Int) s, iv_RC s gl → iv_RC s (jv_up gl 12 x v) := fun gl x v s hr => hr.fr (jv_up_row (by omega)) (jv_up_row (by omega))
  refine ⟨fun m x1 gl => 0 ≤ x1 ∧ x1 ≤ n ∧ FR gl ∧ iv_RC (iv_fold G1 x1.toNat s0) gl ∧ m = (n - x1).toNat, ⟨_, by omega, m2, fun i p1 _ _ => gcr i p1, ⟨gc4, gc3, fun h => absurd rfl h, by omega, by omega⟩, rfl⟩, ?_⟩
  rintro m x1 gl ⟨a0, a1, a2, a3, a4⟩
  unfold wp_X7_count
  rw [r3 gl a2]
  refine ⟨⟨(by unfold jv_r; omega), (by unfold jv_r; omega)⟩, fun h => ?_, fun h => ⟨by omega, ?_⟩⟩
  · have e : x1 = n := by omega
    rw [e] at a3
    exact hQ gl a2 a3
  · rw [r7 gl a2]
    have out : ∀ gm, FR gm → iv_RC (G1 x1 (iv_fold G1 x1.toNat s0)) gm → wB_X6_search_112 (fun x1' g' => ∃ n', n' < m ∧ 0 ≤ x1' ∧ x1' ≤ n ∧ FR g' ∧ iv_RC (iv_fold G1 x1'.toNat s0) g' ∧ n' = (n - x1').toNat) x1 gm := by
      intro gm hf hr v ev
      refine ⟨(n - v).toNat, by omega, by omega, by omega, hf, ?_, rfl⟩
      have e : v.toNat = x1.toNat + 1 := by omega
      rw [e]; show iv_RC (G1 ((x1.toNat : Nat) : Int) (iv_fold G1 x1.toNat s0)) gm
      rw [nn x1 a0]; exact hr
    generalize hs1 : iv_fold G1 x1.toNat s0 = s1 at a3 out
    have o1 := ho x1 a0 h
    have e1 : ((0 : Int) + 1).toNat = 1 := rfl
    refine u_canStand (fj2 gl a2) (fj3 gl a2) (by omega) (by omega) o1.1 (by rw [r3 gl a2]; exact o1.2) (fun x x0 x1 => by omega) ?_ ?_
    · rw [r132 gl a2, r129 gl a2]
      intro hf1 _
      refine ⟨(by unfold jv_r; omega), fun _ => ?_, fun h9 => absurd h9 (by omega)⟩
      refine ⟨fun m2' x2 gm => 0 ≤ x2 ∧ x2 ≤ n ∧ FR gm ∧ gm 12 0 = g 7 x1 ∧ iv_RC (iv_fold (G2 x1) x2.toNat s1) gm ∧ m2' = (n - x2).toNat, ⟨_, by omega, m2, fup gl _ _ a2, jv_up_e rfl rfl, cup gl _ _ _ a3, rfl⟩, ?_⟩
      rintro m2' x2 gm ⟨b0, b1, b2, b5, b3, b4⟩
      rw [r3 gm b2]
      refine ⟨⟨(by unfold jv_r; omega), (by unfold jv_r; omega)⟩, fun hh => ?_, fun hh => ⟨by omega, ?_⟩⟩
      · have e : x2 = n := by omega
        rw [e] at b3
        exact out gm b2 b3
      · rw [r7 gm b2]
        have out2 : ∀ gn, FR gn → gn 12 0 = g 7 x1 → iv_RC (G2 x1 x2 (iv_fold (G2 x1) x2.toNat s1)) gn → wB_X6_search_106 (fun x1' g' => ∃ n', n' < m2' ∧ 0 ≤ x1' ∧ x1' ≤ n ∧ FR g' ∧ g' 12 0 = g 7 x1 ∧ iv_RC (iv_fold (G2 x1) x1'.toNat s1) g' ∧ n' = (n - x1').toNat) x2 gn := by
          intro gn hf h12 hr v ev
          refine ⟨(n - v).toNat, by omega, by omega, by omega, hf, h12, ?_, rfl⟩
          have e : v.toNat = x2.toNat + 1 := by omega
          rw [e]; show iv_RC (G2 x1 ((x2.toNat : Nat) : Int) (iv_fold (G2 x1) x2.toNat s1)) gn
          rw [nn x2 b0]; exact hr
        generalize hs2 : iv_fold (G2 x1) x2.toNat s1 = s2 at b3 out2
        have o2 := ho x2 b0 hh
        have e2 : ((1 : Int) + 1).toNat = 2 := rfl
        refine u_canStand (fj2 gm b2) (fj3 gm b2) (by omega) (by omega) o2.1 (by rw [r3 gm b2]; exact o2.2) (fun x x0 x9 => by
            have e : x = 0 := by omega
            rw [e, b5, r3 gm b2]; exact o1) ?_ ?_
        · rw [r132 gm b2, r129 gm b2]
          intro hf2 _
          refine ⟨(by unfold jv_r; omega), fun _ => ?_, fun h9 => absurd h9 (by omega)⟩
          refine ⟨fun m3' x3 gn => 0 ≤ x3 ∧ x3 ≤ n ∧ FR gn ∧ gn 12 0 = g 7 x1 ∧ gn 12 1 = g 7 x2 ∧ iv_RC (iv_fold (G3 x1 x2) x3.toNat s2) gn ∧ m3' = (n - x3).toNat, ⟨_, by omega, m2, fup gm _ _ b2, by rw [jv_up_n (by omega)]; exact b5, jv_up_e rfl rfl, cup gm _ _ _ b3, rfl⟩, ?_⟩
          rintro m3' x3 gn ⟨d0, d1, d2, d5, d6, d3, d4⟩
          rw [r3 gn d2]
          refine ⟨⟨(by unfold jv_r; omega), (by unfold jv_r; omega)⟩, fun h3' => ?_, fun h3' => ⟨by omega, ?_⟩⟩
          · have e : x3 = n := by omega
            rw [e] at d3
            exact out2 gn d2 d5 d3
          · rw [r7 gn d2]
            have out3 : ∀ go, FR go → go 12 0 = g 7 x1 → go 12 1 = g 7 x2 → iv_RC (G3 x1 x2 x3 (iv_fold (G3 x1 x2) x3.toNat s2)) go → wB_X6_search_100 (fun x1' g' => ∃ n', n' < m3' ∧ 0 ≤ x1' ∧ x1' ≤ n ∧ FR g' ∧ g' 12 0 = g 7 x1 ∧ g' 12 1 = g 7 x2 ∧ iv_RC (iv_fold (G3 x1 x2) x1'.toNat s2) g' ∧ n' = (n - x1').toNat) x3 go := by
              intro go hf h12 h13 hr v ev
              refine ⟨(n - v).toNat, by omega, by omega, by omega, hf, h12, h13, ?_, rfl⟩
              have e : v.toNat = x3.toNat + 1 := by omega
              rw [e]; show iv_RC (G3 x1 x2 ((x3.toNat : Nat) : Int) (iv_fold (G3 x1 x2) x3.toNat s2)) go
              rw [nn x3 d0]; exact hr
            generalize hs3 : iv_fold (G3 x1 x2) x3.toNat s2 = s3 at d3 out3
            have o3 := ho x3 d0 h3'
            have e3 : ((2 : Int) + 1).toNat = 3 := rfl
            have q0 : jv_up gn 12 2 (g 7 x3) 12 0 = g 7 x1 := by rw [jv_up_n (by omega)]; exact d5
            have q1 : jv_up gn 12 2 (g 7 x3) 12 1 = g 7 x2 := by rw [jv_up_n (by omega)]; exact d6
            have q2 : jv_up gn 12 2 (g 7 x3) 12 2 = g 7 x3 := jv_up_e rfl rfl
            have fo := fup gn 2 (g 7 x3) d2
            have co := cup gn 2 (g 7 x3) s3 d3
            refine u_canStand (fj2 gn d2) (fj3 gn d2) (by omega) (by omega) o3.1 (by rw [r3 gn d2]; exact o3.2) (fun x x0 x1' => by
              have e : x = 0 ∨ x = 1 := by omega
              rcases e with e | e
              · rw [e, d5, r3 gn d2]; exact o1
              · rw [e, d6, r3 gn d2]; exact o2) ?_ ?_
            · rw [r132 gn d2, r129 gn d2, r3 gn d2, e3]
              intro hf3 hbg
              have hY : ∀ k, 0 ≤ k → k < 3 → g 128 (iv_col (g 129) (g 7 x1) (g 7 x2) (g 7 x3) k) ≠ 0 := fun k k0 k1 => by
                have hk := hbg k k0 k1
                rw [iv_pc_v.2.2, q0, q1, q2] at hk
                have wa := hw _ o1.1 o1.2
                have wb := hw _ o2.1 o2.2
                have wc := hw _ o3.1 o3.2
                have hr := @iv_col_r (g 129) (g 7 x1) (g 7 x2) (g 7 x3) k ⟨wa.1, wa.2.1⟩ ⟨wb.1, wb.2.1⟩ ⟨wc.1, wc.2.1⟩
                exact iv_isword h2 hr.1 hr.2 hk
              have hww := iv_wgt_r h2 o1.1 o1.2 o2.1 o2.2 o3.1 o3.2 hY
              have hv : iv_val (g 132) (g 129) (g 128) (g 7 x1) (g 7 x2) (g 7 x3) = 1 := iv_val_mk hf1 hf2 hf3 hY
              refine ⟨(by unfold jv_r; omega), fun h9 => absurd h9 (by omega), fun _ => ?_⟩
              refine u_weightOfSquare (fj2 _ fo) (fun x x0 x1' => ?_) ?_ ?_
              · rw [r3 _ fo]
                have e : x = 0 ∨ x = 1 ∨ x = 2 := by omega
                rcases e with e | e | e
                · rw [e, q0]; exact o1
                · rw [e, q1]; exact o2
                · rw [e, q2]; exact o3
              · rw [r128 _ fo, r129 _ fo, q0, q1, q2]; exact hY
              · rw [r128 _ fo, r129 _ fo, r130 _ fo, q0, q1, q2]
                refine u_keep (by unfold jv_r; omega) (by have := co.2.2.2; unfold jv_r; omega) (fun g' t1 t2 t3 t4 => ?_)
                have e2 : G3 x1 x2 x3 s3 = (s3.1 + 1, if s3.2.1 < iv_wgt (g 129) (g 128) (g 130) (g 7 x1) (g 7 x2) (g 7 x3) then (iv_wgt (g 129) (g 128) (g 130) (g 7 x1) (g 7 x2) (g 7 x3), g 7 x1, g 7 x2, g 7 x3) else s3.2) := by show iv_keep _ _ _ _ _ s3 = _; unfold iv_keep; rw [if_pos hv]
                have g12 : g' 12 = jv_up gn 12 2 (g 7 x3) 12 := t1 12 (by omega) (by omega)
                refine out3 g' (fun i p1 p2 p3 => by rw [t1 i p1 p3]; exact fo i p1 p2 p3) (by rw [g12]; exact q0) (by rw [g12]; exact q1) ?_
                rw [e2]
                obtain ⟨c1, c2, c3, c4⟩ := co
                rw [c1] at t2
                rw [c2] at t3 t4
                rw [q0, q1, q2] at t4
                by_cases hlt : s3.2.1 < iv_wgt (g 129) (g 128) (g 130) (g 7 x1) (g 7 x2) (g 7 x3)
                · rw [if_pos hlt]
                  obtain ⟨y1, y2⟩ := t4 hlt
                  exact ⟨t2, y1, fun _ => y2, by rw [y1]; omega⟩
                · rw [if_neg hlt]
                  obtain ⟨y1, y2⟩ := t3 (by omega)
                  exact ⟨t2, y1, fun h9 => by rw [y2]; exact c3 h9, by rw [y1, ← c2]; omega⟩
            · rw [r132 gn d2, r129 gn d2, r3 gn d2, e3]
              intro hN
              refine ⟨(by unfold jv_r; omega), fun _ => ?_, fun h9 => absurd rfl h9⟩
              refine out3 _ fo q0 q1 ?_
              have e2 : G3 x1 x2 x3 s3 = s3 := iv_keep_no (by
                rcases hN with hN | ⟨k, k0, k1, hk⟩
                · exact iv_val_no3 hN
                · rw [iv_pc_v.2.2, q0, q1, q2] at hk
                  exact iv_val_noc k0 k1 (iv_prune h2 o1 o2 o3 (Or.inr (Or.inr hk))))
              rw [e2]; exact co
        · rw [r132 gm b2, r129 gm b2, r3 gm b2, e2]
          intro hN
          refine ⟨(by unfold jv_r; omega), fun h9 => absurd rfl h9, fun _ => ?_⟩
          have q0 : jv_up gm 12 1 (g 7 x2) 12 0 = g 7 x1 := by rw [jv_up_n (by omega)]; exact b5
          have q1 : jv_up gm 12 1 (g 7 x2) 12 1 = g 7 x2 := jv_up_e rfl rfl
          refine out2 _ (fup gm _ _ b2) q0 ?_
          have e2 : G2 x1 x2 s2 = s2 := iv_fold_id (fun i i0 i1 s => iv_keep_no (by
            have o3 := ho i i0 (by omega)
            rcases hN with hN | ⟨k, k0, k1, hk⟩
            · exact iv_val_no2 hN
            · rw [iv_pc_v.2.1, q0, q1] at hk
              exact iv_val_noc k0 k1 (iv_prune h2 o1 o2 o3 (Or.inr (Or.inl hk)))))
          rw [e2]; exact cup gm _ _ _ b3
    · rw [r132 gl a2, r129 gl a2, r3 gl a2, e1]
      intro hN
      refine ⟨(by unfold jv_r; omega), fun h9 => absurd rfl h9, fun _ => ?_⟩
      have q0 : jv_up gl 12 0 (g 7 x1) 12 0 = g 7 x1 := jv_up_e rfl rfl
      refine out _ (fup gl _ _ a2) ?_
      have e2 : G1 x1 s1 = s1 := iv_fold_id (fun j j0 j1 s => iv_fold_id (fun i i0 i1 s => iv_keep_no (by
        have o2 := ho j j0 (by omega)
        have o3 := ho i i0 (by omega)
        rcases hN with hN | ⟨k, k0, k1, hk⟩
        · exact iv_val_no1 hN
        · rw [iv_pc_v.1, q0] at hk
          exact iv_val_noc k0 k1 (iv_prune h2 o1 o2 o3 (Or.inl hk)))))
      rw [e2]; exact cup gl _ _ _ a3

