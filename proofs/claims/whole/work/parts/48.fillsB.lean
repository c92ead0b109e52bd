theorem iv_F_r {fr lc bl wr od : Int → Int} {n : Int} (n0 : 0 ≤ n) (n1 : n ≤ 30) (ho : ∀ i, 0 ≤ i → i < n → 0 ≤ od i ∧ od i < n) (hw : ∀ a b c, 0 ≤ a → a < n → 0 ≤ b → b < n → 0 ≤ c → c < n → iv_val fr lc bl a b c = 1 → 0 ≤ iv_wgt lc bl wr a b c ∧ iv_wgt lc bl wr a b c ≤ 594) :
    0 ≤ (iv_F fr lc bl wr od n.toNat).1 ∧ (iv_F fr lc bl wr od n.toNat).1 ≤ 27000 ∧ -1 ≤ (iv_F fr lc bl wr od n.toNat).2.1 ∧ (iv_F fr lc bl wr od n.toNat).2.1 ≤ 594 ∧ ((iv_F fr lc bl wr od n.toNat).2.1 ≠ -1 → (0 ≤ (iv_F fr lc bl wr od n.toNat).2.2.1 ∧ (iv_F fr lc bl wr od n.toNat).2.2.1 < n) ∧ (0 ≤ (iv_F fr lc bl wr od n.toNat).2.2.2.1 ∧ (iv_F fr lc bl wr od n.toNat).2.2.2.1 < n) ∧ (0 ≤ (iv_F fr lc bl wr od n.toNat).2.2.2.2 ∧ (iv_F fr lc bl wr od n.toNat).2.2.2.2 < n) ∧ iv_val fr lc bl (iv_F fr lc bl wr od n.toNat).2.2.1 (iv_F fr lc bl wr od n.toNat).2.2.2.1 (iv_F fr lc bl wr od n.toNat).2.2.2.2 = 1) := by
  let P : Int → iv_S → Prop := fun b s => 0 ≤ s.1 ∧ s.1 ≤ b ∧ -1 ≤ s.2.1 ∧ s.2.1 ≤ 594 ∧ (s.2.1 ≠ -1 → (0 ≤ s.2.2.1 ∧ s.2.2.1 < n) ∧ (0 ≤ s.2.2.2.1 ∧ s.2.2.2.1 < n) ∧ (0 ≤ s.2.2.2.2 ∧ s.2.2.2.2 < n) ∧ iv_val fr lc bl s.2.2.1 s.2.2.2.1 s.2.2.2.2 = 1)
  have en : ((n.toNat : Nat) : Int) = n := by omega
  have mono : ∀ (b b' : Int) (s : iv_S), b ≤ b' → P b s → P b' s := fun b b' s h hp => ⟨hp.1, by have := hp.2.1; omega, hp.2.2⟩
  have h3 : ∀ k j i, 0 ≤ k → k < n → 0 ≤ j → j < n → 0 ≤ i → i < n → ∀ b s, P b s → P (b + 1) (iv_g3 fr lc bl wr od k j i s) := by
    intro k j i k0 k1 j0 j1 i0 i1 b s hp
    obtain ⟨p1, p2, p3, p4, p5⟩ := hp
    unfold iv_g3 iv_keep
    by_cases hv : iv_val fr lc bl (od k) (od j) (od i) = 1
    · rw [if_pos hv]
      have hww := hw _ _ _ (ho k k0 k1).1 (ho k k0 k1).2 (ho j j0 j1).1 (ho j j0 j1).2 (ho i i0 i1).1 (ho i i0 i1).2 hv
      by_cases hlt : s.2.1 < iv_wgt lc bl wr (od k) (od j) (od i)
      · rw [if_pos hlt]
        refine ⟨by show 0 ≤ s.1 + 1; omega, by show s.1 + 1 ≤ b + 1; omega, by show -1 ≤ iv_wgt lc bl wr (od k) (od j) (od i); omega, hww.2, fun _ => ⟨ho k k0 k1, ho j j0 j1, ho i i0 i1, hv⟩⟩
      · rw [if_neg hlt]
        exact ⟨by show 0 ≤ s.1 + 1; omega, by show s.1 + 1 ≤ b + 1; omega, p3, p4, p5⟩
    · rw [if_neg hv]
      exact ⟨p1, by omega, p3, p4, p5⟩
  have h2 : ∀ k j, 0 ≤ k → k < n → 0 ≤ j → j < n → ∀ b s, P b s → P (b + 30) (iv_g2 fr lc bl wr od n.toNat k j s) := by
    intro k j k0 k1 j0 j1 b s hp
    have := @iv_fold_inv (iv_g3 fr lc bl wr od k j) (fun i s => P (b + i) s) n.toNat s (by rw [Int.add_zero]; exact hp) (fun i i0 i1 s hs => by have := h3 k j i k0 k1 j0 j1 i0 (by omega) (b + i) s hs; rw [Int.add_assoc] at this; exact this)
    exact mono _ _ _ (by omega) this
  have h1 : ∀ k, 0 ≤ k → k < n → ∀ b s, P b s → P (b + 900) (iv_g1 fr lc bl wr od n.toNat k s) := by
    intro k k0 k1 b s hp
    have := @iv_fold_inv (iv_g2 fr lc bl wr od n.toNat k) (fun j s => P (b + 30 * j) s) n.toNat s (by rw [Int.mul_zero, Int.add_zero]; exact hp) (fun j j0 j1 s hs => by have := h2 k j k0 k1 j0 (by omega) (b + 30 * j) s hs; exact mono _ _ _ (by omega) this)
    exact mono _ _ _ (by omega) this
  have h0 : P 27000 (iv_F fr lc bl wr od n.toNat) := by
    have := @iv_fold_inv (iv_g1 fr lc bl wr od n.toNat) (fun k s => P (900 * k) s) n.toNat (0, -1, 0, 0, 0) ⟨by decide, by decide, by decide, by decide, fun h => absurd rfl h⟩ (fun k k0 k1 s hs => by have := h1 k k0 (by omega) (900 * k) s hs; exact mono _ _ _ (by omega) this)
    exact mono _ _ _ (by omega) this
  exact h0
def iv_RM (s : iv_S) (gl : jv_Mem) : Prop := gl 126 8 = s.1 ∧ gl 126 9 = s.2.1 ∧ (s.2.1 ≠ -1 → gl 133 0 = s.2.2.1 ∧ gl 133 1 = s.2.2.2.1 ∧ gl 133 2 = s.2.2.2.2) ∧ -1 ≤ gl 126 9 ∧ gl 126 9 ≤ 594
theorem iv_wgt_r {g : jv_Mem} (h2 : iJ2 g) {a b c : Int} (a0 : 0 ≤ a) (a1 : a < g 3 6) (b0 : 0 ≤ b) (b1 : b < g 3 6) (c0 : 0 ≤ c) (c1 : c < g 3 6) (hv : ∀ k, 0 ≤ k → k < 3 → g 128 (iv_col (g 129) a b c k) ≠ 0) : 0 ≤ iv_wgt (g 129) (g 128) (g 130) a b c ∧ iv_wgt (g 129) (g 128) (g 130) a b c ≤ 594 := by
  obtain ⟨m1, m2, m3, hw, hb, -, -, -, -⟩ := h2
  have wa := hw a a0 a1
  have wb := hw b b0 b1
  have wc := hw c c0 c1
  have hk : ∀ k, 0 ≤ k → k < 3 → 0 ≤ g 130 (g 128 (iv_col (g 129) a b c k) - 1) ∧ g 130 (g 128 (iv_col (g 129) a b c k) - 1) ≤ 99 := fun k k0 k1 => by
    have hr := @iv_col_r (g 129) a b c k ⟨wa.1, wa.2.1⟩ ⟨wb.1, wb.2.1⟩ ⟨wc.1, wc.2.1⟩
    have h9 := hb _ hr.1 hr.2
    have h10 := hv k k0 k1
    have := hw (g 128 (iv_col (g 129) a b c k) - 1) (by omega) (by omega)
    omega
  have h0 := hk 0 (by omega) (by omega)
  have h1 := hk 1 (by omega) (by omega)
  have h2 := hk 2 (by omega) (by omega)
  unfold iv_wgt
  omega
theorem iv_F_rJ {g : jv_Mem} (h2 : iJ2 g) (fr : Int → Int) :
    0 ≤ (iv_F fr (g 129) (g 128) (g 130) (g 7) (g 3 6).toNat).1 ∧ (iv_F fr (g 129) (g 128) (g 130) (g 7) (g 3 6).toNat).1 ≤ 27000 ∧ -1 ≤ (iv_F fr (g 129) (g 128) (g 130) (g 7) (g 3 6).toNat).2.1 ∧ (iv_F fr (g 129) (g 128) (g 130) (g 7) (g 3 6).toNat).2.1 ≤ 594 ∧ ((iv_F fr (g 129) (g 128) (g 130) (g 7) (g 3 6).toNat).2.1 ≠ -1 → (0 ≤ (iv_F fr (g 129) (g 128) (g 130) (g 7) (g 3 6).toNat).2.2.1 ∧ (iv_F fr (g 129) (g 128) (g 130) (g 7) (g 3 6).toNat).2.2.1 < g 3 6) ∧ (0 ≤ (iv_F fr (g 129) (g 128) (g 130) (g 7) (g 3 6).toNat).2.2.2.1 ∧ (iv_F fr (g 129) (g 128) (g 130) (g 7) (g 3 6).toNat).2.2.2.1 < g 3 6) ∧ (0 ≤ (iv_F fr (g 129) (g 128) (g 130) (g 7) (g 3 6).toNat).2.2.2.2 ∧ (iv_F fr (g 129) (g 128) (g 130) (g 7) (g 3 6).toNat).2.2.2.2 < g 3 6) ∧ iv_val fr (g 129) (g 128) (iv_F fr (g 129) (g 128) (g 130) (g 7) (g 3 6).toNat).2.2.1 (iv_F fr (g 129) (g 128) (g 130) (g 7) (g 3 6).toNat).2.2.2.1 (iv_F fr (g 129) (g 128) (g 130) (g 7) (g 3 6).toNat).2.2.2.2 = 1) :=
  iv_F_r h2.2.1 h2.2.2.1 (fun i i0 i1 => h2.2.2.2.2.2.2.1 i i0 i1) (fun a b c a0 a1 b0 b1 c0 c1 hv => iv_wgt_r h2 a0 a1 b0 b1 c0 c1 (iv_val_yes hv).2.2.2)
theorem u_findsFills {Q : jv_Mem → Prop} {g : jv_Mem} (h2 : iJ2 g) (h3 : iJ3 g) (hQ : ∀ g' : jv_Mem, (∀ i, i ≠ 126 → i ≠ 131 → i ≠ 133 → g' i = g i) → (∀ k, k ≠ 8 → k ≠ 9 → g' 126 k = g 126 k) → iv_RM (iv_F (g 132) (g 129) (g 128) (g 130) (g 7) (g 3 6).toNat) g' → Q g') : wp_X9_findsFills Q g := by
  obtain ⟨m1, m2, m3, hw, hb, -, ho, -, -⟩ := id h2
  unfold wp_X9_findsFills
  refine u_orders h2 (fun ga c1 c2 => ?_)
  rintro gb rfl gc ec
  have gcr : ∀ i, i ≠ 126 → i ≠ 131 → gc i = g i := fun i p1 p2 => by rw [ec, jv_up_row p1, jv_up_row p1]; exact funext fun k => c1 i k p2
  have gck : ∀ k, k ≠ 8 → k ≠ 9 → gc 126 k = g 126 k := fun k p1 p2 => by rw [ec, jv_up_n (by omega), jv_up_n (by omega)]; exact c1 126 k (by omega)
  have gc8 : gc 126 8 = 0 := by rw [ec, jv_up_n (by omega), jv_up_e rfl rfl]
  have gc9 : gc 126 9 = -1 := by rw [ec, jv_up_e rfl rfl]
  have gco : ∀ i, 0 ≤ i → i < g 3 6 → gc 131 i = g 7 i := fun i i0 i1 => by rw [ec, jv_up_n (by omega), jv_up_n (by omega)]; exact c2 i i0 i1
  clear ec c1 c2
  let n := g 3 6
  let N := (g 3 6).toNat
  let s0 : iv_S := (0, -1, 0, 0, 0)
  let G1 := iv_g1 (g 132) (g 129) (g 128) (g 130) (g 7) N
  let G2 := iv_g2 (g 132) (g 129) (g 128) (g 130) (g 7) N
  let G3 := iv_g3 (g 132) (g 129) (g 128) (g 130) (g 7)
  let FR : jv_Mem → Prop := fun gl => (∀ i, i ≠ 126 → i ≠ 133 → gl i = gc i) ∧ (∀ k, k ≠ 8 → k ≠ 9 → gl 126 k = gc 126 k)
  have fj2 : ∀ gl, FR gl → iJ2 gl := fun gl hf => h2.fr (fun i k q => by
    unfold f2 at q
    by_cases e : i = 126
    · subst e; rw [hf.2 k (by omega) (by omega), gck k (by omega) (by omega)]
    · rw [hf.1 i e (by omega), gcr i e (by omega)])
  have frow : ∀ gl, FR gl → ∀ i, i ≠ 126 → i ≠ 131 → i ≠ 133 → gl i = g i := fun gl hf i p1 p2 p3 => by rw [hf.1 i p1 p3, gcr i p1 p2]
  have f126 : ∀ gl, FR gl → gl 126 2 = n := fun gl hf => by rw [hf.2 2 (by omega) (by omega), gck 2 (by omega) (by omega)]; exact m1
  have f131 : ∀ gl, FR gl → ∀ i, 0 ≤ i → i < n → gl 131 i = g 7 i := fun gl hf i i0 i1 => by rw [hf.1 131 (by omega) (by omega)]; exact gco i i0 i1
  have ffix : ∀ gl, FR gl → ∀ c, 0 ≤ c → c < 9 → jv_r (gl 132 c) := fun gl hf c c0 c1 => by
    rw [frow gl hf 132 (by omega) (by omega) (by omega)]
    have := h3 c c0 c1
    unfold jv_r; omega
  have fit : ∀ (gl : jv_Mem), FR gl → ∀ (i r : Int) (Q : Int → jv_Mem → Prop), 0 ≤ i → i < n → 0 ≤ r → r < 3 → Q (iv_fk (g 132) (g 129) r (g 7 i) 3) gl → wp_X9_fitsRow (gl 131 i) r Q gl := by
    intro gl hf i r Q i0 i1 r0 r1 hq
    have hoi := ho i i0 i1
    have hwi := hw _ hoi.1 hoi.2
    have e129 := frow gl hf 129 (by omega) (by omega) (by omega)
    have e132 := frow gl hf 132 (by omega) (by omega) (by omega)
    rw [f131 gl hf i i0 i1]
    refine u_fitsRow hoi.1 (by omega) (by rw [e129]; exact ⟨hwi.1, hwi.2.1⟩) r0 r1 (ffix gl hf) ?_
    rw [e129, e132]; exact hq
  have nn : ∀ x : Int, 0 ≤ x → ((x.toNat : Nat) : Int) = x := fun x h => by omega
  refine ⟨fun m x1 gl => 0 ≤ x1 ∧ x1 ≤ n ∧ FR gl ∧ iv_RM (iv_fold G1 x1.toNat s0) gl ∧ m = (n - x1).toNat, ⟨_, by omega, m2, ⟨fun _ _ _ => rfl, fun _ _ _ => rfl⟩, ⟨gc8, gc9, fun h => absurd rfl h, by omega, by omega⟩, rfl⟩, ?_⟩
  rintro m x1 gl ⟨a0, a1, a2, a3, a4⟩
  rw [f126 gl a2]
  refine ⟨⟨(by unfold jv_r; omega), (by unfold jv_r; omega)⟩, fun h => ?_, fun h => ?_⟩
  · have e : x1 = n := by omega
    rw [e] at a3
    exact hQ gl (frow gl a2) (fun k p1 p2 => by rw [a2.2 k p1 p2, gck k p1 p2]) a3
  · have out : ∀ gm, FR gm → iv_RM (G1 x1 (iv_fold G1 x1.toNat s0)) gm → wB_X9_findsFills_120 (fun x1' g' => ∃ n', n' < m ∧ 0 ≤ x1' ∧ x1' ≤ n ∧ FR g' ∧ iv_RM (iv_fold G1 x1'.toNat s0) g' ∧ n' = (n - x1').toNat) x1 gm := by
      intro gm hf hr v ev
      refine ⟨(n - v).toNat, by omega, by omega, by omega, hf, ?_, rfl⟩
      have e : v.toNat = x1.toNat + 1 := by omega
      rw [e]; show iv_RM (G1 ((x1.toNat : Nat) : Int) (iv_fold G1 x1.toNat s0)) gm
      rw [nn x1 a0]; exact hr
    generalize hs1 : iv_fold G1 x1.toNat s0 = s1 at a3 out
    refine ⟨fun m2' x2 gm => 0 ≤ x2 ∧ x2 ≤ n ∧ FR gm ∧ iv_RM (iv_fold (G2 x1) x2.toNat s1) gm ∧ m2' = (n - x2).toNat, ⟨_, by omega, m2, a2, a3, rfl⟩, ?_⟩
    rintro m2' x2 gm ⟨b0, b1, b2, b3, b4⟩
    rw [f126 gm b2]
    refine ⟨⟨(by unfold jv_r; omega), (by unfold jv_r; omega)⟩, fun hh => ?_, fun hh => ⟨by omega, ?_⟩⟩
    · have e : x2 = n := by omega
      rw [e] at b3
      exact out gm b2 b3
    · refine fit gm b2 x1 0 _ a0 h (by omega) (by omega) ?_
      have f01 := @iv_fk_01 (g 132) (g 129) 0 (g 7 x1) 3
      refine ⟨(by unfold jv_r; omega), fun hz => ?_, fun hz => ?_⟩
      · refine out gm b2 ?_
        have id2 : ∀ j : Int, ∀ s, G2 x1 j s = s := fun j s => iv_fold_id (fun i _ _ s => iv_keep_no (iv_val_no1 (by omega)))
        have e1 : iv_fold (G2 x1) x2.toNat s1 = s1 := iv_fold_id (fun i _ _ s => id2 i s)
        have e2 : G1 x1 s1 = s1 := iv_fold_id (fun i _ _ s => id2 i s)
        rw [e1] at b3; rw [e2]; exact b3
      · have out2 : ∀ gn, FR gn → iv_RM (G2 x1 x2 (iv_fold (G2 x1) x2.toNat s1)) gn → wB_X9_findsFills_114 (fun x1' g' => ∃ n', n' < m2' ∧ 0 ≤ x1' ∧ x1' ≤ n ∧ FR g' ∧ iv_RM (iv_fold (G2 x1) x1'.toNat s1) g' ∧ n' = (n - x1').toNat) x2 gn := by
          intro gn hf hr v ev
          refine ⟨(n - v).toNat, by omega, by omega, by omega, hf, ?_, rfl⟩
          have e : v.toNat = x2.toNat + 1 := by omega
          rw [e]; show iv_RM (G2 x1 ((x2.toNat : Nat) : Int) (iv_fold (G2 x1) x2.toNat s1)) gn
          rw [nn x2 b0]; exact hr
        generalize hs2 : iv_fold (G2 x1) x2.toNat s1 = s2 at b3 out2
        refine ⟨fun m3' x3 gn => 0 ≤ x3 ∧ x3 ≤ n ∧ FR gn ∧ iv_RM (iv_fold (G3 x1 x2) x3.toNat s2) gn ∧ m3' = (n - x3).toNat, ⟨_, by omega, m2, b2, b3, rfl⟩, ?_⟩
        rintro m3' x3 gn ⟨d0, d1, d2, d3, d4⟩
        rw [f126 gn d2]
        refine ⟨⟨(by unfold jv_r; omega), (by unfold jv_r; omega)⟩, fun h3' => ?_, fun h3' => ⟨by omega, ?_⟩⟩
        · have e : x3 = n := by omega
          rw [e] at d3
          exact out2 gn d2 d3
        · refine fit gn d2 x2 1 _ b0 hh (by omega) (by omega) ?_
          have f02 := @iv_fk_01 (g 132) (g 129) 1 (g 7 x2) 3
          refine ⟨(by unfold jv_r; omega), fun hz2 => ?_, fun hz2 => ⟨by omega, ?_⟩⟩
          · refine out2 gn d2 ?_
            have e1 : iv_fold (G3 x1 x2) x3.toNat s2 = s2 := iv_fold_id (fun i _ _ s => iv_keep_no (iv_val_no2 (by omega)))
            have e2 : G2 x1 x2 s2 = s2 := iv_fold_id (fun i _ _ s => iv_keep_no (iv_val_no2 (by omega)))
            rw [e1] at d3; rw [e2]; exact d3
          · refine fit gn d2 x3 2 _ d0 h3' (by omega) (by omega) ?_
            have f03 := @iv_fk_01 (g 132) (g 129) 2 (g 7 x3) 3
            have out3 : ∀ go, FR go → iv_RM (G3 x1 x2 x3 (iv_fold (G3 x1 x2) x3.toNat s2)) go → wB_X9_findsFills_108 (fun x1' g' => ∃ n', n' < m3' ∧ 0 ≤ x1' ∧ x1' ≤ n ∧ FR g' ∧ iv_RM (iv_fold (G3 x1 x2) x1'.toNat s2) g' ∧ n' = (n - x1').toNat) x3 go := by
              intro go hf hr v ev
              refine ⟨(n - v).toNat, by omega, by omega, by omega, hf, ?_, rfl⟩
              have e : v.toNat = x3.toNat + 1 := by omega
              rw [e]; show iv_RM (G3 x1 x2 ((x3.toNat : Nat) : Int) (iv_fold (G3 x1 x2) x3.toNat s2)) go
              rw [nn x3 d0]; exact hr
            generalize hs3 : iv_fold (G3 x1 x2) x3.toNat s2 = s3 at d3 out3
            refine ⟨(by unfold jv_r; omega), fun hz3 => ?_, fun hz3 => ⟨by omega, by omega, by omega, ?_⟩⟩
            · refine out3 gn d2 ?_
              have e2 : G3 x1 x2 x3 s3 = s3 := iv_keep_no (iv_val_no3 (by omega))
              rw [e2]; exact d3
            · rw [f131 gn d2 x1 a0 h, f131 gn d2 x2 b0 hh, f131 gn d2 x3 d0 h3']
              have o1 := ho x1 a0 h
              have o2 := ho x2 b0 hh
              have o3 := ho x3 d0 h3'
              have e3 := frow gn d2 3 (by omega) (by omega) (by omega)
              have e128 := frow gn d2 128 (by omega) (by omega) (by omega)
              have e129 := frow gn d2 129 (by omega) (by omega) (by omega)
              have e130 := frow gn d2 130 (by omega) (by omega) (by omega)
              have hrb : jv_r (gn 126 9) := by have := d3.2.2.2; unfold jv_r; omega
              refine u_tries (fj2 gn d2) (by rw [e3]; exact o1) (by rw [e3]; exact o2) (by rw [e3]; exact o3) hrb (fun hN => ?_) (fun hY g' r1 r2 r3 r4 r5 => ?_)
              · rw [e128, e129] at hN
                obtain ⟨k, k0, k1, hk⟩ := hN
                refine out3 gn d2 ?_
                have e2 : G3 x1 x2 x3 s3 = s3 := iv_keep_no (iv_val_noc k0 k1 hk)
                rw [e2]; exact d3
              · rw [e128, e129] at hY
                rw [e128, e129, e130] at r4 r5
                have hv : iv_val (g 132) (g 129) (g 128) (g 7 x1) (g 7 x2) (g 7 x3) = 1 := iv_val_mk (by omega) (by omega) (by omega) hY
                refine out3 g' ⟨fun i p1 p2 => by rw [r1 i p1 p2, d2.1 i p1 p2], fun k p1 p2 => by rw [r2 k p1 p2, d2.2 k p1 p2]⟩ ?_
                have e2 : G3 x1 x2 x3 s3 = (s3.1 + 1, if s3.2.1 < iv_wgt (g 129) (g 128) (g 130) (g 7 x1) (g 7 x2) (g 7 x3) then (iv_wgt (g 129) (g 128) (g 130) (g 7 x1) (g 7 x2) (g 7 x3), g 7 x1, g 7 x2, g 7 x3) else s3.2) := by show iv_keep _ _ _ _ _ s3 = _; unfold iv_keep; rw [if_pos hv]
                rw [e2]
                obtain ⟨t1, t2, t3, t4⟩ := d3
                have hww := iv_wgt_r h2 o1.1 o1.2 o2.1 o2.2 o3.1 o3.2 hY
                rw [t1] at r3
                rw [t2] at r4 r5
                by_cases hlt : s3.2.1 < iv_wgt (g 129) (g 128) (g 130) (g 7 x1) (g 7 x2) (g 7 x3)
                · rw [if_pos hlt]
                  obtain ⟨y1, y2⟩ := r5 hlt
                  exact ⟨r3, y1, fun _ => y2, by rw [y1]; omega⟩
                · rw [if_neg hlt]
                  obtain ⟨y1, y2⟩ := r4 (by omega)
                  exact ⟨r3, y1, fun h9 => by rw [y2]; exact t3 h9, by rw [y1]; omega⟩
