/-! the fills -/
theorem iv_F_c {g : jv_Mem} (h2 : iJ2 g) (fr : Int → Int) : ((iv_F fr (g 129) (g 128) (g 130) (g 7) (g 3 6).toNat).2.1 = -1 → (iv_F fr (g 129) (g 128) (g 130) (g 7) (g 3 6).toNat).1 = 0) ∧ ((iv_F fr (g 129) (g 128) (g 130) (g 7) (g 3 6).toNat).2.1 ≠ -1 → 0 < (iv_F fr (g 129) (g 128) (g 130) (g 7) (g 3 6).toNat).1) := by
  let P : Int → iv_S → Prop := fun _ s => 0 ≤ s.1 ∧ -1 ≤ s.2.1 ∧ (s.2.1 = -1 → s.1 = 0) ∧ (s.2.1 ≠ -1 → 0 < s.1)
  have en : (((g 3 6).toNat : Nat) : Int) = g 3 6 := by have := h2.2.1; omega
  have ho := h2.2.2.2.2.2.2.1
  have h3 : ∀ k j i : Int, 0 ≤ k → k < g 3 6 → 0 ≤ j → j < g 3 6 → 0 ≤ i → i < g 3 6 → ∀ (b b' : Int) (s : iv_S), P b s → P b' (iv_g3 fr (g 129) (g 128) (g 130) (g 7) k j i s) := by
    intro k j i k0 k1 j0 j1 i0 i1 b b' s hp
    obtain ⟨p1, p2, p3, p4⟩ := hp
    unfold iv_g3 iv_keep
    by_cases hv : iv_val fr (g 129) (g 128) (g 7 k) (g 7 j) (g 7 i) = 1
    · rw [if_pos hv]
      have hw := iv_wgt_r h2 (ho k k0 k1).1 (ho k k0 k1).2 (ho j j0 j1).1 (ho j j0 j1).2 (ho i i0 i1).1 (ho i i0 i1).2 (iv_val_yes hv).2.2.2
      generalize iv_wgt (g 129) (g 128) (g 130) (g 7 k) (g 7 j) (g 7 i) = w at hw
      by_cases hl : s.2.1 < w
      · rw [if_pos hl]
        show 0 ≤ s.1 + 1 ∧ -1 ≤ w ∧ (w = -1 → s.1 + 1 = 0) ∧ (w ≠ -1 → 0 < s.1 + 1)
        omega
      · rw [if_neg hl]
        show 0 ≤ s.1 + 1 ∧ -1 ≤ s.2.1 ∧ (s.2.1 = -1 → s.1 + 1 = 0) ∧ (s.2.1 ≠ -1 → 0 < s.1 + 1)
        omega
    · rw [if_neg hv]; exact ⟨p1, p2, p3, p4⟩
  have h2' : ∀ k j : Int, 0 ≤ k → k < g 3 6 → 0 ≤ j → j < g 3 6 → ∀ (b b' : Int) (s : iv_S), P b s → P b' (iv_g2 fr (g 129) (g 128) (g 130) (g 7) (g 3 6).toNat k j s) := by
    intro k j k0 k1 j0 j1 b b' s hp
    exact iv_fold_inv (P := P) hp (fun i i0 i1 s hs => h3 k j i k0 k1 j0 j1 i0 (by omega) i (i + 1) s hs)
  have h1 : ∀ k : Int, 0 ≤ k → k < g 3 6 → ∀ (b b' : Int) (s : iv_S), P b s → P b' (iv_g1 fr (g 129) (g 128) (g 130) (g 7) (g 3 6).toNat k s) := by
    intro k k0 k1 b b' s hp
    exact iv_fold_inv (P := P) hp (fun i i0 i1 s hs => h2' k i k0 k1 i0 (by omega) i (i + 1) s hs)
  have h0 : P ((g 3 6).toNat : Nat) (iv_F fr (g 129) (g 128) (g 130) (g 7) (g 3 6).toNat) := by
    unfold iv_F
    refine iv_fold_inv (P := P) ?_ (fun i i0 i1 s hs => h1 i i0 (by omega) i (i + 1) s hs)
    show (0 : Int) ≤ 0 ∧ (-1 : Int) ≤ -1 ∧ ((-1 : Int) = -1 → (0 : Int) = 0) ∧ ((-1 : Int) ≠ -1 → (0 : Int) < 0)
    omega
  exact ⟨h0.2.2.1, h0.2.2.2⟩
/-- the rows and the letters of the best fill -/
def iv_br (g : jv_Mem) (x : Int) : Int := if x = 0 then (iv_Fg g).2.2.1 else if x = 1 then (iv_Fg g).2.2.2.1 else (iv_Fg g).2.2.2.2
def iv_fl (g : jv_Mem) (c : Int) : Int := iv_dg (g 129 (iv_br g (c / 3))) (c % 3)
/-- nothing but the spelled text and the square's own rows has changed -/
def iv_sC (g g' : jv_Mem) : Prop := ∀ i k, ¬ (i = 1 ∧ k = 1) → i ≠ 2 → i ≠ 127 → ¬ (i = 126 ∧ k = 1) → i ≠ 10 → i ≠ 12 → i ≠ 13 → g' i k = g i k
theorem iv_sC.rf {g : jv_Mem} : iv_sC g g := fun _ _ _ _ _ _ _ _ _ => rfl
theorem iv_sC.tr {g g1 g2 : jv_Mem} (h : iv_sC g g1) (h' : iv_sC g1 g2) : iv_sC g g2 := fun i k a b c d e f z => (h' i k a b c d e f z).trans (h i k a b c d e f z)
theorem iv_sC.sp {g g' : jv_Mem} (h : iv_sF g g') : iv_sC g g' := fun i k a b c d _ _ _ => h i k a b c d
theorem iv_sC.se {g g' : jv_Mem} (h : ∀ i, i ≠ 10 → i ≠ 12 → i ≠ 13 → g' i = g i) : iv_sC g g' := fun i k _ _ _ _ e f z => by rw [h i e f z]
theorem iJ.se {x4 : Int} {g g' : jv_Mem} (hI : iJ x4 g) (h : ∀ i, i ≠ 10 → i ≠ 12 → i ≠ 13 → g' i = g i) : iJ x4 g' :=
  hI.fr (by omega) (fun i k z => by rw [h i (by unfold jv_scr at z; omega) (by unfold jv_scr at z; omega) (by unfold jv_scr at z; omega)])
theorem iv_sC.F {g g' : jv_Mem} (h : iv_sC g g') : iv_Fg g' = iv_Fg g := by
  have r : ∀ i, i ≠ 1 → i ≠ 2 → i ≠ 127 → i ≠ 126 → i ≠ 10 → i ≠ 12 → i ≠ 13 → g' i = g i := fun i a b c d e f z => funext fun k => h i k (by omega) b c (by omega) e f z
  unfold iv_Fg
  rw [r 132 (by omega) (by omega) (by omega) (by omega) (by omega) (by omega) (by omega), r 129 (by omega) (by omega) (by omega) (by omega) (by omega) (by omega) (by omega), r 128 (by omega) (by omega) (by omega) (by omega) (by omega) (by omega) (by omega), r 130 (by omega) (by omega) (by omega) (by omega) (by omega) (by omega) (by omega), r 7 (by omega) (by omega) (by omega) (by omega) (by omega) (by omega) (by omega), r 3 (by omega) (by omega) (by omega) (by omega) (by omega) (by omega) (by omega)]
theorem iv_sC.r129 {g g' : jv_Mem} (h : iv_sC g g') : g' 129 = g 129 := funext fun k => h 129 k (by omega) (by omega) (by omega) (by omega) (by omega) (by omega) (by omega)
theorem iv_sC.fl {g g' : jv_Mem} (h : iv_sC g g') (c : Int) : iv_fl g' c = iv_fl g c := by
  unfold iv_fl iv_br
  rw [h.F, h.r129]
theorem t_weight {x4 : Int} {Q : Int → jv_Mem → Prop} {g : jv_Mem} (hI : iJ x4 g) (hQ : ∀ g' : jv_Mem, iv_sC g g' → iJ x4 g' → Q (iv_Fg g).2.1 g') : wp_X8_fillWeight Q g := by
  obtain ⟨hx, j1, j2, j3, -⟩ := id hI
  unfold wp_X8_fillWeight wp_X6_bestWeight
  refine u_search j2 j3 (fun g' f hR => ?_)
  rw [hR.2.1]
  exact hQ g' (iv_sC.se f) (hI.se f)
theorem t_fills {x4 : Int} {Q : Int → jv_Mem → Prop} {g : jv_Mem} (hI : iJ x4 g) (hQ : ∀ g' : jv_Mem, iv_sC g g' → iJ x4 g' → Q (iv_Fg g).1 g') : wp_X8_fills Q g := by
  obtain ⟨hx, j1, j2, j3, -⟩ := id hI
  unfold wp_X8_fills wp_X6_foundCount
  refine u_search j2 j3 (fun g' f hR => ?_)
  rw [hR.1]
  exact hQ g' (iv_sC.se f) (hI.se f)
theorem iv_mx.un {g : jv_Mem} {G G' : Int} (h : iv_mx g G (fun _ _ _ => True)) (h' : iv_mx g G' (fun _ _ _ => True)) : G = G' := by
  have key : ∀ G G' : Int, iv_mx g G (fun _ _ _ => True) → iv_mx g G' (fun _ _ _ => True) → G ≤ G' := by
    intro G G' h h'
    rcases h.2.2.1 with e | ⟨a, b, c, ha, hb, hc, hv, hw⟩
    · have := h'.1; omega
    · have := h'.2.2.2 a b c ha hb hc trivial hv; omega
  have := key G G' h h'
  have := key G' G h' h
  omega
theorem t_weightAll {x4 : Int} {Q : Int → jv_Mem → Prop} {g : jv_Mem} (hI : iJ x4 g) (hQ : ∀ g' : jv_Mem, iv_sC g g' → iJ x4 g' → Q (iv_Fg g).2.1 g') : wp_X8_fillWeightByAll Q g := by
  obtain ⟨hx, j1, j2, j3, -⟩ := id hI
  unfold wp_X8_fillWeightByAll
  refine u_greatest j2 j3 (fun G g' f hm => ?_)
  have e : G = (iv_Fg g).2.1 := hm.un (iv_F_mx j2)
  rw [e]
  exact hQ g' (iv_sC.se (fun i _ b _ => f i b)) (hI.se (fun i _ b _ => f i b))
theorem iv_br_r {g : jv_Mem} (h2 : iJ2 g) (hF : (iv_Fg g).2.1 ≠ -1) (x : Int) : 0 ≤ iv_br g x ∧ iv_br g x < g 3 6 := by
  have er := iv_F_rJ h2 (g 132)
  have eF : iv_F (g 132) (g 129) (g 128) (g 130) (g 7) (g 3 6).toNat = iv_Fg g := rfl
  rw [eF] at er
  have hR := er.2.2.2.2 hF
  unfold iv_br
  split
  · exact hR.1
  · split
    · exact hR.2.1
    · exact hR.2.2.1
theorem t_fillAt {x4 c : Int} {Q : Int → jv_Mem → Prop} {g : jv_Mem} (hI : iJ x4 g) (hc : 0 ≤ c ∧ c < 9) (hF : (iv_Fg g).2.1 ≠ -1) (hQ : ∀ g' : jv_Mem, iv_sC g g' → iJ x4 g' → Q (iv_fl g c) g') : wp_X8_fillAt c Q g := by
  obtain ⟨hx, j1, j2, j3, -⟩ := id hI
  unfold wp_X8_fillAt wp_X6_bestWeight
  refine u_needIndex (by unfold jv_r; omega) hc (u_search j2 j3 (fun g' f hR => ?_))
  have eF : iv_F (g 132) (g 129) (g 128) (g 130) (g 7) (g 3 6).toNat = iv_Fg g := rfl
  rw [eF] at hR
  obtain ⟨r1, r2, r3, r4, r5⟩ := hR
  obtain ⟨q0, q1, q2⟩ := r3 hF
  refine ⟨(by unfold jv_r; omega), fun _ => ?_, fun h => absurd h (by omega)⟩
  have s := iv_sC.se f
  have I' := hI.se f
  unfold wp_X6_bestLetter
  have z1 : jv_div c 3 = c / 3 := iv_div (by omega) (by omega) (by omega) (by omega)
  have z2 : jv_rem c 3 = c % 3 := iv_rem (by omega) (by omega) (by omega) (by omega)
  have eb : g' 13 (c / 3) = iv_br g (c / 3) := by
    have h : c / 3 = 0 ∨ c / 3 = 1 ∨ c / 3 = 2 := by omega
    unfold iv_br
    rcases h with e | e | e
    · rw [e, if_pos rfl]; exact q0
    · rw [e, if_neg (by omega), if_pos rfl]; exact q1
    · rw [e, if_neg (by omega), if_neg (by omega)]; exact q2
  rw [z1, z2, eb]
  have hb := iv_br_r j2 hF (c / 3)
  have e3 : g' 3 6 = g 3 6 := by rw [f 3 (by omega) (by omega) (by omega)]
  refine ⟨by omega, u_letterX I'.2.2.1 hb.1 (by rw [e3]; exact hb.2) (by omega) (by omega) ?_⟩
  rw [s.r129]
  exact hQ g' s I'
theorem iv_dg_sum {c : Int} (c0 : 0 ≤ c) (c1 : c < 729) : 81 * iv_dg c 0 + 9 * iv_dg c 1 + iv_dg c 2 = c := by
  rw [iv_dg_v.1, iv_dg_v.2.1, iv_dg_v.2.2]; omega
theorem t_fill {x4 : Int} {Q : Int → jv_Mem → Prop} {g : jv_Mem} (hI : iJ x4 g) (hQ : ∀ g' : jv_Mem, iv_sC g g' → iJ x4 g' → Q 1 g') : wp_L_fill Q g := by
  have j2 := hI.2.2.1
  have hw := j2.2.2.2.1
  have er := iv_F_rJ j2 (g 132)
  have ec := iv_F_c j2 (g 132)
  have eF : iv_F (g 132) (g 129) (g 128) (g 130) (g 7) (g 3 6).toNat = iv_Fg g := rfl
  rw [eF] at er ec
  obtain ⟨er1, er2, er3, er4, er5⟩ := er
  unfold wp_L_fill
  refine t_weight hI (fun ga sa Ia => ⟨(by unfold jv_r; omega), fun hF => ?_, fun hF => ?_⟩)
  · refine t_fills Ia (fun gb sb Ib => ?_)
    rw [sa.F]
    have hp := ec.2 hF
    refine ⟨(by unfold jv_r; omega), fun h => absurd h (by omega), fun _ => ⟨(by unfold jv_r; omega), fun h => absurd h (by omega), fun _ => ?_⟩⟩
    have sab := sa.tr sb
    clear sa sb Ia
    unfold wB_L_fill_42
    refine ⟨fun n x2 x3 gl => x2 = 1 ∧ 0 ≤ x3 ∧ x3 ≤ 3 ∧ iv_sC g gl ∧ iJ x4 gl ∧ n = (3 - x3).toNat, ⟨_, rfl, by omega, by omega, sab, Ib, rfl⟩, ?_⟩
    clear sab Ib
    rintro n x2 x gl ⟨rfl, x0, x3, sl, Il, hn⟩
    refine ⟨(by unfold jv_r; omega), fun h => ⟨Or.inr rfl, hQ gl sl Il⟩, fun hx => ⟨(by unfold jv_r; omega), fun h => absurd h (by omega), fun _ => ?_⟩⟩
    have hF' : ∀ {gm : jv_Mem}, iv_sC g gm → (iv_Fg gm).2.1 ≠ -1 := fun h => by rw [h.F]; exact hF
    -- one word that is there
    have one : ∀ {gm : jv_Mem} {v : Int} {R : Int → jv_Mem → Prop}, iv_sC g gm → iJ x4 gm → gm 1 1 = 3 → 81 * gm 2 0 + 9 * gm 2 1 + gm 2 2 = v → g 128 v ≠ 0 → R 1 gm → wp_X8_beginning R gm := by
      intro gm v R sm Im h3 hv hne hR
      refine t_beg Im h3 (fun v' ev v0 v1 => ?_)
      rw [iv_bgw Im.2.2.1 v0 v1]
      have e : g 128 v' = gm 128 v' := (sm 128 v' (by omega) (by omega) (by omega) (by omega) (by omega) (by omega) (by omega)).symm
      rw [← e, if_neg (by rw [ev, hv]; exact hne)]
      exact hR
    have dgr : ∀ w k, 0 ≤ w → w < g 3 6 → 0 ≤ iv_dg (g 129 w) k ∧ iv_dg (g 129 w) k < 9 := fun w k w0 w1 => iv_dg_r (hw w w0 w1).1 (hw w w0 w1).2.1
    have flr : ∀ c, 0 ≤ iv_fl g c ∧ iv_fl g c < 9 := fun c => dgr _ _ (iv_br_r j2 hF _).1 (iv_br_r j2 hF _).2
    refine t_fillAt Il (by omega) (hF' sl) (fun g1 s1 I1 => ?_)
    have s1' := sl.tr s1
    refine t_fillAt I1 (by omega) (hF' s1') (fun g2 s2 I2 => ?_)
    have s2' := s1'.tr s2
    refine t_fillAt I2 (by omega) (hF' s2') (fun g3 s3 I3 => ?_)
    have s3' := s2'.tr s3
    rw [sl.fl, s1'.fl, s2'.fl]
    refine t_spells I3 (flr _) (flr _) (flr _) (by omega) (fun g4 s4 I4 n4 l0 l1 l2 => ?_)
    have s4' := s3'.tr (iv_sC.sp s4)
    have hbr := iv_br_r j2 hF x
    have hwx := hw _ hbr.1 hbr.2
    have w0 : iv_fl g (3 * x) = iv_dg (g 129 (iv_br g x)) 0 := by
      unfold iv_fl; rw [show 3 * x / 3 = x by omega, show 3 * x % 3 = 0 by omega]
    have w1 : iv_fl g (3 * x + 1) = iv_dg (g 129 (iv_br g x)) 1 := by
      unfold iv_fl; rw [show (3 * x + 1) / 3 = x by omega, show (3 * x + 1) % 3 = 1 by omega]
    have w2 : iv_fl g (3 * x + 2) = iv_dg (g 129 (iv_br g x)) 2 := by
      unfold iv_fl; rw [show (3 * x + 2) / 3 = x by omega, show (3 * x + 2) % 3 = 2 by omega]
    refine one (v := g 129 (iv_br g x)) s4' I4 n4 (by rw [l0, l1, l2, w0, w1, w2]; exact iv_dg_sum hwx.1 hwx.2.1) (by rw [hwx.2.2.2.2.2.2.2]; omega) ⟨(by unfold jv_r; omega), fun h => absurd rfl h, fun _ => ?_⟩
    clear w0 w1 w2 l0 l1 l2 n4 s4 s3 s2 s1 I1 I2 I3
    unfold wB_L_fill_97
    refine t_fillAt I4 (by omega) (hF' s4') (fun g1 s1 I1 => ?_)
    have s1' := s4'.tr s1
    refine t_fillAt I1 (by omega) (hF' s1') (fun g2 s2 I2 => ?_)
    have s2' := s1'.tr s2
    refine t_fillAt I2 (by omega) (hF' s2') (fun g3 s3 I3 => ?_)
    have s3' := s2'.tr s3
    rw [s4'.fl, s1'.fl, s2'.fl]
    refine t_spells I3 (flr _) (flr _) (flr _) (by omega) (fun g5 s5 I5 n5 l0 l1 l2 => ?_)
    have s5' := s3'.tr (iv_sC.sp s5)
    have y0 : iv_fl g x = iv_dg (g 129 (iv_br g 0)) x := by
      unfold iv_fl; rw [show x / 3 = 0 by omega, show x % 3 = x by omega]
    have y1 : iv_fl g (x + 3) = iv_dg (g 129 (iv_br g 1)) x := by
      unfold iv_fl; rw [show (x + 3) / 3 = 1 by omega, show (x + 3) % 3 = x by omega]
    have y2 : iv_fl g (x + 6) = iv_dg (g 129 (iv_br g 2)) x := by
      unfold iv_fl; rw [show (x + 6) / 3 = 2 by omega, show (x + 6) % 3 = x by omega]
    have hval := (er5 hF).2.2.2
    refine ⟨(by unfold jv_r; omega), fun h => absurd h (by omega), fun _ => one (v := iv_col (g 129) (iv_br g 0) (iv_br g 1) (iv_br g 2) x) s5' I5 n5 (by rw [l0, l1, l2, y0, y1, y2]; rfl) ((iv_val_yes hval).2.2.2 x x0 hx) ⟨(by unfold jv_r; omega), fun h => absurd rfl h, fun _ => ?_⟩⟩
    intro v3 e3
    exact ⟨(3 - v3).toNat, by omega, rfl, by omega, by omega, s5', I5, rfl⟩
  · refine t_fills Ia (fun gb sb Ib => ?_)
    rw [sa.F]
    have hz := ec.1 hF
    rw [hz]
    exact ⟨(by unfold jv_r; omega), fun h => absurd rfl h, fun _ => hQ gb (sa.tr sb) Ib⟩
