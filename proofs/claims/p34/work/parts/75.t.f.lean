/-! a puzzle is published -/
def iv_pg (g gs : jv_Mem) (rows ch : Int → Int) : jv_Mem := fun i k =>
  if i = 126 then (if k = 29 then 0 else if k = 16 then g 0 9 + 1 else gs 126 k)
  else if i = 137 then (if k = g 0 9 then g 0 11 else g 137 k)
  else if i = 138 then (if 9 * g 0 9 ≤ k ∧ k < 9 * g 0 9 + 9 then iv_dg (g 129 (rows ((k - 9 * g 0 9) / 3))) ((k - 9 * g 0 9) % 3) else g 138 k)
  else if i = 139 then (if 6 * g 0 9 ≤ k ∧ k < 6 * g 0 9 + 6 then ch (k - 6 * g 0 9) else g 139 k)
  else if i = 136 then (if ch 0 = k ∨ ch 1 = k ∨ ch 2 = k ∨ ch 3 = k ∨ ch 4 = k ∨ ch 5 = k then g 0 11 / 24 + 1 else g 136 k)
  else gs i k
theorem iv_pg_M {g gs : jv_Mem} {rows ch : Int → Int} : iv_PM g gs rows ch (iv_pg g gs rows ch) := by
  refine ⟨fun i k x1 x2 x3 x4 x5 x6 x7 x8 => ?_, ?_, ?_, fun k => ?_, fun c c0 c1 => ?_, fun k hk => ?_, fun e e0 e1 => ?_, fun k hk => ?_, fun e e0 e1 => ?_, fun c hc => ?_⟩
  · unfold iv_pg
    by_cases e : i = 126
    · rw [if_pos e, if_neg (by omega), if_neg (by omega), e]
    · rw [if_neg e, if_neg x5, if_neg x6, if_neg x7, if_neg x4]
  · unfold iv_pg; rw [if_pos rfl, if_pos rfl]
  · unfold iv_pg; rw [if_pos rfl, if_neg (by omega), if_pos rfl]
  · unfold iv_pg; rw [if_neg (by omega), if_pos rfl]
  · unfold iv_pg; rw [if_neg (by omega), if_neg (by omega), if_pos rfl, if_pos (by omega), show 9 * g 0 9 + c - 9 * g 0 9 = c by omega]
  · unfold iv_pg; rw [if_neg (by omega), if_neg (by omega), if_pos rfl, if_neg hk]
  · unfold iv_pg; rw [if_neg (by omega), if_neg (by omega), if_neg (by omega), if_pos rfl, if_pos (by omega), show 6 * g 0 9 + e - 6 * g 0 9 = e by omega]
  · unfold iv_pg; rw [if_neg (by omega), if_neg (by omega), if_neg (by omega), if_pos rfl, if_neg hk]
  · unfold iv_pg
    have h : e = 0 ∨ e = 1 ∨ e = 2 ∨ e = 3 ∨ e = 4 ∨ e = 5 := by omega
    rw [if_neg (by omega), if_neg (by omega), if_neg (by omega), if_neg (by omega), if_pos rfl, if_pos (by rcases h with h | h | h | h | h | h <;> (rw [h]; simp))]
  · unfold iv_pg
    rw [if_neg (by omega), if_neg (by omega), if_neg (by omega), if_neg (by omega), if_pos rfl, if_neg (fun h => by
      rcases h with h | h | h | h | h | h
      · exact hc 0 (by omega) (by omega) h
      · exact hc 1 (by omega) (by omega) h
      · exact hc 2 (by omega) (by omega) h
      · exact hc 3 (by omega) (by omega) h
      · exact hc 4 (by omega) (by omega) h
      · exact hc 5 (by omega) (by omega) h)]
theorem t_publish {x4 : Int} {Q : Int → jv_Mem → Prop} {g : jv_Mem} (hI : iJ x4 g)
    (hN : ∀ g' : jv_Mem, (∀ i, i ≠ 10 → i ≠ 12 → i ≠ 13 → i ≠ 18 → g' i = g i) → iJ x4 g' → Q (-3) g')
    (hY : iv_mp g → ∀ g' : jv_Mem, iJ (x4 + 5) g' → g' 0 9 = g 0 9 + 1 → g' 3 6 = g 3 6 → g' 14 4 = g 14 4 → g' 0 10 = g 0 10 → g' 0 11 = g 0 11 → g' (30 + 3 * g 0 9) 4 = 0 → g' 137 (g 0 9) = g 0 11 → (0 ≤ g' (30 + 3 * g 0 9 + 2) 0 ∧ g' (30 + 3 * g 0 9 + 2) 0 < g 14 4) → (0 ≤ g' (30 + 3 * g 0 9 + 2) 5 ∧ g' (30 + 3 * g 0 9 + 2) 5 < g 14 4) → g' (30 + 3 * g 0 9 + 2) 0 ≠ g' (30 + 3 * g 0 9 + 2) 5 → g' 17 (g' (30 + 3 * g 0 9 + 2) 5) = g 0 11 / 24 → (iv_R g → iv_R g') → Q (g 0 9) g') : wp_L_publish Q g := by
  obtain ⟨hx, j1, j2, j3, j4, j5, j6, j7, j8⟩ := id hI
  unfold wp_L_publish
  refine u_publishX j2 j3 j4 j5 j6 (fun rows ch r g' f4 ho hr => ⟨rfl, hN g' f4 (hI.fr (by omega) (fun i k z => by rw [f4 i (by unfold jv_scr at z; omega) (by unfold jv_scr at z; omega) (by unfold jv_scr at z; omega) (by unfold jv_scr at z; omega)]))⟩) (fun rows ch g1 ho hp => ?_)
  have hM := @iv_pg_M g (jv_up g1 148 0 (g 0 9)) rows ch
  have I' := hI.pub ho hp rfl hM
  have hcs : iv_mp g ∧ iv_cz g rows ch 6 := by
    rcases ho with ⟨h, _⟩ | ⟨h, _⟩ | ⟨_, _, hm, hF, q0, q1, q2, hcs, _⟩
    · exact absurd h (by omega)
    · exact absurd h (by omega)
    · exact ⟨hm, hcs⟩
  obtain ⟨hm, hcs⟩ := hcs
  have c2 := j4.2.1
  have hch := iv_cz_r c2 hcs
  have n2 := j6.2.1
  have n20 := hm.1
  obtain ⟨p1, p2, p3, p4, p5, p6, p7⟩ := hp
  generalize hgG : iv_pg g (jv_up g1 148 0 (g 0 9)) rows ch = gG at hM I' ⊢
  obtain ⟨q1, q2, q3, q4, -⟩ := hM
  have lo : ∀ i k, i < 126 → gG i k = g1 i k := fun i k h => by rw [q1 i k (by omega) (by omega) (by omega) (by omega) (by omega) (by omega) (by omega) (by omega), jv_up_n (by omega)]
  have l4 : gG (30 + 3 * g 0 9) 4 = 0 := by
    obtain ⟨w1, w2, w3, w4, w5⟩ := j6.2.2.2.2 (g 0 9) n2 n20
    rw [lo _ 4 (by omega), p1 _ 4 (by omega) (by omega) (by omega) (by omega) (by omega) (by omega) (by omega) (by omega) (by omega), w4, w5 (by omega)]
    exact fb_7
  have e0 : gG (30 + 3 * g 0 9 + 2) 0 = ch 0 := by rw [lo _ 0 (by omega)]; exact p5 0 (by omega) (by omega)
  have e5 : gG (30 + 3 * g 0 9 + 2) 5 = ch 5 := by rw [lo _ 5 (by omega)]; exact p5 5 (by omega) (by omega)
  have hne : ch 0 ≠ ch 5 := by
    rcases (hcs 5 (by omega) (by omega)).1 with ⟨h, _⟩ | ⟨_, _, h, _⟩
    · exact absurd h (hcs 5 (by omega) (by omega)).2
    · exact h.2.2.2 0 (by omega) (by omega)
  refine ⟨gG, fun i k h => lo i k h, hY hm gG I' (by rw [lo 0 9 (by omega)]; exact p2) (by rw [lo 3 6 (by omega)]; exact p1 3 6 (by omega) (by omega) (by omega) (by omega) (by omega) (by omega) (by omega) (by omega) (by omega)) (by rw [lo 14 4 (by omega)]; exact p1 14 4 (by omega) (by omega) (by omega) (by omega) (by omega) (by omega) (by omega) (by omega) (by omega)) (by rw [lo 0 10 (by omega)]; exact p1 0 10 (by omega) (by omega) (by omega) (by omega) (by omega) (by omega) (by omega) (by omega) (by omega)) (by rw [lo 0 11 (by omega)]; exact p1 0 11 (by omega) (by omega) (by omega) (by omega) (by omega) (by omega) (by omega) (by omega) (by omega)) l4 (by rw [q4, if_pos rfl]) (by rw [e0]; exact hch 0 (by omega) (by omega)) (by rw [e5]; exact hch 5 (by omega) (by omega)) (by rw [e0, e5]; exact hne) (by rw [e5, lo 17 _ (by omega)]; exact p6 5 (by omega) (by omega)) (fun hR => hR.fr j7.2.2.1 (by rw [lo 0 10 (by omega)]; exact p1 0 10 (by omega) (by omega) (by omega) (by omega) (by omega) (by omega) (by omega) (by omega) (by omega)) (by rw [lo 0 11 (by omega), p1 0 11 (by omega) (by omega) (by omega) (by omega) (by omega) (by omega) (by omega) (by omega) (by omega)]; omega) (fun i k i0 i1 => by rw [lo i k i1]; exact p1 i k (by omega) (by omega) (by omega) (by omega) (by omega) (by omega) (by omega) (by omega) (by omega)))⟩
theorem t_open {x4 p : Int} {Q : Int → jv_Mem → Prop} {g : jv_Mem} (hI : iJ x4 g) (hp : 0 ≤ p ∧ p < g 0 9) (hQ : 0 ≤ g (30 + 3 * p) 4 → g (30 + 3 * p) 4 < 512 → Q (g (30 + 3 * p) 4) g) : wp_X8_open p Q g := by
  obtain ⟨hx, j1, j2, j3, j4, j5, j6, j7, j8⟩ := id hI
  have k := ex_p j6 hp.1 hp.2
  have m3 := j6.2.2.1
  unfold wp_X8_open wp_X3_openCells
  exact u_needIndex (by unfold jv_r; omega) hp ⟨by omega, hQ (by omega) (by omega)⟩
theorem t_clueOf {x4 p e : Int} {Q : Int → jv_Mem → Prop} {g : jv_Mem} (hI : iJ x4 g) (hp : 0 ≤ p ∧ p < g 0 9) (he : 0 ≤ e ∧ e < 6) (hQ : Q (g (30 + 3 * p + 2) e) g) : wp_X8_clueOf p e Q g := by
  obtain ⟨hx, j1, j2, j3, j4, j5, j6, j7, j8⟩ := id hI
  have k := ex_p j6 hp.1 hp.2
  have m3 := j6.2.2.1
  unfold wp_X8_clueOf wp_X3_clueNumber
  exact u_needIndex (by unfold jv_r; omega) hp (u_needIndex (by unfold jv_r; omega) he ⟨by omega, by omega, hQ⟩)
theorem t_solvedAt {x4 s p : Int} {Q : Int → jv_Mem → Prop} {g : jv_Mem} (hI : iJ x4 g) (hs : 0 ≤ s ∧ s < g 0 10) (hp : 0 ≤ p ∧ p < g 0 9) (hQ : Q (iv_sl (g (90 + 6 * s + 1 + 1)) p (g (30 + 3 * p) 4) (g (30 + 3 * p) 2)) g) : wp_X8_solvedAt s p Q g := by
  obtain ⟨hx, j1, j2, j3, j4, j5, j6, j7, j8⟩ := id hI
  have k := ex_p j6 hp.1 hp.2
  have l := ex_s j7 hs.1 hs.2
  have m3 := j6.2.2.1
  have n3 := j7.2.2.1
  unfold wp_X8_solvedAt wp_X3_openCells wp_X3_hourOfAppearing
  refine u_needIndex (by unfold jv_r; omega) hs (u_needIndex (by unfold jv_r; omega) hp ⟨by omega, by omega, ?_⟩)
  exact u_solvedHour hp.1 (by omega) (by omega) (by omega) (fun c c0 c1 => (l.2.2.2.2.2.2.2.2 p c hp.1 (by omega) c0 c1).2) hQ
