/-! the streak, gone through anew; the hour in which a puzzle was solved -/
theorem t_anew {x4 a : Int} {Q : Int → jv_Mem → Prop} {g : jv_Mem} (hI : iJ x4 g) (hx2 : x4 ≤ 2560) (ha : 0 ≤ a ∧ a < g 0 10) (hQ : ∀ g' : jv_Mem, (∀ i k, i ≠ 26 → i ≠ 27 → i ≠ 28 → i ≠ 29 → g' i k = g i k) → iJ x4 g' → Q (iv_ks g a) g') : wp_X8_streakAnew a Q g := by
  obtain ⟨hx, j1, j2, j3, j4, j5, j6, j7, j8⟩ := id hI
  obtain ⟨n1, n2, n3, -⟩ := id j7
  unfold wp_X8_streakAnew
  refine u_needIndex (by unfold jv_r; omega) ha ?_
  have hr := iv_ks_r j5 j7 ha.1 ha.2
  obtain ⟨k1, k2, k3, k4, k5, k6, k7, k8, k9⟩ := ex_s j7 ha.1 ha.2
  obtain ⟨y1, y2, y3, y4, y5, y6⟩ := id j8
  unfold wp_X2_hoursAhead
  refine ⟨⟨ha.1, k1⟩, ?_⟩
  refine u_begin (fun gb b1 b2 b3 b4 => ?_)
  rintro gc ec
  have start : iv_RS g a 0 gc := by
    refine ⟨fun i k p1 p2 p3 p4 => by rw [ec, jv_fill_i p4]; exact b1 i k (by omega) (by omega) (by omega), by rw [ec, jv_fill_i (by omega), b2, k5], fun k q0 q1 => by rw [ec, jv_fill_i (by omega)]; exact b3 k q0 q1, fun d q0 q1 => by rw [ec, jv_fill_i (by omega)]; exact b4 d q0 q1, fun p q0 q1 => by rw [ec, jv_fill_e rfl q0 q1]; rfl⟩
  clear ec b1 b2 b3 b4
  refine ⟨fun n x gl => 0 ≤ x ∧ x ≤ g 21 4 ∧ iv_RS g a x gl ∧ n = (g 21 4 - x).toNat, ⟨_, by omega, y1, start, rfl⟩, ?_⟩
  rintro n x gl ⟨a0, a1, a2, a3⟩
  have q21 : gl 21 4 = g 21 4 := a2.1 21 4 (by omega) (by omega) (by omega) (by omega)
  unfold wp_X1_count
  rw [q21]
  refine ⟨⟨(by unfold jv_r; omega), (by unfold jv_r; omega)⟩, fun h => ?_, fun h => ?_⟩
  · have e : x = g 21 4 := by omega
    rw [e] at a2
    obtain ⟨r1, r2, r3, r4, r5⟩ := a2
    have q11 : gl 0 11 = g 0 11 := r1 0 11 (by omega) (by omega) (by omega) (by omega)
    have hct : ∀ d, 0 ≤ d → d < 1252 → gl (26 + 2) d = g (90 + 6 * a + 1 + 2) d := fun d d0 d1 => by rw [r4 d d0 d1]; exact (y6 a ha.1 ha.2).2 d d0 d1
    have hdr := @iv_day_r (g 142 a) (g 0 11) j5.2.1 (by have := j5.2.2; omega) k6 k7
    have hk : iv_stk (gl (26 + 2)) (iv_day (gl 26 2) (gl 0 11)) = iv_ks g a := by
      unfold iv_ks
      rw [r2, q11, k5]
      exact iv_stk_congr hdr.1 (fun i i0 i1 => hct i i0 (by omega))
    refine u_daysInARow (by omega) (by omega) (by rw [q11]; exact j5.2.1) (by rw [q11]; exact j5.2.2) (fun k q0 q1 => by rw [hct k q0 q1]; have := (k8 k q0 q1).2; unfold jv_r; omega) ?_
    rw [hk]
    exact hQ gl r1 (hI.fr (by omega) (fun i k z => r1 i k (by unfold jv_scr at z; omega) (by unfold jv_scr at z; omega) (by unfold jv_scr at z; omega) (by unfold jv_scr at z; omega)))
  · refine u_replay j6 j7 j8 (by omega) j5.2.2 ha.1 ha.2 a0 h a2 (fun g' hR => ?_)
    intro v ev
    exact ⟨(g 21 4 - v).toNat, by omega, by omega, by omega, by rw [ev]; exact hR, rfl⟩
theorem iv_la_h {R : Int → Int} {p m h : Int} (h0 : 0 ≤ h) (hr : ∀ c, 0 ≤ c → c < 9 → R (p * 9 + c) ≤ h) : ∀ n : Nat, n ≤ 9 → iv_la R p m n ≤ h := by
  intro n
  induction n with
  | zero => intro _; simp only [iv_la]; omega
  | succ n ih =>
    intro hn
    have h1 := ih (by omega)
    have h2 := hr n (by omega) (by omega)
    simp only [iv_la]
    split
    · split <;> omega
    · exact h1
theorem iv_sl_h {R : Int → Int} {p m a h : Int} (h0 : 0 ≤ h) (hr : ∀ c, 0 ≤ c → c < 9 → R (p * 9 + c) ≤ h) (ha : a ≤ h) : iv_sl R p m a ≤ h := by
  have := @iv_la_h R p m h h0 hr 9 (by omega)
  unfold iv_sl
  split
  · split <;> omega
  · omega
theorem t_solvedNow {x4 s p : Int} {Q : Int → jv_Mem → Prop} {g : jv_Mem} (hI : iJ x4 g) (hR : iv_R g) (hs : 0 ≤ s ∧ s < g 0 10) (hp : 0 ≤ p ∧ p < g 0 9) (hQ : ∀ r : Int, -1 ≤ r → r ≤ g 0 11 → Q r g) : wp_X8_solvedAt s p Q g := by
  refine t_solvedAt hI hs hp ?_
  obtain ⟨hx, j1, j2, j3, j4, j5, j6, j7, j8⟩ := hI
  have k := ex_p j6 hp.1 hp.2
  have l := ex_s j7 hs.1 hs.2
  refine hQ _ ?_ (iv_sl_h j5.2.1 (fun c c0 c1 => hR s _ hs.1 hs.2 (by omega) (by omega)) (by omega))
  have h5 := j5.2.2
  exact (iv_sl_r (fun c c0 c1 => (l.2.2.2.2.2.2.2.2 p c hp.1 (by omega) c0 c1).2) ⟨by omega, by omega⟩).1
