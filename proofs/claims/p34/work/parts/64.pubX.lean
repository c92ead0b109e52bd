/-! publishing, by the class -/
def iv_mp (g : jv_Mem) : Prop := g 0 9 < 20 ∧ (g 0 9 = 0 ∨ g 137 (g 0 9 - 1) / 24 < g 0 11 / 24)
def iv_Fg (g : jv_Mem) : iv_S := iv_F (g 132) (g 129) (g 128) (g 130) (g 7) (g 3 6).toNat
def iv_cz (g : jv_Mem) (rows ch : Int → Int) (n : Int) : Prop := ∀ k, 0 ≤ k → k < n → iv_cf (g 134) (g 135) (g 136) ch k (iv_wd (g 129) (g 128) rows k) (g 0 11 / 24) (g 14 4) (ch k) ∧ ch k ≠ -1
/-- what becomes of publishing: -2: not today; -1: no fill; e below 6: no clue for the entry e; 6: it is published -/
def iv_out (g : jv_Mem) (rows ch : Int → Int) (r : Int) : Prop := (r = -2 ∧ ¬ iv_mp g) ∨ (r = -1 ∧ iv_mp g ∧ (iv_Fg g).2.1 = -1) ∨ (0 ≤ r ∧ r ≤ 6 ∧ iv_mp g ∧ (iv_Fg g).2.1 ≠ -1 ∧ rows 0 = (iv_Fg g).2.2.1 ∧ rows 1 = (iv_Fg g).2.2.2.1 ∧ rows 2 = (iv_Fg g).2.2.2.2 ∧ iv_cz g rows ch r ∧ (r < 6 → iv_cf (g 134) (g 135) (g 136) ch r (iv_wd (g 129) (g 128) rows r) (g 0 11 / 24) (g 14 4) (-1)))
theorem iv_cz_congr {g : jv_Mem} {rows ch ch' : Int → Int} {n : Int} (h : iv_cz g rows ch n) (c : ∀ k, 0 ≤ k → k < n → ch' k = ch k) : iv_cz g rows ch' n := fun k k0 k1 => by
  have h1 := h k k0 k1
  rw [c k k0 k1]
  exact ⟨iv_cf_congr (fun x x0 x1 => c x x0 (by omega)) h1.1, h1.2⟩
theorem iv_cz_push {g : jv_Mem} {rows ch ch' : Int → Int} {n f : Int} (h : iv_cz g rows ch n) (hf : iv_cf (g 134) (g 135) (g 136) ch n (iv_wd (g 129) (g 128) rows n) (g 0 11 / 24) (g 14 4) f) (hne : f ≠ -1) (c : ∀ k, 0 ≤ k → k < n → ch' k = ch k) (e : ch' n = f) : iv_cz g rows ch' (n + 1) := fun k k0 k1 => by
  by_cases q : k = n
  · rw [q, e]; exact ⟨iv_cf_congr c hf, hne⟩
  · exact iv_cz_congr h c k k0 (by omega)
theorem iv_cz_r {g : jv_Mem} {rows ch : Int → Int} {n : Int} (n0 : 0 ≤ g 14 4) (h : iv_cz g rows ch n) : ∀ k, 0 ≤ k → k < n → 0 ≤ ch k ∧ ch k < g 14 4 := fun k k0 k1 => by
  have h1 := h k k0 k1
  have h2 := iv_cf_r n0 h1.1
  have h3 := h1.2
  omega
theorem u_findClues {Q : Int → jv_Mem → Prop} {g : jv_Mem} (h2 : iJ2 g) (h3 : iJ3 g) (h4 : iJ4 g) (h5 : iJ5 g) (hmp : iv_mp g)
    (hN : ∀ (rows ch : Int → Int) (r : Int) (g' : jv_Mem), (∀ i, i ≠ 10 → i ≠ 12 → i ≠ 13 → i ≠ 18 → g' i = g i) → iv_out g rows ch r → r ≠ 6 → Q 0 g')
    (hY : ∀ g' : jv_Mem, (∀ i, i ≠ 10 → i ≠ 12 → i ≠ 13 → i ≠ 18 → g' i = g i) → iv_out g (g' 13) (g' 18) 6 → Q 1 g') : wp_X8_findClues Q g := by
  obtain ⟨m1, m2, m3, m4, m5⟩ := id h4
  obtain ⟨b1, b2, b3⟩ := id h5
  have er := iv_F_rJ h2 (g 132)
  have w30 := h2.2.2.1
  have ht : jv_div (g 0 11) 24 = g 0 11 / 24 := iv_div (by omega) (by omega) (by omega) (by omega)
  have eF : iv_F (g 132) (g 129) (g 128) (g 130) (g 7) (g 3 6).toNat = iv_Fg g := rfl
  unfold wp_X8_findClues
  refine u_search h2 h3 (fun g1 c1 c2 => ?_)
  unfold wp_X6_bestWeight
  rw [eF] at c2 er
  obtain ⟨t1, t2, t3, t4, t5⟩ := c2
  refine ⟨(by unfold jv_r; omega), fun hne => ?_, fun he => hN (fun _ => 0) (fun _ => 0) (-1) g1 (fun i p1 p2 p3 _ => c1 i p1 p2 p3) (Or.inr (Or.inl ⟨rfl, hmp, by rw [← t2]; exact he⟩)) (by omega)⟩
  have hF : (iv_Fg g).2.1 ≠ -1 := by rw [← t2]; exact hne
  have t3 := t3 hF
  have hR := er.2.2.2.2 hF
  have hr : ∀ x, 0 ≤ x → x < 3 → 0 ≤ g1 13 x ∧ g1 13 x < g 3 6 := fun x x0 x1 => by
    have hx : x = 0 ∨ x = 1 ∨ x = 2 := by omega
    rcases hx with e | e | e
    · rw [e, t3.1]; exact hR.1
    · rw [e, t3.2.1]; exact hR.2.1
    · rw [e, t3.2.2]; exact hR.2.2.1
  clear er hR
  refine ⟨fun n x gl => (∀ i, i ≠ 10 → i ≠ 12 → i ≠ 13 → i ≠ 18 → gl i = g i) ∧ gl 13 = g1 13 ∧ 0 ≤ x ∧ x ≤ 6 ∧ iv_cz g (g1 13) (gl 18) x ∧ n = (6 - x).toNat, ⟨_, fun i p1 p2 p3 _ => c1 i p1 p2 p3, rfl, by omega, by omega, fun k k0 k1 => absurd k1 (by omega), rfl⟩, ?_⟩
  rintro n x gl ⟨fr, e13, a0, a1, a2, a3⟩
  have k2 : iJ2 gl := h2.fr (fun i k q => by unfold f2 at q; rw [fr i (by omega) (by omega) (by omega) (by omega)])
  have k4 : iJ4 gl := h4.fr (fun i k q => by unfold f4 at q; rw [fr i (by omega) (by omega) (by omega) (by omega)])
  have n3 : gl 3 = g 3 := fr 3 (by omega) (by omega) (by omega) (by omega)
  have hch := iv_cz_r m2 a2
  refine ⟨(by unfold jv_r; omega), fun h => ?_, fun h => ?_⟩
  · have e6 : x = 6 := by omega
    rw [e6] at a2
    refine hY gl fr (Or.inr (Or.inr ⟨by omega, by omega, hmp, hF, ?_, ?_, ?_, ?_, fun h9 => absurd h9 (by omega)⟩))
    · rw [e13]; exact t3.1
    · rw [e13]; exact t3.2.1
    · rw [e13]; exact t3.2.2
    · rw [e13]; exact a2
  · have hwr := iv_wd_r h2 hr a0
    refine u_bestWord k2 a0 h (fun y y0 y1 => by rw [e13, n3]; exact hr y y0 y1) ?_
    unfold wp_X8_today
    rw [fr 129 (by omega) (by omega) (by omega) (by omega), fr 128 (by omega) (by omega) (by omega) (by omega), fr 0 (by omega) (by omega) (by omega) (by omega), e13, ht]
    refine u_choose k4 a0 h (by unfold jv_r; omega) (by omega) (by omega) (fun k k0 k1 => by have := hch k k0 k1; unfold jv_r; omega) (fun f hf => ?_)
    rw [fr 134 (by omega) (by omega) (by omega) (by omega), fr 135 (by omega) (by omega) (by omega) (by omega), fr 136 (by omega) (by omega) (by omega) (by omega), fr 14 (by omega) (by omega) (by omega) (by omega)] at hf
    have fr' : ∀ i, i ≠ 10 → i ≠ 12 → i ≠ 13 → i ≠ 18 → jv_up gl 18 x f i = g i := fun i p1 p2 p3 p4 => by rw [jv_up_row p4]; exact fr i p1 p2 p3 p4
    by_cases hfe : f = -1
    · rw [if_pos hfe]
      rw [hfe] at hf
      exact ⟨r01.1, fun h9 => absurd rfl h9, fun _ => hN (g1 13) (gl 18) x _ fr' (Or.inr (Or.inr ⟨a0, by omega, hmp, hF, t3.1, t3.2.1, t3.2.2, a2, fun _ => hf⟩)) (by omega)⟩
    · rw [if_neg hfe]
      refine ⟨r01.2.1, fun _ v ev => ⟨(6 - v).toNat, by omega, fr', by rw [jv_up_row (by omega)]; exact e13, by omega, by omega, ?_, rfl⟩, fun h9 => absurd h9 (by omega)⟩
      rw [ev]
      exact iv_cz_push a2 hf hfe (fun k k0 k1 => jv_up_n (by omega)) (jv_up_e rfl rfl)
theorem u_mayPub {Q : Int → jv_Mem → Prop} {g : jv_Mem} (h5 : iJ5 g) (h6 : iJ6 g) (hY : iv_mp g → Q 1 g) (hN : ¬ iv_mp g → Q 0 g) : wp_X8_mayPublishToday Q g := by
  obtain ⟨a1, a2, a3⟩ := h5
  obtain ⟨b1, b2, b3, b4, b5⟩ := h6
  have ht : jv_div (g 0 11) 24 = g 0 11 / 24 := iv_div (by omega) (by omega) (by omega) (by omega)
  unfold wp_X8_mayPublishToday
  refine ⟨(by unfold jv_r; omega), fun h => ⟨(by unfold jv_r; omega), fun hz => hY ⟨h, Or.inl hz⟩, fun hz => ⟨by omega, ?_⟩⟩, fun h => hN (fun hm => absurd hm.1 (by omega))⟩
  have hp := b4 (g 0 9 - 1) (by omega) (by omega)
  obtain ⟨p1, p2, p3, p4, p5⟩ := hp
  have hd : jv_div (g 137 (g 0 9 - 1)) 24 = g 137 (g 0 9 - 1) / 24 := iv_div (by omega) (by omega) (by omega) (by omega)
  show (jv_r (jv_div (g (30 + 3 * (g 0 9 - 1)) 2) 24) ∧ jv_r (jv_div (g 0 11) 24)) ∧ (jv_div (g 0 11) 24 ≤ jv_div (g (30 + 3 * (g 0 9 - 1)) 2) 24 → Q 0 g) ∧ (jv_div (g (30 + 3 * (g 0 9 - 1)) 2) 24 < jv_div (g 0 11) 24 → Q 1 g)
  rw [p1, hd, ht]
  exact ⟨⟨(by unfold jv_r; omega), (by unfold jv_r; omega)⟩, fun h9 => hN (fun hm => by have h8 := hm.2; omega), fun h9 => hY ⟨h, Or.inr h9⟩⟩
theorem u_useChosen {t : Int} {Q : jv_Mem → Prop} {g : jv_Mem} (hch : ∀ e, 0 ≤ e → e < 6 → 0 ≤ g 18 e ∧ g 18 e < 60) (hQ : ∀ g' : jv_Mem, (∀ i k, i ≠ 17 → g' i k = g i k) → (∀ e, 0 ≤ e → e < 6 → g' 17 (g 18 e) = t) → (∀ c, (∀ e, 0 ≤ e → e < 6 → g 18 e ≠ c) → g' 17 c = g 17 c) → Q g') : wp_X0_useChosen t Q g := by
  unfold wp_X0_useChosen
  refine ⟨fun n x gl => 0 ≤ x ∧ x ≤ 6 ∧ (∀ i k, i ≠ 17 → gl i k = g i k) ∧ (∀ e, 0 ≤ e → e < x → gl 17 (g 18 e) = t) ∧ (∀ c, (∀ e, 0 ≤ e → e < x → g 18 e ≠ c) → gl 17 c = g 17 c) ∧ n = (6 - x).toNat, ⟨_, by omega, by omega, fun _ _ _ => rfl, fun e e0 e1 => absurd e1 (by omega), fun _ _ => rfl, rfl⟩, ?_⟩
  rintro n x gl ⟨a0, a1, a2, a3, a4, a5⟩
  refine ⟨(by unfold jv_r; omega), fun h => ?_, fun h => ?_⟩
  · have e6 : x = 6 := by omega
    rw [e6] at a3 a4
    exact hQ gl a2 a3 a4
  · have hx := hch x a0 h
    rw [a2 18 x (by omega)]
    refine ⟨by omega, by omega, ?_⟩
    rintro g9 e9 v ev
    subst ev
    refine ⟨(6 - (x + 1)).toNat, by omega, by omega, by omega, fun i k hi => by rw [e9, jv_up_n (by omega)]; exact a2 i k hi, fun e e0 e1 => ?_, fun c hc => ?_, rfl⟩
    · by_cases q : g 18 e = g 18 x
      · rw [e9, q, jv_up_e rfl rfl]
      · have hne : e ≠ x := fun hh => q (by rw [hh])
        rw [e9, jv_up_n (fun hh => q hh.2)]
        exact a3 e e0 (by omega)
    · rw [e9, jv_up_n (fun hh => hc x a0 (by omega) hh.2.symm)]
      exact a4 c (fun e e0 e1 => hc e e0 (by omega))
/-- the class's cells when it is published -/
def iv_PX (g : jv_Mem) (rows ch : Int → Int) (g' : jv_Mem) : Prop := (∀ i k, ¬ (i = 0 ∧ k = 9) → i ≠ 10 → i ≠ 12 → i ≠ 13 → i ≠ 17 → i ≠ 18 → ¬ (i = 30 + 3 * g 0 9 ∧ k = 2) → i ≠ 30 + 3 * g 0 9 + 1 → i ≠ 30 + 3 * g 0 9 + 2 → g' i k = g i k) ∧ g' 0 9 = g 0 9 + 1 ∧ g' (30 + 3 * g 0 9) 2 = g 0 11 ∧ (∀ c, 0 ≤ c → c < 9 → g' (30 + 3 * g 0 9 + 1) c = iv_dg (g 129 (rows (c / 3))) (c % 3)) ∧ (∀ e, 0 ≤ e → e < 6 → g' (30 + 3 * g 0 9 + 2) e = ch e) ∧ (∀ e, 0 ≤ e → e < 6 → g' 17 (ch e) = g 0 11 / 24) ∧ (∀ c, (∀ e, 0 ≤ e → e < 6 → ch e ≠ c) → g' 17 c = g 17 c)
theorem u_publishX {Q : Int → jv_Mem → Prop} {Qx : String → jv_Mem → Prop} {g : jv_Mem} (h2 : iJ2 g) (h3 : iJ3 g) (h4 : iJ4 g) (h5 : iJ5 g) (h6 : iJ6 g)
    (hE : ∀ (rows ch : Int → Int) (r : Int) (g' : jv_Mem), (∀ i, i ≠ 10 → i ≠ 12 → i ≠ 13 → i ≠ 18 → g' i = g i) → iv_out g rows ch r → r ≠ 6 → Qx "java/lang/IllegalStateException" g')
    (hY : ∀ (rows ch : Int → Int) (g' : jv_Mem), iv_out g rows ch 6 → iv_PX g rows ch g' → Q (g 0 9) g') : wp_X8_publish Q Qx g := by
  obtain ⟨m1, m2, m3, m4, m5⟩ := id h4
  obtain ⟨b1, b2, b3⟩ := id h5
  obtain ⟨d1, d2, d3, d4, d5⟩ := id h6
  have er := iv_F_rJ h2 (g 132)
  have eF : iv_F (g 132) (g 129) (g 128) (g 130) (g 7) (g 3 6).toNat = iv_Fg g := rfl
  rw [eF] at er
  unfold wp_X8_publish
  refine u_mayPub h5 h6 (fun hm => ⟨r01.2.1, fun h9 => absurd h9 (by omega), fun _ => ?_⟩) (fun hm => ⟨r01.1, fun _ => hE (fun _ => 0) (fun _ => 0) (-2) g (fun _ _ _ _ _ => rfl) (Or.inl ⟨rfl, hm⟩) (by omega), fun h9 => absurd rfl h9⟩)
  refine u_findClues h2 h3 h4 h5 hm (fun rows ch r g' f4 ho hr => ⟨r01.1, fun h9 => absurd rfl h9, fun _ => hE rows ch r g' f4 ho hr⟩) (fun g1 f4 ho => ⟨r01.2.1, fun _ => ?_, fun h9 => absurd h9 (by omega)⟩)
  have e0 : g1 0 = g 0 := f4 0 (by omega) (by omega) (by omega) (by omega)
  have hb : g 0 9 < 20 := hm.1
  have hcs : iv_cz g (g1 13) (g1 18) 6 ∧ (iv_Fg g).2.1 ≠ -1 ∧ g1 13 0 = (iv_Fg g).2.2.1 ∧ g1 13 1 = (iv_Fg g).2.2.2.1 ∧ g1 13 2 = (iv_Fg g).2.2.2.2 := by
    rcases ho with ⟨h, _⟩ | ⟨h, _⟩ | ⟨_, _, _, hF, q0, q1, q2, hcs, _⟩
    · exact absurd h (by omega)
    · exact absurd h (by omega)
    · exact ⟨hcs, hF, q0, q1, q2⟩
  obtain ⟨hcs, hF, q0, q1, q2⟩ := hcs
  have hR := er.2.2.2.2 hF
  have hr : ∀ x, 0 ≤ x → x < 3 → 0 ≤ g1 13 x ∧ g1 13 x < g 3 6 := fun x x0 x1 => by
    have hx : x = 0 ∨ x = 1 ∨ x = 2 := by omega
    rcases hx with e | e | e
    · rw [e, q0]; exact hR.1
    · rw [e, q1]; exact hR.2.1
    · rw [e, q2]; exact hR.2.2.1
  clear er hR
  have hch := iv_cz_r m2 hcs
  rw [e0]
  refine ⟨by omega, ?_⟩
  unfold wp_X3_appear
  rintro g2 eg2
  have s2 : ∀ i k, ¬ (i = 30 + 3 * g 0 9 ∧ k = 2) → g2 i k = g1 i k := fun i k hi => by rw [eg2, jv_up_n hi]
  refine ⟨fun m x gl => 0 ≤ x ∧ x ≤ 9 ∧ (∀ i k, i ≠ 30 + 3 * g 0 9 + 1 → gl i k = g2 i k) ∧ (∀ c, 0 ≤ c → c < x → gl (30 + 3 * g 0 9 + 1) c = iv_dg (g 129 (g1 13 (c / 3))) (c % 3)) ∧ m = (9 - x).toNat, ⟨_, by omega, by omega, fun _ _ _ => rfl, fun c c0 c1 => absurd c1 (by omega), rfl⟩, ?_⟩
  rintro m x gl ⟨a0, a1, a2, a3, a4⟩
  refine ⟨(by unfold jv_r; omega), fun h => ?_, fun h => ?_⟩
  · have e9 : x = 9 := by omega
    rw [e9] at a3
    clear a4 e9 h a0 a1 m x
    refine ⟨fun m y gm => 0 ≤ y ∧ y ≤ 6 ∧ (∀ i k, i ≠ 30 + 3 * g 0 9 + 2 → gm i k = gl i k) ∧ (∀ e, 0 ≤ e → e < y → gm (30 + 3 * g 0 9 + 2) e = g1 18 e) ∧ m = (6 - y).toNat, ⟨_, by omega, by omega, fun _ _ _ => rfl, fun c c0 c1 => absurd c1 (by omega), rfl⟩, ?_⟩
    rintro m y gm ⟨c0, c1, c2, c3, c4⟩
    have s18 : ∀ k, gm 18 k = g1 18 k := fun k => by rw [c2 18 k (by omega), a2 18 k (by omega), s2 18 k (by omega)]
    refine ⟨(by unfold jv_r; omega), fun h => ?_, fun h => ?_⟩
    · have e6 : y = 6 := by omega
      rw [e6] at c3
      unfold wp_X8_today
      have s11 : gm 0 11 = g 0 11 := by rw [c2 0 11 (by omega), a2 0 11 (by omega), s2 0 11 (by omega), e0]
      have ht : jv_div (g 0 11) 24 = g 0 11 / 24 := iv_div (by omega) (by omega) (by omega) (by omega)
      rw [s11, ht]
      refine u_useChosen (fun e x0 x1 => by rw [s18]; have := hch e x0 x1; omega) (fun g10 z1 z2 z3 => ?_)
      rintro g11 e11
      have s9 : g10 0 9 = g 0 9 := by rw [z1 0 9 (by omega), c2 0 9 (by omega), a2 0 9 (by omega), s2 0 9 (by omega), e0]
      have er : g11 0 9 = g 0 9 + 1 := by rw [e11, jv_up_e rfl rfl, s9]
      have er' : g11 0 9 - 1 = g 0 9 := by omega
      rw [er']
      refine hY (g1 13) (g1 18) g11 ho ⟨fun i k p1 p2 p3 p4 p5 p6 p7 p8 p9 => ?_, er, ?_, fun c x0 x1 => ?_, fun e x0 x1 => ?_, fun e x0 x1 => ?_, fun c hc => ?_⟩
      · rw [e11, jv_up_n p1, z1 i k p5, c2 i k p9, a2 i k p8, s2 i k p7, f4 i p2 p3 p4 p6]
      · rw [e11, jv_up_n (by omega), z1 _ 2 (by omega), c2 _ 2 (by omega), a2 _ 2 (by omega), eg2, jv_up_e rfl rfl]
      · rw [e11, jv_up_n (by omega), z1 _ c (by omega), c2 _ c (by omega)]; exact a3 c x0 x1
      · rw [e11, jv_up_n (by omega), z1 _ e (by omega)]; exact c3 e x0 x1
      · rw [e11, jv_up_n (by omega), ← s18]; exact z2 e x0 x1
      · rw [e11, jv_up_n (by omega), z3 c (fun e x0 x1 => by rw [s18]; exact hc e x0 x1), c2 17 c (by omega), a2 17 c (by omega), s2 17 c (by omega), f4 17 (by omega) (by omega) (by omega) (by omega)]
    · unfold wp_X0_chosen
      refine ⟨by omega, ?_⟩
      rw [s18]
      unfold wp_X3_setClue
      refine ⟨by omega, ?_⟩
      rintro g9 e9 v ev
      refine ⟨(6 - v).toNat, by omega, by omega, by omega, fun i k hi => by rw [e9, jv_up_n (by omega)]; exact c2 i k hi, fun e x0 x1 => ?_, rfl⟩
      by_cases q : e = y
      · rw [q, e9, jv_up_e rfl rfl]
      · rw [e9, jv_up_n (by omega)]; exact c3 e x0 (by omega)
  · have z1 : jv_div x 3 = x / 3 := iv_div (by omega) (by omega) (by omega) (by omega)
    have z2 : jv_rem x 3 = x % 3 := iv_rem (by omega) (by omega) (by omega) (by omega)
    have s13 : gl 13 (x / 3) = g1 13 (x / 3) := by rw [a2 13 _ (by omega), s2 13 _ (by omega)]
    have s129 : gl 129 = g 129 := funext fun k => by rw [a2 129 k (by omega), s2 129 k (by omega), f4 129 (by omega) (by omega) (by omega) (by omega)]
    have s3 : gl 3 6 = g 3 6 := by rw [a2 3 6 (by omega), s2 3 6 (by omega), f4 3 (by omega) (by omega) (by omega) (by omega)]
    have k2 : iJ2 gl := h2.fr (fun i k q => by unfold f2 at q; rw [a2 i k (by omega), s2 i k (by omega), f4 i (by omega) (by omega) (by omega) (by omega)])
    have hx := hr (x / 3) (by omega) (by omega)
    unfold wp_X6_bestLetter
    rw [z1, z2, s13]
    refine ⟨by omega, u_letterX k2 hx.1 (by rw [s3]; exact hx.2) (by omega) (by omega) ?_⟩
    rw [s129]
    unfold wp_X3_setLetter
    refine ⟨by omega, ?_⟩
    rintro g9 e9 v ev
    refine ⟨(9 - v).toNat, by omega, by omega, by omega, fun i k hi => by rw [e9, jv_up_n (by omega)]; exact a2 i k hi, fun c x0 x1 => ?_, rfl⟩
    by_cases q : c = x
    · rw [q, e9, jv_up_e rfl rfl]
    · rw [e9, jv_up_n (by omega)]; exact a3 c x0 (by omega)

