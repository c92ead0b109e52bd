/-! the streak anew -/
theorem iv_la_congr {R R' : Int → Int} {p m : Int} : ∀ {n : Nat}, n ≤ 9 → (∀ c : Int, 0 ≤ c → c < 9 → R' (p * 9 + c) = R (p * 9 + c)) → iv_la R' p m n = iv_la R p m n ∧ iv_sm R' p n = iv_sm R p n ∧ iv_al R' p m n = iv_al R p m n := by
  intro n
  induction n with
  | zero => intro _ _; exact ⟨rfl, rfl, rfl⟩
  | succ n ih =>
    intro hn h
    obtain ⟨a, b, c⟩ := ih (by omega) h
    simp only [iv_la, iv_sm, iv_al]
    rw [a, b, c, h (n : Nat) (by omega) (by omega)]
    exact ⟨rfl, rfl, rfl⟩
theorem iv_sl_congr {R R' : Int → Int} {p m a : Int} (h : ∀ c : Int, 0 ≤ c → c < 9 → R' (p * 9 + c) = R (p * 9 + c)) : iv_sl R' p m a = iv_sl R p m a := by
  obtain ⟨x, y, z⟩ := @iv_la_congr R R' p m 9 (by omega) h
  unfold iv_sl
  rw [x, y, z]
theorem u_begin {t o : Int} {Q : jv_Mem → Prop} {g : jv_Mem} (hQ : ∀ g' : jv_Mem, (∀ i k, i ≠ t + 1 → i ≠ t + 2 → ¬ (i = t ∧ k = 2) → g' i k = g i k) → g' t 2 = o → (∀ k, 0 ≤ k → k < 180 → g' (t + 1) k = -1) → (∀ d, 0 ≤ d → d < 1252 → g' (t + 2) d = 0) → Q g') : wp_X2_begin t o Q g := by
  unfold wp_X2_begin
  rintro g1 e1 g2 e2
  refine ⟨fun n x gl => 0 ≤ x ∧ x ≤ 1252 ∧ (∀ i k, i ≠ t + 1 → i ≠ t + 2 → ¬ (i = t ∧ k = 2) → gl i k = g i k) ∧ gl t 2 = o ∧ (∀ k, 0 ≤ k → k < 180 → gl (t + 1) k = -1) ∧ (∀ d, 0 ≤ d → d < x → gl (t + 2) d = 0) ∧ n = (1252 - x).toNat, ⟨_, by omega, by omega, fun i k p1 p2 p3 => by rw [e2, jv_fill_i p1, e1, jv_up_n p3], by rw [e2, jv_fill_i (by omega), e1, jv_up_e rfl rfl], fun k k0 k1 => by rw [e2, jv_fill_e rfl k0 k1], fun d d0 d1 => by omega, rfl⟩, ?_⟩
  rintro n x gl ⟨a0, a1, a2, a3, a4, a5, a6⟩
  refine ⟨(by unfold jv_r; omega), fun h => ?_, fun h => ⟨⟨a0, h⟩, ?_⟩⟩
  · exact hQ gl a2 a3 a4 (fun d d0 d1 => a5 d d0 (by omega))
  · rintro g3 rfl v ev
    refine ⟨(1252 - v).toNat, by omega, by omega, by omega, fun i k p1 p2 p3 => by rw [jv_up_n (by omega)]; exact a2 i k p1 p2 p3, by rw [jv_up_n (by omega)]; exact a3, fun k k0 k1 => by rw [jv_up_n (by omega)]; exact a4 k k0 k1, fun d d0 d1 => ?_, rfl⟩
    by_cases e : d = x
    · rw [jv_up_e rfl e]
    · rw [jv_up_n (by omega)]; exact a5 d d0 (by omega)
theorem u_countX2 {t p m a : Int} {Q : jv_Mem → Prop} {g : jv_Mem} (p0 : 0 ≤ p) (p1 : p < 20) (m0 : 0 ≤ m) (m1 : m < 512) (hr : ∀ c, 0 ≤ c → c < 9 → -1 ≤ g (t + 1) (p * 9 + c) ∧ g (t + 1) (p * 9 + c) ≤ 30001) (ha : 0 ≤ a ∧ a ≤ 30001) (o0 : -12 ≤ g t 2) (o1 : g t 2 ≤ 14)
    (hQ : ∀ g' : jv_Mem, (∀ i k, i ≠ t + 2 → g' i k = g i k) → (∀ d, g' (t + 2) d = iv_sc (iv_sl (g (t + 1)) p m a) (g t 2) d (g (t + 2) d)) → Q g') : wp_X2_countIfSolved t p m a Q g := by
  unfold wp_X2_countIfSolved
  have hv := @iv_sl_r (g (t + 1)) p m a hr ha
  refine u_solvedHour p0 p1 m0 m1 hr ⟨(by unfold jv_r; omega), fun h => ?_, fun h => ?_⟩
  · exact hQ g (fun _ _ _ => rfl) (fun d => by unfold iv_sc; rw [if_pos h])
  · have hd := @iv_day_r (g t 2) (iv_sl (g (t + 1)) p m a) (by omega) (by omega) o0 o1
    refine u_dayIndex (by omega) (by omega) ⟨hd, ?_⟩
    rintro g1 rfl
    refine hQ _ (fun i k q => jv_up_n (by omega)) (fun d => ?_)
    unfold iv_sc
    rw [if_neg h]
    by_cases e : d = iv_day (g t 2) (iv_sl (g (t + 1)) p m a)
    · rw [jv_up_e rfl e, if_pos e]
    · rw [jv_up_n (fun hh => e hh.2), if_neg e]
theorem iv_ro_op {sv pz pt : Int → Int} {p : Int} : ∀ {n : Nat}, (∀ e : Int, 0 ≤ e → e < n → sv e = -1 → 0 ≤ pt e ∧ pt e < 6) → ∃ j, 0 ≤ j ∧ j < 64 ∧ iv_ro sv pz pt n p = iv_op j := by
  intro n
  induction n with
  | zero => intro _; exact ⟨0, by omega, by omega, fb_7.symm⟩
  | succ n ih =>
    intro h
    obtain ⟨j, j0, j1, hj⟩ := ih (fun e e0 e1 => h e e0 (by omega))
    simp only [iv_ro]
    split
    · rename_i hc
      have hp := h (n : Nat) (by omega) (by omega) hc.1
      have := ib_st j0 j1 hp.1 hp.2
      exact ⟨_, this.2.1, this.2.2, by rw [hj]; exact this.1⟩
    · exact ⟨j, j0, j1, hj⟩
theorem iv_rr_r {sv pz pt hr : Int → Int} {s k : Int} : ∀ {n : Nat}, (∀ e : Int, 0 ≤ e → e < n → 0 ≤ hr e ∧ hr e ≤ 30000) → -1 ≤ iv_rr sv pz pt hr s n k ∧ iv_rr sv pz pt hr s n k ≤ 30001 := by
  intro n
  induction n with
  | zero => intro _; simp [iv_rr]
  | succ n ih =>
    intro h
    have h1 := ih (fun e e0 e1 => h e e0 (by omega))
    have h2 := h (n : Nat) (by omega) (by omega)
    simp only [iv_rr]
    split <;> omega
def iv_RS (g : jv_Mem) (s : Int) (e : Int) (gl : jv_Mem) : Prop := (∀ i k, i ≠ 26 → i ≠ 27 → i ≠ 28 → i ≠ 29 → gl i k = g i k) ∧ gl 26 2 = g 142 s ∧ (∀ k, 0 ≤ k → k < 180 → gl (26 + 1) k = iv_rr (g 22) (g 23) (g 24) (g 25) s e.toNat k) ∧ (∀ d, 0 ≤ d → d < 1252 → gl (26 + 2) d = iv_rc (g 22) (g 23) (g 24) (g 25) (g 137) s (g 142 s) e.toNat d) ∧ (∀ p, 0 ≤ p → p < 20 → gl 29 p = iv_ro (g 22) (g 23) (g 24) e.toNat p)
theorem u_replay {x4 s e : Int} {Q : jv_Mem → Prop} {g gl : jv_Mem} (h6 : iJ6 g) (h7 : iJ7 x4 g) (h8 : iJ8 x4 g) (hx : x4 ≤ 2560) (hh : g 0 11 ≤ 30000) (s0 : 0 ≤ s) (s1 : s < g 0 10) (e0 : 0 ≤ e) (e1 : e < g 21 4) (hR : iv_RS g s e gl) (hQ : ∀ g' : jv_Mem, iv_RS g s (e + 1) g' → Q g') : wp_X8_replay e s Q gl := by
  obtain ⟨r1, r2, r3, r4, r5⟩ := hR
  obtain ⟨y1, y2, y3, y4, -, -⟩ := h8
  obtain ⟨z1, z2, z3, z4, z5⟩ := y4 e e0 e1
  have hp := ex_p h6 z1 z2
  have hs := ex_s h7 s0 s1
  have en : ((e.toNat : Nat) : Int) = e := by omega
  have e1' : (e + 1).toNat = e.toNat + 1 := by omega
  have q22 : gl 22 e = g 22 e := r1 22 e (by omega) (by omega) (by omega) (by omega)
  have q23 : gl 23 e = g 23 e := r1 23 e (by omega) (by omega) (by omega) (by omega)
  have q24 : gl 24 e = g 24 e := r1 24 e (by omega) (by omega) (by omega) (by omega)
  have q25 : gl 25 e = g 25 e := r1 25 e (by omega) (by omega) (by omega) (by omega)
  -- the count after the change
  have cnt : ∀ gm : jv_Mem, (g 22 e = -1 ∨ g 22 e = s) → (∀ i k, i ≠ 26 → i ≠ 27 → i ≠ 28 → i ≠ 29 → gm i k = g i k) → gm 26 2 = g 142 s → (∀ k, 0 ≤ k → k < 180 → gm (26 + 1) k = iv_rr (g 22) (g 23) (g 24) (g 25) s (e + 1).toNat k) → (∀ d, 0 ≤ d → d < 1252 → gm (26 + 2) d = iv_rc (g 22) (g 23) (g 24) (g 25) (g 137) s (g 142 s) e.toNat d) → (∀ p, 0 ≤ p → p < 20 → gm 29 p = iv_ro (g 22) (g 23) (g 24) (e + 1).toNat p) → wB_X8_replay_84 Q (g 23 e) gm := by
    intro gm hc m1 m2 m3 m4 m5
    obtain ⟨j, j0, j1, hj⟩ := @iv_ro_op (g 22) (g 23) (g 24) (g 23 e) (e + 1).toNat (fun e' f0 f1 f2 => by
      have := (y4 e' f0 (by omega)).2.2.2.2
      omega)
    have hjr := ib_op j0 j1
    have hm5 := m5 (g 23 e) z1 hp.1
    refine ⟨⟨z1, hp.1⟩, ⟨z1, hp.1⟩, ?_⟩
    unfold wp_X3_hourOfAppearing
    have q30 : gm (30 + 3 * g 23 e) 2 = g 137 (g 23 e) := by rw [m1 _ _ (by omega) (by omega) (by omega) (by omega)]; exact hp.2.1
    rw [q30]
    have hrr : ∀ k, -1 ≤ iv_rr (g 22) (g 23) (g 24) (g 25) s (e + 1).toNat k ∧ iv_rr (g 22) (g 23) (g 24) (g 25) s (e + 1).toNat k ≤ 30001 := fun k => iv_rr_r (fun e' f0 f1 => by
      have := y4 e' f0 (by omega)
      omega)
    refine u_countX2 z1 hp.1 (by rw [hm5, hj]; exact hjr.1) (by rw [hm5, hj]; exact hjr.2) (fun c c0 c1 => ?_) (by omega) (by omega) (by omega) (fun g' t1 t2 => ?_)
    · rw [m3 _ (by omega) (by omega)]; exact hrr _
    · refine hQ g' ⟨fun i k p1 p2 p3 p4 => by rw [t1 i k p3]; exact m1 i k p1 p2 p3 p4, by rw [t1 26 2 (by omega)]; exact m2, fun k k0 k1 => by rw [t1 _ k (by omega)]; exact m3 k k0 k1, fun d d0 d1 => ?_, fun p p0 p1 => by rw [t1 29 p (by omega)]; exact m5 p p0 p1⟩
      have hsl : iv_sl (gm (26 + 1)) (g 23 e) (gm 29 (g 23 e)) (g 137 (g 23 e)) = iv_sl (iv_rr (g 22) (g 23) (g 24) (g 25) s (e + 1).toNat) (g 23 e) (iv_ro (g 22) (g 23) (g 24) (e + 1).toNat (g 23 e)) (g 137 (g 23 e)) := by
        rw [hm5]
        exact iv_sl_congr (fun c c0 c1 => m3 _ (by omega) (by omega))
      rw [t2 d, hsl, m2, m4 d d0 d1, e1']
      simp only [iv_rc]
      rw [en, if_pos hc]
  unfold wp_X8_replay wp_X1_puzzle wp_X1_solver wp_X1_part wp_X1_hourOf
  dsimp only
  rw [q22, q23]
  refine ⟨by omega, by omega, (by unfold jv_r; omega), fun hne => ⟨by omega, ?_⟩, fun he => ⟨⟨z1, hp.1⟩, by omega, ?_⟩⟩
  · refine ⟨⟨(by unfold jv_r; omega), (by unfold jv_r; omega)⟩, fun h => ?_, fun h => ⟨by omega, by omega, ?_⟩⟩
    · refine hQ gl ⟨r1, r2, fun k k0 k1 => ?_, fun d d0 d1 => ?_, fun p p0 p1 => ?_⟩
      · rw [r3 k k0 k1, e1']; simp only [iv_rr]; rw [en, if_neg (by omega)]
      · rw [r4 d d0 d1, e1']; simp only [iv_rc]; rw [en, if_neg (by omega)]
      · rw [r5 p p0 p1, e1']; simp only [iv_ro]; rw [en, if_neg (by omega)]
    · rw [q24, q25]
      unfold wp_X2_setRight
      refine ⟨by omega, ?_⟩
      rintro gm rfl
      refine cnt _ (Or.inr h) (fun i k p1 p2 p3 p4 => by rw [jv_up_n (by omega)]; exact r1 i k p1 p2 p3 p4) (by rw [jv_up_n (by omega)]; exact r2) (fun k k0 k1 => ?_) (fun d d0 d1 => by rw [jv_up_n (by omega)]; exact r4 d d0 d1) (fun p p0 p1 => ?_)
      · rw [e1']; simp only [iv_rr]; rw [en]
        by_cases ek : k = g 23 e * 9 + g 24 e
        · rw [jv_up_e rfl ek, if_pos ⟨h, ek⟩]
        · rw [jv_up_n (fun hh => ek hh.2), if_neg (fun hh => ek hh.2)]; exact r3 k k0 k1
      · rw [jv_up_n (by omega), e1']; simp only [iv_ro]; rw [en, if_neg (by omega)]; exact r5 p p0 p1
  · rw [q24]
    have hz : 0 ≤ g 24 e ∧ g 24 e < 6 := by omega
    refine u_cellsOf hz.1 hz.2 ⟨⟨z1, hp.1⟩, ?_⟩
    rintro gm rfl
    refine cnt _ (Or.inl he) (fun i k p1 p2 p3 p4 => by rw [jv_up_n (by omega)]; exact r1 i k p1 p2 p3 p4) (by rw [jv_up_n (by omega)]; exact r2) (fun k k0 k1 => ?_) (fun d d0 d1 => by rw [jv_up_n (by omega)]; exact r4 d d0 d1) (fun p p0 p1 => ?_)
    · rw [jv_up_n (by omega), e1']; simp only [iv_rr]; rw [en, if_neg (by omega)]; exact r3 k k0 k1
    · rw [e1']; simp only [iv_ro]; rw [en]
      by_cases ep : p = g 23 e
      · rw [jv_up_e rfl ep, if_pos ⟨he, ep⟩, ← r5 p p0 p1, ep]
      · rw [jv_up_n (fun hh => ep hh.2), if_neg (fun hh => ep hh.2)]; exact r5 p p0 p1
