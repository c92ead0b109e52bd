/-! THE INVARIANT: the house's cells and the reference's tell the same -/
theorem jv_up_e {g : jv_Mem} {i k v a b : Int} (h1 : a = i) (h2 : b = k) : jv_up g i k v a b = v := by simp [jv_up, h1, h2]
theorem jv_up_n {g : jv_Mem} {i k v a b : Int} (h : ¬ (a = i ∧ b = k)) : jv_up g i k v a b = g a b := by unfold jv_up; rw [if_neg h]
theorem jv_up_row {g : jv_Mem} {i k v a : Int} (h : a ≠ i) : jv_up g i k v a = g a := by funext b; simp [jv_up, h]
theorem jv_fill_e {g : jv_Mem} {r n v a b : Int} (h1 : a = r) (h2 : 0 ≤ b) (h3 : b < n) : jv_fill g r n v a b = v := by unfold jv_fill; rw [if_pos ⟨h1, h2, h3⟩]
theorem jv_fill_i {g : jv_Mem} {r n v a b : Int} (h1 : a ≠ r) : jv_fill g r n v a b = g a b := by unfold jv_fill; rw [if_neg (fun h => h1 h.1)]
theorem jv_rr {x : Int} (h0 : -2147483648 ≤ x) (h1 : x < 2147483648) : jv_r x := ⟨h0, h1⟩
/-- the digits of a code -/
def iv_dg (c k : Int) : Int := if k = 0 then c / 81 else if k = 1 then c / 9 % 9 else c % 9
/-- how many of the first words begin with the text of the code c -/
def iv_bg (lc : Int → Int) (c : Int) : Nat → Int
  | 0 => 0
  | n + 1 => iv_bg lc c n + (if 729 + lc (n : Nat) = c ∨ (729 + lc (n : Nat)) / 9 = c ∨ (729 + lc (n : Nat)) / 81 = c ∨ c = 1 then 1 else 0)
theorem iv_bg_congr {lc lc' : Int → Int} {c : Int} : ∀ {n : Nat}, (∀ i : Int, 0 ≤ i → i < n → lc' i = lc i) → iv_bg lc' c n = iv_bg lc c n := by
  intro n
  induction n with
  | zero => intro _; rfl
  | succ n ih => intro h; simp only [iv_bg]; rw [ih (fun i h0 h1 => h i h0 (by omega)), h n (by omega) (by omega)]
def iv_bit (m c : Int) : Int := jv_and (jv_shr m c) 1
/-- the cells of an entry; the bared cells by the entries judged wrong -/
def iv_ce (e : Int) : Int := if e < 3 then jv_shl 7 (3 * e) else jv_shl 73 (e - 3)
def iv_ok (j : Int) : Nat → Int
  | 0 => 0
  | n + 1 => jv_or (iv_ok j n) (if iv_bit j (n : Nat) = 1 then iv_ce (n : Nat) else 0)
def iv_op (j : Int) : Int := iv_ok j 6
def iv_day (o h : Int) : Int := (h + o + 24) / 24
/-- in which hour a solver solved the puzzle p: the hours of its right cells R, the set of the bared cells m, the hour of publishing a; -1: it has not -/
def iv_la (R : Int → Int) (p m : Int) : Nat → Int
  | 0 => -1
  | n + 1 => if iv_bit m (n : Nat) = 0 then (if iv_la R p m n < R (p * 9 + (n : Nat)) then R (p * 9 + (n : Nat)) else iv_la R p m n) else iv_la R p m n
def iv_sm (R : Int → Int) (p : Int) : Nat → Int
  | 0 => 0
  | n + 1 => if R (p * 9 + (n : Nat)) = -1 then iv_sm R p n else 1
def iv_al (R : Int → Int) (p m : Int) : Nat → Int
  | 0 => 1
  | n + 1 => if R (p * 9 + (n : Nat)) = -1 ∧ iv_bit m (n : Nat) = 0 then 0 else iv_al R p m n
def iv_sl (R : Int → Int) (p m a : Int) : Int := if iv_al R p m 9 = 1 ∧ iv_sm R p 9 = 1 then (if m = 511 then a else iv_la R p m 9) else -1
/-- days in a row -/
def iv_run (f : Int → Int) : Nat → Int
  | 0 => 0
  | n + 1 => if f (n : Nat) = 0 then 0 else iv_run f n + 1
def iv_stk (f : Int → Int) (d : Int) : Int := if f d = 0 then iv_run f d.toNat else iv_run f (d + 1).toNat
theorem iv_run_congr {f f' : Int → Int} : ∀ {n : Nat}, (∀ i : Int, 0 ≤ i → i < n → f' i = f i) → iv_run f' n = iv_run f n := by
  intro n
  induction n with
  | zero => intro _; rfl
  | succ n ih => intro h; simp only [iv_run]; rw [ih (fun i h0 h1 => h i h0 (by omega)), h n (by omega) (by omega)]
theorem iv_stk_congr {f f' : Int → Int} {d : Int} (h0 : 0 ≤ d) (h : ∀ i : Int, 0 ≤ i → i ≤ d → f' i = f i) : iv_stk f' d = iv_stk f d := by
  unfold iv_stk
  rw [h d h0 (by omega), iv_run_congr (fun i a b => h i a (by omega)), iv_run_congr (fun i a b => h i a (by omega))]
theorem iv_run_nn {f : Int → Int} : ∀ {n : Nat}, 0 ≤ iv_run f n ∧ iv_run f n ≤ n := by
  intro n
  induction n with
  | zero => exact ⟨by simp [iv_run], by simp [iv_run]⟩
  | succ n ih => simp only [iv_run]; split <;> omega
theorem iv_stk_nn {f : Int → Int} {d : Int} (h0 : 0 ≤ d) : 0 ≤ iv_stk f d ∧ iv_stk f d ≤ d + 1 := by
  unfold iv_stk
  have h1 := @iv_run_nn f d.toNat
  have h2 := @iv_run_nn f (d + 1).toNat
  split <;> omega
/-- the events, gone through: the bared cells; for the solver s with the offset o the hours of right cells and the days that count -/
def iv_ro (sv pz pt : Int → Int) : Nat → Int → Int
  | 0 => fun _ => 0
  | n + 1 => fun p => if sv (n : Nat) = -1 ∧ p = pz (n : Nat) then jv_or (iv_ro sv pz pt n p) (iv_ce (pt (n : Nat))) else iv_ro sv pz pt n p
def iv_rr (sv pz pt hr : Int → Int) (s : Int) : Nat → Int → Int
  | 0 => fun _ => -1
  | n + 1 => fun k => if sv (n : Nat) = s ∧ k = pz (n : Nat) * 9 + pt (n : Nat) then hr (n : Nat) else iv_rr sv pz pt hr s n k
def iv_sc (v o d c : Int) : Int := if v = -1 then c else if d = iv_day o v then 1 else c
def iv_rc (sv pz pt hr ap : Int → Int) (s o : Int) : Nat → Int → Int
  | 0 => fun _ => 0
  | n + 1 => fun d => if sv (n : Nat) = -1 ∨ sv (n : Nat) = s then iv_sc (iv_sl (iv_rr sv pz pt hr s (n + 1)) (pz (n : Nat)) (iv_ro sv pz pt (n + 1) (pz (n : Nat))) (ap (pz (n : Nat)))) o d (iv_rc sv pz pt hr ap s o n d) else iv_rc sv pz pt hr ap s o n d
theorem iv_ro_congr {sv pz pt sv' pz' pt' : Int → Int} : ∀ {n : Nat}, (∀ e : Int, 0 ≤ e → e < n → sv' e = sv e ∧ pz' e = pz e ∧ pt' e = pt e) → iv_ro sv' pz' pt' n = iv_ro sv pz pt n := by
  intro n
  induction n with
  | zero => intro _; rfl
  | succ n ih => intro h; funext p; simp only [iv_ro]; rw [ih (fun i h0 h1 => h i h0 (by omega)), (h n (by omega) (by omega)).1, (h n (by omega) (by omega)).2.1, (h n (by omega) (by omega)).2.2]
theorem iv_rr_congr {sv pz pt hr sv' pz' pt' hr' : Int → Int} {s : Int} : ∀ {n : Nat}, (∀ e : Int, 0 ≤ e → e < n → sv' e = sv e ∧ pz' e = pz e ∧ pt' e = pt e ∧ hr' e = hr e) → iv_rr sv' pz' pt' hr' s n = iv_rr sv pz pt hr s n := by
  intro n
  induction n with
  | zero => intro _; rfl
  | succ n ih =>
    intro h
    obtain ⟨a, b, c, d⟩ := h n (by omega) (by omega)
    funext p; simp only [iv_rr]; rw [ih (fun i h0 h1 => h i h0 (by omega)), a, b, c, d]
theorem iv_rc_congr {sv pz pt hr ap sv' pz' pt' hr' ap' : Int → Int} {s o : Int} : ∀ {n : Nat}, (∀ e : Int, 0 ≤ e → e < n → sv' e = sv e ∧ pz' e = pz e ∧ pt' e = pt e ∧ hr' e = hr e ∧ ap' (pz e) = ap (pz e)) → iv_rc sv' pz' pt' hr' ap' s o n = iv_rc sv pz pt hr ap s o n := by
  intro n
  induction n with
  | zero => intro _; rfl
  | succ n ih =>
    intro h
    obtain ⟨a, b, c, d, e⟩ := h n (by omega) (by omega)
    funext q; simp only [iv_rc]
    rw [ih (fun i h0 h1 => h i h0 (by omega)), iv_rr_congr (n := n + 1) (fun i h0 h1 => ⟨(h i h0 h1).1, (h i h0 h1).2.1, (h i h0 h1).2.2.1, (h i h0 h1).2.2.2.1⟩), iv_ro_congr (n := n + 1) (fun i h0 h1 => ⟨(h i h0 h1).1, (h i h0 h1).2.1, (h i h0 h1).2.2.1⟩), a, b, e]
/-- spelled, words, fixed, clues, hour, puzzles, solvers, events -/
def iJ1 (g : jv_Mem) : Prop := g 126 1 = g 1 1 ∧ 0 ≤ g 1 1 ∧ g 1 1 ≤ 3 ∧ ∀ i, 0 ≤ i → i < g 1 1 → g 127 i = g 2 i ∧ 0 ≤ g 2 i ∧ g 2 i < 9
def iJ2 (g : jv_Mem) : Prop := g 126 2 = g 3 6 ∧ 0 ≤ g 3 6 ∧ g 3 6 ≤ 30 ∧
  (∀ w, 0 ≤ w → w < g 3 6 → 0 ≤ g 129 w ∧ g 129 w < 729 ∧ g 4 w = 729 + g 129 w ∧ (∀ k, 0 ≤ k → k < 3 → g 5 ((w * 3) + k) = iv_dg (g 129 w) k) ∧ g 6 w = g 130 w ∧ 0 ≤ g 130 w ∧ g 130 w ≤ 99 ∧ g 128 (g 129 w) = w + 1) ∧
  (∀ c, 0 ≤ c → c < 729 → g 128 c = 0 ∨ (1 ≤ g 128 c ∧ g 128 c ≤ g 3 6 ∧ g 129 (g 128 c - 1) = c)) ∧
  (∀ c, 0 ≤ c → c < 1458 → g 9 c = (if 729 ≤ c then g 128 (c - 729) - 1 else -1) ∧ g 8 c = iv_bg (g 129) c (g 3 6).toNat) ∧
  (∀ i, 0 ≤ i → i < g 3 6 → 0 ≤ g 7 i ∧ g 7 i < g 3 6) ∧ (∀ i j, 0 ≤ i → i < j → j < g 3 6 → g 129 (g 7 i) < g 129 (g 7 j)) ∧
  (∀ w, 0 ≤ w → w < g 3 6 → ∃ i, 0 ≤ i ∧ i < g 3 6 ∧ g 7 i = w)
def iJ3 (g : jv_Mem) : Prop := ∀ c, 0 ≤ c → c < 9 → g 132 c = g 11 c + 1 ∧ -1 ≤ g 11 c ∧ g 11 c ≤ 8
def iJ4 (g : jv_Mem) : Prop := g 126 11 = g 14 4 ∧ 0 ≤ g 14 4 ∧ g 14 4 ≤ 60 ∧
  (∀ c, 0 ≤ c → c < g 14 4 → g 15 c = g 134 c ∧ 0 ≤ g 134 c ∧ g 134 c < 30 ∧ g 17 c = g 136 c - 1) ∧
  (∀ c, 0 ≤ c → c < 60 → g 16 c = g 135 c ∧ 0 ≤ g 135 c ∧ g 135 c ≤ 2 ∧ 0 ≤ g 136 c ∧ g 136 c ≤ 2000 ∧ (g 14 4 ≤ c → g 135 c = 0 ∧ g 136 c = 0))
def iJ5 (g : jv_Mem) : Prop := g 126 15 = g 0 11 ∧ 0 ≤ g 0 11 ∧ g 0 11 ≤ 30000
def iJ6 (g : jv_Mem) : Prop := g 126 16 = g 0 9 ∧ 0 ≤ g 0 9 ∧ g 0 9 ≤ 20 ∧
  (∀ p, 0 ≤ p → p < g 0 9 → g (30 + 3 * p) 2 = g 137 p ∧ 0 ≤ g 137 p ∧ g 137 p ≤ g 0 11 ∧ (∀ c, 0 ≤ c → c < 9 → g (30 + 3 * p + 1) c = g 138 ((9 * p) + c) ∧ 0 ≤ g 138 ((9 * p) + c) ∧ g 138 ((9 * p) + c) < 9) ∧ (∀ e, 0 ≤ e → e < 6 → g (30 + 3 * p + 2) e = g 139 ((6 * p) + e) ∧ 0 ≤ g 139 ((6 * p) + e) ∧ g 139 ((6 * p) + e) < 60)) ∧
  (∀ p, 0 ≤ p → p < 20 → g (30 + 3 * p) 3 = g 140 p ∧ 0 ≤ g 140 p ∧ g 140 p < 64 ∧ g (30 + 3 * p) 4 = iv_op (g 140 p) ∧ (g 0 9 ≤ p → g 140 p = 0))
def iJ7 (x4 : Int) (g : jv_Mem) : Prop := g 126 22 = g 0 10 ∧ 0 ≤ g 0 10 ∧ g 0 10 ≤ 6 ∧
  (∀ s, 0 ≤ s → s < g 0 10 → g (90 + 6 * s) 3 = g 143 s ∧ 0 ≤ g 143 s ∧ g 143 s ≤ 1000 + 72 * x4 ∧ g (90 + 6 * s + 1) 2 = g 142 s ∧ -12 ≤ g 142 s ∧ g 142 s ≤ 14 ∧
    (∀ p c, 0 ≤ p → p < 20 → 0 ≤ c → c < 9 → g (90 + 6 * s + 1 + 1) ((p * 9) + c) = g 144 (((180 * s) + (9 * p)) + c) - 1) ∧ (∀ d, 0 ≤ d → d < 1252 → g (90 + 6 * s + 1 + 2) d = g 147 ((1260 * s) + d))) ∧
  (∀ s, 0 ≤ s → s < 6 →
    (∀ p c, 0 ≤ p → p < 20 → 0 ≤ c → c < 9 → 0 ≤ g 144 (((180 * s) + (9 * p)) + c) ∧ g 144 (((180 * s) + (9 * p)) + c) ≤ 30001 ∧ (g 0 10 ≤ s → g 144 (((180 * s) + (9 * p)) + c) = 0)) ∧
    (∀ d, 0 ≤ d → d < 1252 → (g 147 ((1260 * s) + d) = 0 ∨ g 147 ((1260 * s) + d) = 1) ∧ (g 0 10 ≤ s → g 147 ((1260 * s) + d) = 0)) ∧
    (∀ p, 0 ≤ p → p < 20 → g (90 + 6 * s + 5) p = g 146 ((20 * s) + p) ∧ 0 ≤ g 146 ((20 * s) + p) ∧ 5 * g 146 ((20 * s) + p) ≤ x4) ∧
    (∀ p c, 0 ≤ p → p < 20 → 0 ≤ c → c < 9 → 0 ≤ g (90 + 6 * s + 4) ((p * 9) + c) ∧ g (90 + 6 * s + 4) ((p * 9) + c) ≤ 40 ∧ g 145 (((180 * s) + (9 * p)) + c) = (if iv_bit (g (30 + 3 * p) 4) c = 0 then g (90 + 6 * s + 4) ((p * 9) + c) else 0) ∧ (g 0 10 ≤ s → g (90 + 6 * s + 4) ((p * 9) + c) = 0)))
def iJ8 (x4 : Int) (g : jv_Mem) : Prop := 0 ≤ g 21 4 ∧ g 0 10 ≤ 6 ∧ 5 * g 21 4 ≤ x4 ∧
  (∀ e, 0 ≤ e → e < g 21 4 → 0 ≤ g 23 e ∧ g 23 e < g 0 9 ∧ 0 ≤ g 25 e ∧ g 25 e ≤ 30000 ∧ ((g 22 e = -1 ∧ 0 ≤ g 24 e ∧ g 24 e < 6) ∨ (0 ≤ g 22 e ∧ g 22 e < g 0 10 ∧ 0 ≤ g 24 e ∧ g 24 e < 9))) ∧
  (∀ p, 0 ≤ p → p < 20 → iv_ro (g 22) (g 23) (g 24) (g 21 4).toNat p = g (30 + 3 * p) 4) ∧
  (∀ s, 0 ≤ s → s < g 0 10 → (∀ k, 0 ≤ k → k < 180 → iv_rr (g 22) (g 23) (g 24) (g 25) s (g 21 4).toNat k = g (90 + 6 * s + 1 + 1) k) ∧ (∀ d, 0 ≤ d → d < 1252 → iv_rc (g 22) (g 23) (g 24) (g 25) (g 137) s (g 142 s) (g 21 4).toNat d = g (90 + 6 * s + 1 + 2) d))
def iJ (x4 : Int) (g : jv_Mem) : Prop := 0 ≤ x4 ∧ iJ1 g ∧ iJ2 g ∧ iJ3 g ∧ iJ4 g ∧ iJ5 g ∧ iJ6 g ∧ iJ7 x4 g ∧ iJ8 x4 g
def f1 (i k : Int) : Prop := (i = 1 ∧ k = 1) ∨ i = 2 ∨ i = 127 ∨ (i = 126 ∧ k = 1)
def f2 (i k : Int) : Prop := (i = 3 ∧ k = 6) ∨ (4 ≤ i ∧ i ≤ 9) ∨ (128 ≤ i ∧ i ≤ 130) ∨ (i = 126 ∧ k = 2)
def f3 (i k : Int) : Prop := i = 11 ∨ i = 132
def f4 (i k : Int) : Prop := (i = 14 ∧ k = 4) ∨ (15 ≤ i ∧ i ≤ 17) ∨ (134 ≤ i ∧ i ≤ 136) ∨ (i = 126 ∧ k = 11)
def f5 (i k : Int) : Prop := (i = 0 ∧ k = 11) ∨ (i = 126 ∧ k = 15)
def f6 (i k : Int) : Prop := (i = 0 ∧ (k = 9 ∨ k = 11)) ∨ (i = 126 ∧ k = 16) ∨ (30 ≤ i ∧ i < 90) ∨ (137 ≤ i ∧ i ≤ 140)
def f7 (i k : Int) : Prop := (i = 0 ∧ k = 10) ∨ (i = 126 ∧ k = 22) ∨ (142 ≤ i ∧ i ≤ 147) ∨ (90 ≤ i ∧ i < 126) ∨ (30 ≤ i ∧ i < 90 ∧ k = 4 ∧ i % 3 = 0)
def f8 (i k : Int) : Prop := (i = 21 ∧ k = 4) ∨ (22 ≤ i ∧ i ≤ 25) ∨ (i = 0 ∧ (k = 9 ∨ k = 10)) ∨ i = 137 ∨ i = 142 ∨ (90 ≤ i ∧ i < 126) ∨ (30 ≤ i ∧ i < 90 ∧ k = 4 ∧ i % 3 = 0)
theorem iJ1.fr {g g' : jv_Mem} (h : iJ1 g) (f : ∀ i k, f1 i k → g' i k = g i k) : iJ1 g' := by
  obtain ⟨a, b, c, d⟩ := h
  unfold iJ1
  rw [f 126 1 (by unfold f1; omega), f 1 1 (by unfold f1; omega)]
  refine ⟨a, b, c, fun i h0 h1 => ?_⟩
  rw [f 127 i (by unfold f1; omega), f 2 i (by unfold f1; omega)]
  exact d i h0 h1
theorem iJ2.fr {g g' : jv_Mem} (h : iJ2 g) (f : ∀ i k, f2 i k → g' i k = g i k) : iJ2 g' := by
  unfold iJ2
  have r : ∀ i, (4 ≤ i ∧ i ≤ 9) ∨ (128 ≤ i ∧ i ≤ 130) → g' i = g i := fun i hi => funext fun k => f i k (by unfold f2; omega)
  rw [f 126 2 (by unfold f2; omega), f 3 6 (by unfold f2; omega), r 4 (by omega), r 5 (by omega), r 6 (by omega), r 7 (by omega), r 8 (by omega), r 9 (by omega), r 128 (by omega), r 129 (by omega), r 130 (by omega)]
  exact h
theorem iJ3.fr {g g' : jv_Mem} (h : iJ3 g) (f : ∀ i k, f3 i k → g' i k = g i k) : iJ3 g' := by
  intro c h0 h1
  rw [f 132 c (by unfold f3; omega), f 11 c (by unfold f3; omega)]
  exact h c h0 h1
theorem iJ4.fr {g g' : jv_Mem} (h : iJ4 g) (f : ∀ i k, f4 i k → g' i k = g i k) : iJ4 g' := by
  unfold iJ4
  have r : ∀ i, (15 ≤ i ∧ i ≤ 17) ∨ (134 ≤ i ∧ i ≤ 136) → g' i = g i := fun i hi => funext fun k => f i k (by unfold f4; omega)
  rw [f 126 11 (by unfold f4; omega), f 14 4 (by unfold f4; omega), r 15 (by omega), r 16 (by omega), r 17 (by omega), r 134 (by omega), r 135 (by omega), r 136 (by omega)]
  exact h
theorem iJ5.fr {g g' : jv_Mem} (h : iJ5 g) (f : ∀ i k, f5 i k → g' i k = g i k) : iJ5 g' := by
  unfold iJ5
  rw [f 126 15 (by unfold f5; omega), f 0 11 (by unfold f5; omega)]
  exact h
theorem iJ6.fr {g g' : jv_Mem} (h : iJ6 g) (f : ∀ i k, f6 i k → g' i k = g i k) : iJ6 g' := by
  have r : ∀ i, (30 ≤ i ∧ i < 90) ∨ (137 ≤ i ∧ i ≤ 140) → g' i = g i := fun i hi => funext fun k => f i k (by unfold f6; omega)
  obtain ⟨a, b, c, d, e⟩ := h
  unfold iJ6
  rw [f 126 16 (by unfold f6; omega), f 0 9 (by unfold f6; omega), f 0 11 (by unfold f6; omega), r 137 (by omega), r 138 (by omega), r 139 (by omega), r 140 (by omega)]
  refine ⟨a, b, c, fun p h0 h1 => ?_, fun p h0 h1 => ?_⟩
  · rw [r (30 + 3 * p) (by omega), r (30 + 3 * p + 1) (by omega), r (30 + 3 * p + 2) (by omega)]
    exact d p h0 h1
  · rw [r (30 + 3 * p) (by omega)]
    exact e p h0 h1
theorem iJ7.fr {x4 x4' : Int} {g g' : jv_Mem} (h : iJ7 x4 g) (hx : x4 ≤ x4') (f : ∀ i k, f7 i k → g' i k = g i k) : iJ7 x4' g' := by
  have r : ∀ i, (90 ≤ i ∧ i < 126) ∨ (142 ≤ i ∧ i ≤ 147) → g' i = g i := fun i hi => funext fun k => f i k (by unfold f7; omega)
  obtain ⟨a, b, c, d, e⟩ := h
  unfold iJ7
  rw [f 126 22 (by unfold f7; omega), f 0 10 (by unfold f7; omega), r 142 (by omega), r 143 (by omega), r 144 (by omega), r 145 (by omega), r 146 (by omega), r 147 (by omega)]
  refine ⟨a, b, c, fun s h0 h1 => ?_, fun s h0 h1 => ?_⟩
  · rw [r (90 + 6 * s) (by omega), r (90 + 6 * s + 1) (by omega), r (90 + 6 * s + 1 + 1) (by omega), r (90 + 6 * s + 1 + 2) (by omega)]
    obtain ⟨d1, d2, d3, d4⟩ := d s h0 h1
    exact ⟨d1, d2, by omega, d4⟩
  · rw [r (90 + 6 * s + 5) (by omega), r (90 + 6 * s + 4) (by omega)]
    obtain ⟨d1, d2, d3, d4⟩ := e s h0 h1
    refine ⟨d1, d2, fun p p0 p1 => ⟨(d3 p p0 p1).1, (d3 p p0 p1).2.1, by have := (d3 p p0 p1).2.2; omega⟩, fun p c p0 p1 c0 c1 => ?_⟩
    rw [f (30 + 3 * p) 4 (by unfold f7; omega)]
    exact d4 p c p0 p1 c0 c1
theorem iJ8.fr {x4 x4' : Int} {g g' : jv_Mem} (h : iJ8 x4 g) (hx : x4 ≤ x4') (f : ∀ i k, f8 i k → g' i k = g i k) : iJ8 x4' g' := by
  have r : ∀ i, (22 ≤ i ∧ i ≤ 25) ∨ (90 ≤ i ∧ i < 126) ∨ i = 137 ∨ i = 142 → g' i = g i := fun i hi => funext fun k => f i k (by unfold f8; omega)
  obtain ⟨a, a6, b, c, d, e⟩ := h
  unfold iJ8
  rw [f 21 4 (by unfold f8; omega), f 0 9 (by unfold f8; omega), f 0 10 (by unfold f8; omega), r 22 (by omega), r 23 (by omega), r 24 (by omega), r 25 (by omega), r 137 (by omega), r 142 (by omega)]
  refine ⟨a, a6, by omega, c, fun p h0 h1 => ?_, fun s h0 h1 => ?_⟩
  · rw [f (30 + 3 * p) 4 (by unfold f8; omega)]
    exact d p h0 h1
  · rw [r (90 + 6 * s + 1 + 1) (by omega), r (90 + 6 * s + 1 + 2) (by omega)]
    exact e s h0 h1
/-- the places that tell nothing between calls -/
def jv_scr (i k : Int) : Prop := i = 148 ∨ (i = 126 ∧ (k = 29 ∨ k = 8 ∨ k = 9)) ∨ i = 10 ∨ i = 12 ∨ i = 13 ∨ i = 18 ∨ (26 ≤ i ∧ i ≤ 29) ∨ i = 131 ∨ i = 133 ∨ i = 141
theorem iJ.fr {x4 x4' : Int} {g g' : jv_Mem} (h : iJ x4 g) (hx : x4 ≤ x4') (f : ∀ i k, ¬ jv_scr i k → g' i k = g i k) : iJ x4' g' := by
  obtain ⟨h0, h1, h2, h3, h4, h5, h6, h7, h8⟩ := h
  exact ⟨by omega, h1.fr fun i k q => f i k (by unfold f1 at q; unfold jv_scr; omega), h2.fr fun i k q => f i k (by unfold f2 at q; unfold jv_scr; omega), h3.fr fun i k q => f i k (by unfold f3 at q; unfold jv_scr; omega), h4.fr fun i k q => f i k (by unfold f4 at q; unfold jv_scr; omega), h5.fr fun i k q => f i k (by unfold f5 at q; unfold jv_scr; omega), h6.fr fun i k q => f i k (by unfold f6 at q; unfold jv_scr; omega), h7.fr hx fun i k q => f i k (by unfold f7 at q; unfold jv_scr; omega), h8.fr hx fun i k q => f i k (by unfold f8 at q; unfold jv_scr; omega)⟩
theorem jv_fun_up {g : jv_Mem} {i k v : Int} (h : jv_scr i k) : ∀ a b, ¬ jv_scr a b → jv_up g i k v a b = g a b := fun a b hn => jv_up_n (fun e => hn (by rw [e.1, e.2]; exact h))

