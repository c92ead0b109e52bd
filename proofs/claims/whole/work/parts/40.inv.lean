/-! THE INVARIANT: the house's cells and the reference's tell the same -/
theorem jv_up_row {g : jv_Mem} {i k v a : Int} (h : a ≠ i) : jv_up g i k v a = g a := by funext b; simp [jv_up, h]
theorem jv_sx_r (xs : Nat → Int32) (j : Int) : jv_r (jv_sx xs j) := ⟨Int32.le_toInt _, Int32.toInt_lt _⟩
/-- sums -/
def jv_sum (f : Int → Int) : Nat → Int
  | 0 => 0
  | n + 1 => jv_sum f n + f (n : Nat)
theorem jv_sum_congr {f f' : Int → Int} : ∀ {n : Nat}, (∀ i : Int, 0 ≤ i → i < n → f i = f' i) → jv_sum f n = jv_sum f' n := by
  intro n
  induction n with
  | zero => intro _; rfl
  | succ n ih => intro h; simp only [jv_sum]; rw [ih (fun i h0 h1 => h i h0 (by omega)), h n (by omega) (by omega)]
/-- the spelled text -/
def iv_sp (n n' : Int) (s t : Int → Int) : Prop := n = n' ∧ 0 ≤ n ∧ n ≤ 3 ∧ ∀ i, 0 ≤ i → i < n → s i = t i ∧ 0 ≤ s i ∧ s i < 9
/-- how many of the first n words begin with the text of the code c -/
def iv_bc (lc : Int → Int) (n c : Int) : Int := jv_sum (fun w => if 729 + lc w = c ∨ (729 + lc w) / 9 = c ∨ (729 + lc w) / 81 = c ∨ 1 = c then 1 else 0) n.toNat
/-- the words: n of them; the house's codes cd, letters lt, weights wt, order od, beginnings bg, numbers nu; the reference's byLetters bl, letters lc, weights wr -/
def iv_wd (n n' : Int) (cd lt wt od bg nu bl lc wr : Int → Int) : Prop := n = n' ∧ 0 ≤ n ∧ n ≤ 30 ∧
  (∀ w, 0 ≤ w → w < n → 0 ≤ lc w ∧ lc w < 729 ∧ cd w = 729 + lc w ∧ lt (3 * w) = lc w / 81 ∧ lt (3 * w + 1) = lc w / 9 % 9 ∧ lt (3 * w + 2) = lc w % 9 ∧ wt w = wr w ∧ 0 ≤ wr w ∧ wr w ≤ 99) ∧
  (∀ w, 0 ≤ w → w < n → bl (lc w) = w + 1) ∧ (∀ c, 0 ≤ c → c < 729 → bl c = 0 ∨ ∃ w, 0 ≤ w ∧ w < n ∧ lc w = c) ∧
  (∀ c, 0 ≤ c → c < 1458 → nu c = if 729 ≤ c then bl (c - 729) - 1 else -1) ∧
  (∀ c, 0 ≤ c → c < 1458 → bg c = iv_bc lc n c) ∧
  (∀ i, 0 ≤ i → i < n → 0 ≤ od i ∧ od i < n) ∧ (∀ i j, 0 ≤ i → i < j → j < n → lc (od i) < lc (od j))
/-- the fixed letters -/
def iv_sq (fx fr : Int → Int) : Prop := ∀ c, 0 ≤ c → c < 9 → fr c = fx c + 1 ∧ -1 ≤ fx c ∧ fx c ≤ 8
/-- the clues -/
def iv_cl (n n' nw hour : Int) (wo st ld wr sr us : Int → Int) : Prop := n = n' ∧ 0 ≤ n ∧ n ≤ 60 ∧
  (∀ c, 0 ≤ c → c < n → wo c = wr c ∧ 0 ≤ wr c ∧ wr c < nw ∧ ld c = us c - 1) ∧
  (∀ c, 0 ≤ c → c < 60 → st c = sr c ∧ 0 ≤ sr c ∧ sr c ≤ 2 ∧ 0 ≤ us c ∧ us c ≤ hour / 24 + 1 ∧ (n ≤ c → sr c = 0 ∧ us c = 0))
def iv_hr (h h' : Int) : Prop := h = h' ∧ 0 ≤ h ∧ h ≤ 30000
/-- the open cells by the entries judged wrong -/
def iv_e6 (e : Nat) : Nat := if e < 3 then 7 * 8 ^ e else 73 * 2 ^ (e - 3)
def iv_op (j : Int) : Int := ((List.range 6).foldl (fun s e => if j.toNat.testBit e then s ||| iv_e6 e else s) 0 : Nat)
/-- the puzzles: the house's objects by their numbers (ob, letters lt, clues cl), the reference's published pu, letters pl, clues pc, judged ju -/
def iv_pz (n n' hour : Int) (ob lt cl : Int → Int → Int) (pu pl pc ju : Int → Int) : Prop := n = n' ∧ 0 ≤ n ∧ n ≤ 20 ∧
  (∀ p, 0 ≤ p → p < n → ob p 2 = pu p ∧ 0 ≤ pu p ∧ pu p ≤ hour ∧ (∀ c, 0 ≤ c → c < 9 → lt p c = pl (9 * p + c) ∧ 0 ≤ pl (9 * p + c) ∧ pl (9 * p + c) < 9) ∧ (∀ e, 0 ≤ e → e < 6 → cl p e = pc (6 * p + e) ∧ 0 ≤ pc (6 * p + e) ∧ pc (6 * p + e) < 60)) ∧
  (∀ p, 0 ≤ p → p < 20 → ob p 3 = ju p ∧ 0 ≤ ju p ∧ ju p < 64 ∧ ob p 4 = iv_op (ju p) ∧ (n ≤ p → ju p = 0))
/-- a cell is open -/
def iv_bit (m c : Int) : Bool := m.toNat.testBit c.toNat
/-- the solvers -/
def iv_sv (x4 n n' hour : Int) (ju : Int → Int) (so pg rh ct pd th : Int → Int → Int) (of pu rg pp hp cn : Int → Int) : Prop := n = n' ∧ 0 ≤ n ∧ n ≤ 6 ∧
  (∀ s, 0 ≤ s → s < n → so s 3 = pu s ∧ 0 ≤ pu s ∧ pu s ≤ 1000 + 72 * x4 ∧ pg s 2 = of s ∧ -12 ≤ of s ∧ of s ≤ 14 ∧ (∀ k, 0 ≤ k → k < 180 → rh s k = rg (180 * s + k) - 1) ∧ (∀ d, 0 ≤ d → d < 1252 → ct s d = cn (1260 * s + d))) ∧
  (∀ s, 0 ≤ s → s < 6 → (∀ k, 0 ≤ k → k < 180 → 0 ≤ rg (180 * s + k) ∧ rg (180 * s + k) ≤ hour + 1 ∧ (n ≤ s → rg (180 * s + k) = 0)) ∧ (∀ d, 0 ≤ d → d < 1252 → (cn (1260 * s + d) = 0 ∨ cn (1260 * s + d) = 1) ∧ (n ≤ s → cn (1260 * s + d) = 0)) ∧
    (∀ p, 0 ≤ p → p < 20 → th s p = hp (20 * s + p) ∧ 0 ≤ hp (20 * s + p) ∧ 5 * hp (20 * s + p) ≤ x4 ∧ (∀ c, 0 ≤ c → c < 9 → 0 ≤ pd s (9 * p + c) ∧ pd s (9 * p + c) ≤ 40 ∧ pp (180 * s + (9 * p + c)) = if iv_bit (iv_op (ju p)) c then 0 else pd s (9 * p + c))))
/-- in which hour a solver solved the puzzle p: the hours of its right cells R, the set of the open cells m, the hour of publishing a; -1: it has not -/
def iv_slv (R : Int → Int) (p m a : Int) : Int :=
  if (∀ c : Fin 9, ¬ R (9 * p + c.val) = -1 ∨ iv_bit m c.val = true) ∧ (∃ c : Fin 9, ¬ R (9 * p + c.val) = -1) then
    (if m = 511 then a else (List.range 9).foldl (fun (t : Int) (c : Nat) => if iv_bit m c then t else max t (R (9 * p + c))) (-1))
  else -1
def iv_day (o h : Int) : Int := (h + o + 24) / 24
def iv_set (f : Int → Int) (k v : Int) : Int → Int := fun j => if j = k then v else f j
/-- the events, gone through for the solver s with the offset o: hours of right cells, sets of open cells, days that count -/
def iv_cellsOf (e : Int) : Int := (iv_e6 e.toNat : Nat)
def iv_step (sv pz pt hr : Int → Int) (ap : Int → Int) (s o : Int) (e : Int) (st : (Int → Int) × (Int → Int) × (Int → Int)) : (Int → Int) × (Int → Int) × (Int → Int) :=
  let cnt : (Int → Int) × (Int → Int) × (Int → Int) → (Int → Int) × (Int → Int) × (Int → Int) := fun t =>
    let h := iv_slv t.1 (pz e) (t.2.1 (pz e)) (ap (pz e))
    if h = -1 then t else (t.1, t.2.1, iv_set t.2.2 (iv_day o h) 1)
  if sv e = -1 then cnt (st.1, iv_set st.2.1 (pz e) ((st.2.1 (pz e)).toNat ||| (iv_cellsOf (pt e)).toNat : Nat), st.2.2)
  else if sv e = s then cnt (iv_set st.1 (9 * pz e + pt e) (hr e), st.2.1, st.2.2)
  else st
def iv_rp (sv pz pt hr ap : Int → Int) (s o : Int) : Nat → (Int → Int) × (Int → Int) × (Int → Int)
  | 0 => (fun _ => -1, fun _ => 0, fun _ => 0)
  | n + 1 => iv_step sv pz pt hr ap s o (n : Nat) (iv_rp sv pz pt hr ap s o n)
def iv_ev (x4 n np ns hour : Int) (sv pz pt hr : Int → Int) (ob pg rh ct : Int → Int → Int) : Prop := 0 ≤ n ∧ 5 * n ≤ x4 ∧
  (∀ e, 0 ≤ e → e < n → 0 ≤ pz e ∧ pz e < np ∧ 0 ≤ hr e ∧ hr e ≤ hour ∧ ((sv e = -1 ∧ 0 ≤ pt e ∧ pt e < 6) ∨ (0 ≤ sv e ∧ sv e < ns ∧ 0 ≤ pt e ∧ pt e < 9))) ∧
  (∀ s, 0 ≤ s → s < ns → (∀ k, 0 ≤ k → k < 180 → (iv_rp sv pz pt hr (fun p => ob p 2) s (pg s 2) n.toNat).1 k = rh s k) ∧ (∀ p, 0 ≤ p → p < 20 → (iv_rp sv pz pt hr (fun p => ob p 2) s (pg s 2) n.toNat).2.1 p = ob p 4) ∧ (∀ d, 0 ≤ d → d < 1252 → (iv_rp sv pz pt hr (fun p => ob p 2) s (pg s 2) n.toNat).2.2 d = ct s d)) ∧
  (∀ s, ns ≤ s → s < 6 → ∀ p, 0 ≤ p → p < 20 → (iv_rp sv pz pt hr (fun p => ob p 2) s (pg s 2) n.toNat).2.1 p = ob p 4)
def iv_all (x4 : Int) (g : jv_Mem) : Prop :=
  iv_sp (g 1 1) (g 126 1) (g 2) (g 127) ∧
  iv_wd (g 3 6) (g 126 2) (g 4) (g 5) (g 6) (g 7) (g 8) (g 9) (g 128) (g 129) (g 130) ∧
  iv_sq (g 11) (g 132) ∧
  iv_cl (g 14 4) (g 126 11) (g 3 6) (g 0 11) (g 15) (g 16) (g 17) (g 134) (g 135) (g 136) ∧
  iv_hr (g 0 11) (g 126 15) ∧
  iv_pz (g 0 9) (g 126 16) (g 0 11) (fun p => g (30 + 3 * p)) (fun p => g (30 + 3 * p + 1)) (fun p => g (30 + 3 * p + 2)) (g 137) (g 138) (g 139) (g 140) ∧
  iv_sv x4 (g 0 10) (g 126 22) (g 0 11) (g 140) (fun s => g (90 + 6 * s)) (fun s => g (90 + 6 * s + 1)) (fun s => g (90 + 6 * s + 1 + 1)) (fun s => g (90 + 6 * s + 1 + 2)) (fun s => g (90 + 6 * s + 4)) (fun s => g (90 + 6 * s + 5)) (g 142) (g 143) (g 144) (g 145) (g 146) (g 147) ∧
  iv_ev x4 (g 21 4) (g 0 9) (g 0 10) (g 0 11) (g 22) (g 23) (g 24) (g 25) (fun p => g (30 + 3 * p)) (fun s => g (90 + 6 * s + 1)) (fun s => g (90 + 6 * s + 1 + 1)) (fun s => g (90 + 6 * s + 1 + 2))
def jv_Iv (x4 : Int) (g : jv_Mem) : Prop := 0 ≤ x4 ∧ iv_all x4 g
/-- the places that tell nothing between calls -/
def jv_scr (i k : Int) : Prop := i = 148 ∨ (i = 126 ∧ (k = 29 ∨ k = 8 ∨ k = 9)) ∨ i = 10 ∨ i = 12 ∨ i = 13 ∨ i = 18 ∨ (26 ≤ i ∧ i ≤ 29) ∨ i = 131 ∨ i = 133 ∨ i = 141
def jv_ag (g g' : jv_Mem) : Prop := ∀ i k, ¬ jv_scr i k → g' i k = g i k
theorem jv_ag.rf {g : jv_Mem} : jv_ag g g := fun _ _ _ => rfl
theorem jv_ag.trans {g g1 g2 : jv_Mem} (h1 : jv_ag g g1) (h2 : jv_ag g1 g2) : jv_ag g g2 := fun i k h => (h2 i k h).trans (h1 i k h)
theorem jv_ag.up {g g1 : jv_Mem} (h : jv_ag g g1) {i k v : Int} (hs : jv_scr i k) : jv_ag g (jv_up g1 i k v) := by
  intro a b hn
  unfold jv_up
  rw [if_neg (fun e => hn (by rw [e.1, e.2]; exact hs))]
  exact h a b hn
theorem jv_ag.row {g g' : jv_Mem} (h : jv_ag g g') (i : Int) (hi : ∀ k, ¬ jv_scr i k) : g' i = g i := funext fun k => h i k (hi k)
theorem jv_ag.Iv {g g' : jv_Mem} (h : jv_ag g g') {x4 : Int} (hI : jv_Iv x4 g) : jv_Iv x4 g' := by
  have r : ∀ i : Int, ¬ (i = 148 ∨ i = 126 ∨ i = 10 ∨ i = 12 ∨ i = 13 ∨ i = 18 ∨ (26 ≤ i ∧ i ≤ 29) ∨ i = 131 ∨ i = 133 ∨ i = 141) → i < 30 ∨ 126 ≤ i → g' i = g i := fun i hi _ => h.row i (fun k hk => hi (by unfold jv_scr at hk; omega))
  have r2 : ∀ i : Int, 30 ≤ i → i < 126 → g' i = g i := fun i h1 h2 => h.row i (fun k hk => by unfold jv_scr at hk; omega)
  have f : ∀ k : Int, k ≠ 29 → k ≠ 8 → k ≠ 9 → g' 126 k = g 126 k := fun k a b c => h 126 k (by unfold jv_scr; omega)
  obtain ⟨hx, a1, a2, a3, a4, a5, a6, a7, a8⟩ := hI
  have p0 : ∀ p : Int, 0 ≤ p → p < 20 → g' (30 + 3 * p) = g (30 + 3 * p) := fun p _ _ => r2 _ (by omega) (by omega)
  have p1 : ∀ p : Int, 0 ≤ p → p < 20 → g' (30 + 3 * p + 1) = g (30 + 3 * p + 1) := fun p _ _ => r2 _ (by omega) (by omega)
  have p2 : ∀ p : Int, 0 ≤ p → p < 20 → g' (30 + 3 * p + 2) = g (30 + 3 * p + 2) := fun p _ _ => r2 _ (by omega) (by omega)
  sorry
