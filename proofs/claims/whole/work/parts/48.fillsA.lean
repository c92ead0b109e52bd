/-! fills -/
abbrev iv_S : Type := Int × Int × Int × Int × Int
def iv_fk (fr lc : Int → Int) (r w : Int) : Nat → Int
  | 0 => 1
  | k + 1 => if iv_fk fr lc r w k = 0 then 0 else if fr (3 * r + (k : Nat)) = 0 ∨ fr (3 * r + (k : Nat)) = iv_dg (lc w) (k : Nat) + 1 then 1 else 0
def iv_col (lc : Int → Int) (a b c k : Int) : Int := 81 * iv_dg (lc a) k + 9 * iv_dg (lc b) k + iv_dg (lc c) k
def iv_val (fr lc bl : Int → Int) (a b c : Int) : Int := if iv_fk fr lc 0 a 3 = 1 ∧ iv_fk fr lc 1 b 3 = 1 ∧ iv_fk fr lc 2 c 3 = 1 ∧ bl (iv_col lc a b c 0) ≠ 0 ∧ bl (iv_col lc a b c 1) ≠ 0 ∧ bl (iv_col lc a b c 2) ≠ 0 then 1 else 0
def iv_wgt (lc bl wr : Int → Int) (a b c : Int) : Int := wr a + wr b + wr c + wr (bl (iv_col lc a b c 0) - 1) + wr (bl (iv_col lc a b c 1) - 1) + wr (bl (iv_col lc a b c 2) - 1)
def iv_keep (ok w a b c : Int) (s : iv_S) : iv_S := if ok = 1 then (s.1 + 1, if s.2.1 < w then (w, a, b, c) else s.2) else s
def iv_fold (f : Int → iv_S → iv_S) : Nat → iv_S → iv_S
  | 0, s => s
  | n + 1, s => f (n : Nat) (iv_fold f n s)
theorem iv_fold_id {f : Int → iv_S → iv_S} : ∀ {n : Nat} {s : iv_S}, (∀ i : Int, 0 ≤ i → i < n → ∀ s, f i s = s) → iv_fold f n s = s := by
  intro n
  induction n with
  | zero => intro s _; rfl
  | succ n ih => intro s h; simp only [iv_fold]; rw [ih (fun i h0 h1 => h i h0 (by omega)), h n (by omega) (by omega)]
theorem iv_fold_congr {f f' : Int → iv_S → iv_S} : ∀ {n : Nat} {s : iv_S}, (∀ i : Int, 0 ≤ i → i < n → ∀ s, f' i s = f i s) → iv_fold f' n s = iv_fold f n s := by
  intro n
  induction n with
  | zero => intro s _; rfl
  | succ n ih => intro s h; simp only [iv_fold]; rw [ih (fun i h0 h1 => h i h0 (by omega)), h n (by omega) (by omega)]
/-- what a fold keeps -/
theorem iv_fold_inv {f : Int → iv_S → iv_S} {P : Int → iv_S → Prop} : ∀ {n : Nat} {s : iv_S}, P 0 s → (∀ i : Int, 0 ≤ i → i < n → ∀ s, P i s → P (i + 1) (f i s)) → P (n : Nat) (iv_fold f n s) := by
  intro n
  induction n with
  | zero => intro s h _; exact h
  | succ n ih =>
    intro s h hs
    have h1 := ih h (fun i h0 h1 => hs i h0 (by omega))
    have h2 := hs (n : Nat) (by omega) (by omega) _ h1
    simp only [iv_fold]
    have e : (((n + 1 : Nat)) : Int) = ((n : Nat) : Int) + 1 := by omega
    rw [e]; exact h2
def iv_g3 (fr lc bl wr od : Int → Int) (k j i : Int) (s : iv_S) : iv_S := iv_keep (iv_val fr lc bl (od k) (od j) (od i)) (iv_wgt lc bl wr (od k) (od j) (od i)) (od k) (od j) (od i) s
def iv_g2 (fr lc bl wr od : Int → Int) (n : Nat) (k j : Int) (s : iv_S) : iv_S := iv_fold (iv_g3 fr lc bl wr od k j) n s
def iv_g1 (fr lc bl wr od : Int → Int) (n : Nat) (k : Int) (s : iv_S) : iv_S := iv_fold (iv_g2 fr lc bl wr od n k) n s
def iv_F (fr lc bl wr od : Int → Int) (n : Nat) : iv_S := iv_fold (iv_g1 fr lc bl wr od n) n (0, -1, 0, 0, 0)
theorem iv_keep_no {ok w a b c : Int} {s : iv_S} (h : ok ≠ 1) : iv_keep ok w a b c s = s := by unfold iv_keep; rw [if_neg h]
theorem iv_val_no1 {fr lc bl : Int → Int} {a b c : Int} (h : iv_fk fr lc 0 a 3 ≠ 1) : iv_val fr lc bl a b c ≠ 1 := by unfold iv_val; rw [if_neg (fun h9 => h h9.1)]; decide
theorem iv_val_no2 {fr lc bl : Int → Int} {a b c : Int} (h : iv_fk fr lc 1 b 3 ≠ 1) : iv_val fr lc bl a b c ≠ 1 := by unfold iv_val; rw [if_neg (fun h9 => h h9.2.1)]; decide
theorem iv_val_no3 {fr lc bl : Int → Int} {a b c : Int} (h : iv_fk fr lc 2 c 3 ≠ 1) : iv_val fr lc bl a b c ≠ 1 := by unfold iv_val; rw [if_neg (fun h9 => h h9.2.2.1)]; decide
theorem iv_val_noc {fr lc bl : Int → Int} {a b c k : Int} (k0 : 0 ≤ k) (k1 : k < 3) (h : bl (iv_col lc a b c k) = 0) : iv_val fr lc bl a b c ≠ 1 := by
  unfold iv_val
  rw [if_neg]
  · decide
  · intro h9
    have hk : k = 0 ∨ k = 1 ∨ k = 2 := by omega
    rcases hk with rfl | rfl | rfl
    · exact h9.2.2.2.1 h
    · exact h9.2.2.2.2.1 h
    · exact h9.2.2.2.2.2 h
theorem iv_val_yes {fr lc bl : Int → Int} {a b c : Int} (h : iv_val fr lc bl a b c = 1) : iv_fk fr lc 0 a 3 = 1 ∧ iv_fk fr lc 1 b 3 = 1 ∧ iv_fk fr lc 2 c 3 = 1 ∧ ∀ k, 0 ≤ k → k < 3 → bl (iv_col lc a b c k) ≠ 0 := by
  unfold iv_val at h
  split at h
  · rename_i h9
    refine ⟨h9.1, h9.2.1, h9.2.2.1, fun k k0 k1 => ?_⟩
    have hk : k = 0 ∨ k = 1 ∨ k = 2 := by omega
    rcases hk with rfl | rfl | rfl
    · exact h9.2.2.2.1
    · exact h9.2.2.2.2.1
    · exact h9.2.2.2.2.2
  · cases h
theorem iv_val_mk {fr lc bl : Int → Int} {a b c : Int} (h1 : iv_fk fr lc 0 a 3 = 1) (h2 : iv_fk fr lc 1 b 3 = 1) (h3 : iv_fk fr lc 2 c 3 = 1) (h : ∀ k, 0 ≤ k → k < 3 → bl (iv_col lc a b c k) ≠ 0) : iv_val fr lc bl a b c = 1 := by
  unfold iv_val
  rw [if_pos ⟨h1, h2, h3, h 0 (by omega) (by omega), h 1 (by omega) (by omega), h 2 (by omega) (by omega)⟩]
theorem iv_fk_01 {fr lc : Int → Int} {r w : Int} : ∀ {k : Nat}, iv_fk fr lc r w k = 0 ∨ iv_fk fr lc r w k = 1 := by
  intro k
  cases k with
  | zero => exact Or.inr rfl
  | succ k => simp only [iv_fk]; split <;> (try split) <;> simp
theorem iv_fk_0 {fr lc : Int → Int} {r w : Int} {n : Nat} (h : iv_fk fr lc r w n ≠ 1) : ∀ k : Nat, n ≤ k → iv_fk fr lc r w k ≠ 1 := by
  intro k
  induction k with
  | zero => intro hk; have e : n = 0 := by omega
            rw [e] at h; exact h
  | succ k ih =>
    intro hk
    by_cases e : n = k + 1
    · rw [← e]; exact h
    · have := ih (by omega)
      have h01 := @iv_fk_01 fr lc r w k
      simp only [iv_fk]
      rw [if_pos (by omega)]; decide
theorem iv_col_r {lc : Int → Int} {a b c k : Int} (ha : 0 ≤ lc a ∧ lc a < 729) (hb : 0 ≤ lc b ∧ lc b < 729) (hc : 0 ≤ lc c ∧ lc c < 729) : 0 ≤ iv_col lc a b c k ∧ iv_col lc a b c k < 729 := by
  have h1 := @iv_dg_r (lc a) k ha.1 ha.2
  have h2 := @iv_dg_r (lc b) k hb.1 hb.2
  have h3 := @iv_dg_r (lc c) k hc.1 hc.2
  unfold iv_col; omega
/-- the first letters of a column -/
def iv_pc (lc rows : Int → Int) (d : Nat) (k : Int) : Int := iv_cod (fun x => iv_dg (lc (rows x)) k) d
theorem iv_pc_v {lc rows : Int → Int} {k : Int} : iv_pc lc rows 1 k = 9 + iv_dg (lc (rows 0)) k ∧ iv_pc lc rows 2 k = 81 + 9 * iv_dg (lc (rows 0)) k + iv_dg (lc (rows 1)) k ∧ iv_pc lc rows 3 k = 729 + iv_col lc (rows 0) (rows 1) (rows 2) k := by
  have h := @iv_cod_v (fun x => iv_dg (lc (rows x)) k)
  unfold iv_pc iv_col
  exact ⟨h.2.1, h.2.2.1, by rw [h.2.2.2]; omega⟩
theorem u_fitsRow {w r : Int} {Q : Int → jv_Mem → Prop} {g : jv_Mem} (w0 : 0 ≤ w) (w1 : w < 30) (hl : 0 ≤ g 129 w ∧ g 129 w < 729) (r0 : 0 ≤ r) (r1 : r < 3) (hf : ∀ c, 0 ≤ c → c < 9 → jv_r (g 132 c)) (hQ : Q (iv_fk (g 132) (g 129) r w 3) g) : wp_X9_fitsRow w r Q g := by
  unfold wp_X9_fitsRow
  refine ⟨fun n x3 x4 gl => gl = g ∧ 0 ≤ x4 ∧ x4 ≤ 3 ∧ x3 = iv_fk (g 132) (g 129) r w x4.toNat ∧ n = (3 - x4).toNat, ⟨_, rfl, by omega, by omega, rfl, rfl⟩, ?_⟩
  rintro n x3 x4 gl ⟨rfl, a0, a1, a2, a3⟩
  have h01 := @iv_fk_01 (gl 132) (gl 129) r w x4.toNat
  rw [← a2] at h01
  have step : ∀ y : Int, x4 < 3 → y = (if x3 = 0 then 0 else if gl 132 (3 * r + x4) = 0 ∨ gl 132 (3 * r + x4) = iv_dg (gl 129 w) x4 + 1 then 1 else 0) → wB_X9_fitsRow_56 (fun x1' x2' g' => ∃ n', n' < n ∧ g' = gl ∧ 0 ≤ x2' ∧ x2' ≤ 3 ∧ x1' = iv_fk (gl 132) (gl 129) r w x2'.toNat ∧ n' = (3 - x2').toNat) x4 y gl := by
    intro y hlt ey v4 ev
    refine ⟨(3 - v4).toNat, by omega, rfl, by omega, by omega, ?_, rfl⟩
    have e : v4.toNat = x4.toNat + 1 := by omega
    have e6 : ((x4.toNat : Nat) : Int) = x4 := by omega
    rw [e, ey, a2]; simp only [iv_fk]; rw [e6]
  refine ⟨(by unfold jv_r; omega), fun h => ⟨by omega, ?_⟩, fun h => ⟨by omega, ?_⟩⟩
  · have e : x4.toNat = 3 := by omega
    rw [a2, e]; exact hQ
  · rintro v5 rfl
    have hff := hf (3 * r + x4) (by omega) (by omega)
    refine ⟨(by unfold jv_r; omega), fun hz => step 0 h (by rw [if_pos hz]), fun hz => ⟨hff, fun h0 => step 1 h (by rw [if_neg hz, if_pos (Or.inl h0)]), fun h0 => ⟨⟨w0, w1⟩, ?_⟩⟩⟩
    have hd := @iv_dg_r (gl 129 w) x4 hl.1 hl.2
    refine u_letterOf hl.1 (by omega) a0 h ⟨⟨hff, (by unfold jv_r; omega)⟩, fun hne => step 0 h (by rw [if_neg hz, if_neg (by omega)]), fun he => step 1 h (by rw [if_neg hz, if_pos (Or.inr he)])⟩
theorem u_columnOf {a b c k : Int} {Q : Int → jv_Mem → Prop} {g : jv_Mem} (a0 : 0 ≤ a ∧ a < 30) (b0 : 0 ≤ b ∧ b < 30) (c0 : 0 ≤ c ∧ c < 30) (k0 : 0 ≤ k ∧ k < 3) (ha : 0 ≤ g 129 a ∧ g 129 a < 729) (hb : 0 ≤ g 129 b ∧ g 129 b < 729) (hc : 0 ≤ g 129 c ∧ g 129 c < 729) (hQ : Q (g 128 (iv_col (g 129) a b c k) - 1) g) : wp_X9_columnOf a b c k Q g := by
  unfold wp_X9_columnOf
  have hr := @iv_col_r (g 129) a b c k ha hb hc
  refine ⟨a0, u_letterOf ha.1 (by omega) k0.1 k0.2 ⟨b0, u_letterOf hb.1 (by omega) k0.1 k0.2 ⟨c0, u_letterOf hc.1 (by omega) k0.1 k0.2 ⟨hr, hQ⟩⟩⟩⟩
theorem u_tries {a b c : Int} {Q : jv_Mem → Prop} {g : jv_Mem} (h2 : iJ2 g) (a0 : 0 ≤ a ∧ a < g 3 6) (b0 : 0 ≤ b ∧ b < g 3 6) (c0 : 0 ≤ c ∧ c < g 3 6) (rb : jv_r (g 126 9))
    (hN : (∃ k, 0 ≤ k ∧ k < 3 ∧ g 128 (iv_col (g 129) a b c k) = 0) → Q g)
    (hY : (∀ k, 0 ≤ k → k < 3 → g 128 (iv_col (g 129) a b c k) ≠ 0) → ∀ g' : jv_Mem, (∀ i, i ≠ 126 → i ≠ 133 → g' i = g i) → (∀ k, k ≠ 8 → k ≠ 9 → g' 126 k = g 126 k) → g' 126 8 = g 126 8 + 1 → (iv_wgt (g 129) (g 128) (g 130) a b c ≤ g 126 9 → g' 126 9 = g 126 9 ∧ g' 133 = g 133) → (g 126 9 < iv_wgt (g 129) (g 128) (g 130) a b c → g' 126 9 = iv_wgt (g 129) (g 128) (g 130) a b c ∧ g' 133 0 = a ∧ g' 133 1 = b ∧ g' 133 2 = c) → Q g') : wp_X9_tries a b c Q g := by
  obtain ⟨m1, m2, m3, hw, hb, -, -, -, -⟩ := h2
  have wa := hw a a0.1 a0.2
  have wb := hw b b0.1 b0.2
  have wc := hw c c0.1 c0.2
  have hcol : ∀ k, 0 ≤ iv_col (g 129) a b c k ∧ iv_col (g 129) a b c k < 729 := fun k => iv_col_r ⟨wa.1, wa.2.1⟩ ⟨wb.1, wb.2.1⟩ ⟨wc.1, wc.2.1⟩
  have hcb : ∀ k, g 128 (iv_col (g 129) a b c k) = 0 ∨ (1 ≤ g 128 (iv_col (g 129) a b c k) ∧ g 128 (iv_col (g 129) a b c k) ≤ g 3 6) := fun k => by
    rcases hb _ (hcol k).1 (hcol k).2 with h | h
    · exact Or.inl h
    · exact Or.inr ⟨h.1, h.2.1⟩
  have hwt : ∀ w, 0 ≤ w → w < g 3 6 → 0 ≤ g 130 w ∧ g 130 w ≤ 99 := fun w w0 w1 => ⟨(hw w w0 w1).2.2.2.2.2.1, (hw w w0 w1).2.2.2.2.2.2.1⟩
  unfold wp_X9_tries
  refine ⟨by omega, by omega, by omega, ?_⟩
  rintro v4 rfl
  refine ⟨fun n x4 x5 gl => gl = g ∧ 0 ≤ x5 ∧ x5 ≤ 3 ∧ (∀ k, 0 ≤ k → k < x5 → g 128 (iv_col (g 129) a b c k) ≠ 0) ∧ x4 = g 130 a + g 130 b + g 130 c + (if 0 < x5 then g 130 (g 128 (iv_col (g 129) a b c 0) - 1) else 0) + (if 1 < x5 then g 130 (g 128 (iv_col (g 129) a b c 1) - 1) else 0) + (if 2 < x5 then g 130 (g 128 (iv_col (g 129) a b c 2) - 1) else 0) ∧ n = (3 - x5).toNat, ⟨3, rfl, by omega, by omega, fun k k0 k1 => by omega, by rw [if_neg (by omega), if_neg (by omega), if_neg (by omega)]; omega, rfl⟩, ?_⟩
  rintro n x4 x5 gl ⟨rfl, q0, q1, q2, q3, q4⟩
  refine ⟨(by unfold jv_r; omega), fun h => ?_, fun h => ?_⟩
  · have e5 : x5 = 3 := by omega
    rw [e5] at q2
    have w0 := q2 0 (by omega) (by omega)
    have w1 := q2 1 (by omega) (by omega)
    have w2 := q2 2 (by omega) (by omega)
    have y0 := hcb 0
    have y1 := hcb 1
    have y2 := hcb 2
    have z0 := hwt (gl 128 (iv_col (gl 129) a b c 0) - 1) (by omega) (by omega)
    have z1 := hwt (gl 128 (iv_col (gl 129) a b c 1) - 1) (by omega) (by omega)
    have z2 := hwt (gl 128 (iv_col (gl 129) a b c 2) - 1) (by omega) (by omega)
    have e4 : x4 = iv_wgt (gl 129) (gl 128) (gl 130) a b c := by
      rw [q3, e5, if_pos (by omega), if_pos (by omega), if_pos (by omega)]; rfl
    have rx : jv_r x4 := by
      rw [e4]; unfold iv_wgt jv_r
      have := wa.2.2.2.2.2
      have := wb.2.2.2.2.2
      have := wc.2.2.2.2.2
      omega
    rw [← e4] at hY
    have hY := hY q2
    rintro g1 rfl
    have r9 : jv_up gl 126 8 (gl 126 8 + 1) 126 9 = gl 126 9 := jv_up_n (by omega)
    rw [r9]
    refine ⟨⟨rx, rb⟩, fun hle => ?_, fun hlt => ?_⟩
    · exact hY _ (fun i p1 p2 => jv_up_row p1) (fun k p1 p2 => jv_up_n (by omega)) (jv_up_e rfl rfl) (fun _ => ⟨r9, jv_up_row (by omega)⟩) (fun h9 => by omega)
    · rintro g2 rfl
      refine ⟨by omega, ?_⟩
      rintro g3 rfl
      refine ⟨by omega, ?_⟩
      rintro g4 rfl
      refine ⟨by omega, ?_⟩
      rintro g5 rfl
      exact hY _ (fun i p1 p2 => by rw [jv_up_row p2, jv_up_row p2, jv_up_row p2, jv_up_row p1, jv_up_row p1]) (fun k p1 p2 => by rw [jv_up_n (by omega), jv_up_n (by omega), jv_up_n (by omega), jv_up_n (by omega), jv_up_n (by omega)]) (by rw [jv_up_n (by omega), jv_up_n (by omega), jv_up_n (by omega), jv_up_n (by omega), jv_up_e rfl rfl]) (fun h9 => by omega) (fun _ => ⟨by rw [jv_up_n (by omega), jv_up_n (by omega), jv_up_n (by omega), jv_up_e rfl rfl], by rw [jv_up_n (by omega), jv_up_n (by omega), jv_up_e rfl rfl], by rw [jv_up_n (by omega), jv_up_e rfl rfl], jv_up_e rfl rfl⟩)
  · refine u_columnOf (by omega) (by omega) (by omega) ⟨q0, h⟩ ⟨wa.1, wa.2.1⟩ ⟨wb.1, wb.2.1⟩ ⟨wc.1, wc.2.1⟩ ?_
    have y := hcb x5
    refine ⟨(by unfold jv_r; omega), fun hne => ⟨by omega, ?_⟩, fun he => hN ⟨x5, q0, h, by omega⟩⟩
    rintro v4 e4 v5 e5
    refine ⟨(3 - v5).toNat, by omega, rfl, by omega, by omega, fun k k0 k1 => ?_, ?_, rfl⟩
    · by_cases e : k = x5
      · rw [e]; omega
      · exact q2 k k0 (by omega)
    · rw [e4, q3]
      have hx : x5 = 0 ∨ x5 = 1 ∨ x5 = 2 := by omega
      rcases hx with hx | hx | hx <;> subst hx <;> subst e5 <;> simp only [Int.reduceLT, Int.reduceAdd, if_true, if_false, reduceIte] <;> omega
