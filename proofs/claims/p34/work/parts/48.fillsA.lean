/-! fills -/
abbrev iv_S : Type := Int × Int × Int × Int × Int
def iv_fk (fr lc : Int → Int) (r w : Int) : Nat → Int
  | 0 => 1
  | k + 1 => if iv_fk fr lc r w k = 0 then 0 else if fr (3 * r + (k : Nat)) = 0 ∨ fr (3 * r + (k : Nat)) = iv_dg (lc w) (k : Nat) + 1 then 1 else 0
def iv_col (lc : Int → Int) (a b c k : Int) : Int := 81 * iv_dg (lc a) k + 9 * iv_dg (lc b) k + iv_dg (lc c) k
def iv_val (fr lc bl : Int → Int) (a b c : Int) : Int := if iv_fk fr lc 0 a 3 = 1 ∧ iv_fk fr lc 1 b 3 = 1 ∧ iv_fk fr lc 2 c 3 = 1 ∧ bl (iv_col lc a b c 0) ≠ 0 ∧ bl (iv_col lc a b c 1) ≠ 0 ∧ bl (iv_col lc a b c 2) ≠ 0 then 1 else 0
def iv_wgt (lc bl wr : Int → Int) (a b c : Int) : Int := wr a + wr b + wr c + wr (bl (iv_col lc a b c 0) - 1) + wr (bl (iv_col lc a b c 1) - 1) + wr (bl (iv_col lc a b c 2) - 1)
def iv_keep (ok w a b c : Int) (s : iv_S) : iv_S := if ok = 1 then (s.1 + 1, if s.2.1 < w then (w, a, b, c) else s.2) else s
def iv_fold (f : Int → iv_S → iv_S) : Nat → iv_S → iv_S
  | 0, s => s
  | n + 1, s => f (n : Nat) (iv_fold f n s)
theorem iv_fold_id {f : Int → iv_S → iv_S} : ∀ {n : Nat} {s : iv_S}, (∀ i : Int, 0 ≤ i → i < n → ∀ s, f i s = s) → iv_fold f n s = s := by
  intro n
  induction n with
  | zero => intro s _; rfl
  | succ n ih => intro s h; simp only [iv_fold]; rw [ih (fun i h0 h1 => h i h0 (by omega)), h n (by omega) (by omega)]
theorem iv_fold_congr {f f' : Int → iv_S → iv_S} : ∀ {n : Nat} {s : iv_S}, (∀ i : Int, 0 ≤ i → i < n → ∀ s, f' i s = f i s) → iv_fold f' n s = iv_fold f n s := by
  intro n
  induction n with
  | zero => intro s _; rfl
  | succ n ih => intro s h; simp only [iv_fold]; rw [ih (fun i h0 h1 => h i h0 (by omega)), h n (by omega) (by omega)]
/-- what a fold keeps -/
theorem iv_fold_inv {f : Int → iv_S → iv_S} {P : Int → iv_S → Prop} : ∀ {n : Nat} {s : iv_S}, P 0 s → (∀ i : Int, 0 ≤ i → i < n → ∀ s, P i s → P (i + 1) (f i s)) → P (n : Nat) (iv_fold f n s) := by
  intro n
  induction n with
  | zero => intro s h _; exact h
  | succ n ih =>
    intro s h hs
    have h1 := ih h (fun i h0 h1 => hs i h0 (by omega))
    have h2 := hs (n : Nat) (by omega) (by omega) _ h1
    simp only [iv_fold]
    have e : (((n + 1 : Nat)) : Int) = ((n : Nat) : Int) + 1 := by omega
    rw [e]; exact h2
def iv_g3 (fr lc bl wr od : Int → Int) (k j i : Int) (s : iv_S) : iv_S := iv_keep (iv_val fr lc bl (od k) (od j) (od i)) (iv_wgt lc bl wr (od k) (od j) (od i)) (od k) (od j) (od i) s
def iv_g2 (fr lc bl wr od : Int → Int) (n : Nat) (k j : Int) (s : iv_S) : iv_S := iv_fold (iv_g3 fr lc bl wr od k j) n s
def iv_g1 (fr lc bl wr od : Int → Int) (n : Nat) (k : Int) (s : iv_S) : iv_S := iv_fold (iv_g2 fr lc bl wr od n k) n s
def iv_F (fr lc bl wr od : Int → Int) (n : Nat) : iv_S := iv_fold (iv_g1 fr lc bl wr od n) n (0, -1, 0, 0, 0)
theorem iv_keep_no {ok w a b c : Int} {s : iv_S} (h : ok ≠ 1) : iv_keep ok w a b c s = s := by unfold iv_keep; rw [if_neg h]
theorem iv_val_no1 {fr lc bl : Int → Int} {a b c : Int} (h : iv_fk fr lc 0 a 3 ≠ 1) : iv_val fr lc bl a b c ≠ 1 := by unfold iv_val; rw [if_neg (fun h9 => h h9.1)]; decide
theorem iv_val_no2 {fr lc bl : Int → Int} {a b c : Int} (h : iv_fk fr lc 1 b 3 ≠ 1) : iv_val fr lc bl a b c ≠ 1 := by unfold iv_val; rw [if_neg (fun h9 => h h9.2.1)]; decide
theorem iv_val_no3 {fr lc bl : Int → Int} {a b c : Int} (h : iv_fk fr lc 2 c 3 ≠ 1) : iv_val fr lc bl a b c ≠ 1 := by unfold iv_val; rw [if_neg (fun h9 => h h9.2.2.1)]; decide
theorem iv_val_noc {fr lc bl : Int → Int} {a b c k : Int} (k0 : 0 ≤ k) (k1 : k < 3) (h : bl (iv_col lc a b c k) = 0) : iv_val fr lc bl a b c ≠ 1 := by
  unfold iv_val
  rw [if_neg]
  · decide
  · intro h9
    have hk : k = 0 ∨ k = 1 ∨ k = 2 := by omega
    rcases hk with rfl | rfl | rfl
    · exact h9.2.2.2.1 h
    · exact h9.2.2.2.2.1 h
    · exact h9.2.2.2.2.2 h
theorem iv_val_yes {fr lc bl : Int → Int} {a b c : Int} (h : iv_val fr lc bl a b c = 1) : iv_fk fr lc 0 a 3 = 1 ∧ iv_fk fr lc 1 b 3 = 1 ∧ iv_fk fr lc 2 c 3 = 1 ∧ ∀ k, 0 ≤ k → k < 3 → bl (iv_col lc a b c k) ≠ 0 := by
  unfold iv_val at h
  split at h
  · rename_i h9
    refine ⟨h9.1, h9.2.1, h9.2.2.1, fun k k0 k1 => ?_⟩
    have hk : k = 0 ∨ k = 1 ∨ k = 2 := by omega
    rcases hk with rfl | rfl | rfl
    · exact h9.2.2.2.1
    · exact h9.2.2.2.2.1
    · exact h9.2.2.2.2.2
  · cases h
theorem iv_val_mk {fr lc bl : Int → Int} {a b c : Int} (h1 : iv_fk fr lc 0 a 3 = 1) (h2 : iv_fk fr lc 1 b 3 = 1) (h3 : iv_fk fr lc 2 c 3 = 1) (h : ∀ k, 0 ≤ k → k < 3 → bl (iv_col lc a b c k) ≠ 0) : iv_val fr lc bl a b c = 1 := by
  unfold iv_val
  rw [if_pos ⟨h1, h2, h3, h 0 (by omega) (by omega), h 1 (by omega) (by omega), h 2 (by omega) (by omega)⟩]
theorem iv_fk_01 {fr lc : Int → Int} {r w : Int} : ∀ {k : Nat}, iv_fk fr lc r w k = 0 ∨ iv_fk fr lc r w k = 1 := by
  intro k
  cases k with
  | zero => exact Or.inr rfl
  | succ k => simp only [iv_fk]; split <;> (try split) <;> simp
theorem iv_fk_0 {fr lc : Int → Int} {r w : Int} {n : Nat} (h : iv_fk fr lc r w n ≠ 1) : ∀ k : Nat, n ≤ k → iv_fk fr lc r w k ≠ 1 := by
  intro k
  induction k with
  | zero => intro hk; have e : n = 0 := by omega
            rw [e] at h; exact h
  | succ k ih =>
    intro hk
    by_cases e : n = k + 1
    · rw [← e]; exact h
    · have := ih (by omega)
      have h01 := @iv_fk_01 fr lc r w k
      simp only [iv_fk]
      rw [if_pos (by omega)]; decide
theorem iv_col_r {lc : Int → Int} {a b c k : Int} (ha : 0 ≤ lc a ∧ lc a < 729) (hb : 0 ≤ lc b ∧ lc b < 729) (hc : 0 ≤ lc c ∧ lc c < 729) : 0 ≤ iv_col lc a b c k ∧ iv_col lc a b c k < 729 := by
  have h1 := @iv_dg_r (lc a) k ha.1 ha.2
  have h2 := @iv_dg_r (lc b) k hb.1 hb.2
  have h3 := @iv_dg_r (lc c) k hc.1 hc.2
  unfold iv_col; omega
/-- the first letters of a column -/
def iv_pc (lc rows : Int → Int) (d : Nat) (k : Int) : Int := iv_cod (fun x => iv_dg (lc (rows x)) k) d
theorem iv_pc_v {lc rows : Int → Int} {k : Int} : iv_pc lc rows 1 k = 9 + iv_dg (lc (rows 0)) k ∧ iv_pc lc rows 2 k = 81 + 9 * iv_dg (lc (rows 0)) k + iv_dg (lc (rows 1)) k ∧ iv_pc lc rows 3 k = 729 + iv_col lc (rows 0) (rows 1) (rows 2) k := by
  have h := @iv_cod_v (fun x => iv_dg (lc (rows x)) k)
  unfold iv_pc iv_col
  exact ⟨h.2.1, h.2.2.1, by rw [h.2.2.2]; omega⟩
