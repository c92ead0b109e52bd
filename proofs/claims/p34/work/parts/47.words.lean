/-! the words -/
def iv_cod (s : Int → Int) : Nat → Int
  | 0 => 1
  | n + 1 => iv_cod s n * 9 + s (n : Nat)
theorem iv_cod_congr {s t : Int → Int} : ∀ {n : Nat}, (∀ i : Int, 0 ≤ i → i < n → t i = s i) → iv_cod t n = iv_cod s n := by
  intro n
  induction n with
  | zero => intro _; rfl
  | succ n ih => intro h; simp only [iv_cod]; rw [h n (by omega) (by omega), ih (fun j a b => h j a (by omega))]
theorem iv_cod_v {s : Int → Int} : iv_cod s 0 = 1 ∧ iv_cod s 1 = 9 + s 0 ∧ iv_cod s 2 = 81 + 9 * s 0 + s 1 ∧ iv_cod s 3 = 729 + 81 * s 0 + 9 * s 1 + s 2 := by
  refine ⟨rfl, ?_, ?_, ?_⟩
  · show 1 * 9 + s 0 = 9 + s 0
    omega
  · show (1 * 9 + s 0) * 9 + s 1 = 81 + 9 * s 0 + s 1
    omega
  · show ((1 * 9 + s 0) * 9 + s 1) * 9 + s 2 = 729 + 81 * s 0 + 9 * s 1 + s 2
    omega
theorem iv_cod_r {s : Int → Int} {n : Int} (n0 : 0 ≤ n) (n1 : n ≤ 3) (hs : ∀ i, 0 ≤ i → i < n → 0 ≤ s i ∧ s i < 9) : 1 ≤ iv_cod s n.toNat ∧ iv_cod s n.toNat < 1458 ∧ (n = 3 → 729 ≤ iv_cod s n.toNat) := by
  have hv := @iv_cod_v s
  have h0 := hs 0
  have h1 := hs 1
  have h2 := hs 2
  have hn : n = 0 ∨ n = 1 ∨ n = 2 ∨ n = 3 := by omega
  rcases hn with e | e | e | e
  · have e' : n.toNat = 0 := by omega
    rw [e']; omega
  · have e' : n.toNat = 1 := by omega
    rw [e']; omega
  · have e' : n.toNat = 2 := by omega
    rw [e']; omega
  · have e' : n.toNat = 3 := by omega
    rw [e']; omega
theorem u_code {Q : Int → jv_Mem → Prop} {g : jv_Mem} (n0 : 0 ≤ g 1 1) (n1 : g 1 1 ≤ 3) (hQ : Q (iv_cod (g 2) (g 1 1).toNat) g) : wp_X5_code Q g := by
  unfold wp_X5_code
  refine ⟨fun n x1 x2 gl => gl = g ∧ 0 ≤ x2 ∧ x2 ≤ g 1 1 ∧ x1 = iv_cod (g 2) x2.toNat ∧ n = (g 1 1 - x2).toNat, ⟨_, rfl, by omega, by omega, rfl, rfl⟩, ?_⟩
  rintro n x1 x2 gl ⟨rfl, a0, a1, a2, a3⟩
  refine ⟨⟨(by unfold jv_r; omega), (by unfold jv_r; omega)⟩, fun h => ?_, fun h => ⟨by omega, ?_⟩⟩
  · have e : x2 = gl 1 1 := by omega
    rw [a2, e]; exact hQ
  · intro v1 e1 v2 e2
    refine ⟨(gl 1 1 - v2).toNat, by omega, rfl, by omega, by omega, ?_, rfl⟩
    have e : v2.toNat = x2.toNat + 1 := by omega
    have e6 : ((x2.toNat : Nat) : Int) = x2 := by omega
    rw [e, e1, a2]
    simp only [iv_cod]; rw [e6]
theorem iv_dg_r {c k : Int} (c0 : 0 ≤ c) (c1 : c < 729) : 0 ≤ iv_dg c k ∧ iv_dg c k < 9 := by
  unfold iv_dg
  split
  · omega
  · split <;> omega
theorem iv_dg_v {c : Int} : iv_dg c 0 = c / 81 ∧ iv_dg c 1 = c / 9 % 9 ∧ iv_dg c 2 = c % 9 := by
  refine ⟨by unfold iv_dg; rw [if_pos rfl], by unfold iv_dg; rw [if_neg (by omega), if_pos rfl], by unfold iv_dg; rw [if_neg (by omega), if_neg (by omega)]⟩
theorem iv_bg_0 {lc : Int → Int} {c : Int} : ∀ {n : Nat}, 0 ≤ iv_bg lc c n ∧ iv_bg lc c n ≤ n ∧ (iv_bg lc c n = 0 → ∀ w : Int, 0 ≤ w → w < n → ¬ (729 + lc w = c ∨ (729 + lc w) / 9 = c ∨ (729 + lc w) / 81 = c ∨ c = 1)) ∧ (0 < iv_bg lc c n → ∃ w : Int, 0 ≤ w ∧ w < n ∧ (729 + lc w = c ∨ (729 + lc w) / 9 = c ∨ (729 + lc w) / 81 = c ∨ c = 1)) := by
  intro n
  induction n with
  | zero => exact ⟨by simp [iv_bg], by simp [iv_bg], fun _ w h0 h1 => by omega, fun h => by simp [iv_bg] at h⟩
  | succ n ih =>
    obtain ⟨a, b, c1, d⟩ := ih
    simp only [iv_bg]
    by_cases h : 729 + lc (n : Nat) = c ∨ (729 + lc (n : Nat)) / 9 = c ∨ (729 + lc (n : Nat)) / 81 = c ∨ c = 1
    · rw [if_pos h]
      exact ⟨by omega, by omega, fun h9 => by omega, fun _ => ⟨(n : Nat), by omega, by omega, h⟩⟩
    · rw [if_neg h]
      refine ⟨by omega, by omega, fun h9 w w0 w1 => ?_, fun h9 => ?_⟩
      · by_cases e : w = (n : Nat)
        · rw [e]; exact h
        · exact c1 (by omega) w w0 (by omega)
      · obtain ⟨w, w0, w1, hw⟩ := d (by omega)
        exact ⟨w, w0, by omega, hw⟩
/-- the letters of a word match the text -/
def iv_mt (l : Int) (s : Int → Int) : Nat → Int
  | 0 => 1
  | k + 1 => if iv_mt l s k = 0 then 0 else if iv_dg l (k : Nat) = s (k : Nat) then 1 else 0
theorem iv_mt_01 {l : Int} {s : Int → Int} : ∀ {k : Nat}, iv_mt l s k = 0 ∨ iv_mt l s k = 1 := by
  intro k
  cases k with
  | zero => exact Or.inr rfl
  | succ k => simp only [iv_mt]; split <;> (try split) <;> simp
theorem iv_mt_bg {l n : Int} {s : Int → Int} (l0 : 0 ≤ l) (l1 : l < 729) (n0 : 0 ≤ n) (n1 : n ≤ 3) (hs : ∀ i, 0 ≤ i → i < n → 0 ≤ s i ∧ s i < 9) : (if 729 + l = iv_cod s n.toNat ∨ (729 + l) / 9 = iv_cod s n.toNat ∨ (729 + l) / 81 = iv_cod s n.toNat ∨ iv_cod s n.toNat = 1 then (1 : Int) else 0) = iv_mt l s n.toNat := by
  have hv := @iv_cod_v s
  have h0 := hs 0
  have h1 := hs 1
  have h2 := hs 2
  have hd := @iv_dg_v l
  have e0 : (((0 : Nat) : Int)) = 0 := rfl
  have e1 : (((0 + 1 : Nat) : Int)) = 1 := rfl
  have e2 : (((0 + 1 + 1 : Nat) : Int)) = 2 := rfl
  have hn : n = 0 ∨ n = 1 ∨ n = 2 ∨ n = 3 := by omega
  rcases hn with e | e | e | e
  · have e' : n.toNat = 0 := by omega
    rw [e', if_pos (by omega)]; rfl
  · have e' : n.toNat = 1 := by omega
    rw [e', hv.2.1]
    simp only [iv_mt, e0, e1, e2, hd.1, hd.2.1, hd.2.2]
    rw [if_neg (show ¬ (1 : Int) = 0 by decide)]
    split <;> split <;> omega
  · have e' : n.toNat = 2 := by omega
    rw [e', hv.2.2.1]
    simp only [iv_mt, e0, e1, e2, hd.1, hd.2.1, hd.2.2]
    rw [if_neg (show ¬ (1 : Int) = 0 by decide)]
    repeat' split
    all_goals omega
  · have e' : n.toNat = 3 := by omega
    rw [e', hv.2.2.2]
    simp only [iv_mt, e0, e1, e2, hd.1, hd.2.1, hd.2.2]
    rw [if_neg (show ¬ (1 : Int) = 0 by decide)]
    repeat' split
    all_goals omega
