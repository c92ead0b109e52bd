/-! the words -/
def iv_cod (s : Int → Int) : Nat → Int
  | 0 => 1
  | n + 1 => iv_cod s n * 9 + s (n : Nat)
theorem iv_cod_congr {s t : Int → Int} : ∀ {n : Nat}, (∀ i : Int, 0 ≤ i → i < n → t i = s i) → iv_cod t n = iv_cod s n := by
  intro n
  induction n with
  | zero => intro _; rfl
  | succ n ih => intro h; simp only [iv_cod]; rw [h n (by omega) (by omega), ih (fun j a b => h j a (by omega))]
theorem iv_cod_v {s : Int → Int} : iv_cod s 0 = 1 ∧ iv_cod s 1 = 9 + s 0 ∧ iv_cod s 2 = 81 + 9 * s 0 + s 1 ∧ iv_cod s 3 = 729 + 81 * s 0 + 9 * s 1 + s 2 := by
  refine ⟨rfl, ?_, ?_, ?_⟩
  · show 1 * 9 + s 0 = 9 + s 0
    omega
  · show (1 * 9 + s 0) * 9 + s 1 = 81 + 9 * s 0 + s 1
    omega
  · show ((1 * 9 + s 0) * 9 + s 1) * 9 + s 2 = 729 + 81 * s 0 + 9 * s 1 + s 2
    omega
theorem iv_cod_r {s : Int → Int} {n : Int} (n0 : 0 ≤ n) (n1 : n ≤ 3) (hs : ∀ i, 0 ≤ i → i < n → 0 ≤ s i ∧ s i < 9) : 1 ≤ iv_cod s n.toNat ∧ iv_cod s n.toNat < 1458 ∧ (n = 3 → 729 ≤ iv_cod s n.toNat) := by
  have hv := @iv_cod_v s
  have h0 := hs 0
  have h1 := hs 1
  have h2 := hs 2
  have hn : n = 0 ∨ n = 1 ∨ n = 2 ∨ n = 3 := by omega
  rcases hn with e | e | e | e
  · have e' : n.toNat = 0 := by omega
    rw [e']; omega
  · have e' : n.toNat = 1 := by omega
    rw [e']; omega
  · have e' : n.toNat = 2 := by omega
    rw [e']; omega
  · have e' : n.toNat = 3 := by omega
    rw [e']; omega
theorem u_code {Q : Int → jv_Mem → Prop} {g : jv_Mem} (n0 : 0 ≤ g 1 1) (n1 : g 1 1 ≤ 3) (hQ : Q (iv_cod (g 2) (g 1 1).toNat) g) : wp_X5_code Q g := by
  unfold wp_X5_code
  refine ⟨fun n x1 x2 gl => gl = g ∧ 0 ≤ x2 ∧ x2 ≤ g 1 1 ∧ x1 = iv_cod (g 2) x2.toNat ∧ n = (g 1 1 - x2).toNat, ⟨_, rfl, by omega, by omega, rfl, rfl⟩, ?_⟩
  rintro n x1 x2 gl ⟨rfl, a0, a1, a2, a3⟩
  refine ⟨⟨(by unfold jv_r; omega), (by unfold jv_r; omega)⟩, fun h => ?_, fun h => ⟨by omega, ?_⟩⟩
  · have e : x2 = gl 1 1 := by omega
    rw [a2, e]; exact hQ
  · intro v1 e1 v2 e2
    refine ⟨(gl 1 1 - v2).toNat, by omega, rfl, by omega, by omega, ?_, rfl⟩
    have e : v2.toNat = x2.toNat + 1 := by omega
    have e6 : ((x2.toNat : Nat) : Int) = x2 := by omega
    rw [e, e1, a2]
    simp only [iv_cod]; rw [e6]
theorem u_letterOf {c k : Int} {Q : Int → jv_Mem → Prop} {g : jv_Mem} (c0 : 0 ≤ c) (c1 : c < 2000) (k0 : 0 ≤ k) (k1 : k < 3) (hQ : Q (iv_dg c k) g) : wp_X9_letterOf c k Q g := by
  unfold wp_X9_letterOf
  unfold iv_dg at hQ
  refine ⟨(by unfold jv_r; omega), fun h => ⟨(by unfold jv_r; omega), fun h1 => ?_, fun h1 => ?_⟩, fun h => ?_⟩
  · rw [if_neg h, if_neg h1] at hQ
    rw [iv_rem (by omega) (by omega) (by omega) (by omega)]; exact hQ
  · rw [if_neg h, if_pos h1] at hQ
    rw [iv_div (by omega) (by omega) (by omega) (by omega), iv_rem (by omega) (by omega) (by omega) (by omega)]; exact hQ
  · rw [if_pos h] at hQ
    rw [iv_div (by omega) (by omega) (by omega) (by omega)]; exact hQ
theorem iv_dg_r {c k : Int} (c0 : 0 ≤ c) (c1 : c < 729) : 0 ≤ iv_dg c k ∧ iv_dg c k < 9 := by
  unfold iv_dg
  split
  · omega
  · split <;> omega
theorem iv_dg_v {c : Int} : iv_dg c 0 = c / 81 ∧ iv_dg c 1 = c / 9 % 9 ∧ iv_dg c 2 = c % 9 := by
  refine ⟨by unfold iv_dg; rw [if_pos rfl], by unfold iv_dg; rw [if_neg (by omega), if_pos rfl], by unfold iv_dg; rw [if_neg (by omega), if_neg (by omega)]⟩
theorem iv_bg_0 {lc : Int → Int} {c : Int} : ∀ {n : Nat}, 0 ≤ iv_bg lc c n ∧ iv_bg lc c n ≤ n ∧ (iv_bg lc c n = 0 → ∀ w : Int, 0 ≤ w → w < n → ¬ (729 + lc w = c ∨ (729 + lc w) / 9 = c ∨ (729 + lc w) / 81 = c ∨ c = 1)) ∧ (0 < iv_bg lc c n → ∃ w : Int, 0 ≤ w ∧ w < n ∧ (729 + lc w = c ∨ (729 + lc w) / 9 = c ∨ (729 + lc w) / 81 = c ∨ c = 1)) := by
  intro n
  induction n with
  | zero => exact ⟨by simp [iv_bg], by simp [iv_bg], fun _ w h0 h1 => by omega, fun h => by simp [iv_bg] at h⟩
  | succ n ih =>
    obtain ⟨a, b, c1, d⟩ := ih
    simp only [iv_bg]
    by_cases h : 729 + lc (n : Nat) = c ∨ (729 + lc (n : Nat)) / 9 = c ∨ (729 + lc (n : Nat)) / 81 = c ∨ c = 1
    · rw [if_pos h]
      exact ⟨by omega, by omega, fun h9 => by omega, fun _ => ⟨(n : Nat), by omega, by omega, h⟩⟩
    · rw [if_neg h]
      refine ⟨by omega, by omega, fun h9 w w0 w1 => ?_, fun h9 => ?_⟩
      · by_cases e : w = (n : Nat)
        · rw [e]; exact h
        · exact c1 (by omega) w w0 (by omega)
      · obtain ⟨w, w0, w1, hw⟩ := d (by omega)
        exact ⟨w, w0, by omega, hw⟩
theorem u_orders {Q : jv_Mem → Prop} {g : jv_Mem} (h2 : iJ2 g) (hQ : ∀ g' : jv_Mem, (∀ i k, i ≠ 131 → g' i k = g i k) → (∀ i, 0 ≤ i → i < g 3 6 → g' 131 i = g 7 i) → Q g') : wp_X9_orders Q g := by
  obtain ⟨m1, m2, m3, hw, hb, -, ho, hs, hj⟩ := h2
  unfold wp_X9_orders
  refine ⟨fun n x1 x2 gl => 0 ≤ x1 ∧ x1 ≤ g 3 6 ∧ 0 ≤ x2 ∧ x2 ≤ 729 ∧ (∀ i k, i ≠ 131 → gl i k = g i k) ∧ (∀ i, 0 ≤ i → i < x1 → gl 131 i = g 7 i ∧ g 129 (g 7 i) < x2) ∧ (∀ i, x1 ≤ i → i < g 3 6 → x2 ≤ g 129 (g 7 i)) ∧ n = (729 - x2).toNat, ⟨_, by omega, by omega, by omega, by omega, fun _ _ _ => rfl, fun i i0 i1 => by omega, fun i i0 i1 => (hw _ (ho i i0 i1).1 (ho i i0 i1).2).1, rfl⟩, ?_⟩
  rintro n x1 x2 gl ⟨a0, a1, a2, a3, a4, a5, a6, a7⟩
  refine ⟨(by unfold jv_r; omega), fun h => ?_, fun h => ⟨by omega, ?_⟩⟩
  · refine hQ gl a4 (fun i i0 i1 => ?_)
    have : x1 = g 3 6 := by
      by_cases e : x1 < g 3 6
      · have h1 := a6 x1 (by omega) e
        have h2 := hw _ (ho x1 a0 e).1 (ho x1 a0 e).2
        omega
      · omega
    exact (a5 i i0 (by omega)).1
  · have e8 : gl 128 x2 = g 128 x2 := a4 128 x2 (by omega)
    have hb2 := hb x2 a2 h
    rw [e8]
    refine ⟨(by unfold jv_r; omega), fun hz => ?_, fun hz => ⟨by omega, ?_⟩⟩
    · intro v2 e2
      refine ⟨(729 - v2).toNat, by omega, a0, a1, by omega, by omega, a4, fun i i0 i1 => ⟨(a5 i i0 i1).1, by have := (a5 i i0 i1).2; omega⟩, fun i i0 i1 => ?_, rfl⟩
      have h6 := a6 i i0 i1
      have h7 := hw _ (ho i (by omega) i1).1 (ho i (by omega) i1).2
      have h9 := (ho i (by omega) i1).1
      by_cases e : g 129 (g 7 i) = x2
      · rw [e] at h7; omega
      · omega
    · have hb3 : 1 ≤ g 128 x2 ∧ g 128 x2 ≤ g 3 6 ∧ g 129 (g 128 x2 - 1) = x2 := by omega
      obtain ⟨i, i0, i1, hi⟩ := hj (g 128 x2 - 1) (by omega) (by omega)
      have ei : i = x1 := by
        by_cases e1 : i < x1
        · have := (a5 i i0 e1).2
          rw [hi, hb3.2.2] at this; omega
        · by_cases e2 : x1 < i
          · have h8 := hs x1 i a0 e2 i1
            have h9 := a6 x1 (by omega) (by omega)
            rw [hi, hb3.2.2] at h8; omega
          · omega
      refine ⟨by omega, ?_⟩
      rintro g1 rfl v1 e1 v2 e2
      refine ⟨(729 - v2).toNat, by omega, by omega, by omega, by omega, by omega, fun i k p => by rw [jv_up_n (fun hh => p hh.1)]; exact a4 i k p, fun k k0 k1 => ?_, fun k k0 k1 => ?_, rfl⟩
      · by_cases ek : k = x1
        · rw [jv_up_e rfl ek, ek, ← ei, hi]; exact ⟨rfl, by rw [hb3.2.2]; omega⟩
        · rw [jv_up_n (fun hh => ek hh.2)]
          have := a5 k k0 (by omega)
          exact ⟨this.1, by omega⟩
      · have h8 := hs x1 k a0 (by omega) k1
        have h9 := a6 x1 (by omega) (by omega)
        omega
/-- the letters of a word match the text -/
def iv_mt (l : Int) (s : Int → Int) : Nat → Int
  | 0 => 1
  | k + 1 => if iv_mt l s k = 0 then 0 else if iv_dg l (k : Nat) = s (k : Nat) then 1 else 0
theorem iv_mt_01 {l : Int} {s : Int → Int} : ∀ {k : Nat}, iv_mt l s k = 0 ∨ iv_mt l s k = 1 := by
  intro k
  cases k with
  | zero => exact Or.inr rfl
  | succ k => simp only [iv_mt]; split <;> (try split) <;> simp
theorem iv_mt_bg {l n : Int} {s : Int → Int} (l0 : 0 ≤ l) (l1 : l < 729) (n0 : 0 ≤ n) (n1 : n ≤ 3) (hs : ∀ i, 0 ≤ i → i < n → 0 ≤ s i ∧ s i < 9) : (if 729 + l = iv_cod s n.toNat ∨ (729 + l) / 9 = iv_cod s n.toNat ∨ (729 + l) / 81 = iv_cod s n.toNat ∨ iv_cod s n.toNat = 1 then (1 : Int) else 0) = iv_mt l s n.toNat := by
  have hv := @iv_cod_v s
  have h0 := hs 0
  have h1 := hs 1
  have h2 := hs 2
  have hd := @iv_dg_v l
  have e0 : (((0 : Nat) : Int)) = 0 := rfl
  have e1 : (((0 + 1 : Nat) : Int)) = 1 := rfl
  have e2 : (((0 + 1 + 1 : Nat) : Int)) = 2 := rfl
  have hn : n = 0 ∨ n = 1 ∨ n = 2 ∨ n = 3 := by omega
  rcases hn with e | e | e | e
  · have e' : n.toNat = 0 := by omega
    rw [e', if_pos (by omega)]; rfl
  · have e' : n.toNat = 1 := by omega
    rw [e', hv.2.1]
    simp only [iv_mt, e0, e1, e2, hd.1, hd.2.1, hd.2.2]
    rw [if_neg (show ¬ (1 : Int) = 0 by decide)]
    split <;> split <;> omega
  · have e' : n.toNat = 2 := by omega
    rw [e', hv.2.2.1]
    simp only [iv_mt, e0, e1, e2, hd.1, hd.2.1, hd.2.2]
    rw [if_neg (show ¬ (1 : Int) = 0 by decide)]
    repeat' split
    all_goals omega
  · have e' : n.toNat = 3 := by omega
    rw [e', hv.2.2.2]
    simp only [iv_mt, e0, e1, e2, hd.1, hd.2.1, hd.2.2]
    rw [if_neg (show ¬ (1 : Int) = 0 by decide)]
    repeat' split
    all_goals omega
theorem u_beginningM {Q : Int → jv_Mem → Prop} {g : jv_Mem} (n0 : 0 ≤ g 126 1) (n1 : g 126 1 ≤ 3) (w0 : 0 ≤ g 126 2) (w1 : g 126 2 ≤ 30) (hs : ∀ i, 0 ≤ i → i < g 126 1 → 0 ≤ g 127 i ∧ g 127 i < 9) (hl : ∀ w, 0 ≤ w → w < g 126 2 → 0 ≤ g 129 w ∧ g 129 w < 729) (hQ : Q (iv_bg (g 129) (iv_cod (g 127) (g 126 1).toNat) (g 126 2).toNat) (jv_up g 126 29 0)) : wp_X9_beginning Q g := by
  unfold wp_X9_beginning
  rintro g1 rfl
  have e1 : jv_up g 126 29 0 126 1 = g 126 1 := jv_up_n (by omega)
  have e2 : jv_up g 126 29 0 126 2 = g 126 2 := jv_up_n (by omega)
  have e3 : jv_up g 126 29 0 127 = g 127 := jv_up_row (by omega)
  have e4 : jv_up g 126 29 0 129 = g 129 := jv_up_row (by omega)
  rw [← e1, ← e2, ← e3, ← e4] at hQ
  rw [← e1] at n0 n1
  rw [← e2] at w0 w1
  rw [← e1, ← e3] at hs
  rw [← e2, ← e4] at hl
  generalize jv_up g 126 29 0 = g at *
  clear e1 e2 e3 e4
  refine ⟨fun n x1 x2 gl => gl = g ∧ 0 ≤ x2 ∧ x2 ≤ g 126 2 ∧ x1 = iv_bg (g 129) (iv_cod (g 127) (g 126 1).toNat) x2.toNat ∧ n = (g 126 2 - x2).toNat, ⟨_, rfl, by omega, by omega, rfl, rfl⟩, ?_⟩
  rintro n x1 x2 gl ⟨rfl, a0, a1, a2, a3⟩
  refine ⟨⟨(by unfold jv_r; omega), (by unfold jv_r; omega)⟩, fun h => ?_, fun h => ?_⟩
  · have e : x2 = gl 126 2 := by omega
    rw [a2, e]; exact hQ
  · have hx := hl x2 a0 h
    refine ⟨fun m x3 x4 gm => gm = gl ∧ 0 ≤ x4 ∧ x4 ≤ gl 126 1 ∧ x3 = iv_mt (gl 129 x2) (gl 127) x4.toNat ∧ m = (gl 126 1 - x4).toNat, ⟨_, rfl, by omega, by omega, rfl, rfl⟩, ?_⟩
    rintro m x3 x4 gm ⟨rfl, b0, b1, b2, b3⟩
    have m01 := @iv_mt_01 (gm 129 x2) (gm 127) x4.toNat
    rw [← b2] at m01
    have step : ∀ y : Int, x4 < gm 126 1 → y = (if x3 = 0 then 0 else if iv_dg (gm 129 x2) x4 = gm 127 x4 then 1 else 0) → wB_X9_beginning_61 (fun x1' x2' g' => ∃ n', n' < m ∧ g' = gm ∧ 0 ≤ x2' ∧ x2' ≤ gm 126 1 ∧ x1' = iv_mt (gm 129 x2) (gm 127) x2'.toNat ∧ n' = (gm 126 1 - x2').toNat) x4 y gm := by
      intro y hlt ey v4 ev
      refine ⟨(gm 126 1 - v4).toNat, by omega, rfl, by omega, by omega, ?_, rfl⟩
      have e : v4.toNat = x4.toNat + 1 := by omega
      have e6 : ((x4.toNat : Nat) : Int) = x4 := by omega
      rw [e, ey, b2]; simp only [iv_mt]; rw [e6]
    refine ⟨⟨(by unfold jv_r; omega), (by unfold jv_r; omega)⟩, fun hh => ⟨(by unfold jv_r; omega), fun hz => ?_, fun hz => ?_⟩, fun hh => ⟨(by unfold jv_r; omega), fun hz => ?_, fun hz => ⟨by omega, ?_⟩⟩⟩
    · intro v1 ev1 v2 ev2
      refine ⟨(gm 126 2 - v2).toNat, by omega, rfl, by omega, by omega, ?_, rfl⟩
      have e : v2.toNat = x2.toNat + 1 := by omega
      have e6 : ((x2.toNat : Nat) : Int) = x2 := by omega
      have e7 : x4 = gm 126 1 := by omega
      rw [e, ev1, a2]; simp only [iv_bg]; rw [e6, iv_mt_bg hx.1 hx.2 n0 n1 hs, ← e7, ← b2]; omega
    · intro v1 ev1 v2 ev2
      refine ⟨(gm 126 2 - v2).toNat, by omega, rfl, by omega, by omega, ?_, rfl⟩
      have e : v2.toNat = x2.toNat + 1 := by omega
      have e6 : ((x2.toNat : Nat) : Int) = x2 := by omega
      have e7 : x4 = gm 126 1 := by omega
      rw [e, ev1, a2]; simp only [iv_bg]; rw [e6, iv_mt_bg hx.1 hx.2 n0 n1 hs, ← e7, ← b2]; omega
    · exact step 0 hh (by rw [if_pos hz])
    · refine u_letterOf hx.1 (by omega) b0 (by omega) ?_
      have hr := @iv_dg_r (gm 129 x2) x4 hx.1 hx.2
      have hr2 := hs x4 b0 hh
      exact ⟨by omega, ⟨(by unfold jv_r; omega), (by unfold jv_r; omega)⟩, fun hne => step 0 hh (by rw [if_neg hz, if_neg hne]), fun he => step 1 hh (by rw [if_neg hz, if_pos he])⟩
