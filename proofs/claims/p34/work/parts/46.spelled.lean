/-! the spelled text -/
def iv_w (c : Int) : Int := if c = 8 then 2 else 1
def iv_cd (s : Int → Int) : Int → Nat → Int
  | _, 0 => 0
  | i, m + 1 => iv_w (s i) + iv_cd s (i + 1) m
def iv_co (c k : Int) : Int := if c = 8 then (if k = 0 then 55348 else 56606) else 97 + c
def iv_at (s : Int → Int) (a : Int) : Int → Int → Nat → Int
  | _, _, 0 => -1
  | b, i, m + 1 => if a < b + iv_w (s i) then iv_co (s i) (a - b) else iv_at s a (b + iv_w (s i)) (i + 1) m
theorem iv_w_r {c : Int} : 1 ≤ iv_w c ∧ iv_w c ≤ 2 := by unfold iv_w; split <;> omega
theorem iv_cd_congr {s t : Int → Int} : ∀ {m : Nat} {i : Int}, (∀ j, i ≤ j → j < i + m → t j = s j) → iv_cd t i m = iv_cd s i m := by
  intro m
  induction m with
  | zero => intro i _; rfl
  | succ m ih => intro i h; simp only [iv_cd]; rw [h i (by omega) (by omega), ih (fun j a b => h j (by omega) (by omega))]
theorem iv_at_congr {s t : Int → Int} {a : Int} : ∀ {m : Nat} {b i : Int}, (∀ j, i ≤ j → j < i + m → t j = s j) → iv_at t a b i m = iv_at s a b i m := by
  intro m
  induction m with
  | zero => intro b i _; rfl
  | succ m ih => intro b i h; simp only [iv_at]; rw [h i (by omega) (by omega), ih (fun j a b => h j (by omega) (by omega))]
theorem iv_cd_r {s : Int → Int} : ∀ {m : Nat} {i : Int}, m ≤ iv_cd s i m ∧ iv_cd s i m ≤ 2 * m := by
  intro m
  induction m with
  | zero => intro i; simp [iv_cd]
  | succ m ih => intro i; have := @ih (i + 1); have := @iv_w_r (s i); simp only [iv_cd]; omega
theorem iv_at_n {s : Int → Int} {a : Int} : ∀ {m : Nat} {b i : Int}, b ≤ a → (∀ j, i ≤ j → j < i + m → 0 ≤ s j ∧ s j < 9) → (b + iv_cd s i m ≤ a → iv_at s a b i m = -1) ∧ (a < b + iv_cd s i m → 97 ≤ iv_at s a b i m ∧ iv_at s a b i m < 65536) := by
  intro m
  induction m with
  | zero => intro b i h _; exact ⟨fun _ => rfl, fun h2 => by simp only [iv_cd] at h2; omega⟩
  | succ m ih =>
    intro b i h hs
    have hw := @iv_w_r (s i)
    have hc := @iv_cd_r s m (i + 1)
    have h0 := hs i (by omega) (by omega)
    simp only [iv_cd, iv_at]
    by_cases hlt : a < b + iv_w (s i)
    · rw [if_pos hlt]
      refine ⟨fun h2 => by omega, fun _ => ?_⟩
      unfold iv_co
      split
      · split <;> omega
      · omega
    · rw [if_neg hlt]
      have := @ih (b + iv_w (s i)) (i + 1) (by omega) (fun j p q => hs j (by omega) (by omega))
      exact ⟨fun h2 => this.1 (by omega), fun h2 => this.2 (by omega)⟩
theorem u_width {c : Int} {Q : Int → jv_Mem → Prop} {g : jv_Mem} (r : jv_r c) (hQ : Q (iv_w c) g) : wp_X5_width c Q g := by
  unfold iv_w at hQ
  exact ⟨r, fun h => by rw [if_neg h] at hQ; exact hQ, fun h => by rw [if_pos h] at hQ; exact hQ⟩
theorem u_charCount {Q : Int → jv_Mem → Prop} {g : jv_Mem} (n0 : 0 ≤ g 1 1) (n1 : g 1 1 ≤ 3) (hs : ∀ i, 0 ≤ i → i < g 1 1 → jv_r (g 2 i)) (hQ : Q (iv_cd (g 2) 0 (g 1 1).toNat) g) : wp_X5_charCount Q g := by
  unfold wp_X5_charCount
  refine ⟨fun n x1 x2 gl => gl = g ∧ 0 ≤ x2 ∧ x2 ≤ g 1 1 ∧ x1 + iv_cd (g 2) x2 (g 1 1 - x2).toNat = iv_cd (g 2) 0 (g 1 1).toNat ∧ n = (g 1 1 - x2).toNat, ⟨_, rfl, by omega, by omega, by rw [Int.sub_zero]; omega, rfl⟩, ?_⟩
  rintro n x1 x2 gl ⟨rfl, a0, a1, a2, a3⟩
  refine ⟨⟨(by unfold jv_r; omega), (by unfold jv_r; omega)⟩, fun h => ?_, fun h => ⟨by omega, u_width (hs x2 a0 h) ?_⟩⟩
  · have e : (gl 1 1 - x2).toNat = 0 := by omega
    rw [e] at a2
    simp only [iv_cd] at a2
    have e2 : x1 = iv_cd (gl 2) 0 (gl 1 1).toNat := by omega
    rw [e2]; exact hQ
  · intro v1 e1 v2 e2
    refine ⟨(gl 1 1 - v2).toNat, by omega, rfl, by omega, by omega, ?_, rfl⟩
    have e : (gl 1 1 - x2).toNat = (gl 1 1 - v2).toNat + 1 := by omega
    rw [e] at a2
    simp only [iv_cd] at a2
    rw [e2] at a2 ⊢
    omega
theorem u_charOrNone {a : Int} {Q : Int → jv_Mem → Prop} {g : jv_Mem} (ra : jv_r a) (n0 : 0 ≤ g 1 1) (n1 : g 1 1 ≤ 3) (hs : ∀ i, 0 ≤ i → i < g 1 1 → 0 ≤ g 2 i ∧ g 2 i < 9) (hQ : 0 ≤ a → Q (iv_at (g 2) a 0 0 (g 1 1).toNat) g) (hN : a < 0 → Q (-1) g) : wp_X5_charOrNone a Q g := by
  unfold wp_X5_charOrNone
  refine ⟨ra, fun ha => ?_, hN⟩
  have ra' := ra
  unfold jv_r at ra'
  have hQ := hQ ha
  refine ⟨fun n x1 x2 gl => gl = g ∧ 0 ≤ x2 ∧ x2 ≤ g 1 1 ∧ 0 ≤ x1 ∧ x1 ≤ 2 * x2 ∧ x1 ≤ a ∧ iv_at (g 2) a x1 x2 (g 1 1 - x2).toNat = iv_at (g 2) a 0 0 (g 1 1).toNat ∧ n = (g 1 1 - x2).toNat, ⟨_, rfl, by omega, by omega, by omega, by omega, by omega, by rw [Int.sub_zero], rfl⟩, ?_⟩
  rintro n x1 x2 gl ⟨rfl, a0, a1, b0, b1, b2, a2, a3⟩
  refine ⟨⟨(by unfold jv_r; omega), (by unfold jv_r; omega)⟩, fun h => ?_, fun h => ⟨by omega, u_width (by have := hs x2 a0 h; unfold jv_r; omega) ?_⟩⟩
  · have e : (gl 1 1 - x2).toNat = 0 := by omega
    rw [e] at a2
    simp only [iv_at] at a2
    rw [← a2] at hQ; exact hQ
  · intro v1 e1
    have hw := @iv_w_r (gl 2 x2)
    have e : (gl 1 1 - x2).toNat = (gl 1 1 - (x2 + 1)).toNat + 1 := by omega
    rw [e] at a2
    simp only [iv_at] at a2
    refine ⟨⟨ra, (by unfold jv_r; omega)⟩, fun hge => ?_, fun hlt => ⟨by omega, ?_⟩⟩
    · intro v2 e2
      rw [if_neg (by omega)] at a2
      refine ⟨(gl 1 1 - v2).toNat, by omega, rfl, by omega, by omega, by omega, by omega, by omega, ?_, rfl⟩
      rw [e2, e1]; exact a2
    · rw [if_pos (by omega)] at a2
      rw [← a2] at hQ
      have h9 := hs x2 a0 h
      unfold wp_X5_charOf
      unfold iv_co at hQ
      refine ⟨(by unfold jv_r; omega), fun h8 => ⟨(by unfold jv_r; omega), fun hk => ?_, fun hk => ?_⟩, fun h8 => ?_⟩
      · rw [if_pos h8, if_neg hk] at hQ; exact hQ
      · rw [if_pos h8, if_pos hk] at hQ; exact hQ
      · rw [if_neg h8] at hQ; exact hQ
