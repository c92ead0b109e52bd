def iv_cost : Nat → Int
  | 0 => 5
  | n + 1 => if 40 < 2 * iv_cost n then 40 else 2 * iv_cost n
theorem iv_cost_r : ∀ n : Nat, 5 ≤ iv_cost n ∧ iv_cost n ≤ 40 := by
  intro n
  induction n with
  | zero => exact ⟨by decide, by decide⟩
  | succ n ih => simp only [iv_cost]; split <;> omega
theorem iv_cost_3 : ∀ n : Nat, iv_cost (n + 3) = 40 := by
  intro n
  induction n with
  | zero => decide
  | succ n ih =>
    show (if 40 < 2 * iv_cost (n + 3) then 40 else 2 * iv_cost (n + 3)) = 40
    rw [ih]; decide
theorem iv_cost_v {h : Int} (h0 : 0 ≤ h) : (h ≤ 2 → jv_shl 5 h = iv_cost h.toNat) ∧ (2 < h → 40 = iv_cost h.toNat) := by
  constructor
  · intro h2
    have hh : h = 0 ∨ h = 1 ∨ h = 2 := by omega
    rcases hh with e | e | e <;> subst e <;> decide +kernel
  · intro h2
    have e : h.toNat = (h.toNat - 3) + 3 := by omega
    rw [e, iv_cost_3]
theorem u_cost {t p : Int} {Q : Int → jv_Mem → Prop} {g : jv_Mem} (p0 : 0 ≤ p) (p1 : p < 20) (h0 : 0 ≤ g (t + 5) p) (h1 : g (t + 5) p ≤ 3000) (hQ : Q (iv_cost (g (t + 5) p).toNat) g) : wp_X4_cost t p Q g := by
  unfold wp_X4_cost
  refine ⟨fun n x2 x3 gl => gl = g ∧ 0 ≤ x3 ∧ x3 ≤ g (t + 5) p ∧ x2 = iv_cost x3.toNat ∧ n = (g (t + 5) p - x3).toNat, ⟨_, rfl, by omega, by omega, rfl, rfl⟩, ?_⟩
  rintro n x2 x3 gl ⟨rfl, a0, a1, a2, a3⟩
  have hc := iv_cost_r x3.toNat
  refine ⟨⟨p0, p1⟩, ⟨(by unfold jv_r; omega), (by unfold jv_r; omega)⟩, fun h => ?_, fun h => ⟨(by unfold jv_r; omega), ?_⟩⟩
  · have e : x3 = gl (t + 5) p := by omega
    rw [a2, e]; exact hQ
  · intro v2 e2 v3 e3
    refine ⟨(gl (t + 5) p - v3).toNat, by omega, rfl, by omega, by omega, ?_, rfl⟩
    have e : v3.toNat = x3.toNat + 1 := by omega
    rw [e, e2, a2]; rfl
