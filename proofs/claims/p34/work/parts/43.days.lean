/-! days, streaks, solved puzzles -/
theorem bit_eq {m c : Int} : jv_and (jv_shr m c) 1 = iv_bit m c := rfl
theorem u_cellOf {a0 a1 : Int} {Q : Int → jv_Mem → Prop} {g : jv_Mem} (r : jv_r a0) (hQ : Q (if a0 < 3 then a0 * 3 + a1 else a1 * 3 + a0 - 3) g) : wp_X8_cellOf a0 a1 Q g := by
  unfold wp_X8_cellOf
  refine ⟨r, fun h => ?_, fun h => ?_⟩
  · rw [if_neg (by omega)] at hQ; exact hQ
  · rw [if_pos h] at hQ; exact hQ
def iv_cs (e : Int) : Nat → Int
  | 0 => 0
  | n + 1 => jv_or (iv_cs e n) (jv_shl 1 (if e < 3 then e * 3 + (n : Nat) else (n : Nat) * 3 + e - 3))
theorem iv_cs3 {e : Int} (h0 : 0 ≤ e) (h1 : e < 6) : iv_cs e 3 = iv_ce e := by
  obtain ⟨k, rfl⟩ := @fi 6 e h0 h1
  have := (fb_8 k).2
  simp only [iv_cs]
  have e1 : (((0 : Nat) : Int)) = 0 := rfl
  have e2 : (((0 + 1 : Nat) : Int)) = 1 := rfl
  have e3 : (((0 + 1 + 1 : Nat) : Int)) = 2 := rfl
  rw [e1, e2, e3]
  rw [← this]
  have e4 : ((k.val : Int) < 3) ↔ (k.val < 3) := by omega
  simp only [e4]
theorem u_cellsOf {a : Int} {Q : Int → jv_Mem → Prop} {g : jv_Mem} (h0 : 0 ≤ a) (h1 : a < 6) (hQ : Q (iv_ce a) g) : wp_X8_cellsOf a Q g := by
  unfold wp_X8_cellsOf
  refine ⟨fun n x1 x2 gl => gl = g ∧ 0 ≤ x2 ∧ x2 ≤ 3 ∧ x1 = iv_cs a x2.toNat ∧ n = (3 - x2).toNat, ⟨3, rfl, by omega, by omega, rfl, rfl⟩, ?_⟩
  rintro n x2 x3 gl ⟨rfl, a0, a1, a2, a3⟩
  refine ⟨(by unfold jv_r; omega), fun h => ?_, fun h => ?_⟩
  · have e : x3 = 3 := by omega
    rw [a2, e]
    exact (iv_cs3 h0 h1).symm ▸ hQ
  · refine u_cellOf (by unfold jv_r; omega) ?_
    intro v1 e1 v2 e2
    refine ⟨(3 - v2).toNat, by omega, rfl, by omega, by omega, ?_, rfl⟩
    have e : v2.toNat = x3.toNat + 1 := by omega
    rw [e, e1, a2]
    simp only [iv_cs]
    have e' : ((x3.toNat : Nat) : Int) = x3 := by omega
    rw [e']
theorem u_floorDiv {a : Int} {Q : Int → jv_Mem → Prop} {g : jv_Mem} (h0 : -12 ≤ a) (h1 : a < 30100) (hQ : Q (a / 24) g) : wp_J9_floorDiv_7cf53 a 24 Q g := by
  unfold wp_J9_floorDiv_7cf53
  refine ⟨by decide, ?_⟩
  intro v hv
  refine ⟨ir_xor, fun h => ?_, fun h => ?_⟩
  · by_cases hn : a < 0
    · obtain ⟨k, hk⟩ := @fi 13 (-a) (by omega) (by omega)
      have := xf_2 k (by omega)
      rw [← hk] at this
      rw [Int.neg_neg] at this
      omega
    · rw [hv, iv_div (by omega) (by omega) (by omega) (by omega)]; exact hQ
  · by_cases hn : a < 0
    · obtain ⟨k, hk⟩ := @fi 13 (-a) (by omega) (by omega)
      have := xf_2 k (by omega)
      rw [← hk, Int.neg_neg] at this
      rw [this.2] at hv
      refine ⟨⟨(by unfold jv_r; omega), (by unfold jv_r; omega)⟩, fun hh => absurd hh (by omega), fun _ => ?_⟩
      have e : v - 1 = a / 24 := by omega
      rw [e]; exact hQ
    · obtain ⟨k, hk⟩ := @fi 302 (a / 100) (by omega) (by omega)
      obtain ⟨j, hj⟩ := @fi 100 (a % 100) (by omega) (by omega)
      have := xf_1 k j
      rw [← hk, ← hj] at this
      have e : 100 * (a / 100) + a % 100 = a := by omega
      rw [e] at this
      omega
theorem u_dayIndex {t a : Int} {Q : Int → jv_Mem → Prop} {g : jv_Mem} (h0 : -12 ≤ a + g t 2) (h1 : a + g t 2 < 30100) (hQ : Q (iv_day (g t 2) a) g) : wp_X2_dayIndex t a Q g := by
  unfold wp_X2_dayIndex
  refine u_floorDiv h0 h1 ?_
  have e : (a + g t 2) / 24 - -1 = iv_day (g t 2) a := by unfold iv_day; omega
  rw [e]; exact hQ
theorem u_run {t d x : Int} {Q : Int → jv_Mem → Prop} {g : jv_Mem} (h1 : d < 1252) (hr : ∀ k, 0 ≤ k → k < 1252 → jv_r (g (t + 2) k)) (hx : -1 ≤ d) (hQ : Q (iv_run (g (t + 2)) (d + 1).toNat) g) : wB_X2_daysInARow_24 t Q d g := by
  unfold wB_X2_daysInARow_24
  refine ⟨fun n x3 x4 gl => gl = g ∧ -1 ≤ x4 ∧ x4 ≤ d ∧ x3 + iv_run (g (t + 2)) (x4 + 1).toNat = iv_run (g (t + 2)) (d + 1).toNat ∧ n = (x4 + 1).toNat, ⟨_, rfl, by omega, by omega, by omega, rfl⟩, ?_⟩
  rintro n x3 x4 gl ⟨rfl, a0, a1, a2, a3⟩
  refine ⟨(by unfold jv_r; omega), fun h => ?_, fun h => ⟨by omega, hr x4 (by omega) (by omega), fun hz => ?_, fun hz => ?_⟩⟩
  · have e : (x4 + 1).toNat = 0 := by omega
    rw [e] at a2
    simp only [iv_run] at a2
    have e2 : x3 = iv_run (gl (t + 2)) (d + 1).toNat := by omega
    rw [e2]; exact hQ
  · have e : (x4 + 1).toNat = x4.toNat + 1 := by omega
    have e' : ((x4.toNat : Nat) : Int) = x4 := by omega
    rw [e] at a2
    simp only [iv_run] at a2
    rw [e', if_pos hz] at a2
    have e2 : x3 = iv_run (gl (t + 2)) (d + 1).toNat := by omega
    rw [e2]; exact hQ
  · intro v3 e3 v4 e4
    have e : (x4 + 1).toNat = x4.toNat + 1 := by omega
    have e' : ((x4.toNat : Nat) : Int) = x4 := by omega
    rw [e] at a2
    simp only [iv_run] at a2
    rw [e', if_neg hz] at a2
    have e5 : (v4 + 1).toNat = x4.toNat := by omega
    refine ⟨(v4 + 1).toNat, by omega, rfl, by omega, by omega, ?_, rfl⟩
    rw [e5]; omega
theorem u_daysInARow {t h : Int} {Q : Int → jv_Mem → Prop} {g : jv_Mem} (o0 : -12 ≤ g t 2) (o1 : g t 2 ≤ 14) (h0 : 0 ≤ h) (h1 : h ≤ 30000) (hr : ∀ k, 0 ≤ k → k < 1252 → jv_r (g (t + 2) k)) (hQ : Q (iv_stk (g (t + 2)) (iv_day (g t 2) h)) g) : wp_X2_daysInARow t h Q g := by
  unfold wp_X2_daysInARow
  have d0 : 0 ≤ iv_day (g t 2) h ∧ iv_day (g t 2) h < 1252 := by unfold iv_day; omega
  refine u_dayIndex (by omega) (by omega) ⟨d0, hr _ d0.1 d0.2, fun hz => ?_, fun hz => ?_⟩
  · refine u_run (x := 0) (by omega) hr (by omega) ?_
    unfold iv_stk at hQ
    rw [if_pos hz] at hQ
    have e : (iv_day (g t 2) h - 1 + 1) = iv_day (g t 2) h := by omega
    rw [e]; exact hQ
  · refine u_run (x := 0) (by omega) hr (by omega) ?_
    unfold iv_stk at hQ
    rw [if_neg hz] at hQ
    exact hQ

