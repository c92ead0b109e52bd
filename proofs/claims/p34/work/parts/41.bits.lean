/-! finite facts of sets of cells -/
theorem fb_1 : ∀ j : Fin 64, 0 ≤ iv_op j.val ∧ iv_op j.val < 512 := by decide +kernel
theorem fb_2 : ∀ j : Fin 64, ∀ e : Fin 6, iv_bit j.val e.val = 0 ∨ iv_bit j.val e.val = 1 := by decide +kernel
theorem fb_3 : ∀ j : Fin 64, ∀ e : Fin 6, jv_or (iv_op j.val) (iv_ce e.val) = iv_op (jv_or j.val (jv_shl 1 e.val)) ∧ 0 ≤ jv_or j.val (jv_shl 1 e.val) ∧ jv_or j.val (jv_shl 1 e.val) < 64 := by decide +kernel
theorem fb_4 : ∀ m : Fin 512, (∀ c : Fin 9, iv_bit m.val c.val = 0 ∨ iv_bit m.val c.val = 1) ∧ ((∀ c : Fin 9, iv_bit m.val c.val = 1) → m.val = 511) := by decide +kernel
theorem fb_5 : ∀ j : Fin 64, ∀ e : Fin 6, ∀ c : Fin 9, iv_bit (jv_or (iv_op j.val) (iv_ce e.val)) c.val = (if iv_bit (iv_op j.val) c.val = 0 then iv_bit (iv_ce e.val) c.val else 1) ∧ iv_bit (jv_and (iv_ce e.val) (jv_xor (iv_op j.val) (-1))) c.val = (if iv_bit (iv_op j.val) c.val = 0 then iv_bit (iv_ce e.val) c.val else 0) := by decide +kernel
theorem fb_6 : ∀ e : Fin 6, ∀ c : Fin 9, iv_bit (iv_ce e.val) c.val = 0 ∨ iv_bit (iv_ce e.val) c.val = 1 := by decide +kernel
theorem fb_7 : iv_op 0 = 0 := by decide +kernel
theorem fb_8 : ∀ e : Fin 6, jv_r (iv_ce e.val) ∧ jv_or (jv_or (jv_or 0 (jv_shl 1 (if e.val < 3 then e.val * 3 + 0 else 0 * 3 + e.val - 3))) (jv_shl 1 (if e.val < 3 then e.val * 3 + 1 else 1 * 3 + e.val - 3))) (jv_shl 1 (if e.val < 3 then e.val * 3 + 2 else 2 * 3 + e.val - 3)) = iv_ce e.val := by unfold jv_r; decide +kernel
theorem fi {n : Nat} {j : Int} (h0 : 0 ≤ j) (h1 : j < n) : ∃ k : Fin n, j = k.val := ⟨⟨j.toNat, by omega⟩, by simp; omega⟩
theorem ib_op {j : Int} (h0 : 0 ≤ j) (h1 : j < 64) : 0 ≤ iv_op j ∧ iv_op j < 512 := by obtain ⟨k, rfl⟩ := @fi 64 j h0 h1; exact fb_1 k
theorem ib_j {j e : Int} (h0 : 0 ≤ j) (h1 : j < 64) (h2 : 0 ≤ e) (h3 : e < 6) : iv_bit j e = 0 ∨ iv_bit j e = 1 := by
  obtain ⟨k, rfl⟩ := @fi 64 j h0 h1
  obtain ⟨c, rfl⟩ := @fi 6 e h2 h3
  exact fb_2 k c
theorem ib_st {j e : Int} (h0 : 0 ≤ j) (h1 : j < 64) (h2 : 0 ≤ e) (h3 : e < 6) : jv_or (iv_op j) (iv_ce e) = iv_op (jv_or j (jv_shl 1 e)) ∧ 0 ≤ jv_or j (jv_shl 1 e) ∧ jv_or j (jv_shl 1 e) < 64 := by
  obtain ⟨k, rfl⟩ := @fi 64 j h0 h1
  obtain ⟨c, rfl⟩ := @fi 6 e h2 h3
  exact fb_3 k c
theorem ib_m {m c : Int} (h0 : 0 ≤ m) (h1 : m < 512) (h2 : 0 ≤ c) (h3 : c < 9) : iv_bit m c = 0 ∨ iv_bit m c = 1 := by
  obtain ⟨k, rfl⟩ := @fi 512 m h0 h1
  obtain ⟨c, rfl⟩ := @fi 9 c h2 h3
  exact (fb_4 k).1 c
theorem ib_511 {m : Int} (h0 : 0 ≤ m) (h1 : m < 512) (h : ∀ c : Int, 0 ≤ c → c < 9 → ¬ iv_bit m c = 0) : m = 511 := by
  obtain ⟨k, rfl⟩ := @fi 512 m h0 h1
  have := (fb_4 k).2 (fun c => by
    have h4 := h c.val (by omega) (by omega)
    rcases (fb_4 k).1 c with h5 | h5
    · exact absurd h5 h4
    · exact h5)
  omega
theorem ib_511' {c : Int} (h2 : 0 ≤ c) (h3 : c < 9) : iv_bit 511 c = 1 := by
  obtain ⟨c, rfl⟩ := @fi 9 c h2 h3
  revert c
  decide +kernel
theorem ib_bits {j e c : Int} (h0 : 0 ≤ j) (h1 : j < 64) (h2 : 0 ≤ e) (h3 : e < 6) (h4 : 0 ≤ c) (h5 : c < 9) : iv_bit (jv_or (iv_op j) (iv_ce e)) c = (if iv_bit (iv_op j) c = 0 then iv_bit (iv_ce e) c else 1) ∧ iv_bit (jv_and (iv_ce e) (jv_xor (iv_op j) (-1))) c = (if iv_bit (iv_op j) c = 0 then iv_bit (iv_ce e) c else 0) := by
  obtain ⟨k, rfl⟩ := @fi 64 j h0 h1
  obtain ⟨c, rfl⟩ := @fi 9 c h4 h5
  obtain ⟨e, rfl⟩ := @fi 6 e h2 h3
  exact fb_5 k e c
theorem ib_ce {e c : Int} (h2 : 0 ≤ e) (h3 : e < 6) (h4 : 0 ≤ c) (h5 : c < 9) : iv_bit (iv_ce e) c = 0 ∨ iv_bit (iv_ce e) c = 1 := by
  obtain ⟨c, rfl⟩ := @fi 9 c h4 h5
  obtain ⟨e, rfl⟩ := @fi 6 e h2 h3
  exact fb_6 e c
theorem ib_r {m c : Int} : jv_r (iv_bit m c) := ⟨Int32.le_toInt _, Int32.toInt_lt _⟩
theorem ir_and {x y : Int} : jv_r (jv_and x y) := ⟨Int32.le_toInt _, Int32.toInt_lt _⟩
theorem ir_or {x y : Int} : jv_r (jv_or x y) := ⟨Int32.le_toInt _, Int32.toInt_lt _⟩
theorem ir_xor {x y : Int} : jv_r (jv_xor x y) := ⟨Int32.le_toInt _, Int32.toInt_lt _⟩
theorem ir_shl {x y : Int} : jv_r (jv_shl x y) := ⟨Int32.le_toInt _, Int32.toInt_lt _⟩
/-- division by small numbers -/
theorem i32 {x : Int} (h : jv_r x) : (Int32.ofInt x).toInt = x := Int32.toInt_ofInt_of_le h.1 h.2
theorem iv_div {x y : Int} (h0 : 0 ≤ x) (h1 : x < 2147483648) (h2 : 0 < y) (h3 : y < 2147483648) : jv_div x y = x / y := by
  unfold jv_div
  rw [Int32.toInt_div, i32 ⟨by omega, h1⟩, i32 ⟨by omega, h3⟩, Int.tdiv_eq_ediv_of_nonneg h0]
  have h4 : 0 ≤ x / y := Int.ediv_nonneg h0 (by omega)
  have h5 : x / y ≤ x := Int.ediv_le_self y h0
  have e : Int.bmod (x / y) (2 ^ 32) = x / y := by
    apply Int.bmod_eq_of_le <;> omega
  exact e
theorem iv_rem {x y : Int} (h0 : 0 ≤ x) (h1 : x < 2147483648) (h2 : 0 < y) (h3 : y < 2147483648) : jv_rem x y = x % y := by
  have h4 : 0 ≤ x / y := Int.ediv_nonneg h0 (by omega)
  have h5 : x / y ≤ x := Int.ediv_le_self y h0
  have h6 : 0 ≤ x / y * y := Int.mul_nonneg h4 (by omega)
  have h7 : x / y * y + x % y = x := by have := Int.mul_ediv_add_emod x y; rw [Int.mul_comm]; omega
  have h8 : 0 ≤ x % y := Int.emod_nonneg x (by omega)
  have e := iv_div h0 h1 h2 h3
  unfold jv_div at e
  unfold jv_rem
  rw [Int32.toInt_sub, Int32.toInt_mul, e, i32 ⟨by omega, h1⟩, i32 ⟨by omega, h3⟩]
  have e1 : Int.bmod (x / y * y) (2 ^ 32) = x / y * y := by apply Int.bmod_eq_of_le <;> omega
  rw [e1]
  have e2 : Int.bmod (x - x / y * y) (2 ^ 32) = x - x / y * y := by apply Int.bmod_eq_of_le <;> omega
  rw [e2]; omega
theorem xf_1 : ∀ j : Fin 302, ∀ k : Fin 100, 0 ≤ jv_xor (100 * j.val + k.val) 24 := by decide +kernel
theorem xf_2 : ∀ j : Fin 13, j.val ≠ 0 → jv_xor (-(j.val : Int)) 24 < 0 ∧ jv_div (-(j.val : Int)) 24 = 0 := by decide +kernel

