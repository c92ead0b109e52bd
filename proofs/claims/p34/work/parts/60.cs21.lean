theorem iv_rr_none {sv pz pt hr : Int → Int} {s : Int} : ∀ {n : Nat}, (∀ e : Int, 0 ≤ e → e < n → sv e ≠ s) → iv_rr sv pz pt hr s n = fun _ => -1 := by
  intro n
  induction n with
  | zero => intro _; rfl
  | succ n ih => intro h; funext k; simp only [iv_rr]; rw [if_neg (fun hh => h n (by omega) (by omega) hh.1), ih (fun e e0 e1 => h e e0 (by omega))]
theorem iv_sl_none {p m a : Int} : iv_sl (fun _ => -1) p m a = -1 := by
  unfold iv_sl
  have h : ∀ n : Nat, iv_sm (fun _ => -1) p n = 0 := by
    intro n
    induction n with
    | zero => rfl
    | succ n ih => simp only [iv_sm]; exact ih
  rw [if_neg (fun hh => by rw [h 9] at hh; omega)]
theorem iv_rc_none {sv pz pt hr ap : Int → Int} {s o : Int} : ∀ {n : Nat}, (∀ e : Int, 0 ≤ e → e < n → sv e ≠ s) → iv_rc sv pz pt hr ap s o n = fun _ => 0 := by
  intro n
  induction n with
  | zero => intro _; rfl
  | succ n ih =>
    intro h
    funext d
    simp only [iv_rc]
    rw [iv_rr_none h, ih (fun e e0 e1 => h e e0 (by omega)), iv_sl_none]
    split
    · unfold iv_sc; rw [if_pos rfl]
    · rfl
