/-! loops, gone through a few times -/
def jv_J1 (body : (Int → jv_Mem → Prop) → Int → jv_Mem → Prop) : Nat → Int → jv_Mem → Prop
  | 0 => fun _ _ => False
  | n + 1 => fun x g => jv_J1 body n x g ∨ body (jv_J1 body n) x g
theorem jv_J1_x {body : (Int → jv_Mem → Prop) → Int → jv_Mem → Prop} : ∀ n : Nat, jv_J1 body n = fun x g => ∃ n', n' < n ∧ body (jv_J1 body n') x g := by
  intro n
  induction n with
  | zero => funext x g; exact propext ⟨fun h => h.elim, fun ⟨_, h, _⟩ => absurd h (Nat.not_lt_zero _)⟩
  | succ n ih =>
    funext x g
    refine propext ⟨fun h => ?_, fun ⟨n', h1, h2⟩ => ?_⟩
    · rcases h with h | h
      · rw [ih] at h
        obtain ⟨n', h1, h2⟩ := h
        exact ⟨n', by omega, h2⟩
      · exact ⟨n, by omega, h⟩
    · by_cases e : n' = n
      · rw [e] at h2; exact Or.inr h2
      · refine Or.inl ?_
        rw [ih]
        exact ⟨n', by omega, h2⟩
theorem jv_J1_s {body : (Int → jv_Mem → Prop) → Int → jv_Mem → Prop} {n : Nat} {x : Int} {g : jv_Mem} (h : body (jv_J1 body n) x g) : jv_J1 body (n + 1) x g := Or.inr h
theorem jv_lp1.un {body : (Int → jv_Mem → Prop) → Int → jv_Mem → Prop} (n : Nat) {x : Int} {g : jv_Mem} (h : body (jv_J1 body n) x g) : jv_lp1 body x g :=
  ⟨fun n x g => body (jv_J1 body n) x g, ⟨n, h⟩, fun n x g h => by have h2 : body (jv_J1 body n) x g := h; rw [jv_J1_x] at h2; exact h2⟩
def jv_J2 (body : (Int → Int → jv_Mem → Prop) → Int → Int → jv_Mem → Prop) : Nat → Int → Int → jv_Mem → Prop
  | 0 => fun _ _ _ => False
  | n + 1 => fun x y g => jv_J2 body n x y g ∨ body (jv_J2 body n) x y g
theorem jv_J2_x {body : (Int → Int → jv_Mem → Prop) → Int → Int → jv_Mem → Prop} : ∀ n : Nat, jv_J2 body n = fun x y g => ∃ n', n' < n ∧ body (jv_J2 body n') x y g := by
  intro n
  induction n with
  | zero => funext x y g; exact propext ⟨fun h => h.elim, fun ⟨_, h, _⟩ => absurd h (Nat.not_lt_zero _)⟩
  | succ n ih =>
    funext x y g
    refine propext ⟨fun h => ?_, fun ⟨n', h1, h2⟩ => ?_⟩
    · rcases h with h | h
      · rw [ih] at h
        obtain ⟨n', h1, h2⟩ := h
        exact ⟨n', by omega, h2⟩
      · exact ⟨n, by omega, h⟩
    · by_cases e : n' = n
      · rw [e] at h2; exact Or.inr h2
      · refine Or.inl ?_
        rw [ih]
        exact ⟨n', by omega, h2⟩
theorem jv_J2_s {body : (Int → Int → jv_Mem → Prop) → Int → Int → jv_Mem → Prop} {n : Nat} {x y : Int} {g : jv_Mem} (h : body (jv_J2 body n) x y g) : jv_J2 body (n + 1) x y g := Or.inr h
theorem jv_lp2.un {body : (Int → Int → jv_Mem → Prop) → Int → Int → jv_Mem → Prop} (n : Nat) {x y : Int} {g : jv_Mem} (h : body (jv_J2 body n) x y g) : jv_lp2 body x y g :=
  ⟨fun n x y g => body (jv_J2 body n) x y g, ⟨n, h⟩, fun n x y g h => by have h2 : body (jv_J2 body n) x y g := h; rw [jv_J2_x] at h2; exact h2⟩

