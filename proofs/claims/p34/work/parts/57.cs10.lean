theorem iv_fj {g g' : jv_Mem} {x4 x4' : Int} (h : iJ x4 g) (hx : x4 ≤ x4') (h1 : ∀ i, i ≠ 10 → i ≠ 12 → i ≠ 13 → i ≠ 126 → i ≠ 131 → i ≠ 133 → i ≠ 148 → g' i = g i) (h2 : ∀ k, k ≠ 8 → k ≠ 9 → k ≠ 29 → g' 126 k = g 126 k) : iJ x4' g' :=
  h.fr hx (fun i k hik => by
    unfold jv_scr at hik
    by_cases e : i = 126
    · subst e; exact h2 k (by omega) (by omega) (by omega)
    · rw [h1 i (by omega) (by omega) (by omega) e (by omega) (by omega) (by omega)])
