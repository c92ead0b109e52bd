theorem iJ2_add {g g2 : jv_Mem} {v a p : Int} (h : iJ2 g) (n1 : g 3 6 < 30) (v0 : 0 ≤ v) (v1 : v < 729) (a0 : 0 ≤ a) (a1 : a ≤ 99) (hT : g 128 v ≤ 0) (p0 : 0 ≤ p) (p1 : p ≤ g 3 6)
    (k0 : g2 126 2 = g 3 6 + 1) (k1 : g2 3 6 = g 3 6 + 1) (r129 : ∀ k, g2 129 k = if k = g 3 6 then v else g 129 k) (r130 : ∀ k, g2 130 k = if k = g 3 6 then a else g 130 k) (r128 : ∀ k, g2 128 k = if k = v then g 3 6 + 1 else g 128 k)
    (r4 : ∀ k, g2 4 k = if k = g 3 6 then 729 + v else g 4 k) (r6 : ∀ k, g2 6 k = if k = g 3 6 then a else g 6 k) (r9 : ∀ k, g2 9 k = if k = 729 + v then g 3 6 else g 9 k)
    (r5 : ∀ k, g2 5 k = if k = g 3 6 * 3 + 2 then (729 + v) % 9 else if k = g 3 6 * 3 + 1 then (729 + v) / 9 % 9 else if k = g 3 6 * 3 + 0 then (729 + v) / 9 / 9 % 9 else g 5 k)
    (r8 : ∀ k, g2 8 k = g 8 k + (if k = 729 + v ∨ k = (729 + v) / 9 ∨ k = (729 + v) / 9 / 9 ∨ k = 1 then 1 else 0))
    (b2 : ∀ i, 0 ≤ i → i < p → g2 7 i = g 7 i) (b3 : g2 7 p = g 3 6) (b4 : ∀ i, p < i → i ≤ g 3 6 → g2 7 i = g 7 (i - 1)) (b5 : 0 < p → g 4 (g 7 (p - 1)) ≤ 729 + v) (b6 : ∀ i, p ≤ i → i < g 3 6 → 729 + v < g 4 (g 7 i)) : iJ2 g2 := by
  obtain ⟨m1, m2, m3, hw, hb, hc, ho, hs, hj⟩ := h
  unfold iJ2
  rw [k0, k1]
  generalize g 3 6 = n at *
  have hne : ∀ w, 0 ≤ w → w < n → g 129 w ≠ v := fun w w0 w1 e => by
    have := hw w w0 w1
    rw [e] at this; omega
  have lt1 : ∀ i, 0 ≤ i → i < p → g 129 (g 7 i) < v := fun i i0 i1 => by
    have h1 := ho (p - 1) (by omega) (by omega)
    have h2 := hw _ h1.1 h1.2
    have h3 := hne _ h1.1 h1.2
    have h4 := b5 (by omega)
    by_cases e : i = p - 1
    · rw [e]; omega
    · have := hs i (p - 1) i0 (by omega) (by omega)
      omega
  have lt2 : ∀ i, p ≤ i → i < n → v < g 129 (g 7 i) := fun i i0 i1 => by
    have h1 := ho i (by omega) i1
    have h2 := hw _ h1.1 h1.2
    have := b6 i i0 i1
    omega
  refine ⟨rfl, by omega, by omega, fun w w0 w1 => ?_, fun c c0 c1 => ?_, fun c c0 c1 => ⟨?_, ?_⟩, fun i i0 i1 => ?_, fun i j i0 ij j1 => ?_, fun w w0 w1 => ?_⟩
  · by_cases e : w = n
    · subst e
      rw [r129, if_pos rfl, r4, if_pos rfl, r6, if_pos rfl, r130, if_pos rfl, r128, if_pos rfl]
      refine ⟨v0, v1, rfl, fun k q0 q1 => ?_, rfl, a0, a1, rfl⟩
      have hk : k = 0 ∨ k = 1 ∨ k = 2 := by omega
      have hd := @iv_dg_v v
      rw [r5]
      rcases hk with e | e | e
      · subst e; rw [if_neg (by omega), if_neg (by omega), if_pos (by omega), hd.1]; omega
      · subst e; rw [if_neg (by omega), if_pos (by omega), hd.2.1]; omega
      · subst e; rw [if_pos (by omega), hd.2.2]; omega
    · have q1 : w < n := by omega
      obtain ⟨d1, d2, d3, d4, d5, d6, d7, d8⟩ := hw w w0 q1
      rw [r129, if_neg e, r4, if_neg e, r6, if_neg e, r130, if_neg e, r128, if_neg (hne w w0 q1)]
      refine ⟨d1, d2, d3, fun k q0 q1 => ?_, d5, d6, d7, d8⟩
      rw [r5, if_neg (by omega), if_neg (by omega), if_neg (by omega)]
      exact d4 k q0 q1
  · rw [r128]
    by_cases e : c = v
    · rw [if_pos e]
      refine Or.inr ⟨by omega, by omega, ?_⟩
      rw [r129, if_pos (by omega)]; exact e.symm
    · rw [if_neg e]
      rcases hb c c0 c1 with h9 | ⟨h9, h10, h11⟩
      · exact Or.inl h9
      · refine Or.inr ⟨h9, by omega, ?_⟩
        rw [r129, if_neg (by omega)]; exact h11
  · rw [r9, (hc c c0 c1).1]
    by_cases e : c = 729 + v
    · rw [if_pos e, if_pos (by omega), r128, if_pos (by omega)]; omega
    · rw [if_neg e]
      by_cases e2 : 729 ≤ c
      · rw [if_pos e2, if_pos e2, r128, if_neg (by omega)]
      · rw [if_neg e2, if_neg e2]
  · have e1 : (n + 1).toNat = n.toNat + 1 := by omega
    have e6 : ((n.toNat : Nat) : Int) = n := by omega
    rw [r8, (hc c c0 c1).2, e1]
    simp only [iv_bg]
    have eb : iv_bg (g2 129) c n.toNat = iv_bg (g 129) c n.toNat := iv_bg_congr (fun i i0 i1 => by rw [r129, if_neg (by omega)])
    rw [e6, r129, if_pos rfl, eb]
    by_cases h9 : c = 729 + v ∨ c = (729 + v) / 9 ∨ c = (729 + v) / 9 / 9 ∨ c = 1
    · rw [if_pos h9, if_pos (by omega)]
    · rw [if_neg h9, if_neg (by omega)]
  · by_cases e : i < p
    · rw [b2 i i0 e]; have := ho i i0 (by omega); omega
    · by_cases e2 : i = p
      · rw [e2, b3]; omega
      · rw [b4 i (by omega) (by omega)]; have := ho (i - 1) (by omega) (by omega); omega
  · have val : ∀ i, 0 ≤ i → i < n + 1 → g2 129 (g2 7 i) = if i < p then g 129 (g 7 i) else if i = p then v else g 129 (g 7 (i - 1)) := fun i i0 i1 => by
      by_cases e : i < p
      · have := ho i i0 (by omega)
        rw [b2 i i0 e, r129, if_neg (by omega), if_pos e]
      · by_cases e2 : i = p
        · rw [e2, b3, r129, if_pos rfl, if_neg (by omega), if_pos rfl]
        · have := ho (i - 1) (by omega) (by omega)
          rw [b4 i (by omega) (by omega), r129, if_neg (by omega), if_neg e, if_neg e2]
    rw [val i i0 (by omega), val j (by omega) j1]
    by_cases e1 : i < p
    · rw [if_pos e1]
      have l1 := lt1 i i0 e1
      by_cases e2 : j < p
      · rw [if_pos e2]; exact hs i j i0 ij (by omega)
      · rw [if_neg e2]
        by_cases e3 : j = p
        · rw [if_pos e3]; exact l1
        · rw [if_neg e3]; have := lt2 (j - 1) (by omega) (by omega); omega
    · rw [if_neg e1, if_neg (show ¬ j < p by omega), if_neg (show ¬ j = p by omega)]
      have l2 := lt2 (j - 1) (by omega) (by omega)
      by_cases e3 : i = p
      · rw [if_pos e3]; exact l2
      · rw [if_neg e3]; exact hs (i - 1) (j - 1) (by omega) (by omega) (by omega)
  · by_cases e : w = n
    · exact ⟨p, p0, by omega, by rw [b3, e]⟩
    · obtain ⟨i, i0, i1, hi⟩ := hj w w0 (by omega)
      by_cases e2 : i < p
      · exact ⟨i, i0, by omega, by rw [b2 i i0 e2, hi]⟩
      · refine ⟨i + 1, by omega, by omega, ?_⟩
        rw [b4 (i + 1) (by omega) (by omega), ← hi]
        congr 1; omega
