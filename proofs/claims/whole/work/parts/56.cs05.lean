theorem iJ2_add {g g2 : jv_Mem} {v a p : Int} (h : iJ2 g) (n1 : g 3 6 < 30) (v0 : 0 ≤ v) (v1 : v < 729) (a0 : 0 ≤ a) (a1 : a ≤ 99) (hT : g 128 v ≤ 0) (p0 : 0 ≤ p) (p1 : p ≤ g 3 6)
    (k0 : g2 126 2 = g 3 6 + 1) (k1 : g2 3 6 = g 3 6 + 1) (r129 : ∀ k, g2 129 k = if k = g 3 6 then v else g 129 k) (r130 : ∀ k, g2 130 k = if k = g 3 6 then a else g 130 k) (r128 : ∀ k, g2 128 k = if k = v then g 3 6 + 1 else g 128 k)
    (r4 : ∀ k, g2 4 k = if k = g 3 6 then 729 + v else g 4 k) (r6 : ∀ k, g2 6 k = if k = g 3 6 then a else g 6 k) (r9 : ∀ k, g2 9 k = if k = 729 + v then g 3 6 else g 9 k)
    (r5 : ∀ k, g2 5 k = if k = g 3 6 * 3 + 2 then (729 + v) % 9 else if k = g 3 6 * 3 + 1 then (729 + v) / 9 % 9 else if k = g 3 6 * 3 + 0 then (729 + v) / 9 / 9 % 9 else g 5 k)
    (r8 : ∀ k, g2 8 k = g 8 k + (if k = 729 + v ∨ k = (729 + v) / 9 ∨ k = (729 + v) / 9 / 9 ∨ k = 1 then 1 else 0))
    (b2 : ∀ i, 0 ≤ i → i < p → g2 7 i = g 7 i) (b3 : g2 7 p = g 3 6) (b4 : ∀ i, p < i → i ≤ g 3 6 → g2 7 i = g 7 (i - 1)) (b5 : 0 < p → g 4 (g 7 (p - 1)) ≤ 729 + v) (b6 : ∀ i, p ≤ i → i < g 3 6 → 729 + v < g 4 (g 7 i)) : iJ2 g2 := by
  obtain ⟨m1, m2, m3, hw, hb, hc, ho, hs, hj⟩ := h
  unfold iJ2
  rw [k0, k1]
  generalize g 3 6 = n at *
  have hne : ∀ w, 0 ≤ w → w < n → g 129 w ≠ v := fun w w0 w1 e => by
    have := hw w w0 w1
    rw [e] at this; omega
  have lt1 : ∀ i, 0 ≤ i → i < p → g 129 (g 7 i) < v := fun i i0 i1 => by
    have h1 := ho (p - 1) (by omega) (by omega)
    have h2 := hw _ h1.1 h1.2
    have h3 := hne _ h1.1 h1.2
    have h4 := b5 (by omega)
    by_cases e : i = p - 1
    · rw [e]; omega
    · have := hs i (p - 1) i0 (by omega) (by omega)
      omega
  have lt2 : ∀ i, p ≤ i → i < n → v < g 129 (g 7 i) := fun i i0 i1 => by
    have h1 := ho i (by omega) i1
    have h2 := hw _ h1.1 h1.2
    have := b6 i i0 i1
    omega
  refine ⟨rfl, by omega, by omega, fun w w0 w1 => ?_, fun c c0 c1 => ?_, fun c c0 c1 => ⟨?_, ?_⟩, fun i i0 i1 => ?_, fun i j i0 ij j1 => ?_, fun w w0 w1 => ?_⟩
  · by_cases e : w = n
    · subst e
      rw [r129, if_pos rfl, r4, if_pos rfl, r6, if_pos rfl, r130, if_pos rfl, r128, if_pos rfl]
      refine ⟨v0, v1, rfl, fun k q0 q1 => ?_, rfl, a0, a1, rfl⟩
      have hk : k = 0 ∨ k = 1 ∨ k = 2 := by omega
      have hd := @iv_dg_v v
      rw [r5]
      rcases hk with e | e | e
      · subst e; rw [if_neg (by omega), if_neg (by omega), if_pos (by omega), hd.1]; omega
      · subst e; rw [if_neg (by omega), if_pos (by omega), hd.2.1]; omega
      · subst e; rw [if_pos (by omega), hd.2.2]; omega
    · have q1 : w < n := by omega
      obtain ⟨d1, d2, d3, d4, d5, d6, d7, d8⟩ := hw w w0 q1
      rw [r129, if_neg e, r4, if_neg e, r6, if_neg e, r130, if_neg e, r128, if_neg (hne w w0 q1)]
      refine ⟨d1, d2, d3, fun k q0 q1 => ?_, d5, d6, d7, d8⟩
      rw [r5, if_neg (by omega), if_neg (by omega), if_neg (by omega)]
      exact d4 k q0 q1
  · rw [r128]
    by_cases e : c = v
    · rw [if_pos e]
      refine Or.inr ⟨by omega, by omega, ?_⟩
      rw [r129, if_pos (by omega)]; exact e.symm
    · rw [if_neg e]
      rcases hb c c0 c1 with h9 | ⟨h9, h10, h11⟩
      · exact Or.inl h9
      · refine Or.inr ⟨h9, by omega, ?_⟩
        rw [r129, if_neg (by omega)]; exact h11
  · rw [r9, (hc c c0 c1).1]
    by_cases e : c = 729 + v
    · rw [if_pos e, if_pos (by omega), r128, if_pos (by omega)]; omega
    · rw [if_neg e]
      by_cases e2 : 729 ≤ c
      · rw [if_pos e2, if_pos e2, r128, if_neg (by omega)]
      · rw [if_neg e2, if_neg e2]
  · have e1 : (n + 1).toNat = n.toNat + 1 := by omega
    have e6 : ((n.toNat : Nat) : Int) = n := by omega
    rw [r8, (hc c c0 c1).2, e1]
    simp only [iv_bg]
    have eb : iv_bg (g2 129) c n.toNat = iv_bg (g 129) c n.toNat := iv_bg_congr (fun i i0 i1 => by rw [r129, if_neg (by omega)])
    rw [e6, r129, if_pos rfl, eb]
    by_cases h9 : c = 729 + v ∨ c = (729 + v) / 9 ∨ c = (729 + v) / 9 / 9 ∨ c = 1
    · rw [if_pos h9, if_pos (by omega)]
    · rw [if_neg h9, if_neg (by omega)]
  · by_cases e : i < p
    · rw [b2 i i0 e]; have := ho i i0 (by omega); omega
    · by_cases e2 : i = p
      · rw [e2, b3]; omega
      · rw [b4 i (by omega) (by omega)]; have := ho (i - 1) (by omega) (by omega); omega
  · have val : ∀ i, 0 ≤ i → i < n + 1 → g2 129 (g2 7 i) = if i < p then g 129 (g 7 i) else if i = p then v else g 129 (g 7 (i - 1)) := fun i i0 i1 => by
      by_cases e : i < p
      · have := ho i i0 (by omega)
        rw [b2 i i0 e, r129, if_neg (by omega), if_pos e]
      · by_cases e2 : i = p
        · rw [e2, b3, r129, if_pos rfl, if_neg (by omega), if_pos rfl]
        · have := ho (i - 1) (by omega) (by omega)
          rw [b4 i (by omega) (by omega), r129, if_neg (by omega), if_neg e, if_neg e2]
    rw [val i i0 (by omega), val j (by omega) j1]
    by_cases e1 : i < p
    · rw [if_pos e1]
      have l1 := lt1 i i0 e1
      by_cases e2 : j < p
      · rw [if_pos e2]; exact hs i j i0 ij (by omega)
      · rw [if_neg e2]
        by_cases e3 : j = p
        · rw [if_pos e3]; exact l1
        · rw [if_neg e3]; have := lt2 (j - 1) (by omega) (by omega); omega
    · rw [if_neg e1, if_neg (show ¬ j < p by omega), if_neg (show ¬ j = p by omega)]
      have l2 := lt2 (j - 1) (by omega) (by omega)
      by_cases e3 : i = p
      · rw [if_pos e3]; exact l2
      · rw [if_neg e3]; exact hs (i - 1) (j - 1) (by omega) (by omega) (by omega)
  · by_cases e : w = n
    · exact ⟨p, p0, by omega, by rw [b3, e]⟩
    · obtain ⟨i, i0, i1, hi⟩ := hj w w0 (by omega)
      by_cases e2 : i < p
      · exact ⟨i, i0, by omega, by rw [b2 i i0 e2, hi]⟩
      · refine ⟨i + 1, by omega, by omega, ?_⟩
        rw [b4 (i + 1) (by omega) (by omega), ← hi]
        congr 1; omega
theorem u_addWordM {a : Int} {Q : Int → jv_Mem → Prop} {g : jv_Mem} (ra : jv_r a) (r1 : jv_r (g 126 1)) (n0 : 0 ≤ g 126 2) (n1 : g 126 2 ≤ 30) (hv : g 126 1 = 3 → 0 ≤ 81 * g 127 0 + 9 * g 127 1 + g 127 2 ∧ 81 * g 127 0 + 9 * g 127 1 + g 127 2 < 729 ∧ jv_r (g 128 (81 * g 127 0 + 9 * g 127 1 + g 127 2))) (h1 : ¬ (0 ≤ a ∧ a ≤ 99) → Q 0 (jv_up g 126 29 1))
    (h2 : 0 ≤ a ∧ a ≤ 99 → ¬ (g 126 1 = 3 ∧ g 128 (81 * g 127 0 + 9 * g 127 1 + g 127 2) ≤ 0 ∧ g 126 2 < 30) → Q 0 (jv_up (jv_up g 126 29 0) 126 29 2))
    (h3 : 0 ≤ a ∧ a ≤ 99 → g 126 1 = 3 → g 128 (81 * g 127 0 + 9 * g 127 1 + g 127 2) ≤ 0 → g 126 2 < 30 → Q (g 126 2) (jv_up (jv_up (jv_up (jv_up (jv_up g 126 29 0) 129 (g 126 2) (81 * g 127 0 + 9 * g 127 1 + g 127 2)) 130 (g 126 2) a) 126 2 (g 126 2 + 1)) 128 (81 * g 127 0 + 9 * g 127 1 + g 127 2) (g 126 2 + 1))) : wp_X9_addWord a Q g := by
  unfold wp_X9_addWord
  refine u_in ra (by unfold jv_r; omega) (by unfold jv_r; omega) (fun h => ⟨(by unfold jv_r; omega), fun h9 => by omega, fun _ => ?_⟩) (fun h => ⟨(by unfold jv_r; omega), fun _ => ?_, fun h9 => absurd rfl h9⟩)
  · have h2 := h2 h
    have h3 := h3 h
    rintro g1 rfl
    simp (disch := omega) only [jv_up_e, jv_up_i, jv_up_k]
    refine ⟨(by unfold jv_r; omega), fun _ => ⟨by omega, by omega, by omega, ?_⟩, fun h9 => by omega⟩
    rintro v2 rfl
    refine ⟨r1, fun hn => ?_, fun hn => ?_⟩
    · unfold wB_X9_addWord_81 wp_X9_fails
      rintro g2 rfl
      exact h2 (fun h9 => hn h9.1)
    · have hv := hv hn
      refine ⟨by omega, hv.2.2, fun hp => ?_, fun hp => ⟨(by unfold jv_r; omega), fun hk => ?_, fun hk => ?_⟩⟩
      · unfold wB_X9_addWord_81 wp_X9_fails
        rintro g2 rfl
        exact h2 (fun h9 => by omega)
      · refine ⟨by omega, ?_⟩
        rintro g2 rfl
        simp (disch := omega) only [jv_up_e, jv_up_i, jv_up_k]
        refine ⟨by omega, ?_⟩
        rintro g3 rfl g4 rfl
        refine ⟨by omega, ?_⟩
        rintro g5 rfl
        simp (disch := omega) only [jv_up_e, jv_up_i, jv_up_k]
        have e : g 126 2 + 1 - 1 = g 126 2 := by omega
        rw [e]
        exact h3 hn hp (by omega)
      · unfold wB_X9_addWord_81 wp_X9_fails
        rintro g2 rfl
        exact h2 (fun h9 => by omega)
  · rintro g1 rfl
    simp (disch := omega) only [jv_up_e, jv_up_i, jv_up_k]
    exact ⟨(by unfold jv_r; omega), fun h9 => by omega, fun _ => h1 (by omega)⟩
theorem cs_5 {L : Nat} {xs : Nat → Int32} (hL : L ≤ 2560) : ∀ (x4 : Int) (g : jv_Mem), 0 ≤ x4 → x4 + 4 < ((L : Nat) : Int) → iJ x4 g → wp_LC_5 xs L x4 (iJ (x4 + 5)) g := by
  intro x4 g h0 h4 hI
  obtain ⟨hx, j1, j2, j3, j4, j5, j6, j7, j8⟩ := id hI
  obtain ⟨e1, e2, e3, e4⟩ := id j1
  obtain ⟨m1, m2, m3, hw, hb, hc, ho, hs, hj⟩ := id j2
  have ra := jv_sx_r xs (x4 + 1)
  unfold wp_LC_5 wp_L_addWord wp_X8_addWord
  generalize jv_sx xs (x4 + 1) = a at ra ⊢
  have ra' := ra
  obtain ⟨ra0, ra1⟩ := ra
  have hr := iv_cod_r e2 e3 (fun i i0 i1 => (e4 i i0 i1).2)
  generalize hcd : iv_cod (g 2) (g 1 1).toNat = c at hr
  have hq := (hc c (by omega) hr.2.1).2
  have hz := @iv_bg_0 (g 129) c (g 3 6).toNat
  have hcv : g 1 1 = 3 → c = 729 + (81 * g 127 0 + 9 * g 127 1 + g 127 2) ∧ 0 ≤ 81 * g 127 0 + 9 * g 127 1 + g 127 2 ∧ 81 * g 127 0 + 9 * g 127 1 + g 127 2 < 729 := fun h3 => by
    have h5 := e4 0 (by omega) (by omega)
    have h6 := e4 1 (by omega) (by omega)
    have h7 := e4 2 (by omega) (by omega)
    have e' : (g 1 1).toNat = 3 := by omega
    rw [e', iv_cod_v.2.2.2] at hcd
    omega
  have hT : g 1 1 = 3 → (0 < g 8 c ↔ 0 < g 128 (81 * g 127 0 + 9 * g 127 1 + g 127 2)) ∧ jv_r (g 128 (81 * g 127 0 + 9 * g 127 1 + g 127 2)) := fun h3 => by
    obtain ⟨q1, q2, q3⟩ := hcv h3
    generalize 81 * g 127 0 + 9 * g 127 1 + g 127 2 = v at q1 q2 q3 ⊢
    have hb2 := hb v q2 q3
    refine ⟨⟨fun hp => ?_, fun hp => ?_⟩, by unfold jv_r; omega⟩
    · obtain ⟨w, w0, w1, h9⟩ := hz.2.2.2 (by omega)
      have h10 := hw w w0 (by omega)
      have h11 : g 129 w = v := by omega
      rw [h11] at h10; omega
    · by_cases h9 : 0 < g 8 c
      · exact h9
      · exfalso
        have h10 := hz.2.2.1 (by omega) (g 128 v - 1) (by omega) (by omega)
        omega
  have mr : jv_r (g 126 1) := (by unfold jv_r; omega)
  have mv : g 126 1 = 3 → 0 ≤ 81 * g 127 0 + 9 * g 127 1 + g 127 2 ∧ 81 * g 127 0 + 9 * g 127 1 + g 127 2 < 729 ∧ jv_r (g 128 (81 * g 127 0 + 9 * g 127 1 + g 127 2)) := fun h => ⟨(hcv (by omega)).2.1, (hcv (by omega)).2.2, (hT (by omega)).2⟩
  have ill : 0 ≤ a ∧ a ≤ 99 → ¬ (g 1 1 = 3 ∧ g 8 c ≤ 0 ∧ g 3 6 < 30) → wB_X8_addWord_46 (fun (E : String) (gx : jv_Mem) => (E = "java/lang/IllegalArgumentException" ∧ (fun (r_373 : Int) (g_373 : jv_Mem) => (((0 : Int) ≤ x4 + 1 ∧ x4 + 1 < ((L : Nat) : Int)) ∧ (wp_X9_addWord a (fun (r_385 : Int) (g_385 : jv_Mem) => (wp_X9_thrown (fun (r_391 : Int) (g_391 : jv_Mem) => ((jv_r r_391 ∧ jv_r r_373) ∧ (r_391 = r_373 → ((jv_r r_373) ∧ (¬ r_373 = 0 → wB_LC_5_423 (iJ (x4 + 5)) g_391) ∧ (r_373 = 0 → (((0 : Int) ≤ 0 ∧ 0 < (1 : Int)) ∧ (jv_r r_385 ∧ ((jv_r (g_391 148 0) ∧ jv_r r_385) ∧ ((g_391 148 0) = r_385 → wB_LC_5_423 (iJ (x4 + 5)) g_391) ∧ (¬ (g_391 148 0) = r_385 → False))))))) ∧ (¬ r_391 = r_373 → False))) g_385)) g_373))) 1 gx) ∨ (E = "java/lang/IllegalStateException" ∧ (fun (r_373 : Int) (g_373 : jv_Mem) => (((0 : Int) ≤ x4 + 1 ∧ x4 + 1 < ((L : Nat) : Int)) ∧ (wp_X9_addWord a (fun (r_385 : Int) (g_385 : jv_Mem) => (wp_X9_thrown (fun (r_391 : Int) (g_391 : jv_Mem) => ((jv_r r_391 ∧ jv_r r_373) ∧ (r_391 = r_373 → ((jv_r r_373) ∧ (¬ r_373 = 0 → wB_LC_5_423 (iJ (x4 + 5)) g_391) ∧ (r_373 = 0 → (((0 : Int) ≤ 0 ∧ 0 < (1 : Int)) ∧ (jv_r r_385 ∧ ((jv_r (g_391 148 0) ∧ jv_r r_385) ∧ ((g_391 148 0) = r_385 → wB_LC_5_423 (iJ (x4 + 5)) g_391) ∧ (¬ (g_391 148 0) = r_385 → False))))))) ∧ (¬ r_391 = r_373 → False))) g_385)) g_373))) 2 gx)) g := by
    intro ha hn
    refine Or.inr ⟨rfl, by omega, ?_⟩
    refine u_addWordM ra' mr (by omega) (by omega) mv (fun h => absurd ha h) (fun _ _ => ?_) (fun _ h5 h6 h7 => ?_)
    · exact lc_end (by first | omega | (simp (disch := omega) only [jv_up_e, jv_up_i, jv_up_k]; done) | (simp (disch := omega) only [jv_up_e, jv_up_i, jv_up_k]; omega)) (by unfold jv_r; omega) (fun h => absurd h (by omega)) (hI.fr (by omega) (by (intro i k hik; (try unfold f1 at hik); (try unfold f2 at hik); (try unfold f3 at hik); (try unfold f4 at hik); (try unfold f5 at hik); (try unfold f6 at hik); (try unfold f7 at hik); (try unfold f8 at hik); (try unfold jv_scr at hik); repeat rw [jv_up_n (by omega)])))
    · exfalso
      have := (hT (by omega)).1
      exact hn ⟨by omega, by omega, by omega⟩
  refine ⟨by omega, u_needRange ra' (by unfold jv_r; omega) (by unfold jv_r; omega) (fun ha => ?_) (fun ha => Or.inl ⟨rfl, by omega, ?_⟩)⟩
  · have ill := ill ha
    unfold wp_X5_isFull
    refine ⟨(by unfold jv_r; omega), fun hl => ⟨(by unfold jv_r; omega), fun _ => ill (by omega), fun h9 => absurd rfl h9⟩, fun hl => ⟨(by unfold jv_r; omega), fun h9 => by omega, fun _ => ?_⟩⟩
    refine u_code e2 e3 ?_
    rw [hcd]
    refine ⟨by omega, ⟨(by unfold jv_r; omega), fun hp => ill (by omega), fun hp => ⟨(by unfold jv_r; omega), fun hk => ?_, fun hk => ill (by omega)⟩⟩⟩
    refine u_code e2 e3 ?_
    rw [hcd]
    have hg3 : g 1 1 = 3 := by omega
    obtain ⟨q1, q2, q3⟩ := hcv hg3
    have hTT := (hT hg3).1
    refine u_add m2 hk (by omega) hr.2.1 ho (fun w w0 w1 => by have := hw w w0 w1; unfold jv_r; omega) (fun g' p p0 p1 d0 d4 d6 d9 d5 d8 d36 b2 b3 b4 b5 b6 => ?_)
    refine ⟨(by unfold jv_r; omega), by omega, ?_⟩
    rintro g1 rfl
    have fr : ∀ i k, i ≠ 4 → i ≠ 5 → i ≠ 6 → i ≠ 7 → i ≠ 8 → i ≠ 9 → ¬ (i = 3 ∧ k = 6) → i ≠ 148 → jv_up g' 148 0 (g 3 6) i k = g i k := fun i k p1 p2 p3 p4 p5 p6 p7 p8 => by rw [jv_up_n (by omega), d0 i k p1 p2 p3 p4 p5 p6 p7]
    have f1' : jv_up g' 148 0 (g 3 6) 126 1 = g 126 1 := fr 126 1 (by omega) (by omega) (by omega) (by omega) (by omega) (by omega) (by omega) (by omega)
    have f2' : jv_up g' 148 0 (g 3 6) 126 2 = g 126 2 := fr 126 2 (by omega) (by omega) (by omega) (by omega) (by omega) (by omega) (by omega) (by omega)
    have f3' : ∀ k, jv_up g' 148 0 (g 3 6) 127 k = g 127 k := fun k => fr 127 k (by omega) (by omega) (by omega) (by omega) (by omega) (by omega) (by omega) (by omega)
    have f4' : ∀ k, jv_up g' 148 0 (g 3 6) 128 k = g 128 k := fun k => fr 128 k (by omega) (by omega) (by omega) (by omega) (by omega) (by omega) (by omega) (by omega)
    refine ⟨by omega, u_addWordM ra' (by rw [f1']; exact mr) (by rw [f2']; omega) (by rw [f2']; omega) (by rw [f1', f3', f3', f3', f4']; exact mv) (fun h => absurd ha h) (fun _ h => ?_) (fun _ _ _ _ => ?_)⟩
    · rw [f1', f2', f3', f3', f3', f4'] at h
      omega
    · rw [f2', f3', f3', f3', m1]
      generalize hv : 81 * g 127 0 + 9 * g 127 1 + g 127 2 = v at *
      refine lc_end (by first | omega | (simp (disch := omega) only [jv_up_e, jv_up_i, jv_up_k]; done) | (simp (disch := omega) only [jv_up_e, jv_up_i, jv_up_k]; omega)) (by unfold jv_r; omega) (fun _ => ⟨(by first | omega | (simp (disch := omega) only [jv_up_e, jv_up_i, jv_up_k]; done) | (simp (disch := omega) only [jv_up_e, jv_up_i, jv_up_k]; omega)), (by unfold jv_r; omega)⟩) ?_
      have frr : ∀ i k, i ≠ 4 → i ≠ 5 → i ≠ 6 → i ≠ 7 → i ≠ 8 → i ≠ 9 → ¬ (i = 3 ∧ k = 6) → i ≠ 148 → i ≠ 128 → i ≠ 129 → i ≠ 130 → ¬ (i = 126 ∧ (k = 29 ∨ k = 2)) → jv_up (jv_up (jv_up (jv_up (jv_up (jv_up g' 148 0 (g 3 6)) 126 29 0) 129 (g 3 6) v) 130 (g 3 6) a) 126 2 (g 3 6 + 1)) 128 v (g 3 6 + 1) i k = g i k := fun i k p1 p2 p3 p4 p5 p6 p7 p8 p9 p10 p11 p12 => by rw [jv_up_n (by omega), jv_up_n (by omega), jv_up_n (by omega), jv_up_n (by omega), jv_up_n (by omega), fr i k p1 p2 p3 p4 p5 p6 p7 p8]
      have frg : ∀ i k, i ≠ 148 → i ≠ 128 → i ≠ 129 → i ≠ 130 → ¬ (i = 126 ∧ (k = 29 ∨ k = 2)) → jv_up (jv_up (jv_up (jv_up (jv_up (jv_up g' 148 0 (g 3 6)) 126 29 0) 129 (g 3 6) v) 130 (g 3 6) a) 126 2 (g 3 6 + 1)) 128 v (g 3 6 + 1) i k = g' i k := fun i k p8 p9 p10 p11 p12 => by rw [jv_up_n (by omega), jv_up_n (by omega), jv_up_n (by omega), jv_up_n (by omega), jv_up_n (by omega), jv_up_n (by omega)]
      have k12 : ∀ k, k ≠ 29 → k ≠ 2 → True := fun _ _ _ => trivial
      refine ⟨by omega, j1.fr fun i k hik => frr i k (by (try unfold f1 at hik); (try unfold f2 at hik); (try unfold f3 at hik); (try unfold f4 at hik); (try unfold f5 at hik); (try unfold f6 at hik); (try unfold f7 at hik); (try unfold f8 at hik); (try unfold jv_scr at hik); omega) (by (try unfold f1 at hik); (try unfold f2 at hik); (try unfold f3 at hik); (try unfold f4 at hik); (try unfold f5 at hik); (try unfold f6 at hik); (try unfold f7 at hik); (try unfold f8 at hik); (try unfold jv_scr at hik); omega) (by (try unfold f1 at hik); (try unfold f2 at hik); (try unfold f3 at hik); (try unfold f4 at hik); (try unfold f5 at hik); (try unfold f6 at hik); (try unfold f7 at hik); (try unfold f8 at hik); (try unfold jv_scr at hik); omega) (by (try unfold f1 at hik); (try unfold f2 at hik); (try unfold f3 at hik); (try unfold f4 at hik); (try unfold f5 at hik); (try unfold f6 at hik); (try unfold f7 at hik); (try unfold f8 at hik); (try unfold jv_scr at hik); omega) (by (try unfold f1 at hik); (try unfold f2 at hik); (try unfold f3 at hik); (try unfold f4 at hik); (try unfold f5 at hik); (try unfold f6 at hik); (try unfold f7 at hik); (try unfold f8 at hik); (try unfold jv_scr at hik); omega) (by (try unfold f1 at hik); (try unfold f2 at hik); (try unfold f3 at hik); (try unfold f4 at hik); (try unfold f5 at hik); (try unfold f6 at hik); (try unfold f7 at hik); (try unfold f8 at hik); (try unfold jv_scr at hik); omega) (by (try unfold f1 at hik); (try unfold f2 at hik); (try unfold f3 at hik); (try unfold f4 at hik); (try unfold f5 at hik); (try unfold f6 at hik); (try unfold f7 at hik); (try unfold f8 at hik); (try unfold jv_scr at hik); omega) (by (try unfold f1 at hik); (try unfold f2 at hik); (try unfold f3 at hik); (try unfold f4 at hik); (try unfold f5 at hik); (try unfold f6 at hik); (try unfold f7 at hik); (try unfold f8 at hik); (try unfold jv_scr at hik); omega) (by (try unfold f1 at hik); (try unfold f2 at hik); (try unfold f3 at hik); (try unfold f4 at hik); (try unfold f5 at hik); (try unfold f6 at hik); (try unfold f7 at hik); (try unfold f8 at hik); (try unfold jv_scr at hik); omega) (by (try unfold f1 at hik); (try unfold f2 at hik); (try unfold f3 at hik); (try unfold f4 at hik); (try unfold f5 at hik); (try unfold f6 at hik); (try unfold f7 at hik); (try unfold f8 at hik); (try unfold jv_scr at hik); omega) (by (try unfold f1 at hik); (try unfold f2 at hik); (try unfold f3 at hik); (try unfold f4 at hik); (try unfold f5 at hik); (try unfold f6 at hik); (try unfold f7 at hik); (try unfold f8 at hik); (try unfold jv_scr at hik); omega) (by (try unfold f1 at hik); (try unfold f2 at hik); (try unfold f3 at hik); (try unfold f4 at hik); (try unfold f5 at hik); (try unfold f6 at hik); (try unfold f7 at hik); (try unfold f8 at hik); (try unfold jv_scr at hik); omega), ?_, j3.fr fun i k hik => frr i k (by (try unfold f1 at hik); (try unfold f2 at hik); (try unfold f3 at hik); (try unfold f4 at hik); (try unfold f5 at hik); (try unfold f6 at hik); (try unfold f7 at hik); (try unfold f8 at hik); (try unfold jv_scr at hik); omega) (by (try unfold f1 at hik); (try unfold f2 at hik); (try unfold f3 at hik); (try unfold f4 at hik); (try unfold f5 at hik); (try unfold f6 at hik); (try unfold f7 at hik); (try unfold f8 at hik); (try unfold jv_scr at hik); omega) (by (try unfold f1 at hik); (try unfold f2 at hik); (try unfold f3 at hik); (try unfold f4 at hik); (try unfold f5 at hik); (try unfold f6 at hik); (try unfold f7 at hik); (try unfold f8 at hik); (try unfold jv_scr at hik); omega) (by (try unfold f1 at hik); (try unfold f2 at hik); (try unfold f3 at hik); (try unfold f4 at hik); (try unfold f5 at hik); (try unfold f6 at hik); (try unfold f7 at hik); (try unfold f8 at hik); (try unfold jv_scr at hik); omega) (by (try unfold f1 at hik); (try unfold f2 at hik); (try unfold f3 at hik); (try unfold f4 at hik); (try unfold f5 at hik); (try unfold f6 at hik); (try unfold f7 at hik); (try unfold f8 at hik); (try unfold jv_scr at hik); omega) (by (try unfold f1 at hik); (try unfold f2 at hik); (try unfold f3 at hik); (try unfold f4 at hik); (try unfold f5 at hik); (try unfold f6 at hik); (try unfold f7 at hik); (try unfold f8 at hik); (try unfold jv_scr at hik); omega) (by (try unfold f1 at hik); (try unfold f2 at hik); (try unfold f3 at hik); (try unfold f4 at hik); (try unfold f5 at hik); (try unfold f6 at hik); (try unfold f7 at hik); (try unfold f8 at hik); (try unfold jv_scr at hik); omega) (by (try unfold f1 at hik); (try unfold f2 at hik); (try unfold f3 at hik); (try unfold f4 at hik); (try unfold f5 at hik); (try unfold f6 at hik); (try unfold f7 at hik); (try unfold f8 at hik); (try unfold jv_scr at hik); omega) (by (try unfold f1 at hik); (try unfold f2 at hik); (try unfold f3 at hik); (try unfold f4 at hik); (try unfold f5 at hik); (try unfold f6 at hik); (try unfold f7 at hik); (try unfold f8 at hik); (try unfold jv_scr at hik); omega) (by (try unfold f1 at hik); (try unfold f2 at hik); (try unfold f3 at hik); (try unfold f4 at hik); (try unfold f5 at hik); (try unfold f6 at hik); (try unfold f7 at hik); (try unfold f8 at hik); (try unfold jv_scr at hik); omega) (by (try unfold f1 at hik); (try unfold f2 at hik); (try unfold f3 at hik); (try unfold f4 at hik); (try unfold f5 at hik); (try unfold f6 at hik); (try unfold f7 at hik); (try unfold f8 at hik); (try unfold jv_scr at hik); omega) (by (try unfold f1 at hik); (try unfold f2 at hik); (try unfold f3 at hik); (try unfold f4 at hik); (try unfold f5 at hik); (try unfold f6 at hik); (try unfold f7 at hik); (try unfold f8 at hik); (try unfold jv_scr at hik); omega), j4.fr fun i k hik => frr i k (by (try unfold f1 at hik); (try unfold f2 at hik); (try unfold f3 at hik); (try unfold f4 at hik); (try unfold f5 at hik); (try unfold f6 at hik); (try unfold f7 at hik); (try unfold f8 at hik); (try unfold jv_scr at hik); omega) (by (try unfold f1 at hik); (try unfold f2 at hik); (try unfold f3 at hik); (try unfold f4 at hik); (try unfold f5 at hik); (try unfold f6 at hik); (try unfold f7 at hik); (try unfold f8 at hik); (try unfold jv_scr at hik); omega) (by (try unfold f1 at hik); (try unfold f2 at hik); (try unfold f3 at hik); (try unfold f4 at hik); (try unfold f5 at hik); (try unfold f6 at hik); (try unfold f7 at hik); (try unfold f8 at hik); (try unfold jv_scr at hik); omega) (by (try unfold f1 at hik); (try unfold f2 at hik); (try unfold f3 at hik); (try unfold f4 at hik); (try unfold f5 at hik); (try unfold f6 at hik); (try unfold f7 at hik); (try unfold f8 at hik); (try unfold jv_scr at hik); omega) (by (try unfold f1 at hik); (try unfold f2 at hik); (try unfold f3 at hik); (try unfold f4 at hik); (try unfold f5 at hik); (try unfold f6 at hik); (try unfold f7 at hik); (try unfold f8 at hik); (try unfold jv_scr at hik); omega) (by (try unfold f1 at hik); (try unfold f2 at hik); (try unfold f3 at hik); (try unfold f4 at hik); (try unfold f5 at hik); (try unfold f6 at hik); (try unfold f7 at hik); (try unfold f8 at hik); (try unfold jv_scr at hik); omega) (by (try unfold f1 at hik); (try unfold f2 at hik); (try unfold f3 at hik); (try unfold f4 at hik); (try unfold f5 at hik); (try unfold f6 at hik); (try unfold f7 at hik); (try unfold f8 at hik); (try unfold jv_scr at hik); omega) (by (try unfold f1 at hik); (try unfold f2 at hik); (try unfold f3 at hik); (try unfold f4 at hik); (try unfold f5 at hik); (try unfold f6 at hik); (try unfold f7 at hik); (try unfold f8 at hik); (try unfold jv_scr at hik); omega) (by (try unfold f1 at hik); (try unfold f2 at hik); (try unfold f3 at hik); (try unfold f4 at hik); (try unfold f5 at hik); (try unfold f6 at hik); (try unfold f7 at hik); (try unfold f8 at hik); (try unfold jv_scr at hik); omega) (by (try unfold f1 at hik); (try unfold f2 at hik); (try unfold f3 at hik); (try unfold f4 at hik); (try unfold f5 at hik); (try unfold f6 at hik); (try unfold f7 at hik); (try unfold f8 at hik); (try unfold jv_scr at hik); omega) (by (try unfold f1 at hik); (try unfold f2 at hik); (try unfold f3 at hik); (try unfold f4 at hik); (try unfold f5 at hik); (try unfold f6 at hik); (try unfold f7 at hik); (try unfold f8 at hik); (try unfold jv_scr at hik); omega) (by (try unfold f1 at hik); (try unfold f2 at hik); (try unfold f3 at hik); (try unfold f4 at hik); (try unfold f5 at hik); (try unfold f6 at hik); (try unfold f7 at hik); (try unfold f8 at hik); (try unfold jv_scr at hik); omega), j5.fr fun i k hik => frr i k (by (try unfold f1 at hik); (try unfold f2 at hik); (try unfold f3 at hik); (try unfold f4 at hik); (try unfold f5 at hik); (try unfold f6 at hik); (try unfold f7 at hik); (try unfold f8 at hik); (try unfold jv_scr at hik); omega) (by (try unfold f1 at hik); (try unfold f2 at hik); (try unfold f3 at hik); (try unfold f4 at hik); (try unfold f5 at hik); (try unfold f6 at hik); (try unfold f7 at hik); (try unfold f8 at hik); (try unfold jv_scr at hik); omega) (by (try unfold f1 at hik); (try unfold f2 at hik); (try unfold f3 at hik); (try unfold f4 at hik); (try unfold f5 at hik); (try unfold f6 at hik); (try unfold f7 at hik); (try unfold f8 at hik); (try unfold jv_scr at hik); omega) (by (try unfold f1 at hik); (try unfold f2 at hik); (try unfold f3 at hik); (try unfold f4 at hik); (try unfold f5 at hik); (try unfold f6 at hik); (try unfold f7 at hik); (try unfold f8 at hik); (try unfold jv_scr at hik); omega) (by (try unfold f1 at hik); (try unfold f2 at hik); (try unfold f3 at hik); (try unfold f4 at hik); (try unfold f5 at hik); (try unfold f6 at hik); (try unfold f7 at hik); (try unfold f8 at hik); (try unfold jv_scr at hik); omega) (by (try unfold f1 at hik); (try unfold f2 at hik); (try unfold f3 at hik); (try unfold f4 at hik); (try unfold f5 at hik); (try unfold f6 at hik); (try unfold f7 at hik); (try unfold f8 at hik); (try unfold jv_scr at hik); omega) (by (try unfold f1 at hik); (try unfold f2 at hik); (try unfold f3 at hik); (try unfold f4 at hik); (try unfold f5 at hik); (try unfold f6 at hik); (try unfold f7 at hik); (try unfold f8 at hik); (try unfold jv_scr at hik); omega) (by (try unfold f1 at hik); (try unfold f2 at hik); (try unfold f3 at hik); (try unfold f4 at hik); (try unfold f5 at hik); (try unfold f6 at hik); (try unfold f7 at hik); (try unfold f8 at hik); (try unfold jv_scr at hik); omega) (by (try unfold f1 at hik); (try unfold f2 at hik); (try unfold f3 at hik); (try unfold f4 at hik); (try unfold f5 at hik); (try unfold f6 at hik); (try unfold f7 at hik); (try unfold f8 at hik); (try unfold jv_scr at hik); omega) (by (try unfold f1 at hik); (try unfold f2 at hik); (try unfold f3 at hik); (try unfold f4 at hik); (try unfold f5 at hik); (try unfold f6 at hik); (try unfold f7 at hik); (try unfold f8 at hik); (try unfold jv_scr at hik); omega) (by (try unfold f1 at hik); (try unfold f2 at hik); (try unfold f3 at hik); (try unfold f4 at hik); (try unfold f5 at hik); (try unfold f6 at hik); (try unfold f7 at hik); (try unfold f8 at hik); (try unfold jv_scr at hik); omega) (by (try unfold f1 at hik); (try unfold f2 at hik); (try unfold f3 at hik); (try unfold f4 at hik); (try unfold f5 at hik); (try unfold f6 at hik); (try unfold f7 at hik); (try unfold f8 at hik); (try unfold jv_scr at hik); omega), j6.fr fun i k hik => frr i k (by (try unfold f1 at hik); (try unfold f2 at hik); (try unfold f3 at hik); (try unfold f4 at hik); (try unfold f5 at hik); (try unfold f6 at hik); (try unfold f7 at hik); (try unfold f8 at hik); (try unfold jv_scr at hik); omega) (by (try unfold f1 at hik); (try unfold f2 at hik); (try unfold f3 at hik); (try unfold f4 at hik); (try unfold f5 at hik); (try unfold f6 at hik); (try unfold f7 at hik); (try unfold f8 at hik); (try unfold jv_scr at hik); omega) (by (try unfold f1 at hik); (try unfold f2 at hik); (try unfold f3 at hik); (try unfold f4 at hik); (try unfold f5 at hik); (try unfold f6 at hik); (try unfold f7 at hik); (try unfold f8 at hik); (try unfold jv_scr at hik); omega) (by (try unfold f1 at hik); (try unfold f2 at hik); (try unfold f3 at hik); (try unfold f4 at hik); (try unfold f5 at hik); (try unfold f6 at hik); (try unfold f7 at hik); (try unfold f8 at hik); (try unfold jv_scr at hik); omega) (by (try unfold f1 at hik); (try unfold f2 at hik); (try unfold f3 at hik); (try unfold f4 at hik); (try unfold f5 at hik); (try unfold f6 at hik); (try unfold f7 at hik); (try unfold f8 at hik); (try unfold jv_scr at hik); omega) (by (try unfold f1 at hik); (try unfold f2 at hik); (try unfold f3 at hik); (try unfold f4 at hik); (try unfold f5 at hik); (try unfold f6 at hik); (try unfold f7 at hik); (try unfold f8 at hik); (try unfold jv_scr at hik); omega) (by (try unfold f1 at hik); (try unfold f2 at hik); (try unfold f3 at hik); (try unfold f4 at hik); (try unfold f5 at hik); (try unfold f6 at hik); (try unfold f7 at hik); (try unfold f8 at hik); (try unfold jv_scr at hik); omega) (by (try unfold f1 at hik); (try unfold f2 at hik); (try unfold f3 at hik); (try unfold f4 at hik); (try unfold f5 at hik); (try unfold f6 at hik); (try unfold f7 at hik); (try unfold f8 at hik); (try unfold jv_scr at hik); omega) (by (try unfold f1 at hik); (try unfold f2 at hik); (try unfold f3 at hik); (try unfold f4 at hik); (try unfold f5 at hik); (try unfold f6 at hik); (try unfold f7 at hik); (try unfold f8 at hik); (try unfold jv_scr at hik); omega) (by (try unfold f1 at hik); (try unfold f2 at hik); (try unfold f3 at hik); (try unfold f4 at hik); (try unfold f5 at hik); (try unfold f6 at hik); (try unfold f7 at hik); (try unfold f8 at hik); (try unfold jv_scr at hik); omega) (by (try unfold f1 at hik); (try unfold f2 at hik); (try unfold f3 at hik); (try unfold f4 at hik); (try unfold f5 at hik); (try unfold f6 at hik); (try unfold f7 at hik); (try unfold f8 at hik); (try unfold jv_scr at hik); omega) (by (try unfold f1 at hik); (try unfold f2 at hik); (try unfold f3 at hik); (try unfold f4 at hik); (try unfold f5 at hik); (try unfold f6 at hik); (try unfold f7 at hik); (try unfold f8 at hik); (try unfold jv_scr at hik); omega), j7.fr (by omega) fun i k hik => frr i k (by (try unfold f1 at hik); (try unfold f2 at hik); (try unfold f3 at hik); (try unfold f4 at hik); (try unfold f5 at hik); (try unfold f6 at hik); (try unfold f7 at hik); (try unfold f8 at hik); (try unfold jv_scr at hik); omega) (by (try unfold f1 at hik); (try unfold f2 at hik); (try unfold f3 at hik); (try unfold f4 at hik); (try unfold f5 at hik); (try unfold f6 at hik); (try unfold f7 at hik); (try unfold f8 at hik); (try unfold jv_scr at hik); omega) (by (try unfold f1 at hik); (try unfold f2 at hik); (try unfold f3 at hik); (try unfold f4 at hik); (try unfold f5 at hik); (try unfold f6 at hik); (try unfold f7 at hik); (try unfold f8 at hik); (try unfold jv_scr at hik); omega) (by (try unfold f1 at hik); (try unfold f2 at hik); (try unfold f3 at hik); (try unfold f4 at hik); (try unfold f5 at hik); (try unfold f6 at hik); (try unfold f7 at hik); (try unfold f8 at hik); (try unfold jv_scr at hik); omega) (by (try unfold f1 at hik); (try unfold f2 at hik); (try unfold f3 at hik); (try unfold f4 at hik); (try unfold f5 at hik); (try unfold f6 at hik); (try unfold f7 at hik); (try unfold f8 at hik); (try unfold jv_scr at hik); omega) (by (try unfold f1 at hik); (try unfold f2 at hik); (try unfold f3 at hik); (try unfold f4 at hik); (try unfold f5 at hik); (try unfold f6 at hik); (try unfold f7 at hik); (try unfold f8 at hik); (try unfold jv_scr at hik); omega) (by (try unfold f1 at hik); (try unfold f2 at hik); (try unfold f3 at hik); (try unfold f4 at hik); (try unfold f5 at hik); (try unfold f6 at hik); (try unfold f7 at hik); (try unfold f8 at hik); (try unfold jv_scr at hik); omega) (by (try unfold f1 at hik); (try unfold f2 at hik); (try unfold f3 at hik); (try unfold f4 at hik); (try unfold f5 at hik); (try unfold f6 at hik); (try unfold f7 at hik); (try unfold f8 at hik); (try unfold jv_scr at hik); omega) (by (try unfold f1 at hik); (try unfold f2 at hik); (try unfold f3 at hik); (try unfold f4 at hik); (try unfold f5 at hik); (try unfold f6 at hik); (try unfold f7 at hik); (try unfold f8 at hik); (try unfold jv_scr at hik); omega) (by (try unfold f1 at hik); (try unfold f2 at hik); (try unfold f3 at hik); (try unfold f4 at hik); (try unfold f5 at hik); (try unfold f6 at hik); (try unfold f7 at hik); (try unfold f8 at hik); (try unfold jv_scr at hik); omega) (by (try unfold f1 at hik); (try unfold f2 at hik); (try unfold f3 at hik); (try unfold f4 at hik); (try unfold f5 at hik); (try unfold f6 at hik); (try unfold f7 at hik); (try unfold f8 at hik); (try unfold jv_scr at hik); omega) (by (try unfold f1 at hik); (try unfold f2 at hik); (try unfold f3 at hik); (try unfold f4 at hik); (try unfold f5 at hik); (try unfold f6 at hik); (try unfold f7 at hik); (try unfold f8 at hik); (try unfold jv_scr at hik); omega), j8.fr (by omega) fun i k hik => frr i k (by (try unfold f1 at hik); (try unfold f2 at hik); (try unfold f3 at hik); (try unfold f4 at hik); (try unfold f5 at hik); (try unfold f6 at hik); (try unfold f7 at hik); (try unfold f8 at hik); (try unfold jv_scr at hik); omega) (by (try unfold f1 at hik); (try unfold f2 at hik); (try unfold f3 at hik); (try unfold f4 at hik); (try unfold f5 at hik); (try unfold f6 at hik); (try unfold f7 at hik); (try unfold f8 at hik); (try unfold jv_scr at hik); omega) (by (try unfold f1 at hik); (try unfold f2 at hik); (try unfold f3 at hik); (try unfold f4 at hik); (try unfold f5 at hik); (try unfold f6 at hik); (try unfold f7 at hik); (try unfold f8 at hik); (try unfold jv_scr at hik); omega) (by (try unfold f1 at hik); (try unfold f2 at hik); (try unfold f3 at hik); (try unfold f4 at hik); (try unfold f5 at hik); (try unfold f6 at hik); (try unfold f7 at hik); (try unfold f8 at hik); (try unfold jv_scr at hik); omega) (by (try unfold f1 at hik); (try unfold f2 at hik); (try unfold f3 at hik); (try unfold f4 at hik); (try unfold f5 at hik); (try unfold f6 at hik); (try unfold f7 at hik); (try unfold f8 at hik); (try unfold jv_scr at hik); omega) (by (try unfold f1 at hik); (try unfold f2 at hik); (try unfold f3 at hik); (try unfold f4 at hik); (try unfold f5 at hik); (try unfold f6 at hik); (try unfold f7 at hik); (try unfold f8 at hik); (try unfold jv_scr at hik); omega) (by (try unfold f1 at hik); (try unfold f2 at hik); (try unfold f3 at hik); (try unfold f4 at hik); (try unfold f5 at hik); (try unfold f6 at hik); (try unfold f7 at hik); (try unfold f8 at hik); (try unfold jv_scr at hik); omega) (by (try unfold f1 at hik); (try unfold f2 at hik); (try unfold f3 at hik); (try unfold f4 at hik); (try unfold f5 at hik); (try unfold f6 at hik); (try unfold f7 at hik); (try unfold f8 at hik); (try unfold jv_scr at hik); omega) (by (try unfold f1 at hik); (try unfold f2 at hik); (try unfold f3 at hik); (try unfold f4 at hik); (try unfold f5 at hik); (try unfold f6 at hik); (try unfold f7 at hik); (try unfold f8 at hik); (try unfold jv_scr at hik); omega) (by (try unfold f1 at hik); (try unfold f2 at hik); (try unfold f3 at hik); (try unfold f4 at hik); (try unfold f5 at hik); (try unfold f6 at hik); (try unfold f7 at hik); (try unfold f8 at hik); (try unfold jv_scr at hik); omega) (by (try unfold f1 at hik); (try unfold f2 at hik); (try unfold f3 at hik); (try unfold f4 at hik); (try unfold f5 at hik); (try unfold f6 at hik); (try unfold f7 at hik); (try unfold f8 at hik); (try unfold jv_scr at hik); omega) (by (try unfold f1 at hik); (try unfold f2 at hik); (try unfold f3 at hik); (try unfold f4 at hik); (try unfold f5 at hik); (try unfold f6 at hik); (try unfold f7 at hik); (try unfold f8 at hik); (try unfold jv_scr at hik); omega)⟩
      have G := fun (i k : Int) (h1 : i ≠ 148) (h2 : i ≠ 128) (h3 : i ≠ 129) (h4 : i ≠ 130) (h5 : ¬ (i = 126 ∧ (k = 29 ∨ k = 2))) => frg i k h1 h2 h3 h4 h5
      refine iJ2_add (v := v) (a := a) (p := p) j2 hk q2 q3 ha.1 ha.2 (by omega) p0 p1 ?_ ?_ (fun k => ?_) (fun k => ?_) (fun k => ?_) (fun k => ?_) (fun k => ?_) (fun k => ?_) (fun k => ?_) (fun k => ?_) (fun i i0 i1 => ?_) ?_ (fun i i0 i1 => ?_) (fun h => ?_) (fun i i0 i1 => ?_)
      · simp (disch := omega) only [jv_up_e, jv_up_i, jv_up_k, jv_up_row, true_and, and_true]
      · rw [frg 3 6 (by omega) (by omega) (by omega) (by omega) (by omega)]; exact d36
      · by_cases e : k = g 3 6
        · rw [if_pos e]; simp (disch := omega) only [jv_up_e, jv_up_i, jv_up_k, jv_up_row, true_and, and_true]
        · rw [if_neg e]; simp (disch := omega) only [jv_up_e, jv_up_i, jv_up_k]; exact d0 129 k (by omega) (by omega) (by omega) (by omega) (by omega) (by omega) (by omega)
      · by_cases e : k = g 3 6
        · rw [if_pos e]; simp (disch := omega) only [jv_up_e, jv_up_i, jv_up_k, jv_up_row, true_and, and_true]
        · rw [if_neg e]; simp (disch := omega) only [jv_up_e, jv_up_i, jv_up_k]; exact d0 130 k (by omega) (by omega) (by omega) (by omega) (by omega) (by omega) (by omega)
      · by_cases e : k = v
        · rw [if_pos e]; simp (disch := omega) only [jv_up_e, jv_up_i, jv_up_k, jv_up_row, true_and, and_true]
        · rw [if_neg e]; simp (disch := omega) only [jv_up_e, jv_up_i, jv_up_k]; exact d0 128 k (by omega) (by omega) (by omega) (by omega) (by omega) (by omega) (by omega)
      · rw [frg 4 k (by omega) (by omega) (by omega) (by omega) (by omega), ← q1]; exact d4 k
      · rw [frg 6 k (by omega) (by omega) (by omega) (by omega) (by omega)]; exact d6 k
      · rw [frg 9 k (by omega) (by omega) (by omega) (by omega) (by omega), ← q1]; exact d9 k
      · rw [frg 5 k (by omega) (by omega) (by omega) (by omega) (by omega), ← q1]; exact d5 k
      · rw [frg 8 k (by omega) (by omega) (by omega) (by omega) (by omega), ← q1]; exact d8 k
      · rw [frg 7 i (by omega) (by omega) (by omega) (by omega) (by omega)]; exact b2 i i0 i1
      · rw [frg 7 p (by omega) (by omega) (by omega) (by omega) (by omega)]; exact b3
      · rw [frg 7 i (by omega) (by omega) (by omega) (by omega) (by omega)]; exact b4 i i0 i1
      · rw [← q1]; exact b5 h
      · rw [← q1]; exact b6 i i0 i1
  · refine u_addWordM ra' mr (by omega) (by omega) mv (fun _ => ?_) (fun h => absurd h ha) (fun h => absurd h ha)
    exact lc_end (by first | omega | (simp (disch := omega) only [jv_up_e, jv_up_i, jv_up_k]; done) | (simp (disch := omega) only [jv_up_e, jv_up_i, jv_up_k]; omega)) (by unfold jv_r; omega) (fun h => absurd h (by omega)) (hI.fr (by omega) (by (intro i k hik; (try unfold f1 at hik); (try unfold f2 at hik); (try unfold f3 at hik); (try unfold f4 at hik); (try unfold f5 at hik); (try unfold f6 at hik); (try unfold f7 at hik); (try unfold f8 at hik); (try unfold jv_scr at hik); repeat rw [jv_up_n (by omega)])))
