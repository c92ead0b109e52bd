/-! what the law's calls answer: its own small methods, the spelled text -/
theorem jv_sm.rf {g : jv_Mem} : jv_sm g g := fun _ _ _ => rfl
theorem iv_and31 (x : Int) : 0 ≤ jv_and x 2147483647 ∧ jv_and x 2147483647 < 2147483648 := by
  obtain ⟨j, hj, e⟩ := pk_andE (Int32.ofInt x) (m := Int32.ofInt 2147483647) 31 (by decide)
  unfold jv_and
  rw [e, nI_toInt (by omega)]
  omega
theorem t_low {a b : Int} {Q : Int → jv_Mem → Prop} {g : jv_Mem} (b0 : 0 < b) (b1 : b < 2147483648) (hQ : ∀ r : Int, 0 ≤ r → r < b → r = jv_rem (jv_and a 2147483647) b → Q r g) : wp_L_low a b Q g := by
  have h := iv_and31 a
  have e : jv_rem (jv_and a 2147483647) b = jv_and a 2147483647 % b := iv_rem h.1 h.2 b0 b1
  refine ⟨fun hz => ?_, hQ _ ?_ ?_ rfl⟩
  · have h1 := congrArg Int32.toInt hz
    rw [i32 ⟨by omega, b1⟩] at h1
    have h2 : (0 : Int32).toInt = 0 := by decide
    omega
  · rw [e]; exact Int.emod_nonneg _ (by omega)
  · rw [e]; exact Int.emod_lt_of_pos _ b0
theorem ir_shr {x y : Int} : jv_r (jv_shr x y) := ⟨Int32.le_toInt _, Int32.toInt_lt _⟩
def iv_lw (v : Int) : Int := jv_rem (jv_and v 2147483647) 3
def iv_let (v : Int) : Int := if iv_lw v = 2 then 8 else iv_lw v
theorem t_letter {v : Int} {Q : Int → jv_Mem → Prop} {g : jv_Mem} (hQ : (iv_let v = 0 ∨ iv_let v = 1 ∨ iv_let v = 8) → Q (iv_let v) g) : wp_L_letter v Q g := by
  unfold wp_L_letter
  refine t_low (by omega) (by omega) (fun r r0 r1 er => ⟨(by unfold jv_r; omega), fun h => t_low (by omega) (by omega) (fun r' r0' r1' er' => ?_), fun h => ?_⟩)
  · have e : iv_let v = r' := by unfold iv_let iv_lw; rw [← er', if_neg (by omega)]
    have := hQ (by omega)
    rw [e] at this; exact this
  · have e : iv_let v = 8 := by unfold iv_let iv_lw; rw [← er, if_pos h]
    have := hQ (by omega)
    rw [e] at this; exact this
/-- the ghosts behind a change of the spelled text -/
def iv_sp (gl : jv_Mem) : jv_Mem := fun i k => if i = 127 then gl 2 k else if i = 126 ∧ k = 1 then gl 1 1 else gl i k
theorem iv_sp_sm {gl : jv_Mem} : jv_sm gl (iv_sp gl) := fun i k h => by unfold iv_sp; rw [if_neg (by omega), if_neg (by omega)]
def iv_sF (g g' : jv_Mem) : Prop := ∀ i k, ¬ (i = 1 ∧ k = 1) → i ≠ 2 → i ≠ 127 → ¬ (i = 126 ∧ k = 1) → g' i k = g i k
theorem iJ.sp {x4 : Int} {g gl : jv_Mem} (h : iJ x4 g) (f : ∀ i k, ¬ (i = 1 ∧ k = 1) → i ≠ 2 → gl i k = g i k) (n0 : 0 ≤ gl 1 1) (n1 : gl 1 1 ≤ 3) (hs : ∀ i, 0 ≤ i → i < gl 1 1 → 0 ≤ gl 2 i ∧ gl 2 i < 9) : iJ x4 (iv_sp gl) ∧ iv_sF g (iv_sp gl) := by
  have q : iv_sF g (iv_sp gl) := fun i k a b c d => by unfold iv_sp; rw [if_neg c, if_neg d]; exact f i k a b
  refine ⟨?_, q⟩
  obtain ⟨h0, h1, h2, h3, h4, h5, h6, h7, h8⟩ := h
  refine ⟨h0, ?_, h2.fr fun i k z => q i k (by unfold f2 at z; omega) (by unfold f2 at z; omega) (by unfold f2 at z; omega) (by unfold f2 at z; omega), h3.fr fun i k z => q i k (by unfold f3 at z; omega) (by unfold f3 at z; omega) (by unfold f3 at z; omega) (by unfold f3 at z; omega), h4.fr fun i k z => q i k (by unfold f4 at z; omega) (by unfold f4 at z; omega) (by unfold f4 at z; omega) (by unfold f4 at z; omega), h5.fr fun i k z => q i k (by unfold f5 at z; omega) (by unfold f5 at z; omega) (by unfold f5 at z; omega) (by unfold f5 at z; omega), h6.fr fun i k z => q i k (by unfold f6 at z; omega) (by unfold f6 at z; omega) (by unfold f6 at z; omega) (by unfold f6 at z; omega), h7.fr (by omega) fun i k z => q i k (by unfold f7 at z; omega) (by unfold f7 at z; omega) (by unfold f7 at z; omega) (by unfold f7 at z; omega), h8.fr (by omega) fun i k z => q i k (by unfold f8 at z; omega) (by unfold f8 at z; omega) (by unfold f8 at z; omega) (by unfold f8 at z; omega)⟩
  have e1 : iv_sp gl 1 1 = gl 1 1 := iv_sp_sm 1 1 (by omega)
  have e2 : ∀ k, iv_sp gl 2 k = gl 2 k := fun k => iv_sp_sm 2 k (by omega)
  have e3 : iv_sp gl 126 1 = gl 1 1 := by unfold iv_sp; rw [if_neg (by omega), if_pos ⟨rfl, rfl⟩]
  have e4 : ∀ k, iv_sp gl 127 k = gl 2 k := fun k => by unfold iv_sp; rw [if_pos rfl]
  unfold iJ1
  rw [e1, e3]
  exact ⟨rfl, n0, n1, fun i i0 i1 => by rw [e2, e4]; exact ⟨rfl, hs i i0 i1⟩⟩
theorem u_clear {Q : Int → jv_Mem → Prop} {g : jv_Mem} (hQ : Q (g 1 1) (jv_up g 1 1 0)) : wp_X8_clearSpelled Q g := by
  unfold wp_X8_clearSpelled wp_X5_letterCount wp_X5_empty
  rintro g1 rfl
  exact hQ
/-- three letters, spelled in one of three ways -/
theorem t_spells {x4 a b c w : Int} {Q : jv_Mem → Prop} {g : jv_Mem} (hI : iJ x4 g) (ha : 0 ≤ a ∧ a < 9) (hb : 0 ≤ b ∧ b < 9) (hc : 0 ≤ c ∧ c < 9) (hw : 0 ≤ w ∧ w < 3)
    (hQ : ∀ g' : jv_Mem, iv_sF g g' → iJ x4 g' → g' 1 1 = 3 → g' 2 0 = a → g' 2 1 = b → g' 2 2 = c → Q g') : wp_L_spells a b c w Q g := by
  have fin : ∀ gl : jv_Mem, (∀ i k, ¬ (i = 1 ∧ k = 1) → i ≠ 2 → gl i k = g i k) → gl 1 1 = 3 → gl 2 0 = a → gl 2 1 = b → gl 2 2 = c → ∃ gG : jv_Mem, jv_sm gl gG ∧ Q gG := fun gl f n l0 l1 l2 => by
    have h := hI.sp f (by omega) (by omega) (fun i i0 i1 => by
      have hi : i = 0 ∨ i = 1 ∨ i = 2 := by omega
      rcases hi with e | e | e
      · rw [e]; omega
      · rw [e]; omega
      · rw [e]; omega)
    exact ⟨iv_sp gl, iv_sp_sm, hQ _ h.2 h.1 (by rw [iv_sp_sm 1 1 (by omega)]; exact n) (by rw [iv_sp_sm 2 0 (by omega)]; exact l0) (by rw [iv_sp_sm 2 1 (by omega)]; exact l1) (by rw [iv_sp_sm 2 2 (by omega)]; exact l2)⟩
  unfold wp_L_spells
  refine u_clear ⟨_, jv_sm.rf, (by unfold jv_r; omega), fun hw0 => ⟨(by unfold jv_r; omega), fun hw1 => ?_, fun hw1 => ?_⟩, fun hw0 => ?_⟩
  · -- from behind, and turned
    have n0 : jv_up g 1 1 0 1 1 = 0 := jv_up_e rfl rfl
    refine u_spellX hc (by omega) (by omega) (fun i i0 i1 => by omega) ⟨_, jv_sm.rf, ?_⟩
    rw [n0]
    generalize hg1 : jv_up (jv_up (jv_up g 1 1 0) 2 0 c) 1 1 (0 + 1) = g1
    have n1 : g1 1 1 = 1 := by rw [← hg1, jv_up_e rfl rfl]; rfl
    have l10 : g1 2 0 = c := by rw [← hg1, jv_up_n (by omega), jv_up_e rfl rfl]
    refine u_spellX hb (by omega) (by omega) (fun i i0 i1 => by have e : i = 0 := by omega
                                                                rw [e]; omega) ⟨_, jv_sm.rf, ?_⟩
    rw [n1]
    generalize hg2 : jv_up (jv_up g1 2 1 b) 1 1 (1 + 1) = g2
    have n2 : g2 1 1 = 2 := by rw [← hg2, jv_up_e rfl rfl]; rfl
    have l20 : g2 2 0 = c := by rw [← hg2, jv_up_n (by omega), jv_up_n (by omega)]; exact l10
    have l21 : g2 2 1 = b := by rw [← hg2, jv_up_n (by omega), jv_up_e rfl rfl]
    refine u_spellX ha (by omega) (by omega) (fun i i0 i1 => by have e : i = 0 ∨ i = 1 := by omega
                                                                rcases e with e | e <;> (rw [e]; omega)) ⟨_, jv_sm.rf, ?_⟩
    rw [n2]
    generalize hg3 : jv_up (jv_up g2 2 2 a) 1 1 (2 + 1) = g3
    have n3 : g3 1 1 = 3 := by rw [← hg3, jv_up_e rfl rfl]; rfl
    have l30 : g3 2 0 = c := by rw [← hg3, jv_up_n (by omega), jv_up_n (by omega)]; exact l20
    have l31 : g3 2 1 = b := by rw [← hg3, jv_up_n (by omega), jv_up_n (by omega)]; exact l21
    have l32 : g3 2 2 = a := by rw [← hg3, jv_up_n (by omega), jv_up_e rfl rfl]
    have fr : ∀ i k, ¬ (i = 1 ∧ k = 1) → i ≠ 2 → g3 i k = g i k := fun i k p q => by rw [← hg3, jv_up_n p, jv_up_n (fun h => q h.1), ← hg2, jv_up_n p, jv_up_n (fun h => q h.1), ← hg1, jv_up_n p, jv_up_n (fun h => q h.1), jv_up_n p]
    unfold wp_X8_turn wp_X5_reverse
    rw [n3]
    refine ⟨(by unfold jv_r; omega), fun h => by omega, fun _ => ⟨by omega, fun v1 e1 => ⟨by omega, by omega, fun g4 e4 => ?_⟩⟩⟩
    have m4 : g4 1 1 = 3 := by rw [e4, jv_up_n (by omega)]; exact n3
    rw [m4]
    refine ⟨by omega, fun g5 e5 => ?_⟩
    unfold wp_X5_letterCount
    have e32 : (3 : Int) - 1 = 2 := by omega
    rw [e32] at e4 e5
    refine fin g5 (fun i k p q => ?_) ?_ ?_ ?_ ?_
    · rw [e5, jv_up_n (fun h => q h.1), e4, jv_up_n (fun h => q h.1)]; exact fr i k p q
    · rw [e5, jv_up_n (by omega)]; exact m4
    · rw [e5, jv_up_n (by omega), e4, jv_up_e rfl rfl]; exact l32
    · rw [e5, jv_up_n (by omega), e4, jv_up_n (by omega)]; exact l31
    · rw [e5, jv_up_e rfl rfl, e1]; exact l30
  · -- inserted
    have n0 : jv_up g 1 1 0 1 1 = 0 := jv_up_e rfl rfl
    refine u_insertX hc (by omega) (by omega) (fun i i0 i1 => by omega) (fun g1 f1' n1 l10 _ => ⟨_, jv_sm.rf, ?_⟩)
    rw [n0] at n1
    refine u_insertX hb (by omega) (by omega) (fun i i0 i1 => by have e : i = 0 := by omega
                                                                 rw [e]; omega) (fun g2 f2' n2 l20 s2 => ⟨_, jv_sm.rf, ?_⟩)
    rw [n1] at n2
    have l21 : g2 2 1 = c := by rw [s2 1 (by omega) (by omega)]; exact l10
    refine u_insertX ha (by omega) (by omega) (fun i i0 i1 => by have e : i = 0 ∨ i = 1 := by omega
                                                                 rcases e with e | e <;> (rw [e]; omega)) (fun g3 f3' n3 l30 s3 => ?_)
    rw [n2] at n3
    have l31 : g3 2 1 = b := by rw [s3 1 (by omega) (by omega)]; exact l20
    have l32 : g3 2 2 = c := by rw [s3 2 (by omega) (by omega)]; exact l21
    exact fin g3 (fun i k p q => by rw [f3' i k q p, f2' i k q p, f1' i k q p, jv_up_n p]) (by omega) l30 l31 l32
  · -- as it stands
    have n0 : jv_up g 1 1 0 1 1 = 0 := jv_up_e rfl rfl
    refine u_spellX ha (by omega) (by omega) (fun i i0 i1 => by omega) ⟨_, jv_sm.rf, ?_⟩
    rw [n0]
    generalize hg1 : jv_up (jv_up (jv_up g 1 1 0) 2 0 a) 1 1 (0 + 1) = g1
    have n1 : g1 1 1 = 1 := by rw [← hg1, jv_up_e rfl rfl]; rfl
    have l10 : g1 2 0 = a := by rw [← hg1, jv_up_n (by omega), jv_up_e rfl rfl]
    refine u_spellX hb (by omega) (by omega) (fun i i0 i1 => by have e : i = 0 := by omega
                                                                rw [e]; omega) ⟨_, jv_sm.rf, ?_⟩
    rw [n1]
    generalize hg2 : jv_up (jv_up g1 2 1 b) 1 1 (1 + 1) = g2
    have n2 : g2 1 1 = 2 := by rw [← hg2, jv_up_e rfl rfl]; rfl
    have l20 : g2 2 0 = a := by rw [← hg2, jv_up_n (by omega), jv_up_n (by omega)]; exact l10
    have l21 : g2 2 1 = b := by rw [← hg2, jv_up_n (by omega), jv_up_e rfl rfl]
    refine u_spellX hc (by omega) (by omega) (fun i i0 i1 => by have e : i = 0 ∨ i = 1 := by omega
                                                                rcases e with e | e <;> (rw [e]; omega)) ?_
    rw [n2]
    generalize hg3 : jv_up (jv_up g2 2 2 c) 1 1 (2 + 1) = g3
    refine fin g3 (fun i k p q => ?_) ?_ ?_ ?_ ?_
    · rw [← hg3, jv_up_n p, jv_up_n (fun h => q h.1), ← hg2, jv_up_n p, jv_up_n (fun h => q h.1), ← hg1, jv_up_n p, jv_up_n (fun h => q h.1), jv_up_n p]
    · rw [← hg3, jv_up_e rfl rfl]; rfl
    · rw [← hg3, jv_up_n (by omega), jv_up_n (by omega)]; exact l20
    · rw [← hg3, jv_up_n (by omega), jv_up_n (by omega)]; exact l21
    · rw [← hg3, jv_up_n (by omega), jv_up_e rfl rfl]
/-- right hours are hours that have been -/
def iv_R (g : jv_Mem) : Prop := ∀ s k, 0 ≤ s → s < g 0 10 → 0 ≤ k → k < 180 → g (90 + 6 * s + 1 + 1) k ≤ g 0 11
theorem iv_R.fr {g g' : jv_Mem} (h : iv_R g) (hn : g 0 10 ≤ 6) (h10 : g' 0 10 = g 0 10) (h11 : g 0 11 ≤ g' 0 11) (f : ∀ i k, 90 ≤ i → i < 126 → g' i k = g i k) : iv_R g' := fun s k s0 s1 k0 k1 => by
  rw [h10] at s1
  rw [f _ k (by omega) (by omega)]
  have := h s k s0 s1 k0 k1
  omega
