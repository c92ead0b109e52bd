/-! the law's turns, on -/
/-- a turn that writes a clue and has it edited -/
theorem p_517 {kk nw nc np ns tu nn vv wd sv pz so : Int} {g : jv_Mem} (h : iC kk nw nc np ns tu nn vv wd sv pz so g) : wp_LT_517 (iD kk) (iE kk) nw nc np ns tu nn vv wd sv pz so g := by
  obtain ⟨hB, hw, hso⟩ := id h
  have hr := hB.r
  obtain ⟨hI, ⟨ew, ec, ep, es⟩, hR, hn, hsp⟩ := id hB
  unfold wp_LT_517
  refine ⟨(by unfold jv_r; omega), fun _ => ⟨hB, hso⟩, fun _ => t_clue hI (by omega) (fun h60 => ?_) (fun hlt g1 f1' I1 a4 a17 a16 => ?_)⟩
  · refine ⟨(by unfold jv_r; omega), fun h9 => absurd rfl h9, fun _ => ⟨(by unfold jv_r; omega), fun h9 => absurd h9 (by omega), fun _ => ⟨(by unfold jv_r; omega), fun h9 => absurd rfl h9, fun _ v3 e3 => ?_⟩⟩⟩
    exact ⟨rfl, hI.mono (by omega), ⟨ew, by omega, ep, es⟩, hR, hn, hsp⟩
  · have b16 : g1 16 (g 14 4) = 0 := by rw [f1' 16 _ (by omega)]; exact a16
    rw [← ec] at a4 a17 b16 ⊢
    refine ⟨(by unfold jv_r; omega), fun _ => ⟨⟨(by unfold jv_r; omega), (by unfold jv_r; omega)⟩, fun h9 => absurd rfl h9, fun _ => ?_⟩, fun h9 => absurd h9 (by omega)⟩
    refine t_lastUsed I1 ⟨by omega, by omega⟩ (fun _ _ => ⟨by rw [a17]; exact (by unfold jv_r; omega), fun h9 => absurd a17 h9, fun _ => ?_⟩)
    refine t_edit I1 ⟨by omega, by omega⟩ (fun h9 => absurd h9 (by omega)) (fun _ g2 f2' I2 c1 => ?_)
    rw [b16] at c1 ⊢
    refine ⟨(by unfold jv_r; omega), fun h9 => absurd rfl h9, fun _ => ?_⟩
    have d4 : g2 14 4 = nc + 1 := by rw [f2' 14 4 (by omega)]; exact a4
    refine t_edit I2 ⟨by omega, by omega⟩ (fun h9 => absurd h9 (by omega)) (fun _ g3 f3' I3 c2 => ?_)
    rw [c1] at c2 ⊢
    refine ⟨(by unfold jv_r; omega), fun h9 => absurd rfl h9, fun _ => ?_⟩
    have e4 : g3 14 4 = nc + 1 := by rw [f3' 14 4 (by omega)]; exact d4
    refine t_edit I3 ⟨by omega, by omega⟩ (fun _ => ⟨(by unfold jv_r; omega), fun h9 => absurd rfl h9, fun _ => ⟨(by unfold jv_r; omega), fun _ v3 e3 => ?_, fun h9 => absurd h9 (by omega)⟩⟩) (fun h9 => absurd h9 (by omega))
    have f : ∀ i k, ¬ ((i = 14 ∧ k = 4) ∨ i = 15 ∨ i = 16 ∨ i = 17 ∨ i = 134 ∨ i = 135 ∨ (i = 126 ∧ k = 11)) → g3 i k = g i k := fun i k z => by rw [f3' i k (by omega), f2' i k (by omega)]; exact f1' i k (by omega)
    exact ⟨rfl, I3.mono (by omega), ⟨by rw [f 3 6 (by omega)]; exact ew, by omega, by rw [f 0 9 (by omega)]; exact ep, by rw [f 0 10 (by omega)]; exact es⟩, hR.fr (by omega) (f 0 10 (by omega)) (by rw [f 0 11 (by omega)]; omega) (fun i k i0 i1 => f i k (by omega)), hn, hsp⟩
/-- a turn that publishes a puzzle -/
theorem p_628 {kk nw nc np ns tu nn vv sv pz so : Int} {g : jv_Mem} (h : iD kk nw nc np ns tu nn vv sv pz so g) : wp_LT_628 (iD kk) (iE kk) nw nc np ns tu nn vv sv pz so g := by
  obtain ⟨hB, hso⟩ := id h
  have hr := hB.r
  obtain ⟨hI, ⟨ew, ec, ep, es⟩, hR, hn, hsp⟩ := id hB
  -- what another call leaves
  have keep : ∀ {ga gb : jv_Mem}, (∀ i, i ≠ 10 → i ≠ 12 → i ≠ 13 → i ≠ 18 → gb i = ga i) → ga 0 10 ≤ 6 → iv_cn5 ga gb ∧ (iv_R ga → iv_R gb) := fun {ga gb} f hn6 => by
    have cn : iv_cn5 ga gb := ⟨by rw [f 3 (by omega) (by omega) (by omega) (by omega)], by rw [f 14 (by omega) (by omega) (by omega) (by omega)], by rw [f 0 (by omega) (by omega) (by omega) (by omega)], by rw [f 0 (by omega) (by omega) (by omega) (by omega)], by rw [f 0 (by omega) (by omega) (by omega) (by omega)]⟩
    exact ⟨cn, fun R => R.fr hn6 cn.2.2.2.1 (by rw [cn.2.2.2.2]; omega) (fun i k i0 i1 => by rw [f i (by omega) (by omega) (by omega) (by omega)])⟩
  unfold wp_LT_628
  refine ⟨(by unfold jv_r; omega), fun _ => ⟨hB, hso⟩, fun _ => t_publish hI (fun g1 f1' I1 => ?_) (fun hmp g1 I1 a9 a3 a14 a10 a11 a4 a137 c0 c5 cne c17 hR1 => ?_)⟩
  · have k := keep f1' (by omega)
    have he := hB.end I1 (by omega) k.1 (k.2 hR)
    exact ⟨(by unfold jv_r; omega), fun _ => ⟨(by unfold jv_r; omega), fun h9 => absurd rfl h9, fun _ v4 e4 => by
      rw [e4, show np + 0 = np by omega]; exact he⟩, fun h9 => absurd rfl h9⟩
  · rw [← ep] at a9 a4 a137 c0 c5 cne c17 ⊢
    refine ⟨(by unfold jv_r; omega), fun h9 => absurd h9 (by omega), fun _ => ⟨⟨(by unfold jv_r; omega), (by unfold jv_r; omega)⟩, fun h9 => absurd rfl h9, fun _ => ?_⟩⟩
    refine t_open I1 ⟨by omega, by omega⟩ (fun _ _ => ⟨(by unfold jv_r; omega), fun h9 => absurd a4 h9, fun _ => ?_⟩)
    refine t_clueOf I1 ⟨by omega, by omega⟩ (by omega) (t_lastUsed I1 ⟨c5.1, by rw [a14]; exact c5.2⟩ (fun _ _ => ?_))
    unfold wp_X8_now
    have hdiv : jv_div (g1 0 11) 24 = g 0 11 / 24 := by rw [a11]; exact iv_div (by omega) (by omega) (by omega) (by omega)
    dsimp only
    rw [hdiv, c17]
    refine ⟨⟨(by unfold jv_r; omega), (by unfold jv_r; omega)⟩, fun h9 => absurd rfl h9, fun _ => ?_⟩
    refine t_clueOf I1 ⟨by omega, by omega⟩ (by omega) (t_clueOf I1 ⟨by omega, by omega⟩ (by omega) ⟨⟨(by unfold jv_r; omega), (by unfold jv_r; omega)⟩, fun h9 => absurd h9 cne, fun _ => ?_⟩)
    refine t_publish I1 (fun g2 f2' I2 => ?_) (fun hmp2 => ?_)
    · have k := keep f2' (by omega)
      obtain ⟨k1, k2, k3, k4, k5⟩ := k.1
      refine ⟨(by unfold jv_r; omega), fun h9 => absurd rfl h9, fun _ => ⟨(by unfold jv_r; omega), fun _ v4 e4 => ?_, fun h9 => absurd h9 (by omega)⟩⟩
      exact ⟨rfl, I2.mono (by omega), ⟨by omega, by omega, by omega, by omega⟩, k.2 (hR1 hR), hn, by omega⟩
    · exfalso
      have h2 := hmp2.2
      rw [a9, show np + 1 - 1 = np by omega, a137, a11] at h2
      omega
/-- a turn that adds a solver -/
theorem p_738 {kk nw nc np ns tu nn vv sv pz so : Int} {g : jv_Mem} (h : iD kk nw nc np ns tu nn vv sv pz so g) : wp_LT_738 (iD kk) (iE kk) nw nc np ns tu nn vv sv pz so g := by
  obtain ⟨hB, hso⟩ := id h
  have hr := hB.r
  obtain ⟨hI, ⟨ew, ec, ep, es⟩, hR, hn, hsp⟩ := id hB
  unfold wp_LT_738
  refine ⟨(by unfold jv_r; omega), fun _ => h, fun _ => ⟨(by unfold jv_r; omega), fun _ => h, fun hl => t_low (by omega) (by omega) (fun r r0 r1 _ => t_low (by omega) (by omega) (fun q q0 q1 _ => ?_))⟩⟩
  refine t_addSolver hI ⟨by omega, by omega⟩ ⟨q0, by omega⟩ (by omega) (fun g1 f1' I1 a10 ak hR1 => ?_)
  rw [← es] at f1' a10 ak ⊢
  refine ⟨⟨(by unfold jv_r; omega), (by unfold jv_r; omega)⟩, fun h9 => absurd rfl h9, fun _ => ?_⟩
  intro v5 e5
  have e5' : v5 - 1 = ns := by omega
  rw [e5']
  refine ⟨(by unfold jv_r; omega), fun h9 => absurd h9 (by omega), fun _ => t_streak I1 ⟨by omega, by omega⟩ (fun _ _ => ⟨by rw [ak]; exact (by unfold jv_r; omega), fun h9 => absurd ak h9, fun _ => ?_⟩)⟩
  exact ⟨rfl, I1.mono (by omega), ⟨by rw [f1' 3 6 (by omega)]; exact ew, by rw [f1' 14 4 (by omega)]; exact ec, by rw [f1' 0 9 (by omega)]; exact ep, by omega⟩, hR1 hR, hn, by omega⟩
/-- a turn in which hours pass -/
theorem p_818 {kk nw nc np ns tu nn vv sv pz so : Int} {g : jv_Mem} (h : iD kk nw nc np ns tu nn vv sv pz so g) : wp_LT_818 (iD kk) (iE kk) nw nc np ns tu nn vv sv pz so g := by
  obtain ⟨hB, hso⟩ := id h
  have hr := hB.r
  obtain ⟨hI, ⟨ew, ec, ep, es⟩, hR, hn, hsp⟩ := id hB
  have p856 : ∀ y : Int, 1 ≤ y → y ≤ 400 → wB_LT_818_856 nw nc np ns tu nn sv pz (iE kk) y g := by
    intro y y0 y1
    unfold wB_LT_818_856 wp_X8_now
    refine ⟨(by unfold jv_r; omega), fun _ => hB.end hI (by omega) iv_cn5.rf hR, fun hl => t_pass hI ⟨y0, by omega⟩ (by omega) (fun g1 f1' I1 a11 => ?_)⟩
    refine ⟨⟨(by unfold jv_r; omega), (by unfold jv_r; omega)⟩, fun h9 => absurd rfl h9, fun _ => ?_⟩
    exact ⟨rfl, I1.mono (by omega), ⟨by rw [f1' 3 6 (by omega)]; exact ew, by rw [f1' 14 4 (by omega)]; exact ec, by rw [f1' 0 9 (by omega)]; exact ep, by rw [f1' 0 10 (by omega)]; exact es⟩, hR.fr (by omega) (f1' 0 10 (by omega)) (by omega) (fun i k i0 i1 => f1' i k (by omega)), hn, hsp⟩
  unfold wp_LT_818
  exact ⟨(by unfold jv_r; omega), fun _ => h, fun _ => t_low (by omega) (by omega) (fun r r0 r1 _ => ⟨(by unfold jv_r; omega), fun _ => t_low (by omega) (by omega) (fun q q0 q1 _ => p856 _ (by omega) (by omega)), fun _ => t_low (by omega) (by omega) (fun q q0 q1 _ => p856 _ (by omega) (by omega))⟩)⟩
def iF (kk nw nc np ns tu nn sv pz : Int) (g : jv_Mem) : Prop := iB kk nw nc np ns tu nn sv pz g
def iG (kk nw nc np ns tu nn vv sv pz so : Int) (g : jv_Mem) : Prop := iB kk nw nc np ns tu nn sv pz g ∧ (0 ≤ so ∧ so < 24) ∧ np ≠ 0 ∧ ns ≠ 0
def iH (kk nw nc np ns tu nn vv sv pz : Int) (g : jv_Mem) : Prop := iB kk nw nc np ns tu nn sv pz g ∧ np ≠ 0 ∧ ns ≠ 0
theorem p_896 {kk nw nc np ns tu nn vv sv pz so : Int} {g : jv_Mem} (h : iD kk nw nc np ns tu nn vv sv pz so g) : wp_LT_896 (iF kk) (iG kk) nw nc np ns tu nn vv sv pz so g := by
  obtain ⟨hB, hso⟩ := id h
  have hr := hB.r
  exact ⟨(by unfold jv_r; omega), fun _ => hB, fun h1 => ⟨(by unfold jv_r; omega), fun h2 => ⟨hB, hso, h1, h2⟩, fun _ => hB⟩⟩
theorem p_906 {kk nw nc np ns tu nn sv pz : Int} {g : jv_Mem} (h : iF kk nw nc np ns tu nn sv pz g) : wp_LT_906 (iE kk) nw nc np ns tu nn sv pz g := by
  have hB : iB kk nw nc np ns tu nn sv pz g := h
  obtain ⟨hI, ⟨ew, ec, ep, es⟩, hR, hn, hsp⟩ := id hB
  unfold wp_LT_906
  exact t_solvers hI (by omega) es (hB.end hI (by omega) iv_cn5.rf hR)
/-- a turn in which a letter is entered, or a solver helped -/
theorem p_917 {kk nw nc np ns tu nn vv sv pz so : Int} {g : jv_Mem} (h : iG kk nw nc np ns tu nn vv sv pz so g) : wp_LT_917 (iH kk) (iE kk) nw nc np ns tu nn vv sv pz so g := by
  obtain ⟨hB, hso, hp0, hs0⟩ := id h
  have hr := hB.r
  obtain ⟨hI, ⟨ew, ec, ep, es⟩, hR, hn, hsp⟩ := id hB
  have hsv : 0 ≤ sv ∧ sv < g 0 10 := by omega
  have hpz : 0 ≤ pz ∧ pz < g 0 9 := by omega
  have p978 : ∀ (r y : Int) (g1 : jv_Mem) (x4 : Int), iJ x4 g1 → x4 ≤ 20 * nn + 20 → iv_cn5 g g1 → iv_R g1 → r ≤ iv_ks g1 sv → jv_r r → -3 ≤ y → y < 100 → wB_LT_917_978 nw nc np ns tu nn sv pz (iE kk) r y g1 := by
    intro r y g1 x4 I1 hx cn R1 hle rr y0 y1
    have hs1 : 0 ≤ sv ∧ sv < g1 0 10 := by rw [cn.2.2.2.1]; exact hsv
    unfold wB_LT_917_978
    refine ⟨(by unfold jv_r; omega), fun h9 => absurd h9 (by omega), fun _ => t_streak I1 hs1 (fun k0 k1 => ⟨⟨(by unfold jv_r; omega), rr⟩, fun h9 => absurd h9 (by omega), fun _ => ?_⟩)⟩
    refine t_streak I1 hs1 (fun _ _ => t_anew I1 (by omega) hs1 (fun g2 f2' I2 => ⟨⟨(by unfold jv_r; omega), (by unfold jv_r; omega)⟩, fun h9 => absurd rfl h9, fun _ => ?_⟩))
    have cn2 : iv_cn5 g1 g2 := ⟨f2' 3 6 (by omega) (by omega) (by omega) (by omega), f2' 14 4 (by omega) (by omega) (by omega) (by omega), f2' 0 9 (by omega) (by omega) (by omega) (by omega), f2' 0 10 (by omega) (by omega) (by omega) (by omega), f2' 0 11 (by omega) (by omega) (by omega) (by omega)⟩
    exact hB.end I2 hx (cn.tr cn2) (R1.fr (by rw [cn.2.2.2.1]; omega) cn2.2.2.2.1 (by rw [cn2.2.2.2.2]; omega) (fun i k i0 i1 => f2' i k (by omega) (by omega) (by omega) (by omega)))
  unfold wp_LT_917
  refine ⟨(by unfold jv_r; omega), fun _ => ⟨hB, hp0, hs0⟩, fun _ => t_low (by omega) (by omega) (fun r r0 r1 _ => t_streak hI hsv (fun k0 k1 => t_low (by omega) (by omega) (fun q q0 q1 _ => ⟨(by unfold jv_r; omega), fun _ => ?_, fun _ => ?_⟩)))⟩
  · refine t_letter (fun hl => t_enter hI (by omega) hsv hpz ⟨r0, r1⟩ (by omega) (fun y y0 y1 => ?_) (fun gd I' cn R' K' => ?_))
    · exact p978 _ y g _ hI (by omega) iv_cn5.rf hR (by omega) (by unfold jv_r; omega) y0 (by omega)
    · exact p978 _ 1 gd _ I' (by omega) cn (R' hR) K' (by unfold jv_r; omega) (by omega) (by omega)
  · refine t_help hI (by omega) hsv hpz ⟨r0, r1⟩ ?_ (fun y gd y0 y1 I' cn R' K' => ?_)
    · exact p978 _ (-3) g _ hI (by omega) iv_cn5.rf hR (by omega) (by unfold jv_r; omega) (by omega) (by omega)
    · exact p978 _ y gd _ I' (by omega) cn (R' hR) K' (by unfold jv_r; omega) (by omega) (by omega)
/-- a turn in which an entry is judged wrong -/
theorem p_1023 {kk nw nc np ns tu nn vv sv pz : Int} {g : jv_Mem} (h : iH kk nw nc np ns tu nn vv sv pz g) : wp_LT_1023 (iE kk) nw nc np ns tu nn vv sv pz g := by
  obtain ⟨hB, hp0, hs0⟩ := id h
  have hr := hB.r
  obtain ⟨hI, ⟨ew, ec, ep, es⟩, hR, hn, hsp⟩ := id hB
  have hsv : 0 ≤ sv ∧ sv < g 0 10 := by omega
  have hpz : 0 ≤ pz ∧ pz < g 0 9 := by omega
  unfold wp_LT_1023
  refine t_coins hI hsv (fun q0 q1 => t_low (by omega) (by omega) (fun e e0 e1 ee => ?_))
  -- behind the first call
  have rest : ∀ (r : Int) (g1 : jv_Mem) (x4 : Int), iJ x4 g1 → x4 ≤ 20 * nn + 5 → iv_cn5 g g1 → iv_R g1 → g 143 sv ≤ g1 143 sv → iv_bit (g1 140 pz) e = 1 → -3 ≤ r → r ≤ ns → (jv_r r) ∧ (r < ((-3)) → wB_LT_1023_1102 nw nc np ns tu nn sv pz (iE kk) g1) ∧ (((-3)) ≤ r → ((jv_r r ∧ jv_r ns) ∧ (ns < r → wB_LT_1023_1102 nw nc np ns tu nn sv pz (iE kk) g1) ∧ (r ≤ ns → (wp_X8_coins sv (fun (r_1063 : Int) (g_1063 : jv_Mem) => ((jv_r r_1063 ∧ jv_r (g 143 sv)) ∧ (r_1063 < (g 143 sv) → wB_LT_1023_1102 nw nc np ns tu nn sv pz (iE kk) g_1063) ∧ ((g 143 sv) ≤ r_1063 → (wp_L_low vv 6 (fun (r_1078 : Int) (g_1078 : jv_Mem) => (wp_L_judge pz r_1078 (fun (r_1081 : Int) (g_1081 : jv_Mem) => ((jv_r r_1081) ∧ (¬ r_1081 = ((-3)) → wB_LT_1023_1102 nw nc np ns tu nn sv pz (iE kk) g_1081) ∧ (r_1081 = ((-3)) → (wp_X8_open pz (fun (r_1092 : Int) (g_1092 : jv_Mem) => ((jv_r r_1092) ∧ (r_1092 ≤ 0 → wB_LT_1023_1102 nw nc np ns tu nn sv pz (iE kk) g_1092) ∧ (0 < r_1092 → wB_LT_1023_1103 nw nc np ns tu nn sv pz (iE kk) 1 g_1092))) g_1081)))) g_1078)) g_1063)))) g1)))) := by
    intro r g1 x4 I1 hx cn R1 hc hb r0 r1
    have hs1 : 0 ≤ sv ∧ sv < g1 0 10 := by rw [cn.2.2.2.1]; exact hsv
    have hp1 : 0 ≤ pz ∧ pz < g1 0 9 := by rw [cn.2.2.1]; exact hpz
    have kp := ex_p I1.2.2.2.2.2.2.1 hp1.1 hp1.2
    refine ⟨(by unfold jv_r; omega), fun h9 => absurd h9 (by omega), fun _ => ⟨⟨(by unfold jv_r; omega), (by unfold jv_r; omega)⟩, fun h9 => absurd h9 (by omega), fun _ => ?_⟩⟩
    refine t_coins I1 hs1 (fun c0 c1 => ⟨⟨(by unfold jv_r; omega), (by unfold jv_r; omega)⟩, fun h9 => absurd h9 (by omega), fun _ => ?_⟩)
    refine t_low (by omega) (by omega) (fun e' e0' e1' ee' => ?_)
    have hee : e' = e := ee'.trans ee.symm
    rw [hee]
    refine t_judge I1 (by omega) hp1 ⟨e0, e1⟩ (fun _ => ⟨(by unfold jv_r; omega), fun h9 => absurd rfl h9, fun _ => ?_⟩) (fun h9 => absurd h9 (by omega))
    refine t_open I1 hp1 (fun o0 o1 => ⟨(by unfold jv_r; omega), fun h9 => ?_, fun _ => hB.end I1 (by omega) cn R1⟩)
    exfalso
    have := ib_j2 kp.2.2.2.2.2.1 kp.2.2.2.2.2.2.1 e0 e1 hb
    have := kp.2.2.2.2.1
    omega
  refine t_judge hI (by omega) hpz ⟨e0, e1⟩ (fun hb => ?_) (fun _ r gc r0 r1 I' cn R' hc hb => ?_)
  · exact rest (-3) g _ hI (by omega) iv_cn5.rf hR (by omega) hb (by omega) (by omega)
  · exact rest r gc _ I' (by omega) cn (R' hR) (hc sv hsv.1 hsv.2) hb (by omega) (by omega)
