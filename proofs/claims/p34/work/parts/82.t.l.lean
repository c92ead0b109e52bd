/-! the law's loop -/
/-- at the loop's head -/
def iA (kk nw nc np ns ii tu nn : Int) (g : jv_Mem) : Prop := ii = 1 ∧ iJ (20 * nn) g ∧ (nw = g 3 6 ∧ nc = g 14 4 ∧ np = g 0 9 ∧ ns = g 0 10) ∧ iv_R g ∧ (0 ≤ nn ∧ nn ≤ tu ∧ tu ≤ 60 ∧ tu - nn ≤ kk)
def iM (kk nw nc np ns tu nn vv sv pz : Int) (g : jv_Mem) : Prop := iB kk nw nc np ns tu nn sv pz g
/-- behind the loop -/
def iX (ii : Int) (g : jv_Mem) : Prop := ii = 1 ∧ ∃ x4, iJ x4 g
theorem p_1105 {kk nw nc np ns ii tu nn sv pz : Int} {g : jv_Mem} (h : iE kk nw nc np ns ii tu nn sv pz g) : wp_LT_1105 (iA (kk - 1)) nw nc np ns ii tu nn sv pz g := by
  obtain ⟨e1, hI, ⟨ew, ec, ep, es⟩, hR, hn, hsp⟩ := id h
  subst e1
  have n1 := hI.2.2.2.2.2.2.2.1.2.1
  have n2 := hI.2.2.2.2.2.2.2.1.2.2.1
  have m1 := hI.2.2.2.2.2.2.1.2.1
  have m2 := hI.2.2.2.2.2.2.1.2.2.1
  have h51 := hI.2.2.2.2.2.1.2.1
  have h52 := hI.2.2.2.2.2.1.2.2
  have good : wB_LT_1105_1144 nw nc np ns tu nn (iA (kk - 1)) g := by
    intro v8 e8
    have ex : 20 * v8 = 20 * nn + 20 := by omega
    exact ⟨rfl, by rw [ex]; exact hI, ⟨ew, ec, ep, es⟩, hR, by omega⟩
  unfold wp_LT_1105
  refine ⟨(by unfold jv_r; omega), fun h9 => absurd h9 (by omega), fun _ => t_solvers hI (by omega) es ⟨(by unfold jv_r; omega), fun h9 => absurd h9 (by omega), fun _ => ?_⟩⟩
  refine ⟨(by unfold jv_r; omega), fun _ => good, fun hp => ⟨(by unfold jv_r; omega), fun _ => good, fun hs => ?_⟩⟩
  refine t_solvedNow hI hR (by omega) (by omega) (fun r r0 r1 => ?_)
  unfold wp_X8_now
  exact ⟨⟨(by unfold jv_r; omega), (by unfold jv_r; omega)⟩, fun h9 => absurd h9 (by omega), fun _ => good⟩
theorem p_74 {kk nw nc np ns ii tu nn : Int} {g : jv_Mem} (h : iA kk nw nc np ns ii tu nn g) : wp_LT_74 (iM kk) (iC kk) iX nw nc np ns ii tu nn g := by
  obtain ⟨e1, hI, ⟨ew, ec, ep, es⟩, hR, hn⟩ := id h
  subst e1
  have w1 := hI.2.2.1.2.1
  have w2 := hI.2.2.1.2.2.1
  have n1 := hI.2.2.2.2.2.2.2.1.2.1
  have n2 := hI.2.2.2.2.2.2.2.1.2.2.1
  have m1 := hI.2.2.2.2.2.2.1.2.1
  have m2 := hI.2.2.2.2.2.2.1.2.2.1
  unfold wp_LT_74
  refine ⟨⟨(by unfold jv_r; omega), (by unfold jv_r; omega)⟩, fun _ => ⟨rfl, _, hI⟩, fun hl => ⟨(by unfold jv_r; omega), fun h9 => absurd h9 (by omega), fun _ => ⟨⟨(by unfold jv_r; omega), by omega⟩, fun v hv => ?_⟩⟩⟩
  have p152 : ∀ wd sv pz : Int, (nw ≠ 0 → 0 ≤ wd ∧ wd < nw) → (0 ≤ sv ∧ sv ≤ ns ∧ (ns ≠ 0 → sv < ns)) → (0 ≤ pz ∧ pz ≤ np ∧ (np ≠ 0 → pz < np)) → wB_LT_74_152 nw nc np ns tu nn (iM kk) (iC kk) v wd sv pz g := by
    intro wd sv pz h1 h2 h3
    have hB : iB kk nw nc np ns tu nn sv pz g := ⟨hI, ⟨ew, ec, ep, es⟩, hR, by omega, by omega⟩
    unfold wB_LT_74_152
    exact t_low (by omega) (by omega) (fun r r0 r1 _ => ⟨(by unfold jv_r; omega), fun _ => hB, fun hz => ⟨(by unfold jv_r; omega), fun _ => ⟨hB, h1 hz, r0, r1⟩, fun _ => hB⟩⟩)
  have p132 : ∀ wd sv : Int, (nw ≠ 0 → 0 ≤ wd ∧ wd < nw) → (0 ≤ sv ∧ sv ≤ ns ∧ (ns ≠ 0 → sv < ns)) → wB_LT_74_132 nw nc np ns tu nn (iM kk) (iC kk) v wd sv g := by
    intro wd sv h1 h2
    unfold wB_LT_74_132
    exact ⟨(by unfold jv_r; omega), fun hz => t_low (by omega) (by omega) (fun r r0 r1 _ => p152 wd sv r h1 h2 (by omega)), fun hz => p152 wd sv 0 h1 h2 (by omega)⟩
  have p112 : ∀ wd : Int, (nw ≠ 0 → 0 ≤ wd ∧ wd < nw) → wB_LT_74_112 nw nc np ns tu nn (iM kk) (iC kk) v wd g := by
    intro wd h1
    unfold wB_LT_74_112
    exact ⟨(by unfold jv_r; omega), fun hz => t_low (by omega) (by omega) (fun r r0 r1 _ => p132 wd r h1 (by omega)), fun hz => p132 wd 0 h1 (by omega)⟩
  exact ⟨(by unfold jv_r; omega), fun hz => t_low (by omega) (by omega) (fun r r0 r1 _ => p112 r (fun _ => ⟨r0, r1⟩)), fun hz => p112 0 (fun h9 => absurd hz h9)⟩
theorem p_1157 {ii : Int} {g : jv_Mem} (h : iX ii g) : wp_LT_1157 ii g := by
  obtain ⟨e1, x4, hI⟩ := h
  subst e1
  have er := iv_F_rJ hI.2.2.1 (g 132)
  have eF : iv_F (g 132) (g 129) (g 128) (g 130) (g 7) (g 3 6).toNat = iv_Fg g := rfl
  rw [eF] at er
  unfold wp_LT_1157
  refine ⟨(by unfold jv_r; omega), fun h9 => absurd h9 (by omega), fun _ => t_weight hI (fun g1 s1 I1 => t_weightAll I1 (fun g2 s2 I2 => ?_))⟩
  rw [s1.F]
  exact ⟨⟨(by unfold jv_r; omega), (by unfold jv_r; omega)⟩, fun h9 => absurd rfl h9, fun _ => t_fill I2 (fun g3 s3 I3 => ⟨(by unfold jv_r; omega), fun h9 => absurd h9 (by omega), fun _ => trivial⟩)⟩
theorem t_beg0 {x4 : Int} {Q : Int → jv_Mem → Prop} {g : jv_Mem} (hI : iJ x4 g) (h3 : g 3 6 = 0) (hQ : Q 0 g) : wp_X8_beginning Q g := by
  obtain ⟨hx, j1, j2, -⟩ := hI
  obtain ⟨e1, e2, e3, e4⟩ := id j1
  obtain ⟨m1, m2, m3, hw, hb, hc, ho, hs, hj⟩ := id j2
  have hr := iv_cod_r e2 e3 (fun i i0 i1 => (e4 i i0 i1).2)
  unfold wp_X8_beginning
  refine u_code e2 e3 ⟨by omega, ?_⟩
  rw [(hc _ (by omega) hr.2.1).2, h3]
  exact hQ
theorem p_8 {g : jv_Mem} (hI : iJ 0 g) (h36 : g 3 6 = 0) (h14 : g 14 4 = 0) (h09 : g 0 9 = 0) (h010 : g 0 10 = 0) : wp_LT_8 (iA 60) g := by
  unfold wp_LT_8
  refine t_solvers hI (by omega) h010.symm ⟨(by unfold jv_r; omega), fun h9 => absurd h9 (by omega), fun _ => t_fill hI (fun g1 s1 I1 => ⟨(by unfold jv_r; omega), fun h9 => absurd h9 (by omega), fun _ => ?_⟩)⟩
  obtain ⟨c1, c2, c3, c4, c5⟩ := s1.cn
  refine t_wordAt I1 (by unfold jv_r; omega) (fun _ h9 => absurd h9 (by omega)) (fun _ => ⟨(by unfold jv_r; omega), fun h9 => absurd rfl h9, fun _ => t_beg0 I1 (by omega) ⟨(by unfold jv_r; omega), fun h9 => absurd rfl h9, fun _ => ?_⟩⟩)
  unfold wB_LT_8_54
  refine ⟨⟨(by unfold jv_r; omega), by omega⟩, fun v hv => t_low (by omega) (by omega) (fun r r0 r1 _ v7 e7 => ?_)⟩
  exact ⟨rfl, I1, ⟨by omega, by omega, by omega, by omega⟩, fun s k s0 s1' => by omega, by omega⟩
