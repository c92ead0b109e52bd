/-! the law's turns -/
theorem iJ.mono {x4 x4' : Int} {g : jv_Mem} (h : iJ x4 g) (hx : x4 ≤ x4') : iJ x4' g := h.fr hx (fun _ _ _ => rfl)
/-- behind the choice of a turn -/
def iB (kk nw nc np ns tu nn sv pz : Int) (g : jv_Mem) : Prop := iJ (20 * nn) g ∧ (nw = g 3 6 ∧ nc = g 14 4 ∧ np = g 0 9 ∧ ns = g 0 10) ∧ iv_R g ∧ (0 ≤ nn ∧ nn < tu ∧ tu ≤ 60 ∧ tu - nn ≤ kk) ∧ (0 ≤ sv ∧ sv ≤ ns ∧ (ns ≠ 0 → sv < ns) ∧ 0 ≤ pz ∧ pz ≤ np ∧ (np ≠ 0 → pz < np))
/-- at the end of a turn -/
def iE (kk nw nc np ns ii tu nn sv pz : Int) (g : jv_Mem) : Prop := ii = 1 ∧ iJ (20 * nn + 20) g ∧ (nw = g 3 6 ∧ nc = g 14 4 ∧ np = g 0 9 ∧ ns = g 0 10) ∧ iv_R g ∧ (0 ≤ nn ∧ nn < tu ∧ tu ≤ 60 ∧ tu - nn ≤ kk) ∧ (0 ≤ sv ∧ sv ≤ ns ∧ (ns ≠ 0 → sv < ns) ∧ 0 ≤ pz ∧ pz ≤ np ∧ (np ≠ 0 → pz < np))
def iC (kk nw nc np ns tu nn vv wd sv pz so : Int) (g : jv_Mem) : Prop := iB kk nw nc np ns tu nn sv pz g ∧ (0 ≤ wd ∧ wd < nw) ∧ (0 ≤ so ∧ so < 24)
def iD (kk nw nc np ns tu nn vv sv pz so : Int) (g : jv_Mem) : Prop := iB kk nw nc np ns tu nn sv pz g ∧ (0 ≤ so ∧ so < 24)
theorem iB.r {kk nw nc np ns tu nn sv pz : Int} {g : jv_Mem} (h : iB kk nw nc np ns tu nn sv pz g) : (0 ≤ nw ∧ nw ≤ 30) ∧ (0 ≤ nc ∧ nc ≤ 60) ∧ (0 ≤ np ∧ np ≤ 20) ∧ (0 ≤ ns ∧ ns ≤ 6) ∧ (0 ≤ g 0 11 ∧ g 0 11 ≤ 30000) := by
  obtain ⟨⟨-, -, j2, -, j4, j5, j6, j7, -⟩, ⟨a, b, c, d⟩, -⟩ := h
  have := j2.2.1
  have := j2.2.2.1
  have := j4.2.1
  have := j4.2.2.1
  have := j6.2.1
  have := j6.2.2.1
  have := j7.2.1
  have := j7.2.2.1
  have := j5.2.1
  have := j5.2.2
  omega
/-- nothing of the counters, the hours and the solvers has changed -/
theorem iB.end {kk nw nc np ns tu nn sv pz : Int} {g g' : jv_Mem} (h : iB kk nw nc np ns tu nn sv pz g) {x4 : Int} (I : iJ x4 g') (hx : x4 ≤ 20 * nn + 20) (c : iv_cn5 g g') (hR : iv_R g') : iE kk nw nc np ns 1 tu nn sv pz g' := by
  obtain ⟨c1, c2, c3, c4, c5⟩ := c
  obtain ⟨-, ⟨a, b, c, d⟩, -, e, f⟩ := h
  exact ⟨rfl, I.mono hx, ⟨by omega, by omega, by omega, by omega⟩, hR, e, f⟩
theorem iv_sC.cn {g g' : jv_Mem} (h : iv_sC g g') : iv_cn5 g g' := ⟨h 3 6 (by omega) (by omega) (by omega) (by omega) (by omega) (by omega) (by omega), h 14 4 (by omega) (by omega) (by omega) (by omega) (by omega) (by omega) (by omega), h 0 9 (by omega) (by omega) (by omega) (by omega) (by omega) (by omega) (by omega), h 0 10 (by omega) (by omega) (by omega) (by omega) (by omega) (by omega) (by omega), h 0 11 (by omega) (by omega) (by omega) (by omega) (by omega) (by omega) (by omega)⟩
theorem iv_cn5.tr {g g1 g2 : jv_Mem} (h : iv_cn5 g g1) (h' : iv_cn5 g1 g2) : iv_cn5 g g2 := ⟨h'.1.trans h.1, h'.2.1.trans h.2.1, h'.2.2.1.trans h.2.2.1, h'.2.2.2.1.trans h.2.2.2.1, h'.2.2.2.2.trans h.2.2.2.2⟩
theorem iv_cn5.rf {g : jv_Mem} : iv_cn5 g g := ⟨rfl, rfl, rfl, rfl, rfl⟩
theorem iv_R.sC {g g' : jv_Mem} (hR : iv_R g) (hn : g 0 10 ≤ 6) (h : iv_sC g g') : iv_R g' := hR.fr hn h.cn.2.2.2.1 (by rw [h.cn.2.2.2.2]; omega) (fun i k i0 i1 => h i k (by omega) (by omega) (by omega) (by omega) (by omega) (by omega) (by omega))
set_option maxHeartbeats 1000000 in
/-- a turn that adds a word -/
theorem p_176 {kk nw nc np ns tu nn vv sv pz : Int} {g : jv_Mem} (h : iB kk nw nc np ns tu nn sv pz g) : wp_LT_176 (iE kk) nw nc np ns tu nn vv sv pz g := by
  have hr := h.r
  obtain ⟨hI, ⟨ew, ec, ep, es⟩, hR, hn, hsp⟩ := id h
  -- the end
  have last : ∀ (r x y v : Int) (gj : jv_Mem), iJ (20 * nn) gj → gj 1 1 = 3 → v = 81 * gj 2 0 + 9 * gj 2 1 + gj 2 2 → x = y → jv_r x → ((r = -3 ∧ gj 3 6 = nw ∧ (gj 128 v ≠ 0 ∨ nw = 30)) ∨ (r = nw ∧ gj 3 6 = nw + 1 ∧ gj 128 v ≠ 0)) → gj 14 4 = nc → gj 0 9 = np → gj 0 10 = ns → iv_R gj → wB_LT_176_295 nw nc np ns tu nn sv pz (iE kk) r x y gj := by
    intro r x y v gj I n3 hv hxy rx hcase c1 c2 c3 R'
    subst hxy
    have beg : ∀ K : Int → jv_Mem → Prop, (gj 128 v ≠ 0 → K 1 gj) → (gj 128 v = 0 → K 0 gj) → wp_X8_beginning K gj := fun K k1 k0 => t_beg I n3 (fun v' ev v0 v1 => by
      rw [← hv] at ev
      subst ev
      rw [iv_bgw I.2.2.1 v0 v1]
      by_cases e : gj 128 v' = 0
      · rw [if_pos e]; exact k0 e
      · rw [if_neg e]; exact k1 e)
    have fin : ∀ q : Int, gj 3 6 = nw + q → wB_LT_176_356 nw nc np ns tu nn sv pz (iE kk) 1 q gj := fun q hq v2 e2 => by
      exact ⟨rfl, I.mono (by omega), ⟨by omega, by omega, by omega, by omega⟩, R', hn, hsp⟩
    unfold wB_LT_176_295
    refine ⟨⟨rx, rx⟩, fun hne => absurd rfl hne, fun _ => ?_⟩
    rcases hcase with ⟨er, e36, hor⟩ | ⟨er, e36, hne⟩
    · subst er
      have good : wB_LT_176_336 nw nc np ns tu nn sv pz (iE kk) (-3) gj := ⟨(by unfold jv_r; omega), fun h9 => absurd rfl h9, fun _ => fin 0 (by omega)⟩
      refine ⟨(by unfold jv_r; omega), fun h9 => absurd rfl h9, fun _ => beg _ (fun _ => ⟨(by unfold jv_r; omega), fun _ => good, fun h9 => absurd rfl h9⟩) (fun hz => ⟨(by unfold jv_r; omega), fun h9 => absurd h9 (by omega), fun _ => ⟨(by unfold jv_r; omega), fun h9 => ?_, fun _ => good⟩⟩)⟩
      exfalso
      rcases hor with h10 | h10
      · exact h10 hz
      · exact h9 h10
    · subst er
      refine ⟨(by unfold jv_r; omega), fun _ => ⟨⟨(by unfold jv_r; omega), (by unfold jv_r; omega)⟩, fun h9 => absurd rfl h9, fun _ => beg _ (fun _ => ⟨(by unfold jv_r; omega), fun h9 => absurd rfl h9, fun _ => ?_⟩) (fun hz => absurd hz hne)⟩, fun h9 => absurd h9 (by omega)⟩
      exact ⟨(by unfold jv_r; omega), fun _ => fin 1 (by omega), fun h9 => absurd h9 (by omega)⟩
  have p242 : ∀ b c : Int, (b = 0 ∨ b = 1 ∨ b = 8) → (c = 0 ∨ c = 1 ∨ c = 8) → (iv_let vv = 0 ∨ iv_let vv = 1 ∨ iv_let vv = 8) → wB_LT_176_242 nw nc np ns tu nn vv sv pz (iE kk) (iv_let vv) b c g := by
    intro b c hb hc ha
    unfold wB_LT_176_242
    refine t_low (by omega) (by omega) (fun r r0 r1 _ => t_spells hI (by omega) (by omega) (by omega) ⟨r0, r1⟩ (fun g1 s1 I1 n3 l0 l1 l2 => ?_))
    have sc := iv_sC.sp s1
    have cn := sc.cn
    have R1 := hR.sC (by omega) sc
    refine t_low (by omega) (by omega) (fun wt w0 w1 _ => ?_)
    -- what is told of it
    have tells : ∀ (r' : Int) (g2 : jv_Mem), iJ (20 * nn) g2 → g2 1 1 = 3 → g2 2 0 = iv_let vv → ((r' = -3 ∧ g2 3 6 = nw ∧ (g2 128 (81 * g2 2 0 + 9 * g2 2 1 + g2 2 2) ≠ 0 ∨ nw = 30)) ∨ (r' = nw ∧ g2 3 6 = nw + 1 ∧ g2 128 (81 * g2 2 0 + 9 * g2 2 1 + g2 2 2) ≠ 0)) → g2 14 4 = nc → g2 0 9 = np → g2 0 10 = ns → iv_R g2 → wp_X8_charAt 0 (fun (r_269 : Int) (g_269 : jv_Mem) => (wp_L_letter vv (fun (r_274 : Int) (g_274 : jv_Mem) => ((jv_r r_274) ∧ (¬ r_274 = 8 → (wp_L_letter vv (fun (r_291 : Int) (g_291 : jv_Mem) => wB_LT_176_295 nw nc np ns tu nn sv pz (iE kk) r' r_269 (97 + r_291) g_291) g_274)) ∧ (r_274 = 8 → wB_LT_176_295 nw nc np ns tu nn sv pz (iE kk) r' r_269 55348 g_274))) g_269)) g2 := by
      intro r' g2 I2 n2 l2' hcase c1 c2 c3 R2
      refine t_char0 I2 n2 (t_letter (fun hl => ⟨(by unfold jv_r; omega), fun hne => t_letter (fun _ => ?_), fun he => ?_⟩))
      · rw [l2', if_neg hne]
        exact last r' _ _ _ g2 I2 n2 rfl rfl (by unfold jv_r; omega) hcase c1 c2 c3 R2
      · rw [l2', if_pos he]
        exact last r' _ _ _ g2 I2 n2 rfl rfl (by unfold jv_r; omega) hcase c1 c2 c3 R2
    refine t_addWord I1 ⟨w0, by omega⟩ n3 rfl (fun v0 v1 hor => ?_) (fun v0 v1 hlt g2 f2' I2 e36 e128 => ?_)
    · refine tells (-3) g1 I1 n3 l0 (Or.inl ⟨rfl, by rw [cn.1]; exact ew.symm, ?_⟩) (by rw [cn.2.1]; exact ec.symm) (by rw [cn.2.2.1]; exact ep.symm) (by rw [cn.2.2.2.1]; exact es.symm) R1
      rcases hor with h9 | h9
      · exact Or.inl h9
      · exact Or.inr (by rw [ew, ← cn.1]; exact h9)
    · have e11 : g2 1 1 = 3 := by rw [f2' 1 1 (by omega) (by omega) (by omega) (by omega)]; exact n3
      have q2 : ∀ k, g2 2 k = g1 2 k := fun k => f2' 2 k (by omega) (by omega) (by omega) (by omega)
      rw [cn.1, ← ew] at e36 e128 ⊢
      refine tells nw g2 I2 e11 (by rw [q2]; exact l0) (Or.inr ⟨rfl, e36, ?_⟩) (by rw [f2' 14 4 (by omega) (by omega) (by omega) (by omega), cn.2.1]; exact ec.symm) (by rw [f2' 0 9 (by omega) (by omega) (by omega) (by omega), cn.2.2.1]; exact ep.symm) (by rw [f2' 0 10 (by omega) (by omega) (by omega) (by omega), cn.2.2.2.1]; exact es.symm) (R1.fr (by rw [cn.2.2.2.1]; omega) (f2' 0 10 (by omega) (by omega) (by omega) (by omega)) (by rw [f2' 0 11 (by omega) (by omega) (by omega) (by omega)]; omega) (fun i k i0 i1 => f2' i k (by omega) (by omega) (by omega) (by omega)))
      rw [q2, q2, q2, e128]; omega
  have p193 : ∀ y : Int, (y = 0 ∨ y = 1) → wB_LT_176_193 nw nc np ns tu nn vv sv pz (iE kk) y g := by
    intro y hy
    have p221 : ∀ b : Int, (b = 0 ∨ b = 1 ∨ b = 8) → (iv_let vv = 0 ∨ iv_let vv = 1 ∨ iv_let vv = 8) → wB_LT_176_221 nw nc np ns tu nn vv sv pz (iE kk) (iv_let vv) y b g := fun b hb ha => ⟨(by unfold jv_r; omega), fun _ => t_letter (fun hc => p242 b _ hb hc ha), fun _ => t_letter (fun hc => p242 b _ hb hc ha)⟩
    unfold wB_LT_176_193
    exact t_letter (fun ha => ⟨(by unfold jv_r; omega), fun _ => t_letter (fun hb => p221 _ hb ha), fun _ => t_letter (fun hb => p221 _ hb ha)⟩)
  unfold wp_LT_176
  exact t_low (by omega) (by omega) (fun r r0 r1 _ => ⟨(by unfold jv_r; omega), fun _ => p193 0 (Or.inl rfl), fun _ => p193 1 (Or.inr rfl)⟩)
/-- a turn that sets a weight -/
theorem p_361 {kk nw nc np ns tu nn vv wd sv pz so : Int} {g : jv_Mem} (h : iC kk nw nc np ns tu nn vv wd sv pz so g) : wp_LT_361 (iC kk) (iE kk) nw nc np ns tu nn vv wd sv pz so g := by
  obtain ⟨hB, hw, hso⟩ := id h
  have hr := hB.r
  obtain ⟨hI, ⟨ew, ec, ep, es⟩, hR, hn, hsp⟩ := id hB
  unfold wp_LT_361
  refine ⟨(by unfold jv_r; omega), fun _ => h, fun _ => t_low (by omega) (by omega) (fun r r0 r1 _ => ?_)⟩
  refine t_setWeight hI (by omega) ⟨r0, by omega⟩ (fun g1 f1' I1 e1 => ?_)
  have a36 : g1 3 6 = g 3 6 := f1' 3 6 (by omega) (by omega)
  refine t_setWeight I1 (by omega) ⟨r0, by omega⟩ (fun g2 f2' I2 e2 => ?_)
  have b36 : g2 3 6 = g 3 6 := by rw [f2' 3 6 (by omega) (by omega)]; exact a36
  rw [e1]
  refine ⟨⟨(by unfold jv_r; omega), (by unfold jv_r; omega)⟩, fun h9 => absurd rfl h9, fun _ => ?_⟩
  refine t_wordAt I2 (by unfold jv_r; omega) (fun _ h9 => absurd h9 (by omega)) (fun _ => ⟨(by unfold jv_r; omega), fun h9 => absurd rfl h9, fun _ => ?_⟩)
  refine t_wordAt I2 (by unfold jv_r; omega) (fun _ _ q q0 q1 => ⟨(by unfold jv_r; omega), fun h9 => absurd h9 (by omega), fun _ => ?_⟩) (fun h9 => absurd (show 0 ≤ nw - 1 ∧ nw - 1 < g2 3 6 by omega) h9)
  have f : ∀ i k, i ≠ 6 → i ≠ 130 → g2 i k = g i k := fun i k p q => by rw [f2' i k p q]; exact f1' i k p q
  exact hB.end I2 (by omega) ⟨f 3 6 (by omega) (by omega), f 14 4 (by omega) (by omega), f 0 9 (by omega) (by omega), f 0 10 (by omega) (by omega), f 0 11 (by omega) (by omega)⟩ (hR.fr (by omega) (f 0 10 (by omega) (by omega)) (by rw [f 0 11 (by omega) (by omega)]; omega) (fun i k i0 i1 => f i k (by omega) (by omega)))
/-- a turn that fixes a letter -/
theorem p_431 {kk nw nc np ns tu nn vv wd sv pz so : Int} {g : jv_Mem} (h : iC kk nw nc np ns tu nn vv wd sv pz so g) : wp_LT_431 (iC kk) (iE kk) nw nc np ns tu nn vv wd sv pz so g := by
  obtain ⟨hB, hw, hso⟩ := id h
  have hr := hB.r
  obtain ⟨hI, ⟨ew, ec, ep, es⟩, hR, hn, hsp⟩ := id hB
  have p459 : ∀ y : Int, -1 ≤ y → y ≤ 8 → wB_LT_431_459 nw nc np ns tu nn vv sv pz (iE kk) y g := by
    intro y y0 y1
    unfold wB_LT_431_459
    refine t_low (by omega) (by omega) (fun r r0 r1 er => t_fix hI ⟨r0, r1⟩ ⟨y0, y1⟩ (fun g1 f1' I1 e1 => ?_))
    refine t_low (by omega) (by omega) (fun r' r0' r1' er' => t_fix I1 ⟨r0', r1'⟩ ⟨y0, y1⟩ (fun g2 f2' I2 e2 => ?_))
    have err : r' = r := er'.trans er.symm
    rw [err, e1]
    have f : ∀ i k, i ≠ 11 → i ≠ 132 → g2 i k = g i k := fun i k p q => by rw [f2' i k p q]; exact f1' i k p q
    have cn : iv_cn5 g g2 := ⟨f 3 6 (by omega) (by omega), f 14 4 (by omega) (by omega), f 0 9 (by omega) (by omega), f 0 10 (by omega) (by omega), f 0 11 (by omega) (by omega)⟩
    have R2 : iv_R g2 := hR.fr (by omega) (f 0 10 (by omega) (by omega)) (by rw [f 0 11 (by omega) (by omega)]; omega) (fun i k i0 i1 => f i k (by omega) (by omega))
    have hrem : jv_rem nn 3 = nn % 3 := iv_rem (by omega) (by omega) (by omega) (by omega)
    rw [hrem]
    refine ⟨⟨(by unfold jv_r; omega), (by unfold jv_r; omega)⟩, fun h9 => absurd rfl h9, fun _ => ⟨(by unfold jv_r; omega), fun _ => hB.end I2 (by omega) cn R2, fun _ => ?_⟩⟩
    refine t_fill I2 (fun g3 s3 I3 => ⟨(by unfold jv_r; omega), fun h9 => absurd h9 (by omega), fun _ => ?_⟩)
    exact hB.end I3 (by omega) (cn.tr s3.cn) (R2.sC (by rw [cn.2.2.2.1]; omega) s3)
  unfold wp_LT_431
  exact ⟨(by unfold jv_r; omega), fun _ => h, fun _ => t_low (by omega) (by omega) (fun r r0 r1 _ => ⟨(by unfold jv_r; omega), fun _ => t_letter (fun hl => p459 _ (by omega) (by omega)), fun _ => p459 (-1) (by omega) (by omega)⟩)⟩
