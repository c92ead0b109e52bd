/-! an entry is judged wrong -/
def iv_pb (f : Int → Int) (w p : Int) : Nat → Int
  | 0 => 0
  | n + 1 => iv_pb f w p n + (if iv_bit w (n : Nat) = 0 then 0 else f (p * 9 + (n : Nat)))
theorem iv_pb_r {f : Int → Int} {w p : Int} : ∀ {n : Nat}, (∀ c : Int, 0 ≤ c → c < n → 0 ≤ f (p * 9 + c) ∧ f (p * 9 + c) ≤ 40) → 0 ≤ iv_pb f w p n ∧ iv_pb f w p n ≤ 40 * n := by
  intro n
  induction n with
  | zero => intro _; simp [iv_pb]
  | succ n ih =>
    intro h
    have h1 := ih (fun c c0 c1 => h c c0 (by omega))
    have h2 := h (n : Nat) (by omega) (by omega)
    simp only [iv_pb]
    split <;> omega
theorem u_payBack {t p w : Int} {Q : jv_Mem → Prop} {g : jv_Mem} (p0 : 0 ≤ p) (p1 : p < 20) (hQ : ∀ g' : jv_Mem, (∀ i k, ¬ (i = t ∧ k = 3) → g' i k = g i k) → g' t 3 = g t 3 + iv_pb (g (t + 4)) w p 9 → Q g') : wp_X4_payBack t p w Q g := by
  unfold wp_X4_payBack
  refine ⟨fun n x gl => 0 ≤ x ∧ x ≤ 9 ∧ (∀ i k, ¬ (i = t ∧ k = 3) → gl i k = g i k) ∧ gl t 3 = g t 3 + iv_pb (g (t + 4)) w p x.toNat ∧ n = (9 - x).toNat, ⟨_, by omega, by omega, fun _ _ _ => rfl, by simp [iv_pb], rfl⟩, ?_⟩
  rintro n x gl ⟨a0, a1, a2, a3, a4⟩
  refine ⟨(by unfold jv_r; omega), fun h => ?_, fun h => ⟨ir_and, fun hb => ?_, fun hb => ⟨by omega, ?_⟩⟩⟩
  · have e : x.toNat = 9 := by omega
    rw [e] at a3
    exact hQ gl a2 a3
  · rw [bit_eq] at hb
    intro v ev
    refine ⟨(9 - v).toNat, by omega, by omega, by omega, a2, ?_, rfl⟩
    have e : v.toNat = x.toNat + 1 := by omega
    have e6 : ((x.toNat : Nat) : Int) = x := by omega
    rw [e, a3]; simp only [iv_pb]; rw [e6, if_pos hb]; omega
  · rw [bit_eq] at hb
    rintro g1 rfl v ev
    refine ⟨(9 - v).toNat, by omega, by omega, by omega, fun i k q => by rw [jv_up_n q]; exact a2 i k q, ?_, rfl⟩
    have e : v.toNat = x.toNat + 1 := by omega
    have e6 : ((x.toNat : Nat) : Int) = x := by omega
    rw [jv_up_e rfl rfl, e, a3]; simp only [iv_pb]; rw [e6, if_neg hb, a2 (t + 4) _ (by omega)]; omega
def iv_jv (g : jv_Mem) (p m s : Int) : Int := iv_sl (g (90 + 6 * s + 1 + 1)) p m (g 137 p)
def iv_jc (g : jv_Mem) (p m s : Int) : Int → Int := fun d => iv_sc (iv_jv g p m s) (g 142 s) d (g (90 + 6 * s + 1 + 2) d)
def iv_jl (g : jv_Mem) (p m : Int) : Nat → Int
  | 0 => 0
  | n + 1 => iv_jl g p m n + (if iv_stk (g (90 + 6 * (n : Nat) + 1 + 2)) (iv_day (g 142 (n : Nat)) (g 0 11)) < iv_stk (iv_jc g p m (n : Nat)) (iv_day (g 142 (n : Nat)) (g 0 11)) then 1 else 0)
theorem iv_jl_r {g : jv_Mem} {p m : Int} : ∀ {n : Nat}, 0 ≤ iv_jl g p m n ∧ iv_jl g p m n ≤ n := by
  intro n
  induction n with
  | zero => simp [iv_jl]
  | succ n ih => simp only [iv_jl]; split <;> omega
theorem ex_j {x4 : Int} {g : jv_Mem} (h5 : iJ5 g) (h6 : iJ6 g) (h7 : iJ7 x4 g) {s p m : Int} (s0 : 0 ≤ s) (s1 : s < g 0 10) (p0 : 0 ≤ p) (p1 : p < g 0 9) : -1 ≤ iv_jv g p m s ∧ iv_jv g p m s ≤ 30001 ∧ 0 ≤ iv_day (g 142 s) (g 0 11) ∧ iv_day (g 142 s) (g 0 11) < 1252 ∧ (∀ d, 0 ≤ d → d < 1252 → iv_jc g p m s d = 0 ∨ iv_jc g p m s d = 1) ∧ jv_r (iv_stk (g (90 + 6 * s + 1 + 2)) (iv_day (g 142 s) (g 0 11))) ∧ jv_r (iv_stk (iv_jc g p m s) (iv_day (g 142 s) (g 0 11))) := by
  obtain ⟨k1, k2, k3, k4, k5, k6, k7, k8, k9⟩ := ex_s h7 s0 s1
  obtain ⟨l1, l2, l3, l4, l5, l6, l7, l8, l9⟩ := ex_p h6 p0 p1
  have h53 := h5.2.2
  have hv := @iv_sl_r (g (90 + 6 * s + 1 + 1)) p m (g 137 p) (fun c c0 c1 => (k9 p c p0 l1 c0 c1).2) (by omega)
  have hd := @iv_day_r (g 142 s) (g 0 11) h5.2.1 (by omega) k6 k7
  have t1 := @iv_stk_nn (g (90 + 6 * s + 1 + 2)) _ hd.1
  have t2 := @iv_stk_nn (iv_jc g p m s) _ hd.1
  refine ⟨hv.1, hv.2, hd.1, hd.2, fun d d0 d1 => ?_, by unfold jv_r; omega, by unfold jv_r; omega⟩
  unfold iv_jc iv_sc
  have := (k8 d d0 d1).2
  split
  · exact this
  · split
    · exact Or.inr rfl
    · exact this
/-- what the house's judging leaves -/
def iv_JX (g : jv_Mem) (p e m : Int) (x : Int) (gl : jv_Mem) : Prop :=
  (∀ i k, i < 22 ∨ 25 < i → ¬ (i = 21 ∧ k = 4) → ¬ (i = 30 + 3 * p ∧ (k = 3 ∨ k = 4)) → ¬ (∃ s, 0 ≤ s ∧ s < x ∧ ((i = 90 + 6 * s ∧ k = 3) ∨ i = 90 + 6 * s + 1 + 2)) → gl i k = g i k) ∧
  gl 21 4 = g 21 4 + 1 ∧ (∀ k, gl 22 k = if k = g 21 4 then -1 else g 22 k) ∧ (∀ k, gl 23 k = if k = g 21 4 then p else g 23 k) ∧ (∀ k, gl 24 k = if k = g 21 4 then e else g 24 k) ∧ (∀ k, gl 25 k = if k = g 21 4 then g 0 11 else g 25 k) ∧
  gl (30 + 3 * p) 3 = jv_or (g 140 p) (jv_shl 1 e) ∧ gl (30 + 3 * p) 4 = m ∧
  (∀ s, 0 ≤ s → s < x → gl (90 + 6 * s) 3 = g (90 + 6 * s) 3 + iv_pb (g (90 + 6 * s + 4)) (jv_and (iv_ce e) (jv_xor (iv_op (g 140 p)) (-1))) p 9 ∧ ∀ d, gl (90 + 6 * s + 1 + 2) d = iv_jc g p m s d)
theorem u_judgeX {x4 p e : Int} {Q : Int → jv_Mem → Prop} {Qx : String → jv_Mem → Prop} {g : jv_Mem} (h5 : iJ5 g) (h6 : iJ6 g) (h7 : iJ7 x4 g) (h8 : iJ8 x4 g) (hx : x4 ≤ 2560) (hp : 0 ≤ p ∧ p < g 0 9) (he : 0 ≤ e ∧ e < 6)
    (hY : iv_bit (g 140 p) e = 0 → ∀ g' : jv_Mem, iv_JX g p e (jv_or (iv_op (g 140 p)) (iv_ce e)) (g 0 10) g' → Q (iv_jl g p (jv_or (iv_op (g 140 p)) (iv_ce e)) (g 0 10).toNat) g')
    (h2 : iv_bit (g 140 p) e = 1 → Qx "java/lang/IllegalStateException" g) : wp_X8_judge p e Q Qx g := by
  obtain ⟨n1, n2, n3, n4, n5⟩ := id h7
  obtain ⟨m1, m2, m3, m4, m5⟩ := id h6
  obtain ⟨y1, y2, y3, y4, y5, y6⟩ := id h8
  have h52 := h5.2.1
  have h53 := h5.2.2
  unfold wp_X8_judge
  refine u_needIndex (by unfold jv_r; omega) hp (u_needIndex (by unfold jv_r; omega) he ?_)
  obtain ⟨l1, l2, l3, l4, l5, l6, l7, l8, l9⟩ := ex_p h6 hp.1 hp.2
  have l3' := (m5 p hp.1 l1).1
  have hb01 := ib_j l6 l7 he.1 he.2
  have hst := ib_st l6 l7 he.1 he.2
  have hopr := ib_op hst.2.1 hst.2.2
  rw [← hst.1] at hopr
  generalize hm : jv_or (iv_op (g 140 p)) (iv_ce e) = m at *
  refine ⟨⟨hp.1, l1⟩, ?_⟩
  unfold wp_X3_isWrong
  rw [l3']
  refine ⟨ir_and, fun hb => ⟨(by unfold jv_r; omega), fun _ => ?_, fun h9 => absurd rfl h9⟩, fun hb => ⟨(by unfold jv_r; omega), fun h9 => by omega, fun _ => h2 (by rw [bit_eq] at hb; omega)⟩⟩
  rw [bit_eq] at hb
  have hY := hY hb
  refine u_cellsOf he.1 he.2 ⟨⟨hp.1, l1⟩, ?_⟩
  unfold wp_X3_openCells
  rw [l5]
  rintro v3 ev3
  refine ⟨⟨hp.1, l1⟩, ?_⟩
  unfold wp_X3_setWrong
  rw [l3']
  rintro g1 e1
  refine u_cellsOf he.1 he.2 ?_
  rintro g2 e2
  have q14 : g1 (30 + 3 * p) 4 = iv_op (g 140 p) := by rw [e1, jv_up_n (by omega)]; exact l5
  rw [q14, hm] at e2
  have a0 : ∀ i k, ¬ (i = 30 + 3 * p ∧ (k = 3 ∨ k = 4)) → g2 i k = g i k := fun i k q => by rw [e2, jv_up_n (by omega), e1, jv_up_n (by omega)]
  have a3 : g2 (30 + 3 * p) 3 = jv_or (g 140 p) (jv_shl 1 e) := by rw [e2, jv_up_n (by omega), e1, jv_up_e rfl rfl]
  have a4 : g2 (30 + 3 * p) 4 = m := by rw [e2, jv_up_e rfl rfl]
  have a21 : g2 21 4 = g 21 4 := a0 21 4 (by omega)
  have a11 : g2 0 11 = g 0 11 := a0 0 11 (by omega)
  clear e1 e2 q14
  refine u_X1add (by omega) (by omega) (fun g3 b1 b2 b3 b4 b5 b6 => ?_)
  rw [a21] at b2 b3 b4 b5 b6
  rw [a11] at b6
  have start : iv_JX g p e m 0 g3 := by
    refine ⟨fun i k x1 x2 x3 _ => by rw [b1 i k (by omega) (by omega) (by omega) (by omega) x2]; exact a0 i k x3, b2, fun k => by rw [b3, a0 22 k (by omega)], fun k => by rw [b4, a0 23 k (by omega)], fun k => by rw [b5, a0 24 k (by omega)], fun k => by rw [b6, a0 25 k (by omega)], by rw [b1 _ 3 (by omega) (by omega) (by omega) (by omega) (by omega)]; exact a3, by rw [b1 _ 4 (by omega) (by omega) (by omega) (by omega) (by omega)]; exact a4, fun s s0 s1 => by omega⟩
  clear b1 b2 b3 b4 b5 b6 a0 a3 a4 a21 a11
  refine ⟨fun n x4' x5 gl => 0 ≤ x5 ∧ x5 ≤ g 0 10 ∧ iv_JX g p e m x5 gl ∧ x4' = iv_jl g p m x5.toNat ∧ n = (g 0 10 - x5).toNat, ⟨_, by omega, n2, start, rfl, rfl⟩, ?_⟩
  rintro n x4' x5 gl ⟨c0, c1, c2, c3, c4⟩
  obtain ⟨d1, d2, d3, d4, d5, d6, d7, d8, d9⟩ := id c2
  have q10 : gl 0 10 = g 0 10 := d1 0 10 (by omega) (by omega) (by omega) (fun ⟨s, s0, s1, hs⟩ => by omega)
  rw [q10]
  refine ⟨⟨(by unfold jv_r; omega), (by unfold jv_r; omega)⟩, fun h => ?_, fun h => ?_⟩
  · have ex : x5 = g 0 10 := by omega
    rw [ex] at c2 c3
    rw [c3]; exact hY gl c2
  · obtain ⟨k1, k2, k3, k4, k5, k6, k7, k8, k9⟩ := ex_s h7 c0 h
    obtain ⟨w1, w2, w3, w4, w5, w6, w7⟩ := ex_j h5 h6 h7 (m := m) c0 h hp.1 hp.2
    have q11 : gl 0 11 = g 0 11 := d1 0 11 (by omega) (by omega) (by omega) (fun ⟨s, s0, s1, hs⟩ => by omega)
    have qs : ∀ i k, 90 + 6 * x5 ≤ i → i < 90 + 6 * x5 + 6 → gl i k = g i k := fun i k i0 i1 => d1 i k (by omega) (by omega) (by omega) (fun ⟨s, s0, s1, hs⟩ => by omega)
    have qr2 : gl (90 + 6 * x5 + 1 + 2) = g (90 + 6 * x5 + 1 + 2) := funext fun k => qs _ k (by omega) (by omega)
    have qr1 : gl (90 + 6 * x5 + 1 + 1) = g (90 + 6 * x5 + 1 + 1) := funext fun k => qs _ k (by omega) (by omega)
    have qo : gl (90 + 6 * x5 + 1) 2 = g 142 x5 := by rw [qs _ 2 (by omega) (by omega)]; exact k5
    unfold wp_X8_keptStreak
    refine ⟨⟨c0, k1⟩, u_daysInARow (by omega) (by omega) (by omega) (by omega) (fun k z0 z1 => by rw [qr2]; have := (k8 k z0 z1).2; unfold jv_r; omega) ?_⟩
    rw [qr2, qo, q11]
    refine ⟨⟨c0, k1⟩, u_payBack hp.1 l1 (fun ga t1 t2 => ?_)⟩
    have u30 : ga (30 + 3 * p) 4 = m := by rw [t1 _ 4 (by omega)]; exact d8
    have u32 : ga (30 + 3 * p) 2 = g 137 p := by rw [t1 _ 2 (by omega), d1 _ 2 (by omega) (by omega) (by omega) (fun ⟨s, s0, s1, hs⟩ => by omega)]; exact l2
    have ur1 : ga (90 + 6 * x5 + 1 + 1) = g (90 + 6 * x5 + 1 + 1) := by rw [← qr1]; exact funext fun k => t1 _ k (by omega)
    have uo : ga (90 + 6 * x5 + 1) 2 = g 142 x5 := by rw [t1 _ 2 (by omega)]; exact qo
    unfold wp_X8_countIfSolved wp_X3_openCells wp_X3_hourOfAppearing
    dsimp only
    rw [u30, u32]
    refine ⟨⟨hp.1, l1⟩, ⟨c0, k1⟩, u_countX2 hp.1 l1 hopr.1 hopr.2 (fun c z0 z1 => by rw [ur1]; exact (k9 p c hp.1 l1 z0 z1).2) (by omega) (by omega) (by omega) (fun gb r1 r2 => ?_)⟩
    have vr2 : ∀ d, gb (90 + 6 * x5 + 1 + 2) d = iv_jc g p m x5 d := fun d => by
      rw [r2, ur1, uo, t1 _ d (by omega), qs _ d (by omega) (by omega)]; rfl
    have vo : gb (90 + 6 * x5 + 1) 2 = g 142 x5 := by rw [r1 _ 2 (by omega)]; exact uo
    have v11 : gb 0 11 = g 0 11 := by rw [r1 0 11 (by omega), t1 0 11 (by omega)]; exact q11
    have hfun : gb (90 + 6 * x5 + 1 + 2) = iv_jc g p m x5 := funext vr2
    refine ⟨⟨c0, k1⟩, u_daysInARow (by omega) (by omega) (by omega) (by omega) (fun k z0 z1 => by rw [hfun]; have := w5 k z0 z1; unfold jv_r; omega) ?_⟩
    rw [hfun, vo, v11]
    have JX' : iv_JX g p e m (x5 + 1) gb := by
      have far : ∀ i k, ¬ (i = 90 + 6 * x5 ∧ k = 3) → i ≠ 90 + 6 * x5 + 1 + 2 → gb i k = gl i k := fun i k z0 z1 => by rw [r1 i k z1, t1 i k z0]
      refine ⟨fun i k x1 x2 x3 x4 => ?_, by rw [far 21 4 (by omega) (by omega)]; exact d2, fun k => by rw [far 22 k (by omega) (by omega)]; exact d3 k, fun k => by rw [far 23 k (by omega) (by omega)]; exact d4 k, fun k => by rw [far 24 k (by omega) (by omega)]; exact d5 k, fun k => by rw [far 25 k (by omega) (by omega)]; exact d6 k, by rw [far _ 3 (by omega) (by omega)]; exact d7, by rw [far _ 4 (by omega) (by omega)]; exact d8, fun s s0 s1 => ?_⟩
      · rw [far i k (fun hh => x4 ⟨x5, c0, by omega, Or.inl hh⟩) (fun hh => x4 ⟨x5, c0, by omega, Or.inr hh⟩)]
        exact d1 i k x1 x2 x3 (fun ⟨s, s0, s1, hs⟩ => x4 ⟨s, s0, by omega, hs⟩)
      · by_cases es : s = x5
        · rw [es]
          refine ⟨?_, vr2⟩
          rw [r1 _ 3 (by omega), t2, qs _ 3 (by omega) (by omega), ev3]
          have : gl (90 + 6 * x5 + 4) = g (90 + 6 * x5 + 4) := funext fun k => qs _ k (by omega) (by omega)
          rw [this]
        · obtain ⟨z1, z2⟩ := d9 s s0 (by omega)
          exact ⟨by rw [far _ 3 (by omega) (by omega)]; exact z1, fun d => by rw [far _ d (by omega) (by omega)]; exact z2 d⟩
    have step : ∀ v : Int, v = x4' + (if iv_stk (g (90 + 6 * x5 + 1 + 2)) (iv_day (g 142 x5) (g 0 11)) < iv_stk (iv_jc g p m x5) (iv_day (g 142 x5) (g 0 11)) then 1 else 0) → wB_X8_judge_135 (fun x1' x2' g' => ∃ n', n' < n ∧ 0 ≤ x2' ∧ x2' ≤ g 0 10 ∧ iv_JX g p e m x2' g' ∧ x1' = iv_jl g p m x2'.toNat ∧ n' = (g 0 10 - x2').toNat) x5 v gb := by
      intro v ev v5 ev5
      refine ⟨(g 0 10 - v5).toNat, by omega, by omega, by omega, by rw [ev5]; exact JX', ?_, rfl⟩
      have e5 : v5.toNat = x5.toNat + 1 := by omega
      have e6 : ((x5.toNat : Nat) : Int) = x5 := by omega
      rw [e5, ev, c3]; simp only [iv_jl]; rw [e6]
    exact ⟨⟨w7, w6⟩, fun hle => step x4' (by rw [if_neg (by omega)]; omega), fun hgt v ev => step v (by rw [if_pos hgt]; exact ev)⟩

