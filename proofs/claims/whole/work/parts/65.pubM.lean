/-! publishing, by the reference -/
theorem u_pub163 {Q : Int → jv_Mem → Prop} {g : jv_Mem} (hQ : Q 0 (jv_up g 126 29 1)) : wB_X9_publish_163 Q 0 g :=
  ⟨r01.1, fun h9 => absurd rfl h9, fun _ g2 e2 => by rw [e2]; exact hQ⟩
theorem u_pub75 {Q : Int → jv_Mem → Prop} {g : jv_Mem} (hQ : Q 0 (jv_up g 126 29 1)) : wB_X9_publish_75 Q g := by
  unfold wB_X9_publish_75 wB_X9_publish_76
  refine ⟨fun n x1 x2 gl => gl = g ∧ x1 = 0 ∧ x2 = 0, ⟨0, rfl, rfl, rfl⟩, ?_⟩
  rintro n x1 x2 gl ⟨rfl, rfl, rfl⟩
  exact ⟨r01.1, fun h => absurd h (by omega), fun _ => ⟨r01.1, fun _ => u_pub163 hQ, fun h9 => absurd rfl h9⟩⟩
theorem u_pub128 {K : Int → Int → jv_Mem → Prop} {e w : Int} {g : jv_Mem} (n0 : 0 ≤ g 126 11) (n1 : g 126 11 ≤ 60) (hc : ∀ c, 0 ≤ c → c < g 126 11 → jv_r (g 134 c) ∧ jv_r (g 135 c) ∧ 0 ≤ g 136 c ∧ g 136 c ≤ 2000) (hn : 0 ≤ g 126 15 ∧ g 126 15 ≤ 30000) (e0 : 0 ≤ e) (e1 : e < 6) (hw : jv_r w) (hch : ∀ k, 0 ≤ k → k < e → jv_r (g 141 k))
    (hK : ∀ f, iv_cf (g 134) (g 135) (g 136) (g 141) e w (g 126 15 / 24) (g 126 11) f → K (if f = -1 then 0 else 1) (e + 1) (jv_up g 141 e f)) : wB_X9_publish_128 K e w g := by
  unfold wB_X9_publish_128
  refine u_clueFor n0 n1 hc hn e0 e1 hw hch (fun f hf => ⟨by omega, ?_⟩)
  have hk := hK f hf
  have hr := iv_cf_r n0 hf
  rintro g2 e2
  have ef : g2 141 e = f := by rw [e2, jv_up_e rfl rfl]
  rw [ef]
  refine ⟨by omega, (by unfold jv_r; omega), fun h9 v ev => ?_, fun h9 v ev => ?_⟩
  · rw [if_pos h9] at hk
    rw [ev, e2]; exact hk
  · rw [if_neg h9] at hk
    rw [ev, e2]; exact hk
/-- the reference's cells when it is published, from the memory in which the clues are chosen -/
def iv_PT (g g' : jv_Mem) : Prop := (∀ i k, ¬ (i = 126 ∧ k = 16) → i ≠ 136 → i ≠ 137 → i ≠ 138 → i ≠ 139 → g' i k = g i k) ∧ g' 126 16 = g 126 16 + 1 ∧ (∀ k, g' 137 k = if k = g 126 16 then g 126 15 else g 137 k) ∧ (∀ c, 0 ≤ c → c < 9 → g' 138 ((9 * g 126 16) + c) = iv_dg (g 129 (g 133 (c / 3))) (c % 3)) ∧ (∀ k, ¬ (9 * g 126 16 ≤ k ∧ k < 9 * g 126 16 + 9) → g' 138 k = g 138 k) ∧ (∀ e, 0 ≤ e → e < 6 → g' 139 ((6 * g 126 16) + e) = g 141 e) ∧ (∀ k, ¬ (6 * g 126 16 ≤ k ∧ k < 6 * g 126 16 + 6) → g' 139 k = g 139 k) ∧ (∀ e, 0 ≤ e → e < 6 → g' 136 (g 141 e) = g 126 15 / 24 + 1) ∧ (∀ c, (∀ e, 0 ≤ e → e < 6 → g 141 e ≠ c) → g' 136 c = g 136 c)
theorem u_pubTail {Q : Int → jv_Mem → Prop} {g : jv_Mem} (n0 : 0 ≤ g 126 16) (n1 : g 126 16 < 20) (hn : 0 ≤ g 126 15 ∧ g 126 15 ≤ 30000) (hch : ∀ e, 0 ≤ e → e < 6 → 0 ≤ g 141 e ∧ g 141 e < 60) (hr : ∀ x, 0 ≤ x → x < 3 → 0 ≤ g 133 x ∧ g 133 x < 30 ∧ 0 ≤ g 129 (g 133 x) ∧ g 129 (g 133 x) < 729) (hQ : ∀ g' : jv_Mem, iv_PT g g' → Q (g 126 16) g') : wB_X9_publish_163 Q 1 g := by
  have ht : jv_div (g 126 15) 24 = g 126 15 / 24 := iv_div (by omega) (by omega) (by omega) (by omega)
  unfold wB_X9_publish_163
  refine ⟨r01.2.1, fun _ => ?_, fun h9 => absurd h9 (by omega)⟩
  refine ⟨fun n x gl => 0 ≤ x ∧ x ≤ 6 ∧ (∀ i k, i ≠ 136 → i ≠ 139 → gl i k = g i k) ∧ (∀ e, 0 ≤ e → e < x → gl 139 ((6 * g 126 16) + e) = g 141 e) ∧ (∀ k, ¬ (6 * g 126 16 ≤ k ∧ k < 6 * g 126 16 + x) → gl 139 k = g 139 k) ∧ (∀ e, 0 ≤ e → e < x → gl 136 (g 141 e) = g 126 15 / 24 + 1) ∧ (∀ c, (∀ e, 0 ≤ e → e < x → g 141 e ≠ c) → gl 136 c = g 136 c) ∧ n = (6 - x).toNat, ⟨_, by omega, by omega, fun _ _ _ _ => rfl, fun e e0 e1 => absurd e1 (by omega), fun _ _ => rfl, fun e e0 e1 => absurd e1 (by omega), fun _ _ => rfl, rfl⟩, ?_⟩
  rintro n x gl ⟨a0, a1, a2, a3, a4, a5, a6, a7⟩
  refine ⟨(by unfold jv_r; omega), fun h => ?_, fun h => ?_⟩
  · have e6 : x = 6 := by omega
    rw [e6] at a3 a4 a5 a6
    clear a7 e6 h a0 a1 n x
    refine ⟨fun n y gm => 0 ≤ y ∧ y ≤ 9 ∧ (∀ i k, i ≠ 138 → gm i k = gl i k) ∧ (∀ c, 0 ≤ c → c < y → gm 138 ((9 * g 126 16) + c) = iv_dg (g 129 (g 133 (c / 3))) (c % 3)) ∧ (∀ k, ¬ (9 * g 126 16 ≤ k ∧ k < 9 * g 126 16 + y) → gm 138 k = gl 138 k) ∧ n = (9 - y).toNat, ⟨_, by omega, by omega, fun _ _ _ => rfl, fun e e0 e1 => absurd e1 (by omega), fun _ _ => rfl, rfl⟩, ?_⟩
    rintro n y gm ⟨c0, c1, c2, c3, c4, c5⟩
    have sg : ∀ i k, i ≠ 136 → i ≠ 138 → i ≠ 139 → gm i k = g i k := fun i k p1 p2 p3 => by rw [c2 i k p2, a2 i k p1 p3]
    refine ⟨(by unfold jv_r; omega), fun h => ?_, fun h => ?_⟩
    · have e9 : y = 9 := by omega
      rw [e9] at c3 c4
      rw [sg 126 16 (by omega) (by omega) (by omega)]
      refine ⟨⟨n0, n1⟩, ?_⟩
      rintro g8 e8 g9 e9'
      have r9 : g9 126 16 = g 126 16 + 1 := by rw [e9', jv_up_e rfl rfl, e8, jv_up_n (by omega), sg 126 16 (by omega) (by omega) (by omega)]
      have r9' : g9 126 16 - 1 = g 126 16 := by omega
      have sx : ∀ i k, ¬ (i = 126 ∧ k = 16) → i ≠ 137 → g9 i k = gm i k := fun i k p1 p2 => by rw [e9', jv_up_n p1, e8, jv_up_n (by omega)]
      rw [r9']
      refine hQ g9 ⟨fun i k p1 p2 p3 p4 p5 => ?_, r9, fun k => ?_, fun c x0 x1 => ?_, fun k hk => ?_, fun e x0 x1 => ?_, fun k hk => ?_, fun e x0 x1 => ?_, fun c hc => ?_⟩
      · rw [sx i k p1 p3]; exact sg i k p2 p4 p5
      · rw [e9', jv_up_n (by omega), e8]
        by_cases q : k = g 126 16
        · rw [if_pos q, jv_up_e rfl q]; exact sg 126 15 (by omega) (by omega) (by omega)
        · rw [if_neg q, jv_up_n (by omega)]; exact sg 137 k (by omega) (by omega) (by omega)
      · rw [sx 138 _ (by omega) (by omega)]; exact c3 c x0 x1
      · rw [sx 138 _ (by omega) (by omega), c4 k hk]; exact a2 138 k (by omega) (by omega)
      · rw [sx 139 _ (by omega) (by omega), c2 139 _ (by omega)]; exact a3 e x0 x1
      · rw [sx 139 _ (by omega) (by omega), c2 139 _ (by omega)]; exact a4 k hk
      · rw [sx 136 _ (by omega) (by omega), c2 136 _ (by omega)]; exact a5 e x0 x1
      · rw [sx 136 _ (by omega) (by omega), c2 136 _ (by omega)]; exact a6 c hc
    · have z1 : jv_div y 3 = y / 3 := iv_div (by omega) (by omega) (by omega) (by omega)
      have z2 : jv_rem y 3 = y % 3 := iv_rem (by omega) (by omega) (by omega) (by omega)
      have hx := hr (y / 3) (by omega) (by omega)
      rw [z1, z2, sg 133 (y / 3) (by omega) (by omega) (by omega), sg 129 _ (by omega) (by omega) (by omega), sg 126 16 (by omega) (by omega) (by omega)]
      refine ⟨by omega, by omega, u_letterOf (by omega) (by omega) (by omega) (by omega) ⟨by omega, ?_⟩⟩
      rintro g9 e9 v ev
      subst ev
      refine ⟨(9 - (y + 1)).toNat, by omega, by omega, by omega, fun i k hi => by rw [e9, jv_up_n (by omega)]; exact c2 i k hi, fun c x0 x1 => ?_, fun k hk => ?_, rfl⟩
      · by_cases q : c = y
        · rw [q, e9, jv_up_e rfl rfl]
        · rw [e9, jv_up_n (by omega)]; exact c3 c x0 (by omega)
      · rw [e9, jv_up_n (by omega)]; exact c4 k (by omega)
  · have s16 : gl 126 16 = g 126 16 := a2 126 16 (by omega) (by omega)
    have s141 : gl 141 x = g 141 x := a2 141 x (by omega) (by omega)
    have s15 : gl 126 15 = g 126 15 := a2 126 15 (by omega) (by omega)
    have hx := hch x a0 h
    rw [s16, s141]
    refine ⟨by omega, by omega, ?_⟩
    rintro g8 e8
    have t141 : g8 141 x = g 141 x := by rw [e8, jv_up_n (by omega)]; exact s141
    have t15 : g8 126 15 = g 126 15 := by rw [e8, jv_up_n (by omega)]; exact s15
    rw [t141, t15, ht]
    refine ⟨by omega, by omega, ?_⟩
    rintro g9 e9 v ev
    subst ev
    refine ⟨(6 - (x + 1)).toNat, by omega, by omega, by omega, fun i k p1 p2 => ?_, fun e x0 x1 => ?_, fun k hk => ?_, fun e x0 x1 => ?_, fun c hc => ?_, rfl⟩
    · rw [e9, jv_up_n (by omega), e8, jv_up_n (by omega)]; exact a2 i k p1 p2
    · rw [e9, jv_up_n (by omega), e8]
      by_cases q : e = x
      · rw [q, jv_up_e rfl rfl]
      · rw [jv_up_n (by omega)]; exact a3 e x0 (by omega)
    · rw [e9, jv_up_n (by omega), e8, jv_up_n (by omega)]; exact a4 k (by omega)
    · by_cases q : g 141 e = g 141 x
      · rw [e9, jv_up_e rfl q]
      · have hne : e ≠ x := fun hh => q (by rw [hh])
        rw [e9, jv_up_n (fun hh => q hh.2), e8, jv_up_n (by omega)]
        exact a5 e x0 (by omega)
    · rw [e9, jv_up_n (fun hh => hc x a0 (by omega) hh.2.symm), e8, jv_up_n (by omega)]
      exact a6 c (fun e x0 x1 => hc e x0 (by omega))
/-- the reference's cells when it is published -/
def iv_PM (g gs : jv_Mem) (rows ch : Int → Int) (g' : jv_Mem) : Prop := (∀ i k, ¬ (i = 126 ∧ (k = 8 ∨ k = 9 ∨ k = 16 ∨ k = 29)) → i ≠ 131 → i ≠ 133 → i ≠ 136 → i ≠ 137 → i ≠ 138 → i ≠ 139 → i ≠ 141 → g' i k = gs i k) ∧ g' 126 29 = 0 ∧ g' 126 16 = g 0 9 + 1 ∧ (∀ k, g' 137 k = if k = g 0 9 then g 0 11 else g 137 k) ∧ (∀ c, 0 ≤ c → c < 9 → g' 138 ((9 * g 0 9) + c) = iv_dg (g 129 (rows (c / 3))) (c % 3)) ∧ (∀ k, ¬ (9 * g 0 9 ≤ k ∧ k < 9 * g 0 9 + 9) → g' 138 k = g 138 k) ∧ (∀ e, 0 ≤ e → e < 6 → g' 139 ((6 * g 0 9) + e) = ch e) ∧ (∀ k, ¬ (6 * g 0 9 ≤ k ∧ k < 6 * g 0 9 + 6) → g' 139 k = g 139 k) ∧ (∀ e, 0 ≤ e → e < 6 → g' 136 (ch e) = g 0 11 / 24 + 1) ∧ (∀ c, (∀ e, 0 ≤ e → e < 6 → ch e ≠ c) → g' 136 c = g 136 c)
theorem u_publishM {Q : Int → jv_Mem → Prop} {g gs : jv_Mem} {rows ch : Int → Int} {r : Int} (h2 : iJ2 g) (h3 : iJ3 g) (h4 : iJ4 g) (h5 : iJ5 g) (h6 : iJ6 g) (hgs : ∀ i, (3 ≤ i ∧ i ≤ 9) ∨ i = 11 ∨ (126 ≤ i ∧ i ≤ 147) → gs i = g i) (ho : iv_out g rows ch r)
    (hE : r ≠ 6 → ∀ g' : jv_Mem, (∀ i, i ≠ 126 → i ≠ 131 → i ≠ 133 → i ≠ 141 → g' i = gs i) → (∀ k, k ≠ 8 → k ≠ 9 → k ≠ 29 → g' 126 k = g 126 k) → g' 126 29 = 1 → Q 0 g')
    (hY : r = 6 → ∀ g' : jv_Mem, iv_PM g gs rows ch g' → Q (g 0 9) g') : wp_X9_publish Q gs := by
  obtain ⟨m1, m2, m3, m4, m5⟩ := id h4
  obtain ⟨b1, b2, b3⟩ := id h5
  obtain ⟨d1, d2, d3, d4, d5⟩ := id h6
  have w30 := h2.2.2.1
  have ht : jv_div (g 0 11) 24 = g 0 11 / 24 := iv_div (by omega) (by omega) (by omega) (by omega)
  have g126 : gs 126 = g 126 := hgs 126 (by omega)
  unfold wp_X9_publish
  rintro g2 e2
  have s2 : ∀ i, i ≠ 126 → g2 i = gs i := fun i hi => by rw [e2, jv_up_row hi]
  have s126 : ∀ k, k ≠ 29 → g2 126 k = g 126 k := fun k hk => by rw [e2, jv_up_n (by omega), g126]
  have s16 : g2 126 16 = g 0 9 := by rw [s126 16 (by omega), d1]
  have s15 : g2 126 15 = g 0 11 := by rw [s126 15 (by omega), b1]
  have s137 : ∀ k, g2 137 k = g 137 k := fun k => by rw [s2 137 (by omega), hgs 137 (by omega)]
  -- refused at once, or tried
  have no : ¬ iv_mp g → wB_X9_publish_49 Q g2 := fun hm => by
    have hr6 : r ≠ 6 := by
      rcases ho with ⟨h, _⟩ | ⟨h, hm', _⟩ | ⟨_, _, hm', _⟩
      · omega
      · exact absurd hm' hm
      · exact absurd hm' hm
    exact ⟨r01.1, fun _ => ⟨r01.1, fun _ => u_pub75 (hE hr6 _ (fun i p1 p2 p3 p4 => by rw [jv_up_row p1]; exact s2 i p1) (fun k p1 p2 p3 => by rw [jv_up_n (by omega)]; exact s126 k p3) (jv_up_e rfl rfl)), fun h9 => absurd rfl h9⟩, fun h9 => absurd rfl h9⟩
  have yes : iv_mp g → wB_X9_publish_45 Q g2 := fun hm => by
    have k2 : iJ2 g2 := h2.fr (fun i k q => by
      unfold f2 at q
      by_cases e : i = 126
      · subst e; exact s126 k (by omega)
      · rw [s2 i e, hgs i (by omega)])
    have k3 : iJ3 g2 := h3.fr (fun i k q => by unfold f3 at q; rw [s2 i (by omega), hgs i (by omega)])
    refine ⟨r01.2.1, fun h9 => absurd h9 (by omega), fun _ => ?_⟩
    refine u_findsFills k2 k3 (fun g3 c1 c2 c3 => ?_)
    have eF : iv_F (g2 132) (g2 129) (g2 128) (g2 130) (g2 7) (g2 3 6).toNat = iv_Fg g := by
      rw [s2 132 (by omega), s2 129 (by omega), s2 128 (by omega), s2 130 (by omega), s2 7 (by omega), s2 3 (by omega), hgs 132 (by omega), hgs 129 (by omega), hgs 128 (by omega), hgs 130 (by omega), hgs 7 (by omega), hgs 3 (by omega)]
      rfl
    rw [eF] at c3
    obtain ⟨t1, t2, t3, t4, t5⟩ := c3
    have s3 : ∀ i, i ≠ 126 → i ≠ 131 → i ≠ 133 → g3 i = gs i := fun i p1 p2 p3 => by rw [c1 i p1 p2 p3, s2 i p1]
    have s3k : ∀ k, k ≠ 8 → k ≠ 9 → k ≠ 29 → g3 126 k = g 126 k := fun k p1 p2 p3 => by rw [c2 k p1 p2, s126 k p3]
    have s329 : g3 126 29 = 0 := by rw [c2 29 (by omega) (by omega), e2, jv_up_e rfl rfl]
    refine ⟨r01.2.1, fun h9 => absurd h9 (by omega), fun _ => ⟨(by unfold jv_r; omega), fun he => ?_, fun hne => ?_⟩⟩
    · have hr6 : r ≠ 6 := by
        rcases ho with ⟨h, _⟩ | ⟨h, _⟩ | ⟨_, _, _, hF, _⟩
        · omega
        · omega
        · exact absurd (by rw [← t2]; exact he) hF
      exact u_pub75 (hE hr6 _ (fun i p1 p2 p3 p4 => by rw [jv_up_row p1]; exact s3 i p1 p2 p3) (fun k p1 p2 p3 => by rw [jv_up_n (by omega)]; exact s3k k p1 p2 p3) (jv_up_e rfl rfl))
    · have hF : (iv_Fg g).2.1 ≠ -1 := by rw [← t2]; exact hne
      have t3 := t3 hF
      have hcs : 0 ≤ r ∧ r ≤ 6 ∧ rows 0 = (iv_Fg g).2.2.1 ∧ rows 1 = (iv_Fg g).2.2.2.1 ∧ rows 2 = (iv_Fg g).2.2.2.2 ∧ iv_cz g rows ch r ∧ (r < 6 → iv_cf (g 134) (g 135) (g 136) ch r (iv_wd (g 129) (g 128) rows r) (g 0 11 / 24) (g 14 4) (-1)) := by
        rcases ho with ⟨_, h⟩ | ⟨_, _, h⟩ | ⟨h0, h1, _, _, q0, q1, q2, hcs, hl⟩
        · exact absurd hm h
        · exact absurd h hF
        · exact ⟨h0, h1, q0, q1, q2, hcs, hl⟩
      obtain ⟨r0, r6, q0, q1, q2, hcs, hl⟩ := hcs
      have er := iv_F_rJ h2 (g 132)
      have eF2 : iv_F (g 132) (g 129) (g 128) (g 130) (g 7) (g 3 6).toNat = iv_Fg g := rfl
      rw [eF2] at er
      have hR := er.2.2.2.2 hF
      have z0 : g3 133 0 = rows 0 := by rw [q0]; exact t3.1
      have z1 : g3 133 1 = rows 1 := by rw [q1]; exact t3.2.1
      have z2 : g3 133 2 = rows 2 := by rw [q2]; exact t3.2.2
      have hr : ∀ x, 0 ≤ x → x < 3 → 0 ≤ rows x ∧ rows x < g 3 6 := fun x x0 x1 => by
        have hx : x = 0 ∨ x = 1 ∨ x = 2 := by omega
        rcases hx with e | e | e
        · rw [e, q0]; exact hR.1
        · rw [e, q1]; exact hR.2.1
        · rw [e, q2]; exact hR.2.2.1
      clear er hR
      have hrx : ∀ x, 0 ≤ x → x < 3 → g3 133 x = rows x := fun x x0 x1 => by
        have hx : x = 0 ∨ x = 1 ∨ x = 2 := by omega
        rcases hx with e | e | e
        · rw [e]; exact z0
        · rw [e]; exact z1
        · rw [e]; exact z2
      have hch := iv_cz_r m2 hcs
      have far : ∀ i, 128 ≤ i → i ≤ 147 → i ≠ 131 → i ≠ 133 → g3 i = g i := fun i i0 i1 p1 p2 => by rw [s3 i (by omega) p1 p2, hgs i (by omega)]
      unfold wB_X9_publish_76
      refine ⟨fun n x1 x2 gl => 0 ≤ x2 ∧ x2 ≤ 6 ∧ (∀ i, i ≠ 141 → gl i = g3 i) ∧ ((x1 = 1 ∧ x2 ≤ r ∧ ∀ k, 0 ≤ k → k < x2 → gl 141 k = ch k) ∨ (x1 = 0 ∧ r < 6)) ∧ n = (6 - x2).toNat, ⟨_, by omega, by omega, fun _ _ => rfl, Or.inl ⟨rfl, r0, fun k k0 k1 => absurd k1 (by omega)⟩, rfl⟩, ?_⟩
      rintro n x1 x2 gl ⟨a0, a1, a2, a3, a4⟩
      have fail : x1 = 0 → r < 6 → wB_X9_publish_163 Q x1 gl := fun hx hr => by
        rw [hx]
        exact u_pub163 (hE (by omega) _ (fun i p1 p2 p3 p4 => by rw [jv_up_row p1, a2 i p4]; exact s3 i p1 p2 p3) (fun k p1 p2 p3 => by rw [jv_up_n (by omega), a2 126 (by omega)]; exact s3k k p1 p2 p3) (jv_up_e rfl rfl))
      refine ⟨(by unfold jv_r; omega), fun h => ?_, fun h => ⟨?_, fun hx => ?_, fun hx => ?_⟩⟩
      · have e6 : x2 = 6 := by omega
        rcases a3 with ⟨x1e, xr, hk⟩ | ⟨x1e, xr⟩
        · have er6 : r = 6 := by omega
          rw [er6] at hch hcs
          rw [e6] at hk
          rw [x1e]
          have y126 : ∀ k, k ≠ 8 → k ≠ 9 → k ≠ 29 → gl 126 k = g 126 k := fun k p1 p2 p3 => by rw [a2 126 (by omega)]; exact s3k k p1 p2 p3
          have y16 : gl 126 16 = g 0 9 := by rw [y126 16 (by omega) (by omega) (by omega), d1]
          have y15 : gl 126 15 = g 0 11 := by rw [y126 15 (by omega) (by omega) (by omega), b1]
          have y133 : ∀ x, 0 ≤ x → x < 3 → gl 133 x = rows x := fun x x0 x1 => by rw [a2 133 (by omega)]; exact hrx x x0 x1
          have y129 : gl 129 = g 129 := by rw [a2 129 (by omega)]; exact far 129 (by omega) (by omega) (by omega) (by omega)
          refine u_pubTail (by omega) (by rw [y16]; exact hm.1) (by omega) (fun e x0 x1 => by rw [hk e x0 x1]; have := hch e x0 x1; omega) (fun x x0 x1 => ?_) (fun g9 hp => ?_)
          · rw [y133 x x0 x1, y129]
            have hx := hr x x0 x1
            have hw := h2.2.2.2.1 _ hx.1 hx.2
            exact ⟨hx.1, by omega, hw.1, hw.2.1⟩
          · obtain ⟨p1, p2, p3, p4, p5, p6, p7, p8, p9⟩ := hp
            rw [y16] at p2 p3 p4 p5 p6 p7
            rw [y15] at p3 p8
            rw [y16]
            refine hY er6 g9 ⟨fun i k v1 v2 v3 v4 v5 v6 v7 v8 => ?_, ?_, p2, fun k => ?_, fun c x0 x1 => ?_, fun k hk' => ?_, fun e x0 x1 => ?_, fun k hk' => ?_, fun e x0 x1 => ?_, fun c hc => ?_⟩
            · rw [p1 i k (by omega) v4 v5 v6 v7, a2 i v8]
              by_cases q : i = 126
              · rw [q, c2 k (by omega) (by omega), e2, jv_up_n (by omega)]
              · rw [s3 i q v2 v3]
            · rw [p1 126 29 (by omega) (by omega) (by omega) (by omega) (by omega), a2 126 (by omega)]; exact s329
            · rw [p3 k, a2 137 (by omega), far 137 (by omega) (by omega) (by omega) (by omega)]
            · rw [p4 c x0 x1, y133 _ (by omega) (by omega), y129]
            · rw [p5 k hk', a2 138 (by omega), far 138 (by omega) (by omega) (by omega) (by omega)]
            · rw [p6 e x0 x1, hk e x0 x1]
            · rw [p7 k hk', a2 139 (by omega), far 139 (by omega) (by omega) (by omega) (by omega)]
            · rw [← hk e x0 x1]; exact p8 e x0 x1
            · rw [p9 c (fun e x0 x1 => by rw [hk e x0 x1]; exact hc e x0 x1), a2 136 (by omega), far 136 (by omega) (by omega) (by omega) (by omega)]
        · exact fail x1e xr
      · rcases a3 with ⟨x1e, _⟩ | ⟨x1e, _⟩
        · rw [x1e]; exact r01.2.1
        · rw [x1e]; exact r01.1
      · rcases a3 with ⟨x1e, _⟩ | ⟨x1e, xr⟩
        · exact absurd hx (by omega)
        · exact fail x1e xr
      · rcases a3 with ⟨x1e, xr, hk⟩ | ⟨x1e, xr⟩
        · have hwr := iv_wd_r h2 hr a0
          have y126 : ∀ k, k ≠ 8 → k ≠ 9 → k ≠ 29 → gl 126 k = g 126 k := fun k p1 p2 p3 => by rw [a2 126 (by omega)]; exact s3k k p1 p2 p3
          have y11 : gl 126 11 = g 14 4 := by rw [y126 11 (by omega) (by omega) (by omega), m1]
          have y15 : gl 126 15 = g 0 11 := by rw [y126 15 (by omega) (by omega) (by omega), b1]
          have y128 : gl 128 = g 128 := by rw [a2 128 (by omega)]; exact far 128 (by omega) (by omega) (by omega) (by omega)
          have y129 : gl 129 = g 129 := by rw [a2 129 (by omega)]; exact far 129 (by omega) (by omega) (by omega) (by omega)
          have y134 : gl 134 = g 134 := by rw [a2 134 (by omega)]; exact far 134 (by omega) (by omega) (by omega) (by omega)
          have y135 : gl 135 = g 135 := by rw [a2 135 (by omega)]; exact far 135 (by omega) (by omega) (by omega) (by omega)
          have y136 : gl 136 = g 136 := by rw [a2 136 (by omega)]; exact far 136 (by omega) (by omega) (by omega) (by omega)
          have y133 : ∀ x, 0 ≤ x → x < 3 → gl 133 x = rows x := fun x x0 x1 => by rw [a2 133 (by omega)]; exact hrx x x0 x1
          have step : ∀ K : Int → Int → jv_Mem → Prop, (∀ f, iv_cf (g 134) (g 135) (g 136) ch x2 (iv_wd (g 129) (g 128) rows x2) (g 0 11 / 24) (g 14 4) f → K (if f = -1 then 0 else 1) (x2 + 1) (jv_up gl 141 x2 f)) → wB_X9_publish_128 K x2 (iv_wd (g 129) (g 128) rows x2) gl := fun K hK => by
            refine u_pub128 (by omega) (by omega) (fun c x0 x1 => ?_) (by omega) a0 h (by unfold jv_r; omega) (fun k k0 k1 => by rw [hk k k0 k1]; have := hch k k0 (by omega); unfold jv_r; omega) (fun f hf => hK f ?_)
            · rw [y134, y135, y136]
              have v4 := m4 c x0 (by omega)
              have v5 := m5 c x0 (by omega)
              refine ⟨?_, ?_, ?_⟩
              · unfold jv_r; omega
              · unfold jv_r; omega
              · omega
            · rw [y134, y135, y136, y15, y11] at hf
              exact iv_cf_congr (fun k k0 k1 => (hk k k0 k1).symm) hf
          have fin : ∀ f, iv_cf (g 134) (g 135) (g 136) ch x2 (iv_wd (g 129) (g 128) rows x2) (g 0 11 / 24) (g 14 4) f → ∃ n', n' < n ∧ 0 ≤ x2 + 1 ∧ x2 + 1 ≤ 6 ∧ (∀ i, i ≠ 141 → jv_up gl 141 x2 f i = g3 i) ∧ (((if f = -1 then (0 : Int) else 1) = 1 ∧ x2 + 1 ≤ r ∧ ∀ k, 0 ≤ k → k < x2 + 1 → jv_up gl 141 x2 f 141 k = ch k) ∨ ((if f = -1 then (0 : Int) else 1) = 0 ∧ r < 6)) ∧ n' = (6 - (x2 + 1)).toNat := fun f hf => by
            refine ⟨(6 - (x2 + 1)).toNat, by omega, by omega, by omega, fun i hi => by rw [jv_up_row hi]; exact a2 i hi, ?_, rfl⟩
            by_cases hx2 : x2 < r
            · have hcx := hcs x2 a0 hx2
              have ef := iv_cf_un hf hcx.1
              have hne : f ≠ -1 := by rw [ef]; exact hcx.2
              refine Or.inl ⟨if_neg hne, by omega, fun k k0 k1 => ?_⟩
              by_cases q : k = x2
              · rw [q, jv_up_e rfl rfl]; exact ef
              · rw [jv_up_n (by omega)]; exact hk k k0 (by omega)
            · have exr : x2 = r := by omega
              have hlx := hl (by omega)
              rw [← exr] at hlx
              have ef := iv_cf_un hf hlx
              exact Or.inr ⟨if_pos ef, by omega⟩
          refine ⟨(by unfold jv_r; omega), fun h3' => ⟨by omega, by omega, by omega, ?_⟩, fun h3' => ⟨by omega, ?_⟩⟩
          · have u0 := hr 0 (by omega) (by omega)
            have u1 := hr 1 (by omega) (by omega)
            have u2 := hr 2 (by omega) (by omega)
            have w0 := h2.2.2.2.1 _ u0.1 u0.2
            have w1 := h2.2.2.2.1 _ u1.1 u1.2
            have w2 := h2.2.2.2.1 _ u2.1 u2.2
            rw [y133 0 (by omega) (by omega), y133 1 (by omega) (by omega), y133 2 (by omega) (by omega)]
            refine u_columnOf (by omega) (by omega) (by omega) (by omega) (by rw [y129]; exact ⟨w0.1, w0.2.1⟩) (by rw [y129]; exact ⟨w1.1, w1.2.1⟩) (by rw [y129]; exact ⟨w2.1, w2.2.1⟩) ?_
            rw [y128, y129]
            have ew : iv_wd (g 129) (g 128) rows x2 = g 128 (iv_col (g 129) (rows 0) (rows 1) (rows 2) (x2 - 3)) - 1 := by unfold iv_wd; rw [if_neg (by omega)]
            rw [← ew]
            exact step _ fin
          · rw [y133 x2 a0 h3']
            have ew : iv_wd (g 129) (g 128) rows x2 = rows x2 := by unfold iv_wd; rw [if_pos h3']
            rw [← ew]
            exact step _ fin
        · exact absurd x1e hx
  rw [s16]
  refine ⟨(by unfold jv_r; omega), fun h => no (fun hm => absurd hm.1 (by omega)), fun h => ⟨(by unfold jv_r; omega), fun hz => yes ⟨h, Or.inl hz⟩, fun hz => ⟨by omega, ?_⟩⟩⟩
  have hp := d4 (g 0 9 - 1) (by omega) (by omega)
  obtain ⟨p1, p2, p3, p4, p5⟩ := hp
  have hd : jv_div (g 137 (g 0 9 - 1)) 24 = g 137 (g 0 9 - 1) / 24 := iv_div (by omega) (by omega) (by omega) (by omega)
  rw [s137, s15, hd, ht]
  exact ⟨⟨(by unfold jv_r; omega), (by unfold jv_r; omega)⟩, fun h9 => no (fun hm => by have h8 := hm.2; omega), fun h9 => yes ⟨h, Or.inr (by omega)⟩⟩
