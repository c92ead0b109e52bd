/-! the words -/
theorem t_beg {x4 : Int} {Q : Int → jv_Mem → Prop} {g : jv_Mem} (hI : iJ x4 g) (h3 : g 1 1 = 3)
    (hQ : ∀ v : Int, v = 81 * g 2 0 + 9 * g 2 1 + g 2 2 → 0 ≤ v → v < 729 → Q (iv_bg (g 129) (729 + v) (g 3 6).toNat) g) : wp_X8_beginning Q g := by
  obtain ⟨hx, j1, j2, -⟩ := hI
  obtain ⟨e1, e2, e3, e4⟩ := id j1
  obtain ⟨m1, m2, m3, hw, hb, hc, ho, hs, hj⟩ := id j2
  unfold wp_X8_beginning
  have h5 := e4 0 (by omega) (by omega)
  have h6 := e4 1 (by omega) (by omega)
  have h7 := e4 2 (by omega) (by omega)
  have hv : iv_cod (g 2) (g 1 1).toNat = 729 + (81 * g 2 0 + 9 * g 2 1 + g 2 2) := by
    have e' : (g 1 1).toNat = 3 := by omega
    rw [e', iv_cod_v.2.2.2]; omega
  refine u_code e2 e3 ?_
  rw [hv]
  refine ⟨by omega, ?_⟩
  rw [(hc (729 + (81 * g 2 0 + 9 * g 2 1 + g 2 2)) (by omega) (by omega)).2]
  exact hQ _ rfl (by omega) (by omega)
/-- no word stands there twice -/
theorem iv_bg1 {g : jv_Mem} (h2 : iJ2 g) {v : Int} (v0 : 0 ≤ v) (v1 : v < 729) : ∀ n : Nat, (n : Int) ≤ g 3 6 → (iv_bg (g 129) (729 + v) n = 1 ∧ ∃ w : Int, 0 ≤ w ∧ w < n ∧ g 129 w = v) ∨ (iv_bg (g 129) (729 + v) n = 0 ∧ ∀ w : Int, 0 ≤ w → w < n → g 129 w ≠ v) := by
  obtain ⟨m1, m2, m3, hw, hb, hc, ho, hs, hj⟩ := id h2
  intro n
  induction n with
  | zero => intro _; exact Or.inr ⟨rfl, fun w w0 w1 => by omega⟩
  | succ n ih =>
    intro hn
    have hwn := hw (n : Nat) (by omega) (by omega)
    have hne : ¬ ((729 + g 129 (n : Nat)) / 9 = 729 + v) ∧ ¬ ((729 + g 129 (n : Nat)) / 81 = 729 + v) ∧ ¬ (729 + v = 1) := by omega
    simp only [iv_bg]
    by_cases e : g 129 (n : Nat) = v
    · rw [if_pos (Or.inl (by omega))]
      rcases ih (by omega) with ⟨-, w, w0, w1, ew⟩ | ⟨z, -⟩
      · exfalso
        have a1 := (hw w w0 (by omega)).2.2.2.2.2.2.2
        have a2 := hwn.2.2.2.2.2.2.2
        rw [ew] at a1
        rw [e] at a2
        omega
      · exact Or.inl ⟨by omega, n, by omega, by omega, e⟩
    · rw [if_neg (by omega)]
      rcases ih (by omega) with ⟨z, w, w0, w1, ew⟩ | ⟨z, y⟩
      · exact Or.inl ⟨by omega, w, w0, by omega, ew⟩
      · refine Or.inr ⟨by omega, fun w w0 w1 => ?_⟩
        by_cases ew : w = (n : Nat)
        · rw [ew]; exact e
        · exact y w w0 (by omega)
theorem iv_bgw {g : jv_Mem} (h2 : iJ2 g) {v : Int} (v0 : 0 ≤ v) (v1 : v < 729) : iv_bg (g 129) (729 + v) (g 3 6).toNat = (if g 128 v = 0 then 0 else 1) := by
  obtain ⟨m1, m2, m3, hw, hb, hc, ho, hs, hj⟩ := id h2
  rcases iv_bg1 h2 v0 v1 (g 3 6).toNat (by omega) with ⟨z, w, w0, w1, ew⟩ | ⟨z, y⟩
  · have a1 := (hw w w0 (by omega)).2.2.2.2.2.2.2
    rw [ew] at a1
    rw [z, if_neg (by omega)]
  · rw [z]
    rcases hb v v0 v1 with h | ⟨h, h', h''⟩
    · rw [if_pos h]
    · exact absurd h'' (y _ (by omega) (by omega))
/-- the first char of three letters -/
theorem t_char0 {x4 : Int} {Q : Int → jv_Mem → Prop} {g : jv_Mem} (hI : iJ x4 g) (h3 : g 1 1 = 3) (hQ : Q (if g 2 0 = 8 then 55348 else 97 + g 2 0) g) : wp_X8_charAt 0 Q g := by
  obtain ⟨hx, j1, -⟩ := hI
  obtain ⟨e1, e2, e3, e4⟩ := id j1
  have h5 := e4 0 (by omega) (by omega)
  have ev : iv_at (g 2) 0 0 0 (g 1 1).toNat = (if g 2 0 = 8 then 55348 else 97 + g 2 0) := by
    have e' : (g 1 1).toNat = 3 := by omega
    have hw := @iv_w_r (g 2 0)
    rw [e']
    show (if 0 < 0 + iv_w (g 2 0) then iv_co (g 2 0) (0 - 0) else _) = _
    rw [if_pos (by omega)]
    unfold iv_co
    rfl
  unfold wp_X8_charAt
  refine u_charOrNone (by unfold jv_r; omega) e2 e3 (fun i i0 i1 => (e4 i i0 i1).2) (fun _ => ?_) (fun h => absurd h (by omega))
  rw [ev]
  have hr : 97 ≤ (if g 2 0 = 8 then 55348 else 97 + g 2 0) ∧ (if g 2 0 = 8 then 55348 else 97 + g 2 0) < 65536 := by split <;> omega
  generalize (if g 2 0 = 8 then 55348 else 97 + g 2 0) = x at hr hQ ⊢
  exact ⟨(by unfold jv_r; omega), fun _ => ⟨by omega, by omega, hQ⟩, fun h => absurd h (by omega)⟩
theorem t_wordAt {x4 a : Int} {Q : Int → jv_Mem → Prop} {g : jv_Mem} (hI : iJ x4 g) (ra : jv_r a) (h1 : 0 ≤ a → a < g 3 6 → ∀ r : Int, 0 ≤ r → r < g 3 6 → Q r g) (h2 : ¬ (0 ≤ a ∧ a < g 3 6) → Q (-1) g) : wp_X8_wordAt a Q g := by
  obtain ⟨hx, j1, j2, -⟩ := hI
  obtain ⟨m1, m2, m3, hw, hb, hc, ho, hs, hj⟩ := id j2
  unfold wp_X8_wordAt wp_X7_count
  refine u_isIndex ra (by unfold jv_r; omega) (fun h => ⟨(by unfold jv_r; omega), fun h9 => by omega, fun _ => ⟨by omega, ?_⟩⟩) (fun h => ⟨(by unfold jv_r; omega), fun _ => h2 h, fun h9 => absurd rfl h9⟩)
  have := ho a h.1 h.2
  exact h1 h.1 h.2 _ this.1 this.2
/-- a weight is set -/
theorem iJ.weigh {x4 w a : Int} {g g' : jv_Mem} (h : iJ x4 g) (a0 : 0 ≤ a) (a1 : a ≤ 99) (f : ∀ i k, i ≠ 6 → i ≠ 130 → g' i k = g i k) (e6 : ∀ k, g' 6 k = if k = w then a else g 6 k) (e130 : ∀ k, g' 130 k = if k = w then a else g 130 k) : iJ x4 g' := by
  obtain ⟨h0, h1, h2, h3, h4, h5, h6, h7, h8⟩ := h
  refine ⟨h0, h1.fr fun i k z => f i k (by unfold f1 at z; omega) (by unfold f1 at z; omega), ?_, h3.fr fun i k z => f i k (by unfold f3 at z; omega) (by unfold f3 at z; omega), h4.fr fun i k z => f i k (by unfold f4 at z; omega) (by unfold f4 at z; omega), h5.fr fun i k z => f i k (by unfold f5 at z; omega) (by unfold f5 at z; omega), h6.fr fun i k z => f i k (by unfold f6 at z; omega) (by unfold f6 at z; omega), h7.fr (by omega) fun i k z => f i k (by unfold f7 at z; omega) (by unfold f7 at z; omega), h8.fr (by omega) fun i k z => f i k (by unfold f8 at z; omega) (by unfold f8 at z; omega)⟩
  have r : ∀ i, i ≠ 6 → i ≠ 130 → g' i = g i := fun i p q => funext fun k => f i k p q
  obtain ⟨m1, m2, m3, hw, hr⟩ := h2
  unfold iJ2
  rw [r 126 (by omega) (by omega), r 3 (by omega) (by omega), r 4 (by omega) (by omega), r 5 (by omega) (by omega), r 7 (by omega) (by omega), r 8 (by omega) (by omega), r 9 (by omega) (by omega), r 128 (by omega) (by omega), r 129 (by omega) (by omega)]
  refine ⟨m1, m2, m3, fun x x0 x1 => ?_, hr⟩
  obtain ⟨c1, c2, c3, c4, c5, c6, c7, c8⟩ := hw x x0 x1
  rw [e6, e130]
  by_cases e : x = w
  · rw [if_pos e, if_pos e]; exact ⟨c1, c2, c3, c4, rfl, a0, a1, c8⟩
  · rw [if_neg e, if_neg e]; exact ⟨c1, c2, c3, c4, c5, c6, c7, c8⟩
theorem t_setWeight {x4 w a : Int} {Q : Int → jv_Mem → Prop} {g : jv_Mem} (hI : iJ x4 g) (hw : 0 ≤ w ∧ w < g 3 6) (ha : 0 ≤ a ∧ a ≤ 99)
    (hQ : ∀ g' : jv_Mem, (∀ i k, i ≠ 6 → i ≠ 130 → g' i k = g i k) → iJ x4 g' → g' 6 w = a → Q (g 6 w) g') : wp_X8_setWeight w a (fun r g1 => ∃ gG : jv_Mem, jv_sm g1 gG ∧ Q r gG) g := by
  have m3 := hI.2.2.1.2.2.1
  unfold wp_X8_setWeight wp_X7_count
  refine u_needIndex (by unfold jv_r; omega) hw (u_needRange (by unfold jv_r; omega) (by unfold jv_r; omega) ha ⟨by omega, by omega, ?_⟩)
  rintro g1 e1
  have f : ∀ i k, i ≠ 6 → i ≠ 130 → jv_up g1 130 w a i k = g i k := fun i k p q => by rw [jv_up_n (fun h => q h.1), e1, jv_up_n (fun h => p h.1)]
  have q6 : ∀ k, jv_up g1 130 w a 6 k = if k = w then a else g 6 k := fun k => by
    rw [jv_up_n (by omega), e1]
    by_cases e : k = w
    · rw [jv_up_e rfl e, if_pos e]
    · rw [jv_up_n (fun h => e h.2), if_neg e]
  refine ⟨jv_up g1 130 w a, fun i k h => jv_up_n (by omega), hQ _ f (hI.weigh ha.1 ha.2 f q6 (fun k => ?_)) (by rw [q6, if_pos rfl])⟩
  by_cases e : k = w
  · rw [jv_up_e rfl e, if_pos e]
  · rw [jv_up_n (fun h => e h.2), if_neg e, e1, jv_up_n (by omega)]
/-- a letter is fixed -/
theorem t_fix {x4 c v : Int} {Q : Int → jv_Mem → Prop} {g : jv_Mem} (hI : iJ x4 g) (hc : 0 ≤ c ∧ c < 9) (hv : -1 ≤ v ∧ v ≤ 8)
    (hQ : ∀ g' : jv_Mem, (∀ i k, i ≠ 11 → i ≠ 132 → g' i k = g i k) → iJ x4 g' → g' 11 c = v → Q (g 11 c) g') : wp_X8_fix c v (fun r g1 => ∃ gG : jv_Mem, jv_sm g1 gG ∧ Q r gG) g := by
  have main : wB_X8_fix_17 c v (fun r g1 => ∃ gG : jv_Mem, jv_sm g1 gG ∧ Q r gG) g := by
    unfold wB_X8_fix_17
    refine ⟨by omega, by omega, ?_⟩
    rintro g1 e1
    have f : ∀ i k, i ≠ 11 → i ≠ 132 → jv_up g1 132 c (v + 1) i k = g i k := fun i k p q => by rw [jv_up_n (fun h => q h.1), e1, jv_up_n (fun h => p h.1)]
    have e11 : ∀ k, jv_up g1 132 c (v + 1) 11 k = if k = c then v else g 11 k := fun k => by
      rw [jv_up_n (by omega), e1]
      by_cases e : k = c
      · rw [jv_up_e rfl e, if_pos e]
      · rw [jv_up_n (fun h => e h.2), if_neg e]
    refine ⟨jv_up g1 132 c (v + 1), fun i k h => jv_up_n (by omega), hQ _ f ?_ (by rw [e11, if_pos rfl])⟩
    obtain ⟨h0, h1, h2, h3, h4, h5, h6, h7, h8⟩ := hI
    refine ⟨h0, h1.fr fun i k z => f i k (by unfold f1 at z; omega) (by unfold f1 at z; omega), h2.fr fun i k z => f i k (by unfold f2 at z; omega) (by unfold f2 at z; omega), ?_, h4.fr fun i k z => f i k (by unfold f4 at z; omega) (by unfold f4 at z; omega), h5.fr fun i k z => f i k (by unfold f5 at z; omega) (by unfold f5 at z; omega), h6.fr fun i k z => f i k (by unfold f6 at z; omega) (by unfold f6 at z; omega), h7.fr (by omega) fun i k z => f i k (by unfold f7 at z; omega) (by unfold f7 at z; omega), h8.fr (by omega) fun i k z => f i k (by unfold f8 at z; omega) (by unfold f8 at z; omega)⟩
    intro k k0 k1
    have b := h3 k k0 k1
    rw [e11]
    by_cases e : k = c
    · rw [if_pos e, jv_up_e rfl e]; omega
    · rw [if_neg e, jv_up_n (fun h => e h.2), e1, jv_up_n (by omega)]; exact b
  unfold wp_X8_fix
  exact u_needIndex (by unfold jv_r; omega) hc ⟨(by unfold jv_r; omega), fun _ => main, fun h => u_needIndex (by unfold jv_r; omega) (by omega) main⟩
/-- a word is added, or it is one already, or there are thirty -/
theorem t_addWord {x4 a v : Int} {Q : Int → jv_Mem → Prop} {g : jv_Mem} (hI : iJ x4 g) (ha : 0 ≤ a ∧ a ≤ 99) (h3 : g 1 1 = 3) (hv : v = 81 * g 2 0 + 9 * g 2 1 + g 2 2)
    (hN : 0 ≤ v → v < 729 → (g 128 v ≠ 0 ∨ g 3 6 = 30) → Q (-3) g)
    (hY : 0 ≤ v → v < 729 → g 3 6 < 30 → ∀ g' : jv_Mem, (∀ i k, ¬ (4 ≤ i ∧ i ≤ 9) → ¬ (128 ≤ i ∧ i ≤ 130) → ¬ (i = 3 ∧ k = 6) → ¬ (i = 126 ∧ k = 2) → g' i k = g i k) → iJ x4 g' → g' 3 6 = g 3 6 + 1 → g' 128 v = g 3 6 + 1 → Q (g 3 6) g') : wp_L_addWord a Q g := by
  obtain ⟨hx, j1, j2, j3, j4, j5, j6, j7, j8⟩ := id hI
  obtain ⟨e1, e2, e3, e4⟩ := id j1
  obtain ⟨m1, m2, m3, hw, hb, hc, ho, hs, hj⟩ := id j2
  have h5 := e4 0 (by omega) (by omega)
  have h6 := e4 1 (by omega) (by omega)
  have h7 := e4 2 (by omega) (by omega)
  have v0 : 0 ≤ v := by omega
  have v1 : v < 729 := by omega
  have hcd : iv_cod (g 2) (g 1 1).toNat = 729 + v := by
    have e' : (g 1 1).toNat = 3 := by omega
    rw [e', iv_cod_v.2.2.2]; omega
  have hbv := hb v v0 v1
  have hq : g 8 (729 + v) = (if g 128 v = 0 then 0 else 1) := by rw [(hc (729 + v) (by omega) (by omega)).2]; exact iv_bgw j2 v0 v1
  have hqr : jv_r (g 8 (729 + v)) := by rw [hq]; unfold jv_r; split <;> omega
  unfold wp_L_addWord wp_X8_addWord
  refine u_needRange (by unfold jv_r; omega) (by unfold jv_r; omega) ha ?_
  unfold wp_X5_isFull wB_X8_addWord_46
  refine ⟨(by unfold jv_r; omega), fun hl => absurd hl (by omega), fun hl => ⟨(by unfold jv_r; omega), fun h9 => by omega, fun _ => ?_⟩⟩
  refine u_code e2 e3 ?_
  rw [hcd]
  refine ⟨by omega, ⟨hqr, fun hp => ⟨rfl, hN v0 v1 (Or.inl (fun h => by rw [if_pos h] at hq; omega))⟩, fun hp => ⟨(by unfold jv_r; omega), fun hk => ?_, fun hk => ⟨rfl, hN v0 v1 (Or.inr (by omega))⟩⟩⟩⟩
  refine u_code e2 e3 ?_
  rw [hcd]
  have hz : g 128 v = 0 := by
    by_cases h : g 128 v = 0
    · exact h
    · rw [if_neg h] at hq; omega
  refine u_add m2 hk (by omega) (by omega) ho (fun w w0 w1 => by have := hw w w0 w1; unfold jv_r; omega) (fun g' p p0 p1 d0 d4 d6 d9 d5 d8 d36 b2 b3 b4 b5 b6 => ?_)
  generalize hG : jv_up (jv_up (jv_up (jv_up g' 126 2 (g 3 6 + 1)) 128 v (g 3 6 + 1)) 129 (g 3 6) v) 130 (g 3 6) a = gG
  have lo : ∀ i k, i < 126 → gG i k = g' i k := fun i k hi => by rw [← hG, jv_up_n (by omega), jv_up_n (by omega), jv_up_n (by omega), jv_up_n (by omega)]
  have f : ∀ i k, ¬ (4 ≤ i ∧ i ≤ 9) → ¬ (128 ≤ i ∧ i ≤ 130) → ¬ (i = 3 ∧ k = 6) → ¬ (i = 126 ∧ k = 2) → gG i k = g i k := fun i k q1 q2 q3 q4 => by
    rw [← hG, jv_up_n (by omega), jv_up_n (by omega), jv_up_n (by omega), jv_up_n q4, d0 i k (by omega) (by omega) (by omega) (by omega) (by omega) (by omega) q3]
  have hi : ∀ i k, 128 ≤ i → i ≤ 130 → g' i k = g i k := fun i k i0 i1 => d0 i k (by omega) (by omega) (by omega) (by omega) (by omega) (by omega) (by omega)
  have r128 : ∀ k, gG 128 k = if k = v then g 3 6 + 1 else g 128 k := fun k => by
    rw [← hG, jv_up_n (by omega), jv_up_n (by omega)]
    by_cases e : k = v
    · rw [jv_up_e rfl e, if_pos e]
    · rw [jv_up_n (fun h => e h.2), if_neg e, jv_up_n (by omega)]; exact hi 128 k (by omega) (by omega)
  have r129 : ∀ k, gG 129 k = if k = g 3 6 then v else g 129 k := fun k => by
    rw [← hG, jv_up_n (by omega)]
    by_cases e : k = g 3 6
    · rw [jv_up_e rfl e, if_pos e]
    · rw [jv_up_n (fun h => e h.2), if_neg e, jv_up_n (by omega), jv_up_n (by omega)]; exact hi 129 k (by omega) (by omega)
  have r130 : ∀ k, gG 130 k = if k = g 3 6 then a else g 130 k := fun k => by
    rw [← hG]
    by_cases e : k = g 3 6
    · rw [jv_up_e rfl e, if_pos e]
    · rw [jv_up_n (fun h => e h.2), if_neg e, jv_up_n (by omega), jv_up_n (by omega), jv_up_n (by omega)]; exact hi 130 k (by omega) (by omega)
  have k0 : gG 126 2 = g 3 6 + 1 := by rw [← hG, jv_up_n (by omega), jv_up_n (by omega), jv_up_n (by omega), jv_up_e rfl rfl]
  have J2 : iJ2 gG := iJ2_add j2 hk v0 v1 ha.1 ha.2 (by omega) p0 p1 k0 (by rw [lo 3 6 (by omega)]; exact d36) r129 r130 r128 (fun k => by rw [lo 4 k (by omega)]; exact d4 k) (fun k => by rw [lo 6 k (by omega)]; exact d6 k) (fun k => by rw [lo 9 k (by omega)]; exact d9 k) (fun k => by rw [lo 5 k (by omega)]; exact d5 k) (fun k => by rw [lo 8 k (by omega)]; exact d8 k) (fun i i0 i1 => by rw [lo 7 i (by omega)]; exact b2 i i0 i1) (by rw [lo 7 p (by omega)]; exact b3) (fun i i0 i1 => by rw [lo 7 i (by omega)]; exact b4 i i0 i1) b5 b6
  refine ⟨gG, fun i k h => lo i k h, hY v0 v1 hk gG f ?_ (by rw [lo 3 6 (by omega)]; exact d36) (by rw [r128, if_pos rfl])⟩
  exact ⟨hx, j1.fr fun i k z => f i k (by unfold f1 at z; omega) (by unfold f1 at z; omega) (by unfold f1 at z; omega) (by unfold f1 at z; omega), J2, j3.fr fun i k z => f i k (by unfold f3 at z; omega) (by unfold f3 at z; omega) (by unfold f3 at z; omega) (by unfold f3 at z; omega), j4.fr fun i k z => f i k (by unfold f4 at z; omega) (by unfold f4 at z; omega) (by unfold f4 at z; omega) (by unfold f4 at z; omega), j5.fr fun i k z => f i k (by unfold f5 at z; omega) (by unfold f5 at z; omega) (by unfold f5 at z; omega) (by unfold f5 at z; omega), j6.fr fun i k z => f i k (by unfold f6 at z; omega) (by unfold f6 at z; omega) (by unfold f6 at z; omega) (by unfold f6 at z; omega), j7.fr (by omega) fun i k z => f i k (by unfold f7 at z; omega) (by unfold f7 at z; omega) (by unfold f7 at z; omega) (by unfold f7 at z; omega), j8.fr (by omega) fun i k z => f i k (by unfold f8 at z; omega) (by unfold f8 at z; omega) (by unfold f8 at z; omega) (by unfold f8 at z; omega)⟩
