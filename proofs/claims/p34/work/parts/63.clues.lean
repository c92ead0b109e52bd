/-! publishing: the clue that is chosen for an entry -/
def iv_fr (ch : Int → Int) (e c : Int) : Prop := ∀ k, 0 ≤ k → k < e → ch k ≠ c
def iv_cn (wd st us ch : Int → Int) (e w t c : Int) : Prop := wd c = w ∧ st c = 2 ∧ (us c = 0 ∨ 365 ≤ t - us c + 1) ∧ iv_fr ch e c
def iv_cf (wd st us ch : Int → Int) (e w t n f : Int) : Prop := (f = -1 ∧ ∀ c, 0 ≤ c → c < n → ¬ iv_cn wd st us ch e w t c) ∨ (0 ≤ f ∧ f < n ∧ iv_cn wd st us ch e w t f ∧ ∀ c, 0 ≤ c → c < n → iv_cn wd st us ch e w t c → us f < us c ∨ (us f = us c ∧ f ≤ c))
theorem iv_fr_congr {ch ch' : Int → Int} {e c : Int} (h : ∀ k, 0 ≤ k → k < e → ch' k = ch k) (hf : iv_fr ch e c) : iv_fr ch' e c := fun k k0 k1 => by rw [h k k0 k1]; exact hf k k0 k1
theorem iv_cf_un {wd st us ch : Int → Int} {e w t n f f' : Int} (h : iv_cf wd st us ch e w t n f) (h' : iv_cf wd st us ch e w t n f') : f = f' := by
  rcases h with ⟨a, b⟩ | ⟨a, b, c, d⟩
  · rcases h' with ⟨a', b'⟩ | ⟨a', b', c', d'⟩
    · rw [a, a']
    · exact absurd c' (b f' a' b')
  · rcases h' with ⟨a', b'⟩ | ⟨a', b', c', d'⟩
    · exact absurd c (b' f a b)
    · have h1 := d f' a' b' c'
      have h2 := d' f a b c
      clear d d' c c'
      omega
theorem iv_cn_congr {wd st us ch ch' : Int → Int} {e w t c : Int} (h : ∀ k, 0 ≤ k → k < e → ch' k = ch k) (hc : iv_cn wd st us ch e w t c) : iv_cn wd st us ch' e w t c := ⟨hc.1, hc.2.1, hc.2.2.1, iv_fr_congr h hc.2.2.2⟩
theorem iv_cf_congr {wd st us ch ch' : Int → Int} {e w t n f : Int} (h : ∀ k, 0 ≤ k → k < e → ch' k = ch k) (hf : iv_cf wd st us ch e w t n f) : iv_cf wd st us ch' e w t n f := by
  have h' : ∀ k, 0 ≤ k → k < e → ch k = ch' k := fun k k0 k1 => (h k k0 k1).symm
  rcases hf with ⟨a, b⟩ | ⟨a, b, c, d⟩
  · exact Or.inl ⟨a, fun c c0 c1 hc => b c c0 c1 (iv_cn_congr h' hc)⟩
  · exact Or.inr ⟨a, b, iv_cn_congr h c, fun x x0 x1 hx => d x x0 x1 (iv_cn_congr h' hx)⟩
theorem iv_cf_z {wd st us ch : Int → Int} {e w t : Int} : iv_cf wd st us ch e w t 0 (-1) := Or.inl ⟨rfl, fun c c0 c1 => by omega⟩
theorem iv_cf_r {wd st us ch : Int → Int} {e w t n f : Int} (n0 : 0 ≤ n) (h : iv_cf wd st us ch e w t n f) : f = -1 ∨ (0 ≤ f ∧ f < n) := by
  rcases h with ⟨a, b⟩ | ⟨a, b, c, d⟩
  · exact Or.inl a
  · exact Or.inr ⟨a, b⟩
theorem iv_cf_no {wd st us ch : Int → Int} {e w t n f : Int} (h : iv_cf wd st us ch e w t n f) (hn : ¬ iv_cn wd st us ch e w t n) : iv_cf wd st us ch e w t (n + 1) f := by
  rcases h with ⟨a, b⟩ | ⟨a, b, c, d⟩
  · refine Or.inl ⟨a, fun x x0 x1 hx => ?_⟩
    by_cases q : x = n
    · rw [q] at hx; exact hn hx
    · exact b x x0 (by omega) hx
  · refine Or.inr ⟨a, by omega, c, fun x x0 x1 hx => ?_⟩
    by_cases q : x = n
    · rw [q] at hx; exact absurd hx hn
    · exact d x x0 (by omega) hx
theorem iv_cf_yes {wd st us ch : Int → Int} {e w t n f : Int} (n0 : 0 ≤ n) (h : iv_cf wd st us ch e w t n f) (hn : iv_cn wd st us ch e w t n) (hb : f = -1 ∨ us n < us f) : iv_cf wd st us ch e w t (n + 1) n := by
  refine Or.inr ⟨n0, by omega, hn, fun x x0 x1 hx => ?_⟩
  by_cases q : x = n
  · rw [q]; exact Or.inr ⟨rfl, Int.le_refl _⟩
  · rcases h with ⟨a, b⟩ | ⟨a, b, c, d⟩
    · exact absurd hx (b x x0 (by omega))
    · have h1 := d x x0 (by omega) hx
      clear d c
      omega
theorem iv_cf_old {wd st us ch : Int → Int} {e w t n f : Int} (n0 : 0 ≤ n) (h : iv_cf wd st us ch e w t n f) (hf : f ≠ -1) (hb : us f ≤ us n) : iv_cf wd st us ch e w t (n + 1) f := by
  rcases h with ⟨a, b⟩ | ⟨a, b, c, d⟩
  · exact absurd a hf
  · refine Or.inr ⟨a, by omega, c, fun x x0 x1 hx => ?_⟩
    by_cases q : x = n
    · rw [q]; omega
    · exact d x x0 (by omega) hx
theorem u_canBeUsed {c t : Int} {Q : Int → jv_Mem → Prop} {g : jv_Mem} (c0 : 0 ≤ c) (c1 : c < 60) (rs : jv_r (g 16 c)) (ru : -1 ≤ g 17 c ∧ g 17 c ≤ 2000) (t0 : 0 ≤ t) (t1 : t ≤ 1250) (h1 : 2 ≤ g 16 c → (g 17 c = -1 ∨ 364 < t - g 17 c) → Q 1 g) (h0 : ¬ (2 ≤ g 16 c ∧ (g 17 c = -1 ∨ 364 < t - g 17 c)) → Q 0 g) : wp_X0_canBeUsed c t Q g := by
  unfold wp_X0_canBeUsed
  exact ⟨by omega, rs, fun h => ⟨(by unfold jv_r; omega), fun h9 => absurd rfl h9, fun _ => h0 (by omega)⟩, fun h => ⟨(by unfold jv_r; omega), fun _ => ⟨by omega, (by unfold jv_r; omega), fun hu => h1 h (Or.inl hu), fun hu => ⟨by omega, (by unfold jv_r; omega), fun hd => h0 (by omega), fun hd => h1 h (Or.inr hd)⟩⟩, fun h9 => by omega⟩⟩
theorem u_isChosenAhead {c e : Int} {Q : Int → jv_Mem → Prop} {g : jv_Mem} (e0 : 0 ≤ e) (e1 : e < 6) (rc : jv_r c) (hch : ∀ k, 0 ≤ k → k < e → jv_r (g 18 k)) (h1 : ¬ iv_fr (g 18) e c → Q 1 g) (h0 : iv_fr (g 18) e c → Q 0 g) : wp_X0_isChosenAhead c e Q g := by
  unfold wp_X0_isChosenAhead
  refine ⟨fun n x gl => gl = g ∧ 0 ≤ x ∧ x ≤ e ∧ iv_fr (g 18) x c ∧ n = (e - x).toNat, ⟨_, rfl, by omega, e0, fun k k0 k1 => by omega, rfl⟩, ?_⟩
  rintro n x gl ⟨rfl, a0, a1, a2, a3⟩
  refine ⟨⟨(by unfold jv_r; omega), (by unfold jv_r; omega)⟩, fun h => ?_, fun h => ⟨by omega, ⟨hch x a0 h, rc⟩, fun hne => ?_, fun he => h1 (fun hf => hf x a0 h he)⟩⟩
  · have ex : x = e := by omega
    rw [ex] at a2
    exact h0 a2
  · intro v ev
    refine ⟨(e - v).toNat, by omega, rfl, by omega, by omega, fun k k0 k1 => ?_, rfl⟩
    by_cases q : k = x
    · rw [q]; exact hne
    · exact a2 k k0 (by omega)
theorem u_choose {e w t : Int} {Q : Int → jv_Mem → Prop} {g : jv_Mem} (h4 : iJ4 g) (e0 : 0 ≤ e) (e1 : e < 6) (hw : jv_r w) (t0 : 0 ≤ t) (t1 : t ≤ 1250) (hch : ∀ k, 0 ≤ k → k < e → jv_r (g 18 k)) (hQ : ∀ f, iv_cf (g 134) (g 135) (g 136) (g 18) e w t (g 14 4) f → Q (if f = -1 then 0 else 1) (jv_up g 18 e f)) : wp_X0_choose e w t Q g := by
  obtain ⟨m1, m2, m3, m4, m5⟩ := h4
  unfold wp_X0_choose
  refine ⟨fun n x4 x5 gl => gl = g ∧ 0 ≤ x5 ∧ x5 ≤ g 14 4 ∧ iv_cf (g 134) (g 135) (g 136) (g 18) e w t x5 x4 ∧ n = (g 14 4 - x5).toNat, ⟨_, rfl, by omega, m2, iv_cf_z, rfl⟩, ?_⟩
  rintro n x4 x5 gl ⟨rfl, a0, a1, a2, a3⟩
  have hx := iv_cf_r a0 a2
  refine ⟨⟨(by unfold jv_r; omega), (by unfold jv_r; omega)⟩, fun h => ⟨by omega, ?_⟩, fun h => ?_⟩
  · rintro g9 rfl
    have e5 : x5 = gl 14 4 := by omega
    rw [e5] at a2
    have hq := hQ x4 a2
    refine ⟨(by unfold jv_r; omega), fun h9 => ?_, fun h9 => ?_⟩
    · rw [if_pos h9] at hq; exact hq
    · rw [if_neg h9] at hq; exact hq
  · have c4 := m4 x5 a0 h
    have c5 := m5 x5 a0 (by omega)
    have fin : ∀ f, iv_cf (gl 134) (gl 135) (gl 136) (gl 18) e w t (x5 + 1) f → ∃ n', n' < n ∧ gl = gl ∧ 0 ≤ x5 + 1 ∧ x5 + 1 ≤ gl 14 4 ∧ iv_cf (gl 134) (gl 135) (gl 136) (gl 18) e w t (x5 + 1) f ∧ n' = (gl 14 4 - (x5 + 1)).toNat := fun f hf => ⟨(gl 14 4 - (x5 + 1)).toNat, by omega, rfl, by omega, by omega, hf, rfl⟩
    have no : ∀ K : Int → Int → jv_Mem → Prop, K x4 (x5 + 1) gl → wB_X0_choose_50 K x4 x5 gl := fun K hk => ⟨(by unfold jv_r; omega), fun _ v ev => by rw [ev]; exact hk, fun h9 => absurd rfl h9⟩
    refine ⟨by omega, ⟨(by unfold jv_r; omega), hw⟩, fun hne => ?_, fun he => ?_⟩
    · exact no _ (fin x4 (iv_cf_no a2 (fun hc => hne (by rw [c4.1]; exact hc.1))))
    · refine u_canBeUsed a0 (by omega) (by unfold jv_r; omega) (by omega) t0 t1 (fun hr hu => ⟨(by unfold jv_r; omega), fun h9 => by omega, fun _ => ?_⟩) (fun hno => ⟨(by unfold jv_r; omega), fun _ => ?_, fun h9 => absurd rfl h9⟩)
      · refine u_isChosenAhead e0 e1 (by unfold jv_r; omega) hch (fun hk => ⟨(by unfold jv_r; omega), fun _ => ?_, fun h9 => by omega⟩) (fun hk => ⟨(by unfold jv_r; omega), fun h9 => absurd rfl h9, fun _ => ?_⟩)
        · exact no _ (fin x4 (iv_cf_no a2 (fun hc => hk hc.2.2.2)))
        · have hc : iv_cn (gl 134) (gl 135) (gl 136) (gl 18) e w t x5 := ⟨by rw [← c4.1]; exact he, by omega, by omega, hk⟩
          refine ⟨(by unfold jv_r; omega), fun h9 => by omega, fun _ => ⟨(by unfold jv_r; omega), fun hb v ev => ?_, fun hb => ?_⟩⟩
          · rw [ev]; exact fin x5 (iv_cf_yes a0 a2 hc (Or.inl hb))
          · have c4' := m4 x4 (by omega) (by omega)
            have c5' := m5 x4 (by omega) (by omega)
            refine ⟨by omega, by omega, ⟨(by unfold jv_r; omega), (by unfold jv_r; omega)⟩, fun hl v ev => ?_, fun hl v ev => ?_⟩
            · rw [ev]; exact fin x4 (iv_cf_old a0 a2 hb (by omega))
            · rw [ev]; exact fin x5 (iv_cf_yes a0 a2 hc (Or.inr (by omega)))
      · exact no _ (fin x4 (iv_cf_no a2 (fun hc => hno (by obtain ⟨q1, q2, q3, q4⟩ := hc; omega))))
/-- the word of an entry, the words of the rows given -/
def iv_wd (lc bl rows : Int → Int) (e : Int) : Int := if e < 3 then rows e else bl (iv_col lc (rows 0) (rows 1) (rows 2) (e - 3)) - 1
theorem iv_wd_congr {lc bl rows rows' : Int → Int} {e : Int} (e0 : 0 ≤ e) (h0 : rows' 0 = rows 0) (h1 : rows' 1 = rows 1) (h2 : rows' 2 = rows 2) : iv_wd lc bl rows' e = iv_wd lc bl rows e := by
  unfold iv_wd
  rw [h0, h1, h2]
  by_cases h : e < 3
  · rw [if_pos h, if_pos h]
    have hx : e = 0 ∨ e = 1 ∨ e = 2 := by omega
    rcases hx with q | q | q
    · rw [q]; exact h0
    · rw [q]; exact h1
    · rw [q]; exact h2
  · rw [if_neg h, if_neg h]
theorem iv_wd_r {g : jv_Mem} (h2 : iJ2 g) {rows : Int → Int} (hr : ∀ x, 0 ≤ x → x < 3 → 0 ≤ rows x ∧ rows x < g 3 6) {e : Int} (e0 : 0 ≤ e) : -1 ≤ iv_wd (g 129) (g 128) rows e ∧ iv_wd (g 129) (g 128) rows e ≤ 30 := by
  obtain ⟨m1, m2, m3, hw, hb, hcc, ho, hs, hj⟩ := h2
  unfold iv_wd
  by_cases h : e < 3
  · rw [if_pos h]
    have := hr e e0 h
    omega
  · rw [if_neg h]
    have r0 := hr 0 (by omega) (by omega)
    have r1 := hr 1 (by omega) (by omega)
    have r2 := hr 2 (by omega) (by omega)
    have w0 := hw _ r0.1 r0.2
    have w1 := hw _ r1.1 r1.2
    have w2 := hw _ r2.1 r2.2
    have hcr := @iv_col_r (g 129) (rows 0) (rows 1) (rows 2) (e - 3) ⟨w0.1, w0.2.1⟩ ⟨w1.1, w1.2.1⟩ ⟨w2.1, w2.2.1⟩
    have hbb := hb _ hcr.1 hcr.2
    omega
theorem u_bestWord {e : Int} {Q : Int → jv_Mem → Prop} {g : jv_Mem} (h2 : iJ2 g) (e0 : 0 ≤ e) (e1 : e < 6) (hr : ∀ x, 0 ≤ x → x < 3 → 0 ≤ g 13 x ∧ g 13 x < g 3 6) (hQ : Q (iv_wd (g 129) (g 128) (g 13) e) g) : wp_X6_bestWord e Q g := by
  have r0 := hr 0 (by omega) (by omega)
  have r1 := hr 1 (by omega) (by omega)
  have r2 := hr 2 (by omega) (by omega)
  unfold iv_wd at hQ
  unfold wp_X6_bestWord
  refine ⟨(by unfold jv_r; omega), fun h => ?_, fun h => ⟨by omega, ?_⟩⟩
  · rw [if_neg (by omega)] at hQ
    refine u_columnCode h2 (by omega) (by omega) (by omega) (by omega) (fun x x0 x1 => hr x x0 x1) ?_
    have e3 : (3 : Int).toNat = 3 := rfl
    rw [e3, iv_pc_v.2.2]
    exact u_wordOrNone h2 r0 r1 r2 hQ
  · rw [if_pos h] at hQ; exact hQ

