theorem u_weightIfFill {Q : Int → jv_Mem → Prop} {g : jv_Mem} (h2 : iJ2 g) (h3 : iJ3 g) (hr : ∀ x, 0 ≤ x → x < 3 → 0 ≤ g 12 x ∧ g 12 x < g 3 6) (hY : iv_val (g 132) (g 129) (g 128) (g 12 0) (g 12 1) (g 12 2) = 1 → Q (iv_wgt (g 129) (g 128) (g 130) (g 12 0) (g 12 1) (g 12 2)) g) (hN : iv_val (g 132) (g 129) (g 128) (g 12 0) (g 12 1) (g 12 2) ≠ 1 → Q (-1) g) : wp_X6_weightIfFill Q g := by
  have r0 := hr 0 (by omega) (by omega)
  have r1 := hr 1 (by omega) (by omega)
  have r2 := hr 2 (by omega) (by omega)
  have wa := h2.2.2.2.1 _ r0.1 r0.2
  have wb := h2.2.2.2.1 _ r1.1 r1.2
  have wc := h2.2.2.2.1 _ r2.1 r2.2
  have hb := h2.2.2.2.2.1
  have hm := h2.2.2.1
  unfold wp_X6_weightIfFill
  refine ⟨fun n x2 gl => gl = g ∧ 0 ≤ x2 ∧ x2 ≤ 3 ∧ (∀ k, 0 ≤ k → k < x2 → iv_fk (g 132) (g 129) k (g 12 k) 3 = 1) ∧ n = (3 - x2).toNat, ⟨_, rfl, by omega, by omega, fun k k0 k1 => by omega, rfl⟩, ?_⟩
  rintro n x2 gl ⟨rfl, a0, a1, a2, a3⟩
  refine ⟨(by unfold jv_r; omega), fun h => ?_, fun h => ?_⟩
  · have e : x2 = 3 := by omega
    rw [e] at a2
    refine ⟨fun m x3 gm => gm = gl ∧ 0 ≤ x3 ∧ x3 ≤ 3 ∧ (∀ k, 0 ≤ k → k < x3 → gl 128 (iv_col (gl 129) (gl 12 0) (gl 12 1) (gl 12 2) k) ≠ 0) ∧ m = (3 - x3).toNat, ⟨_, rfl, by omega, by omega, fun k k0 k1 => by omega, rfl⟩, ?_⟩
    rintro m x3 gm ⟨rfl, b0, b1, b2, b3⟩
    refine ⟨(by unfold jv_r; omega), fun h' => ?_, fun h' => ?_⟩
    · have e3 : x3 = 3 := by omega
      rw [e3] at b2
      have hv := iv_val_mk (a2 0 (by omega) (by omega)) (a2 1 (by omega) (by omega)) (a2 2 (by omega) (by omega)) b2
      exact u_weightOfSquare h2 hr b2 (hY hv)
    · refine u_columnCode h2 b0 h' (by omega) (by omega) (fun x x0 x1 => hr x x0 x1) ?_
      have e3 : (3 : Int).toNat = 3 := rfl
      rw [e3, iv_pc_v.2.2]
      have hcr := @iv_col_r (gm 129) (gm 12 0) (gm 12 1) (gm 12 2) x3 ⟨wa.1, wa.2.1⟩ ⟨wb.1, wb.2.1⟩ ⟨wc.1, wc.2.1⟩
      have hbb := hb _ hcr.1 hcr.2
      refine u_wordOrNone h2 r0 r1 r2 ?_
      refine ⟨(by unfold jv_r; omega), fun hne => ?_, fun he => hN (iv_val_noc b0 h' (by omega))⟩
      intro v ev
      refine ⟨(3 - v).toNat, by omega, rfl, by omega, by omega, fun k k0 k1 => ?_, rfl⟩
      by_cases e : k = x3
      · rw [e]; omega
      · exact b2 k k0 (by omega)
  · have hx := hr x2 a0 h
    refine u_agrees h2 h3 a0 h hx.1 hx.2 ?_
    have h01 := @iv_fk_01 (gl 132) (gl 129) x2 (gl 12 x2) 3
    refine ⟨(by unfold jv_r; omega), fun hne => ?_, fun he => hN ?_⟩
    · intro v ev
      refine ⟨(3 - v).toNat, by omega, rfl, by omega, by omega, fun k k0 k1 => ?_, rfl⟩
      by_cases e : k = x2
      · rw [e]; omega
      · exact a2 k k0 (by omega)
    · have hxx : x2 = 0 ∨ x2 = 1 ∨ x2 = 2 := by omega
      rcases hxx with e | e | e
      · rw [e] at he; exact iv_val_no1 (by omega)
      · rw [e] at he; exact iv_val_no2 (by omega)
      · rw [e] at he; exact iv_val_no3 (by omega)
def iv_lex (x y z a b c : Int) : Prop := a < x ∨ (a = x ∧ (b < y ∨ (b = y ∧ c < z)))
def iv_mx (g : jv_Mem) (G : Int) (T : Int → Int → Int → Prop) : Prop := -1 ≤ G ∧ G ≤ 594 ∧ (G = -1 ∨ ∃ a b c, (0 ≤ a ∧ a < g 3 6) ∧ (0 ≤ b ∧ b < g 3 6) ∧ (0 ≤ c ∧ c < g 3 6) ∧ iv_val (g 132) (g 129) (g 128) a b c = 1 ∧ iv_wgt (g 129) (g 128) (g 130) a b c = G) ∧
  ∀ a b c, (0 ≤ a ∧ a < g 3 6) → (0 ≤ b ∧ b < g 3 6) → (0 ≤ c ∧ c < g 3 6) → T a b c → iv_val (g 132) (g 129) (g 128) a b c = 1 → iv_wgt (g 129) (g 128) (g 130) a b c ≤ G
theorem iv_mx.mono {g : jv_Mem} {G : Int} {T T' : Int → Int → Int → Prop} (h : iv_mx g G T) (ht : ∀ a b c, (0 ≤ a ∧ a < g 3 6) → (0 ≤ b ∧ b < g 3 6) → (0 ≤ c ∧ c < g 3 6) → T' a b c → T a b c) : iv_mx g G T' := ⟨h.1, h.2.1, h.2.2.1, fun a b c ha hb hc hT hv => h.2.2.2 a b c ha hb hc (ht a b c ha hb hc hT) hv⟩
theorem u_greatest {Q : Int → jv_Mem → Prop} {g : jv_Mem} (h2 : iJ2 g) (h3 : iJ3 g) (hQ : ∀ (G : Int) (g' : jv_Mem), (∀ i, i ≠ 12 → g' i = g i) → iv_mx g G (fun _ _ _ => True) → Q G g') : wp_X6_greatestWeightOfAll Q g := by
  have hm := h2.2.2.1
  have hm0 := h2.2.1
  let n := g 3 6
  let FR : jv_Mem → Prop := fun gl => ∀ i, i ≠ 12 → gl i = g i
  have fj2 : ∀ gl, FR gl → iJ2 gl := fun gl hf => h2.fr (fun i k q => by unfold f2 at q; rw [hf i (by omega)])
  have fj3 : ∀ gl, FR gl → iJ3 gl := fun gl hf => h3.fr (fun i k q => by unfold f3 at q; rw [hf i (by omega)])
  have r3 : ∀ gl, FR gl → gl 3 = g 3 := fun gl hf => hf 3 (by omega)
  unfold wp_X6_greatestWeightOfAll
  refine ⟨fun m G x3 gl => 0 ≤ x3 ∧ x3 ≤ n ∧ FR gl ∧ iv_mx g G (iv_lex x3 0 0) ∧ m = (n - x3).toNat, ⟨_, by omega, hm0, fun _ _ => rfl, ⟨by omega, by omega, Or.inl rfl, fun a b c ha hb hc hT hv => by unfold iv_lex at hT; omega⟩, rfl⟩, ?_⟩
  rintro m G1 x3 gl ⟨a0, a1, a2, a3, a4⟩
  unfold wp_X7_count
  rw [r3 gl a2]
  refine ⟨⟨(by unfold jv_r; omega), (by unfold jv_r; omega)⟩, fun h => ?_, fun h => ?_⟩
  · exact hQ G1 gl a2 (a3.mono (fun a b c ha hb hc _ => Or.inl (by omega)))
  · refine ⟨fun m2 G x4 gm => 0 ≤ x4 ∧ x4 ≤ n ∧ FR gm ∧ iv_mx g G (iv_lex x3 x4 0) ∧ m2 = (n - x4).toNat, ⟨_, by omega, hm0, a2, a3, rfl⟩, ?_⟩
    rintro m2 G2 x4 gm ⟨b0, b1, b2, b3, b4⟩
    rw [r3 gm b2]
    refine ⟨⟨(by unfold jv_r; omega), (by unfold jv_r; omega)⟩, fun h' => ?_, fun h' => ?_⟩
    · intro v ev
      refine ⟨(n - v).toNat, by omega, by omega, by omega, b2, b3.mono (fun a b c ha hb hc hT => ?_), rfl⟩
      unfold iv_lex at hT ⊢; omega
    · refine ⟨fun m3 G x5 gn => 0 ≤ x5 ∧ x5 ≤ n ∧ FR gn ∧ iv_mx g G (iv_lex x3 x4 x5) ∧ m3 = (n - x5).toNat, ⟨_, by omega, hm0, b2, b3, rfl⟩, ?_⟩
      rintro m3 G3 x5 gn ⟨c0, c1, c2, c3, c4⟩
      rw [r3 gn c2]
      refine ⟨⟨(by unfold jv_r; omega), (by unfold jv_r; omega)⟩, fun h'' => ?_, fun h'' => ⟨by omega, ?_⟩⟩
      · intro v ev
        refine ⟨(n - v).toNat, by omega, by omega, by omega, c2, c3.mono (fun a b c ha hb hc hT => ?_), rfl⟩
        unfold iv_lex at hT ⊢; omega
      · rintro g1 e1
        refine ⟨by omega, ?_⟩
        rintro g2 e2
        refine ⟨by omega, ?_⟩
        rintro g4 e4
        have fg : FR g4 := fun i p => by rw [e4, jv_up_row p, e2, jv_up_row p, e1, jv_up_row p]; exact c2 i p
        have q0 : g4 12 0 = x3 := by rw [e4, jv_up_n (by omega), e2, jv_up_n (by omega), e1, jv_up_e rfl rfl]
        have q1 : g4 12 1 = x4 := by rw [e4, jv_up_n (by omega), e2, jv_up_e rfl rfl]
        have q2 : g4 12 2 = x5 := by rw [e4, jv_up_e rfl rfl]
        have fin : ∀ r : Int, (iv_val (g 132) (g 129) (g 128) x3 x4 x5 = 1 → r = iv_wgt (g 129) (g 128) (g 130) x3 x4 x5) → (iv_val (g 132) (g 129) (g 128) x3 x4 x5 ≠ 1 → r = -1) → ((jv_r G3 ∧ jv_r r) ∧ (∀ v2_68 : Int, v2_68 = (if G3 < r then r else G3) → (∀ v5_69 : Int, v5_69 = x5 + 1 → ∃ n', n' < m3 ∧ 0 ≤ v5_69 ∧ v5_69 ≤ n ∧ FR g4 ∧ iv_mx g v2_68 (iv_lex x3 x4 v5_69) ∧ n' = (n - v5_69).toNat))) := by
          intro r hr1 hr2
          have hrr : -1 ≤ r ∧ r ≤ 594 := by
            by_cases hv : iv_val (g 132) (g 129) (g 128) x3 x4 x5 = 1
            · have := iv_wgt_r h2 a0 h b0 h' c0 h'' (iv_val_yes hv).2.2.2
              rw [hr1 hv]; omega
            · rw [hr2 hv]; omega
          obtain ⟨y1, y2, y3, y4⟩ := c3
          have u0 : jv_r G3 ∧ jv_r r := by clear y3; unfold jv_r; omega
          refine ⟨u0, ?_⟩
          intro v2 ev2 v5 ev5
          have u1 : (n - v5).toNat < m3 ∧ 0 ≤ v5 ∧ v5 ≤ n := by clear y3; omega
          refine ⟨(n - v5).toNat, u1.1, u1.2.1, u1.2.2, fg, ?_, rfl⟩
          by_cases hlt : G3 < r
          · rw [if_pos hlt] at ev2
            have hv : iv_val (g 132) (g 129) (g 128) x3 x4 x5 = 1 := by
              by_cases hv : iv_val (g 132) (g 129) (g 128) x3 x4 x5 = 1
              · exact hv
              · have := hr2 hv
                clear y3 y4
                omega
            rw [ev2]
            refine ⟨hrr.1, hrr.2, Or.inr ⟨x3, x4, x5, ⟨a0, h⟩, ⟨b0, h'⟩, ⟨c0, h''⟩, hv, (hr1 hv).symm⟩, fun a b c ha hb hc hT hv2 => ?_⟩
            by_cases hl : iv_lex x3 x4 x5 a b c
            · have := y4 a b c ha hb hc hl hv2; omega
            · have e : a = x3 ∧ b = x4 ∧ c = x5 := by unfold iv_lex at hT hl; omega
              rw [e.1, e.2.1, e.2.2, ← hr1 hv]; omega
          · rw [if_neg hlt] at ev2
            rw [ev2]
            refine ⟨y1, y2, y3, fun a b c ha hb hc hT hv2 => ?_⟩
            by_cases hl : iv_lex x3 x4 x5 a b c
            · exact y4 a b c ha hb hc hl hv2
            · have e : a = x3 ∧ b = x4 ∧ c = x5 := by unfold iv_lex at hT hl; omega
              rw [e.1, e.2.1, e.2.2] at hv2 ⊢
              rw [← hr1 hv2]; omega
        refine u_weightIfFill (fj2 g4 fg) (fj3 g4 fg) (fun x x0 x1 => ?_) ?_ ?_
        · rw [r3 g4 fg]
          have e : x = 0 ∨ x = 1 ∨ x = 2 := by omega
          rcases e with e | e | e
          · rw [e, q0]; exact ⟨a0, h⟩
          · rw [e, q1]; exact ⟨b0, h'⟩
          · rw [e, q2]; exact ⟨c0, h''⟩
        · rw [fg 132 (by omega), fg 129 (by omega), fg 128 (by omega), fg 130 (by omega), q0, q1, q2]
          intro hv
          exact fin _ (fun _ => rfl) (fun h9 => absurd hv h9)
        · rw [fg 132 (by omega), fg 129 (by omega), fg 128 (by omega), q0, q1, q2]
          intro hv
          exact fin _ (fun h9 => absurd h9 hv) (fun _ => rfl)
theorem iv_F_mx {g : jv_Mem} (h2 : iJ2 g) : iv_mx g (iv_F (g 132) (g 129) (g 128) (g 130) (g 7) (g 3 6).toNat).2.1 (fun _ _ _ => True) := by
  obtain ⟨m1, m2, m3, hw, hb, hcc, ho, hs, hj⟩ := id h2
  let n := g 3 6
  let P : Int → Int → Int → iv_S → Prop := fun x y z s => -1 ≤ s.2.1 ∧ s.2.1 ≤ 594 ∧ (s.2.1 = -1 ∨ ∃ a b c, (0 ≤ a ∧ a < g 3 6) ∧ (0 ≤ b ∧ b < g 3 6) ∧ (0 ≤ c ∧ c < g 3 6) ∧ iv_val (g 132) (g 129) (g 128) a b c = 1 ∧ iv_wgt (g 129) (g 128) (g 130) a b c = s.2.1) ∧ ∀ a b c, (0 ≤ a ∧ a < n) → (0 ≤ b ∧ b < n) → (0 ≤ c ∧ c < n) → iv_lex x y z a b c → iv_val (g 132) (g 129) (g 128) (g 7 a) (g 7 b) (g 7 c) = 1 → iv_wgt (g 129) (g 128) (g 130) (g 7 a) (g 7 b) (g 7 c) ≤ s.2.1
  have mono : ∀ (x y z x' y' z' : Int) (s : iv_S), (∀ a b c, (0 ≤ a ∧ a < n) → (0 ≤ b ∧ b < n) → (0 ≤ c ∧ c < n) → iv_lex x' y' z' a b c → iv_lex x y z a b c) → P x y z s → P x' y' z' s := fun x y z x' y' z' s h hp => ⟨hp.1, hp.2.1, hp.2.2.1, fun a b c ha hb hc hl hv => hp.2.2.2 a b c ha hb hc (h a b c ha hb hc hl) hv⟩
  have h3 : ∀ k j i, 0 ≤ k → k < n → 0 ≤ j → j < n → 0 ≤ i → i < n → ∀ s, P k j i s → P k j (i + 1) (iv_g3 (g 132) (g 129) (g 128) (g 130) (g 7) k j i s) := by
    intro k j i k0 k1 j0 j1 i0 i1 s hp
    obtain ⟨p1, p2, p3, p4⟩ := hp
    have same : ∀ s' : iv_S, s'.2.1 = s.2.1 → (iv_val (g 132) (g 129) (g 128) (g 7 k) (g 7 j) (g 7 i) = 1 → iv_wgt (g 129) (g 128) (g 130) (g 7 k) (g 7 j) (g 7 i) ≤ s.2.1) → P k j (i + 1) s' := by
      intro s' es hh
      show -1 ≤ s'.2.1 ∧ s'.2.1 ≤ 594 ∧ (s'.2.1 = -1 ∨ ∃ a b c, (0 ≤ a ∧ a < g 3 6) ∧ (0 ≤ b ∧ b < g 3 6) ∧ (0 ≤ c ∧ c < g 3 6) ∧ iv_val (g 132) (g 129) (g 128) a b c = 1 ∧ iv_wgt (g 129) (g 128) (g 130) a b c = s'.2.1) ∧ ∀ a b c, (0 ≤ a ∧ a < n) → (0 ≤ b ∧ b < n) → (0 ≤ c ∧ c < n) → iv_lex k j (i + 1) a b c → iv_val (g 132) (g 129) (g 128) (g 7 a) (g 7 b) (g 7 c) = 1 → iv_wgt (g 129) (g 128) (g 130) (g 7 a) (g 7 b) (g 7 c) ≤ s'.2.1
      rw [es]
      refine ⟨p1, p2, p3, fun a b c ha hb hc hT hv2 => ?_⟩
      by_cases hl : iv_lex k j i a b c
      · exact p4 a b c ha hb hc hl hv2
      · have e : a = k ∧ b = j ∧ c = i := by unfold iv_lex at hT hl; omega
        rw [e.1, e.2.1, e.2.2] at hv2 ⊢
        exact hh hv2
    unfold iv_g3 iv_keep
    by_cases hv : iv_val (g 132) (g 129) (g 128) (g 7 k) (g 7 j) (g 7 i) = 1
    · rw [if_pos hv]
      by_cases hlt : s.2.1 < iv_wgt (g 129) (g 128) (g 130) (g 7 k) (g 7 j) (g 7 i)
      · rw [if_pos hlt]
        have oa := ho k k0 k1
        have ob := ho j j0 j1
        have oc := ho i i0 i1
        have hww := iv_wgt_r h2 oa.1 oa.2 ob.1 ob.2 oc.1 oc.2 (iv_val_yes hv).2.2.2
        refine ⟨by show -1 ≤ iv_wgt (g 129) (g 128) (g 130) (g 7 k) (g 7 j) (g 7 i); omega, hww.2, Or.inr ⟨_, _, _, oa, ob, oc, hv, rfl⟩, fun a b c ha hb hc hT hv2 => ?_⟩
        show _ ≤ iv_wgt (g 129) (g 128) (g 130) (g 7 k) (g 7 j) (g 7 i)
        by_cases hl : iv_lex k j i a b c
        · have := p4 a b c ha hb hc hl hv2; omega
        · have e : a = k ∧ b = j ∧ c = i := by unfold iv_lex at hT hl; omega
          rw [e.1, e.2.1, e.2.2]; exact Int.le_refl _
      · rw [if_neg hlt]
        exact same _ rfl (fun _ => by omega)
    · rw [if_neg hv]
      exact same s rfl (fun h9 => absurd h9 hv)
  have en : (((g 3 6).toNat : Nat) : Int) = n := by show _ = g 3 6; omega
  have h2' : ∀ k j, 0 ≤ k → k < n → 0 ≤ j → j < n → ∀ s, P k j 0 s → P k (j + 1) 0 (iv_g2 (g 132) (g 129) (g 128) (g 130) (g 7) (g 3 6).toNat k j s) := by
    intro k j k0 k1 j0 j1 s hp
    have := @iv_fold_inv (iv_g3 (g 132) (g 129) (g 128) (g 130) (g 7) k j) (fun i s => P k j i s) (g 3 6).toNat s hp (fun i i0 i1 s hs => h3 k j i k0 k1 j0 j1 i0 (by omega) s hs)
    exact mono _ _ _ _ _ _ _ (fun a b c ha hb hc hl => by unfold iv_lex at hl ⊢; omega) this
  have h1' : ∀ k, 0 ≤ k → k < n → ∀ s, P k 0 0 s → P (k + 1) 0 0 (iv_g1 (g 132) (g 129) (g 128) (g 130) (g 7) (g 3 6).toNat k s) := by
    intro k k0 k1 s hp
    have := @iv_fold_inv (iv_g2 (g 132) (g 129) (g 128) (g 130) (g 7) (g 3 6).toNat k) (fun j s => P k j 0 s) (g 3 6).toNat s hp (fun j j0 j1 s hs => h2' k j k0 k1 j0 (by omega) s hs)
    exact mono _ _ _ _ _ _ _ (fun a b c ha hb hc hl => by unfold iv_lex at hl ⊢; omega) this
  have h0' : P n 0 0 (iv_F (g 132) (g 129) (g 128) (g 130) (g 7) (g 3 6).toNat) := by
    have := @iv_fold_inv (iv_g1 (g 132) (g 129) (g 128) (g 130) (g 7) (g 3 6).toNat) (fun k s => P k 0 0 s) (g 3 6).toNat (0, -1, 0, 0, 0) ⟨by decide, by decide, Or.inl rfl, fun a b c ha hb hc hl hv => by unfold iv_lex at hl; omega⟩ (fun k k0 k1 s hs => h1' k k0 (by omega) s hs)
    exact mono _ _ _ _ _ _ _ (fun a b c ha hb hc hl => by unfold iv_lex at hl ⊢; omega) this
  obtain ⟨p1, p2, p3, p4⟩ := h0'
  refine ⟨p1, p2, p3, fun a b c ha hb hc _ hv => ?_⟩
  obtain ⟨i, i0, i1, hi⟩ := hj a ha.1 ha.2
  obtain ⟨j, j0, j1, hj'⟩ := hj b hb.1 hb.2
  obtain ⟨k, k0, k1, hk⟩ := hj c hc.1 hc.2
  have := p4 i j k ⟨i0, i1⟩ ⟨j0, j1⟩ ⟨k0, k1⟩ (Or.inl i1)
  rw [hi, hj', hk] at this
  exact this hv

