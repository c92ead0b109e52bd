theorem iv_F_r {fr lc bl wr od : Int → Int} {n : Int} (n0 : 0 ≤ n) (n1 : n ≤ 30) (ho : ∀ i, 0 ≤ i → i < n → 0 ≤ od i ∧ od i < n) (hw : ∀ a b c, 0 ≤ a → a < n → 0 ≤ b → b < n → 0 ≤ c → c < n → iv_val fr lc bl a b c = 1 → 0 ≤ iv_wgt lc bl wr a b c ∧ iv_wgt lc bl wr a b c ≤ 594) :
    0 ≤ (iv_F fr lc bl wr od n.toNat).1 ∧ (iv_F fr lc bl wr od n.toNat).1 ≤ 27000 ∧ -1 ≤ (iv_F fr lc bl wr od n.toNat).2.1 ∧ (iv_F fr lc bl wr od n.toNat).2.1 ≤ 594 ∧ ((iv_F fr lc bl wr od n.toNat).2.1 ≠ -1 → (0 ≤ (iv_F fr lc bl wr od n.toNat).2.2.1 ∧ (iv_F fr lc bl wr od n.toNat).2.2.1 < n) ∧ (0 ≤ (iv_F fr lc bl wr od n.toNat).2.2.2.1 ∧ (iv_F fr lc bl wr od n.toNat).2.2.2.1 < n) ∧ (0 ≤ (iv_F fr lc bl wr od n.toNat).2.2.2.2 ∧ (iv_F fr lc bl wr od n.toNat).2.2.2.2 < n) ∧ iv_val fr lc bl (iv_F fr lc bl wr od n.toNat).2.2.1 (iv_F fr lc bl wr od n.toNat).2.2.2.1 (iv_F fr lc bl wr od n.toNat).2.2.2.2 = 1) := by
  let P : Int → iv_S → Prop := fun b s => 0 ≤ s.1 ∧ s.1 ≤ b ∧ -1 ≤ s.2.1 ∧ s.2.1 ≤ 594 ∧ (s.2.1 ≠ -1 → (0 ≤ s.2.2.1 ∧ s.2.2.1 < n) ∧ (0 ≤ s.2.2.2.1 ∧ s.2.2.2.1 < n) ∧ (0 ≤ s.2.2.2.2 ∧ s.2.2.2.2 < n) ∧ iv_val fr lc bl s.2.2.1 s.2.2.2.1 s.2.2.2.2 = 1)
  have en : ((n.toNat : Nat) : Int) = n := by omega
  have mono : ∀ (b b' : Int) (s : iv_S), b ≤ b' → P b s → P b' s := fun b b' s h hp => ⟨hp.1, by have := hp.2.1; omega, hp.2.2⟩
  have h3 : ∀ k j i, 0 ≤ k → k < n → 0 ≤ j → j < n → 0 ≤ i → i < n → ∀ b s, P b s → P (b + 1) (iv_g3 fr lc bl wr od k j i s) := by
    intro k j i k0 k1 j0 j1 i0 i1 b s hp
    obtain ⟨p1, p2, p3, p4, p5⟩ := hp
    unfold iv_g3 iv_keep
    by_cases hv : iv_val fr lc bl (od k) (od j) (od i) = 1
    · rw [if_pos hv]
      have hww := hw _ _ _ (ho k k0 k1).1 (ho k k0 k1).2 (ho j j0 j1).1 (ho j j0 j1).2 (ho i i0 i1).1 (ho i i0 i1).2 hv
      by_cases hlt : s.2.1 < iv_wgt lc bl wr (od k) (od j) (od i)
      · rw [if_pos hlt]
        refine ⟨by show 0 ≤ s.1 + 1; omega, by show s.1 + 1 ≤ b + 1; omega, by show -1 ≤ iv_wgt lc bl wr (od k) (od j) (od i); omega, hww.2, fun _ => ⟨ho k k0 k1, ho j j0 j1, ho i i0 i1, hv⟩⟩
      · rw [if_neg hlt]
        exact ⟨by show 0 ≤ s.1 + 1; omega, by show s.1 + 1 ≤ b + 1; omega, p3, p4, p5⟩
    · rw [if_neg hv]
      exact ⟨p1, by omega, p3, p4, p5⟩
  have h2 : ∀ k j, 0 ≤ k → k < n → 0 ≤ j → j < n → ∀ b s, P b s → P (b + 30) (iv_g2 fr lc bl wr od n.toNat k j s) := by
    intro k j k0 k1 j0 j1 b s hp
    have := @iv_fold_inv (iv_g3 fr lc bl wr od k j) (fun i s => P (b + i) s) n.toNat s (by rw [Int.add_zero]; exact hp) (fun i i0 i1 s hs => by have := h3 k j i k0 k1 j0 j1 i0 (by omega) (b + i) s hs; rw [Int.add_assoc] at this; exact this)
    exact mono _ _ _ (by omega) this
  have h1 : ∀ k, 0 ≤ k → k < n → ∀ b s, P b s → P (b + 900) (iv_g1 fr lc bl wr od n.toNat k s) := by
    intro k k0 k1 b s hp
    have := @iv_fold_inv (iv_g2 fr lc bl wr od n.toNat k) (fun j s => P (b + 30 * j) s) n.toNat s (by rw [Int.mul_zero, Int.add_zero]; exact hp) (fun j j0 j1 s hs => by have := h2 k j k0 k1 j0 (by omega) (b + 30 * j) s hs; exact mono _ _ _ (by omega) this)
    exact mono _ _ _ (by omega) this
  have h0 : P 27000 (iv_F fr lc bl wr od n.toNat) := by
    have := @iv_fold_inv (iv_g1 fr lc bl wr od n.toNat) (fun k s => P (900 * k) s) n.toNat (0, -1, 0, 0, 0) ⟨by decide, by decide, by decide, by decide, fun h => absurd rfl h⟩ (fun k k0 k1 s hs => by have := h1 k k0 (by omega) (900 * k) s hs; exact mono _ _ _ (by omega) this)
    exact mono _ _ _ (by omega) this
  exact h0
def iv_RM (s : iv_S) (gl : jv_Mem) : Prop := gl 126 8 = s.1 ∧ gl 126 9 = s.2.1 ∧ (s.2.1 ≠ -1 → gl 133 0 = s.2.2.1 ∧ gl 133 1 = s.2.2.2.1 ∧ gl 133 2 = s.2.2.2.2) ∧ -1 ≤ gl 126 9 ∧ gl 126 9 ≤ 594
theorem iv_wgt_r {g : jv_Mem} (h2 : iJ2 g) {a b c : Int} (a0 : 0 ≤ a) (a1 : a < g 3 6) (b0 : 0 ≤ b) (b1 : b < g 3 6) (c0 : 0 ≤ c) (c1 : c < g 3 6) (hv : ∀ k, 0 ≤ k → k < 3 → g 128 (iv_col (g 129) a b c k) ≠ 0) : 0 ≤ iv_wgt (g 129) (g 128) (g 130) a b c ∧ iv_wgt (g 129) (g 128) (g 130) a b c ≤ 594 := by
  obtain ⟨m1, m2, m3, hw, hb, -, -, -, -⟩ := h2
  have wa := hw a a0 a1
  have wb := hw b b0 b1
  have wc := hw c c0 c1
  have hk : ∀ k, 0 ≤ k → k < 3 → 0 ≤ g 130 (g 128 (iv_col (g 129) a b c k) - 1) ∧ g 130 (g 128 (iv_col (g 129) a b c k) - 1) ≤ 99 := fun k k0 k1 => by
    have hr := @iv_col_r (g 129) a b c k ⟨wa.1, wa.2.1⟩ ⟨wb.1, wb.2.1⟩ ⟨wc.1, wc.2.1⟩
    have h9 := hb _ hr.1 hr.2
    have h10 := hv k k0 k1
    have := hw (g 128 (iv_col (g 129) a b c k) - 1) (by omega) (by omega)
    omega
  have h0 := hk 0 (by omega) (by omega)
  have h1 := hk 1 (by omega) (by omega)
  have h2 := hk 2 (by omega) (by omega)
  unfold iv_wgt
  omega
theorem iv_F_rJ {g : jv_Mem} (h2 : iJ2 g) (fr : Int → Int) :
    0 ≤ (iv_F fr (g 129) (g 128) (g 130) (g 7) (g 3 6).toNat).1 ∧ (iv_F fr (g 129) (g 128) (g 130) (g 7) (g 3 6).toNat).1 ≤ 27000 ∧ -1 ≤ (iv_F fr (g 129) (g 128) (g 130) (g 7) (g 3 6).toNat).2.1 ∧ (iv_F fr (g 129) (g 128) (g 130) (g 7) (g 3 6).toNat).2.1 ≤ 594 ∧ ((iv_F fr (g 129) (g 128) (g 130) (g 7) (g 3 6).toNat).2.1 ≠ -1 → (0 ≤ (iv_F fr (g 129) (g 128) (g 130) (g 7) (g 3 6).toNat).2.2.1 ∧ (iv_F fr (g 129) (g 128) (g 130) (g 7) (g 3 6).toNat).2.2.1 < g 3 6) ∧ (0 ≤ (iv_F fr (g 129) (g 128) (g 130) (g 7) (g 3 6).toNat).2.2.2.1 ∧ (iv_F fr (g 129) (g 128) (g 130) (g 7) (g 3 6).toNat).2.2.2.1 < g 3 6) ∧ (0 ≤ (iv_F fr (g 129) (g 128) (g 130) (g 7) (g 3 6).toNat).2.2.2.2 ∧ (iv_F fr (g 129) (g 128) (g 130) (g 7) (g 3 6).toNat).2.2.2.2 < g 3 6) ∧ iv_val fr (g 129) (g 128) (iv_F fr (g 129) (g 128) (g 130) (g 7) (g 3 6).toNat).2.2.1 (iv_F fr (g 129) (g 128) (g 130) (g 7) (g 3 6).toNat).2.2.2.1 (iv_F fr (g 129) (g 128) (g 130) (g 7) (g 3 6).toNat).2.2.2.2 = 1) :=
  iv_F_r h2.2.1 h2.2.2.1 (fun i i0 i1 => h2.2.2.2.2.2.2.1 i i0 i1) (fun a b c a0 a1 b0 b1 c0 c1 hv => iv_wgt_r h2 a0 a1 b0 b1 c0 c1 (iv_val_yes hv).2.2.2)
