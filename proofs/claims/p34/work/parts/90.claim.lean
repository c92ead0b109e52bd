/-! the start -/
theorem iJ_gi : iJ 0 jv_gi := by
  have z : ∀ i k, i ≠ 9 → i ≠ 11 → jv_gi i k = 0 := fun i k h1 h2 => by
    unfold jv_gi
    rw [jv_fill_i h2, jv_fill_i h1]
    rfl
  have z9 : ∀ k, 0 ≤ k → k < 1458 → jv_gi 9 k = -1 := fun k h0 h1 => by
    unfold jv_gi
    rw [jv_fill_i (by omega), jv_fill_e rfl h0 h1]
  have z11 : ∀ k, 0 ≤ k → k < 9 → jv_gi 11 k = -1 := fun k h0 h1 => by
    unfold jv_gi
    rw [jv_fill_e rfl h0 h1]
  generalize jv_gi = g at z z9 z11 ⊢
  refine ⟨by omega, ?_, ?_, ?_, ?_, ?_, ?_, ?_, ?_⟩
  · unfold iJ1
    rw [z 126 1 (by omega) (by omega), z 1 1 (by omega) (by omega)]
    exact ⟨rfl, by omega, by omega, fun i h0 h1 => absurd h1 (by omega)⟩
  · unfold iJ2
    rw [z 126 2 (by omega) (by omega), z 3 6 (by omega) (by omega)]
    refine ⟨rfl, by omega, by omega, fun w h0 h1 => absurd h1 (by omega), fun c h0 h1 => Or.inl (z 128 c (by omega) (by omega)), fun c h0 h1 => ⟨?_, ?_⟩, fun w h0 h1 => absurd h1 (by omega), fun i j h0 h1 h2 => absurd h2 (by omega), fun w h0 h1 => absurd h1 (by omega)⟩
    · rw [z9 c h0 h1, z 128 _ (by omega) (by omega)]
      split <;> rfl
    · rw [z 8 c (by omega) (by omega)]
      rfl
  · intro c h0 h1
    rw [z 132 c (by omega) (by omega), z11 c h0 h1]
    omega
  · unfold iJ4
    rw [z 126 11 (by omega) (by omega), z 14 4 (by omega) (by omega)]
    refine ⟨rfl, by omega, by omega, fun w h0 h1 => absurd h1 (by omega), fun c h0 h1 => ?_⟩
    rw [z 16 c (by omega) (by omega), z 135 c (by omega) (by omega), z 136 c (by omega) (by omega)]
    omega
  · unfold iJ5
    rw [z 126 15 (by omega) (by omega), z 0 11 (by omega) (by omega)]
    omega
  · unfold iJ6
    rw [z 126 16 (by omega) (by omega), z 0 9 (by omega) (by omega)]
    refine ⟨rfl, by omega, by omega, fun w h0 h1 => absurd h1 (by omega), fun p h0 h1 => ?_⟩
    rw [z (30 + 3 * p) 3 (by omega) (by omega), z (30 + 3 * p) 4 (by omega) (by omega), z 140 p (by omega) (by omega)]
    exact ⟨rfl, by omega, by omega, fb_7.symm, fun _ => rfl⟩
  · unfold iJ7
    rw [z 126 22 (by omega) (by omega), z 0 10 (by omega) (by omega)]
    refine ⟨rfl, by omega, by omega, fun w h0 h1 => absurd h1 (by omega), fun s h0 h1 => ⟨fun p c p0 p1 c0 c1 => ?_, fun d d0 d1 => ?_, fun p p0 p1 => ?_, fun p c p0 p1 c0 c1 => ?_⟩⟩
    · rw [z 144 _ (by omega) (by omega)]; exact ⟨by omega, by omega, fun _ => rfl⟩
    · rw [z 147 _ (by omega) (by omega)]; exact ⟨Or.inl rfl, fun _ => rfl⟩
    · rw [z (90 + 6 * s + 5) p (by omega) (by omega), z 146 _ (by omega) (by omega)]; exact ⟨rfl, by omega, by omega⟩
    · rw [z (90 + 6 * s + 4) _ (by omega) (by omega), z 145 _ (by omega) (by omega)]
      refine ⟨by omega, by omega, ?_, fun _ => rfl⟩
      split <;> rfl
  · unfold iJ8
    rw [z 21 4 (by omega) (by omega), z 0 9 (by omega) (by omega), z 0 10 (by omega) (by omega)]
    refine ⟨by omega, by omega, by omega, fun e h0 h1 => absurd h1 (by omega), fun p h0 h1 => ?_, fun s h0 h1 => absurd h1 (by omega)⟩
    rw [z (30 + 3 * p) 4 (by omega) (by omega)]
    rfl
theorem whole_start {p : Program} {e : Env} {s : State} {m : MethodId} {below : List Frame} {meth : Method} {c : Code} (l : Launch) (hflags : l.flags = flags0) {b L : Nat} {xs : Nat → Int32} (hL : L ≤ 260) (C0 : lw_At p s m meth c b L xs) : W p l e room_1 s m #[Value.ref b] below meth c s.heap [] 0 0 (lw_Z below #[Value.ref b] s) (entryFrame m ([Value.ref b] : List Value).toArray 17) := by
  obtain ⟨hx, hb, hr, hml, hown, hts, hX, hbl, hlocks, hgv⟩ := id C0
  obtain ⟨D, ids, hK⟩ := jv_hK hts
  have hT : jv_T l s b := ⟨jv_trace hflags, hgv⟩
  have C : jv_C p s m #[Value.ref b] c code RL s b D ids := ⟨hx, hb, hown, ⟨hts, hK⟩, State.WarmedH.refl s, Nat.le_refl _, fun _ _ => rfl⟩
  rw [lg_entry_eq]
  exact jv_start C hml.symm (LT_8 (cb := 1000) (sb := 50000) hT C hml.symm hr hlocks hX hbl hL (by omega) (by omega) (fun nw nc np ns ii tu nn g h => law_turns hT C hml.symm hr hlocks hX hbl hL 60 1000 50000 (by omega) (by omega) nw nc np ns ii tu nn g h) (p_8 iJ_gi rfl rfl rfl rfl)) s.heap [] _ (fun i k hk => by cases hk) (fun n hn => by cases hn; rfl) va_S.rf (by rw [hml]; exact jv_L.entry [.ref b] (Nat.le_of_ble_eq_true rfl) (fun v hv => by rw [List.mem_singleton.mp hv]; rfl))
