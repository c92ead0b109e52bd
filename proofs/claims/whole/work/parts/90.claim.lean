def Iv_tmp : Int → jv_Mem → Prop := fun _ _ => True
theorem iv_tmp0 : Iv_tmp 0 jv_gi := trivial
theorem ct_0 {L : Nat} {xs : Nat → Int32} : ∀ (x4 : Int) (g : jv_Mem), 0 ≤ x4 → x4 + 4 < ((L : Nat) : Int) → Iv_tmp x4 g → wp_LC_0 xs L x4 (Iv_tmp (x4 + 5)) g := by sorry
theorem ct_1 {L : Nat} {xs : Nat → Int32} : ∀ (x4 : Int) (g : jv_Mem), 0 ≤ x4 → x4 + 4 < ((L : Nat) : Int) → Iv_tmp x4 g → wp_LC_1 xs L x4 (Iv_tmp (x4 + 5)) g := by sorry
theorem ct_2 {L : Nat} {xs : Nat → Int32} : ∀ (x4 : Int) (g : jv_Mem), 0 ≤ x4 → x4 + 4 < ((L : Nat) : Int) → Iv_tmp x4 g → wp_LC_2 xs L x4 (Iv_tmp (x4 + 5)) g := by sorry
theorem ct_3 {L : Nat} {xs : Nat → Int32} : ∀ (x4 : Int) (g : jv_Mem), 0 ≤ x4 → x4 + 4 < ((L : Nat) : Int) → Iv_tmp x4 g → wp_LC_3 xs L x4 (Iv_tmp (x4 + 5)) g := by sorry
theorem ct_4 {L : Nat} {xs : Nat → Int32} : ∀ (x4 : Int) (g : jv_Mem), 0 ≤ x4 → x4 + 4 < ((L : Nat) : Int) → Iv_tmp x4 g → wp_LC_4 xs L x4 (Iv_tmp (x4 + 5)) g := by sorry
theorem ct_5 {L : Nat} {xs : Nat → Int32} : ∀ (x4 : Int) (g : jv_Mem), 0 ≤ x4 → x4 + 4 < ((L : Nat) : Int) → Iv_tmp x4 g → wp_LC_5 xs L x4 (Iv_tmp (x4 + 5)) g := by sorry
theorem ct_6 {L : Nat} {xs : Nat → Int32} : ∀ (x4 : Int) (g : jv_Mem), 0 ≤ x4 → x4 + 4 < ((L : Nat) : Int) → Iv_tmp x4 g → wp_LC_6 xs L x4 (Iv_tmp (x4 + 5)) g := by sorry
theorem ct_7 {L : Nat} {xs : Nat → Int32} : ∀ (x4 : Int) (g : jv_Mem), 0 ≤ x4 → x4 + 4 < ((L : Nat) : Int) → Iv_tmp x4 g → wp_LC_7 xs L x4 (Iv_tmp (x4 + 5)) g := by sorry
theorem ct_8 {L : Nat} {xs : Nat → Int32} : ∀ (x4 : Int) (g : jv_Mem), 0 ≤ x4 → x4 + 4 < ((L : Nat) : Int) → Iv_tmp x4 g → wp_LC_8 xs L x4 (Iv_tmp (x4 + 5)) g := by sorry
theorem ct_9 {L : Nat} {xs : Nat → Int32} : ∀ (x4 : Int) (g : jv_Mem), 0 ≤ x4 → x4 + 4 < ((L : Nat) : Int) → Iv_tmp x4 g → wp_LC_9 xs L x4 (Iv_tmp (x4 + 5)) g := by sorry
theorem ct_10 {L : Nat} {xs : Nat → Int32} : ∀ (x4 : Int) (g : jv_Mem), 0 ≤ x4 → x4 + 4 < ((L : Nat) : Int) → Iv_tmp x4 g → wp_LC_10 xs L x4 (Iv_tmp (x4 + 5)) g := by sorry
theorem ct_11 {L : Nat} {xs : Nat → Int32} : ∀ (x4 : Int) (g : jv_Mem), 0 ≤ x4 → x4 + 4 < ((L : Nat) : Int) → Iv_tmp x4 g → wp_LC_11 xs L x4 (Iv_tmp (x4 + 5)) g := by sorry
theorem ct_12 {L : Nat} {xs : Nat → Int32} : ∀ (x4 : Int) (g : jv_Mem), 0 ≤ x4 → x4 + 4 < ((L : Nat) : Int) → Iv_tmp x4 g → wp_LC_12 xs L x4 (Iv_tmp (x4 + 5)) g := by sorry
theorem ct_13 {L : Nat} {xs : Nat → Int32} : ∀ (x4 : Int) (g : jv_Mem), 0 ≤ x4 → x4 + 4 < ((L : Nat) : Int) → Iv_tmp x4 g → wp_LC_13 xs L x4 (Iv_tmp (x4 + 5)) g := by sorry
theorem ct_14 {L : Nat} {xs : Nat → Int32} : ∀ (x4 : Int) (g : jv_Mem), 0 ≤ x4 → x4 + 4 < ((L : Nat) : Int) → Iv_tmp x4 g → wp_LC_14 xs L x4 (Iv_tmp (x4 + 5)) g := by sorry
theorem ct_15 {L : Nat} {xs : Nat → Int32} : ∀ (x4 : Int) (g : jv_Mem), 0 ≤ x4 → x4 + 4 < ((L : Nat) : Int) → Iv_tmp x4 g → wp_LC_15 xs L x4 (Iv_tmp (x4 + 5)) g := by sorry
theorem ct_16 {L : Nat} {xs : Nat → Int32} : ∀ (x4 : Int) (g : jv_Mem), 0 ≤ x4 → x4 + 4 < ((L : Nat) : Int) → Iv_tmp x4 g → wp_LC_16 xs L x4 (Iv_tmp (x4 + 5)) g := by sorry
theorem ct_17 {L : Nat} {xs : Nat → Int32} : ∀ (x4 : Int) (g : jv_Mem), 0 ≤ x4 → x4 + 4 < ((L : Nat) : Int) → Iv_tmp x4 g → wp_LC_17 xs L x4 (Iv_tmp (x4 + 5)) g := by sorry
theorem ct_18 {L : Nat} {xs : Nat → Int32} : ∀ (x4 : Int) (g : jv_Mem), 0 ≤ x4 → x4 + 4 < ((L : Nat) : Int) → Iv_tmp x4 g → wp_LC_18 xs L x4 (Iv_tmp (x4 + 5)) g := by sorry
theorem ct_19 {L : Nat} {xs : Nat → Int32} : ∀ (x4 : Int) (g : jv_Mem), 0 ≤ x4 → x4 + 4 < ((L : Nat) : Int) → Iv_tmp x4 g → wp_LC_19 xs L x4 (Iv_tmp (x4 + 5)) g := by sorry
theorem ct_20 {L : Nat} {xs : Nat → Int32} : ∀ (x4 : Int) (g : jv_Mem), 0 ≤ x4 → x4 + 4 < ((L : Nat) : Int) → Iv_tmp x4 g → wp_LC_20 xs L x4 (Iv_tmp (x4 + 5)) g := by sorry
theorem ct_21 {L : Nat} {xs : Nat → Int32} : ∀ (x4 : Int) (g : jv_Mem), 0 ≤ x4 → x4 + 4 < ((L : Nat) : Int) → Iv_tmp x4 g → wp_LC_21 xs L x4 (Iv_tmp (x4 + 5)) g := by sorry
theorem ct_22 {L : Nat} {xs : Nat → Int32} : ∀ (x4 : Int) (g : jv_Mem), 0 ≤ x4 → x4 + 4 < ((L : Nat) : Int) → Iv_tmp x4 g → wp_LC_22 xs L x4 (Iv_tmp (x4 + 5)) g := by sorry
theorem ct_23 {L : Nat} {xs : Nat → Int32} : ∀ (x4 : Int) (g : jv_Mem), 0 ≤ x4 → x4 + 4 < ((L : Nat) : Int) → Iv_tmp x4 g → wp_LC_23 xs L x4 (Iv_tmp (x4 + 5)) g := by sorry
theorem ct_24 {L : Nat} {xs : Nat → Int32} : ∀ (x4 : Int) (g : jv_Mem), 0 ≤ x4 → x4 + 4 < ((L : Nat) : Int) → Iv_tmp x4 g → wp_LC_24 xs L x4 (Iv_tmp (x4 + 5)) g := by sorry
theorem ct_25 {L : Nat} {xs : Nat → Int32} : ∀ (x4 : Int) (g : jv_Mem), 0 ≤ x4 → x4 + 4 < ((L : Nat) : Int) → Iv_tmp x4 g → wp_LC_25 xs L x4 (Iv_tmp (x4 + 5)) g := by sorry
theorem ct_26 {L : Nat} {xs : Nat → Int32} : ∀ (x4 : Int) (g : jv_Mem), 0 ≤ x4 → x4 + 4 < ((L : Nat) : Int) → Iv_tmp x4 g → wp_LC_26 xs L x4 (Iv_tmp (x4 + 5)) g := by sorry
theorem ct_27 {L : Nat} {xs : Nat → Int32} : ∀ (x4 : Int) (g : jv_Mem), 0 ≤ x4 → x4 + 4 < ((L : Nat) : Int) → Iv_tmp x4 g → wp_LC_27 xs L x4 (Iv_tmp (x4 + 5)) g := by sorry
theorem ct_28 {L : Nat} {xs : Nat → Int32} : ∀ (x4 : Int) (g : jv_Mem), 0 ≤ x4 → x4 + 4 < ((L : Nat) : Int) → Iv_tmp x4 g → wp_LC_28 xs L x4 (Iv_tmp (x4 + 5)) g := by sorry
theorem ct_29 {L : Nat} {xs : Nat → Int32} : ∀ (x4 : Int) (g : jv_Mem), 0 ≤ x4 → x4 + 4 < ((L : Nat) : Int) → Iv_tmp x4 g → wp_LC_29 xs L x4 (Iv_tmp (x4 + 5)) g := by sorry
theorem ct_30 {L : Nat} {xs : Nat → Int32} : ∀ (x4 : Int) (g : jv_Mem), 0 ≤ x4 → x4 + 4 < ((L : Nat) : Int) → Iv_tmp x4 g → wp_LC_30 xs L x4 (Iv_tmp (x4 + 5)) g := by sorry
theorem whole_start {p : Program} {e : Env} {s : State} {m : MethodId} {below : List Frame} {meth : Method} {c : Code} (l : Launch) (hflags : l.flags = flags0) {b L : Nat} {xs : Nat → Int32} (hL : L ≤ 2560) (C0 : lw_At p s m meth c b L xs) : W p l e room_1 s m #[Value.ref b] below meth c s.heap [] 0 0 (lw_Z below #[Value.ref b] s) (entryFrame m ([Value.ref b] : List Value).toArray 7) := by
  obtain ⟨hx, hb, hr, hml, hown, hts, hX, hbl, hlocks, hgv⟩ := id C0
  obtain ⟨D, ids, hK⟩ := jv_hK hts
  have hT : jv_T l s b := ⟨jv_trace hflags, hgv⟩
  have C : jv_C p s m #[Value.ref b] c code RL s b D ids := ⟨hx, hb, hown, ⟨hts, hK⟩, State.WarmedH.refl s, Nat.le_refl _, fun _ _ => rfl⟩
  rw [lg_entry_eq]
  exact jv_start hT C hml.symm hr hlocks hX hbl hL iv_tmp0 (fun _ _ h => h) ct_0 ct_1 ct_2 ct_3 ct_4 ct_5 ct_6 ct_7 ct_8 ct_9 ct_10 ct_11 ct_12 ct_13 ct_14 ct_15 ct_16 ct_17 ct_18 ct_19 ct_20 ct_21 ct_22 ct_23 ct_24 ct_25 ct_26 ct_27 ct_28 ct_29 ct_30 s.heap [] _ (fun i k hk => by cases hk) (fun n hn => by cases hn; rfl) va_S.rf (by rw [hml]; exact jv_L.entry [.ref b] (Nat.le_of_ble_eq_true rfl) (fun v hv => by rw [List.mem_singleton.mp hv]; rfl))
