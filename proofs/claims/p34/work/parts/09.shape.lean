def jv_S1 : List jv_Kd := [
  .inr (8, [some (some 1), some (some 3), some (some 10), some (some 14), some (some 19), some (some 20), some (some 21), some (some 26), some (some 29), some none, some none, some none]),
  .inr (5, [some (some 2), some none]),
  .inl (0, 3, 0),
  .inr (7, [some (some 4), some (some 5), some (some 6), some (some 7), some (some 8), some (some 9), some none]),
  .inl (0, 30, 0),
  .inl (0, 90, 0),
  .inl (0, 30, 0),
  .inl (0, 30, 0),
  .inl (0, 1458, 0),
  .inl (0, 1458, 0),
  .inr (6, [some (some 11), some (some 12), some (some 13), some none, some none]),
  .inl (0, 9, 0),
  .inl (0, 3, 0),
  .inl (0, 3, 0),
  .inr (0, [some (some 15), some (some 16), some (some 17), some (some 18), some none]),
  .inl (0, 60, 0),
  .inl (0, 60, 0),
  .inl (0, 60, 0),
  .inl (0, 6, 0),
  .inl (3, 20, 20),
  .inl (4, 6, 6),
  .inr (1, [some (some 22), some (some 23), some (some 24), some (some 25), some none]),
  .inl (0, 1200, 0),
  .inl (0, 1200, 0),
  .inl (0, 1200, 0),
  .inl (0, 1200, 0),
  .inr (2, [some (some 27), some (some 28), some none]),
  .inl (0, 180, 0),
  .inl (1, 1252, 0),
  .inl (0, 20, 0)]
/-- the places: 0..29 the house's own, then 20 puzzles of 3 cells, 6 solvers of 6 cells, from 126 on nothing stands in the heap (ghosts) -/
def jv_SH : jv_Sh := fun i => if i < 0 then none else if i < 30 then jv_S1[i.toNat]? else if i < 90 then
    (if (i - 30) % 3 = 0 then some (.inr (3, [some (some (i + 1)), some (some (i + 2)), some none, some none, some none])) else if (i - 30) % 3 = 1 then some (.inl (0, 9, 0)) else some (.inl (0, 6, 0)))
  else if i < 126 then
    (if (i - 90) % 6 = 0 then some (.inr (4, [some (some (i + 1)), some (some (i + 4)), some (some (i + 5)), some none])) else if (i - 90) % 6 = 1 then some (.inr (2, [some (some (i + 1)), some (some (i + 2)), some none])) else if (i - 90) % 6 = 2 then some (.inl (0, 180, 0)) else if (i - 90) % 6 = 3 then some (.inl (1, 1252, 0)) else if (i - 90) % 6 = 4 then some (.inl (0, 180, 0)) else some (.inl (0, 20, 0)))
  else none
theorem sS_0 : jv_SH 0 = some (.inr (8, [some (some 1), some (some 3), some (some 10), some (some 14), some (some 19), some (some 20), some (some 21), some (some 26), some (some 29), some none, some none, some none])) := rfl
theorem sS_1 : jv_SH 1 = some (.inr (5, [some (some 2), some none])) := rfl
theorem sS_2 : jv_SH 2 = some (.inl (0, 3, 0)) := rfl
theorem sS_3 : jv_SH 3 = some (.inr (7, [some (some 4), some (some 5), some (some 6), some (some 7), some (some 8), some (some 9), some none])) := rfl
theorem sS_4 : jv_SH 4 = some (.inl (0, 30, 0)) := rfl
theorem sS_5 : jv_SH 5 = some (.inl (0, 90, 0)) := rfl
theorem sS_6 : jv_SH 6 = some (.inl (0, 30, 0)) := rfl
theorem sS_7 : jv_SH 7 = some (.inl (0, 30, 0)) := rfl
theorem sS_8 : jv_SH 8 = some (.inl (0, 1458, 0)) := rfl
theorem sS_9 : jv_SH 9 = some (.inl (0, 1458, 0)) := rfl
theorem sS_10 : jv_SH 10 = some (.inr (6, [some (some 11), some (some 12), some (some 13), some none, some none])) := rfl
theorem sS_11 : jv_SH 11 = some (.inl (0, 9, 0)) := rfl
theorem sS_12 : jv_SH 12 = some (.inl (0, 3, 0)) := rfl
theorem sS_13 : jv_SH 13 = some (.inl (0, 3, 0)) := rfl
theorem sS_14 : jv_SH 14 = some (.inr (0, [some (some 15), some (some 16), some (some 17), some (some 18), some none])) := rfl
theorem sS_15 : jv_SH 15 = some (.inl (0, 60, 0)) := rfl
theorem sS_16 : jv_SH 16 = some (.inl (0, 60, 0)) := rfl
theorem sS_17 : jv_SH 17 = some (.inl (0, 60, 0)) := rfl
theorem sS_18 : jv_SH 18 = some (.inl (0, 6, 0)) := rfl
theorem sS_19 : jv_SH 19 = some (.inl (3, 20, 20)) := rfl
theorem sS_20 : jv_SH 20 = some (.inl (4, 6, 6)) := rfl
theorem sS_21 : jv_SH 21 = some (.inr (1, [some (some 22), some (some 23), some (some 24), some (some 25), some none])) := rfl
theorem sS_22 : jv_SH 22 = some (.inl (0, 1200, 0)) := rfl
theorem sS_23 : jv_SH 23 = some (.inl (0, 1200, 0)) := rfl
theorem sS_24 : jv_SH 24 = some (.inl (0, 1200, 0)) := rfl
theorem sS_25 : jv_SH 25 = some (.inl (0, 1200, 0)) := rfl
theorem sS_26 : jv_SH 26 = some (.inr (2, [some (some 27), some (some 28), some none])) := rfl
theorem sS_27 : jv_SH 27 = some (.inl (0, 180, 0)) := rfl
theorem sS_28 : jv_SH 28 = some (.inl (1, 1252, 0)) := rfl
theorem sS_29 : jv_SH 29 = some (.inl (0, 20, 0)) := rfl
def jv_isPg (t : Int) : Prop := jv_SH t = some (.inr (2, [some (some (t + 1)), some (some (t + 2)), some none])) ∧ jv_SH (t + 1) = some (.inl (0, 180, 0)) ∧ jv_SH (t + 2) = some (.inl (1, 1252, 0))
def jv_isPz (t : Int) : Prop := jv_SH t = some (.inr (3, [some (some (t + 1)), some (some (t + 2)), some none, some none, some none])) ∧ jv_SH (t + 1) = some (.inl (0, 9, 0)) ∧ jv_SH (t + 2) = some (.inl (0, 6, 0))
def jv_isSv (t : Int) : Prop := jv_SH t = some (.inr (4, [some (some (t + 1)), some (some (t + 4)), some (some (t + 5)), some none])) ∧ jv_SH (t + 4) = some (.inl (0, 180, 0)) ∧ jv_SH (t + 5) = some (.inl (0, 20, 0)) ∧ jv_isPg (t + 1)
theorem jv_pg26 : jv_isPg 26 := ⟨rfl, rfl, rfl⟩
theorem jv_pz {x : Int} (h0 : 0 ≤ x) (h1 : x < 20) : jv_isPz (30 + 3 * x) := by
  have e : ∀ d : Int, 0 ≤ d → d < 3 → (30 + 3 * x + d - 30) % 3 = d := fun d a b => by omega
  have e0 := e 0 (by omega) (by omega)
  have e1 := e 1 (by omega) (by omega)
  have e2 := e 2 (by omega) (by omega)
  simp only [Int.add_zero] at e0
  have a : ∀ d : Int, 0 ≤ d → d < 3 → ¬ (30 + 3 * x + d < 0) ∧ ¬ (30 + 3 * x + d < 30) ∧ 30 + 3 * x + d < 90 := fun d a b => by omega
  have a0 := a 0 (by omega) (by omega)
  simp only [Int.add_zero] at a0
  have a1 := a 1 (by omega) (by omega)
  have a2 := a 2 (by omega) (by omega)
  refine ⟨?_, ?_, ?_⟩
  · unfold jv_SH; rw [if_neg a0.1, if_neg a0.2.1, if_pos a0.2.2, if_pos e0]
  · unfold jv_SH; rw [if_neg a1.1, if_neg a1.2.1, if_pos a1.2.2, if_neg (by rw [e1]; decide), if_pos e1]
  · unfold jv_SH; rw [if_neg a2.1, if_neg a2.2.1, if_pos a2.2.2, if_neg (by rw [e2]; decide), if_neg (by rw [e2]; decide)]
theorem jv_sv {x : Int} (h0 : 0 ≤ x) (h1 : x < 6) : jv_isSv (90 + 6 * x) := by
  have e : ∀ d : Int, 0 ≤ d → d < 6 → (90 + 6 * x + d - 90) % 6 = d := fun d a b => by omega
  have a : ∀ d : Int, 0 ≤ d → d < 6 → ¬ (90 + 6 * x + d < 0) ∧ ¬ (90 + 6 * x + d < 30) ∧ ¬ (90 + 6 * x + d < 90) ∧ 90 + 6 * x + d < 126 := fun d a b => by omega
  have e0 := e 0 (by omega) (by omega)
  have a0 := a 0 (by omega) (by omega)
  simp only [Int.add_zero] at e0 a0
  have e1 := e 1 (by omega) (by omega)
  have a1 := a 1 (by omega) (by omega)
  have e2 := e 2 (by omega) (by omega)
  have a2 := a 2 (by omega) (by omega)
  have e3 := e 3 (by omega) (by omega)
  have a3 := a 3 (by omega) (by omega)
  have e4 := e 4 (by omega) (by omega)
  have a4 := a 4 (by omega) (by omega)
  have e5 := e 5 (by omega) (by omega)
  have a5 := a 5 (by omega) (by omega)
  have s1 : 90 + 6 * x + 1 + 1 = 90 + 6 * x + 2 := by omega
  have s2 : 90 + 6 * x + 1 + 2 = 90 + 6 * x + 3 := by omega
  refine ⟨?_, ?_, ?_, ?_, ?_, ?_⟩
  · unfold jv_SH; rw [if_neg a0.1, if_neg a0.2.1, if_neg a0.2.2.1, if_pos a0.2.2.2, if_pos e0]
  · unfold jv_SH; rw [if_neg a4.1, if_neg a4.2.1, if_neg a4.2.2.1, if_pos a4.2.2.2, if_neg (by rw [e4]; decide), if_neg (by rw [e4]; decide), if_neg (by rw [e4]; decide), if_neg (by rw [e4]; decide), if_pos e4]
  · unfold jv_SH; rw [if_neg a5.1, if_neg a5.2.1, if_neg a5.2.2.1, if_pos a5.2.2.2, if_neg (by rw [e5]; decide), if_neg (by rw [e5]; decide), if_neg (by rw [e5]; decide), if_neg (by rw [e5]; decide), if_neg (by rw [e5]; decide)]
  · unfold jv_SH; rw [if_neg a1.1, if_neg a1.2.1, if_neg a1.2.2.1, if_pos a1.2.2.2, if_neg (by rw [e1]; decide), if_pos e1]
  · rw [s1]; unfold jv_SH; rw [if_neg a2.1, if_neg a2.2.1, if_neg a2.2.2.1, if_pos a2.2.2.2, if_neg (by rw [e2]; decide), if_neg (by rw [e2]; decide), if_pos e2]
  · rw [s2]; unfold jv_SH; rw [if_neg a3.1, if_neg a3.2.1, if_neg a3.2.2.1, if_pos a3.2.2.2, if_neg (by rw [e3]; decide), if_neg (by rw [e3]; decide), if_neg (by rw [e3]; decide), if_pos e3]
theorem jv_raP {B : Nat} {x : Int} (h : 0 ≤ x) : B + jv_ra 0 x.toNat = B + (30 + 3 * x).toNat := by simp only [jv_ra]; omega
theorem jv_raS {B : Nat} {x : Int} (h : 0 ≤ x) : B + jv_ra 1 x.toNat = B + (90 + 6 * x).toNat := by simp only [jv_ra]; omega
section JVS
variable {p : Program} {l : Launch} {e : Env} {R : Room} {s : State} {m : MethodId} {args : Array Value} {below : List Frame} {meth : Method} {c : Code} {cells slots : Nat} {Z : State → Prop} {s0 : State} {b0 : Addr} {D : va_G} {ids : Nat → ClassId} {ex : Option Nat} {g : jv_Mem} {pc : Nat} {ls ls' : List (Option Value)} {st : List Value} {cc : ByteArray} {own : String}
theorem jv_aaldP (C : jv_C p s m args c cc own s0 b0 D ids) {x : Int} (hb : 0 ≤ x ∧ x < 20) (hd : decode cc pc = .ok (.aaload, 1)) (k : jv_V p l e R s m args below meth c cells slots Z s0 D ids ex jv_SH g (pc + 1) ls (.ref (s0.heap.size + (30 + 3 * x).toNat) :: st)) : jv_V p l e R s m args below meth c cells slots Z s0 D ids ex jv_SH g pc ls (jv_i x :: .ref (s0.heap.size + (19 : Int).toNat) :: st) :=
  jv_aald C (cn := 0) (by decide) sS_19 rfl hb hb.2 hd (by rw [jv_raP hb.1]; exact k)
theorem jv_aaldS (C : jv_C p s m args c cc own s0 b0 D ids) {x : Int} (hb : 0 ≤ x ∧ x < 6) (hd : decode cc pc = .ok (.aaload, 1)) (k : jv_V p l e R s m args below meth c cells slots Z s0 D ids ex jv_SH g (pc + 1) ls (.ref (s0.heap.size + (90 + 6 * x).toNat) :: st)) : jv_V p l e R s m args below meth c cells slots Z s0 D ids ex jv_SH g pc ls (jv_i x :: .ref (s0.heap.size + (20 : Int).toNat) :: st) :=
  jv_aald C (cn := 1) (by decide) sS_20 rfl hb hb.2 hd (by rw [jv_raS hb.1]; exact k)
end JVS
