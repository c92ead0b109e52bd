theorem jv_fs_get (B : Nat) (g : jv_Mem) (i : Int) : ∀ (ds : List (Option (Option Int))) (k j : Nat), (jv_fs B g i k ds)[j]? = (ds[j]?).map (jv_fv B g i (k + j)) := by
  intro ds
  induction ds with
  | nil => intro k j; simp [jv_fs]
  | cons d r ih =>
    intro k j
    rcases d with _ | _ | t <;> cases j with
    | zero => simp [jv_fs, jv_fv]
    | succ j => simp [jv_fs, ih]; congr 2; omega
theorem jv_fs_len (B : Nat) (g : jv_Mem) (i : Int) : ∀ (ds : List (Option (Option Int))) (k : Nat), (jv_fs B g i k ds).length = ds.length := by
  intro ds
  induction ds with
  | nil => intro k; simp [jv_fs]
  | cons d r ih => intro k; rcases d with _ | _ | t <;> simp [jv_fs, ih]
theorem jv_fs_congr {B : Nat} {g g' : jv_Mem} {i : Int} (h : ∀ a, g i a = g' i a) : ∀ (ds : List (Option (Option Int))) (k : Nat), jv_fs B g i k ds = jv_fs B g' i k ds := by
  intro ds
  induction ds with
  | nil => intro k; simp [jv_fs]
  | cons d r ih => intro k; rcases d with _ | _ | t <;> simp [jv_fs, ih, h]
theorem jv_E_congr {B : Nat} {ids : Nat → ClassId} {g g' : jv_Mem} {i : Int} (h : ∀ a, g i a = g' i a) (k : jv_Kd) : jv_E B ids g i k = jv_E B ids g' i k := by
  rcases k with ⟨_ | _ | _ | c, n, mm⟩ | ⟨ci, ds⟩
  · simp [jv_E, h]
  · simp [jv_E, h]
  · simp [jv_E, h]
  · simp [jv_E]
  · simp [jv_E, jv_fs_congr h]
def jv_su (sh : jv_Sh) (i : Int) (k : jv_Kd) : jv_Sh := fun j => if j = i then some k else sh j
theorem jv_H.put {B : Nat} {D : va_G} {ids : Nat → ClassId} {sh : jv_Sh} {g g' : jv_Mem} {H H1 : Heap} (h : jv_H B D ids sh g H) {i : Int} {k : jv_Kd} (hs : sh i = some k) (hg : ∀ j a, j ≠ i → g j a = g' j a) (he : va_at D vwCl (B + i.toNat, jv_E B ids g' i k) H1) (ho : ∀ q : Nat, q ≠ B + i.toNat → H1[q]? = H[q]?) : jv_H B D ids sh g' H1 := by
  intro j kj hj
  by_cases hji : j = i
  · subst hji
    cases hs.symm.trans hj
    exact ⟨(h j _ hj).1, he⟩
  · obtain ⟨h1, h2⟩ := h j kj hj
    obtain ⟨h3, -⟩ := h i k hs
    refine ⟨h1, ?_⟩
    rw [← jv_E_congr (fun a => hg j a hji)]
    exact h2.kept (ho _ (fun e => hji (by have e' : B + j.toNat = B + i.toNat := e; omega)))
theorem jv_H.shp {B : Nat} {D : va_G} {ids : Nat → ClassId} {sh : jv_Sh} {g : jv_Mem} {H H1 : Heap} (h : jv_H B D ids sh g H) {i : Int} {k k' : jv_Kd} (hs : sh i = some k) (he : va_at D vwCl (B + i.toNat, jv_E B ids g i k') H1) (ho : ∀ q : Nat, q ≠ B + i.toNat → H1[q]? = H[q]?) : jv_H B D ids (jv_su sh i k') g H1 := by
  intro j kj hj
  obtain ⟨h3, -⟩ := h i k hs
  unfold jv_su at hj
  by_cases hji : j = i
  · subst hji
    rw [if_pos rfl] at hj
    cases hj
    exact ⟨h3, he⟩
  · rw [if_neg hji] at hj
    obtain ⟨h1, h2⟩ := h j kj hj
    exact ⟨h1, h2.kept (ho _ (fun e => hji (by have e' : B + j.toNat = B + i.toNat := e; omega)))⟩
theorem jv_H.kept {B : Nat} {D : va_G} {ids : Nat → ClassId} {sh : jv_Sh} {g : jv_Mem} {H H1 : Heap} (h : jv_H B D ids sh g H) (ho : ∀ q : Nat, q < H.size → H1[q]? = H[q]?) : jv_H B D ids sh g H1 := fun i k hk => ⟨(h i k hk).1, (h i k hk).2.kept (ho _ (h i k hk).2.lt)⟩
/-- a field of a class by an entry of a pool -/
def jv_F (own : String) (idx ci kf : Nat) (ty : FieldType) (fin : Bool) : Prop := ∃ (K : String) (T : u_T) (N : Nat) (ty0 : Nat → FieldType), vwCl[ci]? = some (K, T, N) ∧ (∀ w ∈ u_ws K T N, w ∈ jv_tb) ∧ kf < N ∧ Cond.fieldLink own idx (T kf).1 (T kf).2.1 (T kf).2.2.1 ∈ jv_tb ∧ parseFieldDescriptor (T kf).2.2.1 = some ty ∧ (T kf).2.2.2 = fin ∧ (∀ k, k < N → parseFieldDescriptor (T k).2.2.1 = some (ty0 k)) ∧ (∀ a, a < N → ∀ b, b < N → a ≠ b → (T a).2.1 ≠ (T b).2.1) ∧ (fin = true → (T kf).1 = own)
theorem va_P.one {D : va_G} {cl : List vw_C} {q : Nat × va_E} {H : Heap} (h : va_at D cl q H) : va_P D cl [q] H := by
  intro k x hx
  cases k with
  | zero => simp at hx; subst hx; exact h
  | succ k => simp at hx
section JVH
variable {p : Program} {l : Launch} {e : Env} {R : Room} {s : State} {m : MethodId} {args : Array Value} {below : List Frame} {meth : Method} {c : Code} {cells slots : Nat} {Z : State → Prop} {s0 : State} {b0 : Addr} {D : va_G} {ids : Nat → ClassId} {ex : Option Nat} {sh : jv_Sh} {g : jv_Mem} {pc : Nat} {ls ls' : List (Option Value)} {st : List Value} {cc : ByteArray} {own : String}
theorem jv_get (C : jv_C p s m args c cc own s0 b0 D ids) {i : Int} {idx ci kf : Nat} {ty : FieldType} {fin : Bool} {ds : List (Option (Option Int))} {d : Option (Option Int)} (F : jv_F own idx ci kf ty fin) (hs : sh i = some (.inr (ci, ds))) (hf : ds[kf]? = some d) (hd : decode cc pc = .ok (.getfield idx, 3)) (k : jv_V p l e R s m args below meth c cells slots Z s0 D ids ex sh g (pc + 3) ls (jv_fv s0.heap.size g i kf d :: st)) : jv_V p l e R s m args below meth c cells slots Z s0 D ids ex sh g pc ls (.ref (s0.heap.size + i.toNat) :: st) := by
  intro H locs arr h1 h2 h3 h4
  obtain ⟨K, T, N, ty0, f1, f2, f3, f4, -⟩ := F
  refine va_get (D := D) (cl := vwCl) (tys := jv_tys ids) (Ts := jv_tb) C.1 C.2.1 C.2.2.2.hts f2 C.2.2.1 C.2.2.2.K (va_P.one (h1 i _ hs).2) 0 rfl f1 kf f3 (C.2.2.2.hts _ f4) (fun _ h => h) (v := jv_fv s0.heap.size g i kf d) ?_ hd (k H locs arr h1 h2 h3 h4)
  rw [jv_fs_get, hf]
  simp
theorem jv_geti (C : jv_C p s m args c cc own s0 b0 D ids) {i : Int} {idx ci kf : Nat} {ty : FieldType} {fin : Bool} {ds : List (Option (Option Int))} (F : jv_F own idx ci kf ty fin) (hs : sh i = some (.inr (ci, ds))) (hf : ds[kf]? = some (some none)) (hd : decode cc pc = .ok (.getfield idx, 3)) (k : jv_V p l e R s m args below meth c cells slots Z s0 D ids ex sh g (pc + 3) ls (jv_i (g i (kf : Nat)) :: st)) : jv_V p l e R s m args below meth c cells slots Z s0 D ids ex sh g pc ls (.ref (s0.heap.size + i.toNat) :: st) := jv_get C F hs hf hd k
theorem jv_getr (C : jv_C p s m args c cc own s0 b0 D ids) {i t : Int} {idx ci kf : Nat} {ty : FieldType} {fin : Bool} {ds : List (Option (Option Int))} (F : jv_F own idx ci kf ty fin) (hs : sh i = some (.inr (ci, ds))) (hf : ds[kf]? = some (some (some t))) (hd : decode cc pc = .ok (.getfield idx, 3)) (k : jv_V p l e R s m args below meth c cells slots Z s0 D ids ex sh g (pc + 3) ls (.ref (s0.heap.size + t.toNat) :: st)) : jv_V p l e R s m args below meth c cells slots Z s0 D ids ex sh g pc ls (.ref (s0.heap.size + i.toNat) :: st) := jv_get C F hs hf hd k
theorem jv_in {x : Int} {n : Nat} (h0 : 0 ≤ x) (hn : x < n) (hN : Nat.blt n 2147483648 = true) : vp_in (Int32.ofInt x) n ∧ (((Int32.ofInt x).toNatClampNeg : Nat) : Int) = x := by
  have hN' : n < 2147483648 := by simpa [Nat.blt_eq] using hN
  have hr : jv_r x := ⟨by omega, by omega⟩
  refine ⟨vp_in_iff.mpr ⟨by rw [hr.to]; exact h0, by rw [hr.to]; exact hn⟩, ?_⟩
  show (((Int32.ofInt x).toInt.toNat : Nat) : Int) = x
  rw [hr.to]; omega
theorem jv_iald (C : jv_C p s m args c cc own s0 b0 D ids) {i x : Int} {n mm : Nat} (hs : sh i = some (.inl (0, n, mm))) (hN : Nat.blt n 2147483648 = true) (hb : 0 ≤ x ∧ x < n) (hd : decode cc pc = .ok (.iaload, 1)) (k : jv_V p l e R s m args below meth c cells slots Z s0 D ids ex sh g (pc + 1) ls (jv_i (g i x) :: st)) : jv_V p l e R s m args below meth c cells slots Z s0 D ids ex sh g pc ls (jv_i x :: .ref (s0.heap.size + i.toNat) :: st) := by
  intro H locs arr h1 h2 h3 h4
  obtain ⟨a1, a2⟩ := jv_in hb.1 hb.2 hN
  refine va_iald (D := D) (cl := vwCl) (tys := jv_tys ids) C.1 C.2.1 C.2.2.2.K (va_P.one (h1 i _ hs).2) 0 0 rfl rfl a1 hd ?_
  have := k H locs arr h1 h2 h3 h4
  simp only [a2]
  exact this
theorem jv_zald (C : jv_C p s m args c cc own s0 b0 D ids) {i x : Int} {n mm : Nat} (hs : sh i = some (.inl (1, n, mm))) (hN : Nat.blt n 2147483648 = true) (hb : 0 ≤ x ∧ x < n) (hd : decode cc pc = .ok (.baload, 1)) (k : jv_V p l e R s m args below meth c cells slots Z s0 D ids ex sh g (pc + 1) ls (jv_i (g i x) :: st)) : jv_V p l e R s m args below meth c cells slots Z s0 D ids ex sh g pc ls (jv_i x :: .ref (s0.heap.size + i.toNat) :: st) := by
  intro H locs arr h1 h2 h3 h4
  obtain ⟨a1, a2⟩ := jv_in hb.1 hb.2 hN
  refine va_zald (D := D) (cl := vwCl) (tys := jv_tys ids) C.1 C.2.1 C.2.2.2.K (va_P.one (h1 i _ hs).2) 0 1 rfl rfl a1 hd ?_
  have := k H locs arr h1 h2 h3 h4
  simp only [a2]
  exact this
theorem jv_aald (C : jv_C p s m args c cc own s0 b0 D ids) {i x : Int} {cn n mm : Nat} (hcn : cn < 2) (hs : sh i = some (.inl (cn + 3, n, mm))) (hN : Nat.blt n 2147483648 = true) (hb : 0 ≤ x ∧ x < n) (hm : x < mm) (hd : decode cc pc = .ok (.aaload, 1)) (k : jv_V p l e R s m args below meth c cells slots Z s0 D ids ex sh g (pc + 1) ls (.ref (s0.heap.size + jv_ra cn x.toNat) :: st)) : jv_V p l e R s m args below meth c cells slots Z s0 D ids ex sh g pc ls (jv_i x :: .ref (s0.heap.size + i.toNat) :: st) := by
  intro H locs arr h1 h2 h3 h4
  obtain ⟨a1, a2⟩ := jv_in hb.1 hb.2 hN
  have a3 : (Int32.ofInt x).toNatClampNeg = x.toNat := by omega
  have ht : (jv_tys ids)[cn + 3]? = some (ids (cn + 3), .object (if cn = 0 then RX3 else RX4)) := by
    rcases (show cn = 0 ∨ cn = 1 by omega) with rfl | rfl <;> rfl
  refine va_aldq (D := D) (cl := vwCl) (tys := jv_tys ids) C.1 C.2.1 C.2.2.2.K (va_P.one (h1 i _ hs).2) 0 (cn + 3) rfl ht a1 hd ?_
  have := k H locs arr h1 h2 h3 h4
  rw [a3, if_pos (by omega)]
  exact this
theorem jv_iast (C : jv_C p s m args c cc own s0 b0 D ids) {i x v : Int} {n mm : Nat} (hs : sh i = some (.inl (0, n, mm))) (hN : Nat.blt n 2147483648 = true) (hb : 0 ≤ x ∧ x < n) (hd : decode cc pc = .ok (.iastore, 1)) (k : jv_V p l e R s m args below meth c cells slots Z s0 D ids ex sh (jv_up g i x v) (pc + 1) ls st) : jv_V p l e R s m args below meth c cells slots Z s0 D ids ex sh g pc ls (jv_i v :: jv_i x :: .ref (s0.heap.size + i.toNat) :: st) := by
  intro H locs arr h1 h2 h3 h4
  obtain ⟨a1, a2⟩ := jv_in hb.1 hb.2 hN
  have hat : H[s0.heap.size + i.toNat]? = some (arrV (ids 0) n (fun j => .int (Int32.ofInt (g i j)))) := (h1 i _ hs).2
  refine W.iast C.1 C.2.1 hat ((C.2.2.2.K.2 0 _ rfl).1 n _) (fun q => by cases q) (by show ¬ (_ < 0 ∨ (arrV _ _ _).slots.size ≤ _); rw [arrV_size]; exact a1) rfl rfl hd fun H1 e z oq => ?_
  refine k H1 _ arr (h1.put hs (fun j a hj => (jv_up_i hj).symm) ?_ oq) (fun n hn => by rw [z]; exact h2 n hn) (h3.put z oq (Nat.le_add_right _ _)) h4
  show H1[s0.heap.size + i.toNat]? = some (vp_cell _ _)
  rw [e, arrV_store, vp_cell_i]
  congr 2
  funext j
  by_cases hj : j = (Int32.ofInt x).toNatClampNeg
  · subst hj
    simp [updV, a2, jv_up]
  · have : (j : Int) ≠ x := fun h => hj (by omega)
    simp [updV, hj, jv_up, this]
theorem jv_zast (C : jv_C p s m args c cc own s0 b0 D ids) {i x v : Int} {n mm : Nat} (hs : sh i = some (.inl (1, n, mm))) (hN : Nat.blt n 2147483648 = true) (hv : v = 0 ∨ v = 1) (hb : 0 ≤ x ∧ x < n) (hd : decode cc pc = .ok (.bastore, 1)) (k : jv_V p l e R s m args below meth c cells slots Z s0 D ids ex sh (jv_up g i x v) (pc + 1) ls st) : jv_V p l e R s m args below meth c cells slots Z s0 D ids ex sh g pc ls (jv_i v :: jv_i x :: .ref (s0.heap.size + i.toNat) :: st) := by
  intro H locs arr h1 h2 h3 h4
  obtain ⟨a1, a2⟩ := jv_in hb.1 hb.2 hN
  have hat : H[s0.heap.size + i.toNat]? = some (arrV (ids 1) n (fun j => .int (Int32.ofInt (g i j)))) := (h1 i _ hs).2
  refine W.zast C.1 C.2.1 hat ((C.2.2.2.K.2 1 _ rfl).1 n _) (fun q => by cases q) (by show ¬ (_ < 0 ∨ (arrV _ _ _).slots.size ≤ _); rw [arrV_size]; exact a1) rfl rfl hd fun H1 e z oq => ?_
  refine k H1 _ arr (h1.put hs (fun j a hj => (jv_up_i hj).symm) ?_ oq) (fun n hn => by rw [z]; exact h2 n hn) (h3.put z oq (Nat.le_add_right _ _)) h4
  have hnar : narrow .boolean (.int (Int32.ofInt v)) = .int (Int32.ofInt v) := by rcases hv with rfl | rfl <;> rfl
  show H1[s0.heap.size + i.toNat]? = some (vp_cell _ _)
  rw [e, hnar, arrV_store, vp_cell_i]
  congr 2
  funext j
  by_cases hj : j = (Int32.ofInt x).toNatClampNeg
  · subst hj
    simp [updV, a2, jv_up]
  · have : (j : Int) ≠ x := fun h => hj (by omega)
    simp [updV, hj, jv_up, this]
theorem jv_fs_seti {B : Nat} {g : jv_Mem} {i v : Int} {kf : Nat} {ds : List (Option (Option Int))} (hf : ds[kf]? = some (some none)) : (jv_fs B g i 0 ds).set kf (jv_i v) = jv_fs B (jv_up g i kf v) i 0 ds := by
  apply List.ext_getElem?
  intro j
  have hk : kf < ds.length := (List.getElem?_eq_some_iff.mp hf).1
  rw [List.getElem?_set, jv_fs_len, jv_fs_get, jv_fs_get]
  by_cases hj : kf = j
  · subst hj
    rw [if_pos rfl, if_pos hk, hf]
    simp [jv_fv, jv_up]
  · rw [if_neg hj]
    congr 1
    funext d
    have : ((0 + j : Nat) : Int) ≠ kf := by omega
    rcases d with _ | _ | t
    · rfl
    · simp only [jv_fv, jv_up_k this]
    · rfl
theorem jv_puti (C : jv_C p s m args c cc own s0 b0 D ids) {i v : Int} {idx ci kf : Nat} {ds : List (Option (Option Int))} (F : jv_F own idx ci kf .int false) (hs : sh i = some (.inr (ci, ds))) (hf : ds[kf]? = some (some none)) (hd : decode cc pc = .ok (.putfield idx, 3)) (k : jv_V p l e R s m args below meth c cells slots Z s0 D ids ex sh (jv_up g i (kf : Nat) v) (pc + 3) ls st) : jv_V p l e R s m args below meth c cells slots Z s0 D ids ex sh g pc ls (jv_i v :: .ref (s0.heap.size + i.toNat) :: st) := by
  intro H locs arr h1 h2 h3 h4
  obtain ⟨K, T, N, ty0, f1, f2, f3, f4, f5, f6, f7, f8, -⟩ := F
  have hK := C.2.2.2.K
  have hts := C.2.2.2.hts (a := args)
  have hap := va_apart (own := own) hts f2 ty0 f7 f8 hK f1
  obtain ⟨r, g1, cell, q1, q2, q3, q4⟩ := (h1 i _ hs).2
  have hr : r = (K, T, N) := Option.some.inj (g1.symm.trans f1)
  subst hr
  obtain ⟨hS, hfc, kC, hkC, hkind⟩ := hK.1 ci _ f1
  obtain ⟨cf, kf', fi, f, hi, hsl⟩ := hS kf f3
  have hlay := hts _ (f2 _ (u_in_lay f3))
  unfold u_lay at hlay
  rw [if_neg (by rw [f6]; decide)] at hlay
  have hst := (u_facts hfc hkC (u_lays hts f2 f3) hi).1
  have h6 := u_store hfc hkC hkind hlay hi f5 (v := jv_i v) rfl rfl
  refine W.putK C.1 C.2.1 (f := f) ⟨C.2.2.1, hts _ f4, ⟨_, _, _, hi⟩, hst⟩ (by rw [q2]; exact h6) q1 q3 (by rw [hsl]; exact k2_hasslot (q4 kf f3)) rfl rfl hd fun H' e1 e2 e3 => ?_
  rw [hsl] at e1 ⊢
  refine k H' _ arr (h1.put hs (fun j a hj => (jv_up_i hj).symm) ?_ e3) (fun n hn => by rw [e2]; exact h2 n hn) (h3.put e2 e3 (Nat.le_add_right _ _)) h4
  refine ⟨_, f1, ?_⟩
  show t_OB _ _ _ _ _ (vp_V (jv_fs _ _ _ 0 ds))
  rw [← jv_fs_seti hf]
  refine t_OB.to (V := updV (vp_V (jv_fs s0.heap.size g i 0 ds)) kf (jv_i v)) ⟨_, e1, q2, q3, t_set q4 hap f3 _⟩ (fun j _ => vp_updV_set ?_ _ j)
  rw [jv_fs_len]
  exact (List.getElem?_eq_some_iff.mp hf).1
end JVH
