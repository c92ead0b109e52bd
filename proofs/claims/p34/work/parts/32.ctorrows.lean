theorem jv_H.weak {B : Nat} {D : va_G} {ids : Nat → ClassId} {sh sh' : jv_Sh} {g : jv_Mem} {H : Heap} (h : jv_H B D ids sh g H) (hs : ∀ j k, sh' j = some k → sh j = some k) : jv_H B D ids sh' g H := fun i k hk => h i k (hs i k hk)
/-- a new cell behind the others -/
theorem jv_H.push {B : Nat} {D : va_G} {ids : Nat → ClassId} {sh : jv_Sh} {g : jv_Mem} {H H1 : Heap} (h : jv_H B D ids sh g H) {n : Nat} {k : jv_Kd} (he : va_at D vwCl (B + n, jv_E B ids g (n : Nat) k) H1) (hsz : H.size = B + n) (ho : ∀ q : Nat, q < H.size → H1[q]? = H[q]?) : jv_H B D ids (jv_su sh (n : Nat) k) g H1 := by
  intro j kj hj
  unfold jv_su at hj
  by_cases hji : j = (n : Nat)
  · subst hji
    rw [if_pos rfl] at hj
    cases hj
    exact ⟨by omega, he⟩
  · rw [if_neg hji] at hj
    obtain ⟨h1, h2⟩ := h j kj hj
    exact ⟨h1, h2.kept (ho _ h2.lt)⟩
/-- the fields of a new object -/
def jv_d0 : List (Option (Option Int)) → List (Option (Option Int)) := List.map (fun d => match d with | some none => some none | _ => none)
def jv_KI (own : String) (idx : Nat) (y : MethodName) (cb : ByteArray) (mL : Nat) (n : Nat) : Prop := Cond.methodLink own idx y ∈ jv_tb ∧ Cond.instanceMethod y ∈ jv_tb ∧ Cond.initialized y.cls ∈ jv_tb ∧ Cond.code y cb mL none ∈ jv_tb ∧ y.name = "<init>" ∧ (y.cls ≠ "java/lang/invoke/MethodHandle" ∧ y.cls ≠ "java/lang/invoke/VarHandle" ∧ (parseMethodDescriptor y.desc).map (fun d => d.parameters.length) = some n)
def jv_KIN (own : String) (idx : Nat) (y : MethodName) (host : String) (cb : ByteArray) (mL : Nat) (n : Nat) : Prop := Cond.methodLinkNest own idx y host ∈ lw_tbl ∧ Cond.instanceMethod y ∈ jv_tb ∧ Cond.initialized y.cls ∈ jv_tb ∧ Cond.code y cb mL none ∈ jv_tb ∧ y.name = "<init>" ∧ (y.cls ≠ "java/lang/invoke/MethodHandle" ∧ y.cls ≠ "java/lang/invoke/VarHandle" ∧ (parseMethodDescriptor y.desc).map (fun d => d.parameters.length) = some n)
section JVK
variable {p : Program} {l : Launch} {e : Env} {R : Room} {s : State} {m : MethodId} {args : Array Value} {below : List Frame} {meth : Method} {c : Code} {cells slots : Nat} {Z : State → Prop} {s0 : State} {b0 : Addr} {D : va_G} {ids : Nat → ClassId} {ex ex' : Option Nat} {sh sh' : jv_Sh} {g : jv_Mem} {pc : Nat} {ls ls' : List (Option Value)} {st st0 : List Value} {cc : ByteArray} {own : String}
variable {y : MethodName} {cb : ByteArray} {mL : Nat} {fr lo mc ms n idx : Nat} {Q : Option Value → jv_Mem → Prop} {As : List Value} {host : String}
theorem jv_shw (h : ∀ j k, sh' j = some k → sh j = some k) (k : jv_V p l e R s m args below meth c cells slots Z s0 D ids ex sh' g pc ls st) : jv_V p l e R s m args below meth c cells slots Z s0 D ids ex sh g pc ls st :=
  fun H locs arr h1 h2 h3 h4 => k H locs arr (h1.weak h) h2 h3 h4
theorem jv_noex (k : jv_V p l e R s m args below meth c cells slots Z s0 D ids none sh g pc ls st) : jv_V p l e R s m args below meth c cells slots Z s0 D ids ex sh g pc ls st :=
  fun H locs arr h1 _ h3 h4 => k H locs arr h1 (fun n hn => by cases hn) h3 h4
theorem jv_ogi (C : jv_C p s m args c cc own s0 b0 D ids) {a : Addr} (h1 : Cond.methodLink own idx Lib.objectInit ∈ jv_tb) (h2 : Cond.instanceMethod Lib.objectInit ∈ jv_tb) (h3 : Cond.code Lib.objectInit ⟨#[0xb1]⟩ 1 none ∈ jv_tb) (hR : Nat.ble 1 R.frames = true ∧ Nat.ble ((st.map fun v => v.category).sum + 12) R.locals = true) (hd : decode cc pc = .ok (.invokespecial idx, 3)) (k : jv_V p l e R s m args below meth c cells slots Z s0 D ids ex sh g (pc + 3) ls st) : jv_V p l e R s m args below meth c cells slots Z s0 D ids ex sh g pc ls (.ref a :: st) := by
  intro H locs arr a1 a2 a3 a4
  have hts := C.2.2.2.hts (a := args)
  refine W.objInit C.1 C.2.1 C.2.2.1 (hts _ h1) (hts _ h2) (hts _ h3) rfl a4.1.1 rfl hd (Nat.le_of_ble_eq_true hR.1) ?_ (k H locs arr a1 a2 a3 a4)
  show 2 * 0 + _ + 12 ≤ _
  have := Nat.le_of_ble_eq_true hR.2
  omega
theorem jv_new (C : jv_C p s m args c cc own s0 b0 D ids) {n ci N : Nat} {K : String} {T : u_T} {ty : Nat → FieldType} {ds : List (Option (Option Int))} (hc : vwCl[ci]? = some (K, T, N)) (hin : ∀ w ∈ u_ws K T N, w ∈ jv_tb) (hty : ∀ k, k < N → parseFieldDescriptor (T k).2.2.1 = some (ty k)) (hcl : Cond.classLink own idx K ∈ jv_tb) (hins : Cond.instantiable K N ∈ jv_tb) (hini : Cond.initialized K ∈ jv_tb) (hz : ∀ b, g (n : Nat) b = 0) (hds : ∀ j, j < N → defaultValue (ty j) = vp_V (jv_fs s0.heap.size (fun _ _ => 0) (n : Nat) 0 ds) j) (hcs : Nat.ble (cells + 1) R.cells = true ∧ Nat.ble (slots + N) R.slots = true) (hd : decode cc pc = .ok (.new idx, 3)) (k : jv_V p l e R s m args below meth c (cells + 1) (slots + N) Z s0 D ids (some (n + 1)) (jv_su sh (n : Nat) (.inr (ci, ds))) g (pc + 3) ls (.ref (s0.heap.size + ((n : Nat) : Int).toNat) :: st)) : jv_V p l e R s m args below meth c cells slots Z s0 D ids (some n) sh g pc ls st := by
  intro H locs arr h1 h2 h3 h4
  have hts := C.2.2.2.hts (a := args)
  have hKn := C.2.2.2.K.1 ci _ hc
  have hsz := h2 n rfl
  refine W.newcK C.1 C.2.1 C.2.2.1 (hts _ hcl) (hts _ hins) (hts _ hini) rfl hd (Nat.le_of_ble_eq_true hcs.1) (Nat.le_of_ble_eq_true hcs.2) hKn.2.1 rfl fun H1 kC hkC e1 z1 o1 => ?_
  rw [hsz] at e1 ⊢
  refine k H1 locs arr (h1.push (n := n) ⟨_, hc, (u_born ty hts hin hKn hkC e1 hty).to ?_⟩ hsz o1) (fun n' hn' => by cases hn'; omega) ⟨Nat.le_trans h3.1 (by omega), fun x a1 a2 => (o1 x (Nat.lt_of_lt_of_le a1 h3.1)).trans (h3.2.1 x a1 a2), h3.2.2⟩ h4
  intro j hj
  rw [hds j hj]
  show vp_V (jv_fs _ _ _ 0 ds) j = vp_V (jv_fs _ _ _ 0 ds) j
  rw [jv_fs_congr (g := fun _ _ => 0) (g' := g) (fun a => (hz a).symm)]
theorem jv_newi (C : jv_C p s m args c cc own s0 b0 D ids) {n cn N : Nat} {at' : ArrayType} (hat : newarray.typeOf at' = jv_ty cn) (hcn : cn < 2) (hw : Cond.arrayClass (newarray.typeOf at') ∈ jv_tb) (hz : ∀ b, g (n : Nat) b = 0) (hN : Nat.ble N 8000 = true) (hcs : Nat.ble (cells + 1) R.cells = true ∧ Nat.ble (slots + N) R.slots = true) (hd : decode cc pc = .ok (.newarray at', 2)) (k : jv_V p l e R s m args below meth c (cells + 1) (slots + N) Z s0 D ids (some (n + 1)) (jv_su sh (n : Nat) (.inl (cn, N, 0))) g (pc + 2) ls (.ref (s0.heap.size + ((n : Nat) : Int).toNat) :: st)) : jv_V p l e R s m args below meth c cells slots Z s0 D ids (some n) sh g pc ls (jv_i (N : Nat) :: st) := by
  intro H locs arr h1 h2 h3 h4
  have hts := C.2.2.2.hts (a := args)
  have hsz := h2 n rfl
  have hN' := Nat.le_of_ble_eq_true hN
  have hr : jv_r ((N : Nat) : Int) := ⟨by omega, by omega⟩
  have hn0 : ¬ Int32.ofInt ((N : Nat) : Int) < 0 := by rw [jv_r0, jv_rlt hr jv_rz]; omega
  have hcl : (Int32.ofInt ((N : Nat) : Int)).toNatClampNeg = N := by
    show (Int32.ofInt ((N : Nat) : Int)).toInt.toNat = N
    rw [hr.to]; omega
  have hby : N * componentBytes (newarray.typeOf at') ≤ 536870912 := by
    rw [hat]
    rcases (show cn = 0 ∨ cn = 1 by omega) with rfl | rfl <;> simp [jv_ty, componentBytes] <;> omega
  refine va_newaK C.1 C.2.1 (hts _ hw) rfl hd rfl hn0 hcl hby (Nat.le_of_ble_eq_true hcs.1) (Nat.le_of_ble_eq_true hcs.2) rfl fun H1 cA e1 z1 o1 hAr hNm => ?_
  have hid : cA = ids cn := by
    rw [hat] at hNm
    rcases (show cn = 0 ∨ cn = 1 by omega) with rfl | rfl
    · exact Option.some.inj (hNm.symm.trans (C.2.2.2.K.2 0 _ rfl).2)
    · exact Option.some.inj (hNm.symm.trans (C.2.2.2.K.2 1 _ rfl).2)
  subst hid
  rw [hsz] at e1 ⊢
  refine k H1 locs arr (h1.push (n := n) ?_ hsz o1) (fun n' hn' => by cases hn'; omega) ⟨Nat.le_trans h3.1 (by omega), fun x a1 a2 => (o1 x (Nat.lt_of_lt_of_le a1 h3.1)).trans (h3.2.1 x a1 a2), h3.2.2⟩ h4
  rw [hat] at e1
  rcases (show cn = 0 ∨ cn = 1 by omega) with rfl | rfl
  · show H1[_]? = some (vp_cell _ _)
    rw [e1, vp_cell_i]
    congr 2; funext j; rw [hz]; rfl
  · show H1[_]? = some (vp_cell _ _)
    rw [e1, vp_cell_i]
    congr 2; funext j; rw [hz]; rfl
theorem jv_newq (C : jv_C p s m args c cc own s0 b0 D ids) {n cn N : Nat} {K : String} (hK : jv_ty (cn + 3) = .object K) (hcn : cn < 2) (hcl : Cond.classLink own idx K ∈ jv_tb) (hov : Cond.arrayOver (.object K) ∈ lw_tbl) (hN : Nat.ble N 8000 = true) (hcs : Nat.ble (cells + 1) R.cells = true ∧ Nat.ble (slots + N) R.slots = true) (hd : decode cc pc = .ok (.anewarray idx, 3)) (k : jv_V p l e R s m args below meth c (cells + 1) (slots + N) Z s0 D ids (some (n + 1)) (jv_su sh (n : Nat) (.inl (cn + 3, N, 0))) g (pc + 3) ls (.ref (s0.heap.size + ((n : Nat) : Int).toNat) :: st)) : jv_V p l e R s m args below meth c cells slots Z s0 D ids (some n) sh g pc ls (jv_i (N : Nat) :: st) := by
  intro H locs arr h1 h2 h3 h4
  have hts := C.2.2.2.hts (a := args)
  have hsz := h2 n rfl
  have hN' := Nat.le_of_ble_eq_true hN
  have hr : jv_r ((N : Nat) : Int) := ⟨by omega, by omega⟩
  have hn0 : ¬ Int32.ofInt ((N : Nat) : Int) < 0 := by rw [jv_r0, jv_rlt hr jv_rz]; omega
  have hcl' : (Int32.ofInt ((N : Nat) : Int)).toNatClampNeg = N := by
    show (Int32.ofInt ((N : Nat) : Int)).toInt.toNat = N
    rw [hr.to]; omega
  have hao : va_AO K s := va_AO.moved C.2.2.2.2.1.alike (va_AO.of (C.2.2.2.1.1 _ hov))
  refine W.anew C.1 C.2.1 C.2.2.1 (hts _ hcl) (va_AO.use hao) rfl hd rfl hn0 (by rw [hcl']; omega) (Nat.le_of_ble_eq_true hcs.1) (by rw [hcl']; exact Nat.le_of_ble_eq_true hcs.2) fun cA kA comp f1 f2 f3 f4 => ?_
  rw [hcl']
  generalize hH1 : H.push ({ cls := cA, slots := Array.replicate N .null, vm := .none } : Cell) = H1
  have z1 : H1.size = H.size + 1 := by rw [← hH1, Array.size_push]
  have e1 : H1[H.size]? = some (arrV cA N (fun _ => .null)) := by rw [← hH1, Array.getElem?_push_size, ← arrV_new]
  have o1 : ∀ q : Nat, q < H.size → H1[q]? = H[q]? := fun q hq => by rw [← hH1, Array.getElem?_push, if_neg (Nat.ne_of_lt hq)]
  have hid : cA = ids (cn + 3) := by
    rcases (show cn = 0 ∨ cn = 1 by omega) with rfl | rfl
    · have hk : RX3 = K := by simpa [jv_ty] using hK
      subst hk
      obtain ⟨_, _, _, _, _, q⟩ := (C.2.2.2.K.2 3 _ rfl).2
      exact Option.some.inj (f1.symm.trans q)
    · have hk : RX4 = K := by simpa [jv_ty] using hK
      subst hk
      obtain ⟨_, _, _, _, _, q⟩ := (C.2.2.2.K.2 4 _ rfl).2
      exact Option.some.inj (f1.symm.trans q)
  subst hid
  rw [hsz] at e1 ⊢
  refine k H1 locs arr (h1.push (n := n) ?_ hsz o1) (fun n' hn' => by cases hn'; omega) ⟨Nat.le_trans h3.1 (by omega), fun x a1 a2 => (o1 x (Nat.lt_of_lt_of_le a1 h3.1)).trans (h3.2.1 x a1 a2), h3.2.2⟩ h4
  show H1[_]? = some (vp_cell _ _)
  rw [e1]
  simp only [jv_E, vp_cell_q]
  congr 2
theorem jv_fs_setr {B : Nat} {g : jv_Mem} {i t : Int} {kf : Nat} {ds : List (Option (Option Int))} (hk : kf < ds.length) : (jv_fs B g i 0 ds).set kf (.ref (B + t.toNat)) = jv_fs B g i 0 (ds.set kf (some (some t))) := by
  apply List.ext_getElem?
  intro j
  rw [List.getElem?_set, jv_fs_len, jv_fs_get, jv_fs_get, List.getElem?_set]
  by_cases hj : kf = j
  · subst hj
    rw [if_pos rfl, if_pos hk, if_pos rfl, if_pos hk]
    rfl
  · rw [if_neg hj, if_neg hj]
theorem jv_putr (C : jv_C p s m args c cc own s0 b0 D ids) {i t : Int} {ci kf : Nat} {ty : FieldType} {ds : List (Option (Option Int))} (F : jv_F own idx ci kf ty true) (hin : meth.name = "<init>") (hs : sh i = some (.inr (ci, ds))) (hkf : kf < ds.length) (hfit : narrow ty (.ref (s0.heap.size + t.toNat)) = .ref (s0.heap.size + t.toNat) ∧ fits ty (.ref (s0.heap.size + t.toNat)) = true) (hd : decode cc pc = .ok (.putfield idx, 3)) (k : jv_V p l e R s m args below meth c cells slots Z s0 D ids ex (jv_su sh i (.inr (ci, ds.set kf (some (some t))))) g (pc + 3) ls st) : jv_V p l e R s m args below meth c cells slots Z s0 D ids ex sh g pc ls (.ref (s0.heap.size + t.toNat) :: .ref (s0.heap.size + i.toNat) :: st) := by
  intro H locs arr h1 h2 h3 h4
  obtain ⟨K, T, N, ty0, f1, f2, f3, f4, f5, f6, f7, f8, f9⟩ := F
  have hK := C.2.2.2.K
  have hts := C.2.2.2.hts (a := args)
  have hap := va_apart (own := own) hts f2 ty0 f7 f8 hK f1
  obtain ⟨r, g1, cell, q1, q2, q3, q4⟩ := (h1 i _ hs).2
  have hr : r = (K, T, N) := Option.some.inj (g1.symm.trans f1)
  subst hr
  obtain ⟨hS, hfc, kC, hkC, hkind⟩ := hK.1 ci _ f1
  obtain ⟨cf, kf', fi, f, hi, hsl⟩ := hS kf f3
  have hlay := hts _ (f2 _ (u_in_lay f3))
  unfold u_lay at hlay
  rw [if_pos f6] at hlay
  have hst := (u_facts hfc hkC (u_lays hts f2 f3) hi).1
  have hcf : m.cls = cf := by
    obtain ⟨_, _, c', _, _, _, -, -, hf', -, -, -, hown2, -⟩ := Cond.laysFinal_spec hlay
    have e1 : c' = cf := by have := hi.symm.trans hf'; simp at this; exact this.1.symm
    rw [f9 rfl] at hown2
    rw [← e1]; exact Option.some.inj (C.2.2.1.symm.trans hown2)
  have h6 := u_fits hfc hkC hkind (Or.inr hlay) hi f5 hfit.1 hfit.2
  refine W.putFinK C.1 C.2.1 C.2.2.1 (hts _ f4) hi hst hcf hin (by rw [q2]; exact h6) q1 q3 (by rw [hsl]; exact k2_hasslot (q4 kf f3)) rfl rfl hd fun H' e1 e2 e3 => ?_
  rw [hsl] at e1 ⊢
  refine k H' _ arr (h1.shp hs ?_ e3) (fun n hn => by rw [e2]; exact h2 n hn) (h3.put e2 e3 (Nat.le_add_right _ _)) h4
  refine ⟨_, f1, ?_⟩
  show t_OB _ _ _ _ _ (vp_V (jv_fs _ _ _ 0 _))
  rw [← jv_fs_setr hkf]
  refine t_OB.to (V := updV (vp_V (jv_fs s0.heap.size g i 0 ds)) kf _) ⟨_, e1, q2, q3, t_set q4 hap f3 _⟩ (fun j _ => vp_updV_set ?_ _ j)
  rw [jv_fs_len]
  exact hkf
theorem jv_aast (C : jv_C p s m args c cc own s0 b0 D ids) {i t x : Int} {cn n mm ci : Nat} {ds : List (Option (Option Int))} {r : vw_C} (hcn : cn < 2) (hs : sh i = some (.inl (cn + 3, n, mm))) (hv : sh t = some (.inr (ci, ds))) (hc : vwCl[ci]? = some r) (hr : jv_ty (cn + 3) = .object r.1) (hN : Nat.blt n 2147483648 = true) (hx : x = (mm : Nat)) (hm : mm < n) (ht : t.toNat = jv_ra cn mm) (hd : decode cc pc = .ok (.aastore, 1)) (k : jv_V p l e R s m args below meth c cells slots Z s0 D ids ex (jv_su sh i (.inl (cn + 3, n, mm + 1))) g (pc + 1) ls st) : jv_V p l e R s m args below meth c cells slots Z s0 D ids ex sh g pc ls (.ref (s0.heap.size + t.toNat) :: jv_i x :: .ref (s0.heap.size + i.toNat) :: st) := by
  intro H locs arr h1 h2 h3 h4
  obtain ⟨a1, a2⟩ := jv_in (x := x) (n := n) (by omega) (by omega) hN
  have a3 : (Int32.ofInt x).toNatClampNeg = mm := by omega
  have hK := C.2.2.2.K
  obtain ⟨r', hr', cellV, g1, g2, g3, -⟩ := (h1 t _ hv).2
  have hcls := (hK.1 ci r hc).2
  have htt : (jv_tys ids)[cn + 3]? = some (ids (cn + 3), jv_ty (cn + 3)) := by
    rcases (show cn = 0 ∨ cn = 1 by omega) with rfl | rfl <;> rfl
  have hRA := (hK.2 (cn + 3) _ htt).2
  rw [show jv_ty (cn + 3) = _ from hr] at hRA
  obtain ⟨kA, comp, k1, k2, k3, -⟩ := hRA
  have hcomp : comp = D.1 ci := Option.some.inj (k3.symm.trans hcls.1)
  subst hcomp
  obtain ⟨kC, hkC, -⟩ := hcls.2
  have hat : H[s0.heap.size + i.toNat]? = some (arrV (ids (cn + 3)) n (fun j => va_rf (if j < mm then some (s0.heap.size + jv_ra cn j) else none))) := (h1 i _ hs).2
  refine W.aast C.1 C.2.1 hat (fun q h => by cases h) (fun h => by cases h) k1 k2 rfl hkC ⟨fun q => a1 (Or.inl q), by show _ < (arrV _ _ _).slots.size; rw [arrV_size, a3]; exact hm⟩ g1 (fun q h => by rw [g3] at h; cases h) (by rw [g2]; exact hkC) (by rw [g2]; exact va_assign hcls) rfl rfl hd fun H1 e z oq => ?_
  refine k H1 _ arr (h1.shp hs ?_ oq) (fun n hn => by rw [z]; exact h2 n hn) (h3.put z oq (Nat.le_add_right _ _)) h4
  show H1[s0.heap.size + i.toNat]? = some (vp_cell _ _)
  rw [e]
  simp only [jv_E, vp_cell_q]
  rw [arrV_store, a3]
  congr 2
  funext q
  by_cases hq : q = mm
  · subst hq
    simp [updV, va_rf, ht]
  · have : (q < mm + 1) = (q < mm) := by
      apply propext; constructor <;> intro h <;> omega
    simp [updV, hq, this]
theorem jv_callI (C : jv_C p s m args c cc own s0 b0 D ids) {a : Addr} (M : jv_M l s0 b0 D ids y cb mL none fr lo mc ms ex sh g (.ref a :: As) ex' sh' Q) (hK : jv_KI own idx y cb mL n) (hn : As.length = n) (hR : Nat.ble (fr + 1) R.frames = true ∧ Nat.ble (8 + (mL + 11) + lo) R.locals = true) (hst : st0 = As.reverse ++ .ref a :: st) (hroom : Nat.ble (st.map fun v => v.category).sum 8 = true) (hf : Nat.ble (cells + mc) R.cells = true ∧ Nat.ble (slots + ms) R.slots = true) (hd : decode cc pc = .ok (.invokespecial idx, 3))
    (k : ∀ v g', Q v g' → jv_V p l e R s m args below meth c (cells + mc) (slots + ms) Z s0 D ids ex' sh' g' (pc + 3) ls (v.toList ++ st)) : jv_V p l e R s m args below meth c cells slots Z s0 D ids ex sh g pc ls st0 := by
  intro H locs arr h1 h2 h3 h4
  obtain ⟨k1, k2, k3, k4, k5, k6⟩ := hK
  have hts := C.2.2.2.hts (a := args)
  exact jv_back (va_runI (jv_fix C) M (cwI n hts (jv_good (fun w hw => by rw [List.mem_singleton.mp hw]; exact k4)) rfl rfl rfl (hts _ k3) (hts _ k1) (hts _ k2) k5 k6 ⟨Nat.le_of_ble_eq_true hR.1, Nat.le_of_ble_eq_true hR.2⟩) ⟨jv_Pc.blind, fun U hU hW => jv_G.pre C h1 h2 h3 U hU hW⟩ rfl hn h4.1.1 hst (lv_room (Nat.le_of_ble_eq_true hroom)) hd ⟨Nat.le_of_ble_eq_true hf.1, Nat.le_of_ble_eq_true hf.2⟩) h3 h4 k
theorem jv_callIN (C : jv_C p s m args c cc own s0 b0 D ids) {a : Addr} (M : jv_M l s0 b0 D ids y cb mL none fr lo mc ms ex sh g (.ref a :: As) ex' sh' Q) (hK : jv_KIN own idx y host cb mL n) (hn : As.length = n) (hR : Nat.ble (fr + 1) R.frames = true ∧ Nat.ble (8 + (mL + 11) + lo) R.locals = true) (hst : st0 = As.reverse ++ .ref a :: st) (hroom : Nat.ble (st.map fun v => v.category).sum 8 = true) (hf : Nat.ble (cells + mc) R.cells = true ∧ Nat.ble (slots + ms) R.slots = true) (hd : decode cc pc = .ok (.invokespecial idx, 3))
    (k : ∀ v g', Q v g' → jv_V p l e R s m args below meth c (cells + mc) (slots + ms) Z s0 D ids ex' sh' g' (pc + 3) ls (v.toList ++ st)) : jv_V p l e R s m args below meth c cells slots Z s0 D ids ex sh g pc ls st0 := by
  intro H locs arr h1 h2 h3 h4
  obtain ⟨k1, k2, k3, k4, k5, k6⟩ := hK
  have hts := C.2.2.2.hts (a := args)
  have hl : va_Nw (.methodLinkNest own idx y host) s := va_Nw.warmM C.2.2.2.2.1 (va_Nw.of rfl (C.2.2.2.1.1 _ k1))
  exact jv_back (va_runIN (jv_fix C) M ⟨va_cnB n hts (jv_good (fun w hw => by rw [List.mem_singleton.mp hw]; exact k4)) rfl rfl rfl hl (hts _ k3) k6 ⟨Nat.le_of_ble_eq_true hR.1, Nat.le_of_ble_eq_true hR.2⟩, k5, hts _ k2⟩ ⟨jv_Pc.blind, fun U hU hW => jv_G.pre C h1 h2 h3 U hU hW⟩ rfl hn h4.1.1 hst (lv_room (Nat.le_of_ble_eq_true hroom)) hd ⟨Nat.le_of_ble_eq_true hf.1, Nat.le_of_ble_eq_true hf.2⟩) h3 h4 k
end JVK
