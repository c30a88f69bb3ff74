-- PART 03: the world of the class
abbrev ia_E : Type := (Nat → ClassId) × (Nat → Nat → Nat) × (Nat → Nat) × ClassId × ClassId
abbrev ia_D (E : ia_E) : va_G := (E.1, E.2.1)
abbrev ia_h (E : ia_E) (k : Nat) : Nat := E.2.2.1 k
abbrev ia_I (E : ia_E) : ClassId := E.2.2.2.1
abbrev ia_Z (E : ia_E) : ClassId := E.2.2.2.2
abbrev ia_fs (E : ia_E) (n : Nat) : List Value := [.int (nI n), .ref (ia_h E 1), .ref (ia_h E 2), .ref (ia_h E 3), .ref (ia_h E 4), .ref (ia_h E 5), .ref (ia_h E 6), .ref (ia_h E 7), .ref (ia_h E 8), .ref (ia_h E 9), .ref (ia_h E 10), .ref (ia_h E 11), .ref (ia_h E 12), .ref (ia_h E 13)]
abbrev ia_w (E : ia_E) (n : Nat) (g : Nat → Nat → Nat) : va_W := [(ia_h E 0, .inr (0, ia_fs E n)), (ia_h E 1, .inl (ia_I E, 400, .inl (fun j => nI (g 1 j)))), (ia_h E 2, .inl (ia_I E, 400, .inl (fun j => nI (g 2 j)))), (ia_h E 3, .inl (ia_I E, 400, .inl (fun j => nI (g 3 j)))), (ia_h E 4, .inl (ia_I E, 400, .inl (fun j => nI (g 4 j)))), (ia_h E 5, .inl (ia_I E, 400, .inl (fun j => nI (g 5 j)))), (ia_h E 6, .inl (ia_Z E, 400, .inl (fun j => nI (g 6 j)))), (ia_h E 7, .inl (ia_Z E, 400, .inl (fun j => nI (g 7 j)))), (ia_h E 8, .inl (ia_Z E, 400, .inl (fun j => nI (g 8 j)))), (ia_h E 9, .inl (ia_Z E, 400, .inl (fun j => nI (g 9 j)))), (ia_h E 10, .inl (ia_Z E, 400, .inl (fun j => nI (g 10 j)))), (ia_h E 11, .inl (ia_I E, 400, .inl (fun j => nI (g 11 j)))), (ia_h E 12, .inl (ia_I E, 400, .inl (fun j => nI (g 12 j)))), (ia_h E 13, .inl (ia_I E, 400, .inl (fun j => nI (g 13 j))))]
abbrev ia_ty (E : ia_E) : List (ClassId × FieldType) := [(ia_I E, .int), (ia_Z E, .boolean)]
def ia_O (E : ia_E) (n : Nat) (g : Nat → Nat → Nat) (U : State) (H : Heap) : Prop := va_K (ia_D E) vwCl (ia_ty E) U ∧ va_P (ia_D E) vwCl (ia_w E n g) H
abbrev ia_up (g : Nat → Nat → Nat) (k j v : Nat) : Nat → Nat → Nat := fun a => if a = k then (fun b => if b = j then v else g a b) else g a
theorem ia_upe (g : Nat → Nat → Nat) (k j v : Nat) : upd (fun b => nI (g k b)) j (nI v) = fun b => nI (ia_up g k j v k b) := by
  funext b
  unfold upd
  by_cases h : b = j <;> simp [ia_up, h]
theorem ia_set1 (E : ia_E) (n : Nat) (g : Nat → Nat → Nat) (j v : Nat) : (ia_w E n g).set 1 (ia_h E 1, .inl (ia_I E, 400, .inl (upd (fun b => nI (g 1 b)) j (nI v)))) = ia_w E n (ia_up g 1 j v) := by
  rw [ia_upe]; rfl
theorem ia_set2 (E : ia_E) (n : Nat) (g : Nat → Nat → Nat) (j v : Nat) : (ia_w E n g).set 2 (ia_h E 2, .inl (ia_I E, 400, .inl (upd (fun b => nI (g 2 b)) j (nI v)))) = ia_w E n (ia_up g 2 j v) := by
  rw [ia_upe]; rfl
theorem ia_set3 (E : ia_E) (n : Nat) (g : Nat → Nat → Nat) (j v : Nat) : (ia_w E n g).set 3 (ia_h E 3, .inl (ia_I E, 400, .inl (upd (fun b => nI (g 3 b)) j (nI v)))) = ia_w E n (ia_up g 3 j v) := by
  rw [ia_upe]; rfl
theorem ia_set4 (E : ia_E) (n : Nat) (g : Nat → Nat → Nat) (j v : Nat) : (ia_w E n g).set 4 (ia_h E 4, .inl (ia_I E, 400, .inl (upd (fun b => nI (g 4 b)) j (nI v)))) = ia_w E n (ia_up g 4 j v) := by
  rw [ia_upe]; rfl
theorem ia_set5 (E : ia_E) (n : Nat) (g : Nat → Nat → Nat) (j v : Nat) : (ia_w E n g).set 5 (ia_h E 5, .inl (ia_I E, 400, .inl (upd (fun b => nI (g 5 b)) j (nI v)))) = ia_w E n (ia_up g 5 j v) := by
  rw [ia_upe]; rfl
theorem ia_set6 (E : ia_E) (n : Nat) (g : Nat → Nat → Nat) (j v : Nat) : (ia_w E n g).set 6 (ia_h E 6, .inl (ia_Z E, 400, .inl (upd (fun b => nI (g 6 b)) j (nI v)))) = ia_w E n (ia_up g 6 j v) := by
  rw [ia_upe]; rfl
theorem ia_set7 (E : ia_E) (n : Nat) (g : Nat → Nat → Nat) (j v : Nat) : (ia_w E n g).set 7 (ia_h E 7, .inl (ia_Z E, 400, .inl (upd (fun b => nI (g 7 b)) j (nI v)))) = ia_w E n (ia_up g 7 j v) := by
  rw [ia_upe]; rfl
theorem ia_set8 (E : ia_E) (n : Nat) (g : Nat → Nat → Nat) (j v : Nat) : (ia_w E n g).set 8 (ia_h E 8, .inl (ia_Z E, 400, .inl (upd (fun b => nI (g 8 b)) j (nI v)))) = ia_w E n (ia_up g 8 j v) := by
  rw [ia_upe]; rfl
theorem ia_set9 (E : ia_E) (n : Nat) (g : Nat → Nat → Nat) (j v : Nat) : (ia_w E n g).set 9 (ia_h E 9, .inl (ia_Z E, 400, .inl (upd (fun b => nI (g 9 b)) j (nI v)))) = ia_w E n (ia_up g 9 j v) := by
  rw [ia_upe]; rfl
theorem ia_set10 (E : ia_E) (n : Nat) (g : Nat → Nat → Nat) (j v : Nat) : (ia_w E n g).set 10 (ia_h E 10, .inl (ia_Z E, 400, .inl (upd (fun b => nI (g 10 b)) j (nI v)))) = ia_w E n (ia_up g 10 j v) := by
  rw [ia_upe]; rfl
theorem ia_set11 (E : ia_E) (n : Nat) (g : Nat → Nat → Nat) (j v : Nat) : (ia_w E n g).set 11 (ia_h E 11, .inl (ia_I E, 400, .inl (upd (fun b => nI (g 11 b)) j (nI v)))) = ia_w E n (ia_up g 11 j v) := by
  rw [ia_upe]; rfl
theorem ia_set12 (E : ia_E) (n : Nat) (g : Nat → Nat → Nat) (j v : Nat) : (ia_w E n g).set 12 (ia_h E 12, .inl (ia_I E, 400, .inl (upd (fun b => nI (g 12 b)) j (nI v)))) = ia_w E n (ia_up g 12 j v) := by
  rw [ia_upe]; rfl
theorem ia_set13 (E : ia_E) (n : Nat) (g : Nat → Nat → Nat) (j v : Nat) : (ia_w E n g).set 13 (ia_h E 13, .inl (ia_I E, 400, .inl (upd (fun b => nI (g 13 b)) j (nI v)))) = ia_w E n (ia_up g 13 j v) := by
  rw [ia_upe]; rfl
section ZX
variable {p : Program} {l : Launch} {e : Env} {R : Room} {s : State} {m : MethodId} {args : Array Value} {below : List Frame} {meth : Method} {c : Code} {H : Heap} {locs : List Loc} {cells slots : Nat} {Q : State → Prop} {cc : ByteArray} {pc : Nat} {ls : Array Slot} {rest : List Value}
variable {E : ia_E} {n : Nat} {g : Nat → Nat → Nat} {A : Nat → Prop} {H0 : Heap}
theorem ia_get (k : Nat) {v : Value} {idx : Nat} (hx : p.tables.exec = Jvm.exec) (hb : c.code = cc) (ht : ∀ w ∈ tb, w.before args s = true) (hown : s.vm.findClass RX0 = some m.cls) (hO : ia_O E n g s H) (hk : k < 14) (hv : (ia_fs E n)[k]? = some v) (hl : Cond.fieldLink RX0 idx RX0 (TX0 k).2.1 (TX0 k).2.2.1 ∈ tb) (hs : (TX0 k).1 = RX0) (hd : decode cc pc = .ok (.getfield idx, 3))
    (kk : W p l e R s m args below meth c H locs cells slots Q (F0 m (pc + 3) ls (v :: rest))) : W p l e R s m args below meth c H locs cells slots Q (F0 m pc ls (.ref (ia_h E 0) :: rest)) :=
  va_get (D := ia_D E) (ci := 0) (v := v) (C := RX0) (T := TX0) (N := 14) hx hb ht inX0 hown hO.1 hO.2 0 rfl rfl k hk (ht _ hl) (fun _ h9 => by rw [hs] at h9; exact h9) hv hd kk
theorem ia_ild (k j : Nat) (hx : p.tables.exec = Jvm.exec) (hb : c.code = cc) (hO : ia_O E n g s H) (ha : (ia_w E n g)[k]? = some (ia_h E k, .inl (ia_I E, 400, .inl (fun j => nI (g k j))))) (hj : j < 400) (hd : decode cc pc = .ok (.iaload, 1))
    (kk : W p l e R s m args below meth c H locs cells slots Q (F0 m (pc + 1) ls (.int (nI (g k j)) :: rest))) : W p l e R s m args below meth c H locs cells slots Q (F0 m pc ls (.int (nI j) :: .ref (ia_h E k) :: rest)) :=
  va_iald hx hb hO.1 hO.2 k 0 ha rfl (vp_in_nI hj (by decide)) hd (by rw [nI_clamp (by omega)]; exact kk)
theorem ia_zld (k j : Nat) (hx : p.tables.exec = Jvm.exec) (hb : c.code = cc) (hO : ia_O E n g s H) (ha : (ia_w E n g)[k]? = some (ia_h E k, .inl (ia_Z E, 400, .inl (fun j => nI (g k j))))) (hj : j < 400) (hd : decode cc pc = .ok (.baload, 1))
    (kk : W p l e R s m args below meth c H locs cells slots Q (F0 m (pc + 1) ls (.int (nI (g k j)) :: rest))) : W p l e R s m args below meth c H locs cells slots Q (F0 m pc ls (.int (nI j) :: .ref (ia_h E k) :: rest)) :=
  va_zald hx hb hO.1 hO.2 k 1 ha rfl (vp_in_nI hj (by decide)) hd (by rw [nI_clamp (by omega)]; exact kk)
theorem ia_ist (k j v : Nat) (hx : p.tables.exec = Jvm.exec) (hb : c.code = cc) (hO : ia_O E n g s H) (hD : va_D A (ia_w E n g)) (hS : va_S A H0 H locs) (ha : (ia_w E n g)[k]? = some (ia_h E k, .inl (ia_I E, 400, .inl (fun j => nI (g k j))))) (hset : (ia_w E n g).set k (ia_h E k, .inl (ia_I E, 400, .inl (upd (fun b => nI (g k b)) j (nI v)))) = ia_w E n (ia_up g k j v)) (hj : j < 400) (hd : decode cc pc = .ok (.iastore, 1))
    (kk : ∀ (H1 : Heap) (locs1 : List Loc), ia_O E n (ia_up g k j v) s H1 → va_D A (ia_w E n (ia_up g k j v)) → va_S A H0 H1 locs1 → W p l e R s m args below meth c H1 locs1 cells slots Q (F0 m (pc + 1) ls rest)) : W p l e R s m args below meth c H locs cells slots Q (F0 m pc ls (.int (nI v) :: .int (nI j) :: .ref (ia_h E k) :: rest)) :=
  va_iast hx hb hO.1 hO.2 hD hS k 0 ha rfl (vp_in_nI hj (by decide)) hd (fun H1 locs1 h1 h2 h3 => by
    rw [nI_clamp (by omega), hset] at h1 h2
    exact kk H1 locs1 ⟨hO.1, h1⟩ h2 h3)
theorem ia_zst (k j v : Nat) (hx : p.tables.exec = Jvm.exec) (hb : c.code = cc) (hO : ia_O E n g s H) (hD : va_D A (ia_w E n g)) (hS : va_S A H0 H locs) (ha : (ia_w E n g)[k]? = some (ia_h E k, .inl (ia_Z E, 400, .inl (fun j => nI (g k j))))) (hset : (ia_w E n g).set k (ia_h E k, .inl (ia_Z E, 400, .inl (upd (fun b => nI (g k b)) j (nI v)))) = ia_w E n (ia_up g k j v)) (hj : j < 400) (hv : v ≤ 1) (hd : decode cc pc = .ok (.bastore, 1))
    (kk : ∀ (H1 : Heap) (locs1 : List Loc), ia_O E n (ia_up g k j v) s H1 → va_D A (ia_w E n (ia_up g k j v)) → va_S A H0 H1 locs1 → W p l e R s m args below meth c H1 locs1 cells slots Q (F0 m (pc + 1) ls rest)) : W p l e R s m args below meth c H locs cells slots Q (F0 m pc ls (.int (nI v) :: .int (nI j) :: .ref (ia_h E k) :: rest)) :=
  va_zast hx hb hO.1 hO.2 hD hS k 1 ha rfl (vp_in_nI hj (by decide)) hd (fun H1 locs1 h1 h2 h3 => by
    rw [nI_clamp (by omega), zk_vnar hv, hset] at h1 h2
    exact kk H1 locs1 ⟨hO.1, h1⟩ h2 h3)
theorem ia_putn (n' : Nat) {idx : Nat} (hx : p.tables.exec = Jvm.exec) (hb : c.code = cc) (ht : ∀ w ∈ tb, w.before args s = true) (hown : s.vm.findClass RX0 = some m.cls) (hO : ia_O E n g s H) (hD : va_D A (ia_w E n g)) (hS : va_S A H0 H locs) (hl : Cond.fieldLink RX0 idx RX0 (TX0 0).2.1 (TX0 0).2.2.1 ∈ tb) (hd : decode cc pc = .ok (.putfield idx, 3))
    (kk : ∀ (H1 : Heap) (locs1 : List Loc), ia_O E n' g s H1 → va_D A (ia_w E n' g) → va_S A H0 H1 locs1 → W p l e R s m args below meth c H1 locs1 cells slots Q (F0 m (pc + 3) ls rest)) : W p l e R s m args below meth c H locs cells slots Q (F0 m pc ls (.int (nI n') :: .ref (ia_h E 0) :: rest)) :=
  va_put (D := ia_D E) (ci := 0) (v := .int (nI n')) (ty := .int) (C := RX0) (T := TX0) (N := 14) hx hb ht inX0 tyX0 tyX0_ok nmX0 hown hO.1 hO.2 hD hS 0 rfl rfl 0 (by decide) (ht _ hl) (fun _ h9 => h9) rfl (by decide +kernel) rfl rfl (Nat.le_of_ble_eq_true rfl) hd (fun H1 locs1 h1 h2 h3 => kk H1 locs1 ⟨hO.1, h1⟩ h2 h3)
theorem ia_max {a b nL : Nat} {idx : Nat} (hx : p.tables.exec = Jvm.exec) (hb : c.code = cc) (hml : c.maxLocals = nL) (hls : ls.size = nL) (ht : ∀ w ∈ tb, w.before args s = true) (hown : s.vm.findClass RX0 = some m.cls) (ha : a < 2 ^ 31) (hb' : b < 2 ^ 31) (hl : Cond.methodLink RX0 idx Lib.Math.max.name ∈ tb) (hf : 1 ≤ R.frames) (hR : (rest.map fun v => v.category).sum + 13 ≤ R.locals) (hc : cells ≤ R.cells ∧ slots ≤ R.slots) (hd : decode cc pc = .ok (.invokestatic idx, 3))
    (kk : W p l e R s m args below meth c H locs cells slots Q (F0 m (pc + 3) ls (.int (nI (max a b)) :: rest))) : W p l e R s m args below meth c H locs cells slots Q (F0 m pc ls (.int (nI b) :: .int (nI a) :: rest)) :=
  va_mmax hx hb (hml.trans hls.symm) hown (ht _ hl) (ht _ ia_max1) (ht _ ia_max2) (ht _ ia_max3) hf hR hc.1 hc.2 hd (zk_top (zk_max ha hb') kk)
end ZX
abbrev ia_rm (d : Nat) : Room := { frames := d, cells := 0, slots := 0, locals := 40 * d }
abbrev ia_ws (y : MethodName) (b : ByteArray) (mL : Nat) (r : Option FieldType) : List Cond := Cond.code y b mL r :: tb
/-- a reading method of the class: it answers v, and no cell changes -/
abbrev ia_R (l : Launch) (y : MethodName) (b : ByteArray) (mL : Nat) (ty : FieldType) (d : Nat) (E : ia_E) (n : Nat) (g : Nat → Nat → Nat) (As : List Value) (v : Int32) : Prop := Met l y (ia_ws y b mL (some ty)) (ia_rm d) (va_Pc (.ref (ia_h E 0) :: As) (fun U => ia_O E n g U U.heap)) (vp_Si (fun r => r = v)) 0 0 (fun _ => False)
/-- a static method that reads nothing -/
abbrev ia_T (l : Launch) (y : MethodName) (b : ByteArray) (mL : Nat) (ty : FieldType) (d : Nat) (As : List Value) (v : Int32) : Prop := Met l y (ia_ws y b mL (some ty)) (ia_rm d) (va_Pc As (fun _ => True)) (vp_Si (fun r => r = v)) 0 0 (fun _ => False)
/-- a changing method of the class: it answers nothing (ret none) / r; the row becomes (n2, g2) -/
abbrev ia_at (E : ia_E) (A : Nat → Prop) (u : Nat × (Nat → Nat → Nat)) (t : State) : Prop := ia_O E u.1 u.2 t t.heap ∧ va_D A (ia_w E u.1 u.2)
abbrev ia_P0 (E : ia_E) (n : Nat) (g : Nat → Nat → Nat) (sz : Nat) : State → Prop := fun U => U.heap.size = sz ∧ ia_O E n g U U.heap ∧ va_D (fun _ => True) (ia_w E n g)
abbrev ia_V (l : Launch) (y : MethodName) (b : ByteArray) (mL : Nat) (d : Nat) (E : ia_E) (n : Nat) (g : Nat → Nat → Nat) (sz : Nat) (As : List Value) (n2 : Nat) (g2 : Nat → Nat → Nat) : Prop := Met l y (ia_ws y b mL none) (ia_rm d) (va_Pc (.ref (ia_h E 0) :: As) (ia_P0 E n g sz)) (va_Qv (fun u : Nat × (Nat → Nat → Nat) => u = (n2, g2)) (ia_at E (va_A (ia_w E n g) sz)) (va_A (ia_w E n g) sz)) 0 0 (va_A (ia_w E n g) sz)
abbrev ia_M (l : Launch) (y : MethodName) (b : ByteArray) (mL : Nat) (ty : FieldType) (d : Nat) (E : ia_E) (n : Nat) (g : Nat → Nat → Nat) (sz : Nat) (As : List Value) (v : Int32) (n2 : Nat) (g2 : Nat → Nat → Nat) : Prop := Met l y (ia_ws y b mL (some ty)) (ia_rm d) (va_Pc (.ref (ia_h E 0) :: As) (ia_P0 E n g sz)) (va_Qi (fun (r : Int32) (u : Nat × (Nat → Nat → Nat)) => r = v ∧ u = (n2, g2)) (ia_at E (va_A (ia_w E n g) sz)) (va_A (ia_w E n g) sz)) 0 0 (va_A (ia_w E n g) sz)
theorem ia_gV {own C : String} {idx : Nat} {y : MethodName} {b : ByteArray} {mL : Nat} {r : Option FieldType} (h1 : Cond.methodLink own idx y ∈ tb) (h2 : Cond.instanceMethod y ∈ tb) (h3 : Cond.selects C y y ∈ tb) (h4 : Cond.initialized C ∈ tb) (h5 : Cond.code y b mL r ∈ tb) : GoodIn tb (wsV own idx C y (ia_ws y b mL r)) := by
  intro w hw
  refine tb_good w ?_
  simp only [wsV, ia_ws, List.cons_append, List.nil_append, List.mem_cons] at hw
  rcases hw with rfl | rfl | rfl | rfl | rfl | hw
  · exact h1
  · exact h2
  · exact h3
  · exact h4
  · exact h5
  · exact hw
theorem ia_gS {own : String} {idx : Nat} {y : MethodName} {b : ByteArray} {mL : Nat} {r : Option FieldType} (h1 : Cond.methodLink own idx y ∈ tb) (h2 : Cond.static y ∈ tb) (h4 : Cond.initialized own ∈ tb) (h5 : Cond.code y b mL r ∈ tb) : GoodIn tb (wsS own idx y (ia_ws y b mL r)) := by
  intro w hw
  refine tb_good w ?_
  simp only [wsS, ia_ws, List.cons_append, List.nil_append, List.mem_cons] at hw
  rcases hw with rfl | rfl | rfl | rfl | hw
  · exact h1
  · exact h2
  · exact h4
  · exact h5
  · exact hw
/-- the beginning of a reading method -/
theorem ia_Rof {l : Launch} {y : MethodName} {b : ByteArray} {mL : Nat} {ty : FieldType} {d : Nat} {E : ia_E} {n : Nat} {g : Nat → Nat → Nat} {As : List Value} {v : Int32} (hy : plainName y.cls = true) (hc : y.cls = RX0) (hle : (lg_sl (.ref (ia_h E 0) :: As)).length ≤ mL)
    (k : ∀ (p : Program) (e : Env) (s : State) (m : MethodId) (args : Array Value) (below : List Frame) (meth : Method) (c : Code) (ls : Array Slot), p.tables.exec = Jvm.exec → c.code = b → meth.sig.returnType = some ty → c.maxLocals = mL → s.vm.findClass RX0 = some m.cls → (∀ w ∈ tb, w.before args s = true) → meth.locks = false → ia_O E n g s s.heap → lv_has ls mL (lv_args 0 (.ref (ia_h E 0) :: As)) →
      W p l e (ia_rm d) s m args below meth c s.heap [] 0 0 (MQ below (vp_Si (fun r => r = v)) args s 0 0 (fun _ => False)) (F0 m 0 ls [])) : ia_R l y b mL ty d E n g As v := by
  refine Met.ofW (cc := b) (maxL := mL) (ret := some ty) hy rfl ?_
  intro p e s m args below meth c s₁ B hml hv
  obtain ⟨rfl, hO⟩ := hv
  have hts := atoms_spec (ws := ia_ws y b mL (some ty)) B.pre
  have hown : s.vm.findClass RX0 = some m.cls := hc ▸ findClass_of_methodNamed B.named
  have hl := lv_entry (.ref (ia_h E 0) :: As) (n := mL) hle
  rw [lg_entry_eq]
  exact k p e s m _ below meth c _ B.exec B.bytes B.returns hml hown (fun w h => hts w (List.mem_cons_of_mem _ h)) B.notSynchronized hO hl
/-- the beginning of a static method that reads nothing -/
theorem ia_Tof {l : Launch} {y : MethodName} {b : ByteArray} {mL : Nat} {ty : FieldType} {d : Nat} {As : List Value} {v : Int32} (hy : plainName y.cls = true) (hle : (lg_sl As).length ≤ mL)
    (k : ∀ (p : Program) (e : Env) (s : State) (m : MethodId) (args : Array Value) (below : List Frame) (meth : Method) (c : Code) (ls : Array Slot), p.tables.exec = Jvm.exec → c.code = b → meth.sig.returnType = some ty → meth.locks = false → lv_has ls mL (lv_args 0 As) →
      W p l e (ia_rm d) s m args below meth c s.heap [] 0 0 (MQ below (vp_Si (fun r => r = v)) args s 0 0 (fun _ => False)) (F0 m 0 ls [])) : ia_T l y b mL ty d As v := by
  refine Met.ofW (cc := b) (maxL := mL) (ret := some ty) hy rfl ?_
  intro p e s m args below meth c s₁ B hml hv
  obtain ⟨rfl, -⟩ := hv
  have hl := lv_entry As (n := mL) hle
  rw [lg_entry_eq]
  exact k p e s m _ below meth c _ B.exec B.bytes B.returns B.notSynchronized hl
/-- the beginning of a changing method that answers nothing -/
theorem ia_Vof {l : Launch} {y : MethodName} {b : ByteArray} {mL : Nat} {d : Nat} {E : ia_E} {n : Nat} {g : Nat → Nat → Nat} {sz : Nat} {As : List Value} {n2 : Nat} {g2 : Nat → Nat → Nat} (hy : plainName y.cls = true) (hc : y.cls = RX0) (hle : (lg_sl (.ref (ia_h E 0) :: As)).length ≤ mL)
    (k : ∀ (p : Program) (e : Env) (s : State) (m : MethodId) (args : Array Value) (below : List Frame) (meth : Method) (c : Code) (ls : Array Slot) (A : Nat → Prop), p.tables.exec = Jvm.exec → c.code = b → meth.sig.returnType = none → c.maxLocals = mL → s.vm.findClass RX0 = some m.cls → (∀ w ∈ tb, w.before args s = true) → meth.locks = false → (∀ q : Nat, s.heap.size ≤ q → A q) → ia_O E n g s s.heap → va_D A (ia_w E n g) → va_S A s.heap s.heap [] → lv_has ls mL (lv_args 0 (.ref (ia_h E 0) :: As)) →
      W p l e (ia_rm d) s m args below meth c s.heap [] 0 0 (MQ below (va_Qv (fun u : Nat × (Nat → Nat → Nat) => u = (n2, g2)) (ia_at E A) A) args s 0 0 A) (F0 m 0 ls [])) : ia_V l y b mL d E n g sz As n2 g2 := by
  refine Met.ofW (cc := b) (maxL := mL) (ret := none) hy rfl ?_
  intro p e s m args below meth c s₁ B hml hv
  obtain ⟨rfl, hsz, hO, hD0⟩ := hv
  have hts := atoms_spec (ws := ia_ws y b mL none) B.pre
  have hown : s.vm.findClass RX0 = some m.cls := hc ▸ findClass_of_methodNamed B.named
  subst hsz
  have hD := hD0.self (sz := s.heap.size)
  have hl := lv_entry (.ref (ia_h E 0) :: As) (n := mL) hle
  rw [lg_entry_eq]
  exact k p e s m _ below meth c _ _ B.exec B.bytes B.returns hml hown (fun w h => hts w (List.mem_cons_of_mem _ h)) B.notSynchronized (fun q h => Or.inr h) hO hD va_S.rf hl
/-- the beginning of a changing method that answers an int -/
theorem ia_Mof {l : Launch} {y : MethodName} {b : ByteArray} {mL : Nat} {ty : FieldType} {d : Nat} {E : ia_E} {n : Nat} {g : Nat → Nat → Nat} {sz : Nat} {As : List Value} {v : Int32} {n2 : Nat} {g2 : Nat → Nat → Nat} (hy : plainName y.cls = true) (hc : y.cls = RX0) (hle : (lg_sl (.ref (ia_h E 0) :: As)).length ≤ mL)
    (k : ∀ (p : Program) (e : Env) (s : State) (m : MethodId) (args : Array Value) (below : List Frame) (meth : Method) (c : Code) (ls : Array Slot) (A : Nat → Prop), p.tables.exec = Jvm.exec → c.code = b → meth.sig.returnType = some ty → c.maxLocals = mL → s.vm.findClass RX0 = some m.cls → (∀ w ∈ tb, w.before args s = true) → meth.locks = false → (∀ q : Nat, s.heap.size ≤ q → A q) → ia_O E n g s s.heap → va_D A (ia_w E n g) → va_S A s.heap s.heap [] → lv_has ls mL (lv_args 0 (.ref (ia_h E 0) :: As)) →
      W p l e (ia_rm d) s m args below meth c s.heap [] 0 0 (MQ below (va_Qi (fun (r : Int32) (u : Nat × (Nat → Nat → Nat)) => r = v ∧ u = (n2, g2)) (ia_at E A) A) args s 0 0 A) (F0 m 0 ls [])) : ia_M l y b mL ty d E n g sz As v n2 g2 := by
  refine Met.ofW (cc := b) (maxL := mL) (ret := some ty) hy rfl ?_
  intro p e s m args below meth c s₁ B hml hv
  obtain ⟨rfl, hsz, hO, hD0⟩ := hv
  have hts := atoms_spec (ws := ia_ws y b mL (some ty)) B.pre
  have hown : s.vm.findClass RX0 = some m.cls := hc ▸ findClass_of_methodNamed B.named
  subst hsz
  have hD := hD0.self (sz := s.heap.size)
  have hl := lv_entry (.ref (ia_h E 0) :: As) (n := mL) hle
  rw [lg_entry_eq]
  exact k p e s m _ below meth c _ _ B.exec B.bytes B.returns hml hown (fun w h => hts w (List.mem_cons_of_mem _ h)) B.notSynchronized (fun q h => Or.inr h) hO hD va_S.rf hl
section ZY
variable {p : Program} {l : Launch} {e : Env} {R : Room} {s : State} {m : MethodId} {args : Array Value} {below : List Frame} {meth : Method} {c : Code} {H : Heap} {locs : List Loc} {cells slots : Nat} {Q : State → Prop} {cc : ByteArray} {pc : Nat} {ls : Array Slot} {rest : List Value}
variable {E : ia_E} {n : Nat} {g : Nat → Nat → Nat} {A : Nat → Prop} {H0 : Heap}
theorem ia_iret {a v : Int32} (hx : p.tables.exec = Jvm.exec) (hb : c.code = cc) (hr : meth.sig.returnType = some .int) (hlk : meth.locks = false) (h : a = v) (hd : decode cc pc = .ok (.ireturn, 1)) : W p l e R s m args below meth c s.heap [] 0 0 (MQ below (vp_Si (fun r => r = v)) args s 0 0 (fun _ => False)) (F0 m pc ls [.int a]) :=
  W.iret (v := a) hx hb hr (fun t ht _ => ⟨_, rfl, h, ht⟩) (fun q h => by cases h) hd
theorem ia_zret {a : Nat} {v : Int32} (hx : p.tables.exec = Jvm.exec) (hb : c.code = cc) (hr : meth.sig.returnType = some .boolean) (hlk : meth.locks = false) (h1 : a ≤ 1) (h : nI a = v) (hd : decode cc pc = .ok (.ireturn, 1)) : W p l e R s m args below meth c s.heap [] 0 0 (MQ below (vp_Si (fun r => r = v)) args s 0 0 (fun _ => False)) (F0 m pc ls [.int (nI a)]) :=
  W.zret (v := nI a) hx hb hr (zk_nar h1) (fun t ht _ => ⟨_, rfl, h, ht⟩) (fun q h => by cases h) hd
theorem ia_vret {n2 : Nat} {g2 : Nat → Nat → Nat} (hx : p.tables.exec = Jvm.exec) (hb : c.code = cc) (hr : meth.sig.returnType = none) (hlk : meth.locks = false) (hO : ia_O E n g s H) (hD : va_D A (ia_w E n g)) (hS : va_S A s.heap H locs) (h : (n, g) = (n2, g2)) (hd : decode cc pc = .ok (.return_, 1)) : W p l e R s m args below meth c H locs 0 0 (MQ below (va_Qv (fun u : Nat × (Nat → Nat → Nat) => u = (n2, g2)) (ia_at E A) A) args s 0 0 A) (F0 m pc ls []) :=
  W.vret hx hb hr (fun t ht hW => ⟨⟨(n, g), rfl, h, ⟨va_K.moved hW.alike hO.1, by rw [ht]; exact hO.2⟩, hD⟩, hS.F ht⟩) hS.2.2 hd
theorem ia_miret {a v : Int32} {n2 : Nat} {g2 : Nat → Nat → Nat} (hx : p.tables.exec = Jvm.exec) (hb : c.code = cc) (hr : meth.sig.returnType = some .int) (hlk : meth.locks = false) (hO : ia_O E n g s H) (hD : va_D A (ia_w E n g)) (hS : va_S A s.heap H locs) (h1 : a = v) (h : (n, g) = (n2, g2)) (hd : decode cc pc = .ok (.ireturn, 1)) : W p l e R s m args below meth c H locs 0 0 (MQ below (va_Qi (fun (r : Int32) (u : Nat × (Nat → Nat → Nat)) => r = v ∧ u = (n2, g2)) (ia_at E A) A) args s 0 0 A) (F0 m pc ls [.int a]) :=
  W.iret (v := a) hx hb hr (fun t ht hW => ⟨⟨a, (n, g), rfl, ⟨h1, h⟩, ⟨va_K.moved hW.alike hO.1, by rw [ht]; exact hO.2⟩, hD⟩, hS.F ht⟩) hS.2.2 hd
theorem ia_mzret {a : Nat} {v : Int32} {n2 : Nat} {g2 : Nat → Nat → Nat} (hx : p.tables.exec = Jvm.exec) (hb : c.code = cc) (hr : meth.sig.returnType = some .boolean) (hlk : meth.locks = false) (hO : ia_O E n g s H) (hD : va_D A (ia_w E n g)) (hS : va_S A s.heap H locs) (ha : a ≤ 1) (h1 : nI a = v) (h : (n, g) = (n2, g2)) (hd : decode cc pc = .ok (.ireturn, 1)) : W p l e R s m args below meth c H locs 0 0 (MQ below (va_Qi (fun (r : Int32) (u : Nat × (Nat → Nat → Nat)) => r = v ∧ u = (n2, g2)) (ia_at E A) A) args s 0 0 A) (F0 m pc ls [.int (nI a)]) :=
  W.zret (v := nI a) hx hb hr (zk_nar ha) (fun t ht hW => ⟨⟨nI a, (n, g), rfl, ⟨h1, h⟩, ⟨va_K.moved hW.alike hO.1, by rw [ht]; exact hO.2⟩, hD⟩, hS.F ht⟩) hS.2.2 hd
theorem ia_call {own : String} {y : MethodName} {b : ByteArray} {mL nL nA idx d : Nat} {ty : FieldType} {As st0 : List Value} {v : Int32} (hx : p.tables.exec = Jvm.exec) (hb : c.code = cc) (hml : c.maxLocals = nL) (hls : ls.size = nL) (hown : s.vm.findClass own = some m.cls) (ht : ∀ w ∈ tb, w.before args s = true) (hO : ia_O E n g s H) (hM : ia_R l y b mL ty d E n g As v) (hG : GoodIn tb (wsV own idx RX0 y (ia_ws y b mL (some ty)))) (hy : y.cls = RX0 ∧ y.cls ≠ "java/lang/invoke/MethodHandle" ∧ y.cls ≠ "java/lang/invoke/VarHandle" ∧ (parseMethodDescriptor y.desc).map (fun d => d.parameters.length) = some nA) (hn : As.length = nA) (hR : d + 1 ≤ R.frames ∧ 8 + (mL + 11) + 40 * d ≤ R.locals) (hc : cells ≤ R.cells ∧ slots ≤ R.slots) (hW : (rest.map fun v => v.category).sum ≤ 8) (hst : st0 = As.reverse ++ .ref (ia_h E 0) :: rest) (hd : decode cc pc = .ok (.invokevirtual idx, 3))
    (kk : W p l e R s m args below meth c H locs cells slots Q (F0 m (pc + 3) ls (.int v :: rest))) : W p l e R s m args below meth c H locs cells slots Q (F0 m pc ls st0) := by
  refine vp_callSi (W.runV (As := As) (rest := rest) ⟨hx, hb, hml, hown, ht⟩ hM (cwV nA ht hG rfl rfl rfl hy hR) ⟨fun a U g mk q => ⟨q.1, va_K.moved (u := U) (U := U.calling g mk a) (Vm.Alike.refl U.vm) q.2.1, q.2.2⟩, va_recv hO.1 hO.2 (ci := 0) (q0 := 0) rfl rfl, fun U hU hW => ⟨rfl, va_K.moved hW.alike hO.1, by rw [hU]; exact hO.2⟩⟩ rfl hn hls hst (lv_room hW) hd hc) (fun r h => ?_)
  rw [h]; exact kk
theorem ia_callS {y : MethodName} {b : ByteArray} {mL nL nA idx d : Nat} {ty : FieldType} {As st0 : List Value} {v : Int32} (hx : p.tables.exec = Jvm.exec) (hb : c.code = cc) (hml : c.maxLocals = nL) (hls : ls.size = nL) (hown : s.vm.findClass RX0 = some m.cls) (ht : ∀ w ∈ tb, w.before args s = true) (hM : ia_T l y b mL ty d As v) (hG : GoodIn tb (wsS RX0 idx y (ia_ws y b mL (some ty)))) (hy : y.cls = RX0 ∧ y.cls ≠ "java/lang/invoke/MethodHandle" ∧ y.cls ≠ "java/lang/invoke/VarHandle" ∧ (parseMethodDescriptor y.desc).map (fun d => d.parameters.length) = some nA) (hn : As.length = nA) (hR : d + 1 ≤ R.frames ∧ 8 + (mL + 11) + 40 * d ≤ R.locals) (hc : cells ≤ R.cells ∧ slots ≤ R.slots) (hW : (rest.map fun v => v.category).sum ≤ 8) (hst : st0 = As.reverse ++ rest) (hd : decode cc pc = .ok (.invokestatic idx, 3))
    (kk : W p l e R s m args below meth c H locs cells slots Q (F0 m (pc + 3) ls (.int v :: rest))) : W p l e R s m args below meth c H locs cells slots Q (F0 m pc ls st0) := by
  refine vp_callSi (W.runS (As := As) (rest := rest) ⟨hx, hb, hml, hown, ht⟩ hM (cwS nA ht hG rfl rfl rfl hy hR) ⟨fun a U g mk q => ⟨q.1, trivial⟩, fun U hU hW => ⟨rfl, trivial⟩⟩ rfl hn hls hst (lv_room hW) hd hc) (fun r h => ?_)
  rw [h]; exact kk
theorem ia_ids (k : Nat) {ws : va_W} (h : ws.length = k) : (List.range k).map (fun i => ws[i]?) = ws.map some := by
  subst h
  apply List.ext_getElem?
  intro i
  by_cases hi : i < ws.length
  · simp [hi]
  · simp [hi]
theorem il_callV {own : String} {y : MethodName} {b : ByteArray} {mL nL nA idx d : Nat} {As st0 : List Value} {n2 : Nat} {g2 : Nat → Nat → Nat} (hx : p.tables.exec = Jvm.exec) (hb : c.code = cc) (hml : c.maxLocals = nL) (hls : ls.size = nL) (hown : s.vm.findClass own = some m.cls) (ht : ∀ w ∈ tb, w.before args s = true) (hO : ia_O E n g s H) (hD : va_D A (ia_w E n g)) (hS : va_S A H0 H locs) (hA : ∀ q, H0.size ≤ q → A q) (hM : ia_V l y b mL d E n g H.size As n2 g2) (hG : GoodIn tb (wsV own idx RX0 y (ia_ws y b mL none))) (hy : y.cls = RX0 ∧ y.cls ≠ "java/lang/invoke/MethodHandle" ∧ y.cls ≠ "java/lang/invoke/VarHandle" ∧ (parseMethodDescriptor y.desc).map (fun d => d.parameters.length) = some nA) (hn : As.length = nA) (hR : d + 1 ≤ R.frames ∧ 8 + (mL + 11) + 40 * d ≤ R.locals) (hc : cells ≤ R.cells ∧ slots ≤ R.slots) (hW : (rest.map fun v => v.category).sum ≤ 8) (hst : st0 = As.reverse ++ .ref (ia_h E 0) :: rest) (hd : decode cc pc = .ok (.invokevirtual idx, 3))
    (kk : ∀ (H1 : Heap) (locs1 : List Loc), ia_O E n2 g2 s H1 → va_D A (ia_w E n2 g2) → va_S A H0 H1 locs1 → (∀ q : Nat, q < H.size → ¬ va_A (ia_w E n g) H.size q → H1[q]? = H[q]?) → va_D (va_A (ia_w E n g) H.size) (ia_w E n2 g2) → W p l e R s m args below meth c H1 locs1 cells slots Q (F0 m (pc + 3) ls rest)) : W p l e R s m args below meth c H locs cells slots Q (F0 m pc ls st0) := by
  have hF := va_free (wc := ia_w E n g) hD hS hA (List.range 14) (ia_ids 14 rfl)
  refine va_callv (va_runV (As := As) (rest := rest) ⟨hx, hb, hml, hown, ht⟩ hM (cwV nA ht hG rfl rfl rfl hy hR) ⟨fun a U g mk q => ⟨q.1, q.2.1, ⟨va_K.moved (u := U) (U := U.calling g mk a) (Vm.Alike.refl U.vm) q.2.2.1.1, q.2.2.1.2⟩, q.2.2.2⟩, va_recv hO.1 hO.2 (ci := 0) (q0 := 0) rfl rfl, fun U hU hW => ⟨rfl, by rw [hU], ⟨va_K.moved hW.alike hO.1, by rw [hU]; exact hO.2⟩, hD.weaken (fun _ _ _ _ => trivial)⟩⟩ rfl hn hls hst (lv_room hW) hd hc) hS (fun q _ h => hF q h) hF (fun u t H1 locs1 hth hvm hw hB hz1 hk1 hS1 => ?_)
  subst hw
  refine kk H1 locs1 ⟨hO.1, ?_⟩ (hB.2.weaken (fun _ q _ h => hF q.1 h)) hS1 hk1 hB.2
  rw [← hth]; exact hB.1.2
theorem ia_callV {y : MethodName} {b : ByteArray} {mL nL nA idx d : Nat} {As st0 : List Value} {n2 : Nat} {g2 : Nat → Nat → Nat} (hx : p.tables.exec = Jvm.exec) (hb : c.code = cc) (hml : c.maxLocals = nL) (hls : ls.size = nL) (hown : s.vm.findClass RX0 = some m.cls) (ht : ∀ w ∈ tb, w.before args s = true) (hO : ia_O E n g s H) (hD : va_D A (ia_w E n g)) (hS : va_S A H0 H locs) (hA : ∀ q, H0.size ≤ q → A q) (hM : ia_V l y b mL d E n g H.size As n2 g2) (hG : GoodIn tb (wsV RX0 idx RX0 y (ia_ws y b mL none))) (hy : y.cls = RX0 ∧ y.cls ≠ "java/lang/invoke/MethodHandle" ∧ y.cls ≠ "java/lang/invoke/VarHandle" ∧ (parseMethodDescriptor y.desc).map (fun d => d.parameters.length) = some nA) (hn : As.length = nA) (hR : d + 1 ≤ R.frames ∧ 8 + (mL + 11) + 40 * d ≤ R.locals) (hc : cells ≤ R.cells ∧ slots ≤ R.slots) (hW : (rest.map fun v => v.category).sum ≤ 8) (hst : st0 = As.reverse ++ .ref (ia_h E 0) :: rest) (hd : decode cc pc = .ok (.invokevirtual idx, 3))
    (kk : ∀ (H1 : Heap) (locs1 : List Loc), ia_O E n2 g2 s H1 → va_D A (ia_w E n2 g2) → va_S A H0 H1 locs1 → W p l e R s m args below meth c H1 locs1 cells slots Q (F0 m (pc + 3) ls rest)) : W p l e R s m args below meth c H locs cells slots Q (F0 m pc ls st0) :=
  il_callV hx hb hml hls hown ht hO hD hS hA hM hG hy hn hR hc hW hst hd (fun H1 locs1 h1 h2 h3 _ _ => kk H1 locs1 h1 h2 h3)
theorem il_callM {own : String} {y : MethodName} {b : ByteArray} {mL nL nA idx d : Nat} {ty : FieldType} {As st0 : List Value} {v : Int32} {n2 : Nat} {g2 : Nat → Nat → Nat} (hx : p.tables.exec = Jvm.exec) (hb : c.code = cc) (hml : c.maxLocals = nL) (hls : ls.size = nL) (hown : s.vm.findClass own = some m.cls) (ht : ∀ w ∈ tb, w.before args s = true) (hO : ia_O E n g s H) (hD : va_D A (ia_w E n g)) (hS : va_S A H0 H locs) (hA : ∀ q, H0.size ≤ q → A q) (hM : ia_M l y b mL ty d E n g H.size As v n2 g2) (hG : GoodIn tb (wsV own idx RX0 y (ia_ws y b mL (some ty)))) (hy : y.cls = RX0 ∧ y.cls ≠ "java/lang/invoke/MethodHandle" ∧ y.cls ≠ "java/lang/invoke/VarHandle" ∧ (parseMethodDescriptor y.desc).map (fun d => d.parameters.length) = some nA) (hn : As.length = nA) (hR : d + 1 ≤ R.frames ∧ 8 + (mL + 11) + 40 * d ≤ R.locals) (hc : cells ≤ R.cells ∧ slots ≤ R.slots) (hW : (rest.map fun v => v.category).sum ≤ 8) (hst : st0 = As.reverse ++ .ref (ia_h E 0) :: rest) (hd : decode cc pc = .ok (.invokevirtual idx, 3))
    (kk : ∀ (H1 : Heap) (locs1 : List Loc), ia_O E n2 g2 s H1 → va_D A (ia_w E n2 g2) → va_S A H0 H1 locs1 → (∀ q : Nat, q < H.size → ¬ va_A (ia_w E n g) H.size q → H1[q]? = H[q]?) → va_D (va_A (ia_w E n g) H.size) (ia_w E n2 g2) → W p l e R s m args below meth c H1 locs1 cells slots Q (F0 m (pc + 3) ls (.int v :: rest))) : W p l e R s m args below meth c H locs cells slots Q (F0 m pc ls st0) := by
  have hF := va_free (wc := ia_w E n g) hD hS hA (List.range 14) (ia_ids 14 rfl)
  refine va_calli (va_runV (As := As) (rest := rest) ⟨hx, hb, hml, hown, ht⟩ hM (cwV nA ht hG rfl rfl rfl hy hR) ⟨fun a U g mk q => ⟨q.1, q.2.1, ⟨va_K.moved (u := U) (U := U.calling g mk a) (Vm.Alike.refl U.vm) q.2.2.1.1, q.2.2.1.2⟩, q.2.2.2⟩, va_recv hO.1 hO.2 (ci := 0) (q0 := 0) rfl rfl, fun U hU hW => ⟨rfl, by rw [hU], ⟨va_K.moved hW.alike hO.1, by rw [hU]; exact hO.2⟩, hD.weaken (fun _ _ _ _ => trivial)⟩⟩ rfl hn hls hst (lv_room hW) hd hc) hS (fun q _ h => hF q h) hF (fun r u t H1 locs1 hth hvm hw hB hz1 hk1 hS1 => ?_)
  obtain ⟨rfl, rfl⟩ := hw
  refine kk H1 locs1 ⟨hO.1, ?_⟩ (hB.2.weaken (fun _ q _ h => hF q.1 h)) hS1 hk1 hB.2
  rw [← hth]; exact hB.1.2
theorem ia_callM {y : MethodName} {b : ByteArray} {mL nL nA idx d : Nat} {ty : FieldType} {As st0 : List Value} {v : Int32} {n2 : Nat} {g2 : Nat → Nat → Nat} (hx : p.tables.exec = Jvm.exec) (hb : c.code = cc) (hml : c.maxLocals = nL) (hls : ls.size = nL) (hown : s.vm.findClass RX0 = some m.cls) (ht : ∀ w ∈ tb, w.before args s = true) (hO : ia_O E n g s H) (hD : va_D A (ia_w E n g)) (hS : va_S A H0 H locs) (hA : ∀ q, H0.size ≤ q → A q) (hM : ia_M l y b mL ty d E n g H.size As v n2 g2) (hG : GoodIn tb (wsV RX0 idx RX0 y (ia_ws y b mL (some ty)))) (hy : y.cls = RX0 ∧ y.cls ≠ "java/lang/invoke/MethodHandle" ∧ y.cls ≠ "java/lang/invoke/VarHandle" ∧ (parseMethodDescriptor y.desc).map (fun d => d.parameters.length) = some nA) (hn : As.length = nA) (hR : d + 1 ≤ R.frames ∧ 8 + (mL + 11) + 40 * d ≤ R.locals) (hc : cells ≤ R.cells ∧ slots ≤ R.slots) (hW : (rest.map fun v => v.category).sum ≤ 8) (hst : st0 = As.reverse ++ .ref (ia_h E 0) :: rest) (hd : decode cc pc = .ok (.invokevirtual idx, 3))
    (kk : ∀ (H1 : Heap) (locs1 : List Loc), ia_O E n2 g2 s H1 → va_D A (ia_w E n2 g2) → va_S A H0 H1 locs1 → W p l e R s m args below meth c H1 locs1 cells slots Q (F0 m (pc + 3) ls (.int v :: rest))) : W p l e R s m args below meth c H locs cells slots Q (F0 m pc ls st0) :=
  il_callM hx hb hml hls hown ht hO hD hS hA hM hG hy hn hR hc hW hst hd (fun H1 locs1 h1 h2 h3 _ _ => kk H1 locs1 h1 h2 h3)
end ZY
/-- two worlds apart -/
def zz_X (w1 w2 : va_W) : Prop := ∀ (i j : Nat) (p q : Nat × va_E), w1[i]? = some p → w2[j]? = some q → p.1 ≠ q.1
theorem zz_X.symm {w1 w2 : va_W} (h : zz_X w1 w2) : zz_X w2 w1 := fun i j p q hp hq e => h j i q p hq hp e.symm
theorem zz_frame {D : va_G} {cl : List vw_C} {wx wm : va_W} {H H1 : Heap} (hP : va_P D cl wm H) (hX : zz_X wx wm) (hk : ∀ q : Nat, q < H.size → ¬ va_A wx H.size q → H1[q]? = H[q]?) : va_P D cl wm H1 :=
  hP.kept (fun k q hq => hk q.1 ((hP k q hq).lt) (fun h => by
    rcases h with ⟨i, e, hi⟩ | h
    · exact hX i k (q.1, e) q hi hq rfl
    · exact absurd ((hP k q hq).lt) (by omega)))
theorem zz_apart {D : va_G} {cl : List vw_C} {wx wx2 wm : va_W} {H : Heap} (hP : va_P D cl wm H) (hX : zz_X wx wm) (hD : va_D (va_A wx H.size) wx2) : zz_X wx2 wm := by
  intro i j p q hp hq e
  have h := hD.2 i p hp
  rw [e] at h
  rcases h with ⟨k, e', hk⟩ | h
  · exact hX k j (q.1, e') q hk hq rfl
  · exact absurd ((hP j q hq).lt) (by omega)
theorem zgX0_54 : GoodIn tb (wsS RX0 54 yX0_isRegister (ia_ws yX0_isRegister cX0_isRegister 1 (some .boolean))) := ia_gS zmX0_54 ztX0_isRegister znX0 zkX0_isRegister
theorem zgX0_58 : GoodIn tb (wsV RX0 58 RX0 yX0_append (ia_ws yX0_append cX0_append 8 (some .int))) := ia_gV zmX0_58 ziX0_append zsX0_append znX0 zkX0_append
theorem zgX0_108 : GoodIn tb (wsV RX0 108 RX0 yX0_settle (ia_ws yX0_settle cX0_settle 2 none)) := ia_gV zmX0_108 ziX0_settle zsX0_settle znX0 zkX0_settle
theorem zgX0_112 : GoodIn tb (wsV RX0 112 RX0 yX0_joinsGroup (ia_ws yX0_joinsGroup cX0_joinsGroup 3 (some .boolean))) := ia_gV zmX0_112 ziX0_joinsGroup zsX0_joinsGroup znX0 zkX0_joinsGroup
theorem zgX0_124 : GoodIn tb (wsV RX0 124 RX0 yX0_isBehindSlot (ia_ws yX0_isBehindSlot cX0_isBehindSlot 2 (some .boolean))) := ia_gV zmX0_124 ziX0_isBehindSlot zsX0_isBehindSlot znX0 zkX0_isBehindSlot
theorem zgX0_82 : GoodIn tb (wsV RX0 82 RX0 yX0_liesBehind (ia_ws yX0_liesBehind cX0_liesBehind 2 (some .boolean))) := ia_gV zmX0_82 ziX0_liesBehind zsX0_liesBehind znX0 zkX0_liesBehind
theorem zgX0_79 : GoodIn tb (wsV RX0 79 RX0 yX0_isRedirected (ia_ws yX0_isRedirected cX0_isRedirected 2 (some .boolean))) := ia_gV zmX0_79 ziX0_isRedirected zsX0_isRedirected znX0 zkX0_isRedirected
theorem zgX0_127 : GoodIn tb (wsV RX0 127 RX0 yX0_isBehindFailingOrSingle (ia_ws yX0_isBehindFailingOrSingle cX0_isBehindFailingOrSingle 2 (some .boolean))) := ia_gV zmX0_127 ziX0_isBehindFailingOrSingle zsX0_isBehindFailingOrSingle znX0 zkX0_isBehindFailingOrSingle
theorem zgX0_130 : GoodIn tb (wsV RX0 130 RX0 yX0_isBehindSlotOfMissedBranch (ia_ws yX0_isBehindSlotOfMissedBranch cX0_isBehindSlotOfMissedBranch 2 (some .boolean))) := ia_gV zmX0_130 ziX0_isBehindSlotOfMissedBranch zsX0_isBehindSlotOfMissedBranch znX0 zkX0_isBehindSlotOfMissedBranch
theorem zgX0_133 : GoodIn tb (wsV RX0 133 RX0 yX0_isMissed (ia_ws yX0_isMissed cX0_isMissed 2 (some .boolean))) := ia_gV zmX0_133 ziX0_isMissed zsX0_isMissed znX0 zkX0_isMissed
theorem zgX0_115 : GoodIn tb (wsV RX0 115 RX0 yX0_leastFetchTime (ia_ws yX0_leastFetchTime cX0_leastFetchTime 3 (some .int))) := ia_gV zmX0_115 ziX0_leastFetchTime zsX0_leastFetchTime znX0 zkX0_leastFetchTime
theorem zgX0_118 : GoodIn tb (wsV RX0 118 RX0 yX0_leastIssueTime (ia_ws yX0_leastIssueTime cX0_leastIssueTime 3 (some .int))) := ia_gV zmX0_118 ziX0_leastIssueTime zsX0_leastIssueTime znX0 zkX0_leastIssueTime
theorem zgX0_141 : GoodIn tb (wsV RX0 141 RX0 yX0_leastInOrder (ia_ws yX0_leastInOrder cX0_leastInOrder 3 (some .int))) := ia_gV zmX0_141 ziX0_leastInOrder zsX0_leastInOrder znX0 zkX0_leastInOrder
theorem zgX0_150 : GoodIn tb (wsV RX0 150 RX0 yX0_makesPair (ia_ws yX0_makesPair cX0_makesPair 4 (some .boolean))) := ia_gV zmX0_150 ziX0_makesPair zsX0_makesPair znX0 zkX0_makesPair
theorem zgX0_153 : GoodIn tb (wsS RX0 153 yX0_usesMemory (ia_ws yX0_usesMemory cX0_usesMemory 1 (some .boolean))) := ia_gS zmX0_153 ztX0_usesMemory znX0 zkX0_usesMemory
theorem zgX0_156 : GoodIn tb (wsS RX0 156 yX0_usesMultiplier (ia_ws yX0_usesMultiplier cX0_usesMultiplier 1 (some .boolean))) := ia_gS zmX0_156 ztX0_usesMultiplier znX0 zkX0_usesMultiplier
theorem zgX0_159 : GoodIn tb (wsV RX0 159 RX0 yX0_reads (ia_ws yX0_reads cX0_reads 3 (some .boolean))) := ia_gV zmX0_159 ziX0_reads zsX0_reads znX0 zkX0_reads
theorem zgX0_144 : GoodIn tb (wsV RX0 144 RX0 yX0_whenReadable (ia_ws yX0_whenReadable cX0_whenReadable 4 (some .int))) := ia_gV zmX0_144 ziX0_whenReadable zsX0_whenReadable znX0 zkX0_whenReadable
theorem zgX0_163 : GoodIn tb (wsS RX0 163 yX0_delayOf (ia_ws yX0_delayOf cX0_delayOf 1 (some .int))) := ia_gS zmX0_163 ztX0_delayOf znX0 zkX0_delayOf
theorem zgX0_147 : GoodIn tb (wsV RX0 147 RX0 yX0_whenDividerIsFree (ia_ws yX0_whenDividerIsFree cX0_whenDividerIsFree 3 (some .int))) := ia_gV zmX0_147 ziX0_whenDividerIsFree zsX0_whenDividerIsFree znX0 zkX0_whenDividerIsFree
theorem zgX0_89 : GoodIn tb (wsV RX0 89 RX0 yX0_doneBefore (ia_ws yX0_doneBefore cX0_doneBefore 2 (some .int))) := ia_gV zmX0_89 ziX0_doneBefore zsX0_doneBefore znX0 zkX0_doneBefore
theorem zgX0_121 : GoodIn tb (wsV RX0 121 RX0 yX0_leastDoneTime (ia_ws yX0_leastDoneTime cX0_leastDoneTime 3 (some .int))) := ia_gV zmX0_121 ziX0_leastDoneTime zsX0_leastDoneTime znX0 zkX0_leastDoneTime
theorem zgX0_166 : GoodIn tb (wsS RX0 166 yX0_workOf (ia_ws yX0_workOf cX0_workOf 1 (some .int))) := ia_gS zmX0_166 ztX0_workOf znX0 zkX0_workOf
theorem zgX0_62 : GoodIn tb (wsV RX0 62 RX0 yX0_failLast (ia_ws yX0_failLast cX0_failLast 2 none)) := ia_gV zmX0_62 ziX0_failLast zsX0_failLast znX0 zkX0_failLast
theorem zgX0_65 : GoodIn tb (wsV RX0 65 RX0 yX0_isInstruction (ia_ws yX0_isInstruction cX0_isInstruction 2 (some .boolean))) := ia_gV zmX0_65 ziX0_isInstruction zsX0_isInstruction znX0 zkX0_isInstruction
theorem zgX0_68 : GoodIn tb (wsV RX0 68 RX0 yX0_groupSize (ia_ws yX0_groupSize cX0_groupSize 2 (some .int))) := ia_gV zmX0_68 ziX0_groupSize zsX0_groupSize znX0 zkX0_groupSize
theorem zgX0_72 : GoodIn tb (wsV RX0 72 RX0 yX0_isIssuedAsSecond (ia_ws yX0_isIssuedAsSecond cX0_isIssuedAsSecond 2 (some .boolean))) := ia_gV zmX0_72 ziX0_isIssuedAsSecond zsX0_isIssuedAsSecond znX0 zkX0_isIssuedAsSecond
theorem zgX0_75 : GoodIn tb (wsS RX0 75 yX0_oneIf (ia_ws yX0_oneIf cX0_oneIf 1 (some .int))) := ia_gS zmX0_75 ztX0_oneIf znX0 zkX0_oneIf
theorem zgX0_85 : GoodIn tb (wsV RX0 85 RX0 yX0_stageAt (ia_ws yX0_stageAt cX0_stageAt 3 (some .int))) := ia_gV zmX0_85 ziX0_stageAt zsX0_stageAt znX0 zkX0_stageAt
theorem zgX0_92 : GoodIn tb (wsV RX0 92 RX0 yX0_cyclesWithTwoDone (ia_ws yX0_cyclesWithTwoDone cX0_cyclesWithTwoDone 3 (some .int))) := ia_gV zmX0_92 ziX0_cyclesWithTwoDone zsX0_cyclesWithTwoDone znX0 zkX0_cyclesWithTwoDone
theorem zgX0_96 : GoodIn tb (wsV RX0 96 RX0 yX0_longestWayBetweenDone (ia_ws yX0_longestWayBetweenDone cX0_longestWayBetweenDone 3 (some .int))) := ia_gV zmX0_96 ziX0_longestWayBetweenDone zsX0_longestWayBetweenDone znX0 zkX0_longestWayBetweenDone
theorem zgX0_99 : GoodIn tb (wsV RX0 99 RX0 yX0_groups (ia_ws yX0_groups cX0_groups 3 (some .int))) := ia_gV zmX0_99 ziX0_groups zsX0_groups znX0 zkX0_groups
theorem zgX0_102 : GoodIn tb (wsV RX0 102 RX0 yX0_pairsIssuedAtOnce (ia_ws yX0_pairsIssuedAtOnce cX0_pairsIssuedAtOnce 3 (some .int))) := ia_gV zmX0_102 ziX0_pairsIssuedAtOnce zsX0_pairsIssuedAtOnce znX0 zkX0_pairsIssuedAtOnce
theorem zgX0_105 : GoodIn tb (wsV RX0 105 RX0 yX0_mostAtWork (ia_ws yX0_mostAtWork cX0_mostAtWork 4 (some .int))) := ia_gV zmX0_105 ziX0_mostAtWork zsX0_mostAtWork znX0 zkX0_mostAtWork
