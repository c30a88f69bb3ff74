-- the world of the reference: the same numbers for its rows as the class has, and 14 redirected, 15 behind, 16 writers (one more than the number; 0: none)
abbrev im_fs (E : ia_E) (n : Nat) : List Value := [.int (nI 0), .int (nI n), .ref (ia_h E 2), .ref (ia_h E 3), .ref (ia_h E 4), .ref (ia_h E 5), .ref (ia_h E 6), .ref (ia_h E 7), .ref (ia_h E 8), .ref (ia_h E 9), .ref (ia_h E 10), .ref (ia_h E 11), .ref (ia_h E 12), .ref (ia_h E 13), .ref (ia_h E 14), .ref (ia_h E 15), .ref (ia_h E 16), .ref (ia_h E 17)]
abbrev im_w (E : ia_E) (n : Nat) (g : Nat → Nat → Nat) : va_W := [(ia_h E 0, .inr (1, im_fs E n)), (ia_h E 2, .inl (ia_I E, 400, .inl (fun j => nI (g 1 j)))), (ia_h E 3, .inl (ia_I E, 400, .inl (fun j => nI (g 2 j)))), (ia_h E 4, .inl (ia_I E, 400, .inl (fun j => nI (g 3 j)))), (ia_h E 5, .inl (ia_I E, 400, .inl (fun j => nI (g 4 j)))), (ia_h E 6, .inl (ia_I E, 400, .inl (fun j => nI (g 5 j)))), (ia_h E 7, .inl (ia_Z E, 400, .inl (fun j => nI (g 6 j)))), (ia_h E 8, .inl (ia_Z E, 400, .inl (fun j => nI (g 7 j)))), (ia_h E 9, .inl (ia_Z E, 400, .inl (fun j => nI (g 9 j)))), (ia_h E 10, .inl (ia_Z E, 400, .inl (fun j => nI (g 8 j)))), (ia_h E 11, .inl (ia_Z E, 400, .inl (fun j => nI (g 14 j)))), (ia_h E 12, .inl (ia_Z E, 400, .inl (fun j => nI (g 15 j)))), (ia_h E 13, .inl (ia_I E, 400, .inl (fun j => nI (g 11 j)))), (ia_h E 14, .inl (ia_I E, 400, .inl (fun j => nI (g 12 j)))), (ia_h E 15, .inl (ia_I E, 400, .inl (fun j => nI (g 13 j)))), (ia_h E 16, .inl (ia_Z E, 400, .inl (fun j => nI (g 10 j)))), (ia_h E 17, .inl (ia_I E, 32, .inl (fun j => nI (g 16 j) + (-1))))]
def im_O (E : ia_E) (n : Nat) (g : Nat → Nat → Nat) (U : State) (H : Heap) : Prop := va_K (ia_D E) vwCl (ia_ty E) U ∧ va_P (ia_D E) vwCl (im_w E n g) H
theorem im_set2 (E : ia_E) (n : Nat) (g : Nat → Nat → Nat) (j v : Nat) : (im_w E n g).set 1 (ia_h E 2, .inl (ia_I E, 400, .inl (upd (fun b => nI (g 1 b)) j (nI v)))) = im_w E n (ia_up g 1 j v) := by
  rw [ia_upe]; rfl
theorem im_set3 (E : ia_E) (n : Nat) (g : Nat → Nat → Nat) (j v : Nat) : (im_w E n g).set 2 (ia_h E 3, .inl (ia_I E, 400, .inl (upd (fun b => nI (g 2 b)) j (nI v)))) = im_w E n (ia_up g 2 j v) := by
  rw [ia_upe]; rfl
theorem im_set4 (E : ia_E) (n : Nat) (g : Nat → Nat → Nat) (j v : Nat) : (im_w E n g).set 3 (ia_h E 4, .inl (ia_I E, 400, .inl (upd (fun b => nI (g 3 b)) j (nI v)))) = im_w E n (ia_up g 3 j v) := by
  rw [ia_upe]; rfl
theorem im_set5 (E : ia_E) (n : Nat) (g : Nat → Nat → Nat) (j v : Nat) : (im_w E n g).set 4 (ia_h E 5, .inl (ia_I E, 400, .inl (upd (fun b => nI (g 4 b)) j (nI v)))) = im_w E n (ia_up g 4 j v) := by
  rw [ia_upe]; rfl
theorem im_set6 (E : ia_E) (n : Nat) (g : Nat → Nat → Nat) (j v : Nat) : (im_w E n g).set 5 (ia_h E 6, .inl (ia_I E, 400, .inl (upd (fun b => nI (g 5 b)) j (nI v)))) = im_w E n (ia_up g 5 j v) := by
  rw [ia_upe]; rfl
theorem im_set7 (E : ia_E) (n : Nat) (g : Nat → Nat → Nat) (j v : Nat) : (im_w E n g).set 6 (ia_h E 7, .inl (ia_Z E, 400, .inl (upd (fun b => nI (g 6 b)) j (nI v)))) = im_w E n (ia_up g 6 j v) := by
  rw [ia_upe]; rfl
theorem im_set8 (E : ia_E) (n : Nat) (g : Nat → Nat → Nat) (j v : Nat) : (im_w E n g).set 7 (ia_h E 8, .inl (ia_Z E, 400, .inl (upd (fun b => nI (g 7 b)) j (nI v)))) = im_w E n (ia_up g 7 j v) := by
  rw [ia_upe]; rfl
theorem im_set9 (E : ia_E) (n : Nat) (g : Nat → Nat → Nat) (j v : Nat) : (im_w E n g).set 8 (ia_h E 9, .inl (ia_Z E, 400, .inl (upd (fun b => nI (g 9 b)) j (nI v)))) = im_w E n (ia_up g 9 j v) := by
  rw [ia_upe]; rfl
theorem im_set10 (E : ia_E) (n : Nat) (g : Nat → Nat → Nat) (j v : Nat) : (im_w E n g).set 9 (ia_h E 10, .inl (ia_Z E, 400, .inl (upd (fun b => nI (g 8 b)) j (nI v)))) = im_w E n (ia_up g 8 j v) := by
  rw [ia_upe]; rfl
theorem im_set11 (E : ia_E) (n : Nat) (g : Nat → Nat → Nat) (j v : Nat) : (im_w E n g).set 10 (ia_h E 11, .inl (ia_Z E, 400, .inl (upd (fun b => nI (g 14 b)) j (nI v)))) = im_w E n (ia_up g 14 j v) := by
  rw [ia_upe]; rfl
theorem im_set12 (E : ia_E) (n : Nat) (g : Nat → Nat → Nat) (j v : Nat) : (im_w E n g).set 11 (ia_h E 12, .inl (ia_Z E, 400, .inl (upd (fun b => nI (g 15 b)) j (nI v)))) = im_w E n (ia_up g 15 j v) := by
  rw [ia_upe]; rfl
theorem im_set13 (E : ia_E) (n : Nat) (g : Nat → Nat → Nat) (j v : Nat) : (im_w E n g).set 12 (ia_h E 13, .inl (ia_I E, 400, .inl (upd (fun b => nI (g 11 b)) j (nI v)))) = im_w E n (ia_up g 11 j v) := by
  rw [ia_upe]; rfl
theorem im_set14 (E : ia_E) (n : Nat) (g : Nat → Nat → Nat) (j v : Nat) : (im_w E n g).set 13 (ia_h E 14, .inl (ia_I E, 400, .inl (upd (fun b => nI (g 12 b)) j (nI v)))) = im_w E n (ia_up g 12 j v) := by
  rw [ia_upe]; rfl
theorem im_set15 (E : ia_E) (n : Nat) (g : Nat → Nat → Nat) (j v : Nat) : (im_w E n g).set 14 (ia_h E 15, .inl (ia_I E, 400, .inl (upd (fun b => nI (g 13 b)) j (nI v)))) = im_w E n (ia_up g 13 j v) := by
  rw [ia_upe]; rfl
theorem im_set16 (E : ia_E) (n : Nat) (g : Nat → Nat → Nat) (j v : Nat) : (im_w E n g).set 15 (ia_h E 16, .inl (ia_Z E, 400, .inl (upd (fun b => nI (g 10 b)) j (nI v)))) = im_w E n (ia_up g 10 j v) := by
  rw [ia_upe]; rfl
theorem im_upw (g : Nat → Nat → Nat) (j v : Nat) : upd (fun b => nI (g 16 b) + (-1)) j (nI v + (-1)) = fun b => nI (ia_up g 16 j v 16 b) + (-1) := by
  funext b
  unfold upd
  by_cases h : b = j <;> simp [ia_up, h]
theorem im_set17 (E : ia_E) (n : Nat) (g : Nat → Nat → Nat) (j v : Nat) : (im_w E n g).set 16 (ia_h E 17, .inl (ia_I E, 32, .inl (upd (fun b => nI (g 16 b) + (-1)) j (nI v + (-1))))) = im_w E n (ia_up g 16 j v) := by
  rw [im_upw]; rfl
theorem zk_wi {w : Nat} (h : w ≤ 400) : (nI w + (-1)).toInt = (w : Int) - 1 := by
  rcases (show w = 0 ∨ ∃ v, w = v + 1 from by cases w with | zero => exact Or.inl rfl | succ v => exact Or.inr ⟨v, rfl⟩) with rfl | ⟨v, rfl⟩
  · decide
  · rw [pk_m1, nI_toInt (by omega)]; omega
theorem zk_wn {w : Nat} (h : 0 < w) : nI w + (-1) = nI (w - 1) := by
  obtain ⟨v, rfl⟩ : ∃ v, w = v + 1 := ⟨w - 1, by omega⟩
  rw [pk_m1]; rfl
section ZM
variable {p : Program} {l : Launch} {e : Env} {R : Room} {s : State} {m : MethodId} {args : Array Value} {below : List Frame} {meth : Method} {c : Code} {H : Heap} {locs : List Loc} {cells slots : Nat} {Q : State → Prop} {cc : ByteArray} {pc : Nat} {ls : Array Slot} {rest : List Value}
variable {E : ia_E} {n : Nat} {g : Nat → Nat → Nat} {A : Nat → Prop} {H0 : Heap}
theorem im_ild (q f k j : Nat) (hx : p.tables.exec = Jvm.exec) (hb : c.code = cc) (hO : im_O E n g s H) (ha : (im_w E n g)[q]? = some (ia_h E f, .inl (ia_I E, 400, .inl (fun j => nI (g k j))))) (hj : j < 400) (hd : decode cc pc = .ok (.iaload, 1))
    (kk : W p l e R s m args below meth c H locs cells slots Q (F0 m (pc + 1) ls (.int (nI (g k j)) :: rest))) : W p l e R s m args below meth c H locs cells slots Q (F0 m pc ls (.int (nI j) :: .ref (ia_h E f) :: rest)) :=
  va_iald hx hb hO.1 hO.2 q 0 ha rfl (vp_in_nI hj (by decide)) hd (by rw [nI_clamp (by omega)]; exact kk)
theorem im_zld (q f k j : Nat) (hx : p.tables.exec = Jvm.exec) (hb : c.code = cc) (hO : im_O E n g s H) (ha : (im_w E n g)[q]? = some (ia_h E f, .inl (ia_Z E, 400, .inl (fun j => nI (g k j))))) (hj : j < 400) (hd : decode cc pc = .ok (.baload, 1))
    (kk : W p l e R s m args below meth c H locs cells slots Q (F0 m (pc + 1) ls (.int (nI (g k j)) :: rest))) : W p l e R s m args below meth c H locs cells slots Q (F0 m pc ls (.int (nI j) :: .ref (ia_h E f) :: rest)) :=
  va_zald hx hb hO.1 hO.2 q 1 ha rfl (vp_in_nI hj (by decide)) hd (by rw [nI_clamp (by omega)]; exact kk)
theorem im_wld (r : Nat) (hx : p.tables.exec = Jvm.exec) (hb : c.code = cc) (hO : im_O E n g s H) (hj : r < 32) (hd : decode cc pc = .ok (.iaload, 1))
    (kk : W p l e R s m args below meth c H locs cells slots Q (F0 m (pc + 1) ls (.int (nI (g 16 r) + (-1)) :: rest))) : W p l e R s m args below meth c H locs cells slots Q (F0 m pc ls (.int (nI r) :: .ref (ia_h E 17) :: rest)) :=
  va_iald hx hb hO.1 hO.2 16 0 rfl rfl (vp_in_nI hj (by decide)) hd (by rw [nI_clamp (by omega)]; exact kk)
theorem im_ist (q f k j v : Nat) (hx : p.tables.exec = Jvm.exec) (hb : c.code = cc) (hO : im_O E n g s H) (hD : va_D A (im_w E n g)) (hS : va_S A H0 H locs) (ha : (im_w E n g)[q]? = some (ia_h E f, .inl (ia_I E, 400, .inl (fun j => nI (g k j))))) (hset : (im_w E n g).set q (ia_h E f, .inl (ia_I E, 400, .inl (upd (fun b => nI (g k b)) j (nI v)))) = im_w E n (ia_up g k j v)) (hj : j < 400) (hd : decode cc pc = .ok (.iastore, 1))
    (kk : ∀ (H1 : Heap) (locs1 : List Loc), im_O E n (ia_up g k j v) s H1 → va_D A (im_w E n (ia_up g k j v)) → va_S A H0 H1 locs1 → W p l e R s m args below meth c H1 locs1 cells slots Q (F0 m (pc + 1) ls rest)) : W p l e R s m args below meth c H locs cells slots Q (F0 m pc ls (.int (nI v) :: .int (nI j) :: .ref (ia_h E f) :: rest)) :=
  va_iast hx hb hO.1 hO.2 hD hS q 0 ha rfl (vp_in_nI hj (by decide)) hd (fun H1 locs1 h1 h2 h3 => by
    rw [nI_clamp (by omega), hset] at h1 h2
    exact kk H1 locs1 ⟨hO.1, h1⟩ h2 h3)
theorem im_zst (q f k j v : Nat) (hx : p.tables.exec = Jvm.exec) (hb : c.code = cc) (hO : im_O E n g s H) (hD : va_D A (im_w E n g)) (hS : va_S A H0 H locs) (ha : (im_w E n g)[q]? = some (ia_h E f, .inl (ia_Z E, 400, .inl (fun j => nI (g k j))))) (hset : (im_w E n g).set q (ia_h E f, .inl (ia_Z E, 400, .inl (upd (fun b => nI (g k b)) j (nI v)))) = im_w E n (ia_up g k j v)) (hj : j < 400) (hv : v ≤ 1) (hd : decode cc pc = .ok (.bastore, 1))
    (kk : ∀ (H1 : Heap) (locs1 : List Loc), im_O E n (ia_up g k j v) s H1 → va_D A (im_w E n (ia_up g k j v)) → va_S A H0 H1 locs1 → W p l e R s m args below meth c H1 locs1 cells slots Q (F0 m (pc + 1) ls rest)) : W p l e R s m args below meth c H locs cells slots Q (F0 m pc ls (.int (nI v) :: .int (nI j) :: .ref (ia_h E f) :: rest)) :=
  va_zast hx hb hO.1 hO.2 hD hS q 1 ha rfl (vp_in_nI hj (by decide)) hd (fun H1 locs1 h1 h2 h3 => by
    rw [nI_clamp (by omega), zk_vnar hv, hset] at h1 h2
    exact kk H1 locs1 ⟨hO.1, h1⟩ h2 h3)
theorem im_wst (r w : Nat) {x : Int32} (hw : x = nI w + (-1)) (hx : p.tables.exec = Jvm.exec) (hb : c.code = cc) (hO : im_O E n g s H) (hD : va_D A (im_w E n g)) (hS : va_S A H0 H locs) (hj : r < 32) (hd : decode cc pc = .ok (.iastore, 1))
    (kk : ∀ (H1 : Heap) (locs1 : List Loc), im_O E n (ia_up g 16 r w) s H1 → va_D A (im_w E n (ia_up g 16 r w)) → va_S A H0 H1 locs1 → W p l e R s m args below meth c H1 locs1 cells slots Q (F0 m (pc + 1) ls rest)) : W p l e R s m args below meth c H locs cells slots Q (F0 m pc ls (.int x :: .int (nI r) :: .ref (ia_h E 17) :: rest)) := by
  subst hw
  exact va_iast hx hb hO.1 hO.2 hD hS 16 0 rfl rfl (vp_in_nI hj (by decide)) hd (fun H1 locs1 h1 h2 h3 => by
    rw [nI_clamp (by omega), im_set17] at h1 h2
    exact kk H1 locs1 ⟨hO.1, h1⟩ h2 h3)
theorem im_putt {idx : Nat} (hx : p.tables.exec = Jvm.exec) (hb : c.code = cc) (ht : ∀ w ∈ tb, w.before args s = true) (hown : s.vm.findClass RX1 = some m.cls) (hO : im_O E n g s H) (hD : va_D A (im_w E n g)) (hS : va_S A H0 H locs) (hl : Cond.fieldLink RX1 idx RX1 (TX1 0).2.1 (TX1 0).2.2.1 ∈ tb) (hd : decode cc pc = .ok (.putfield idx, 3))
    (kk : ∀ (H1 : Heap) (locs1 : List Loc), im_O E n g s H1 → va_D A (im_w E n g) → va_S A H0 H1 locs1 → W p l e R s m args below meth c H1 locs1 cells slots Q (F0 m (pc + 3) ls rest)) : W p l e R s m args below meth c H locs cells slots Q (F0 m pc ls (.int (nI 0) :: .ref (ia_h E 0) :: rest)) :=
  va_put (D := ia_D E) (ci := 1) (v := .int (nI 0)) (ty := .int) (C := RX1) (T := TX1) (N := 18) hx hb ht inX1 tyX1 tyX1_ok nmX1 hown hO.1 hO.2 hD hS 0 rfl rfl 0 (by decide) (ht _ hl) (fun _ h9 => h9) rfl (by decide +kernel) rfl rfl (Nat.le_of_ble_eq_true rfl) hd (fun H1 locs1 h1 h2 h3 => kk H1 locs1 ⟨hO.1, h1⟩ h2 h3)
theorem im_get (k : Nat) {v : Value} {idx : Nat} (hx : p.tables.exec = Jvm.exec) (hb : c.code = cc) (ht : ∀ w ∈ tb, w.before args s = true) (hown : s.vm.findClass RX1 = some m.cls) (hO : im_O E n g s H) (hk : k < 18) (hv : (im_fs E n)[k]? = some v) (hl : Cond.fieldLink RX1 idx RX1 (TX1 k).2.1 (TX1 k).2.2.1 ∈ tb) (hs : (TX1 k).1 = RX1) (hd : decode cc pc = .ok (.getfield idx, 3))
    (kk : W p l e R s m args below meth c H locs cells slots Q (F0 m (pc + 3) ls (v :: rest))) : W p l e R s m args below meth c H locs cells slots Q (F0 m pc ls (.ref (ia_h E 0) :: rest)) :=
  va_get (D := ia_D E) (ci := 1) (v := v) (C := RX1) (T := TX1) (N := 18) hx hb ht inX1 hown hO.1 hO.2 0 rfl rfl k hk (ht _ hl) (fun _ h9 => by rw [hs] at h9; exact h9) hv hd kk
theorem im_putn (n' : Nat) {idx : Nat} (hx : p.tables.exec = Jvm.exec) (hb : c.code = cc) (ht : ∀ w ∈ tb, w.before args s = true) (hown : s.vm.findClass RX1 = some m.cls) (hO : im_O E n g s H) (hD : va_D A (im_w E n g)) (hS : va_S A H0 H locs) (hl : Cond.fieldLink RX1 idx RX1 (TX1 1).2.1 (TX1 1).2.2.1 ∈ tb) (hd : decode cc pc = .ok (.putfield idx, 3))
    (kk : ∀ (H1 : Heap) (locs1 : List Loc), im_O E n' g s H1 → va_D A (im_w E n' g) → va_S A H0 H1 locs1 → W p l e R s m args below meth c H1 locs1 cells slots Q (F0 m (pc + 3) ls rest)) : W p l e R s m args below meth c H locs cells slots Q (F0 m pc ls (.int (nI n') :: .ref (ia_h E 0) :: rest)) :=
  va_put (D := ia_D E) (ci := 1) (v := .int (nI n')) (ty := .int) (C := RX1) (T := TX1) (N := 18) hx hb ht inX1 tyX1 tyX1_ok nmX1 hown hO.1 hO.2 hD hS 0 rfl rfl 1 (by decide) (ht _ hl) (fun _ h9 => h9) rfl (by decide +kernel) rfl rfl (Nat.le_of_ble_eq_true rfl) hd (fun H1 locs1 h1 h2 h3 => kk H1 locs1 ⟨hO.1, h1⟩ h2 h3)
end ZM
/-- a reading method of the class: it answers v, and no cell changes -/
abbrev im_R (l : Launch) (y : MethodName) (b : ByteArray) (mL : Nat) (ty : FieldType) (d : Nat) (E : ia_E) (n : Nat) (g : Nat → Nat → Nat) (As : List Value) (v : Int32) : Prop := Met l y (ia_ws y b mL (some ty)) (ia_rm d) (va_Pc (.ref (ia_h E 0) :: As) (fun U => im_O E n g U U.heap)) (vp_Si (fun r => r = v)) 0 0 (fun _ => False)
/-- a changing method of the class: it answers nothing (ret none) / r; the row becomes (n2, g2) -/
abbrev im_at (E : ia_E) (A : Nat → Prop) (u : Nat × (Nat → Nat → Nat)) (t : State) : Prop := im_O E u.1 u.2 t t.heap ∧ va_D A (im_w E u.1 u.2)
abbrev im_P0 (E : ia_E) (n : Nat) (g : Nat → Nat → Nat) (sz : Nat) : State → Prop := fun U => U.heap.size = sz ∧ im_O E n g U U.heap ∧ va_D (fun _ => True) (im_w E n g)
abbrev im_V (l : Launch) (y : MethodName) (b : ByteArray) (mL : Nat) (d : Nat) (E : ia_E) (n : Nat) (g : Nat → Nat → Nat) (sz : Nat) (As : List Value) (n2 : Nat) (g2 : Nat → Nat → Nat) : Prop := Met l y (ia_ws y b mL none) (ia_rm d) (va_Pc (.ref (ia_h E 0) :: As) (im_P0 E n g sz)) (va_Qv (fun u : Nat × (Nat → Nat → Nat) => u = (n2, g2)) (im_at E (va_A (im_w E n g) sz)) (va_A (im_w E n g) sz)) 0 0 (va_A (im_w E n g) sz)
abbrev im_M (l : Launch) (y : MethodName) (b : ByteArray) (mL : Nat) (ty : FieldType) (d : Nat) (E : ia_E) (n : Nat) (g : Nat → Nat → Nat) (sz : Nat) (As : List Value) (v : Int32) (n2 : Nat) (g2 : Nat → Nat → Nat) : Prop := Met l y (ia_ws y b mL (some ty)) (ia_rm d) (va_Pc (.ref (ia_h E 0) :: As) (im_P0 E n g sz)) (va_Qi (fun (r : Int32) (u : Nat × (Nat → Nat → Nat)) => r = v ∧ u = (n2, g2)) (im_at E (va_A (im_w E n g) sz)) (va_A (im_w E n g) sz)) 0 0 (va_A (im_w E n g) sz)
/-- the beginning of a reading method -/
theorem im_Rof {l : Launch} {y : MethodName} {b : ByteArray} {mL : Nat} {ty : FieldType} {d : Nat} {E : ia_E} {n : Nat} {g : Nat → Nat → Nat} {As : List Value} {v : Int32} (hy : plainName y.cls = true) (hc : y.cls = RX1) (hle : (lg_sl (.ref (ia_h E 0) :: As)).length ≤ mL)
    (k : ∀ (p : Program) (e : Env) (s : State) (m : MethodId) (args : Array Value) (below : List Frame) (meth : Method) (c : Code) (ls : Array Slot), p.tables.exec = Jvm.exec → c.code = b → meth.sig.returnType = some ty → c.maxLocals = mL → s.vm.findClass RX1 = some m.cls → (∀ w ∈ tb, w.before args s = true) → meth.locks = false → im_O E n g s s.heap → lv_has ls mL (lv_args 0 (.ref (ia_h E 0) :: As)) →
      W p l e (ia_rm d) s m args below meth c s.heap [] 0 0 (MQ below (vp_Si (fun r => r = v)) args s 0 0 (fun _ => False)) (F0 m 0 ls [])) : im_R l y b mL ty d E n g As v := by
  refine Met.ofW (cc := b) (maxL := mL) (ret := some ty) hy rfl ?_
  intro p e s m args below meth c s₁ B hml hv
  obtain ⟨rfl, hO⟩ := hv
  have hts := atoms_spec (ws := ia_ws y b mL (some ty)) B.pre
  have hown : s.vm.findClass RX1 = some m.cls := hc ▸ findClass_of_methodNamed B.named
  have hl := lv_entry (.ref (ia_h E 0) :: As) (n := mL) hle
  rw [lg_entry_eq]
  exact k p e s m _ below meth c _ B.exec B.bytes B.returns hml hown (fun w h => hts w (List.mem_cons_of_mem _ h)) B.notSynchronized hO hl
/-- the beginning of a changing method that answers nothing -/
theorem im_Vof {l : Launch} {y : MethodName} {b : ByteArray} {mL : Nat} {d : Nat} {E : ia_E} {n : Nat} {g : Nat → Nat → Nat} {sz : Nat} {As : List Value} {n2 : Nat} {g2 : Nat → Nat → Nat} (hy : plainName y.cls = true) (hc : y.cls = RX1) (hle : (lg_sl (.ref (ia_h E 0) :: As)).length ≤ mL)
    (k : ∀ (p : Program) (e : Env) (s : State) (m : MethodId) (args : Array Value) (below : List Frame) (meth : Method) (c : Code) (ls : Array Slot) (A : Nat → Prop), p.tables.exec = Jvm.exec → c.code = b → meth.sig.returnType = none → c.maxLocals = mL → s.vm.findClass RX1 = some m.cls → (∀ w ∈ tb, w.before args s = true) → meth.locks = false → (∀ q : Nat, s.heap.size ≤ q → A q) → im_O E n g s s.heap → va_D A (im_w E n g) → va_S A s.heap s.heap [] → lv_has ls mL (lv_args 0 (.ref (ia_h E 0) :: As)) →
      W p l e (ia_rm d) s m args below meth c s.heap [] 0 0 (MQ below (va_Qv (fun u : Nat × (Nat → Nat → Nat) => u = (n2, g2)) (im_at E A) A) args s 0 0 A) (F0 m 0 ls [])) : im_V l y b mL d E n g sz As n2 g2 := by
  refine Met.ofW (cc := b) (maxL := mL) (ret := none) hy rfl ?_
  intro p e s m args below meth c s₁ B hml hv
  obtain ⟨rfl, hsz, hO, hD0⟩ := hv
  have hts := atoms_spec (ws := ia_ws y b mL none) B.pre
  have hown : s.vm.findClass RX1 = some m.cls := hc ▸ findClass_of_methodNamed B.named
  subst hsz
  have hD := hD0.self (sz := s.heap.size)
  have hl := lv_entry (.ref (ia_h E 0) :: As) (n := mL) hle
  rw [lg_entry_eq]
  exact k p e s m _ below meth c _ _ B.exec B.bytes B.returns hml hown (fun w h => hts w (List.mem_cons_of_mem _ h)) B.notSynchronized (fun q h => Or.inr h) hO hD va_S.rf hl
/-- the beginning of a changing method that answers an int -/
theorem im_Mof {l : Launch} {y : MethodName} {b : ByteArray} {mL : Nat} {ty : FieldType} {d : Nat} {E : ia_E} {n : Nat} {g : Nat → Nat → Nat} {sz : Nat} {As : List Value} {v : Int32} {n2 : Nat} {g2 : Nat → Nat → Nat} (hy : plainName y.cls = true) (hc : y.cls = RX1) (hle : (lg_sl (.ref (ia_h E 0) :: As)).length ≤ mL)
    (k : ∀ (p : Program) (e : Env) (s : State) (m : MethodId) (args : Array Value) (below : List Frame) (meth : Method) (c : Code) (ls : Array Slot) (A : Nat → Prop), p.tables.exec = Jvm.exec → c.code = b → meth.sig.returnType = some ty → c.maxLocals = mL → s.vm.findClass RX1 = some m.cls → (∀ w ∈ tb, w.before args s = true) → meth.locks = false → (∀ q : Nat, s.heap.size ≤ q → A q) → im_O E n g s s.heap → va_D A (im_w E n g) → va_S A s.heap s.heap [] → lv_has ls mL (lv_args 0 (.ref (ia_h E 0) :: As)) →
      W p l e (ia_rm d) s m args below meth c s.heap [] 0 0 (MQ below (va_Qi (fun (r : Int32) (u : Nat × (Nat → Nat → Nat)) => r = v ∧ u = (n2, g2)) (im_at E A) A) args s 0 0 A) (F0 m 0 ls [])) : im_M l y b mL ty d E n g sz As v n2 g2 := by
  refine Met.ofW (cc := b) (maxL := mL) (ret := some ty) hy rfl ?_
  intro p e s m args below meth c s₁ B hml hv
  obtain ⟨rfl, hsz, hO, hD0⟩ := hv
  have hts := atoms_spec (ws := ia_ws y b mL (some ty)) B.pre
  have hown : s.vm.findClass RX1 = some m.cls := hc ▸ findClass_of_methodNamed B.named
  subst hsz
  have hD := hD0.self (sz := s.heap.size)
  have hl := lv_entry (.ref (ia_h E 0) :: As) (n := mL) hle
  rw [lg_entry_eq]
  exact k p e s m _ below meth c _ _ B.exec B.bytes B.returns hml hown (fun w h => hts w (List.mem_cons_of_mem _ h)) B.notSynchronized (fun q h => Or.inr h) hO hD va_S.rf hl
section ZN
variable {p : Program} {l : Launch} {e : Env} {R : Room} {s : State} {m : MethodId} {args : Array Value} {below : List Frame} {meth : Method} {c : Code} {H : Heap} {locs : List Loc} {cells slots : Nat} {Q : State → Prop} {cc : ByteArray} {pc : Nat} {ls : Array Slot} {rest : List Value}
variable {E : ia_E} {n : Nat} {g : Nat → Nat → Nat} {A : Nat → Prop} {H0 : Heap}
theorem im_vret {n2 : Nat} {g2 : Nat → Nat → Nat} (hx : p.tables.exec = Jvm.exec) (hb : c.code = cc) (hr : meth.sig.returnType = none) (hlk : meth.locks = false) (hO : im_O E n g s H) (hD : va_D A (im_w E n g)) (hS : va_S A s.heap H locs) (h : (n, g) = (n2, g2)) (hd : decode cc pc = .ok (.return_, 1)) : W p l e R s m args below meth c H locs 0 0 (MQ below (va_Qv (fun u : Nat × (Nat → Nat → Nat) => u = (n2, g2)) (im_at E A) A) args s 0 0 A) (F0 m pc ls []) :=
  W.vret hx hb hr (fun t ht hW => ⟨⟨(n, g), rfl, h, ⟨va_K.moved hW.alike hO.1, by rw [ht]; exact hO.2⟩, hD⟩, hS.F ht⟩) hS.2.2 hd
theorem im_miret {a v : Int32} {n2 : Nat} {g2 : Nat → Nat → Nat} (hx : p.tables.exec = Jvm.exec) (hb : c.code = cc) (hr : meth.sig.returnType = some .int) (hlk : meth.locks = false) (hO : im_O E n g s H) (hD : va_D A (im_w E n g)) (hS : va_S A s.heap H locs) (h1 : a = v) (h : (n, g) = (n2, g2)) (hd : decode cc pc = .ok (.ireturn, 1)) : W p l e R s m args below meth c H locs 0 0 (MQ below (va_Qi (fun (r : Int32) (u : Nat × (Nat → Nat → Nat)) => r = v ∧ u = (n2, g2)) (im_at E A) A) args s 0 0 A) (F0 m pc ls [.int a]) :=
  W.iret (v := a) hx hb hr (fun t ht hW => ⟨⟨a, (n, g), rfl, ⟨h1, h⟩, ⟨va_K.moved hW.alike hO.1, by rw [ht]; exact hO.2⟩, hD⟩, hS.F ht⟩) hS.2.2 hd
theorem im_mzret {a : Nat} {v : Int32} {n2 : Nat} {g2 : Nat → Nat → Nat} (hx : p.tables.exec = Jvm.exec) (hb : c.code = cc) (hr : meth.sig.returnType = some .boolean) (hlk : meth.locks = false) (hO : im_O E n g s H) (hD : va_D A (im_w E n g)) (hS : va_S A s.heap H locs) (ha : a ≤ 1) (h1 : nI a = v) (h : (n, g) = (n2, g2)) (hd : decode cc pc = .ok (.ireturn, 1)) : W p l e R s m args below meth c H locs 0 0 (MQ below (va_Qi (fun (r : Int32) (u : Nat × (Nat → Nat → Nat)) => r = v ∧ u = (n2, g2)) (im_at E A) A) args s 0 0 A) (F0 m pc ls [.int (nI a)]) :=
  W.zret (v := nI a) hx hb hr (zk_nar ha) (fun t ht hW => ⟨⟨nI a, (n, g), rfl, ⟨h1, h⟩, ⟨va_K.moved hW.alike hO.1, by rw [ht]; exact hO.2⟩, hD⟩, hS.F ht⟩) hS.2.2 hd
theorem im_call {own : String} {y : MethodName} {b : ByteArray} {mL nL nA idx d : Nat} {ty : FieldType} {As st0 : List Value} {v : Int32} (hx : p.tables.exec = Jvm.exec) (hb : c.code = cc) (hml : c.maxLocals = nL) (hls : ls.size = nL) (hown : s.vm.findClass own = some m.cls) (ht : ∀ w ∈ tb, w.before args s = true) (hO : im_O E n g s H) (hM : im_R l y b mL ty d E n g As v) (hG : GoodIn tb (wsV own idx RX1 y (ia_ws y b mL (some ty)))) (hy : y.cls = RX1 ∧ y.cls ≠ "java/lang/invoke/MethodHandle" ∧ y.cls ≠ "java/lang/invoke/VarHandle" ∧ (parseMethodDescriptor y.desc).map (fun d => d.parameters.length) = some nA) (hn : As.length = nA) (hR : d + 1 ≤ R.frames ∧ 8 + (mL + 11) + 40 * d ≤ R.locals) (hc : cells ≤ R.cells ∧ slots ≤ R.slots) (hW : (rest.map fun v => v.category).sum ≤ 8) (hst : st0 = As.reverse ++ .ref (ia_h E 0) :: rest) (hd : decode cc pc = .ok (.invokevirtual idx, 3))
    (kk : W p l e R s m args below meth c H locs cells slots Q (F0 m (pc + 3) ls (.int v :: rest))) : W p l e R s m args below meth c H locs cells slots Q (F0 m pc ls st0) := by
  refine vp_callSi (W.runV (As := As) (rest := rest) ⟨hx, hb, hml, hown, ht⟩ hM (cwV nA ht hG rfl rfl rfl hy hR) ⟨fun a U g mk q => ⟨q.1, va_K.moved (u := U) (U := U.calling g mk a) (Vm.Alike.refl U.vm) q.2.1, q.2.2⟩, va_recv hO.1 hO.2 (ci := 1) (q0 := 0) rfl rfl, fun U hU hW => ⟨rfl, va_K.moved hW.alike hO.1, by rw [hU]; exact hO.2⟩⟩ rfl hn hls hst (lv_room hW) hd hc) (fun r h => ?_)
  rw [h]; exact kk
theorem im_callS {y : MethodName} {b : ByteArray} {mL nL nA idx d : Nat} {ty : FieldType} {As st0 : List Value} {v : Int32} (hx : p.tables.exec = Jvm.exec) (hb : c.code = cc) (hml : c.maxLocals = nL) (hls : ls.size = nL) (hown : s.vm.findClass RX1 = some m.cls) (ht : ∀ w ∈ tb, w.before args s = true) (hM : ia_T l y b mL ty d As v) (hG : GoodIn tb (wsS RX1 idx y (ia_ws y b mL (some ty)))) (hy : y.cls = RX1 ∧ y.cls ≠ "java/lang/invoke/MethodHandle" ∧ y.cls ≠ "java/lang/invoke/VarHandle" ∧ (parseMethodDescriptor y.desc).map (fun d => d.parameters.length) = some nA) (hn : As.length = nA) (hR : d + 1 ≤ R.frames ∧ 8 + (mL + 11) + 40 * d ≤ R.locals) (hc : cells ≤ R.cells ∧ slots ≤ R.slots) (hW : (rest.map fun v => v.category).sum ≤ 8) (hst : st0 = As.reverse ++ rest) (hd : decode cc pc = .ok (.invokestatic idx, 3))
    (kk : W p l e R s m args below meth c H locs cells slots Q (F0 m (pc + 3) ls (.int v :: rest))) : W p l e R s m args below meth c H locs cells slots Q (F0 m pc ls st0) := by
  refine vp_callSi (W.runS (As := As) (rest := rest) ⟨hx, hb, hml, hown, ht⟩ hM (cwS nA ht hG rfl rfl rfl hy hR) ⟨fun a U g mk q => ⟨q.1, trivial⟩, fun U hU hW => ⟨rfl, trivial⟩⟩ rfl hn hls hst (lv_room hW) hd hc) (fun r h => ?_)
  rw [h]; exact kk
theorem jm_callV {own : String} {y : MethodName} {b : ByteArray} {mL nL nA idx d : Nat} {As st0 : List Value} {n2 : Nat} {g2 : Nat → Nat → Nat} (hx : p.tables.exec = Jvm.exec) (hb : c.code = cc) (hml : c.maxLocals = nL) (hls : ls.size = nL) (hown : s.vm.findClass own = some m.cls) (ht : ∀ w ∈ tb, w.before args s = true) (hO : im_O E n g s H) (hD : va_D A (im_w E n g)) (hS : va_S A H0 H locs) (hA : ∀ q, H0.size ≤ q → A q) (hM : im_V l y b mL d E n g H.size As n2 g2) (hG : GoodIn tb (wsV own idx RX1 y (ia_ws y b mL none))) (hy : y.cls = RX1 ∧ y.cls ≠ "java/lang/invoke/MethodHandle" ∧ y.cls ≠ "java/lang/invoke/VarHandle" ∧ (parseMethodDescriptor y.desc).map (fun d => d.parameters.length) = some nA) (hn : As.length = nA) (hR : d + 1 ≤ R.frames ∧ 8 + (mL + 11) + 40 * d ≤ R.locals) (hc : cells ≤ R.cells ∧ slots ≤ R.slots) (hW : (rest.map fun v => v.category).sum ≤ 8) (hst : st0 = As.reverse ++ .ref (ia_h E 0) :: rest) (hd : decode cc pc = .ok (.invokevirtual idx, 3))
    (kk : ∀ (H1 : Heap) (locs1 : List Loc), im_O E n2 g2 s H1 → va_D A (im_w E n2 g2) → va_S A H0 H1 locs1 → (∀ q : Nat, q < H.size → ¬ va_A (im_w E n g) H.size q → H1[q]? = H[q]?) → va_D (va_A (im_w E n g) H.size) (im_w E n2 g2) → W p l e R s m args below meth c H1 locs1 cells slots Q (F0 m (pc + 3) ls rest)) : W p l e R s m args below meth c H locs cells slots Q (F0 m pc ls st0) := by
  have hF := va_free (wc := im_w E n g) hD hS hA (List.range 17) (ia_ids 17 rfl)
  refine va_callv (va_runV (As := As) (rest := rest) ⟨hx, hb, hml, hown, ht⟩ hM (cwV nA ht hG rfl rfl rfl hy hR) ⟨fun a U g mk q => ⟨q.1, q.2.1, ⟨va_K.moved (u := U) (U := U.calling g mk a) (Vm.Alike.refl U.vm) q.2.2.1.1, q.2.2.1.2⟩, q.2.2.2⟩, va_recv hO.1 hO.2 (ci := 1) (q0 := 0) rfl rfl, fun U hU hW => ⟨rfl, by rw [hU], ⟨va_K.moved hW.alike hO.1, by rw [hU]; exact hO.2⟩, hD.weaken (fun _ _ _ _ => trivial)⟩⟩ rfl hn hls hst (lv_room hW) hd hc) hS (fun q _ h => hF q h) hF (fun u t H1 locs1 hth hvm hw hB hz1 hk1 hS1 => ?_)
  subst hw
  refine kk H1 locs1 ⟨hO.1, ?_⟩ (hB.2.weaken (fun _ q _ h => hF q.1 h)) hS1 hk1 hB.2
  rw [← hth]; exact hB.1.2
theorem im_callV {y : MethodName} {b : ByteArray} {mL nL nA idx d : Nat} {As st0 : List Value} {n2 : Nat} {g2 : Nat → Nat → Nat} (hx : p.tables.exec = Jvm.exec) (hb : c.code = cc) (hml : c.maxLocals = nL) (hls : ls.size = nL) (hown : s.vm.findClass RX1 = some m.cls) (ht : ∀ w ∈ tb, w.before args s = true) (hO : im_O E n g s H) (hD : va_D A (im_w E n g)) (hS : va_S A H0 H locs) (hA : ∀ q, H0.size ≤ q → A q) (hM : im_V l y b mL d E n g H.size As n2 g2) (hG : GoodIn tb (wsV RX1 idx RX1 y (ia_ws y b mL none))) (hy : y.cls = RX1 ∧ y.cls ≠ "java/lang/invoke/MethodHandle" ∧ y.cls ≠ "java/lang/invoke/VarHandle" ∧ (parseMethodDescriptor y.desc).map (fun d => d.parameters.length) = some nA) (hn : As.length = nA) (hR : d + 1 ≤ R.frames ∧ 8 + (mL + 11) + 40 * d ≤ R.locals) (hc : cells ≤ R.cells ∧ slots ≤ R.slots) (hW : (rest.map fun v => v.category).sum ≤ 8) (hst : st0 = As.reverse ++ .ref (ia_h E 0) :: rest) (hd : decode cc pc = .ok (.invokevirtual idx, 3))
    (kk : ∀ (H1 : Heap) (locs1 : List Loc), im_O E n2 g2 s H1 → va_D A (im_w E n2 g2) → va_S A H0 H1 locs1 → W p l e R s m args below meth c H1 locs1 cells slots Q (F0 m (pc + 3) ls rest)) : W p l e R s m args below meth c H locs cells slots Q (F0 m pc ls st0) :=
  jm_callV hx hb hml hls hown ht hO hD hS hA hM hG hy hn hR hc hW hst hd (fun H1 locs1 h1 h2 h3 _ _ => kk H1 locs1 h1 h2 h3)
theorem jm_callM {own : String} {y : MethodName} {b : ByteArray} {mL nL nA idx d : Nat} {ty : FieldType} {As st0 : List Value} {v : Int32} {n2 : Nat} {g2 : Nat → Nat → Nat} (hx : p.tables.exec = Jvm.exec) (hb : c.code = cc) (hml : c.maxLocals = nL) (hls : ls.size = nL) (hown : s.vm.findClass own = some m.cls) (ht : ∀ w ∈ tb, w.before args s = true) (hO : im_O E n g s H) (hD : va_D A (im_w E n g)) (hS : va_S A H0 H locs) (hA : ∀ q, H0.size ≤ q → A q) (hM : im_M l y b mL ty d E n g H.size As v n2 g2) (hG : GoodIn tb (wsV own idx RX1 y (ia_ws y b mL (some ty)))) (hy : y.cls = RX1 ∧ y.cls ≠ "java/lang/invoke/MethodHandle" ∧ y.cls ≠ "java/lang/invoke/VarHandle" ∧ (parseMethodDescriptor y.desc).map (fun d => d.parameters.length) = some nA) (hn : As.length = nA) (hR : d + 1 ≤ R.frames ∧ 8 + (mL + 11) + 40 * d ≤ R.locals) (hc : cells ≤ R.cells ∧ slots ≤ R.slots) (hW : (rest.map fun v => v.category).sum ≤ 8) (hst : st0 = As.reverse ++ .ref (ia_h E 0) :: rest) (hd : decode cc pc = .ok (.invokevirtual idx, 3))
    (kk : ∀ (H1 : Heap) (locs1 : List Loc), im_O E n2 g2 s H1 → va_D A (im_w E n2 g2) → va_S A H0 H1 locs1 → (∀ q : Nat, q < H.size → ¬ va_A (im_w E n g) H.size q → H1[q]? = H[q]?) → va_D (va_A (im_w E n g) H.size) (im_w E n2 g2) → W p l e R s m args below meth c H1 locs1 cells slots Q (F0 m (pc + 3) ls (.int v :: rest))) : W p l e R s m args below meth c H locs cells slots Q (F0 m pc ls st0) := by
  have hF := va_free (wc := im_w E n g) hD hS hA (List.range 17) (ia_ids 17 rfl)
  refine va_calli (va_runV (As := As) (rest := rest) ⟨hx, hb, hml, hown, ht⟩ hM (cwV nA ht hG rfl rfl rfl hy hR) ⟨fun a U g mk q => ⟨q.1, q.2.1, ⟨va_K.moved (u := U) (U := U.calling g mk a) (Vm.Alike.refl U.vm) q.2.2.1.1, q.2.2.1.2⟩, q.2.2.2⟩, va_recv hO.1 hO.2 (ci := 1) (q0 := 0) rfl rfl, fun U hU hW => ⟨rfl, by rw [hU], ⟨va_K.moved hW.alike hO.1, by rw [hU]; exact hO.2⟩, hD.weaken (fun _ _ _ _ => trivial)⟩⟩ rfl hn hls hst (lv_room hW) hd hc) hS (fun q _ h => hF q h) hF (fun r u t H1 locs1 hth hvm hw hB hz1 hk1 hS1 => ?_)
  obtain ⟨rfl, rfl⟩ := hw
  refine kk H1 locs1 ⟨hO.1, ?_⟩ (hB.2.weaken (fun _ q _ h => hF q.1 h)) hS1 hk1 hB.2
  rw [← hth]; exact hB.1.2
theorem im_callM {y : MethodName} {b : ByteArray} {mL nL nA idx d : Nat} {ty : FieldType} {As st0 : List Value} {v : Int32} {n2 : Nat} {g2 : Nat → Nat → Nat} (hx : p.tables.exec = Jvm.exec) (hb : c.code = cc) (hml : c.maxLocals = nL) (hls : ls.size = nL) (hown : s.vm.findClass RX1 = some m.cls) (ht : ∀ w ∈ tb, w.before args s = true) (hO : im_O E n g s H) (hD : va_D A (im_w E n g)) (hS : va_S A H0 H locs) (hA : ∀ q, H0.size ≤ q → A q) (hM : im_M l y b mL ty d E n g H.size As v n2 g2) (hG : GoodIn tb (wsV RX1 idx RX1 y (ia_ws y b mL (some ty)))) (hy : y.cls = RX1 ∧ y.cls ≠ "java/lang/invoke/MethodHandle" ∧ y.cls ≠ "java/lang/invoke/VarHandle" ∧ (parseMethodDescriptor y.desc).map (fun d => d.parameters.length) = some nA) (hn : As.length = nA) (hR : d + 1 ≤ R.frames ∧ 8 + (mL + 11) + 40 * d ≤ R.locals) (hc : cells ≤ R.cells ∧ slots ≤ R.slots) (hW : (rest.map fun v => v.category).sum ≤ 8) (hst : st0 = As.reverse ++ .ref (ia_h E 0) :: rest) (hd : decode cc pc = .ok (.invokevirtual idx, 3))
    (kk : ∀ (H1 : Heap) (locs1 : List Loc), im_O E n2 g2 s H1 → va_D A (im_w E n2 g2) → va_S A H0 H1 locs1 → W p l e R s m args below meth c H1 locs1 cells slots Q (F0 m (pc + 3) ls (.int v :: rest))) : W p l e R s m args below meth c H locs cells slots Q (F0 m pc ls st0) :=
  jm_callM hx hb hml hls hown ht hO hD hS hA hM hG hy hn hR hc hW hst hd (fun H1 locs1 h1 h2 h3 _ _ => kk H1 locs1 h1 h2 h3)
end ZN
theorem zgX1_66 : GoodIn tb (wsS RX1 66 yX1_isRegister (ia_ws yX1_isRegister cX1_isRegister 1 (some .boolean))) := ia_gS zmX1_66 ztX1_isRegister znX1 zkX1_isRegister
theorem zgX1_70 : GoodIn tb (wsV RX1 70 RX1 yX1_come (ia_ws yX1_come cX1_come 7 (some .int))) := ia_gV zmX1_70 ziX1_come zsX1_come znX1 zkX1_come
theorem zgX1_104 : GoodIn tb (wsV RX1 104 RX1 yX1_reckon (ia_ws yX1_reckon cX1_reckon 5 none)) := ia_gV zmX1_104 ziX1_reckon zsX1_reckon znX1 zkX1_reckon
theorem zgX1_91 : GoodIn tb (wsV RX1 91 RX1 yX1_stand (ia_ws yX1_stand cX1_stand 5 none)) := ia_gV zmX1_91 ziX1_stand zsX1_stand znX1 zkX1_stand
theorem zgX1_95 : GoodIn tb (wsV RX1 95 RX1 yX1_fetch (ia_ws yX1_fetch cX1_fetch 2 none)) := ia_gV zmX1_95 ziX1_fetch zsX1_fetch znX1 zkX1_fetch
theorem zgX1_80 : GoodIn tb (wsV RX1 80 RX1 yX1_joins (ia_ws yX1_joins cX1_joins 2 (some .boolean))) := ia_gV zmX1_80 ziX1_joins zsX1_joins znX1 zkX1_joins
theorem zgX1_83 : GoodIn tb (wsS RX1 83 yX1_later (ia_ws yX1_later cX1_later 2 (some .int))) := ia_gS zmX1_83 ztX1_later znX1 zkX1_later
theorem zgX1_98 : GoodIn tb (wsV RX1 98 RX1 yX1_ready (ia_ws yX1_ready cX1_ready 2 (some .int))) := ia_gV zmX1_98 ziX1_ready zsX1_ready znX1 zkX1_ready
theorem zgX1_87 : GoodIn tb (wsS RX1 87 yX1_delay (ia_ws yX1_delay cX1_delay 1 (some .int))) := ia_gS zmX1_87 ztX1_delay znX1 zkX1_delay
theorem zgX1_101 : GoodIn tb (wsV RX1 101 RX1 yX1_pairs (ia_ws yX1_pairs cX1_pairs 5 (some .boolean))) := ia_gV zmX1_101 ziX1_pairs zsX1_pairs znX1 zkX1_pairs
theorem zgX1_74 : GoodIn tb (wsS RX1 74 yX1_isMemory (ia_ws yX1_isMemory cX1_isMemory 1 (some .boolean))) := ia_gS zmX1_74 ztX1_isMemory znX1 zkX1_isMemory
theorem zgX1_77 : GoodIn tb (wsS RX1 77 yX1_isSlow (ia_ws yX1_isSlow cX1_isSlow 1 (some .boolean))) := ia_gS zmX1_77 ztX1_isSlow znX1 zkX1_isSlow
theorem zgX1_107 : GoodIn tb (wsV RX1 107 RX1 yX1_stageOf (ia_ws yX1_stageOf cX1_stageOf 3 (some .int))) := ia_gV zmX1_107 ziX1_stageOf zsX1_stageOf znX1 zkX1_stageOf
theorem zgX1_110 : GoodIn tb (wsV RX1 110 RX1 yX1_inStage (ia_ws yX1_inStage cX1_inStage 5 (some .int))) := ia_gV zmX1_110 ziX1_inStage zsX1_inStage znX1 zkX1_inStage
theorem zgX1_113 : GoodIn tb (wsV RX1 113 RX1 yX1_counted (ia_ws yX1_counted cX1_counted 7 (some .int))) := ia_gV zmX1_113 ziX1_counted zsX1_counted znX1 zkX1_counted
theorem zgX1_116 : GoodIn tb (wsV RX1 116 RX1 yX1_longest (ia_ws yX1_longest cX1_longest 4 (some .int))) := ia_gV zmX1_116 ziX1_longest zsX1_longest znX1 zkX1_longest
theorem zgX1_120 : GoodIn tb (wsV RX1 120 RX1 yX1_busiest (ia_ws yX1_busiest cX1_busiest 5 (some .int))) := ia_gV zmX1_120 ziX1_busiest zsX1_busiest znX1 zkX1_busiest
section ZH
variable {p : Program} {l : Launch} {e : Env} {R : Room} {s : State} {m : MethodId} {args : Array Value} {below : List Frame} {meth : Method} {c : Code} {H : Heap} {locs : List Loc} {cells slots : Nat} {Q : State → Prop}
/-- a join behind stores: the number v that the paths have written is abstract -/
theorem zk_cutH {nL : Nat} (pc2 : Nat) (I : Nat → Heap → List Loc → Prop) (lv : List (Nat × Value)) {g1 : JFrame}
    (h : ∀ (v : Nat) (H : Heap) (locs : List Loc) (ls : Array Slot), I v H locs → lv_has ls nL lv → W p l e R s m args below meth c H locs cells slots Q (F0 m pc2 ls []))
    (k : (∀ (v : Nat) (H : Heap) (locs : List Loc) (ls : Array Slot), I v H locs → lv_has ls nL lv → W p l e R s m args below meth c H locs cells slots Q (F0 m pc2 ls [])) → W p l e R s m args below meth c H locs cells slots Q g1) : W p l e R s m args below meth c H locs cells slots Q g1 := k h
/-- a join of two numbers, the second raw -/
theorem zk_cut2 {nL : Nat} (pc2 : Nat) (P : Nat → Int32 → Prop) (lv : Nat → Int32 → List (Nat × Value)) (st : Nat → Int32 → List Value) {g1 : JFrame}
    (h : ∀ (v : Nat) (x : Int32) (ls : Array Slot), P v x → lv_has ls nL (lv v x) → W p l e R s m args below meth c H locs cells slots Q (F0 m pc2 ls (st v x)))
    (k : (∀ (v : Nat) (x : Int32) (ls : Array Slot), P v x → lv_has ls nL (lv v x) → W p l e R s m args below meth c H locs cells slots Q (F0 m pc2 ls (st v x))) → W p l e R s m args below meth c H locs cells slots Q g1) : W p l e R s m args below meth c H locs cells slots Q g1 := k h
/-- a loop upwards over a heap that changes, with a raw number -/
theorem zk_upX {nL : Nat} {pcH : Nat} (e0 : Nat) (I : Nat → Int32 → Heap → List Loc → Prop) (lv : Nat → Int32 → List (Nat × Value))
    (hx : ∀ x H locs, I e0 x H locs → ∀ ls, lv_has ls nL (lv e0 x) → W p l e R s m args below meth c H locs cells slots Q (F0 m pcH ls []))
    (hs : ∀ k, k < e0 → (∀ x H locs, I (k + 1) x H locs → ∀ ls, lv_has ls nL (lv (k + 1) x) → W p l e R s m args below meth c H locs cells slots Q (F0 m pcH ls [])) → ∀ x H locs, I k x H locs → ∀ ls, lv_has ls nL (lv k x) → W p l e R s m args below meth c H locs cells slots Q (F0 m pcH ls [])) :
    ∀ d k, k + d = e0 → ∀ x H locs, I k x H locs → ∀ ls, lv_has ls nL (lv k x) → W p l e R s m args below meth c H locs cells slots Q (F0 m pcH ls []) := by
  intro d
  induction d with
  | zero =>
    intro k hk x H locs hI ls hl
    obtain rfl : k = e0 := by omega
    exact hx x H locs hI ls hl
  | succ d ih =>
    intro k hk x H locs hI ls hl
    exact hs k (by omega) (ih (k + 1) (by omega)) x H locs hI ls hl
end ZH
