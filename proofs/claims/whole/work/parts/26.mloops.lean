def zm_isv (g : Nat → Nat → Nat) (w k : Nat) : Nat := if w = 2 then (if 0 < k ∧ g 13 k = g 13 (k - 1) then 1 else 0) else if w = 4 then g 10 k else (if 0 < k ∧ g 12 k = g 12 (k - 1) then 1 else 0)
def zm_cnt (g : Nat → Nat → Nat) (w : Nat) : Nat → Nat
  | 0 => 0
  | k + 1 => zm_cnt g w k + (if zm_isv g w k ≠ 0 then 1 else 0)
def zm_at (g : Nat → Nat → Nat) (i j : Nat) : Nat := if g 12 j ≤ g 12 i ∧ g 12 i < g 13 j then 1 else 0
def zm_cntat (g : Nat → Nat → Nat) (i : Nat) : Nat → Nat
  | 0 => 0
  | j + 1 => zm_cntat g i j + zm_at g i j
def zm_busy (g : Nat → Nat → Nat) (n : Nat) : Nat → Nat
  | 0 => 0
  | k + 1 => max (zm_busy g n k) (zm_cntat g k n)
theorem zbm_at (g : Nat → Nat → Nat) (i j : Nat) : zm_at g i j ≤ 1 := by unfold zm_at; (repeat' split) <;> omega
theorem zbm_cnt (g : Nat → Nat → Nat) (w k : Nat) : zm_cnt g w k ≤ k := by
  induction k with
  | zero => exact Nat.le_refl _
  | succ k ih => unfold zm_cnt; (repeat' split) <;> omega
theorem zbm_cntat (g : Nat → Nat → Nat) (i j : Nat) : zm_cntat g i j ≤ j := by
  induction j with
  | zero => exact Nat.le_refl _
  | succ j ih => have := zbm_at g i j; unfold zm_cntat; omega
theorem zbm_busy (g : Nat → Nat → Nat) (n k : Nat) : zm_busy g n k ≤ n := by
  induction k with
  | zero => exact Nat.zero_le _
  | succ k ih => have := zbm_cntat g k n; unfold zm_busy; omega
theorem zbm_isv {g : Nat → Nat → Nat} (h : zm_B g) (w k : Nat) : zm_isv g w k ≤ 40 * k + 40 := by
  have := h.1 10 k (by decide)
  unfold zm_isv; (repeat' split) <;> omega
theorem zbm_long {g : Nat → Nat → Nat} (h : zm_B g) (k : Nat) : zs_long g k ≤ 40 * k := by
  induction k with
  | zero => exact Nat.le_refl _
  | succ k ih =>
    have h1 := h.1 13 k (by decide)
    unfold zs_long; omega
def zm_cell (g : Nat → Nat → Nat) (n j : Nat) : Nat → Nat → Nat := ia_up (zs_put g n (g 1 j) (g 2 j) (g 3 j) (g 4 j) (g 5 j) (g 6 j)) 7 n (zs_put g n (g 1 j) (g 2 j) (g 3 j) (g 4 j) (g 5 j) (g 6 j) 7 j)
def zm_again (g : Nat → Nat → Nat) (n i : Nat) : Nat → Nat → Nat → Nat
  | 0 => g
  | k + 1 => zm_cell (zm_again g n i k) (n + k) (i + k)
def zm_V (g : Nat → Nat → Nat) : Prop := zm_B g ∧ zs_V g ∧ ∀ j, g 7 j ≤ 1
theorem zm_B_put {g : Nat → Nat → Nat} (h : zm_B g) {i k d a b f go : Nat} (hk : k ≤ 7 ∧ d ≤ 31 ∧ a ≤ 31 ∧ b ≤ 31) (hf : f ≤ 2 ∧ go ≤ 1) : zm_B (zs_put g i k d a b f go) :=
  zm_B_up (zm_B_up (zm_B_up (zm_B_up (zm_B_up (zm_B_up (zm_B_up h (by decide) (by omega)) (by decide) (by omega)) (by decide) (by omega)) (by decide) (by omega)) (by decide) (by omega)) (by decide) (by omega)) (by decide) (by omega)
theorem zm_V_put {g : Nat → Nat → Nat} (h : zm_V g) {i k d a b f go : Nat} (hk : k ≤ 7 ∧ d ≤ 31 ∧ a ≤ 31 ∧ b ≤ 31) (hf : f ≤ 2 ∧ go ≤ 1) : zm_V (zs_put g i k d a b f go) := by
  refine ⟨zm_B_put h.1 hk hf, zs_V_put h.2.1 hk hf, fun j => ?_⟩
  by_cases hj : j = i
  · subst hj; rw [(zs_put_at g j k d a b f go).2.2.2.2.2.2]; omega
  · rw [zs_put_ne (Or.inl hj)]; exact h.2.2 j
theorem zm_V_up7 {g : Nat → Nat → Nat} (h : zm_V g) {i v : Nat} (hv : v ≤ 1) : zm_V (ia_up g 7 i v) := by
  refine ⟨zm_B_up h.1 (by decide) (by omega), fun j => ?_, fun j => ?_⟩
  · rw [zs_up_ne (g := g) (a := 1) (Or.inl (by decide)), zs_up_ne (g := g) (a := 2) (Or.inl (by decide)), zs_up_ne (g := g) (a := 3) (Or.inl (by decide)), zs_up_ne (g := g) (a := 4) (Or.inl (by decide)), zs_up_ne (g := g) (a := 5) (Or.inl (by decide)), zs_up_ne (g := g) (a := 6) (Or.inl (by decide))]
    exact h.2.1 j
  · by_cases hj : j = i
    · subst hj; rw [zs_up_at]; exact hv
    · rw [zs_up_ne (Or.inr hj)]; exact h.2.2 j
theorem zm_V_cell {g : Nat → Nat → Nat} (h : zm_V g) (n j : Nat) : zm_V (zm_cell g n j) := by
  have hj := h.2.1 j
  have h1 : zm_V (zs_put g n (g 1 j) (g 2 j) (g 3 j) (g 4 j) (g 5 j) (g 6 j)) := zm_V_put h (by omega) (by omega)
  exact zm_V_up7 h1 (h1.2.2 j)
theorem zm_V_again {g : Nat → Nat → Nat} (h : zm_V g) (n i k : Nat) : zm_V (zm_again g n i k) := by
  induction k with
  | zero => exact h
  | succ k ih => exact zm_V_cell ih (n + k) (i + k)
set_option maxHeartbeats 4000000 in
set_option maxRecDepth 100000 in
/-- the reference: inStage -/
theorem zmc_many (l : Launch) (E : ia_E) (n : Nat) (g : Nat → Nat → Nat) (hg : zm_B g) (x y : Nat) (hn : n ≤ 400) (hx0 : x ≤ 3) (hy : y < 2 ^ 31) : im_R l yX1_inStage cX1_inStage 5 .int 1 E n g [.int (nI x), .int (nI y)] (nI (zs_many g x y n)) := by
  refine im_Rof (by decide) rfl (Nat.le_of_ble_eq_true rfl) (fun p e s m args below meth c ls hx hb hr hml hown ht hlk hO hl => ?_)
  have hl : lv_has ls 5 [(0, .ref (ia_h E 0)), (1, .int (nI x)), (2, .int (nI y))] := hl
  refine lv_iconst (v := nI 0) hx hb dX1_inStage_0 (by decide) ?_
  refine lv_istore_n (lv' := [(3, .int (nI 0)), (0, .ref (ia_h E 0)), (1, .int (nI x)), (2, .int (nI y))]) hx hb dX1_inStage_1 rfl hl (by decide) rfl (fun ls hl => ?_)
  refine lv_iconst (v := nI 0) hx hb dX1_inStage_2 (by decide) ?_
  refine lv_istore (lv' := [(4, .int (nI 0)), (3, .int (nI 0)), (0, .ref (ia_h E 0)), (1, .int (nI x)), (2, .int (nI y))]) hx hb dX1_inStage_3 hl (by decide) rfl (fun ls hl => ?_)
  refine zk_up (nL := 5) (pcH := 5) 0 n (fun _ => True) (fun k => [(3, .int (nI (zs_many g x y k))), (4, .int (nI k)), (0, .ref (ia_h E 0)), (1, .int (nI x)), (2, .int (nI y))]) ?_ ?_ n 0 (Nat.le_refl _) (by omega) trivial ls (lv_sub hl [1, 0, 2, 3, 4] rfl)
  · intro _ ls hl
    have hl : lv_has ls 5 [(3, .int (nI (zs_many g x y n))), (4, .int (nI n)), (0, .ref (ia_h E 0)), (1, .int (nI x)), (2, .int (nI y))] := hl
    refine lv_iload hx hb dX1_inStage_5 (lv_at hl 1 rfl) ?_
    refine lv_aload_n hx hb dX1_inStage_7 rfl (lv_at hl 2 rfl) ?_
    refine im_get 1 (v := .int (nI n)) hx hb ht hown hO (by decide) rfl zlX1_63 rfl dX1_inStage_8 ?_
    refine zk_cge (tgt := 39) hx hb dX1_inStage_11 (by decide) (by omega) (by omega) (fun c_1 => ?_) (fun c_1 => ?_)
    · refine lv_iload_n hx hb dX1_inStage_39 rfl (lv_at hl 0 rfl) ?_
      exact ia_iret hx hb hr hlk rfl dX1_inStage_40
    · exact absurd (show False from by omega) id
  · intro k hk0 hk ih _ ls hl
    have hl : lv_has ls 5 [(3, .int (nI (zs_many g x y k))), (4, .int (nI k)), (0, .ref (ia_h E 0)), (1, .int (nI x)), (2, .int (nI y))] := hl
    have e1 : (zs_stage g k y = x → zs_many g x y (k + 1) = zs_many g x y k + 1) ∧ (¬ zs_stage g k y = x → zs_many g x y (k + 1) = zs_many g x y k + 0) := ⟨fun h => congrArg (fun z => zs_many g x y k + z) (if_pos h), fun h => congrArg (fun z => zs_many g x y k + z) (if_neg h)⟩
    have e2 := zb_many g x y k
    refine lv_iload hx hb dX1_inStage_5 (lv_at hl 1 rfl) ?_
    refine lv_aload_n hx hb dX1_inStage_7 rfl (lv_at hl 2 rfl) ?_
    refine im_get 1 (v := .int (nI n)) hx hb ht hown hO (by decide) rfl zlX1_63 rfl dX1_inStage_8 ?_
    refine zk_cge (tgt := 39) hx hb dX1_inStage_11 (by decide) (by omega) (by omega) (fun c_2 => ?_) (fun c_2 => ?_)
    · exact absurd (show False from by omega) id
    · refine lv_iload_n hx hb dX1_inStage_14 rfl (lv_at hl 0 rfl) ?_
      refine lv_aload_n hx hb dX1_inStage_15 rfl (lv_at hl 2 rfl) ?_
      refine lv_iload hx hb dX1_inStage_16 (lv_at hl 1 rfl) ?_
      refine lv_iload_n hx hb dX1_inStage_18 rfl (lv_at hl 4 rfl) ?_
      refine im_call (rest := [.int (nI (zs_many g x y k))]) hx hb hml hl.1 hown ht hO (zmc_stage l E n g hg k y (by omega) (by omega)) zgX1_107 zyX1_stageOf rfl ⟨by decide, by decide⟩ ⟨Nat.zero_le _, Nat.zero_le _⟩ (Nat.le_of_ble_eq_true rfl) rfl dX1_inStage_19 ?_
      have b_3 := zb_stage g k y
      refine lv_iload_n hx hb dX1_inStage_22 rfl (lv_at hl 3 rfl) ?_
      refine zk_cne (tgt := 30) hx hb dX1_inStage_23 (by decide) (by omega) (by omega) (fun c_4 => ?_) (fun c_4 => ?_)
      · refine lv_iconst (v := nI 0) hx hb dX1_inStage_30 (by decide) ?_
        refine zk_add hx hb dX1_inStage_31 ?_
        refine lv_istore_n (lv' := [(3, .int (nI ((zs_many g x y k) + 0))), (4, .int (nI k)), (0, .ref (ia_h E 0)), (1, .int (nI x)), (2, .int (nI y))]) hx hb dX1_inStage_32 rfl hl (by decide) rfl (fun ls hl => ?_)
        refine lv_iinc (v := nI (k + 1)) (lv' := [(4, .int (nI (k + 1))), (3, .int (nI ((zs_many g x y k) + 0))), (0, .ref (ia_h E 0)), (1, .int (nI x)), (2, .int (nI y))]) hx hb dX1_inStage_33 hl (k := 1) rfl (zk_inc k) (by decide) rfl (fun ls hl => ?_)
        refine lv_goto (tgt := 5) hx hb dX1_inStage_36 (by decide) ?_
        have e9 : (zs_many g x y k) + 0 = zs_many g x y (k + 1) := by omega
        rw [e9] at hl
        exact ih trivial ls (lv_sub hl [1, 0, 2, 3, 4] rfl)
      · refine lv_iconst (v := nI 1) hx hb dX1_inStage_26 (by decide) ?_
        refine lv_goto (tgt := 31) hx hb dX1_inStage_27 (by decide) ?_
        refine zk_add hx hb dX1_inStage_31 ?_
        refine lv_istore_n (lv' := [(3, .int (nI ((zs_many g x y k) + 1))), (4, .int (nI k)), (0, .ref (ia_h E 0)), (1, .int (nI x)), (2, .int (nI y))]) hx hb dX1_inStage_32 rfl hl (by decide) rfl (fun ls hl => ?_)
        refine lv_iinc (v := nI (k + 1)) (lv' := [(4, .int (nI (k + 1))), (3, .int (nI ((zs_many g x y k) + 1))), (0, .ref (ia_h E 0)), (1, .int (nI x)), (2, .int (nI y))]) hx hb dX1_inStage_33 hl (k := 1) rfl (zk_inc k) (by decide) rfl (fun ls hl => ?_)
        refine lv_goto (tgt := 5) hx hb dX1_inStage_36 (by decide) ?_
        have e9 : (zs_many g x y k) + 1 = zs_many g x y (k + 1) := by omega
        rw [e9] at hl
        exact ih trivial ls (lv_sub hl [1, 0, 2, 3, 4] rfl)
set_option maxHeartbeats 4000000 in
set_option maxRecDepth 100000 in
/-- the reference: counted -/
theorem zmc_cnt (l : Launch) (E : ia_E) (n : Nat) (g : Nat → Nat → Nat) (hg : zm_B g) (w : Nat) (hn : n ≤ 400) (hw0 : w ≤ 6) : im_R l yX1_counted cX1_counted 7 .int 0 E n g [.int (nI w)] (nI (zm_cnt g w n)) := by
  refine im_Rof (by decide) rfl (Nat.le_of_ble_eq_true rfl) (fun p e s m args below meth c ls hx hb hr hml hown ht hlk hO hl => ?_)
  have hl : lv_has ls 7 [(0, .ref (ia_h E 0)), (1, .int (nI w))] := hl
  refine lv_iconst (v := nI 0) hx hb dX1_counted_0 (by decide) ?_
  refine lv_istore_n (lv' := [(2, .int (nI 0)), (0, .ref (ia_h E 0)), (1, .int (nI w))]) hx hb dX1_counted_1 rfl hl (by decide) rfl (fun ls hl => ?_)
  refine lv_iconst (v := nI 0) hx hb dX1_counted_2 (by decide) ?_
  refine lv_istore_n (lv' := [(3, .int (nI 0)), (2, .int (nI 0)), (0, .ref (ia_h E 0)), (1, .int (nI w))]) hx hb dX1_counted_3 rfl hl (by decide) rfl (fun ls hl => ?_)
  refine zk_up (nL := 7) (pcH := 4) 0 n (fun _ => True) (fun k => [(2, .int (nI (zm_cnt g w k))), (3, .int (nI k)), (0, .ref (ia_h E 0)), (1, .int (nI w))]) ?_ ?_ n 0 (Nat.le_refl _) (by omega) trivial ls (lv_sub hl [1, 0, 2, 3] rfl)
  · intro _ ls hl
    have hl : lv_has ls 7 [(2, .int (nI (zm_cnt g w n))), (3, .int (nI n)), (0, .ref (ia_h E 0)), (1, .int (nI w))] := hl
    refine lv_iload_n hx hb dX1_counted_4 rfl (lv_at hl 1 rfl) ?_
    refine lv_aload_n hx hb dX1_counted_5 rfl (lv_at hl 2 rfl) ?_
    refine im_get 1 (v := .int (nI n)) hx hb ht hown hO (by decide) rfl zlX1_63 rfl dX1_counted_6 ?_
    refine zk_cge (tgt := 132) hx hb dX1_counted_9 (by decide) (by omega) (by omega) (fun c_1 => ?_) (fun c_1 => ?_)
    · refine lv_iload_n hx hb dX1_counted_132 rfl (lv_at hl 0 rfl) ?_
      exact ia_iret hx hb hr hlk rfl dX1_counted_133
    · exact absurd (show False from by omega) id
  · intro k hk0 hk ih _ ls hl
    have hl : lv_has ls 7 [(2, .int (nI (zm_cnt g w k))), (3, .int (nI k)), (0, .ref (ia_h E 0)), (1, .int (nI w))] := hl
    have e1 : (zm_isv g w k ≠ 0 → zm_cnt g w (k + 1) = zm_cnt g w k + 1) ∧ (¬ zm_isv g w k ≠ 0 → zm_cnt g w (k + 1) = zm_cnt g w k + 0) := ⟨fun h => congrArg (fun z => zm_cnt g w k + z) (if_pos h), fun h => congrArg (fun z => zm_cnt g w k + z) (if_neg h)⟩
    have e2 := zbm_cnt g w k
    have e3 := zbm_isv hg w k
    refine lv_iload_n hx hb dX1_counted_4 rfl (lv_at hl 1 rfl) ?_
    refine lv_aload_n hx hb dX1_counted_5 rfl (lv_at hl 2 rfl) ?_
    refine im_get 1 (v := .int (nI n)) hx hb ht hown hO (by decide) rfl zlX1_63 rfl dX1_counted_6 ?_
    refine zk_cge (tgt := 132) hx hb dX1_counted_9 (by decide) (by omega) (by omega) (fun c_2 => ?_) (fun c_2 => ?_)
    · exact absurd (show False from by omega) id
    · refine zk_cut (nL := 7) 21 (fun v_3 => (0 < k → v_3 = 1) ∧ (¬ (0 < k) → v_3 = 0)) (fun v_3 => [(2, .int (nI (zm_cnt g w k))), (3, .int (nI k)), (0, .ref (ia_h E 0)), (1, .int (nI w))]) (fun v_3 => [.int (nI v_3)]) (fun v_3 ls e_4 hl => ?_) (fun J_5 => ?_)
      · have e_4 : (0 < k → v_3 = 1) ∧ (¬ (0 < k) → v_3 = 0) := e_4
        have hl : lv_has ls 7 [(2, .int (nI (zm_cnt g w k))), (3, .int (nI k)), (0, .ref (ia_h E 0)), (1, .int (nI w))] := hl
        refine lv_istore (lv' := [(4, .int (nI v_3)), (2, .int (nI (zm_cnt g w k))), (3, .int (nI k)), (0, .ref (ia_h E 0)), (1, .int (nI w))]) hx hb dX1_counted_21 hl (by decide) rfl (fun ls hl => ?_)
        refine zk_cut (nL := 7) 35 (fun v_6 => v_6 = k - 1) (fun v_6 => [(4, .int (nI v_3)), (2, .int (nI (zm_cnt g w k))), (3, .int (nI k)), (0, .ref (ia_h E 0)), (1, .int (nI w))]) (fun v_6 => [.int (nI v_6)]) (fun v_6 ls e_7 hl => ?_) (fun J_8 => ?_)
        · have e_7 : v_6 = k - 1 := e_7
          have hl : lv_has ls 7 [(4, .int (nI v_3)), (2, .int (nI (zm_cnt g w k))), (3, .int (nI k)), (0, .ref (ia_h E 0)), (1, .int (nI w))] := hl
          subst e_7
          refine lv_istore (lv' := [(5, .int (nI (k - 1))), (4, .int (nI v_3)), (2, .int (nI (zm_cnt g w k))), (3, .int (nI k)), (0, .ref (ia_h E 0)), (1, .int (nI w))]) hx hb dX1_counted_35 hl (by decide) rfl (fun ls hl => ?_)
          refine zk_cut (nL := 7) 111 (fun v_9 => v_9 = zm_isv g w k) (fun v_9 => [(5, .int (nI (k - 1))), (4, .int (nI v_3)), (2, .int (nI (zm_cnt g w k))), (3, .int (nI k)), (0, .ref (ia_h E 0)), (1, .int (nI w))]) (fun v_9 => [.int (nI v_9)]) (fun v_9 ls e_10 hl => ?_) (fun J_11 => ?_)
          · have e_10 : v_9 = zm_isv g w k := e_10
            have hl : lv_has ls 7 [(5, .int (nI (k - 1))), (4, .int (nI v_3)), (2, .int (nI (zm_cnt g w k))), (3, .int (nI k)), (0, .ref (ia_h E 0)), (1, .int (nI w))] := hl
            refine lv_istore (lv' := [(6, .int (nI v_9)), (5, .int (nI (k - 1))), (4, .int (nI v_3)), (2, .int (nI (zm_cnt g w k))), (3, .int (nI k)), (0, .ref (ia_h E 0)), (1, .int (nI w))]) hx hb dX1_counted_111 hl (by decide) rfl (fun ls hl => ?_)
            refine lv_iload_n hx hb dX1_counted_113 rfl (lv_at hl 3 rfl) ?_
            refine lv_iload hx hb dX1_counted_114 (lv_at hl 0 rfl) ?_
            refine zk_ifeq (tgt := 123) hx hb dX1_counted_116 (by decide) (by omega) (fun c_12 => ?_) (fun c_12 => ?_)
            · refine lv_iconst (v := nI 0) hx hb dX1_counted_123 (by decide) ?_
              refine zk_add hx hb dX1_counted_124 ?_
              refine lv_istore_n (lv' := [(2, .int (nI ((zm_cnt g w k) + 0))), (6, .int (nI v_9)), (5, .int (nI (k - 1))), (4, .int (nI v_3)), (3, .int (nI k)), (0, .ref (ia_h E 0)), (1, .int (nI w))]) hx hb dX1_counted_125 rfl hl (by decide) rfl (fun ls hl => ?_)
              refine lv_iinc (v := nI (k + 1)) (lv' := [(3, .int (nI (k + 1))), (2, .int (nI ((zm_cnt g w k) + 0))), (6, .int (nI v_9)), (5, .int (nI (k - 1))), (4, .int (nI v_3)), (0, .ref (ia_h E 0)), (1, .int (nI w))]) hx hb dX1_counted_126 hl (k := 4) rfl (zk_inc k) (by decide) rfl (fun ls hl => ?_)
              refine lv_goto (tgt := 4) hx hb dX1_counted_129 (by decide) ?_
              have e9 : (zm_cnt g w k) + 0 = zm_cnt g w (k + 1) := by omega
              rw [e9] at hl
              exact ih trivial ls (lv_sub hl [1, 0, 5, 6] rfl)
            · refine lv_iconst (v := nI 1) hx hb dX1_counted_119 (by decide) ?_
              refine lv_goto (tgt := 124) hx hb dX1_counted_120 (by decide) ?_
              refine zk_add hx hb dX1_counted_124 ?_
              refine lv_istore_n (lv' := [(2, .int (nI ((zm_cnt g w k) + 1))), (6, .int (nI v_9)), (5, .int (nI (k - 1))), (4, .int (nI v_3)), (3, .int (nI k)), (0, .ref (ia_h E 0)), (1, .int (nI w))]) hx hb dX1_counted_125 rfl hl (by decide) rfl (fun ls hl => ?_)
              refine lv_iinc (v := nI (k + 1)) (lv' := [(3, .int (nI (k + 1))), (2, .int (nI ((zm_cnt g w k) + 1))), (6, .int (nI v_9)), (5, .int (nI (k - 1))), (4, .int (nI v_3)), (0, .ref (ia_h E 0)), (1, .int (nI w))]) hx hb dX1_counted_126 hl (k := 4) rfl (zk_inc k) (by decide) rfl (fun ls hl => ?_)
              refine lv_goto (tgt := 4) hx hb dX1_counted_129 (by decide) ?_
              have e9 : (zm_cnt g w k) + 1 = zm_cnt g w (k + 1) := by omega
              rw [e9] at hl
              exact ih trivial ls (lv_sub hl [1, 0, 5, 6] rfl)
          · refine lv_iload_n hx hb dX1_counted_37 rfl (lv_at hl 5 rfl) ?_
            refine lv_iconst (v := nI 2) hx hb dX1_counted_38 (by decide) ?_
            refine zk_cne (tgt := 71) hx hb dX1_counted_39 (by decide) (by omega) (by omega) (fun c_13 => ?_) (fun c_13 => ?_)
            · refine lv_iload_n hx hb dX1_counted_71 rfl (lv_at hl 5 rfl) ?_
              refine lv_iconst (v := nI 4) hx hb dX1_counted_72 (by decide) ?_
              refine zk_cne (tgt := 85) hx hb dX1_counted_73 (by decide) (by omega) (by omega) (fun c_14 => ?_) (fun c_14 => ?_)
              · refine lv_iload hx hb dX1_counted_85 (lv_at hl 1 rfl) ?_
                refine zk_ifeq (tgt := 110) hx hb dX1_counted_87 (by decide) (by omega) (fun c_15 => ?_) (fun c_15 => ?_)
                · refine lv_iconst (v := nI 0) hx hb dX1_counted_110 (by decide) ?_
                  exact J_11 0 ls (show 0 = zm_isv g w k from by unfold zm_isv; (repeat' split) <;> omega) (lv_sub hl [0, 1, 2, 3, 4, 5] rfl)
                · refine lv_aload_n hx hb dX1_counted_90 rfl (lv_at hl 4 rfl) ?_
                  refine im_get 14 (v := .ref (ia_h E 14)) hx hb ht hown hO (by decide) rfl zlX1_47 rfl dX1_counted_91 ?_
                  refine lv_iload_n hx hb dX1_counted_94 rfl (lv_at hl 3 rfl) ?_
                  refine im_ild 13 14 12 k hx hb hO rfl (by omega) dX1_counted_95 ?_
                  have b_16 := hg.1 12 k (by decide)
                  refine lv_aload_n hx hb dX1_counted_96 rfl (lv_at hl 4 rfl) ?_
                  refine im_get 14 (v := .ref (ia_h E 14)) hx hb ht hown hO (by decide) rfl zlX1_47 rfl dX1_counted_97 ?_
                  refine lv_iload hx hb dX1_counted_100 (lv_at hl 0 rfl) ?_
                  refine im_ild 13 14 12 (k - 1) hx hb hO rfl (by omega) dX1_counted_102 ?_
                  have b_17 := hg.1 12 (k - 1) (by decide)
                  refine zk_cne (tgt := 110) hx hb dX1_counted_103 (by decide) (by omega) (by omega) (fun c_18 => ?_) (fun c_18 => ?_)
                  · refine lv_iconst (v := nI 0) hx hb dX1_counted_110 (by decide) ?_
                    exact J_11 0 ls (show 0 = zm_isv g w k from by unfold zm_isv; (repeat' split) <;> omega) (lv_sub hl [0, 1, 2, 3, 4, 5] rfl)
                  · refine lv_iconst (v := nI 1) hx hb dX1_counted_106 (by decide) ?_
                    refine lv_goto (tgt := 111) hx hb dX1_counted_107 (by decide) ?_
                    exact J_11 1 ls (show 1 = zm_isv g w k from by unfold zm_isv; (repeat' split) <;> omega) (lv_sub hl [0, 1, 2, 3, 4, 5] rfl)
              · refine lv_aload_n hx hb dX1_counted_76 rfl (lv_at hl 4 rfl) ?_
                refine im_get 16 (v := .ref (ia_h E 16)) hx hb ht hown hO (by decide) rfl zlX1_53 rfl dX1_counted_77 ?_
                refine lv_iload_n hx hb dX1_counted_80 rfl (lv_at hl 3 rfl) ?_
                refine im_zld 15 16 10 k hx hb hO rfl (by omega) dX1_counted_81 ?_
                have b_19 := hg.1 10 k (by decide)
                refine lv_goto (tgt := 111) hx hb dX1_counted_82 (by decide) ?_
                exact J_11 (g 10 k) ls (show (g 10 k) = zm_isv g w k from by unfold zm_isv; (repeat' split) <;> omega) (lv_sub hl [0, 1, 2, 3, 4, 5] rfl)
            · refine lv_iload hx hb dX1_counted_42 (lv_at hl 1 rfl) ?_
              refine zk_ifeq (tgt := 67) hx hb dX1_counted_44 (by decide) (by omega) (fun c_20 => ?_) (fun c_20 => ?_)
              · refine lv_iconst (v := nI 0) hx hb dX1_counted_67 (by decide) ?_
                refine lv_goto (tgt := 111) hx hb dX1_counted_68 (by decide) ?_
                exact J_11 0 ls (show 0 = zm_isv g w k from by unfold zm_isv; (repeat' split) <;> omega) (lv_sub hl [0, 1, 2, 3, 4, 5] rfl)
              · refine lv_aload_n hx hb dX1_counted_47 rfl (lv_at hl 4 rfl) ?_
                refine im_get 15 (v := .ref (ia_h E 15)) hx hb ht hown hO (by decide) rfl zlX1_50 rfl dX1_counted_48 ?_
                refine lv_iload_n hx hb dX1_counted_51 rfl (lv_at hl 3 rfl) ?_
                refine im_ild 14 15 13 k hx hb hO rfl (by omega) dX1_counted_52 ?_
                have b_21 := hg.1 13 k (by decide)
                refine lv_aload_n hx hb dX1_counted_53 rfl (lv_at hl 4 rfl) ?_
                refine im_get 15 (v := .ref (ia_h E 15)) hx hb ht hown hO (by decide) rfl zlX1_50 rfl dX1_counted_54 ?_
                refine lv_iload hx hb dX1_counted_57 (lv_at hl 0 rfl) ?_
                refine im_ild 14 15 13 (k - 1) hx hb hO rfl (by omega) dX1_counted_59 ?_
                have b_22 := hg.1 13 (k - 1) (by decide)
                refine zk_cne (tgt := 67) hx hb dX1_counted_60 (by decide) (by omega) (by omega) (fun c_23 => ?_) (fun c_23 => ?_)
                · refine lv_iconst (v := nI 0) hx hb dX1_counted_67 (by decide) ?_
                  refine lv_goto (tgt := 111) hx hb dX1_counted_68 (by decide) ?_
                  exact J_11 0 ls (show 0 = zm_isv g w k from by unfold zm_isv; (repeat' split) <;> omega) (lv_sub hl [0, 1, 2, 3, 4, 5] rfl)
                · refine lv_iconst (v := nI 1) hx hb dX1_counted_63 (by decide) ?_
                  refine lv_goto (tgt := 111) hx hb dX1_counted_64 (by decide) ?_
                  exact J_11 1 ls (show 1 = zm_isv g w k from by unfold zm_isv; (repeat' split) <;> omega) (lv_sub hl [0, 1, 2, 3, 4, 5] rfl)
        · refine lv_iload hx hb dX1_counted_23 (lv_at hl 0 rfl) ?_
          refine zk_ifeq (tgt := 34) hx hb dX1_counted_25 (by decide) (by omega) (fun c_24 => ?_) (fun c_24 => ?_)
          · refine lv_iconst (v := nI 0) hx hb dX1_counted_34 (by decide) ?_
            exact J_8 0 ls (show 0 = k - 1 from by omega) (lv_sub hl [0, 1, 2, 3, 4] rfl)
          · refine lv_iload_n hx hb dX1_counted_28 rfl (lv_at hl 2 rfl) ?_
            refine lv_iconst (v := nI 1) hx hb dX1_counted_29 (by decide) ?_
            refine zk_sub hx hb (by omega) dX1_counted_30 ?_
            refine lv_goto (tgt := 35) hx hb dX1_counted_31 (by decide) ?_
            exact J_8 (k - 1) ls (show (k - 1) = k - 1 from by omega) (lv_sub hl [0, 1, 2, 3, 4] rfl)
      · refine lv_iload_n hx hb dX1_counted_12 rfl (lv_at hl 1 rfl) ?_
        refine zk_ifle (tgt := 20) hx hb dX1_counted_13 (by decide) (by omega) (fun c_25 => ?_) (fun c_25 => ?_)
        · refine lv_iconst (v := nI 0) hx hb dX1_counted_20 (by decide) ?_
          exact J_5 0 ls (show (0 < k → 0 = 1) ∧ (¬ (0 < k) → 0 = 0) from by omega) (lv_sub hl [0, 1, 2, 3] rfl)
        · refine lv_iconst (v := nI 1) hx hb dX1_counted_16 (by decide) ?_
          refine lv_goto (tgt := 21) hx hb dX1_counted_17 (by decide) ?_
          exact J_5 1 ls (show (0 < k → 1 = 1) ∧ (¬ (0 < k) → 1 = 0) from by omega) (lv_sub hl [0, 1, 2, 3] rfl)
set_option maxHeartbeats 4000000 in
set_option maxRecDepth 100000 in
/-- the reference: longest -/
theorem zmc_long (l : Launch) (E : ia_E) (n : Nat) (g : Nat → Nat → Nat) (hg : zm_B g)  (hn : n ≤ 400) (hm : ∀ k, k < n → 0 < k → g 13 (k - 1) ≤ g 13 k) : im_R l yX1_longest cX1_longest 4 .int 0 E n g [] (nI (zs_long g n)) := by
  refine im_Rof (by decide) rfl (Nat.le_of_ble_eq_true rfl) (fun p e s m args below meth c ls hx hb hr hml hown ht hlk hO hl => ?_)
  have hl : lv_has ls 4 [(0, .ref (ia_h E 0))] := hl
  refine lv_iconst (v := nI 0) hx hb dX1_longest_0 (by decide) ?_
  refine lv_istore_n (lv' := [(1, .int (nI 0)), (0, .ref (ia_h E 0))]) hx hb dX1_longest_1 rfl hl (by decide) rfl (fun ls hl => ?_)
  refine lv_iconst (v := nI 0) hx hb dX1_longest_2 (by decide) ?_
  refine lv_istore_n (lv' := [(2, .int (nI 0)), (1, .int (nI 0)), (0, .ref (ia_h E 0))]) hx hb dX1_longest_3 rfl hl (by decide) rfl (fun ls hl => ?_)
  refine zk_up (nL := 4) (pcH := 4) 0 n (fun _ => True) (fun k => [(1, .int (nI (zs_long g k))), (2, .int (nI k)), (0, .ref (ia_h E 0))]) ?_ ?_ n 0 (Nat.le_refl _) (by omega) trivial ls (lv_sub hl [1, 0, 2] rfl)
  · intro _ ls hl
    have hl : lv_has ls 4 [(1, .int (nI (zs_long g n))), (2, .int (nI n)), (0, .ref (ia_h E 0))] := hl
    refine lv_iload_n hx hb dX1_longest_4 rfl (lv_at hl 1 rfl) ?_
    refine lv_aload_n hx hb dX1_longest_5 rfl (lv_at hl 2 rfl) ?_
    refine im_get 1 (v := .int (nI n)) hx hb ht hown hO (by decide) rfl zlX1_63 rfl dX1_longest_6 ?_
    refine zk_cge (tgt := 61) hx hb dX1_longest_9 (by decide) (by omega) (by omega) (fun c_1 => ?_) (fun c_1 => ?_)
    · refine lv_iload_n hx hb dX1_longest_61 rfl (lv_at hl 0 rfl) ?_
      exact ia_iret hx hb hr hlk rfl dX1_longest_62
    · exact absurd (show False from by omega) id
  · intro k hk0 hk ih _ ls hl
    have hl : lv_has ls 4 [(1, .int (nI (zs_long g k))), (2, .int (nI k)), (0, .ref (ia_h E 0))] := hl
    have e1 : zs_long g (k + 1) = max (zs_long g k) (g 13 k - zs_dbef g k) := rfl
    have e2 := zbm_long hg k
    have e3 := hm k hk
    have e4 : (0 < k → zs_dbef g k = g 13 (k - 1)) ∧ (¬ 0 < k → zs_dbef g k = 0) := ⟨fun h => if_pos h, fun h => if_neg h⟩
    refine lv_iload_n hx hb dX1_longest_4 rfl (lv_at hl 1 rfl) ?_
    refine lv_aload_n hx hb dX1_longest_5 rfl (lv_at hl 2 rfl) ?_
    refine im_get 1 (v := .int (nI n)) hx hb ht hown hO (by decide) rfl zlX1_63 rfl dX1_longest_6 ?_
    refine zk_cge (tgt := 61) hx hb dX1_longest_9 (by decide) (by omega) (by omega) (fun c_2 => ?_) (fun c_2 => ?_)
    · exact absurd (show False from by omega) id
    · refine lv_aload_n hx hb dX1_longest_12 rfl (lv_at hl 2 rfl) ?_
      refine im_get 15 (v := .ref (ia_h E 15)) hx hb ht hown hO (by decide) rfl zlX1_50 rfl dX1_longest_13 ?_
      refine lv_iload_n hx hb dX1_longest_16 rfl (lv_at hl 1 rfl) ?_
      refine im_ild 14 15 13 k hx hb hO rfl (by omega) dX1_longest_17 ?_
      have b_3 := hg.1 13 k (by decide)
      refine lv_iload_n hx hb dX1_longest_18 rfl (lv_at hl 1 rfl) ?_
      refine zk_ifle (tgt := 41) hx hb dX1_longest_19 (by decide) (by omega) (fun c_4 => ?_) (fun c_4 => ?_)
      · refine lv_iconst (v := nI 0) hx hb dX1_longest_41 (by decide) ?_
        refine zk_sub hx hb (by omega) dX1_longest_42 ?_
        refine lv_istore_n (lv' := [(3, .int (nI ((g 13 k) - 0))), (1, .int (nI (zs_long g k))), (2, .int (nI k)), (0, .ref (ia_h E 0))]) hx hb dX1_longest_43 rfl hl (by decide) rfl (fun ls hl => ?_)
        refine lv_iload_n hx hb dX1_longest_44 rfl (lv_at hl 0 rfl) ?_
        refine lv_iload_n hx hb dX1_longest_45 rfl (lv_at hl 1 rfl) ?_
        refine zk_cle (tgt := 53) hx hb dX1_longest_46 (by decide) (by omega) (by omega) (fun c_5 => ?_) (fun c_5 => ?_)
        · refine lv_iload_n hx hb dX1_longest_53 rfl (lv_at hl 1 rfl) ?_
          refine lv_istore_n (lv' := [(1, .int (nI (zs_long g k))), (3, .int (nI ((g 13 k) - 0))), (2, .int (nI k)), (0, .ref (ia_h E 0))]) hx hb dX1_longest_54 rfl hl (by decide) rfl (fun ls hl => ?_)
          refine lv_iinc (v := nI (k + 1)) (lv' := [(2, .int (nI (k + 1))), (1, .int (nI (zs_long g k))), (3, .int (nI ((g 13 k) - 0))), (0, .ref (ia_h E 0))]) hx hb dX1_longest_55 hl (k := 2) rfl (zk_inc k) (by decide) rfl (fun ls hl => ?_)
          refine lv_goto (tgt := 4) hx hb dX1_longest_58 (by decide) ?_
          have e9 : zs_long g k = zs_long g (k + 1) := by omega
          rw [e9] at hl
          exact ih trivial ls (lv_sub hl [1, 0, 3] rfl)
        · refine lv_iload_n hx hb dX1_longest_49 rfl (lv_at hl 0 rfl) ?_
          refine lv_goto (tgt := 54) hx hb dX1_longest_50 (by decide) ?_
          refine lv_istore_n (lv' := [(1, .int (nI ((g 13 k) - 0))), (3, .int (nI ((g 13 k) - 0))), (2, .int (nI k)), (0, .ref (ia_h E 0))]) hx hb dX1_longest_54 rfl hl (by decide) rfl (fun ls hl => ?_)
          refine lv_iinc (v := nI (k + 1)) (lv' := [(2, .int (nI (k + 1))), (1, .int (nI ((g 13 k) - 0))), (3, .int (nI ((g 13 k) - 0))), (0, .ref (ia_h E 0))]) hx hb dX1_longest_55 hl (k := 2) rfl (zk_inc k) (by decide) rfl (fun ls hl => ?_)
          refine lv_goto (tgt := 4) hx hb dX1_longest_58 (by decide) ?_
          have e9 : (g 13 k) - 0 = zs_long g (k + 1) := by omega
          rw [e9] at hl
          exact ih trivial ls (lv_sub hl [1, 0, 3] rfl)
      · refine lv_aload_n hx hb dX1_longest_22 rfl (lv_at hl 2 rfl) ?_
        refine im_get 15 (v := .ref (ia_h E 15)) hx hb ht hown hO (by decide) rfl zlX1_50 rfl dX1_longest_23 ?_
        refine lv_iload_n hx hb dX1_longest_26 rfl (lv_at hl 1 rfl) ?_
        refine zk_ifle (tgt := 36) hx hb dX1_longest_27 (by decide) (by omega) (fun c_6 => ?_) (fun c_6 => ?_)
        · refine lv_iconst (v := nI 0) hx hb dX1_longest_36 (by decide) ?_
          refine im_ild 14 15 13 0 hx hb hO rfl (by omega) dX1_longest_37 ?_
          have b_7 := hg.1 13 0 (by decide)
          refine lv_goto (tgt := 42) hx hb dX1_longest_38 (by decide) ?_
          refine zk_sub hx hb (by omega) dX1_longest_42 ?_
          refine lv_istore_n (lv' := [(3, .int (nI ((g 13 k) - (g 13 0)))), (1, .int (nI (zs_long g k))), (2, .int (nI k)), (0, .ref (ia_h E 0))]) hx hb dX1_longest_43 rfl hl (by decide) rfl (fun ls hl => ?_)
          refine lv_iload_n hx hb dX1_longest_44 rfl (lv_at hl 0 rfl) ?_
          refine lv_iload_n hx hb dX1_longest_45 rfl (lv_at hl 1 rfl) ?_
          refine zk_cle (tgt := 53) hx hb dX1_longest_46 (by decide) (by omega) (by omega) (fun c_8 => ?_) (fun c_8 => ?_)
          · refine lv_iload_n hx hb dX1_longest_53 rfl (lv_at hl 1 rfl) ?_
            refine lv_istore_n (lv' := [(1, .int (nI (zs_long g k))), (3, .int (nI ((g 13 k) - (g 13 0)))), (2, .int (nI k)), (0, .ref (ia_h E 0))]) hx hb dX1_longest_54 rfl hl (by decide) rfl (fun ls hl => ?_)
            refine lv_iinc (v := nI (k + 1)) (lv' := [(2, .int (nI (k + 1))), (1, .int (nI (zs_long g k))), (3, .int (nI ((g 13 k) - (g 13 0)))), (0, .ref (ia_h E 0))]) hx hb dX1_longest_55 hl (k := 2) rfl (zk_inc k) (by decide) rfl (fun ls hl => ?_)
            refine lv_goto (tgt := 4) hx hb dX1_longest_58 (by decide) ?_
            have e9 : zs_long g k = zs_long g (k + 1) := by omega
            rw [e9] at hl
            exact ih trivial ls (lv_sub hl [1, 0, 3] rfl)
          · refine lv_iload_n hx hb dX1_longest_49 rfl (lv_at hl 0 rfl) ?_
            refine lv_goto (tgt := 54) hx hb dX1_longest_50 (by decide) ?_
            refine lv_istore_n (lv' := [(1, .int (nI ((g 13 k) - (g 13 0)))), (3, .int (nI ((g 13 k) - (g 13 0)))), (2, .int (nI k)), (0, .ref (ia_h E 0))]) hx hb dX1_longest_54 rfl hl (by decide) rfl (fun ls hl => ?_)
            refine lv_iinc (v := nI (k + 1)) (lv' := [(2, .int (nI (k + 1))), (1, .int (nI ((g 13 k) - (g 13 0)))), (3, .int (nI ((g 13 k) - (g 13 0)))), (0, .ref (ia_h E 0))]) hx hb dX1_longest_55 hl (k := 2) rfl (zk_inc k) (by decide) rfl (fun ls hl => ?_)
            refine lv_goto (tgt := 4) hx hb dX1_longest_58 (by decide) ?_
            have e9 : (g 13 k) - (g 13 0) = zs_long g (k + 1) := by omega
            rw [e9] at hl
            exact ih trivial ls (lv_sub hl [1, 0, 3] rfl)
        · refine lv_iload_n hx hb dX1_longest_30 rfl (lv_at hl 1 rfl) ?_
          refine lv_iconst (v := nI 1) hx hb dX1_longest_31 (by decide) ?_
          refine zk_sub hx hb (by omega) dX1_longest_32 ?_
          refine lv_goto (tgt := 37) hx hb dX1_longest_33 (by decide) ?_
          refine im_ild 14 15 13 (k - 1) hx hb hO rfl (by omega) dX1_longest_37 ?_
          have b_9 := hg.1 13 (k - 1) (by decide)
          refine lv_goto (tgt := 42) hx hb dX1_longest_38 (by decide) ?_
          refine zk_sub hx hb (by omega) dX1_longest_42 ?_
          refine lv_istore_n (lv' := [(3, .int (nI ((g 13 k) - (g 13 (k - 1))))), (1, .int (nI (zs_long g k))), (2, .int (nI k)), (0, .ref (ia_h E 0))]) hx hb dX1_longest_43 rfl hl (by decide) rfl (fun ls hl => ?_)
          refine lv_iload_n hx hb dX1_longest_44 rfl (lv_at hl 0 rfl) ?_
          refine lv_iload_n hx hb dX1_longest_45 rfl (lv_at hl 1 rfl) ?_
          refine zk_cle (tgt := 53) hx hb dX1_longest_46 (by decide) (by omega) (by omega) (fun c_10 => ?_) (fun c_10 => ?_)
          · refine lv_iload_n hx hb dX1_longest_53 rfl (lv_at hl 1 rfl) ?_
            refine lv_istore_n (lv' := [(1, .int (nI (zs_long g k))), (3, .int (nI ((g 13 k) - (g 13 (k - 1))))), (2, .int (nI k)), (0, .ref (ia_h E 0))]) hx hb dX1_longest_54 rfl hl (by decide) rfl (fun ls hl => ?_)
            refine lv_iinc (v := nI (k + 1)) (lv' := [(2, .int (nI (k + 1))), (1, .int (nI (zs_long g k))), (3, .int (nI ((g 13 k) - (g 13 (k - 1))))), (0, .ref (ia_h E 0))]) hx hb dX1_longest_55 hl (k := 2) rfl (zk_inc k) (by decide) rfl (fun ls hl => ?_)
            refine lv_goto (tgt := 4) hx hb dX1_longest_58 (by decide) ?_
            have e9 : zs_long g k = zs_long g (k + 1) := by omega
            rw [e9] at hl
            exact ih trivial ls (lv_sub hl [1, 0, 3] rfl)
          · refine lv_iload_n hx hb dX1_longest_49 rfl (lv_at hl 0 rfl) ?_
            refine lv_goto (tgt := 54) hx hb dX1_longest_50 (by decide) ?_
            refine lv_istore_n (lv' := [(1, .int (nI ((g 13 k) - (g 13 (k - 1))))), (3, .int (nI ((g 13 k) - (g 13 (k - 1))))), (2, .int (nI k)), (0, .ref (ia_h E 0))]) hx hb dX1_longest_54 rfl hl (by decide) rfl (fun ls hl => ?_)
            refine lv_iinc (v := nI (k + 1)) (lv' := [(2, .int (nI (k + 1))), (1, .int (nI ((g 13 k) - (g 13 (k - 1))))), (3, .int (nI ((g 13 k) - (g 13 (k - 1))))), (0, .ref (ia_h E 0))]) hx hb dX1_longest_55 hl (k := 2) rfl (zk_inc k) (by decide) rfl (fun ls hl => ?_)
            refine lv_goto (tgt := 4) hx hb dX1_longest_58 (by decide) ?_
            have e9 : (g 13 k) - (g 13 (k - 1)) = zs_long g (k + 1) := by omega
            rw [e9] at hl
            exact ih trivial ls (lv_sub hl [1, 0, 3] rfl)
set_option maxHeartbeats 4000000 in
set_option maxRecDepth 100000 in
/-- the reference: busiest -/
theorem zmc_busy (l : Launch) (E : ia_E) (n : Nat) (g : Nat → Nat → Nat) (hg : zm_B g) (hn : n ≤ 400) : im_R l yX1_busiest cX1_busiest 5 .int 0 E n g [] (nI (zm_busy g n n)) := by
  refine im_Rof (by decide) rfl (Nat.le_of_ble_eq_true rfl) (fun p e s m args below meth c ls hx hb hr hml hown ht hlk hO hl => ?_)
  have hl : lv_has ls 5 [(0, .ref (ia_h E 0))] := hl
  refine lv_iconst (v := nI 0) hx hb dX1_busiest_0 (by decide) ?_
  refine lv_istore_n (lv' := [(1, .int (nI 0)), (0, .ref (ia_h E 0))]) hx hb dX1_busiest_1 rfl hl (by decide) rfl (fun ls hl => ?_)
  refine lv_iconst (v := nI 0) hx hb dX1_busiest_2 (by decide) ?_
  refine lv_istore_n (lv' := [(2, .int (nI 0)), (1, .int (nI 0)), (0, .ref (ia_h E 0))]) hx hb dX1_busiest_3 rfl hl (by decide) rfl (fun ls hl => ?_)
  refine zk_up (nL := 5) (pcH := 4) 0 n (fun _ => True) (fun k => [(1, .int (nI (zm_busy g n k))), (2, .int (nI k)), (0, .ref (ia_h E 0))]) ?_ ?_ n 0 (Nat.le_refl _) (by omega) trivial ls (lv_sub hl [1, 0, 2] rfl)
  · intro _ ls hl
    have hl : lv_has ls 5 [(1, .int (nI (zm_busy g n n))), (2, .int (nI n)), (0, .ref (ia_h E 0))] := hl
    refine lv_iload_n hx hb dX1_busiest_4 rfl (lv_at hl 1 rfl) ?_
    refine lv_aload_n hx hb dX1_busiest_5 rfl (lv_at hl 2 rfl) ?_
    refine im_get 1 (v := .int (nI n)) hx hb ht hown hO (by decide) rfl zlX1_63 rfl dX1_busiest_6 ?_
    refine zk_cge (tgt := 89) hx hb dX1_busiest_9 (by decide) (by omega) (by omega) (fun c_1 => ?_) (fun c_1 => ?_)
    · refine lv_iload_n hx hb dX1_busiest_89 rfl (lv_at hl 0 rfl) ?_
      exact ia_iret hx hb hr hlk rfl dX1_busiest_90
    · exact absurd (show False from by omega) id
  · intro k hk0 hk ih _ ls hl
    have hl : lv_has ls 5 [(1, .int (nI (zm_busy g n k))), (2, .int (nI k)), (0, .ref (ia_h E 0))] := hl
    have e1 : zm_busy g n (k + 1) = max (zm_busy g n k) (zm_cntat g k n) := rfl
    have e2 := zbm_busy g n k
    have e3 := zbm_cntat g k n
    refine lv_iload_n hx hb dX1_busiest_4 rfl (lv_at hl 1 rfl) ?_
    refine lv_aload_n hx hb dX1_busiest_5 rfl (lv_at hl 2 rfl) ?_
    refine im_get 1 (v := .int (nI n)) hx hb ht hown hO (by decide) rfl zlX1_63 rfl dX1_busiest_6 ?_
    refine zk_cge (tgt := 89) hx hb dX1_busiest_9 (by decide) (by omega) (by omega) (fun c_2 => ?_) (fun c_2 => ?_)
    · exact absurd (show False from by omega) id
    · refine lv_iconst (v := nI 0) hx hb dX1_busiest_12 (by decide) ?_
      refine lv_istore_n (lv' := [(3, .int (nI 0)), (1, .int (nI (zm_busy g n k))), (2, .int (nI k)), (0, .ref (ia_h E 0))]) hx hb dX1_busiest_13 rfl hl (by decide) rfl (fun ls hl => ?_)
      refine lv_iconst (v := nI 0) hx hb dX1_busiest_14 (by decide) ?_
      refine lv_istore (lv' := [(4, .int (nI 0)), (3, .int (nI 0)), (1, .int (nI (zm_busy g n k))), (2, .int (nI k)), (0, .ref (ia_h E 0))]) hx hb dX1_busiest_15 hl (by decide) rfl (fun ls hl => ?_)
      refine zk_up (nL := 5) (pcH := 17) 0 n (fun _ => True) (fun j => [(3, .int (nI (zm_cntat g k j))), (4, .int (nI j)), (1, .int (nI (zm_busy g n k))), (2, .int (nI k)), (0, .ref (ia_h E 0))]) ?_ ?_ n 0 (Nat.le_refl _) (by omega) trivial ls (lv_sub hl [1, 0, 2, 3, 4] rfl)
      · intro _ ls hl
        have hl : lv_has ls 5 [(3, .int (nI (zm_cntat g k n))), (4, .int (nI n)), (1, .int (nI (zm_busy g n k))), (2, .int (nI k)), (0, .ref (ia_h E 0))] := hl
        refine lv_iload hx hb dX1_busiest_17 (lv_at hl 1 rfl) ?_
        refine lv_aload_n hx hb dX1_busiest_19 rfl (lv_at hl 4 rfl) ?_
        refine im_get 1 (v := .int (nI n)) hx hb ht hown hO (by decide) rfl zlX1_63 rfl dX1_busiest_20 ?_
        refine zk_cge (tgt := 72) hx hb dX1_busiest_23 (by decide) (by omega) (by omega) (fun c_3 => ?_) (fun c_3 => ?_)
        · refine lv_iload_n hx hb dX1_busiest_72 rfl (lv_at hl 0 rfl) ?_
          refine lv_iload_n hx hb dX1_busiest_73 rfl (lv_at hl 2 rfl) ?_
          refine zk_cle (tgt := 81) hx hb dX1_busiest_74 (by decide) (by omega) (by omega) (fun c_4 => ?_) (fun c_4 => ?_)
          · refine lv_iload_n hx hb dX1_busiest_81 rfl (lv_at hl 2 rfl) ?_
            refine lv_istore_n (lv' := [(1, .int (nI (zm_busy g n k))), (3, .int (nI (zm_cntat g k n))), (4, .int (nI n)), (2, .int (nI k)), (0, .ref (ia_h E 0))]) hx hb dX1_busiest_82 rfl hl (by decide) rfl (fun ls hl => ?_)
            refine lv_iinc (v := nI (k + 1)) (lv' := [(2, .int (nI (k + 1))), (1, .int (nI (zm_busy g n k))), (3, .int (nI (zm_cntat g k n))), (4, .int (nI n)), (0, .ref (ia_h E 0))]) hx hb dX1_busiest_83 hl (k := 3) rfl (zk_inc k) (by decide) rfl (fun ls hl => ?_)
            refine lv_goto (tgt := 4) hx hb dX1_busiest_86 (by decide) ?_
            have e9 : zm_busy g n k = zm_busy g n (k + 1) := by omega
            rw [e9] at hl
            exact ih trivial ls (lv_sub hl [1, 0, 4] rfl)
          · refine lv_iload_n hx hb dX1_busiest_77 rfl (lv_at hl 0 rfl) ?_
            refine lv_goto (tgt := 82) hx hb dX1_busiest_78 (by decide) ?_
            refine lv_istore_n (lv' := [(1, .int (nI (zm_cntat g k n))), (3, .int (nI (zm_cntat g k n))), (4, .int (nI n)), (2, .int (nI k)), (0, .ref (ia_h E 0))]) hx hb dX1_busiest_82 rfl hl (by decide) rfl (fun ls hl => ?_)
            refine lv_iinc (v := nI (k + 1)) (lv' := [(2, .int (nI (k + 1))), (1, .int (nI (zm_cntat g k n))), (3, .int (nI (zm_cntat g k n))), (4, .int (nI n)), (0, .ref (ia_h E 0))]) hx hb dX1_busiest_83 hl (k := 3) rfl (zk_inc k) (by decide) rfl (fun ls hl => ?_)
            refine lv_goto (tgt := 4) hx hb dX1_busiest_86 (by decide) ?_
            have e9 : zm_cntat g k n = zm_busy g n (k + 1) := by omega
            rw [e9] at hl
            exact ih trivial ls (lv_sub hl [1, 0, 4] rfl)
        · exact absurd (show False from by omega) id
      · intro j hj0 hj ih2 _ ls hl
        have hl : lv_has ls 5 [(3, .int (nI (zm_cntat g k j))), (4, .int (nI j)), (1, .int (nI (zm_busy g n k))), (2, .int (nI k)), (0, .ref (ia_h E 0))] := hl
        have e4 : zm_cntat g k (j + 1) = zm_cntat g k j + zm_at g k j := rfl
        have e5 : ((g 12 j ≤ g 12 k ∧ g 12 k < g 13 j) → zm_at g k j = 1) ∧ (¬ (g 12 j ≤ g 12 k ∧ g 12 k < g 13 j) → zm_at g k j = 0) := ⟨fun h => if_pos h, fun h => if_neg h⟩
        have e6 := zbm_cntat g k j
        refine lv_iload hx hb dX1_busiest_17 (lv_at hl 1 rfl) ?_
        refine lv_aload_n hx hb dX1_busiest_19 rfl (lv_at hl 4 rfl) ?_
        refine im_get 1 (v := .int (nI n)) hx hb ht hown hO (by decide) rfl zlX1_63 rfl dX1_busiest_20 ?_
        refine zk_cge (tgt := 72) hx hb dX1_busiest_23 (by decide) (by omega) (by omega) (fun c_5 => ?_) (fun c_5 => ?_)
        · exact absurd (show False from by omega) id
        · refine lv_iload_n hx hb dX1_busiest_26 rfl (lv_at hl 0 rfl) ?_
          refine lv_aload_n hx hb dX1_busiest_27 rfl (lv_at hl 4 rfl) ?_
          refine im_get 14 (v := .ref (ia_h E 14)) hx hb ht hown hO (by decide) rfl zlX1_47 rfl dX1_busiest_28 ?_
          refine lv_iload hx hb dX1_busiest_31 (lv_at hl 1 rfl) ?_
          refine im_ild 13 14 12 j hx hb hO rfl (by omega) dX1_busiest_33 ?_
          have b_6 := hg.1 12 j (by decide)
          refine lv_aload_n hx hb dX1_busiest_34 rfl (lv_at hl 4 rfl) ?_
          refine im_get 14 (v := .ref (ia_h E 14)) hx hb ht hown hO (by decide) rfl zlX1_47 rfl dX1_busiest_35 ?_
          refine lv_iload_n hx hb dX1_busiest_38 rfl (lv_at hl 3 rfl) ?_
          refine im_ild 13 14 12 k hx hb hO rfl (by omega) dX1_busiest_39 ?_
          have b_7 := hg.1 12 k (by decide)
          refine zk_cgt (tgt := 63) hx hb dX1_busiest_40 (by decide) (by omega) (by omega) (fun c_8 => ?_) (fun c_8 => ?_)
          · refine lv_iconst (v := nI 0) hx hb dX1_busiest_63 (by decide) ?_
            refine zk_add hx hb dX1_busiest_64 ?_
            refine lv_istore_n (lv' := [(3, .int (nI ((zm_cntat g k j) + 0))), (4, .int (nI j)), (1, .int (nI (zm_busy g n k))), (2, .int (nI k)), (0, .ref (ia_h E 0))]) hx hb dX1_busiest_65 rfl hl (by decide) rfl (fun ls hl => ?_)
            refine lv_iinc (v := nI (j + 1)) (lv' := [(4, .int (nI (j + 1))), (3, .int (nI ((zm_cntat g k j) + 0))), (1, .int (nI (zm_busy g n k))), (2, .int (nI k)), (0, .ref (ia_h E 0))]) hx hb dX1_busiest_66 hl (k := 1) rfl (zk_inc j) (by decide) rfl (fun ls hl => ?_)
            refine lv_goto (tgt := 17) hx hb dX1_busiest_69 (by decide) ?_
            have e9 : (zm_cntat g k j) + 0 = zm_cntat g k (j + 1) := by omega
            rw [e9] at hl
            exact ih2 trivial ls (lv_sub hl [1, 0, 2, 3, 4] rfl)
          · refine lv_aload_n hx hb dX1_busiest_43 rfl (lv_at hl 4 rfl) ?_
            refine im_get 15 (v := .ref (ia_h E 15)) hx hb ht hown hO (by decide) rfl zlX1_50 rfl dX1_busiest_44 ?_
            refine lv_iload hx hb dX1_busiest_47 (lv_at hl 1 rfl) ?_
            refine im_ild 14 15 13 j hx hb hO rfl (by omega) dX1_busiest_49 ?_
            have b_9 := hg.1 13 j (by decide)
            refine lv_aload_n hx hb dX1_busiest_50 rfl (lv_at hl 4 rfl) ?_
            refine im_get 14 (v := .ref (ia_h E 14)) hx hb ht hown hO (by decide) rfl zlX1_47 rfl dX1_busiest_51 ?_
            refine lv_iload_n hx hb dX1_busiest_54 rfl (lv_at hl 3 rfl) ?_
            refine im_ild 13 14 12 k hx hb hO rfl (by omega) dX1_busiest_55 ?_
            have b_10 := hg.1 12 k (by decide)
            refine zk_cle (tgt := 63) hx hb dX1_busiest_56 (by decide) (by omega) (by omega) (fun c_11 => ?_) (fun c_11 => ?_)
            · refine lv_iconst (v := nI 0) hx hb dX1_busiest_63 (by decide) ?_
              refine zk_add hx hb dX1_busiest_64 ?_
              refine lv_istore_n (lv' := [(3, .int (nI ((zm_cntat g k j) + 0))), (4, .int (nI j)), (1, .int (nI (zm_busy g n k))), (2, .int (nI k)), (0, .ref (ia_h E 0))]) hx hb dX1_busiest_65 rfl hl (by decide) rfl (fun ls hl => ?_)
              refine lv_iinc (v := nI (j + 1)) (lv' := [(4, .int (nI (j + 1))), (3, .int (nI ((zm_cntat g k j) + 0))), (1, .int (nI (zm_busy g n k))), (2, .int (nI k)), (0, .ref (ia_h E 0))]) hx hb dX1_busiest_66 hl (k := 1) rfl (zk_inc j) (by decide) rfl (fun ls hl => ?_)
              refine lv_goto (tgt := 17) hx hb dX1_busiest_69 (by decide) ?_
              have e9 : (zm_cntat g k j) + 0 = zm_cntat g k (j + 1) := by omega
              rw [e9] at hl
              exact ih2 trivial ls (lv_sub hl [1, 0, 2, 3, 4] rfl)
            · refine lv_iconst (v := nI 1) hx hb dX1_busiest_59 (by decide) ?_
              refine lv_goto (tgt := 64) hx hb dX1_busiest_60 (by decide) ?_
              refine zk_add hx hb dX1_busiest_64 ?_
              refine lv_istore_n (lv' := [(3, .int (nI ((zm_cntat g k j) + 1))), (4, .int (nI j)), (1, .int (nI (zm_busy g n k))), (2, .int (nI k)), (0, .ref (ia_h E 0))]) hx hb dX1_busiest_65 rfl hl (by decide) rfl (fun ls hl => ?_)
              refine lv_iinc (v := nI (j + 1)) (lv' := [(4, .int (nI (j + 1))), (3, .int (nI ((zm_cntat g k j) + 1))), (1, .int (nI (zm_busy g n k))), (2, .int (nI k)), (0, .ref (ia_h E 0))]) hx hb dX1_busiest_66 hl (k := 1) rfl (zk_inc j) (by decide) rfl (fun ls hl => ?_)
              refine lv_goto (tgt := 17) hx hb dX1_busiest_69 (by decide) ?_
              have e9 : (zm_cntat g k j) + 1 = zm_cntat g k (j + 1) := by omega
              rw [e9] at hl
              exact ih2 trivial ls (lv_sub hl [1, 0, 2, 3, 4] rfl)
