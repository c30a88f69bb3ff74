-- the reference's own numbers, over the same cells (14 redirected, 15 behind, 16 writers: one more than the number)
theorem zm_upup (g : Nat → Nat → Nat) (k j a b : Nat) : ia_up (ia_up g k j a) k j b = ia_up g k j b := by
  funext x y
  by_cases h : x = k
  · by_cases h2 : y = j <;> simp [ia_up, h, h2]
  · simp [ia_up, h]
def zm_B (g : Nat → Nat → Nat) : Prop := (∀ k j, k ≠ 16 → g k j ≤ 40 * j + 40) ∧ ∀ r, g 16 r ≤ 400
theorem zm_B_up {g : Nat → Nat → Nat} {k j v : Nat} (h : zm_B g) (hk : k ≠ 16) (hv : v ≤ 40 * j + 40) : zm_B (ia_up g k j v) := by
  refine ⟨fun a b ha => ?_, fun r => ?_⟩
  · by_cases h1 : a = k ∧ b = j
    · obtain ⟨rfl, rfl⟩ := h1
      rw [zs_up_at]; exact hv
    · rw [zs_up_ne (by omega)]; exact h.1 a b ha
  · rw [zs_up_ne (Or.inl (Ne.symm hk))]; exact h.2 r
theorem zm_B_upw {g : Nat → Nat → Nat} {j v : Nat} (h : zm_B g) (hv : v ≤ 400) : zm_B (ia_up g 16 j v) := by
  refine ⟨fun a b ha => ?_, fun r => ?_⟩
  · rw [zs_up_ne (Or.inl ha)]; exact h.1 a b ha
  · by_cases h1 : r = j
    · subst h1
      rw [zs_up_at]; exact hv
    · rw [zs_up_ne (Or.inr h1)]; exact h.2 r
def zm_joins (g : Nat → Nat → Nat) (i : Nat) : Nat := if 0 < i ∧ g 10 (i - 1) ≠ 0 ∧ g 15 i ≠ 0 ∧ g 14 i = 0 ∧ ¬ (g 8 (i - 1) ≠ 0 ∧ g 5 (i - 2) = 1) then 1 else 0
def zm_ready (g : Nat → Nat → Nat) (r : Nat) : Nat := if r = 0 ∨ g 16 r = 0 then 0 else g 12 (g 16 r - 1) + zs_delay (g 1 (g 16 r - 1))
def zm_s3 (g : Nat → Nat → Nat) (i : Nat) : Nat → Nat → Nat := ia_up (zs_s2 g i) 15 i (zs_lies (zs_s2 g i) i)
def zm_stand (g : Nat → Nat → Nat) (i : Nat) : Nat → Nat → Nat := ia_up (zm_s3 g i) 14 i (zs_redir (zs_s2 g i) i)
def zm_begin (g : Nat → Nat → Nat) (i : Nat) : Nat := if zm_joins g i ≠ 0 then 0 else 1
def zm_f1 (g : Nat → Nat → Nat) (i : Nat) : Nat → Nat → Nat := ia_up g 10 i (zm_begin g i)
def zm_Fa (g : Nat → Nat → Nat) (i : Nat) : Nat := if 0 < i then g 11 (i - 1) + 1 else 1
def zm_Fb (g : Nat → Nat → Nat) (i : Nat) : Nat := if 4 < i then max (zm_Fa g i) (g 12 (i - 5) + 1) else zm_Fa g i
def zm_F (g : Nat → Nat → Nat) (i : Nat) : Nat := if g 10 i = 0 then g 11 (i - 1) else if g 14 i ≠ 0 ∧ (g 9 (i - 1) ≠ 0 ∨ g 1 (i - 1) = 6) then max (zm_Fb g i) (g 13 (i - 1) + 1) else if g 14 i ≠ 0 then max (zm_Fb g i) (g 12 (i - 2) + 2) else zm_Fb g i
def zm_fetch (g : Nat → Nat → Nat) (i : Nat) : Nat → Nat → Nat := ia_up (zm_f1 g i) 11 i (zm_F (zm_f1 g i) i)
def zm_with (g : Nat → Nat → Nat) (i : Nat) : Nat := if zs_pair g i ≠ 0 ∧ (i = 1 ∨ g 12 (i - 2) < g 12 (i - 1)) then 1 else 0
def zm_Ta (g : Nat → Nat → Nat) (i : Nat) : Nat := max (max (g 11 i + 2) (zm_ready g (g 3 i))) (zm_ready g (g 4 i))
def zm_Tb (g : Nat → Nat → Nat) (i : Nat) : Nat := if 0 < i then max (zm_Ta g i) (g 12 (i - 1) + (if zm_with g i ≠ 0 then 0 else 1)) else zm_Ta g i
def zm_Tc (g : Nat → Nat → Nat) (dv i : Nat) : Nat := if g 1 i = 4 ∧ dv ≠ 0 then max (zm_Tb g i) (g 12 (dv - 1) + 18) else zm_Tb g i
def zm_T (g : Nat → Nat → Nat) (dv i : Nat) : Nat := if g 1 i = 6 ∧ 0 < i then max (zm_Tc g dv i) (g 13 (i - 1) + 1) else zm_Tc g dv i
def zm_Ca (g : Nat → Nat → Nat) (i : Nat) : Nat := if 0 < i then max (g 12 i + zs_work (g 1 i)) (g 13 (i - 1) + (if g 9 i ≠ 0 then 1 else 0)) else g 12 i + zs_work (g 1 i)
def zm_C (g : Nat → Nat → Nat) (i : Nat) : Nat := if 1 < i then max (zm_Ca g i) (g 13 (i - 2) + 1) else zm_Ca g i
def zm_wr (g : Nat → Nat → Nat) (i : Nat) : Nat → Nat → Nat := if 0 < g 2 i ∧ g 9 i = 0 then ia_up g 16 (g 2 i) (i + 1) else g
def zm_t (g : Nat → Nat → Nat) (dv i : Nat) : Nat → Nat → Nat := ia_up g 12 i (zm_T g dv i)
def zm_c (g : Nat → Nat → Nat) (i : Nat) : Nat → Nat → Nat := ia_up g 13 i (zm_C g i)
def zm_step (g : Nat → Nat → Nat) (dv i : Nat) : Nat → Nat → Nat := zm_wr (zm_c (zm_t (zm_fetch (zm_stand g i) i) dv i) i) i
def zm_clr (g : Nat → Nat → Nat) : Nat → Nat → Nat → Nat
  | 0 => g
  | r + 1 => ia_up (zm_clr g r) 16 r 0
def zm_dv (g : Nat → Nat → Nat) : Nat → Nat
  | 0 => 0
  | i + 1 => if g 1 i = 4 then i + 1 else zm_dv g i
def zm_loop (g : Nat → Nat → Nat) : Nat → Nat → Nat → Nat
  | 0 => zm_clr g 32
  | i + 1 => zm_step (zm_loop g i) (zm_dv g i) i
-- bounds
theorem zbm_begin (g : Nat → Nat → Nat) (i : Nat) : zm_begin g i ≤ 1 := by unfold zm_begin; (repeat' split) <;> omega
theorem zbm_joins (g : Nat → Nat → Nat) (i : Nat) : zm_joins g i ≤ 1 ∧ (zm_joins g i ≠ 0 → 0 < i) := by unfold zm_joins; (repeat' split) <;> omega
theorem zbm_with (g : Nat → Nat → Nat) (i : Nat) : zm_with g i ≤ 1 := by unfold zm_with; (repeat' split) <;> omega
theorem zbm_Fa {g : Nat → Nat → Nat} (h : zm_B g) (i : Nat) : zm_Fa g i ≤ 40 * i + 1 := by
  have h1 := h.1 11 (i - 1) (by decide)
  unfold zm_Fa; (repeat' split) <;> omega
theorem zbm_Fb {g : Nat → Nat → Nat} (h : zm_B g) (i : Nat) : zm_Fb g i ≤ 40 * i + 1 := by
  have h1 := h.1 12 (i - 5) (by decide)
  have h2 := zbm_Fa h i
  unfold zm_Fb; (repeat' split) <;> omega
theorem zbm_F {g : Nat → Nat → Nat} (h : zm_B g) (i : Nat) (h10 : g 10 i = 0 → 0 < i) (h14 : g 14 i ≠ 0 → 0 < i) : zm_F g i ≤ 40 * i + 2 := by
  have h0 := h.1 11 (i - 1) (by decide)
  have h1 := h.1 13 (i - 1) (by decide)
  have h2 := h.1 12 (i - 2) (by decide)
  have h3 := zbm_Fb h i
  unfold zm_F; (repeat' split) <;> omega
theorem zb_redir0 (g : Nat → Nat → Nat) (i : Nat) : zs_redir g i ≤ 1 ∧ (zs_redir g i ≠ 0 → 0 < i) := by
  have h := zb_bsm g i
  unfold zs_redir zs_bfs; (repeat' split) <;> omega
theorem zbm_begin0 (g : Nat → Nat → Nat) (i : Nat) : zm_begin g i ≤ 1 ∧ (zm_begin g i = 0 → 0 < i) := by
  have h := zbm_joins g i
  unfold zm_begin; (repeat' split) <;> omega
theorem zbm_ready {g : Nat → Nat → Nat} (h : zm_B g) {r i : Nat} (hw : g 16 r ≤ i) : zm_ready g r ≤ 40 * i + 18 := by
  have h1 := h.1 12 (g 16 r - 1) (by decide)
  have h2 := zb_delay (g 1 (g 16 r - 1))
  unfold zm_ready; (repeat' split) <;> omega
theorem zbm_Ta {g : Nat → Nat → Nat} (h : zm_B g) {i : Nat} (hf : g 11 i ≤ 40 * i + 2) (h3 : g 16 (g 3 i) ≤ i) (h4 : g 16 (g 4 i) ≤ i) : zm_Ta g i ≤ 40 * i + 18 := by
  have a := zbm_ready h h3
  have b := zbm_ready h h4
  unfold zm_Ta; omega
theorem zbm_Tb {g : Nat → Nat → Nat} (h : zm_B g) {i : Nat} (ha : zm_Ta g i ≤ 40 * i + 18) : zm_Tb g i ≤ 40 * i + 18 := by
  have a := h.1 12 (i - 1) (by decide)
  unfold zm_Tb; (repeat' split) <;> omega
theorem zbm_Tc {g : Nat → Nat → Nat} (h : zm_B g) {dv i : Nat} (hd : dv ≤ i) (ha : zm_Tb g i ≤ 40 * i + 18) : zm_Tc g dv i ≤ 40 * i + 18 := by
  have a := h.1 12 (dv - 1) (by decide)
  unfold zm_Tc; (repeat' split) <;> omega
theorem zbm_T {g : Nat → Nat → Nat} (h : zm_B g) {dv i : Nat} (ha : zm_Tc g dv i ≤ 40 * i + 18) : zm_T g dv i ≤ 40 * i + 18 := by
  have a := h.1 13 (i - 1) (by decide)
  unfold zm_T; (repeat' split) <;> omega
theorem zbm_Ca {g : Nat → Nat → Nat} (h : zm_B g) {i : Nat} (ht : g 12 i ≤ 40 * i + 18) : zm_Ca g i ≤ 40 * i + 38 := by
  have a := h.1 13 (i - 1) (by decide)
  have b := zb_work (g 1 i)
  unfold zm_Ca; (repeat' split) <;> omega
theorem zbm_C {g : Nat → Nat → Nat} (h : zm_B g) {i : Nat} (ha : zm_Ca g i ≤ 40 * i + 38) : zm_C g i ≤ 40 * i + 38 := by
  have a := h.1 13 (i - 2) (by decide)
  unfold zm_C; (repeat' split) <;> omega
-- what the steps leave
theorem zm_stand_ne {g : Nat → Nat → Nat} {i k j : Nat} (h : (k ≠ 8 ∧ k ≠ 9 ∧ k ≠ 14 ∧ k ≠ 15) ∨ j ≠ i) : zm_stand g i k j = g k j := by
  unfold zm_stand zm_s3
  rw [zs_up_ne (by omega), zs_up_ne (by omega), zs_s2_nn (by omega), zs_s1_nn (by omega)]
theorem zm_fetch_ne {g : Nat → Nat → Nat} {i k j : Nat} (h : (k ≠ 10 ∧ k ≠ 11) ∨ j ≠ i) : zm_fetch g i k j = g k j := by
  unfold zm_fetch zm_f1
  rw [zs_up_ne (by omega), zs_up_ne (by omega)]
theorem zm_wr_ne {g : Nat → Nat → Nat} {i k j : Nat} (h : k ≠ 16) : zm_wr g i k j = g k j := by
  unfold zm_wr
  by_cases hc : 0 < g 2 i ∧ g 9 i = 0
  · rw [if_pos hc]; exact zs_up_ne (Or.inl h)
  · rw [if_neg hc]
theorem zm_step_ne {g : Nat → Nat → Nat} {dv i k j : Nat} (h : k ≤ 7 ∨ (j ≠ i ∧ k ≠ 16)) : zm_step g dv i k j = g k j := by
  unfold zm_step zm_c zm_t
  rw [zm_wr_ne (by omega), zs_up_ne (by omega), zs_up_ne (by omega), zm_fetch_ne (by omega), zm_stand_ne (by omega)]
theorem zm_clr_ne {g : Nat → Nat → Nat} {r k j : Nat} (h : k ≠ 16) : zm_clr g r k j = g k j := by
  induction r with
  | zero => rfl
  | succ r ih => unfold zm_clr; rw [zs_up_ne (Or.inl h), ih]
theorem zm_clr_at {g : Nat → Nat → Nat} {r j : Nat} (h : j < r) : zm_clr g r 16 j = 0 := by
  induction r with
  | zero => omega
  | succ r ih =>
    unfold zm_clr
    by_cases h1 : j = r
    · subst h1; exact zs_up_at _ _ _ _
    · rw [zs_up_ne (Or.inr h1)]; exact ih (by omega)
theorem zm_loop_lo {g : Nat → Nat → Nat} {i k j : Nat} (h : k ≤ 7) : zm_loop g i k j = g k j := by
  induction i with
  | zero => unfold zm_loop; exact zm_clr_ne (by omega)
  | succ i ih => unfold zm_loop; rw [zm_step_ne (Or.inl h), ih]
/-- what holds of the cells as the reckoning stands at i -/
def zm_L (g : Nat → Nat → Nat) (i : Nat) : Prop := zm_B g ∧ (∀ r, r < 32 → g 16 r ≤ i) ∧ zs_V g
theorem zs_V_lo {g h : Nat → Nat → Nat} (a : ∀ k j, k ≤ 7 → h k j = g k j) (v : zs_V g) : zs_V h := by
  intro j
  rw [a 1 j (by decide), a 2 j (by decide), a 3 j (by decide), a 4 j (by decide), a 5 j (by decide), a 6 j (by decide)]
  exact v j
theorem zm_B_stand {g : Nat → Nat → Nat} (h : zm_B g) (i : Nat) : zm_B (zm_stand g i) := by
  have b1 := zb_slot g i
  have b2 := zb_fail (zs_s1 g i) i
  have b3 := zb_lies (zs_s2 g i) i
  have b4 := zb_redir (zs_s2 g i) i
  exact zm_B_up (zm_B_up (zm_B_up (zm_B_up h (by decide) (by omega)) (by decide) (by omega)) (by decide) (by omega)) (by decide) (by omega)
theorem zm_stand_14 (g : Nat → Nat → Nat) (i : Nat) : zm_stand g i 14 i = zs_redir (zs_s2 g i) i := zs_up_at (zm_s3 g i) 14 i _
theorem zm_f1_10 (g : Nat → Nat → Nat) (i : Nat) : zm_f1 g i 10 i = zm_begin g i := zs_up_at g 10 i _
theorem zm_f1_ne {g : Nat → Nat → Nat} {i a b : Nat} (h : a ≠ 10 ∨ b ≠ i) : zm_f1 g i a b = g a b := zs_up_ne (g := g) (k := 10) (j := i) h
theorem zm_B_fetch {g : Nat → Nat → Nat} (h : zm_B g) (i : Nat) (h14 : g 14 i ≠ 0 → 0 < i) : zm_B (zm_fetch g i) ∧ zm_fetch g i 11 i ≤ 40 * i + 2 := by
  have b1 := zbm_begin0 g i
  have h1 : zm_B (zm_f1 g i) := zm_B_up h (by decide) (by omega)
  have b2 : zm_F (zm_f1 g i) i ≤ 40 * i + 2 := zbm_F h1 i (by rw [zm_f1_10]; exact b1.2) (by rw [zm_f1_ne (Or.inl (by decide))]; exact h14)
  refine ⟨zm_B_up h1 (by decide) (by omega), ?_⟩
  rw [show zm_fetch g i 11 i = zm_F (zm_f1 g i) i from zs_up_at (zm_f1 g i) 11 i _]; exact b2
theorem zm_L_sf {g : Nat → Nat → Nat} {i : Nat} (h : zm_L g i) : zm_L (zm_fetch (zm_stand g i) i) i ∧ zm_fetch (zm_stand g i) i 11 i ≤ 40 * i + 2 := by
  obtain ⟨hB, hw, hv⟩ := h
  have h1 := zm_B_stand hB i
  have h2 := zm_B_fetch h1 i (by rw [zm_stand_14]; exact (zb_redir0 _ i).2)
  refine ⟨⟨h2.1, fun r hr => ?_, zs_V_lo (fun k j hk => ?_) hv⟩, h2.2⟩
  · rw [zm_fetch_ne (by omega), zm_stand_ne (by omega)]; exact hw r hr
  · rw [zm_fetch_ne (by omega), zm_stand_ne (by omega)]
theorem zm_L_tcw {g : Nat → Nat → Nat} {dv i : Nat} (h : zm_L g i) (hf : g 11 i ≤ 40 * i + 2) (hd : dv ≤ i) (hi : i < 400) : zm_L (zm_wr (zm_c (zm_t g dv i) i) i) (i + 1) := by
  obtain ⟨hB, hw, hv⟩ := h
  have hvi := hv i
  have t1 := zbm_T hB (zbm_Tc hB hd (zbm_Tb hB (zbm_Ta hB hf (hw _ (by omega)) (hw _ (by omega)))))
  have h1 : zm_B (zm_t g dv i) := zm_B_up hB (by decide) (by omega)
  have e1 : zm_t g dv i 12 i = zm_T g dv i := zs_up_at g 12 i _
  have c1 := zbm_C h1 (zbm_Ca h1 (i := i) (by omega))
  have h2 : zm_B (zm_c (zm_t g dv i) i) := zm_B_up h1 (by decide) (by omega)
  have n2 : ∀ k j, k ≠ 12 → k ≠ 13 → zm_c (zm_t g dv i) i k j = g k j := fun k j a b => by
    unfold zm_c zm_t; rw [zs_up_ne (by omega), zs_up_ne (by omega)]
  refine ⟨?_, fun r hr => ?_, zs_V_lo (fun k j hk => ?_) hv⟩
  · unfold zm_wr
    by_cases hc : 0 < zm_c (zm_t g dv i) i 2 i ∧ zm_c (zm_t g dv i) i 9 i = 0
    · rw [if_pos hc]; exact zm_B_upw h2 (by omega)
    · rw [if_neg hc]; exact h2
  · have := hw r hr
    have e3 := n2 16 r (by decide) (by decide)
    unfold zm_wr
    by_cases hc : 0 < zm_c (zm_t g dv i) i 2 i ∧ zm_c (zm_t g dv i) i 9 i = 0
    · rw [if_pos hc]
      by_cases hr2 : r = zm_c (zm_t g dv i) i 2 i
      · rw [hr2, zs_up_at]; omega
      · rw [zs_up_ne (Or.inr hr2)]; omega
    · rw [if_neg hc]; omega
  · rw [zm_wr_ne (by omega)]; exact n2 k j (by omega) (by omega)
theorem zm_dv_le (g : Nat → Nat → Nat) (i : Nat) : zm_dv g i ≤ i := by
  induction i with
  | zero => exact Nat.le_refl _
  | succ i ih => unfold zm_dv; (repeat' split) <;> omega
theorem zm_L_loop {g : Nat → Nat → Nat} (h : zm_B g) (hv : zs_V g) (i : Nat) (hi : i ≤ 400) : zm_L (zm_loop g i) i := by
  induction i with
  | zero =>
    refine ⟨?_, fun r hr => ?_, zs_V_lo (fun k j hk => zm_loop_lo hk) hv⟩
    · have : ∀ r, zm_B (zm_clr g r) := fun r => by
        induction r with
        | zero => exact h
        | succ r ih => exact zm_B_upw ih (by omega)
      exact this 32
    · rw [show zm_loop g 0 16 r = 0 from zm_clr_at hr]; exact Nat.le_refl _
  | succ i ih =>
    have h1 := zm_L_sf (ih (by omega))
    exact zm_L_tcw h1.1 h1.2 (zm_dv_le g i) (by omega)
