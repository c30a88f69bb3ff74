-- PART: the reference's reckoning comes to the class's cells
/-- the cells that the class's rules read -/
def zt (g : Nat → Nat → Nat) : Nat → Nat → Nat := fun k j => if 1 ≤ k ∧ k ≤ 13 then g k j else 0
theorem zt_in {g : Nat → Nat → Nat} {k j : Nat} (h : 1 ≤ k ∧ k ≤ 13) : zt g k j = g k j := if_pos h
theorem zt_wr (g : Nat → Nat → Nat) (r i : Nat) : zs_wr (zt g) r i = zs_wr g r i := by
  induction i with
  | zero => rfl
  | succ i ih =>
    unfold zs_wr
    rw [ih, zt_in (by omega), zt_in (by omega), zt_in (by omega), zt_in (by omega)]
/-- two rows that agree ahead of i (in the class's cells) -/
def zt_A (g h : Nat → Nat → Nat) (i m : Nat) : Prop := (∀ k j, 1 ≤ k → k ≤ 13 → j < i → g k j = h k j) ∧ ∀ k, 1 ≤ k → k ≤ m → g k i = h k i
theorem zt_A.a {g h : Nat → Nat → Nat} {i m : Nat} (a : zt_A g h i m) (hm : m ≤ 13) : zs_A (zt g) (zt h) i m := by
  refine ⟨fun k j hj => ?_, fun k hk => ?_⟩
  · by_cases h1 : 1 ≤ k ∧ k ≤ 13
    · rw [zt_in h1, zt_in h1]; exact a.1 k j h1.1 h1.2 hj
    · unfold zt; rw [if_neg h1, if_neg h1]
  · by_cases h1 : 1 ≤ k ∧ k ≤ 13
    · rw [zt_in h1, zt_in h1]; exact a.2 k h1.1 hk
    · unfold zt; rw [if_neg h1, if_neg h1]
theorem zt_slot0 (g : Nat → Nat → Nat) (i : Nat) : zs_slot (zt g) i = zs_slot g i := by simp [zs_slot, zt]
theorem zt_lies0 (g : Nat → Nat → Nat) (i : Nat) : zs_lies (zt g) i = zs_lies g i := by simp [zs_lies, zs_bslot, zt]
theorem zt_redir0 (g : Nat → Nat → Nat) (i : Nat) : zs_redir (zt g) i = zs_redir g i := by simp [zs_redir, zs_bfs, zs_bsm, zs_bslot, zs_missed, zt]
theorem zt_pair0 (g : Nat → Nat → Nat) (i : Nat) : zs_pair (zt g) i = zs_pair g i := by simp [zs_pair, zs_reads, zt]
theorem zt_slot {g h : Nat → Nat → Nat} {i : Nat} (a : zt_A g h i 0) : zs_slot g i = zs_slot h i := (zt_slot0 g i).symm.trans ((zq_slot (a.a (by omega))).trans (zt_slot0 h i))
theorem zt_lies {g h : Nat → Nat → Nat} {i : Nat} (a : zt_A g h i 0) : zs_lies g i = zs_lies h i := (zt_lies0 g i).symm.trans ((zq_lies (a.a (by omega))).trans (zt_lies0 h i))
theorem zt_redir {g h : Nat → Nat → Nat} {i : Nat} (a : zt_A g h i 0) : zs_redir g i = zs_redir h i := (zt_redir0 g i).symm.trans ((zq_redir (a.a (by omega))).trans (zt_redir0 h i))
theorem zt_pair {g h : Nat → Nat → Nat} {i : Nat} (a : zt_A g h i 4) : zs_pair g i = zs_pair h i := (zt_pair0 g i).symm.trans ((zq_pair (a.a (by omega)) (by omega)).trans (zt_pair0 h i))
theorem zt_A.le {g h : Nat → Nat → Nat} {i m m' : Nat} (a : zt_A g h i m) (hm : m' ≤ m) : zt_A g h i m' := ⟨a.1, fun k h1 hk => a.2 k h1 (by omega)⟩
/-- the times of a settled row go up -/
theorem zg_T {g : Nat → Nat → Nat} {n : Nat} (o : zs_I n g) {i : Nat} (h0 : 0 < i) (hi : i < n) : g 12 (i - 1) ≤ g 12 i := by
  have h1 : g 12 i = zs_issue g i := (o i hi).2.2.2.2.1
  have h2 : g 12 (i - 1) ≤ zs_order g i := by unfold zs_order; (repeat' split) <;> omega
  have h3 : zs_order g i ≤ zs_issue g i := by unfold zs_issue; omega
  omega
theorem zg_C {g : Nat → Nat → Nat} {n : Nat} (o : zs_I n g) {i : Nat} (h0 : 0 < i) (hi : i < n) : g 13 (i - 1) ≤ g 13 i := by
  have h1 := zs_mono o i hi
  have h2 : zs_dbef g i = g 13 (i - 1) := if_pos h0
  omega
theorem zg_TC {g : Nat → Nat → Nat} {n : Nat} (o : zs_I n g) {i : Nat} (hi : i < n) : g 12 i + 3 ≤ g 13 i := by
  have h1 : g 13 i = zs_done g i := (o i hi).2.2.2.2.2
  have h2 : 3 ≤ zs_work (g 1 i) := by unfold zs_work; (repeat' split) <;> omega
  have h3 : g 12 i + zs_work (g 1 i) ≤ zs_done g i := by unfold zs_done; omega
  omega
/-- joins as the reference says it -/
theorem zg_joins {g S : Nat → Nat → Nat} {n i : Nat} (o : zs_I n g) (hi : i < n) (a : ∀ k j, 1 ≤ k → k ≤ 13 → j < i → S k j = g k j) (h14 : S 14 i = zs_redir g i) (h15 : S 15 i = zs_lies g i) : zm_joins S i = zs_joins g i := by
  by_cases h0 : i = 0
  · subst h0
    unfold zm_joins zs_joins
    rw [if_neg (by omega), if_pos (by omega)]
  · have e8 : i = 1 → g 8 (i - 1) = 0 := fun h1 => by
      subst h1
      rw [(o 0 (by omega)).1]
      unfold zs_slot; exact if_neg (by omega)
    unfold zm_joins zs_joins
    rw [h14, h15, a 10 (i - 1) (by omega) (by omega) (by omega), a 8 (i - 1) (by omega) (by omega) (by omega), a 5 (i - 2) (by omega) (by omega) (by omega)]
    have eb : zs_bslot g i ≠ 0 ↔ (1 < i ∧ g 8 (i - 1) ≠ 0) := by
      unfold zs_bslot
      by_cases hc : 1 < i ∧ g 8 (i - 1) ≠ 0
      · rw [if_pos hc]; exact ⟨fun _ => hc, fun _ => by omega⟩
      · rw [if_neg hc]; exact ⟨fun h => absurd rfl h, fun h => absurd h hc⟩
    by_cases c1 : g 10 (i - 1) = 0
    · rw [if_neg (by omega), if_pos (by omega)]
    · rw [if_neg (show ¬ (i = 0 ∨ g 10 (i - 1) = 0) by omega)]
      by_cases c2 : zs_bslot g i ≠ 0
      · have := eb.mp c2
        (repeat' split) <;> omega
      · have : ¬ (1 < i ∧ g 8 (i - 1) ≠ 0) := fun h => c2 (eb.mpr h)
        (repeat' split) <;> omega
/-- F as the reference says it -/
theorem zg_F {g S : Nat → Nat → Nat} {n i : Nat} (o : zs_I n g) (hi : i < n) (a : ∀ k j, 1 ≤ k → k ≤ 13 → j < i → S k j = g k j) (h10 : S 10 i = g 10 i) (h14 : S 14 i = zs_redir g i) : zm_F S i = zs_fetch g i := by
  have o10 : g 10 i = zs_begin g i := (o i hi).2.2.1
  by_cases h0 : i = 0
  · subst h0
    have e1 : zs_begin g 0 = 1 := by
      unfold zs_begin
      rw [show zs_joins g 0 = 0 from if_pos (Or.inl rfl)]; rfl
    have e2 := zb_redir0 g 0
    unfold zm_F zm_Fb zm_Fa zs_fetch
    rw [h10, h14]
    (repeat' split) <;> omega
  · have b1 : zs_redir g i ≠ 0 ↔ (zs_bfs g i ≠ 0 ∨ zs_bsm g i ≠ 0) := by
      unfold zs_redir
      by_cases hc : zs_bfs g i ≠ 0 ∨ zs_bsm g i ≠ 0
      · rw [if_pos hc]; exact ⟨fun _ => hc, fun _ => by omega⟩
      · rw [if_neg hc]; exact ⟨fun h => absurd rfl h, fun h => absurd h hc⟩
    have b2 : zs_bfs g i ≠ 0 ↔ (g 9 (i - 1) ≠ 0 ∨ g 1 (i - 1) = 6) := by
      unfold zs_bfs
      by_cases hc : 0 < i ∧ (g 9 (i - 1) ≠ 0 ∨ g 1 (i - 1) = 6)
      · rw [if_pos hc]; exact ⟨fun _ => hc.2, fun _ => by omega⟩
      · rw [if_neg hc]; exact ⟨fun h => absurd rfl h, fun h => absurd ⟨by omega, h⟩ hc⟩
    have b3 := zb_bsm g i
    have t1 := zg_TC o (i := i - 1) (by omega)
    have t2 : 1 < i → g 12 (i - 2) ≤ g 12 (i - 1) := fun h => by
      have := zg_T o (i := i - 1) (by omega) (by omega)
      rw [show i - 1 - 1 = i - 2 by omega] at this; exact this
    have ea : zm_Fa S i = g 11 (i - 1) + 1 := by
      unfold zm_Fa; rw [if_pos (by omega), a 11 (i - 1) (by omega) (by omega) (by omega)]
    have eb : (4 < i → zm_Fb S i = max (g 11 (i - 1) + 1) (g 12 (i - 5) + 1)) ∧ (¬ 4 < i → zm_Fb S i = g 11 (i - 1) + 1) := by
      unfold zm_Fb
      rw [ea, a 12 (i - 5) (by omega) (by omega) (by omega)]
      exact ⟨fun h => if_pos h, fun h => if_neg h⟩
    unfold zm_F zs_fetch
    rw [h10, h14, a 11 (i - 1) (by omega) (by omega) (by omega), a 9 (i - 1) (by omega) (by omega) (by omega), a 1 (i - 1) (by omega) (by omega) (by omega), a 13 (i - 1) (by omega) (by omega) (by omega), a 12 (i - 2) (by omega) (by omega) (by omega), if_neg h0]
    by_cases c0 : g 10 i = 0
    · rw [if_pos c0, if_pos c0]
    · rw [if_neg c0, if_neg c0]
      by_cases c1 : zs_bfs g i ≠ 0
      · have d1 := b2.mp c1
        have d2 := b1.mpr (Or.inl c1)
        rw [if_pos ⟨d2, d1⟩]
        (repeat' split) <;> omega
      · have d1 : ¬ (g 9 (i - 1) ≠ 0 ∨ g 1 (i - 1) = 6) := fun h => c1 (b2.mpr h)
        rw [if_neg (show ¬ (zs_redir g i ≠ 0 ∧ (g 9 (i - 1) ≠ 0 ∨ g 1 (i - 1) = 6)) from fun h => d1 h.2)]
        by_cases c2 : zs_bsm g i ≠ 0
        · rw [if_pos (b1.mpr (Or.inr c2))]
          (repeat' split) <;> omega
        · rw [if_neg (show ¬ zs_redir g i ≠ 0 from fun h => by rcases b1.mp h with h | h; exact c1 h; exact c2 h)]
          (repeat' split) <;> omega
/-- what the writers' row says -/
def zg_W (g S : Nat → Nat → Nat) (i : Nat) : Prop := ∀ r, 0 < r → r < 32 → (S 16 r = 0 ∧ zs_wr g r i = 0) ∨ (0 < S 16 r ∧ S 16 r ≤ i ∧ zs_wr g r i = g 12 (S 16 r - 1) + zs_delay (g 1 (S 16 r - 1)))
theorem zg_ready {g S : Nat → Nat → Nat} {i : Nat} (w : zg_W g S i) (a : ∀ k j, 1 ≤ k → k ≤ 13 → j < i → S k j = g k j) {r : Nat} (hr : r < 32) : zm_ready S r = zs_readable g r i := by
  unfold zm_ready zs_readable
  by_cases h0 : r = 0
  · rw [if_pos (Or.inl h0), if_pos h0]
  · rw [if_neg h0]
    rcases w r (by omega) hr with ⟨h1, h2⟩ | ⟨h1, h2, h3⟩
    · rw [if_pos (Or.inr h1), h2]
    · rw [if_neg (by omega), h3, a 12 _ (by omega) (by omega) (by omega), a 1 _ (by omega) (by omega) (by omega)]
theorem zn_m1 (a b c d e : Nat) : max (max (max (max a c) d) b) e = max (max (max (max (max a b) c) d) e) 0 := by omega
theorem zn_m2 (a b c d f : Nat) : max (max (max (max a c) d) b) f = max (max (max (max (max a b) c) d) 0) f := by omega
theorem zn_m3 (a b c d : Nat) : max (max (max a c) d) b = max (max (max (max (max a b) c) d) 0) 0 := by omega
/-- T as the reference says it -/
theorem zg_Tt {g S : Nat → Nat → Nat} {n i dv : Nat} (o : zs_I n g) (hv : zs_V g) (hi : i < n) (a : zt_A S g i 11) (w : zg_W g S i) (hd : (dv = 0 ∧ zs_div g i = 0) ∨ (0 < dv ∧ dv ≤ i ∧ zs_div g i = g 12 (dv - 1) + 18)) : zm_T S dv i = zs_issue g i := by
  have hvi := hv i
  have r3 : zm_ready S (S 3 i) = zs_readable g (g 3 i) i := by rw [a.2 3 (by omega) (by omega)]; exact zg_ready w a.1 (by omega)
  have r4 : zm_ready S (S 4 i) = zs_readable g (g 4 i) i := by rw [a.2 4 (by omega) (by omega)]; exact zg_ready w a.1 (by omega)
  have ea : zm_Ta S i = max (max (g 11 i + 2) (zs_readable g (g 3 i) i)) (zs_readable g (g 4 i) i) := by
    unfold zm_Ta; rw [r3, r4, a.2 11 (by omega) (by omega)]
  have ep : zs_pair S i = zs_pair g i := zt_pair (a.le (by omega))
  have k1 := a.2 1 (by omega) (by omega)
  by_cases h0 : i = 0
  · subst h0
    have eo : zs_order g 0 = 1 := if_pos rfl
    have ed : zs_div g 0 = 0 := rfl
    have eb : zs_dbef g 0 = 0 := if_neg (by omega)
    have e1 : zm_Tb S 0 = zm_Ta S 0 := if_neg (by omega)
    have e2 : zm_Tc S dv 0 = zm_Tb S 0 := by unfold zm_Tc; exact if_neg (by omega)
    have e3 : zm_T S dv 0 = zm_Tc S dv 0 := by unfold zm_T; exact if_neg (by omega)
    unfold zs_issue
    rw [e3, e2, e1, ea, eo, ed, eb]
    (repeat' split) <;> omega
  · have q1 := a.1 12 (i - 1) (by omega) (by omega) (by omega)
    have q2 := a.1 12 (i - 2) (by omega) (by omega) (by omega)
    have q3 := a.1 13 (i - 1) (by omega) (by omega) (by omega)
    have ew : (zs_pair g i ≠ 0 ∧ (i = 1 ∨ g 12 (i - 2) < g 12 (i - 1)) → zm_with S i = 1) ∧ (¬ (zs_pair g i ≠ 0 ∧ (i = 1 ∨ g 12 (i - 2) < g 12 (i - 1))) → zm_with S i = 0) := by
      unfold zm_with; rw [ep, q1, q2]; exact ⟨fun h => if_pos h, fun h => if_neg h⟩
    have eo : ((i = 1 ∨ g 12 (i - 2) < g 12 (i - 1)) ∧ zs_pair g i ≠ 0 → zs_order g i = g 12 (i - 1)) ∧ (¬ ((i = 1 ∨ g 12 (i - 2) < g 12 (i - 1)) ∧ zs_pair g i ≠ 0) → zs_order g i = g 12 (i - 1) + 1) := by
      unfold zs_order; rw [if_neg h0]; exact ⟨fun h => if_pos h, fun h => if_neg h⟩
    have e1 : zm_Tb S i = max (zm_Ta S i) (zs_order g i) := by
      unfold zm_Tb; rw [if_pos (by omega), q1]
      (repeat' split) <;> omega
    have eb : zs_dbef g i = g 13 (i - 1) := if_pos (by omega)
    have e2 : (g 1 i = 4 → zm_Tc S dv i = max (zm_Tb S i) (zs_div g i)) ∧ (¬ g 1 i = 4 → zm_Tc S dv i = zm_Tb S i) := by
      unfold zm_Tc; rw [k1]
      refine ⟨fun h => ?_, fun h => if_neg (by omega)⟩
      rcases hd with ⟨h1, h2⟩ | ⟨h1, h2, h3⟩
      · rw [if_neg (by omega), h2]; omega
      · rw [if_pos ⟨h, by omega⟩, h3, a.1 12 (dv - 1) (by omega) (by omega) (by omega)]
    have e3 : (g 1 i = 6 → zm_T S dv i = max (zm_Tc S dv i) (zs_dbef g i + 1)) ∧ (¬ g 1 i = 6 → zm_T S dv i = zm_Tc S dv i) := by
      unfold zm_T; rw [k1, q3, eb]
      exact ⟨fun h => if_pos ⟨h, by omega⟩, fun h => if_neg (by omega)⟩
    unfold zs_issue
    by_cases c4 : g 1 i = 4
    · rw [e3.2 (by omega), e2.1 c4, e1, ea, if_pos c4, if_neg (show ¬ g 1 i = 6 by omega)]
      exact zn_m1 _ _ _ _ _
    · by_cases c6 : g 1 i = 6
      · rw [e3.1 c6, e2.2 c4, e1, ea, if_neg c4, if_pos c6]
        exact zn_m2 _ _ _ _ _
      · rw [e3.2 c6, e2.2 c4, e1, ea, if_neg c4, if_neg c6]
        exact zn_m3 _ _ _ _
/-- C as the reference says it -/
theorem zg_Cc {g S : Nat → Nat → Nat} {n i : Nat} (hi : i < n) (a : zt_A S g i 12) : zm_C S i = zs_done g i := by
  have k1 := a.2 1 (by omega) (by omega)
  have k9 := a.2 9 (by omega) (by omega)
  have k12 := a.2 12 (by omega) (by omega)
  have hw : 3 ≤ zs_work (g 1 i) := by unfold zs_work; (repeat' split) <;> omega
  by_cases h0 : i = 0
  · subst h0
    have eb : zs_dbef g 0 = 0 := if_neg (by omega)
    unfold zm_C zm_Ca zs_done
    rw [k1, k12, eb, if_neg (by omega), if_neg (by omega), if_neg (by omega)]
    (repeat' split) <;> omega
  · have q1 := a.1 13 (i - 1) (by omega) (by omega) (by omega)
    have q2 := a.1 13 (i - 2) (by omega) (by omega) (by omega)
    have eb : zs_dbef g i = g 13 (i - 1) := if_pos (by omega)
    unfold zm_C zm_Ca zs_done
    rw [k1, k9, k12, q1, q2, eb, if_pos (show 0 < i by omega)]
    (repeat' split) <;> omega
/-- all that holds as the reckoning stands at i -/
def zg_G (g G : Nat → Nat → Nat) (i : Nat) : Prop := (∀ k j, 1 ≤ k → k ≤ 13 → j < i → zm_loop G i k j = g k j) ∧ (∀ j, j < i → zm_loop G i 14 j = zs_redir g j ∧ zm_loop G i 15 j = zs_lies g j) ∧ zg_W g (zm_loop G i) i ∧ ((zm_dv G i = 0 ∧ zs_div g i = 0) ∨ (0 < zm_dv G i ∧ zm_dv G i ≤ i ∧ zs_div g i = g 12 (zm_dv G i - 1) + 18))
set_option maxHeartbeats 1000000 in
theorem zg_agree {g G : Nat → Nat → Nat} {n : Nat} (o : zs_I n g) (hv : zs_V g) (ag : ∀ k j, 1 ≤ k → k ≤ 7 → j < n → G k j = g k j) : ∀ i, i ≤ n → zg_G g G i := by
  intro i
  induction i with
  | zero =>
    intro _
    refine ⟨fun k j _ _ hj => absurd hj (by omega), fun j hj => absurd hj (by omega), fun r _ hr => Or.inl ⟨zm_clr_at hr, rfl⟩, Or.inl ⟨rfl, rfl⟩⟩
  | succ i ih =>
    intro hi
    obtain ⟨h1, h2, h3, h4⟩ := ih (by omega)
    have hlo : ∀ k, 1 ≤ k → k ≤ 7 → zm_loop G i k i = g k i := fun k a b => by rw [zm_loop_lo b]; exact ag k i a b (by omega)
    have es : zm_loop G (i + 1) = zm_wr (zm_c (zm_t (zm_fetch (zm_stand (zm_loop G i) i) i) (zm_dv G i) i) i) i := rfl
    obtain ⟨o8, o9, o10, o11, o12, o13⟩ := o i (by omega)
    rw [zg_G, es]
    generalize zm_loop G i = S at h1 h2 h3 hlo
    -- stand
    have a0 : zt_A S g i 0 := ⟨h1, fun k a b => by omega⟩
    have s8 : zs_s1 S i 8 i = g 8 i := by rw [zs_s1_at, zt_slot a0, o8]
    have s9 : zs_s2 S i 9 i = g 9 i := by
      rw [zs_s2_at, o9]
      unfold zs_fail
      rw [s8, zs_s1_nn (Or.inl (by decide)), zs_s1_nn (Or.inl (by decide)), hlo 7 (by omega) (by omega), hlo 1 (by omega) (by omega)]
    have n2 : ∀ k j, j < i → zs_s2 S i k j = S k j := fun k j hj => by rw [zs_s2_nn (Or.inr (by omega)), zs_s1_nn (Or.inr (by omega))]
    have a2 : zt_A (zs_s2 S i) g i 0 := ⟨fun k j x y z => by rw [n2 k j z]; exact h1 k j x y z, fun k a b => by omega⟩
    obtain ⟨S1, e1⟩ : ∃ z, z = zm_stand S i := ⟨_, rfl⟩
    have s1_14 : S1 14 i = zs_redir g i := by rw [e1, zm_stand_14, zt_redir a2]
    have s1_15 : S1 15 i = zs_lies g i := by
      rw [e1]; unfold zm_stand
      rw [zs_up_ne (Or.inl (by decide)), show zm_s3 S i 15 i = zs_lies (zs_s2 S i) i from zs_up_at (zs_s2 S i) 15 i _, zt_lies a2]
    have s1_9 : S1 9 i = g 9 i := by
      rw [e1]; unfold zm_stand zm_s3
      rw [zs_up_ne (Or.inl (by decide)), zs_up_ne (Or.inl (by decide)), s9]
    have s1_8 : S1 8 i = g 8 i := by
      rw [e1]; unfold zm_stand zm_s3
      rw [zs_up_ne (Or.inl (by decide)), zs_up_ne (Or.inl (by decide)), zs_s2_nn (Or.inl (by decide)), s8]
    have s1_n : ∀ k j, j ≠ i → S1 k j = S k j := fun k j hj => by rw [e1]; exact zm_stand_ne (Or.inr hj)
    have s1_lo : ∀ k, (k ≠ 8 ∧ k ≠ 9 ∧ k ≠ 14 ∧ k ≠ 15) → S1 k i = S k i := fun k hk => by rw [e1]; exact zm_stand_ne (Or.inl hk)
    rw [← e1]
    -- fetch
    have a3 : ∀ k j, 1 ≤ k → k ≤ 13 → j < i → S1 k j = g k j := fun k j x y z => by rw [s1_n k j (by omega)]; exact h1 k j x y z
    have ej := zg_joins o (by omega) a3 s1_14 s1_15
    have f10 : zm_f1 S1 i 10 i = g 10 i := by
      rw [zm_f1_10, o10]; unfold zm_begin zs_begin; rw [ej]
    have a4 : ∀ k j, 1 ≤ k → k ≤ 13 → j < i → zm_f1 S1 i k j = g k j := fun k j x y z => by rw [zm_f1_ne (Or.inr (by omega))]; exact a3 k j x y z
    have f11 : zm_F (zm_f1 S1 i) i = g 11 i := by
      rw [o11]; exact zg_F o (by omega) a4 f10 (by rw [zm_f1_ne (Or.inl (by decide))]; exact s1_14)
    obtain ⟨S2, e2⟩ : ∃ z, z = zm_fetch S1 i := ⟨_, rfl⟩
    have s2_11 : S2 11 i = g 11 i := by rw [e2, show zm_fetch S1 i 11 i = zm_F (zm_f1 S1 i) i from zs_up_at (zm_f1 S1 i) 11 i _, f11]
    have s2_10 : S2 10 i = g 10 i := by
      rw [e2]; unfold zm_fetch; rw [zs_up_ne (Or.inl (by decide)), f10]
    have s2_n : ∀ k j, (k ≠ 10 ∧ k ≠ 11) ∨ j ≠ i → S2 k j = S1 k j := fun k j h => by rw [e2]; exact zm_fetch_ne h
    rw [← e2]
    -- issue
    have a5 : zt_A S2 g i 11 := by
      refine ⟨fun k j x y z => by rw [s2_n k j (Or.inr (by omega))]; exact a3 k j x y z, fun k x y => ?_⟩
      rcases (show k ≤ 7 ∨ k = 8 ∨ k = 9 ∨ k = 10 ∨ k = 11 by omega) with h | rfl | rfl | rfl | rfl
      · rw [s2_n k i (by omega), s1_lo k (by omega)]; exact hlo k x h
      · rw [s2_n 8 i (by omega), s1_8]
      · rw [s2_n 9 i (by omega), s1_9]
      · exact s2_10
      · exact s2_11
    have w2 : zg_W g S2 i := fun r a b => by
      rw [s2_n 16 r (by omega)]
      by_cases hri : r = i
      · subst hri; rw [s1_lo 16 (by omega)]; exact h3 r a b
      · rw [s1_n 16 r hri]; exact h3 r a b
    have et : zm_T S2 (zm_dv G i) i = g 12 i := by rw [o12]; exact zg_Tt o hv (by omega) a5 w2 h4
    obtain ⟨S3, e3⟩ : ∃ z, z = zm_t S2 (zm_dv G i) i := ⟨_, rfl⟩
    have s3_12 : S3 12 i = g 12 i := by rw [e3, show zm_t S2 (zm_dv G i) i 12 i = zm_T S2 (zm_dv G i) i from zs_up_at S2 12 i _, et]
    have s3_n : ∀ k j, k ≠ 12 ∨ j ≠ i → S3 k j = S2 k j := fun k j h => by rw [e3]; exact zs_up_ne h
    rw [← e3]
    have a6 : zt_A S3 g i 12 := by
      refine ⟨fun k j x y z => by rw [s3_n k j (Or.inr (by omega))]; exact a5.1 k j x y z, fun k x y => ?_⟩
      rcases (show k ≤ 11 ∨ k = 12 by omega) with h | rfl
      · rw [s3_n k i (by omega)]; exact a5.2 k x h
      · exact s3_12
    have ec : zm_C S3 i = g 13 i := by rw [o13]; exact zg_Cc (n := n) (by omega) a6
    obtain ⟨S4, e4⟩ : ∃ z, z = zm_c S3 i := ⟨_, rfl⟩
    have s4_13 : S4 13 i = g 13 i := by rw [e4, show zm_c S3 i 13 i = zm_C S3 i from zs_up_at S3 13 i _, ec]
    have s4_n : ∀ k j, k ≠ 13 ∨ j ≠ i → S4 k j = S3 k j := fun k j h => by rw [e4]; exact zs_up_ne h
    rw [← e4]
    have a7 : zt_A S4 g i 13 := by
      refine ⟨fun k j x y z => by rw [s4_n k j (Or.inr (by omega))]; exact a6.1 k j x y z, fun k x y => ?_⟩
      rcases (show k ≤ 12 ∨ k = 13 by omega) with h | rfl
      · rw [s4_n k i (by omega)]; exact a6.2 k x h
      · exact s4_13
    have w4 : zg_W g S4 i := fun r a b => by
      rw [s4_n 16 r (by omega), s3_n 16 r (by omega)]; exact w2 r a b
    have k2 := a7.2 2 (by omega) (by omega)
    have k9 := a7.2 9 (by omega) (by omega)
    have kd : G 1 i = g 1 i := ag 1 i (by omega) (by omega) (by omega)
    refine ⟨fun k j x y z => ?_, fun j hj => ?_, fun r hr0 hr => ?_, ?_⟩
    · rw [zm_wr_ne (by omega)]
      by_cases hji : j = i
      · subst hji; exact a7.2 k x y
      · exact a7.1 k j x y (by omega)
    · rw [zm_wr_ne (by omega), zm_wr_ne (by omega), s4_n 14 j (by omega), s4_n 15 j (by omega), s3_n 14 j (by omega), s3_n 15 j (by omega), s2_n 14 j (by omega), s2_n 15 j (by omega)]
      by_cases hji : j = i
      · subst hji; exact ⟨s1_14, s1_15⟩
      · rw [s1_n 14 j hji, s1_n 15 j hji]; exact h2 j (by omega)
    · have ew : (g 2 i = r ∧ g 9 i = 0 → zs_wr g r (i + 1) = g 12 i + zs_delay (g 1 i)) ∧ (¬ (g 2 i = r ∧ g 9 i = 0) → zs_wr g r (i + 1) = zs_wr g r i) := ⟨fun h => if_pos h, fun h => if_neg h⟩
      have hw := w4 r hr0 hr
      unfold zm_wr
      by_cases hc : 0 < S4 2 i ∧ S4 9 i = 0
      · rw [if_pos hc]
        by_cases hr2 : r = S4 2 i
        · rw [show ia_up S4 16 (S4 2 i) (i + 1) 16 r = i + 1 from by rw [hr2]; exact zs_up_at _ _ _ _]
          refine Or.inr ⟨by omega, by omega, ?_⟩
          rw [ew.1 (by omega), show i + 1 - 1 = i by omega]
        · rw [zs_up_ne (Or.inr hr2), ew.2 (by omega)]
          rcases hw with h | h
          · exact Or.inl h
          · exact Or.inr ⟨h.1, by omega, h.2.2⟩
      · rw [if_neg hc, ew.2 (by omega)]
        rcases hw with h | h
        · exact Or.inl h
        · exact Or.inr ⟨h.1, by omega, h.2.2⟩
    · have ed : (g 1 i = 4 → zs_div g (i + 1) = g 12 i + 18) ∧ (¬ g 1 i = 4 → zs_div g (i + 1) = zs_div g i) := ⟨fun h => if_pos h, fun h => if_neg h⟩
      have ev : (G 1 i = 4 → zm_dv G (i + 1) = i + 1) ∧ (¬ G 1 i = 4 → zm_dv G (i + 1) = zm_dv G i) := ⟨fun h => if_pos h, fun h => if_neg h⟩
      by_cases hc : g 1 i = 4
      · rw [ed.1 hc, ev.1 (by omega)]
        exact Or.inr ⟨by omega, by omega, by rw [show i + 1 - 1 = i by omega]⟩
      · rw [ed.2 hc, ev.2 (by omega)]
        rcases h4 with h | h
        · exact Or.inl h
        · exact Or.inr ⟨h.1, by omega, h.2.2⟩
