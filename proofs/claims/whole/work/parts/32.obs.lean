-- PART: what the calls show is the same of both
/-- two rows of n that agree in the class's cells -/
def zo_E (S g : Nat → Nat → Nat) (n : Nat) : Prop := ∀ k j, 1 ≤ k → k ≤ 13 → j < n → S k j = g k j
theorem zo_time {S g : Nat → Nat → Nat} {n i : Nat} (a : zo_E S g n) (hi : i < n) (w : Int) : zp_time S n i w = zp_time g n i w := by
  have e3 : zs_gsize S n i = zs_gsize g n i := by
    unfold zs_gsize
    rw [a 10 i (by omega) (by omega) hi]
    by_cases h : i + 1 < n
    · rw [a 10 (i + 1) (by omega) (by omega) h]
    · simp [h]
  have e4 : zs_second S i = zs_second g i := by
    unfold zs_second
    by_cases h : 0 < i
    · rw [a 12 (i - 1) (by omega) (by omega) (by omega), a 12 i (by omega) (by omega) hi]
    · simp [h]
  unfold zp_time
  rw [e3, e4, a 11 i (by omega) (by omega) hi, a 12 i (by omega) (by omega) hi, a 13 i (by omega) (by omega) hi]
theorem zo_of {S g : Nat → Nat → Nat} {n i : Nat} (a : zo_E S g n) (h14 : S 14 i = zs_redir g i) (h15 : S 15 i = zs_lies g i) (hi : i < n) (w : Int) : zpm_of S i w = zp_of g i w := by
  unfold zpm_of zp_of
  rw [h14, h15, a 1 i (by omega) (by omega) hi, a 2 i (by omega) (by omega) hi, a 3 i (by omega) (by omega) hi, a 4 i (by omega) (by omega) hi, a 8 i (by omega) (by omega) hi, a 9 i (by omega) (by omega) hi]
theorem zo_stage {S g : Nat → Nat → Nat} {n i : Nat} (a : zo_E S g n) (hi : i < n) (c : Nat) : zs_stage S i c = zs_stage g i c := by
  unfold zs_stage
  rw [a 11 i (by omega) (by omega) hi, a 12 i (by omega) (by omega) hi, a 13 i (by omega) (by omega) hi]
theorem zo_many {S g : Nat → Nat → Nat} {n : Nat} (a : zo_E S g n) (st c : Nat) : ∀ k, k ≤ n → zs_many S st c k = zs_many g st c k := by
  intro k
  induction k with
  | zero => intro _; rfl
  | succ k ih => intro hk; unfold zs_many; rw [ih (by omega), zo_stage a (by omega)]
theorem zo_dbef {S g : Nat → Nat → Nat} {n : Nat} (a : zo_E S g n) {k : Nat} (hk : k ≤ n) : zs_dbef S k = zs_dbef g k := by
  unfold zs_dbef
  by_cases h : 0 < k
  · rw [a 13 (k - 1) (by omega) (by omega) (by omega)]
  · simp [h]
theorem zo_two {S g : Nat → Nat → Nat} {n : Nat} (a : zo_E S g n) : ∀ k, k ≤ n → zm_cnt S 2 k = zs_two g k := by
  intro k
  induction k with
  | zero => intro _; rfl
  | succ k ih =>
    intro hk
    unfold zm_cnt zs_two zm_isv
    rw [ih (by omega), a 13 k (by omega) (by omega) (by omega)]
    by_cases h : 0 < k
    · rw [a 13 (k - 1) (by omega) (by omega) (by omega), if_pos rfl]
      (repeat' split) <;> omega
    · simp [h]
theorem zo_groups {S g : Nat → Nat → Nat} {n : Nat} (a : zo_E S g n) : ∀ k, k ≤ n → zm_cnt S 4 k = zs_groups g k := by
  intro k
  induction k with
  | zero => intro _; rfl
  | succ k ih =>
    intro hk
    unfold zm_cnt zs_groups zm_isv
    rw [ih (by omega), if_neg (show ¬ (4 : Nat) = 2 by omega), if_pos (show (4 : Nat) = 4 from rfl), a 10 k (by omega) (by omega) (by omega)]
theorem zo_pairs {S g : Nat → Nat → Nat} {n : Nat} (a : zo_E S g n) : ∀ k, k ≤ n → zm_cnt S 5 k = zs_pairs g k := by
  intro k
  induction k with
  | zero => intro _; rfl
  | succ k ih =>
    intro hk
    unfold zm_cnt zs_pairs zm_isv zs_second
    rw [ih (by omega), if_neg (show ¬ (5 : Nat) = 2 by omega), if_neg (show ¬ (5 : Nat) = 4 by omega), a 12 k (by omega) (by omega) (by omega)]
    by_cases h : 0 < k
    · rw [a 12 (k - 1) (by omega) (by omega) (by omega)]
      (repeat' split) <;> omega
    · simp [h]
theorem zo_long {S g : Nat → Nat → Nat} {n : Nat} (a : zo_E S g n) : ∀ k, k ≤ n → zs_long S k = zs_long g k := by
  intro k
  induction k with
  | zero => intro _; rfl
  | succ k ih => intro hk; unfold zs_long; rw [ih (by omega), zo_dbef a (by omega), a 13 k (by omega) (by omega) (by omega)]
theorem zo_cntat {S g : Nat → Nat → Nat} {n i : Nat} (a : zo_E S g n) (hi : i < n) : ∀ j, j ≤ n → zm_cntat S i j = zm_cntat g i j := by
  intro j
  induction j with
  | zero => intro _; rfl
  | succ j ih =>
    intro hj
    unfold zm_cntat zm_at
    rw [ih (by omega), a 12 j (by omega) (by omega) (by omega), a 12 i (by omega) (by omega) hi, a 13 j (by omega) (by omega) (by omega)]
theorem zo_busy {S g : Nat → Nat → Nat} {n : Nat} (a : zo_E S g n) : ∀ k, k ≤ n → zm_busy S n k = zm_busy g n k := by
  intro k
  induction k with
  | zero => intro _; rfl
  | succ k ih => intro hk; unfold zm_busy; rw [ih (by omega), zo_cntat a (by omega) n (Nat.le_refl _)]
-- the most at work: by the oldest one still at work
theorem zo_Tm {g : Nat → Nat → Nat} {n : Nat} (o : zs_I n g) : ∀ d i, i + d < n → g 12 i ≤ g 12 (i + d) := by
  intro d
  induction d with
  | zero => intro i _; exact Nat.le_refl _
  | succ d ih =>
    intro i h
    have h1 := ih i (by omega)
    have h2 := zg_T o (i := i + (d + 1)) (by omega) h
    rw [show i + (d + 1) - 1 = i + d by omega] at h2
    omega
theorem zo_old {g : Nat → Nat → Nat} (i d o : Nat) : (∀ j, o ≤ j → j < zs_old g i d o → g 13 j ≤ g 12 i) ∧ (zs_old g i d o = o + d ∨ g 12 i < g 13 (zs_old g i d o)) := by
  induction d generalizing o with
  | zero => exact ⟨fun j a b => by unfold zs_old at b; omega, Or.inl rfl⟩
  | succ d ih =>
    have e : (g 13 o ≤ g 12 i → zs_old g i (d + 1) o = zs_old g i d (o + 1)) ∧ (¬ g 13 o ≤ g 12 i → zs_old g i (d + 1) o = o) := ⟨fun h => if_pos h, fun h => if_neg h⟩
    by_cases h : g 13 o ≤ g 12 i
    · rw [e.1 h]
      obtain ⟨a, b⟩ := ih (o + 1)
      refine ⟨fun j x y => ?_, ?_⟩
      · by_cases hj : j = o
        · subst hj; exact h
        · exact a j (by omega) y
      · rcases b with b | b
        · exact Or.inl (by omega)
        · exact Or.inr b
    · rw [e.2 h]
      exact ⟨fun j x y => by omega, Or.inr (by omega)⟩
/-- the oldest one at work as k is issued -/
theorem zo_oldest {g : Nat → Nat → Nat} {n : Nat} (o : zs_I n g) : ∀ k, k < n → (zs_oldest g (k + 1) ≤ k ∧ (∀ j, j < zs_oldest g (k + 1) → g 13 j ≤ g 12 k) ∧ g 12 k < g 13 (zs_oldest g (k + 1))) := by
  intro k
  induction k with
  | zero =>
    intro h
    have := zg_TC o h
    refine ⟨Nat.le_refl _, fun j hj => absurd hj (by show ¬ j < 0; omega), ?_⟩
    show g 12 0 < g 13 0
    omega
  | succ k ih =>
    intro h
    obtain ⟨h1, h2, h3⟩ := ih (by omega)
    have e : zs_oldest g (k + 1 + 1) = zs_old g (k + 1) (k + 1 - zs_oldest g (k + 1)) (zs_oldest g (k + 1)) := rfl
    have b1 := zb_old g (k + 1) (k + 1 - zs_oldest g (k + 1)) (zs_oldest g (k + 1))
    have b2 := zo_old (g := g) (k + 1) (k + 1 - zs_oldest g (k + 1)) (zs_oldest g (k + 1))
    have t1 := zo_Tm o 1 k h
    have t2 := zg_TC o h
    rw [e]
    refine ⟨by omega, fun j hj => ?_, ?_⟩
    · by_cases hj2 : j < zs_oldest g (k + 1)
      · have := h2 j hj2; omega
      · exact b2.1 j (by omega) hj
    · rcases b2.2 with b | b
      · rw [b, show zs_oldest g (k + 1) + (k + 1 - zs_oldest g (k + 1)) = k + 1 by omega]; omega
      · exact b
theorem zo_lo {g : Nat → Nat → Nat} {i a b : Nat} (h : ∀ j, a ≤ j → j < b → zm_at g i j = 1) : ∀ m, min m b ≤ zm_cntat g i m + a := by
  intro m
  induction m with
  | zero => omega
  | succ m ih =>
    have e : zm_cntat g i (m + 1) = zm_cntat g i m + zm_at g i m := rfl
    by_cases hm : a ≤ m ∧ m < b
    · have := h m hm.1 hm.2; omega
    · omega
theorem zo_hi {g : Nat → Nat → Nat} {n i : Nat} (o : zs_I n g) (hi : i < n) : ∀ m, m ≤ n → zm_cntat g i m = 0 ∨ ∃ e, e < m ∧ g 12 e ≤ g 12 i ∧ zs_oldest g (i + 1) ≤ e ∧ zm_cntat g i m + zs_oldest g (i + 1) ≤ e + 1 := by
  intro m
  induction m with
  | zero => intro _; exact Or.inl rfl
  | succ m ih =>
    intro hm
    have e : zm_cntat g i (m + 1) = zm_cntat g i m + zm_at g i m := rfl
    obtain ⟨q1, q2, q3⟩ := zo_oldest o i hi
    by_cases hc : g 12 m ≤ g 12 i ∧ g 12 i < g 13 m
    · have e1 : zm_at g i m = 1 := if_pos hc
      have hm2 : zs_oldest g (i + 1) ≤ m := by
        rcases Nat.lt_or_ge m (zs_oldest g (i + 1)) with h | h
        · have := q2 m h; omega
        · exact h
      refine Or.inr ⟨m, by omega, hc.1, hm2, ?_⟩
      rcases ih (by omega) with h | ⟨x, x1, x2, x3, x4⟩ <;> omega
    · have e1 : zm_at g i m = 0 := if_neg hc
      rcases ih (by omega) with h | ⟨x, x1, x2, x3, x4⟩
      · exact Or.inl (by omega)
      · exact Or.inr ⟨x, by omega, x2, x3, by omega⟩
theorem zo_mostge {g : Nat → Nat → Nat} {k : Nat} : ∀ n, k < n → k - zs_oldest g (k + 1) + 1 ≤ zs_most g n := by
  intro n
  induction n with
  | zero => intro h; omega
  | succ n ih =>
    intro h
    have e : zs_most g (n + 1) = max (zs_most g n) (n - zs_oldest g (n + 1) + 1) := rfl
    by_cases hk : k = n
    · subst hk; omega
    · have := ih (by omega); omega
theorem zo_mostle {g : Nat → Nat → Nat} {B : Nat} : ∀ n, (∀ k, k < n → k - zs_oldest g (k + 1) + 1 ≤ B) → zs_most g n ≤ B := by
  intro n
  induction n with
  | zero => intro _; exact Nat.zero_le _
  | succ n ih =>
    intro h
    have e : zs_most g (n + 1) = max (zs_most g n) (n - zs_oldest g (n + 1) + 1) := rfl
    have h1 := ih (fun k hk => h k (by omega))
    have h2 := h n (by omega)
    omega
theorem zo_busyge {g : Nat → Nat → Nat} {n k : Nat} : ∀ m, k < m → zm_cntat g k n ≤ zm_busy g n m := by
  intro m
  induction m with
  | zero => intro h; omega
  | succ m ih =>
    intro h
    have e : zm_busy g n (m + 1) = max (zm_busy g n m) (zm_cntat g m n) := rfl
    by_cases hk : k = m
    · subst hk; omega
    · have := ih (by omega); omega
theorem zo_busyle {g : Nat → Nat → Nat} {n B : Nat} : ∀ m, (∀ k, k < m → zm_cntat g k n ≤ B) → zm_busy g n m ≤ B := by
  intro m
  induction m with
  | zero => intro _; exact Nat.zero_le _
  | succ m ih =>
    intro h
    have e : zm_busy g n (m + 1) = max (zm_busy g n m) (zm_cntat g m n) := rfl
    have h1 := ih (fun k hk => h k (by omega))
    have h2 := h m (by omega)
    omega
theorem zo_most {g : Nat → Nat → Nat} {n : Nat} (o : zs_I n g) : zm_busy g n n = zs_most g n := by
  refine Nat.le_antisymm (zo_busyle n (fun i hi => ?_)) (zo_mostle n (fun i hi => ?_))
  · obtain ⟨q1, q2, q3⟩ := zo_oldest o i hi
    rcases zo_hi o hi n (Nat.le_refl _) with h | ⟨x, x1, x2, x3, x4⟩
    · omega
    · by_cases hx : i ≤ x
      · have t1 := zo_Tm o (x - i) i (by omega)
        rw [show i + (x - i) = x by omega] at t1
        obtain ⟨p1, p2, p3⟩ := zo_oldest o x x1
        have e : zs_oldest g (x + 1) = zs_oldest g (i + 1) := by
          rcases Nat.lt_trichotomy (zs_oldest g (x + 1)) (zs_oldest g (i + 1)) with h | h | h
          · have := q2 _ h; omega
          · exact h
          · have := p2 _ h; omega
        have := zo_mostge (g := g) (k := x) n x1
        omega
      · have := zo_mostge (g := g) (k := i) n hi
        omega
  · obtain ⟨q1, q2, q3⟩ := zo_oldest o i hi
    have h1 := zo_lo (g := g) (i := i) (a := zs_oldest g (i + 1)) (b := i + 1) (fun j x y => by
      have t1 := zo_Tm o (i - j) j (by omega)
      rw [show j + (i - j) = i by omega] at t1
      have c1 : g 13 (zs_oldest g (i + 1)) ≤ g 13 j := by
        have cm : ∀ d, zs_oldest g (i + 1) + d < n → g 13 (zs_oldest g (i + 1)) ≤ g 13 (zs_oldest g (i + 1) + d) := by
          intro d
          induction d with
          | zero => intro _; exact Nat.le_refl _
          | succ d ih =>
            intro hd
            have a1 := ih (by omega)
            have a2 := zg_C o (i := zs_oldest g (i + 1) + (d + 1)) (by omega) hd
            rw [show zs_oldest g (i + 1) + (d + 1) - 1 = zs_oldest g (i + 1) + d by omega] at a2
            omega
        have := cm (j - zs_oldest g (i + 1)) (by omega)
        rw [show zs_oldest g (i + 1) + (j - zs_oldest g (i + 1)) = j by omega] at this
        exact this
      exact if_pos ⟨t1, by omega⟩) n
    have h2 := zo_busyge (g := g) (n := n) (k := i) n hi
    omega
theorem zo_look {S g : Nat → Nat → Nat} {n : Nat} (o : zs_I n g) (a : zo_E S g n) (w : Int) : zpm_look S n w = zp_look g n w := by
  unfold zpm_look zp_look
  rw [zo_dbef a (Nat.le_refl _), zo_two a n (Nat.le_refl _), zo_long a n (Nat.le_refl _), zo_groups a n (Nat.le_refl _), zo_pairs a n (Nat.le_refl _), zo_busy a n (Nat.le_refl _), zo_most o]
