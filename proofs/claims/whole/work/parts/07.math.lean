-- PART 05: every cell of the row is what its rules say of those ahead of it
def zs_A (g h : Nat → Nat → Nat) (i m : Nat) : Prop := (∀ k j, j < i → g k j = h k j) ∧ ∀ k, k ≤ m → g k i = h k i
theorem zs_A.le {g h : Nat → Nat → Nat} {i m m' : Nat} (a : zs_A g h i m) (hm : m' ≤ m) : zs_A g h i m' := ⟨a.1, fun k hk => a.2 k (by omega)⟩
theorem zq_slot {g h : Nat → Nat → Nat} {i m : Nat} (a : zs_A g h i m) : zs_slot g i = zs_slot h i := by
  unfold zs_slot
  by_cases hi : 0 < i
  · rw [a.1 1 (i - 1) (by omega), a.1 9 (i - 1) (by omega)]
  · simp [hi]
theorem zq_bslot {g h : Nat → Nat → Nat} {i m : Nat} (a : zs_A g h i m) : zs_bslot g i = zs_bslot h i := by
  unfold zs_bslot
  by_cases hi : 1 < i
  · rw [a.1 8 (i - 1) (by omega)]
  · simp [hi]
theorem zq_bslot0 {g : Nat → Nat → Nat} {i : Nat} (hi : ¬ 1 < i) : zs_bslot g i = 0 := by
  unfold zs_bslot; simp [hi]
theorem zq_fail {g h : Nat → Nat → Nat} {i m : Nat} (a : zs_A g h i m) (hm : 8 ≤ m) : zs_fail g i = zs_fail h i := by
  unfold zs_fail
  rw [a.2 7 (by omega), a.2 1 (by omega), a.2 8 (by omega)]
theorem zq_lies {g h : Nat → Nat → Nat} {i m : Nat} (a : zs_A g h i m) : zs_lies g i = zs_lies h i := by
  unfold zs_lies
  rw [zq_bslot a]
  by_cases hi : 0 < i
  · by_cases h1 : 1 < i
    · rw [a.1 9 (i - 1) (by omega), a.1 6 (i - 2) (by omega)]
    · rw [a.1 9 (i - 1) (by omega), zq_bslot0 h1]; simp
  · simp [hi]
theorem zq_bfs {g h : Nat → Nat → Nat} {i m : Nat} (a : zs_A g h i m) : zs_bfs g i = zs_bfs h i := by
  unfold zs_bfs
  by_cases hi : 0 < i
  · rw [a.1 9 (i - 1) (by omega), a.1 1 (i - 1) (by omega)]
  · simp [hi]
theorem zq_bsm {g h : Nat → Nat → Nat} {i m : Nat} (a : zs_A g h i m) : zs_bsm g i = zs_bsm h i := by
  unfold zs_bsm
  rw [zq_bslot a]
  by_cases h1 : 1 < i
  · unfold zs_missed
    rw [a.1 5 (i - 2) (by omega), a.1 6 (i - 2) (by omega)]
  · rw [zq_bslot0 h1]; simp
theorem zq_redir {g h : Nat → Nat → Nat} {i m : Nat} (a : zs_A g h i m) : zs_redir g i = zs_redir h i := by
  unfold zs_redir; rw [zq_bfs a, zq_bsm a]
theorem zq_joins {g h : Nat → Nat → Nat} {i m : Nat} (a : zs_A g h i m) : zs_joins g i = zs_joins h i := by
  unfold zs_joins
  rw [zq_lies a, zq_redir a, zq_bslot a]
  by_cases hi : i = 0
  · simp [hi]
  · rw [a.1 10 (i - 1) (by omega)]
    by_cases h1 : 1 < i
    · rw [a.1 5 (i - 2) (by omega)]
    · rw [zq_bslot0 h1]; simp
theorem zq_begin {g h : Nat → Nat → Nat} {i m : Nat} (a : zs_A g h i m) : zs_begin g i = zs_begin h i := by
  unfold zs_begin; rw [zq_joins a]
theorem zq_fetch {g h : Nat → Nat → Nat} {i m : Nat} (a : zs_A g h i m) (hm : 10 ≤ m) : zs_fetch g i = zs_fetch h i := by
  unfold zs_fetch
  by_cases hi : i = 0
  · simp [hi]
  · rw [a.2 10 (by omega), a.1 11 (i - 1) (by omega), a.1 12 (i - 5) (by omega), a.1 13 (i - 1) (by omega), a.1 12 (i - 2) (by omega), zq_bfs a, zq_bsm a]
theorem zq_pair {g h : Nat → Nat → Nat} {i m : Nat} (a : zs_A g h i m) (hm : 4 ≤ m) : zs_pair g i = zs_pair h i := by
  unfold zs_pair zs_reads
  by_cases hi : i = 0
  · simp [hi]
  · rw [a.1 1 (i - 1) (by omega), a.1 2 (i - 1) (by omega), a.2 1 (by omega), a.2 3 (by omega), a.2 4 (by omega)]
theorem zq_order {g h : Nat → Nat → Nat} {i m : Nat} (a : zs_A g h i m) (hm : 4 ≤ m) : zs_order g i = zs_order h i := by
  unfold zs_order
  by_cases hi : i = 0
  · simp [hi]
  · rw [a.1 12 (i - 1) (by omega), a.1 12 (i - 2) (by omega), zq_pair a hm]
theorem zq_wr {g h : Nat → Nat → Nat} {i : Nat} (a : ∀ k j, j < i → g k j = h k j) (r : Nat) : zs_wr g r i = zs_wr h r i := by
  induction i with
  | zero => rfl
  | succ i ih =>
    unfold zs_wr
    rw [a 2 i (by omega), a 9 i (by omega), a 12 i (by omega), a 1 i (by omega), ih (fun k j hj => a k j (by omega))]
theorem zq_div {g h : Nat → Nat → Nat} {i : Nat} (a : ∀ k j, j < i → g k j = h k j) : zs_div g i = zs_div h i := by
  induction i with
  | zero => rfl
  | succ i ih =>
    unfold zs_div
    rw [a 1 i (by omega), a 12 i (by omega), ih (fun k j hj => a k j (by omega))]
theorem zq_dbef {g h : Nat → Nat → Nat} {i : Nat} (a : ∀ k j, j < i → g k j = h k j) : zs_dbef g i = zs_dbef h i := by
  unfold zs_dbef
  by_cases hi : 0 < i
  · rw [a 13 (i - 1) (by omega)]
  · simp [hi]
theorem zq_issue {g h : Nat → Nat → Nat} {i m : Nat} (a : zs_A g h i m) (hm : 11 ≤ m) : zs_issue g i = zs_issue h i := by
  unfold zs_issue zs_readable
  rw [a.2 11 (by omega), a.2 3 (by omega), a.2 4 (by omega), a.2 1 (by omega), zq_order a (by omega), zq_wr a.1, zq_wr a.1, zq_div a.1, zq_dbef a.1]
theorem zq_done {g h : Nat → Nat → Nat} {i m : Nat} (a : zs_A g h i m) (hm : 12 ≤ m) : zs_done g i = zs_done h i := by
  unfold zs_done
  rw [a.2 12 (by omega), a.2 1 (by omega), a.2 9 (by omega), zq_dbef a.1]
  by_cases h1 : 1 < i
  · rw [a.1 13 (i - 2) (by omega)]
  · simp [h1]
/-- the cell j is what the rules say -/
def zs_ok (g : Nat → Nat → Nat) (j : Nat) : Prop := g 8 j = zs_slot g j ∧ g 9 j = zs_fail g j ∧ g 10 j = zs_begin g j ∧ g 11 j = zs_fetch g j ∧ g 12 j = zs_issue g j ∧ g 13 j = zs_done g j
def zs_I (n : Nat) (g : Nat → Nat → Nat) : Prop := ∀ j, j < n → zs_ok g j
theorem zs_ok_c {g h : Nat → Nat → Nat} {j m : Nat} (a : zs_A g h j m) (hm : 13 ≤ m) (o : zs_ok g j) : zs_ok h j := by
  obtain ⟨o1, o2, o3, o4, o5, o6⟩ := o
  refine ⟨?_, ?_, ?_, ?_, ?_, ?_⟩
  · rw [← a.2 8 (by omega), o1, zq_slot a]
  · rw [← a.2 9 (by omega), o2, zq_fail a (by omega)]
  · rw [← a.2 10 (by omega), o3, zq_begin a]
  · rw [← a.2 11 (by omega), o4, zq_fetch a (by omega)]
  · rw [← a.2 12 (by omega), o5, zq_issue a (by omega)]
  · rw [← a.2 13 (by omega), o6, zq_done a (by omega)]
theorem zs_I_c {g h : Nat → Nat → Nat} {n : Nat} (a : ∀ k j, k ≤ 13 → j < n → g k j = h k j) (b : ∀ k j, j < n → g k j = h k j) (o : zs_I n g) : zs_I n h :=
  fun j hj => zs_ok_c (m := 13) ⟨fun k i hi => b k i (by omega), fun k hk => b k j hj⟩ (Nat.le_refl _) (o j hj)
theorem zs_settle_ok (g : Nat → Nat → Nat) (i : Nat) : zs_ok (zs_settle g i) i := by
  have c5 : ∀ k j, (k ≠ 13 ∨ j ≠ i) → zs_s5 g i k j = zs_settle g i k j := fun k j h => (zs_settle_nn h).symm
  have c4 : ∀ k j, (k ≤ 11 ∨ j ≠ i) → zs_s4 g i k j = zs_settle g i k j := fun k j h => ((zs_s5_nn (show k ≠ 12 ∨ j ≠ i by omega)).symm).trans (c5 k j (by omega))
  have c3 : ∀ k j, (k ≤ 10 ∨ j ≠ i) → zs_s3 g i k j = zs_settle g i k j := fun k j h => ((zs_s4_nn (show k ≠ 11 ∨ j ≠ i by omega)).symm).trans (c4 k j (by omega))
  have c2 : ∀ k j, (k ≤ 9 ∨ j ≠ i) → zs_s2 g i k j = zs_settle g i k j := fun k j h => ((zs_s3_nn (show k ≠ 10 ∨ j ≠ i by omega)).symm).trans (c3 k j (by omega))
  have c1 : ∀ k j, (k ≤ 8 ∨ j ≠ i) → zs_s1 g i k j = zs_settle g i k j := fun k j h => ((zs_s2_nn (show k ≠ 9 ∨ j ≠ i by omega)).symm).trans (c2 k j (by omega))
  have c0 : ∀ k j, (k ≤ 7 ∨ j ≠ i) → g k j = zs_settle g i k j := fun k j h => ((zs_s1_nn (show k ≠ 8 ∨ j ≠ i by omega)).symm).trans (c1 k j (by omega))
  refine ⟨?_, ?_, ?_, ?_, ?_, ?_⟩
  · rw [← c1 8 i (by omega)]
    exact (zs_s1_at g i).trans (zq_slot (m := 7) ⟨fun k j hj => c0 k j (by omega), fun k hk => c0 k i (by omega)⟩)
  · rw [← c2 9 i (by omega)]
    exact (zs_s2_at g i).trans (zq_fail (m := 8) ⟨fun k j hj => c1 k j (by omega), fun k hk => c1 k i (by omega)⟩ (by omega))
  · rw [← c3 10 i (by omega)]
    exact (zs_s3_at g i).trans (zq_begin (m := 9) ⟨fun k j hj => c2 k j (by omega), fun k hk => c2 k i (by omega)⟩)
  · rw [← c4 11 i (by omega)]
    exact (zs_s4_at g i).trans (zq_fetch (m := 10) ⟨fun k j hj => c3 k j (by omega), fun k hk => c3 k i (by omega)⟩ (by omega))
  · rw [← c5 12 i (by omega)]
    exact (zs_s5_at g i).trans (zq_issue (m := 11) ⟨fun k j hj => c4 k j (by omega), fun k hk => c4 k i (by omega)⟩ (by omega))
  · exact (zs_settle_at g i).trans (zq_done (m := 12) ⟨fun k j hj => c5 k j (by omega), fun k hk => c5 k i (by omega)⟩ (by omega))
theorem zs_I_settle {g : Nat → Nat → Nat} {i : Nat} (o : zs_I i g) : zs_I (i + 1) (zs_settle g i) := by
  intro j hj
  by_cases h : j = i
  · subst h; exact zs_settle_ok g j
  · exact zs_I_c (fun k j _ hj => (zs_settle_ne (Or.inl (by omega))).symm) (fun k j hj => (zs_settle_ne (Or.inl (by omega))).symm) o j (by omega)
theorem zs_I_append {g : Nat → Nat → Nat} {n k d a b f go : Nat} (o : zs_I n g) : zs_I (n + 1) (zs_append g n k d a b f go) :=
  zs_I_settle (zs_I_c (fun x j _ hj => (zs_put_ne (Or.inl (by omega))).symm) (fun x j hj => (zs_put_ne (Or.inl (by omega))).symm) o)
theorem zs_I_failLast {g : Nat → Nat → Nat} {n : Nat} (hn : 0 < n) (o : zs_I n g) : zs_I n (zs_failLast g (n - 1)) := by
  have h : zs_I (n - 1 + 1) (zs_failLast g (n - 1)) := zs_I_settle (zs_I_c (g := g) (fun x j _ hj => (zs_up_ne (g := g) (k := 7) (j := n - 1) (v := 1) (Or.inr (by omega))).symm) (fun x j hj => (zs_up_ne (g := g) (k := 7) (j := n - 1) (v := 1) (Or.inr (by omega))).symm) (fun j hj => o j (by omega)))
  rw [show n - 1 + 1 = n by omega] at h
  exact h
theorem zs_I_cell {g : Nat → Nat → Nat} {n : Nat} (o : zs_I n g) (j : Nat) : zs_I (n + 1) (zs_cell g n j) := by
  unfold zs_cell
  dsimp only
  split
  · exact zs_I_append o
  · have h := zs_I_failLast (n := n + 1) (by omega) (zs_I_append (k := g 1 j) (d := g 2 j) (a := g 3 j) (b := g 4 j) (f := g 5 j) (go := g 6 j) o)
    rw [show n + 1 - 1 = n by omega] at h
    exact h
theorem zs_I_again {g : Nat → Nat → Nat} {n : Nat} (o : zs_I n g) (i k : Nat) : zs_I (n + k) (zs_again g n i k) := by
  induction k with
  | zero => exact o
  | succ k ih => exact zs_I_cell ih (i + k)
theorem zs_mono {g : Nat → Nat → Nat} {n : Nat} (o : zs_I n g) (k : Nat) (hk : k < n) : zs_dbef g k ≤ g 13 k := by
  rw [(o k hk).2.2.2.2.2]
  unfold zs_done; (repeat' split) <;> omega
