-- PART 04: what the class's own methods answer, as numbers, over the row's cells g
-- 1 kinds, 2 writes, 3 firstReads, 4 secondReads, 5 foresights, 6 goings, 7 toldToFail, 8 inSlot, 9 failing, 10 beginsGroup, 11 fetchTimes, 12 issueTimes, 13 doneTimes
def zs_bslot (g : Nat → Nat → Nat) (i : Nat) : Nat := if 1 < i ∧ g 8 (i - 1) ≠ 0 then 1 else 0
def zs_lies (g : Nat → Nat → Nat) (i : Nat) : Nat := if 0 < i ∧ g 9 (i - 1) = 0 ∧ ¬ (zs_bslot g i ≠ 0 ∧ g 6 (i - 2) ≠ 0) then 1 else 0
def zs_bfs (g : Nat → Nat → Nat) (i : Nat) : Nat := if 0 < i ∧ (g 9 (i - 1) ≠ 0 ∨ g 1 (i - 1) = 6) then 1 else 0
def zs_missed (g : Nat → Nat → Nat) (i : Nat) : Nat := if g 5 i = 0 then 1 else if (g 5 i = 1 ∧ g 6 i = 1) ∨ (g 5 i ≠ 1 ∧ g 6 i = 0) then 0 else 1
def zs_bsm (g : Nat → Nat → Nat) (i : Nat) : Nat := if zs_bslot g i ≠ 0 ∧ zs_missed g (i - 2) ≠ 0 then 1 else 0
def zs_redir (g : Nat → Nat → Nat) (i : Nat) : Nat := if zs_bfs g i ≠ 0 ∨ zs_bsm g i ≠ 0 then 1 else 0
def zs_joins (g : Nat → Nat → Nat) (i : Nat) : Nat := if i = 0 ∨ g 10 (i - 1) = 0 then 0 else if zs_lies g i ≠ 0 ∧ zs_redir g i = 0 ∧ ¬ (zs_bslot g i ≠ 0 ∧ g 5 (i - 2) = 1) then 1 else 0
def zs_fetch (g : Nat → Nat → Nat) (i : Nat) : Nat := if i = 0 then 1 else if g 10 i = 0 then g 11 (i - 1) else max (max (max (g 11 (i - 1) + 1) (if 5 ≤ i then g 12 (i - 5) + 1 else 0)) (if zs_bfs g i ≠ 0 then g 13 (i - 1) + 1 else 0)) (if zs_bsm g i ≠ 0 then g 12 (i - 2) + 2 else 0)
def zs_gsize (g : Nat → Nat → Nat) (n i : Nat) : Nat := if g 10 i = 0 then 2 else if i + 1 < n ∧ g 10 (i + 1) = 0 then 2 else 1
def zs_mem (k : Nat) : Nat := if k = 1 ∨ k = 2 then 1 else 0
def zs_mul (k : Nat) : Nat := if k = 3 ∨ k = 4 then 1 else 0
def zs_reads (g : Nat → Nat → Nat) (i r : Nat) : Nat := if r ≠ 0 ∧ (g 3 i = r ∨ g 4 i = r) then 1 else 0
def zs_pair (g : Nat → Nat → Nat) (i : Nat) : Nat := if i = 0 then 0 else if g 1 (i - 1) = 6 ∨ g 1 i = 6 ∨ g 1 (i - 1) = 5 then 0 else if zs_mem (g 1 (i - 1)) ≠ 0 ∧ zs_mem (g 1 i) ≠ 0 then 0 else if zs_mul (g 1 (i - 1)) ≠ 0 ∧ zs_mul (g 1 i) ≠ 0 then 0 else if zs_reads g i (g 2 (i - 1)) ≠ 0 then 0 else 1
def zs_order (g : Nat → Nat → Nat) (i : Nat) : Nat := if i = 0 then 1 else if (i = 1 ∨ g 12 (i - 2) < g 12 (i - 1)) ∧ zs_pair g i ≠ 0 then g 12 (i - 1) else g 12 (i - 1) + 1
def zs_delay (k : Nat) : Nat := if k = 1 then 2 else if k = 3 then 3 else if k = 4 then 18 else 1
def zs_work (k : Nat) : Nat := if k = 3 then 5 else if k = 4 then 20 else 3
def zs_wr (g : Nat → Nat → Nat) (r : Nat) : Nat → Nat
  | 0 => 0
  | i + 1 => if g 2 i = r ∧ g 9 i = 0 then g 12 i + zs_delay (g 1 i) else zs_wr g r i
def zs_readable (g : Nat → Nat → Nat) (r i : Nat) : Nat := if r = 0 then 0 else zs_wr g r i
def zs_div (g : Nat → Nat → Nat) : Nat → Nat
  | 0 => 0
  | i + 1 => if g 1 i = 4 then g 12 i + 18 else zs_div g i
def zs_dbef (g : Nat → Nat → Nat) (i : Nat) : Nat := if 0 < i then g 13 (i - 1) else 0
def zs_issue (g : Nat → Nat → Nat) (i : Nat) : Nat := max (max (max (max (max (g 11 i + 2) (zs_order g i)) (zs_readable g (g 3 i) i)) (zs_readable g (g 4 i) i)) (if g 1 i = 4 then zs_div g i else 0)) (if g 1 i = 6 then zs_dbef g i + 1 else 0)
def zs_done (g : Nat → Nat → Nat) (i : Nat) : Nat := max (max (max (g 12 i + zs_work (g 1 i)) (zs_dbef g i)) (if 1 < i then g 13 (i - 2) + 1 else 0)) (if g 9 i ≠ 0 then zs_dbef g i + 1 else 0)
def zs_second (g : Nat → Nat → Nat) (i : Nat) : Nat := if 0 < i ∧ g 12 (i - 1) = g 12 i then 1 else 0
def zs_stage (g : Nat → Nat → Nat) (i c : Nat) : Nat := if c < g 11 i then 0 else if c < g 12 i then 1 else if c < g 13 i then 2 else 3
def zs_many (g : Nat → Nat → Nat) (st c : Nat) : Nat → Nat
  | 0 => 0
  | k + 1 => zs_many g st c k + (if zs_stage g k c = st then 1 else 0)
def zs_two (g : Nat → Nat → Nat) : Nat → Nat
  | 0 => 0
  | k + 1 => zs_two g k + (if 0 < k ∧ g 13 k = g 13 (k - 1) then 1 else 0)
def zs_long (g : Nat → Nat → Nat) : Nat → Nat
  | 0 => 0
  | k + 1 => max (zs_long g k) (g 13 k - zs_dbef g k)
def zs_groups (g : Nat → Nat → Nat) : Nat → Nat
  | 0 => 0
  | k + 1 => zs_groups g k + (if g 10 k ≠ 0 then 1 else 0)
def zs_pairs (g : Nat → Nat → Nat) : Nat → Nat
  | 0 => 0
  | k + 1 => zs_pairs g k + zs_second g k
def zs_old (g : Nat → Nat → Nat) (i : Nat) : Nat → Nat → Nat
  | 0, o => o
  | d + 1, o => if g 13 o ≤ g 12 i then zs_old g i d (o + 1) else o
def zs_oldest (g : Nat → Nat → Nat) : Nat → Nat
  | 0 => 0
  | k + 1 => zs_old g k (k - zs_oldest g k) (zs_oldest g k)
def zs_most (g : Nat → Nat → Nat) : Nat → Nat
  | 0 => 0
  | k + 1 => max (zs_most g k) (k - zs_oldest g (k + 1) + 1)
-- what settle writes
def zs_slot (g : Nat → Nat → Nat) (i : Nat) : Nat := if 0 < i ∧ g 1 (i - 1) = 5 ∧ g 9 (i - 1) = 0 then 1 else 0
def zs_fail (g : Nat → Nat → Nat) (i : Nat) : Nat := if g 7 i ≠ 0 ∨ g 1 i = 7 ∨ (g 1 i = 5 ∧ g 8 i ≠ 0) then 1 else 0
def zs_begin (g : Nat → Nat → Nat) (i : Nat) : Nat := if zs_joins g i ≠ 0 then 0 else 1
def zs_s1 (g : Nat → Nat → Nat) (i : Nat) : Nat → Nat → Nat := ia_up g 8 i (zs_slot g i)
def zs_s2 (g : Nat → Nat → Nat) (i : Nat) : Nat → Nat → Nat := ia_up (zs_s1 g i) 9 i (zs_fail (zs_s1 g i) i)
def zs_s3 (g : Nat → Nat → Nat) (i : Nat) : Nat → Nat → Nat := ia_up (zs_s2 g i) 10 i (zs_begin (zs_s2 g i) i)
def zs_s4 (g : Nat → Nat → Nat) (i : Nat) : Nat → Nat → Nat := ia_up (zs_s3 g i) 11 i (zs_fetch (zs_s3 g i) i)
def zs_s5 (g : Nat → Nat → Nat) (i : Nat) : Nat → Nat → Nat := ia_up (zs_s4 g i) 12 i (zs_issue (zs_s4 g i) i)
def zs_settle (g : Nat → Nat → Nat) (i : Nat) : Nat → Nat → Nat := ia_up (zs_s5 g i) 13 i (zs_done (zs_s5 g i) i)
def zs_put (g : Nat → Nat → Nat) (i k d a b f go : Nat) : Nat → Nat → Nat :=
  ia_up (ia_up (ia_up (ia_up (ia_up (ia_up (ia_up g 1 i k) 2 i d) 3 i a) 4 i b) 5 i f) 6 i go) 7 i 0
def zs_append (g : Nat → Nat → Nat) (i k d a b f go : Nat) : Nat → Nat → Nat := zs_settle (zs_put g i k d a b f go) i
def zs_failLast (g : Nat → Nat → Nat) (i : Nat) : Nat → Nat → Nat := zs_settle (ia_up g 7 i 1) i
-- bounds: nothing in the cells comes near an int's end
def zs_B (g : Nat → Nat → Nat) : Prop := ∀ k j, g k j ≤ 40 * j + 40
theorem zs_B_up {g : Nat → Nat → Nat} {k j v : Nat} (h : zs_B g) (hv : v ≤ 40 * j + 40) : zs_B (ia_up g k j v) := by
  intro a b
  by_cases h1 : a = k
  · by_cases h2 : b = j
    · subst h1; subst h2; simpa [ia_up] using hv
    · have := h a b
      simpa [ia_up, h1, h2] using (h1 ▸ this)
  · have := h a b
    simpa [ia_up, h1] using this
theorem zb_bslot (g : Nat → Nat → Nat) (i : Nat) : zs_bslot g i ≤ 1 ∧ (zs_bslot g i ≠ 0 → 1 < i) := by unfold zs_bslot; (repeat' split) <;> omega
theorem zb_lies (g : Nat → Nat → Nat) (i : Nat) : zs_lies g i ≤ 1 := by unfold zs_lies; (repeat' split) <;> omega
theorem zb_bfs (g : Nat → Nat → Nat) (i : Nat) : zs_bfs g i ≤ 1 := by unfold zs_bfs; (repeat' split) <;> omega
theorem zb_missed (g : Nat → Nat → Nat) (i : Nat) : zs_missed g i ≤ 1 := by unfold zs_missed; (repeat' split) <;> omega
theorem zb_bsm (g : Nat → Nat → Nat) (i : Nat) : zs_bsm g i ≤ 1 ∧ (zs_bsm g i ≠ 0 → 1 < i) := by
  have h := zb_bslot g i
  unfold zs_bsm; (repeat' split) <;> omega
theorem zb_redir (g : Nat → Nat → Nat) (i : Nat) : zs_redir g i ≤ 1 := by unfold zs_redir; (repeat' split) <;> omega
theorem zb_joins (g : Nat → Nat → Nat) (i : Nat) : zs_joins g i ≤ 1 := by unfold zs_joins; (repeat' split) <;> omega
theorem zb_mem (k : Nat) : zs_mem k ≤ 1 := by unfold zs_mem; (repeat' split) <;> omega
theorem zb_mul (k : Nat) : zs_mul k ≤ 1 := by unfold zs_mul; (repeat' split) <;> omega
theorem zb_reads (g : Nat → Nat → Nat) (i r : Nat) : zs_reads g i r ≤ 1 := by unfold zs_reads; (repeat' split) <;> omega
theorem zb_pair (g : Nat → Nat → Nat) (i : Nat) : zs_pair g i ≤ 1 := by unfold zs_pair; (repeat' split) <;> omega
theorem zb_second (g : Nat → Nat → Nat) (i : Nat) : zs_second g i ≤ 1 := by unfold zs_second; (repeat' split) <;> omega
theorem zb_slot (g : Nat → Nat → Nat) (i : Nat) : zs_slot g i ≤ 1 := by unfold zs_slot; (repeat' split) <;> omega
theorem zb_fail (g : Nat → Nat → Nat) (i : Nat) : zs_fail g i ≤ 1 := by unfold zs_fail; (repeat' split) <;> omega
theorem zb_begin (g : Nat → Nat → Nat) (i : Nat) : zs_begin g i ≤ 1 := by unfold zs_begin; (repeat' split) <;> omega
theorem zb_gsize (g : Nat → Nat → Nat) (n i : Nat) : zs_gsize g n i ≤ 2 := by unfold zs_gsize; (repeat' split) <;> omega
theorem zb_stage (g : Nat → Nat → Nat) (i c : Nat) : zs_stage g i c ≤ 3 := by unfold zs_stage; (repeat' split) <;> omega
theorem zb_delay (k : Nat) : zs_delay k ≤ 18 := by unfold zs_delay; (repeat' split) <;> omega
theorem zb_work (k : Nat) : zs_work k ≤ 20 := by unfold zs_work; (repeat' split) <;> omega
theorem zb_dbef {g : Nat → Nat → Nat} (h : zs_B g) (i : Nat) : zs_dbef g i ≤ 40 * i := by
  have h1 := h 13 (i - 1)
  unfold zs_dbef; (repeat' split) <;> omega
theorem zb_order {g : Nat → Nat → Nat} (h : zs_B g) (i : Nat) : zs_order g i ≤ 40 * i + 1 := by
  have h1 := h 12 (i - 1)
  unfold zs_order; (repeat' split) <;> omega
theorem zb_wr {g : Nat → Nat → Nat} (h : zs_B g) (r i : Nat) : zs_wr g r i ≤ 40 * i + 18 := by
  induction i with
  | zero => simp [zs_wr]
  | succ i ih =>
    have h1 := h 12 i
    have h2 := zb_delay (g 1 i)
    unfold zs_wr; (repeat' split) <;> omega
theorem zb_readable {g : Nat → Nat → Nat} (h : zs_B g) (r i : Nat) : zs_readable g r i ≤ 40 * i + 18 := by
  have h1 := zb_wr h r i
  unfold zs_readable; (repeat' split) <;> omega
theorem zb_div {g : Nat → Nat → Nat} (h : zs_B g) (i : Nat) : zs_div g i ≤ 40 * i + 18 := by
  induction i with
  | zero => simp [zs_div]
  | succ i ih =>
    have h1 := h 12 i
    unfold zs_div; (repeat' split) <;> omega
theorem zb_fetch {g : Nat → Nat → Nat} (h : zs_B g) (i : Nat) : zs_fetch g i ≤ 40 * i + 2 := by
  have h1 := h 11 (i - 1)
  have h2 := h 12 (i - 5)
  have h3 := h 13 (i - 1)
  have h4 := h 12 (i - 2)
  unfold zs_fetch; (repeat' split) <;> omega
theorem zb_issue {g : Nat → Nat → Nat} (h : zs_B g) (i : Nat) (hf : g 11 i ≤ 40 * i + 2) : zs_issue g i ≤ 40 * i + 18 := by
  have h1 := zb_order h i
  have h2 := zb_readable h (g 3 i) i
  have h3 := zb_readable h (g 4 i) i
  have h4 := zb_div h i
  have h5 := zb_dbef h i
  unfold zs_issue; (repeat' split) <;> omega
theorem zb_done {g : Nat → Nat → Nat} (h : zs_B g) (i : Nat) (hf : g 12 i ≤ 40 * i + 18) : zs_done g i ≤ 40 * i + 38 := by
  have h1 := zb_work (g 1 i)
  have h2 := zb_dbef h i
  have h3 := h 13 (i - 2)
  unfold zs_done; (repeat' split) <;> omega
theorem zb_many (g : Nat → Nat → Nat) (st c k : Nat) : zs_many g st c k ≤ k := by
  induction k with
  | zero => simp [zs_many]
  | succ k ih => unfold zs_many; (repeat' split) <;> omega
theorem zb_two (g : Nat → Nat → Nat) (k : Nat) : zs_two g k ≤ k := by
  induction k with
  | zero => simp [zs_two]
  | succ k ih => unfold zs_two; (repeat' split) <;> omega
theorem zb_groups (g : Nat → Nat → Nat) (k : Nat) : zs_groups g k ≤ k := by
  induction k with
  | zero => simp [zs_groups]
  | succ k ih => unfold zs_groups; (repeat' split) <;> omega
theorem zb_pairs (g : Nat → Nat → Nat) (k : Nat) : zs_pairs g k ≤ k := by
  induction k with
  | zero => simp [zs_pairs]
  | succ k ih =>
    have := zb_second g k
    unfold zs_pairs; (repeat' split) <;> omega
theorem zb_long {g : Nat → Nat → Nat} (h : zs_B g) (k : Nat) : zs_long g k ≤ 40 * k := by
  induction k with
  | zero => simp [zs_long]
  | succ k ih =>
    have h1 := h 13 k
    unfold zs_long; (repeat' split) <;> omega
theorem zb_old (g : Nat → Nat → Nat) (i d o : Nat) : o ≤ zs_old g i d o ∧ zs_old g i d o ≤ o + d := by
  induction d generalizing o with
  | zero => simp [zs_old]
  | succ d ih =>
    have := ih (o + 1)
    unfold zs_old; split <;> omega
theorem zb_oldest (g : Nat → Nat → Nat) (k : Nat) : zs_oldest g k ≤ k := by
  induction k with
  | zero => simp [zs_oldest]
  | succ k ih =>
    have := zb_old g k (k - zs_oldest g k) (zs_oldest g k)
    unfold zs_oldest; (repeat' split) <;> omega
theorem zb_most (g : Nat → Nat → Nat) (k : Nat) : zs_most g k ≤ k := by
  induction k with
  | zero => simp [zs_most]
  | succ k ih => unfold zs_most; (repeat' split) <;> omega
-- the outer methods
def zs_reg (z : Int) : Nat := if 0 ≤ z ∧ z ≤ 31 then 1 else 0
def zs_ins (n : Nat) (z : Int) : Nat := if 0 ≤ z ∧ z < n then 1 else 0
def zs_one (b : Nat) : Nat := if b = 0 then 0 else 1
theorem zb_reg (z : Int) : (0 ≤ z ∧ z ≤ 31 → zs_reg z = 1) ∧ (¬ (0 ≤ z ∧ z ≤ 31) → zs_reg z = 0) := by
  unfold zs_reg; constructor <;> intro h <;> simp [h]
theorem zb_ins (n : Nat) (z : Int) : (0 ≤ z ∧ z < n → zs_ins n z = 1) ∧ (¬ (0 ≤ z ∧ z < n) → zs_ins n z = 0) := by
  unfold zs_ins; constructor <;> intro h <;> simp [h]
theorem zb_one (b : Nat) : zs_one b ≤ 1 := by unfold zs_one; (repeat' split) <;> omega
def zp_time (g : Nat → Nat → Nat) (n i : Nat) (w : Int) : Int32 := if w = 0 then nI (g 11 i) else if w = 1 then nI (g 12 i) else if w = 2 then nI (g 13 i) else if w = 3 then nI (zs_gsize g n i) else if w = 4 then nI (zs_one (zs_second g i)) else (-1)
def zp_of (g : Nat → Nat → Nat) (i : Nat) (w : Int) : Int32 := if w = 0 then nI (g 1 i) else if w = 1 then nI (g 2 i) else if w = 2 then nI (g 3 i) else if w = 3 then nI (g 4 i) else if w = 4 then nI (zs_one (g 9 i)) else if w = 5 then nI (zs_one (g 8 i)) else if w = 6 then nI (zs_one (zs_redir g i)) else if w = 7 then nI (zs_one (zs_lies g i)) else (-1)
def zp_look (g : Nat → Nat → Nat) (n : Nat) (w : Int) : Int32 := if w = 0 then nI n else if w = 1 then nI (zs_dbef g n) else if w = 2 then nI (zs_two g n) else if w = 3 then nI (zs_long g n) else if w = 4 then nI (zs_groups g n) else if w = 5 then nI (zs_pairs g n) else if w = 6 then nI (zs_most g n) else (-1)
def zs_cell (g : Nat → Nat → Nat) (n j : Nat) : Nat → Nat → Nat :=
  let g1 := zs_append g n (g 1 j) (g 2 j) (g 3 j) (g 4 j) (g 5 j) (g 6 j)
  if g1 7 j = 0 then g1 else zs_failLast g1 n
def zs_again (g : Nat → Nat → Nat) (n i : Nat) : Nat → Nat → Nat → Nat
  | 0 => g
  | k + 1 => zs_cell (zs_again g n i k) (n + k) (i + k)
-- the cells hold kinds, registers, foresights and booleans
def zs_V (g : Nat → Nat → Nat) : Prop := ∀ j, g 1 j ≤ 7 ∧ g 2 j ≤ 31 ∧ g 3 j ≤ 31 ∧ g 4 j ≤ 31 ∧ g 5 j ≤ 2 ∧ g 6 j ≤ 1
theorem zs_up_at (g : Nat → Nat → Nat) (k j v : Nat) : ia_up g k j v k j = v := by simp [ia_up]
theorem zs_up_ne {g : Nat → Nat → Nat} {k j v a b : Nat} (h : a ≠ k ∨ b ≠ j) : ia_up g k j v a b = g a b := by
  by_cases h1 : a = k
  · have h2 : b ≠ j := by rcases h with h | h; exact absurd h1 h; exact h
    simp [ia_up, h1, h2]
  · simp [ia_up, h1]
theorem zs_s1_at (g : Nat → Nat → Nat) (i : Nat) : zs_s1 g i 8 i = zs_slot g i := zs_up_at g 8 i (zs_slot g i)
theorem zs_s1_nn {g : Nat → Nat → Nat} {i a b : Nat} (h : a ≠ 8 ∨ b ≠ i) : zs_s1 g i a b = g a b := zs_up_ne (g := g) (k := 8) (j := i) (v := zs_slot g i) h
theorem zs_s2_at (g : Nat → Nat → Nat) (i : Nat) : zs_s2 g i 9 i = zs_fail (zs_s1 g i) i := zs_up_at (zs_s1 g i) 9 i (zs_fail (zs_s1 g i) i)
theorem zs_s2_nn {g : Nat → Nat → Nat} {i a b : Nat} (h : a ≠ 9 ∨ b ≠ i) : zs_s2 g i a b = (zs_s1 g i) a b := zs_up_ne (g := (zs_s1 g i)) (k := 9) (j := i) (v := zs_fail (zs_s1 g i) i) h
theorem zs_s3_at (g : Nat → Nat → Nat) (i : Nat) : zs_s3 g i 10 i = zs_begin (zs_s2 g i) i := zs_up_at (zs_s2 g i) 10 i (zs_begin (zs_s2 g i) i)
theorem zs_s3_nn {g : Nat → Nat → Nat} {i a b : Nat} (h : a ≠ 10 ∨ b ≠ i) : zs_s3 g i a b = (zs_s2 g i) a b := zs_up_ne (g := (zs_s2 g i)) (k := 10) (j := i) (v := zs_begin (zs_s2 g i) i) h
theorem zs_s4_at (g : Nat → Nat → Nat) (i : Nat) : zs_s4 g i 11 i = zs_fetch (zs_s3 g i) i := zs_up_at (zs_s3 g i) 11 i (zs_fetch (zs_s3 g i) i)
theorem zs_s4_nn {g : Nat → Nat → Nat} {i a b : Nat} (h : a ≠ 11 ∨ b ≠ i) : zs_s4 g i a b = (zs_s3 g i) a b := zs_up_ne (g := (zs_s3 g i)) (k := 11) (j := i) (v := zs_fetch (zs_s3 g i) i) h
theorem zs_s5_at (g : Nat → Nat → Nat) (i : Nat) : zs_s5 g i 12 i = zs_issue (zs_s4 g i) i := zs_up_at (zs_s4 g i) 12 i (zs_issue (zs_s4 g i) i)
theorem zs_s5_nn {g : Nat → Nat → Nat} {i a b : Nat} (h : a ≠ 12 ∨ b ≠ i) : zs_s5 g i a b = (zs_s4 g i) a b := zs_up_ne (g := (zs_s4 g i)) (k := 12) (j := i) (v := zs_issue (zs_s4 g i) i) h
theorem zs_settle_at (g : Nat → Nat → Nat) (i : Nat) : zs_settle g i 13 i = zs_done (zs_s5 g i) i := zs_up_at (zs_s5 g i) 13 i (zs_done (zs_s5 g i) i)
theorem zs_settle_nn {g : Nat → Nat → Nat} {i a b : Nat} (h : a ≠ 13 ∨ b ≠ i) : zs_settle g i a b = (zs_s5 g i) a b := zs_up_ne (g := (zs_s5 g i)) (k := 13) (j := i) (v := zs_done (zs_s5 g i) i) h
theorem zs_B_settle {g : Nat → Nat → Nat} (h : zs_B g) (i : Nat) : zs_B (zs_settle g i) := by
  have h1 : zs_B (zs_s1 g i) := zs_B_up h (by have := zb_slot g i; omega)
  have h2 : zs_B (zs_s2 g i) := zs_B_up h1 (by have := zb_fail (zs_s1 g i) i; omega)
  have h3 : zs_B (zs_s3 g i) := zs_B_up h2 (by have := zb_begin (zs_s2 g i) i; omega)
  have h4 : zs_B (zs_s4 g i) := zs_B_up h3 (by have := zb_fetch h3 i; omega)
  have f4 : zs_s4 g i 11 i ≤ 40 * i + 2 := by
    have := zb_fetch h3 i
    rw [zs_s4_at]; exact this
  have h5 : zs_B (zs_s5 g i) := zs_B_up h4 (by have := zb_issue h4 i f4; omega)
  have f5 : zs_s5 g i 12 i ≤ 40 * i + 18 := by
    have := zb_issue h4 i f4
    rw [zs_s5_at]; exact this
  exact zs_B_up h5 (by have := zb_done h5 i f5; omega)
theorem zs_settle_ne {g : Nat → Nat → Nat} {i k j : Nat} (h : j ≠ i ∨ k ≤ 7) : zs_settle g i k j = g k j := by
  have e : ∀ m, 8 ≤ m → (k ≠ m ∨ j ≠ i) := fun m hm => by omega
  rw [zs_settle_nn (e 13 (by omega)), zs_s5_nn (e 12 (by omega)), zs_s4_nn (e 11 (by omega)), zs_s3_nn (e 10 (by omega)), zs_s2_nn (e 9 (by omega)), zs_s1_nn (e 8 (by omega))]
theorem zs_B_put {g : Nat → Nat → Nat} (h : zs_B g) {i k d a b f go : Nat} (hk : k ≤ 7 ∧ d ≤ 31 ∧ a ≤ 31 ∧ b ≤ 31) (hf : f ≤ 2 ∧ go ≤ 1) : zs_B (zs_put g i k d a b f go) :=
  zs_B_up (zs_B_up (zs_B_up (zs_B_up (zs_B_up (zs_B_up (zs_B_up h (by omega)) (by omega)) (by omega)) (by omega)) (by omega)) (by omega)) (by omega)
theorem zs_B_append {g : Nat → Nat → Nat} (h : zs_B g) {i k d a b f go : Nat} (hk : k ≤ 7 ∧ d ≤ 31 ∧ a ≤ 31 ∧ b ≤ 31) (hf : f ≤ 2 ∧ go ≤ 1) : zs_B (zs_append g i k d a b f go) := zs_B_settle (zs_B_put h hk hf) i
theorem zs_B_failLast {g : Nat → Nat → Nat} (h : zs_B g) (i : Nat) : zs_B (zs_failLast g i) := zs_B_settle (zs_B_up h (by omega)) i
theorem zs_V_settle {g : Nat → Nat → Nat} (h : zs_V g) (i : Nat) : zs_V (zs_settle g i) := by
  intro j
  rw [zs_settle_ne (k := 1) (Or.inr (by decide)), zs_settle_ne (k := 2) (Or.inr (by decide)), zs_settle_ne (k := 3) (Or.inr (by decide)), zs_settle_ne (k := 4) (Or.inr (by decide)), zs_settle_ne (k := 5) (Or.inr (by decide)), zs_settle_ne (k := 6) (Or.inr (by decide))]
  exact h j
theorem zs_put_at (g : Nat → Nat → Nat) (i k d a b f go : Nat) : zs_put g i k d a b f go 1 i = k ∧ zs_put g i k d a b f go 2 i = d ∧ zs_put g i k d a b f go 3 i = a ∧ zs_put g i k d a b f go 4 i = b ∧ zs_put g i k d a b f go 5 i = f ∧ zs_put g i k d a b f go 6 i = go ∧ zs_put g i k d a b f go 7 i = 0 := by
  simp [zs_put, ia_up]
theorem zs_put_ne {g : Nat → Nat → Nat} {i k d a b f go x j : Nat} (h : j ≠ i ∨ 8 ≤ x) : zs_put g i k d a b f go x j = g x j := by
  have e : ∀ m, m ≤ 7 → (x ≠ m ∨ j ≠ i) := fun m hm => by omega
  unfold zs_put
  rw [zs_up_ne (e 7 (by omega)), zs_up_ne (e 6 (by omega)), zs_up_ne (e 5 (by omega)), zs_up_ne (e 4 (by omega)), zs_up_ne (e 3 (by omega)), zs_up_ne (e 2 (by omega)), zs_up_ne (e 1 (by omega))]
theorem zs_V_put {g : Nat → Nat → Nat} (h : zs_V g) {i k d a b f go : Nat} (hk : k ≤ 7 ∧ d ≤ 31 ∧ a ≤ 31 ∧ b ≤ 31) (hf : f ≤ 2 ∧ go ≤ 1) : zs_V (zs_put g i k d a b f go) := by
  intro j
  by_cases hj : j = i
  · subst hj
    obtain ⟨e1, e2, e3, e4, e5, e6, -⟩ := zs_put_at g j k d a b f go
    omega
  · have := h j
    simp only [zs_put_ne (Or.inl hj)]
    exact this
theorem zs_V_append {g : Nat → Nat → Nat} (h : zs_V g) {i k d a b f go : Nat} (hk : k ≤ 7 ∧ d ≤ 31 ∧ a ≤ 31 ∧ b ≤ 31) (hf : f ≤ 2 ∧ go ≤ 1) : zs_V (zs_append g i k d a b f go) := zs_V_settle (zs_V_put h hk hf) i
theorem zs_V_failLast {g : Nat → Nat → Nat} (h : zs_V g) (i : Nat) : zs_V (zs_failLast g i) := by
  refine zs_V_settle (fun j => ?_) i
  have := h j
  simp only [zs_up_ne (g := g) (k := 7) (j := i) (v := 1) (a := 1) (b := j) (Or.inl (by decide)), zs_up_ne (g := g) (k := 7) (j := i) (v := 1) (a := 2) (b := j) (Or.inl (by decide)), zs_up_ne (g := g) (k := 7) (j := i) (v := 1) (a := 3) (b := j) (Or.inl (by decide)), zs_up_ne (g := g) (k := 7) (j := i) (v := 1) (a := 4) (b := j) (Or.inl (by decide)), zs_up_ne (g := g) (k := 7) (j := i) (v := 1) (a := 5) (b := j) (Or.inl (by decide)), zs_up_ne (g := g) (k := 7) (j := i) (v := 1) (a := 6) (b := j) (Or.inl (by decide))]
  exact this
theorem zs_BV_cell {g : Nat → Nat → Nat} (h : zs_B g) (hv : zs_V g) (n j : Nat) : zs_B (zs_cell g n j) ∧ zs_V (zs_cell g n j) := by
  have hj := hv j
  have h1 : zs_B (zs_append g n (g 1 j) (g 2 j) (g 3 j) (g 4 j) (g 5 j) (g 6 j)) := zs_B_append h (by omega) (by omega)
  have h2 : zs_V (zs_append g n (g 1 j) (g 2 j) (g 3 j) (g 4 j) (g 5 j) (g 6 j)) := zs_V_append hv (by omega) (by omega)
  unfold zs_cell
  dsimp only
  split
  · exact ⟨h1, h2⟩
  · exact ⟨zs_B_failLast h1 n, zs_V_failLast h2 n⟩
theorem zs_BV_again {g : Nat → Nat → Nat} (h : zs_B g) (hv : zs_V g) (n i k : Nat) : zs_B (zs_again g n i k) ∧ zs_V (zs_again g n i k) := by
  induction k with
  | zero => exact ⟨h, hv⟩
  | succ k ih => exact zs_BV_cell ih.1 ih.2 (n + k) (i + k)
