-- PART: the face of the class: what each call answers and does to the row
def zp_put (n : Nat) (g : Nat → Nat → Nat) (k d a b : Int32) : Int32 × Nat × (Nat → Nat → Nat) := if (k.toInt < 0 ∨ 7 < k.toInt ∨ k.toInt = 5 ∨ ¬ (0 ≤ d.toInt ∧ d.toInt ≤ 31) ∨ ¬ (0 ≤ a.toInt ∧ a.toInt ≤ 31) ∨ ¬ (0 ≤ b.toInt ∧ b.toInt ≤ 31) ∨ (k.toInt = 7 ∧ ¬ (d.toInt = 0 ∧ a.toInt = 0 ∧ b.toInt = 0))) ∨ n = 400 then ((-1), n, g) else (nI n, n + 1, zs_append g n k.toInt.toNat d.toInt.toNat a.toInt.toNat b.toInt.toNat 0 0)
def zp_branch (n : Nat) (g : Nat → Nat → Nat) (f : Int32) (go : Nat) (d a : Int32) : Int32 × Nat × (Nat → Nat → Nat) := if (f.toInt < 0 ∨ 2 < f.toInt ∨ ¬ (0 ≤ d.toInt ∧ d.toInt ≤ 31) ∨ ¬ (0 ≤ a.toInt ∧ a.toInt ≤ 31)) ∨ n = 400 then ((-1), n, g) else (nI n, n + 1, zs_append g n 5 d.toInt.toNat a.toInt.toNat 0 f.toInt.toNat go)
def zp_fail (n : Nat) (g : Nat → Nat → Nat) : Int32 × Nat × (Nat → Nat → Nat) := if n = 0 then (nI 0, n, g) else (nI 1, n, zs_failLast g (n - 1))
def zp_drop (n : Nat) (g : Nat → Nat → Nat) (x : Int32) : Int32 × Nat × (Nat → Nat → Nat) := if x.toInt < 0 ∨ (n : Int) < x.toInt then (nI 0, n, g) else (nI 1, n - x.toInt.toNat, g)
def zp_again (n : Nat) (g : Nat → Nat → Nat) (x y : Int32) : Int32 × Nat × (Nat → Nat → Nat) := if ¬ (0 ≤ x.toInt ∧ x.toInt < n) ∨ y.toInt < 1 ∨ (n : Int) - x.toInt < y.toInt ∨ 400 - (n : Int) < y.toInt then ((-1), n, g) else (nI (n + y.toInt.toNat), n + y.toInt.toNat, zs_again g n x.toInt.toNat y.toInt.toNat)
def zr_time (n : Nat) (g : Nat → Nat → Nat) (x w : Int32) : Int32 := if ¬ (0 ≤ x.toInt ∧ x.toInt < n) then (-1) else zp_time g n x.toInt.toNat w.toInt
def zr_of (n : Nat) (g : Nat → Nat → Nat) (x w : Int32) : Int32 := if ¬ (0 ≤ x.toInt ∧ x.toInt < n) then (-1) else zp_of g x.toInt.toNat w.toInt
def zr_stage (n : Nat) (g : Nat → Nat → Nat) (x y : Int32) : Int32 := if ¬ (0 ≤ x.toInt ∧ x.toInt < n) ∨ y.toInt < 0 then (-1) else nI (zs_stage g x.toInt.toNat y.toInt.toNat)
def zr_many (n : Nat) (g : Nat → Nat → Nat) (x y : Int32) : Int32 := if x.toInt < 0 ∨ 3 < x.toInt ∨ y.toInt < 0 then (-1) else nI (zs_many g x.toInt.toNat y.toInt.toNat n)
set_option maxHeartbeats 1000000 in
set_option maxRecDepth 100000 in
theorem zf_put (l : Launch) (E : ia_E) (n : Nat) (g : Nat → Nat → Nat) (hg : zs_B g) (hn : n ≤ 400)  (k d a b : Int32) (sz : Nat) : ia_M l yX0_put cX0_put 5 .int 6 E n g sz [.int k, .int d, .int a, .int b] (zp_put n g k d a b).1 (zp_put n g k d a b).2.1 (zp_put n g k d a b).2.2 := by
  by_cases h0 : (k.toInt < 0 ∨ 7 < k.toInt ∨ k.toInt = 5 ∨ ¬ (0 ≤ d.toInt ∧ d.toInt ≤ 31) ∨ ¬ (0 ≤ a.toInt ∧ a.toInt ≤ 31) ∨ ¬ (0 ≤ b.toInt ∧ b.toInt ≤ 31) ∨ (k.toInt = 7 ∧ ¬ (d.toInt = 0 ∧ a.toInt = 0 ∧ b.toInt = 0)))
  · rw [show zp_put n g k d a b = ((-1), n, g) from if_pos (Or.inl h0)]
    exact zc_put_no l E n g hg k d a b h0 sz
  · obtain ⟨k', hk, rfl, ek⟩ := zi_of (x := k) (by omega)
    obtain ⟨d', hd, rfl, ed⟩ := zi_of (x := d) (by omega)
    obtain ⟨a', ha, rfl, ea⟩ := zi_of (x := a) (by omega)
    obtain ⟨b', hb, rfl, eb⟩ := zi_of (x := b) (by omega)
    by_cases h1 : n = 400
    · rw [show zp_put n g (nI k') (nI d') (nI a') (nI b') = ((-1), n, g) from if_pos (Or.inr h1)]
      exact zc_put_full l E n g hg k' d' a' b' h1 (by omega) (by omega) (by omega) sz
    · rw [show zp_put n g (nI k') (nI d') (nI a') (nI b') = (nI n, n + 1, zs_append g n k' d' a' b' 0 0) from by
        unfold zp_put; rw [if_neg (by omega), ek, ed, ea, eb]; rfl]
      exact zc_put l E n g hg k' d' a' b' (by omega) (by omega) (by omega) (by omega) sz
set_option maxHeartbeats 1000000 in
set_option maxRecDepth 100000 in
theorem zf_branch (l : Launch) (E : ia_E) (n : Nat) (g : Nat → Nat → Nat) (hg : zs_B g) (hn : n ≤ 400)  (f : Int32) (go : Nat) (hgo : go ≤ 1) (d a : Int32) (sz : Nat) : ia_M l yX0_branch cX0_branch 5 .int 6 E n g sz [.int f, .int (nI go), .int d, .int a] (zp_branch n g f go d a).1 (zp_branch n g f go d a).2.1 (zp_branch n g f go d a).2.2 := by
  by_cases h0 : (f.toInt < 0 ∨ 2 < f.toInt ∨ ¬ (0 ≤ d.toInt ∧ d.toInt ≤ 31) ∨ ¬ (0 ≤ a.toInt ∧ a.toInt ≤ 31))
  · rw [show zp_branch n g f go d a = ((-1), n, g) from if_pos (Or.inl h0)]
    exact zc_branch_no l E n g hg f go d a h0 sz
  · obtain ⟨f', hf, rfl, ef⟩ := zi_of (x := f) (by omega)
    obtain ⟨d', hd, rfl, ed⟩ := zi_of (x := d) (by omega)
    obtain ⟨a', ha, rfl, ea⟩ := zi_of (x := a) (by omega)
    by_cases h1 : n = 400
    · rw [show zp_branch n g (nI f') go (nI d') (nI a') = ((-1), n, g) from if_pos (Or.inr h1)]
      exact zc_branch_full l E n g hg f' go d' a' h1 (by omega) (by omega) sz
    · rw [show zp_branch n g (nI f') go (nI d') (nI a') = (nI n, n + 1, zs_append g n 5 d' a' 0 f' go) from by
        unfold zp_branch; rw [if_neg (by omega), ef, ed, ea]; rfl]
      exact zc_branch l E n g hg f' go d' a' (by omega) (by omega) (by omega) sz
set_option maxHeartbeats 1000000 in
set_option maxRecDepth 100000 in
theorem zf_fail (l : Launch) (E : ia_E) (n : Nat) (g : Nat → Nat → Nat) (hg : zs_B g) (hn : n ≤ 400)   (sz : Nat) : ia_M l yX0_fail cX0_fail 1 .boolean 6 E n g sz [] (zp_fail n g).1 (zp_fail n g).2.1 (zp_fail n g).2.2 := by
  by_cases h0 : n = 0
  · rw [show zp_fail n g = (nI 0, n, g) from if_pos h0]
    exact zc_fail_no l E n g hg h0 sz
  · rw [show zp_fail n g = (nI 1, n, zs_failLast g (n - 1)) from if_neg h0]
    exact zc_fail l E n g hg (by omega) sz
set_option maxHeartbeats 1000000 in
set_option maxRecDepth 100000 in
theorem zf_drop (l : Launch) (E : ia_E) (n : Nat) (g : Nat → Nat → Nat) (hg : zs_B g) (hn : n ≤ 400)  (x : Int32) (sz : Nat) : ia_M l yX0_drop cX0_drop 2 .boolean 0 E n g sz [.int x] (zp_drop n g x).1 (zp_drop n g x).2.1 (zp_drop n g x).2.2 := by
  by_cases h0 : x.toInt < 0 ∨ (n : Int) < x.toInt
  · rw [show zp_drop n g x = (nI 0, n, g) from if_pos h0]
    exact zc_drop_no l E n g hg x hn h0 sz
  · obtain ⟨x', hx, rfl, ex⟩ := zi_of (x := x) (by omega)
    rw [show zp_drop n g (nI x') = (nI 1, n - x', g) from by unfold zp_drop; rw [if_neg h0, ex]; rfl]
    exact zc_drop l E n g hg x' hn (by omega) sz
set_option maxHeartbeats 1000000 in
set_option maxRecDepth 100000 in
theorem zf_again (l : Launch) (E : ia_E) (n : Nat) (g : Nat → Nat → Nat) (hg : zs_B g) (hn : n ≤ 400) (hv : zs_V g) (x y : Int32) (sz : Nat) : ia_M l yX0_again cX0_again 4 .int 6 E n g sz [.int x, .int y] (zp_again n g x y).1 (zp_again n g x y).2.1 (zp_again n g x y).2.2 := by
  by_cases h0 : ¬ (0 ≤ x.toInt ∧ x.toInt < n)
  · rw [show zp_again n g x y = ((-1), n, g) from if_pos (Or.inl h0)]
    exact zc_again_no1 l E n g hg x y hn h0 sz
  · obtain ⟨x', hx, rfl, ex⟩ := zi_of (x := x) (by omega)
    by_cases h1 : y.toInt < 1 ∨ (n : Int) - (nI x').toInt < y.toInt ∨ 400 - (n : Int) < y.toInt
    · rw [show zp_again n g (nI x') y = ((-1), n, g) from if_pos (Or.inr h1)]
      exact zc_again_no2 l E n g hg x' y hn (by omega) (by omega) sz
    · obtain ⟨y', hy, rfl, ey⟩ := zi_of (x := y) (by omega)
      rw [show zp_again n g (nI x') (nI y') = (nI (n + y'), n + y', zs_again g n x' y') from by
        unfold zp_again; rw [if_neg (by omega), ex, ey]; rfl]
      exact zc_again l E n g hg x' y' hv hn (by omega) (by omega) sz
set_option maxHeartbeats 1000000 in
set_option maxRecDepth 100000 in
theorem zf_time (l : Launch) (E : ia_E) (n : Nat) (g : Nat → Nat → Nat) (hg : zs_B g) (hn : n ≤ 400)  (x w : Int32) : ia_R l yX0_time cX0_time 3 .int 1 E n g [.int x, .int w] (zr_time n g x w) := by
  by_cases h0 : ¬ (0 ≤ x.toInt ∧ x.toInt < n)
  · rw [show zr_time n g x w = (-1) from if_pos h0]
    exact zc_ptime_no l E n g hg x w hn h0
  · obtain ⟨x', hx, rfl, ex⟩ := zi_of (x := x) (by omega)
    rw [show zr_time n g (nI x') w = zp_time g n x' w.toInt from by unfold zr_time; rw [if_neg h0, ex]; rfl]
    exact zc_ptime l E n g hg x' w hn (by omega)
set_option maxHeartbeats 1000000 in
set_option maxRecDepth 100000 in
theorem zf_of (l : Launch) (E : ia_E) (n : Nat) (g : Nat → Nat → Nat) (hg : zs_B g) (hn : n ≤ 400)  (x w : Int32) : ia_R l yX0_of cX0_of 3 .int 3 E n g [.int x, .int w] (zr_of n g x w) := by
  by_cases h0 : ¬ (0 ≤ x.toInt ∧ x.toInt < n)
  · rw [show zr_of n g x w = (-1) from if_pos h0]
    exact zc_pof_no l E n g hg x w hn h0
  · obtain ⟨x', hx, rfl, ex⟩ := zi_of (x := x) (by omega)
    rw [show zr_of n g (nI x') w = zp_of g x' w.toInt from by unfold zr_of; rw [if_neg h0, ex]; rfl]
    exact zc_pof l E n g hg x' w hn (by omega)
set_option maxHeartbeats 1000000 in
set_option maxRecDepth 100000 in
theorem zf_stage (l : Launch) (E : ia_E) (n : Nat) (g : Nat → Nat → Nat) (hg : zs_B g) (hn : n ≤ 400)  (x y : Int32) : ia_R l yX0_stage cX0_stage 3 .int 1 E n g [.int x, .int y] (zr_stage n g x y) := by
  by_cases h0 : ¬ (0 ≤ x.toInt ∧ x.toInt < n) ∨ y.toInt < 0
  · rw [show zr_stage n g x y = (-1) from if_pos h0]
    exact zc_pstage_no l E n g hg x y hn h0
  · obtain ⟨x', hx, rfl, ex⟩ := zi_of (x := x) (by omega)
    obtain ⟨y', hy, rfl, ey⟩ := zi_of (x := y) (by omega)
    rw [show zr_stage n g (nI x') (nI y') = nI (zs_stage g x' y') from by unfold zr_stage; rw [if_neg h0, ex, ey]; rfl]
    exact zc_pstage l E n g hg x' y' hn (by omega) (by omega)
set_option maxHeartbeats 1000000 in
set_option maxRecDepth 100000 in
theorem zf_many (l : Launch) (E : ia_E) (n : Nat) (g : Nat → Nat → Nat) (hg : zs_B g) (hn : n ≤ 400)  (x y : Int32) : ia_R l yX0_many cX0_many 5 .int 1 E n g [.int x, .int y] (zr_many n g x y) := by
  by_cases h0 : x.toInt < 0 ∨ 3 < x.toInt ∨ y.toInt < 0
  · rw [show zr_many n g x y = (-1) from if_pos h0]
    exact zc_pmany_no l E n g hg x y hn h0
  · obtain ⟨x', hx, rfl, ex⟩ := zi_of (x := x) (by omega)
    obtain ⟨y', hy, rfl, ey⟩ := zi_of (x := y) (by omega)
    rw [show zr_many n g (nI x') (nI y') = nI (zs_many g x' y' n) from by unfold zr_many; rw [if_neg h0, ex, ey]; rfl]
    exact zc_pmany l E n g hg x' y' hn (by omega) (by omega)
