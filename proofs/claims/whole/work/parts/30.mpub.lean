-- the face of the reference
def zq_put (n : Nat) (g : Nat → Nat → Nat) (k d a b : Int32) : Int32 × Nat × (Nat → Nat → Nat) := if (k.toInt < 0 ∨ 7 < k.toInt ∨ k.toInt = 5 ∨ ¬ (0 ≤ d.toInt ∧ d.toInt ≤ 31) ∨ ¬ (0 ≤ a.toInt ∧ a.toInt ≤ 31) ∨ ¬ (0 ≤ b.toInt ∧ b.toInt ≤ 31) ∨ (k.toInt = 7 ∧ ¬ (d.toInt = 0 ∧ a.toInt = 0 ∧ b.toInt = 0))) ∨ n = 400 then ((-1), n, g) else (nI n, n + 1, zs_put g n k.toInt.toNat d.toInt.toNat a.toInt.toNat b.toInt.toNat 0 0)
def zq_branch (n : Nat) (g : Nat → Nat → Nat) (f : Int32) (go : Nat) (d a : Int32) : Int32 × Nat × (Nat → Nat → Nat) := if (f.toInt < 0 ∨ 2 < f.toInt ∨ ¬ (0 ≤ d.toInt ∧ d.toInt ≤ 31) ∨ ¬ (0 ≤ a.toInt ∧ a.toInt ≤ 31)) ∨ n = 400 then ((-1), n, g) else (nI n, n + 1, zs_put g n 5 d.toInt.toNat a.toInt.toNat 0 f.toInt.toNat go)
def zqq_fail (n : Nat) (g : Nat → Nat → Nat) : Int32 × Nat × (Nat → Nat → Nat) := if n = 0 then (nI 0, n, g) else (nI 1, n, ia_up g 7 (n - 1) 1)
def zq_again (n : Nat) (g : Nat → Nat → Nat) (x y : Int32) : Int32 × Nat × (Nat → Nat → Nat) := if ¬ (0 ≤ x.toInt ∧ x.toInt < n) ∨ y.toInt < 1 ∨ (n : Int) - x.toInt < y.toInt ∨ 400 - (n : Int) < y.toInt then ((-1), n, g) else (nI (n + y.toInt.toNat), n + y.toInt.toNat, zm_again g n x.toInt.toNat y.toInt.toNat)
def zq_time (n : Nat) (g : Nat → Nat → Nat) (x w : Int32) : Int32 × Nat × (Nat → Nat → Nat) := if ¬ (0 ≤ x.toInt ∧ x.toInt < n) then ((-1), n, g) else (zp_time (zm_loop g n) n x.toInt.toNat w.toInt, n, zm_loop g n)
def zq_of (n : Nat) (g : Nat → Nat → Nat) (x w : Int32) : Int32 × Nat × (Nat → Nat → Nat) := if ¬ (0 ≤ x.toInt ∧ x.toInt < n) then ((-1), n, g) else (zpm_of (zm_loop g n) x.toInt.toNat w.toInt, n, zm_loop g n)
def zq_stage (n : Nat) (g : Nat → Nat → Nat) (x y : Int32) : Int32 × Nat × (Nat → Nat → Nat) := if ¬ (0 ≤ x.toInt ∧ x.toInt < n) ∨ y.toInt < 0 then ((-1), n, g) else (nI (zs_stage (zm_loop g n) x.toInt.toNat y.toInt.toNat), n, zm_loop g n)
def zq_many (n : Nat) (g : Nat → Nat → Nat) (x y : Int32) : Int32 × Nat × (Nat → Nat → Nat) := if x.toInt < 0 ∨ 3 < x.toInt ∨ y.toInt < 0 then ((-1), n, g) else (nI (zs_many (zm_loop g n) x.toInt.toNat y.toInt.toNat n), n, zm_loop g n)
def zq_look (n : Nat) (g : Nat → Nat → Nat) (w : Int32) : Int32 × Nat × (Nat → Nat → Nat) := (zpm_look (zm_loop g n) n w.toInt, n, zm_loop g n)
set_option maxHeartbeats 1000000 in
set_option maxRecDepth 100000 in
theorem zfm_put (l : Launch) (E : ia_E) (n : Nat) (g : Nat → Nat → Nat) (hV : zm_V g) (hn : n ≤ 400)  (k d a b : Int32) (sz : Nat) : im_M l yX1_put cX1_put 5 .int 1 E n g sz [.int k, .int d, .int a, .int b] (zq_put n g k d a b).1 (zq_put n g k d a b).2.1 (zq_put n g k d a b).2.2 := by
  by_cases h0 : (k.toInt < 0 ∨ 7 < k.toInt ∨ k.toInt = 5 ∨ ¬ (0 ≤ d.toInt ∧ d.toInt ≤ 31) ∨ ¬ (0 ≤ a.toInt ∧ a.toInt ≤ 31) ∨ ¬ (0 ≤ b.toInt ∧ b.toInt ≤ 31))
  · rw [show zq_put n g k d a b = ((-1), n, g) from if_pos (by omega)]
    exact zmc_put_no l E n g hV.1 k d a b h0 sz
  · obtain ⟨k', hk, rfl, ek⟩ := zi_of (x := k) (by omega)
    obtain ⟨d', hd, rfl, ed⟩ := zi_of (x := d) (by omega)
    obtain ⟨a', ha, rfl, ea⟩ := zi_of (x := a) (by omega)
    obtain ⟨b', hb, rfl, eb⟩ := zi_of (x := b) (by omega)
    by_cases h1 : (k' = 7 ∧ ¬ (d' = 0 ∧ a' = 0 ∧ b' = 0)) ∨ n = 400
    · rw [show zq_put n g (nI k') (nI d') (nI a') (nI b') = ((-1), n, g) from if_pos (by omega)]
      exact zmc_put_no2 l E n g hV.1 k' d' a' b' hn (by omega) (by omega) h1 sz
    · rw [show zq_put n g (nI k') (nI d') (nI a') (nI b') = (nI n, n + 1, zs_put g n k' d' a' b' 0 0) from by
        unfold zq_put; rw [if_neg (by omega), ek, ed, ea, eb]; rfl]
      exact zmc_put l E n g hV.1 k' d' a' b' (by omega) (by omega) (by omega) (by omega) sz
set_option maxHeartbeats 1000000 in
set_option maxRecDepth 100000 in
theorem zfm_branch (l : Launch) (E : ia_E) (n : Nat) (g : Nat → Nat → Nat) (hV : zm_V g) (hn : n ≤ 400)  (f : Int32) (go : Nat) (hgo : go ≤ 1) (d a : Int32) (sz : Nat) : im_M l yX1_branch cX1_branch 5 .int 1 E n g sz [.int f, .int (nI go), .int d, .int a] (zq_branch n g f go d a).1 (zq_branch n g f go d a).2.1 (zq_branch n g f go d a).2.2 := by
  by_cases h0 : (f.toInt < 0 ∨ 2 < f.toInt ∨ ¬ (0 ≤ d.toInt ∧ d.toInt ≤ 31) ∨ ¬ (0 ≤ a.toInt ∧ a.toInt ≤ 31)) ∨ n = 400
  · rw [show zq_branch n g f go d a = ((-1), n, g) from if_pos h0]
    exact zmc_branch_no l E n g hV.1 f go d a hn (by omega) sz
  · obtain ⟨f', hf, rfl, ef⟩ := zi_of (x := f) (by omega)
    obtain ⟨d', hd, rfl, ed⟩ := zi_of (x := d) (by omega)
    obtain ⟨a', ha, rfl, ea⟩ := zi_of (x := a) (by omega)
    rw [show zq_branch n g (nI f') go (nI d') (nI a') = (nI n, n + 1, zs_put g n 5 d' a' 0 f' go) from by
        unfold zq_branch; rw [if_neg h0, ef, ed, ea]; rfl]
    exact zmc_branch l E n g hV.1 f' go d' a' (by omega) (by omega) (by omega) sz
set_option maxHeartbeats 1000000 in
set_option maxRecDepth 100000 in
theorem zfm_fail (l : Launch) (E : ia_E) (n : Nat) (g : Nat → Nat → Nat) (hV : zm_V g) (hn : n ≤ 400)   (sz : Nat) : im_M l yX1_fail cX1_fail 1 .boolean 0 E n g sz [] (zqq_fail n g).1 (zqq_fail n g).2.1 (zqq_fail n g).2.2 := by
  by_cases h0 : n = 0
  · rw [show zqq_fail n g = (nI 0, n, g) from if_pos h0]
    exact zmc_fail_no l E n g hV.1 h0 sz
  · rw [show zqq_fail n g = (nI 1, n, ia_up g 7 (n - 1) 1) from if_neg h0]
    exact zmc_fail l E n g hV.1 (by omega) sz
set_option maxHeartbeats 1000000 in
set_option maxRecDepth 100000 in
theorem zfm_drop (l : Launch) (E : ia_E) (n : Nat) (g : Nat → Nat → Nat) (hV : zm_V g) (hn : n ≤ 400)  (x : Int32) (sz : Nat) : im_M l yX1_drop cX1_drop 2 .boolean 0 E n g sz [.int x] (zp_drop n g x).1 (zp_drop n g x).2.1 (zp_drop n g x).2.2 := by
  by_cases h0 : x.toInt < 0 ∨ (n : Int) < x.toInt
  · rw [show zp_drop n g x = (nI 0, n, g) from if_pos h0]
    exact zmc_drop_no l E n g hV.1 x hn h0 sz
  · obtain ⟨x', hx, rfl, ex⟩ := zi_of (x := x) (by omega)
    rw [show zp_drop n g (nI x') = (nI 1, n - x', g) from by unfold zp_drop; rw [if_neg h0, ex]; rfl]
    exact zmc_drop l E n g hV.1 x' hn (by omega) sz
set_option maxHeartbeats 1000000 in
set_option maxRecDepth 100000 in
theorem zfm_again (l : Launch) (E : ia_E) (n : Nat) (g : Nat → Nat → Nat) (hV : zm_V g) (hn : n ≤ 400)  (x y : Int32) (sz : Nat) : im_M l yX1_again cX1_again 5 .int 1 E n g sz [.int x, .int y] (zq_again n g x y).1 (zq_again n g x y).2.1 (zq_again n g x y).2.2 := by
  by_cases h0 : x.toInt < 0 ∨ y.toInt < 1 ∨ 400 - (n : Int) < y.toInt
  · rw [show zq_again n g x y = ((-1), n, g) from if_pos (by omega)]
    exact zmc_again_no1 l E n g hV.1 x y hn (by omega) sz
  · obtain ⟨y', hy, rfl, ey⟩ := zi_of (x := y) (by omega)
    by_cases h1 : (n : Int) - y' < x.toInt
    · rw [show zq_again n g x (nI y') = ((-1), n, g) from if_pos (by omega)]
      exact zmc_again_no2 l E n g hV.1 x y' hn (by omega) (by omega) sz
    · obtain ⟨x', hx, rfl, ex⟩ := zi_of (x := x) (by omega)
      rw [show zq_again n g (nI x') (nI y') = (nI (n + y'), n + y', zm_again g n x' y') from by
        unfold zq_again; rw [if_neg (by omega), ex, ey]; rfl]
      exact zmc_again l E n g hV.1 x' y' hV hn (by omega) sz
set_option maxHeartbeats 1000000 in
set_option maxRecDepth 100000 in
theorem zfm_time (l : Launch) (E : ia_E) (n : Nat) (g : Nat → Nat → Nat) (hV : zm_V g) (hn : n ≤ 400)  (x w : Int32) (sz : Nat) : im_M l yX1_time cX1_time 3 .int 3 E n g sz [.int x, .int w] (zq_time n g x w).1 (zq_time n g x w).2.1 (zq_time n g x w).2.2 := by
  by_cases h0 : ¬ (0 ≤ x.toInt ∧ x.toInt < n)
  · rw [show zq_time n g x w = ((-1), n, g) from if_pos h0]
    exact zmc_time_no l E n g hV.1 x w hV.2.1 hn h0 sz
  · obtain ⟨x', hx, rfl, ex⟩ := zi_of (x := x) (by omega)
    rw [show zq_time n g (nI x') w = (zp_time (zm_loop g n) n x' w.toInt, n, zm_loop g n) from by unfold zq_time; rw [if_neg h0, ex]; rfl]
    exact zmc_time l E n g hV.1 x' w hV.2.1 hn (by omega) sz
set_option maxHeartbeats 1000000 in
set_option maxRecDepth 100000 in
theorem zfm_of (l : Launch) (E : ia_E) (n : Nat) (g : Nat → Nat → Nat) (hV : zm_V g) (hn : n ≤ 400)  (x w : Int32) (sz : Nat) : im_M l yX1_of cX1_of 3 .int 3 E n g sz [.int x, .int w] (zq_of n g x w).1 (zq_of n g x w).2.1 (zq_of n g x w).2.2 := by
  by_cases h0 : ¬ (0 ≤ x.toInt ∧ x.toInt < n)
  · rw [show zq_of n g x w = ((-1), n, g) from if_pos h0]
    exact zmc_of_no l E n g hV.1 x w hV.2.1 hn h0 sz
  · obtain ⟨x', hx, rfl, ex⟩ := zi_of (x := x) (by omega)
    rw [show zq_of n g (nI x') w = (zpm_of (zm_loop g n) x' w.toInt, n, zm_loop g n) from by unfold zq_of; rw [if_neg h0, ex]; rfl]
    exact zmc_of l E n g hV.1 x' w hV.2.1 hn (by omega) sz
set_option maxHeartbeats 1000000 in
set_option maxRecDepth 100000 in
theorem zfm_stage (l : Launch) (E : ia_E) (n : Nat) (g : Nat → Nat → Nat) (hV : zm_V g) (hn : n ≤ 400)  (x y : Int32) (sz : Nat) : im_M l yX1_stage cX1_stage 3 .int 3 E n g sz [.int x, .int y] (zq_stage n g x y).1 (zq_stage n g x y).2.1 (zq_stage n g x y).2.2 := by
  by_cases h0 : ¬ (0 ≤ x.toInt ∧ x.toInt < n) ∨ y.toInt < 0
  · rw [show zq_stage n g x y = ((-1), n, g) from if_pos h0]
    exact zmc_pstage_no l E n g hV.1 x y hV.2.1 hn h0 sz
  · obtain ⟨x', hx, rfl, ex⟩ := zi_of (x := x) (by omega)
    obtain ⟨y', hy, rfl, ey⟩ := zi_of (x := y) (by omega)
    rw [show zq_stage n g (nI x') (nI y') = (nI (zs_stage (zm_loop g n) x' y'), n, zm_loop g n) from by unfold zq_stage; rw [if_neg h0, ex, ey]; rfl]
    exact zmc_pstage l E n g hV.1 x' y' hV.2.1 hn (by omega) (by omega) sz
set_option maxHeartbeats 1000000 in
set_option maxRecDepth 100000 in
theorem zfm_many (l : Launch) (E : ia_E) (n : Nat) (g : Nat → Nat → Nat) (hV : zm_V g) (hn : n ≤ 400)  (x y : Int32) (sz : Nat) : im_M l yX1_many cX1_many 3 .int 3 E n g sz [.int x, .int y] (zq_many n g x y).1 (zq_many n g x y).2.1 (zq_many n g x y).2.2 := by
  by_cases h0 : x.toInt < 0 ∨ 3 < x.toInt ∨ y.toInt < 0
  · rw [show zq_many n g x y = ((-1), n, g) from if_pos h0]
    exact zmc_pmany_no l E n g hV.1 x y hV.2.1 hn h0 sz
  · obtain ⟨x', hx, rfl, ex⟩ := zi_of (x := x) (by omega)
    obtain ⟨y', hy, rfl, ey⟩ := zi_of (x := y) (by omega)
    rw [show zq_many n g (nI x') (nI y') = (nI (zs_many (zm_loop g n) x' y' n), n, zm_loop g n) from by unfold zq_many; rw [if_neg h0, ex, ey]; rfl]
    exact zmc_pmany l E n g hV.1 x' y' hV.2.1 hn (by omega) (by omega) sz
