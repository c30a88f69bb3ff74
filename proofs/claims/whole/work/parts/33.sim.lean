-- PART: the two rows side by side, call by call
def zm_0 : Nat → Nat → Nat := fun k _ => if k = 16 then 1 else 0
def zx_R (n : Nat) (g G : Nat → Nat → Nat) : Prop := n ≤ 400 ∧ zs_B g ∧ zs_V g ∧ zs_I n g ∧ zm_V G ∧ ∀ k j, 1 ≤ k → k ≤ 7 → j < n → G k j = g k j
def zx_S (p q : Int32 × Nat × (Nat → Nat → Nat)) : Prop := p.1 = q.1 ∧ p.2.1 = q.2.1 ∧ zx_R p.2.1 p.2.2 q.2.2
def zx_T (n : Nat) (g : Nat → Nat → Nat) (v : Int32) (q : Int32 × Nat × (Nat → Nat → Nat)) : Prop := v = q.1 ∧ n = q.2.1 ∧ zx_R n g q.2.2
theorem zx_0 : zx_R 0 (fun _ _ => 0) zm_0 := by
  refine ⟨by omega, fun k j => Nat.zero_le _, fun j => ⟨Nat.zero_le _, Nat.zero_le _, Nat.zero_le _, Nat.zero_le _, Nat.zero_le _, Nat.zero_le _⟩, fun j hj => absurd hj (by omega), ⟨⟨fun k j hk => ?_, fun r => ?_⟩, fun j => ?_, fun j => ?_⟩, fun k j _ _ hj => absurd hj (by omega)⟩
  · rw [show zm_0 k j = 0 from if_neg hk]; omega
  · rw [show zm_0 16 r = 1 from if_pos rfl]; omega
  · show zm_0 1 j ≤ 7 ∧ zm_0 2 j ≤ 31 ∧ zm_0 3 j ≤ 31 ∧ zm_0 4 j ≤ 31 ∧ zm_0 5 j ≤ 2 ∧ zm_0 6 j ≤ 1
    rw [show zm_0 1 j = 0 from rfl, show zm_0 2 j = 0 from rfl, show zm_0 3 j = 0 from rfl, show zm_0 4 j = 0 from rfl, show zm_0 5 j = 0 from rfl, show zm_0 6 j = 0 from rfl]
    omega
  · rw [show zm_0 7 j = 0 from rfl]; omega
theorem zx_app {n : Nat} {g G : Nat → Nat → Nat} (r : zx_R n g G) (hn : n < 400) {k d a b f go : Nat} (hk : k ≤ 7 ∧ d ≤ 31 ∧ a ≤ 31 ∧ b ≤ 31) (hf : f ≤ 2 ∧ go ≤ 1) : zx_R (n + 1) (zs_append g n k d a b f go) (zs_put G n k d a b f go) := by
  obtain ⟨r1, r2, r3, r4, r5, r6⟩ := r
  refine ⟨by omega, zs_B_append r2 hk hf, zs_V_append r3 hk hf, zs_I_append r4, zm_V_put r5 hk hf, fun x j h1 h7 hj => ?_⟩
  rw [show zs_append g n k d a b f go x j = zs_put g n k d a b f go x j from zs_settle_ne (Or.inr h7)]
  by_cases hjn : j = n
  · subst hjn
    obtain ⟨p1, p2, p3, p4, p5, p6, p7⟩ := zs_put_at g j k d a b f go
    obtain ⟨q1, q2, q3, q4, q5, q6, q7⟩ := zs_put_at G j k d a b f go
    rcases (show x = 1 ∨ x = 2 ∨ x = 3 ∨ x = 4 ∨ x = 5 ∨ x = 6 ∨ x = 7 by omega) with rfl | rfl | rfl | rfl | rfl | rfl | rfl
    · rw [p1, q1]
    · rw [p2, q2]
    · rw [p3, q3]
    · rw [p4, q4]
    · rw [p5, q5]
    · rw [p6, q6]
    · rw [p7, q7]
  · rw [zs_put_ne (Or.inl hjn), zs_put_ne (Or.inl hjn)]; exact r6 x j h1 h7 (by omega)
theorem zx_failed {n : Nat} {g G : Nat → Nat → Nat} (r : zx_R n g G) (hn : 0 < n) : zx_R n (zs_failLast g (n - 1)) (ia_up G 7 (n - 1) 1) := by
  obtain ⟨r1, r2, r3, r4, r5, r6⟩ := r
  refine ⟨r1, zs_B_failLast r2 (n - 1), zs_V_failLast r3 (n - 1), zs_I_failLast hn r4, zm_V_up7 r5 (by omega), fun x j h1 h7 hj => ?_⟩
  rw [show zs_failLast g (n - 1) x j = ia_up g 7 (n - 1) 1 x j from zs_settle_ne (Or.inr h7)]
  by_cases hc : x = 7 ∧ j = n - 1
  · obtain ⟨rfl, rfl⟩ := hc
    rw [zs_up_at, zs_up_at]
  · rw [zs_up_ne (by omega), zs_up_ne (by omega)]; exact r6 x j h1 h7 hj
theorem zx_cell {n : Nat} {g G : Nat → Nat → Nat} (r : zx_R n g G) (hn : n < 400) {j : Nat} (hj : j < n) : zx_R (n + 1) (zs_cell g n j) (zm_cell G n j) := by
  have ag := r.2.2.2.2.2
  have hvj := r.2.2.1 j
  have r1 := zx_app r hn (k := g 1 j) (d := g 2 j) (a := g 3 j) (b := g 4 j) (f := g 5 j) (go := g 6 j) (by omega) (by omega)
  have e : zm_cell G n j = ia_up (zs_put G n (g 1 j) (g 2 j) (g 3 j) (g 4 j) (g 5 j) (g 6 j)) 7 n (zs_put G n (g 1 j) (g 2 j) (g 3 j) (g 4 j) (g 5 j) (g 6 j) 7 j) := by
    unfold zm_cell
    rw [ag 1 j (by omega) (by omega) hj, ag 2 j (by omega) (by omega) hj, ag 3 j (by omega) (by omega) hj, ag 4 j (by omega) (by omega) hj, ag 5 j (by omega) (by omega) hj, ag 6 j (by omega) (by omega) hj]
  have p7 : zs_put G n (g 1 j) (g 2 j) (g 3 j) (g 4 j) (g 5 j) (g 6 j) 7 n = 0 := (zs_put_at G n (g 1 j) (g 2 j) (g 3 j) (g 4 j) (g 5 j) (g 6 j)).2.2.2.2.2.2
  rw [e]
  unfold zs_cell
  generalize zs_append g n (g 1 j) (g 2 j) (g 3 j) (g 4 j) (g 5 j) (g 6 j) = g1 at r1
  generalize zs_put G n (g 1 j) (g 2 j) (g 3 j) (g 4 j) (g 5 j) (g 6 j) = G1 at r1 p7
  have e7 : G1 7 j = g1 7 j := r1.2.2.2.2.2 7 j (by omega) (by omega) (by omega)
  have b7 := r1.2.2.2.2.1.2.2 j
  dsimp only
  by_cases hc : g1 7 j = 0
  · rw [if_pos hc, e7, hc]
    obtain ⟨s1, s2, s3, s4, s5, s6⟩ := r1
    refine ⟨s1, s2, s3, s4, zm_V_up7 s5 (by omega), fun x y h1 h7 hy => ?_⟩
    by_cases hx : x = 7 ∧ y = n
    · obtain ⟨rfl, rfl⟩ := hx
      rw [zs_up_at, ← s6 7 y (by omega) (by omega) hy, p7]
    · rw [zs_up_ne (by omega)]; exact s6 x y h1 h7 hy
  · rw [if_neg hc, show G1 7 j = 1 by omega]
    have := zx_failed r1 (by omega)
    rw [show n + 1 - 1 = n by omega] at this
    exact this
theorem zx_agained {n : Nat} {g G : Nat → Nat → Nat} (r : zx_R n g G) {i : Nat} (hi : i < n) : ∀ k, n + k ≤ 400 → zx_R (n + k) (zs_again g n i k) (zm_again G n i k) := by
  intro k
  induction k with
  | zero => intro _; exact r
  | succ k ih => intro h; exact zx_cell (ih (by omega)) (by omega) (by omega)
theorem zx_put {n : Nat} {g G : Nat → Nat → Nat} (r : zx_R n g G) (k d a b : Int32) : zx_S (zp_put n g k d a b) (zq_put n G k d a b) := by
  have hn := r.1
  unfold zp_put zq_put
  split
  · exact ⟨rfl, rfl, r⟩
  · rename_i h
    exact ⟨rfl, rfl, zx_app r (by omega) (by omega) (by omega)⟩
theorem zx_branch {n : Nat} {g G : Nat → Nat → Nat} (r : zx_R n g G) (f : Int32) {go : Nat} (hgo : go ≤ 1) (d a : Int32) : zx_S (zp_branch n g f go d a) (zq_branch n G f go d a) := by
  have hn := r.1
  unfold zp_branch zq_branch
  split
  · exact ⟨rfl, rfl, r⟩
  · rename_i h
    exact ⟨rfl, rfl, zx_app r (by omega) (by omega) (by omega)⟩
theorem zx_fail {n : Nat} {g G : Nat → Nat → Nat} (r : zx_R n g G) : zx_S (zp_fail n g) (zqq_fail n G) := by
  unfold zp_fail zqq_fail
  split
  · exact ⟨rfl, rfl, r⟩
  · exact ⟨rfl, rfl, zx_failed r (show 0 < n by omega)⟩
theorem zx_less {n m : Nat} {g G : Nat → Nat → Nat} (r : zx_R n g G) (h : m ≤ n) : zx_R m g G := by
  obtain ⟨r1, r2, r3, r4, r5, r6⟩ := r
  exact ⟨by omega, r2, r3, fun j hj => r4 j (by omega), r5, fun k j a b hj => r6 k j a b (by omega)⟩
theorem zx_drop {n : Nat} {g G : Nat → Nat → Nat} (r : zx_R n g G) (x : Int32) : zx_S (zp_drop n g x) (zp_drop n G x) := by
  unfold zp_drop
  split
  · exact ⟨rfl, rfl, r⟩
  · exact ⟨rfl, rfl, zx_less r (show n - x.toInt.toNat ≤ n by omega)⟩
theorem zx_again {n : Nat} {g G : Nat → Nat → Nat} (r : zx_R n g G) (x y : Int32) : zx_S (zp_again n g x y) (zq_again n G x y) := by
  have hn := r.1
  unfold zp_again zq_again
  split
  · exact ⟨rfl, rfl, r⟩
  · exact ⟨rfl, rfl, zx_agained r (by omega) _ (by omega)⟩
theorem zx_loop {n : Nat} {g G : Nat → Nat → Nat} (r : zx_R n g G) : zx_R n g (zm_loop G n) ∧ zo_E (zm_loop G n) g n ∧ ∀ j, j < n → zm_loop G n 14 j = zs_redir g j ∧ zm_loop G n 15 j = zs_lies g j := by
  obtain ⟨r1, r2, r3, r4, r5, r6⟩ := r
  have hL := zm_L_loop r5.1 r5.2.1 n r1
  have ha := zg_agree r4 r3 r6 n (Nat.le_refl _)
  refine ⟨⟨r1, r2, r3, r4, ⟨hL.1, hL.2.2, fun j => by rw [zm_loop_lo (by omega)]; exact r5.2.2 j⟩, fun k j a b hj => ?_⟩, ha.1, ha.2.1⟩
  rw [zm_loop_lo b]; exact r6 k j a b hj
theorem zx_time {n : Nat} {g G : Nat → Nat → Nat} (r : zx_R n g G) (x w : Int32) : zx_T n g (zr_time n g x w) (zq_time n G x w) := by
  obtain ⟨l1, l2, l3⟩ := zx_loop r
  unfold zr_time zq_time
  split
  · exact ⟨rfl, rfl, r⟩
  · exact ⟨(zo_time l2 (by omega) _).symm, rfl, l1⟩
theorem zx_of {n : Nat} {g G : Nat → Nat → Nat} (r : zx_R n g G) (x w : Int32) : zx_T n g (zr_of n g x w) (zq_of n G x w) := by
  obtain ⟨l1, l2, l3⟩ := zx_loop r
  unfold zr_of zq_of
  split
  · exact ⟨rfl, rfl, r⟩
  · have h := l3 x.toInt.toNat (by omega)
    exact ⟨(zo_of l2 h.1 h.2 (by omega) _).symm, rfl, l1⟩
theorem zx_stage {n : Nat} {g G : Nat → Nat → Nat} (r : zx_R n g G) (x y : Int32) : zx_T n g (zr_stage n g x y) (zq_stage n G x y) := by
  obtain ⟨l1, l2, l3⟩ := zx_loop r
  unfold zr_stage zq_stage
  split
  · exact ⟨rfl, rfl, r⟩
  · exact ⟨congrArg nI (zo_stage l2 (by omega) _).symm, rfl, l1⟩
theorem zx_many {n : Nat} {g G : Nat → Nat → Nat} (r : zx_R n g G) (x y : Int32) : zx_T n g (zr_many n g x y) (zq_many n G x y) := by
  obtain ⟨l1, l2, l3⟩ := zx_loop r
  unfold zr_many zq_many
  split
  · exact ⟨rfl, rfl, r⟩
  · exact ⟨congrArg nI (zo_many l2 _ _ n (Nat.le_refl _)).symm, rfl, l1⟩
theorem zx_look {n : Nat} {g G : Nat → Nat → Nat} (r : zx_R n g G) (w : Int32) : zx_T n g (zp_look g n w.toInt) (zq_look n G w) := by
  obtain ⟨l1, l2, l3⟩ := zx_loop r
  exact ⟨(zo_look r.2.2.2.1 l2 _).symm, rfl, l1⟩
set_option maxHeartbeats 1000000 in
theorem zfm_look (l : Launch) (E : ia_E) (n : Nat) {g : Nat → Nat → Nat} (G : Nat → Nat → Nat) (r : zx_R n g G) (w : Int32) (sz : Nat) : im_M l yX1_look cX1_look 2 .int 3 E n G sz [.int w] (zq_look n G w).1 (zq_look n G w).2.1 (zq_look n G w).2.2 := by
  obtain ⟨l1, l2, l3⟩ := zx_loop r
  refine zmc_look l E n G r.2.2.2.2.1.1 w r.2.2.2.2.1.2.1 r.1 (fun k hk h0 => ?_) sz
  rw [l2 13 (k - 1) (by omega) (by omega) (by omega), l2 13 k (by omega) (by omega) hk]
  exact zg_C r.2.2.2.1 h0 hk
set_option maxHeartbeats 1000000 in
theorem zf_look (l : Launch) (E : ia_E) (n : Nat) {g G : Nat → Nat → Nat} (r : zx_R n g G) (w : Int32) : ia_R l yX0_look cX0_look 2 .int 2 E n g [.int w] (zp_look g n w.toInt) :=
  zc_plook l E n g r.2.1 w r.1 (fun k hk => zs_mono r.2.2.2.1 k hk)
