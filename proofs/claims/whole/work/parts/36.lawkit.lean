/-! THE CLAIM OUT OF ONE WALK OF THE LAW'S BODY. Your part is whole_start (and what it stands on); all else here is the same for every law, but numbers. -/
def R_law : String := "IssueTimesLaw"
def lw_P (b : Addr) (xs : List Int32) (args : Array Value) (s : State) : Prop := args = #[.ref b] ∧ s.IntsAt b xs ∧ xs.length ≤ 2560 ∧ (Jvm.Cond.and given_1 narrow_1).before args s = true
def lw_Q (_ : Array Value) (s : State) (o : Outcome) (t : State) : Prop := o = .returned (some (.int 1)) ∧ Framed s o t [] 31 11264
def lw_Z (below : List Frame) (a : Array Value) (s : State) : State → Prop := fun t => ∃ o, t.status = .running ∧ Ended t below o ∧ lw_Q a s o t
/-- the law's own end, with 1 on the stack, nothing written that was there before, its room as the claim has it -/
theorem lw_ret {p : Program} {l : Launch} {e : Env} {s : State} {m : MethodId} {below : List Frame} {meth : Method} {c : Code} {b : Nat} (hx : p.tables.exec = Jvm.exec) (hb : c.code = code) (hr : meth.sig.returnType = ret) (hlocks : meth.locks = false) {pc : Nat} {H : Heap} {ls : Array Slot} (hdg : decode code pc = .ok (.ireturn, 1)) : W p l e room_1 s m #[Value.ref b] below meth c H [] 31 11264 (lw_Z below #[Value.ref b] s) (F0 m pc ls [.int 1]) := by
  intro T hT X
  obtain ⟨fs, hret, hrun, hended, hW, hframe⟩ := X.leave (v := some (.int 1)) (hlocks := hlocks) (fun h => by rw [hr] at h; cases h)
  have hmeth' : T.vm.method? m = some meth := X.method'
  refine ⟨T.setFrames fs, ?_, .returned (some (.int 1)), hrun, hended, rfl, ⟨_, rfl⟩, hW, hframe⟩
  jvm_step X.here [X.here.top, hx, hb, hdg, hmeth', hr, ret, narrow_b1]
  (try refine ⟨rfl, ?_⟩); (try refine ⟨rfl, ?_⟩)
  first | (intro acts; rw [hret _ acts rfl rfl rfl]) | rw [hret _ _ rfl rfl rfl]
  exact Steps.refl _
/-- what holds at the law's entry: the machine, the code, the tables' words (any of lw_tbl by 'hts w (by decide +kernel)'), the script of L ints xs at the cell b, what the Statement gives of the start (any of its parts by flat_of_before) -/
def lw_At (p : Program) (s : State) (m : MethodId) (meth : Method) (c : Code) (b L : Nat) (xs : Nat → Int32) : Prop :=
  p.tables.exec = Jvm.exec ∧ c.code = code ∧ meth.sig.returnType = ret ∧ c.maxLocals = 4 ∧ s.vm.findClass R_law = some m.cls ∧ (∀ w ∈ lw_tbl, w.before #[Value.ref b] s = true) ∧ va_X b L xs s s.heap ∧ b < s.heap.size ∧ meth.locks = false ∧ (Jvm.Cond.and given_1 narrow_1).before #[Value.ref b] s = true
section ZL
variable {p : Program} {l : Launch} {e : Env} {R : Room} {s : State} {m : MethodId} {args : Array Value} {below : List Frame} {meth : Method} {c : Code} {H : Heap} {locs : List Loc} {cells slots : Nat} {Q : State → Prop} {cc : ByteArray} {pc : Nat} {ls : Array Slot} {rest : List Value} {A : Nat → Prop} {H0 : Heap}
theorem il_sld {b L : Nat} {xs : Nat → Int32} {j : Nat} (hx : p.tables.exec = Jvm.exec) (hb : c.code = cc) (hX : va_X b L xs s H0) (hbl : b < H0.size) (hbA : ¬ A b) (hS : va_S A H0 H locs) (hj : j < L) (hL : L < 2 ^ 31) (hd : decode cc pc = .ok (.iaload, 1))
    (kk : W p l e R s m args below meth c H locs cells slots Q (F0 m (pc + 1) ls (.int (xs j) :: rest))) : W p l e R s m args below meth c H locs cells slots Q (F0 m pc ls (.int (nI j) :: .ref b :: rest)) :=
  va_sld hx hb hX hbl hbA hS (vp_in_nI hj hL) hd (by rw [nI_clamp (by omega)]; exact kk)
end ZL
theorem zz_ofD {A : Nat → Prop} {w1 w2 : va_W} (h : va_D A (w1 ++ w2)) : zz_X w1 w2 := by
  intro i j p q hp hq e
  have hi : i < w1.length := (List.getElem?_eq_some_iff.mp hp).1
  have h1 : (w1 ++ w2)[i]? = some p := by rw [List.getElem?_append_left hi]; exact hp
  have h2 : (w1 ++ w2)[w1.length + j]? = some q := by
    rw [List.getElem?_append_right (by omega), show w1.length + j - w1.length = j by omega]; exact hq
  have := h.1 i (w1.length + j) p q h1 h2 e
  omega
theorem zg_iX0 : GoodIn tb (ia_ws yX0_init cX0_init 1 none) := fun w hw => tb_good w (by
  rcases List.mem_cons.mp hw with h | h
  · rw [h]; exact zkX0_init
  · exact h)
theorem zg_iX1 : GoodIn tb (ia_ws yX1_init cX1_init 1 none) := fun w hw => tb_good w (by
  rcases List.mem_cons.mp hw with h | h
  · rw [h]; exact zkX1_init
  · exact h)
theorem il_and (x : Int32) : ∃ j : Nat, j < 16 ∧ x &&& nI 15 = nI j := pk_andE x 4 (by decide)
theorem zgL_13 : GoodIn tb (wsV RL 13 RX0 yX0_put (ia_ws yX0_put cX0_put 5 (some .int))) := ia_gV zmL_13 ziX0_put zsX0_put znX0 zkX0_put
theorem zgL_18 : GoodIn tb (wsV RL 18 RX0 yX0_branch (ia_ws yX0_branch cX0_branch 5 (some .int))) := ia_gV zmL_18 ziX0_branch zsX0_branch znX0 zkX0_branch
theorem zgL_23 : GoodIn tb (wsV RL 23 RX0 yX0_fail (ia_ws yX0_fail cX0_fail 1 (some .boolean))) := ia_gV zmL_23 ziX0_fail zsX0_fail znX0 zkX0_fail
theorem zgL_28 : GoodIn tb (wsV RL 28 RX0 yX0_drop (ia_ws yX0_drop cX0_drop 2 (some .boolean))) := ia_gV zmL_28 ziX0_drop zsX0_drop znX0 zkX0_drop
theorem zgL_33 : GoodIn tb (wsV RL 33 RX0 yX0_clear (ia_ws yX0_clear cX0_clear 1 none)) := ia_gV zmL_33 ziX0_clear zsX0_clear znX0 zkX0_clear
theorem zgL_37 : GoodIn tb (wsV RL 37 RX0 yX0_again (ia_ws yX0_again cX0_again 4 (some .int))) := ia_gV zmL_37 ziX0_again zsX0_again znX0 zkX0_again
theorem zgL_42 : GoodIn tb (wsV RL 42 RX0 yX0_time (ia_ws yX0_time cX0_time 3 (some .int))) := ia_gV zmL_42 ziX0_time zsX0_time znX0 zkX0_time
theorem zgL_46 : GoodIn tb (wsV RL 46 RX0 yX0_of (ia_ws yX0_of cX0_of 3 (some .int))) := ia_gV zmL_46 ziX0_of zsX0_of znX0 zkX0_of
theorem zgL_50 : GoodIn tb (wsV RL 50 RX0 yX0_stage (ia_ws yX0_stage cX0_stage 3 (some .int))) := ia_gV zmL_50 ziX0_stage zsX0_stage znX0 zkX0_stage
theorem zgL_54 : GoodIn tb (wsV RL 54 RX0 yX0_many (ia_ws yX0_many cX0_many 5 (some .int))) := ia_gV zmL_54 ziX0_many zsX0_many znX0 zkX0_many
theorem zgL_58 : GoodIn tb (wsV RL 58 RX0 yX0_look (ia_ws yX0_look cX0_look 2 (some .int))) := ia_gV zmL_58 ziX0_look zsX0_look znX0 zkX0_look
theorem zgL_17 : GoodIn tb (wsV RL 17 RX1 yX1_put (ia_ws yX1_put cX1_put 5 (some .int))) := ia_gV zmL_17 ziX1_put zsX1_put znX1 zkX1_put
theorem zgL_22 : GoodIn tb (wsV RL 22 RX1 yX1_branch (ia_ws yX1_branch cX1_branch 5 (some .int))) := ia_gV zmL_22 ziX1_branch zsX1_branch znX1 zkX1_branch
theorem zgL_27 : GoodIn tb (wsV RL 27 RX1 yX1_fail (ia_ws yX1_fail cX1_fail 1 (some .boolean))) := ia_gV zmL_27 ziX1_fail zsX1_fail znX1 zkX1_fail
theorem zgL_32 : GoodIn tb (wsV RL 32 RX1 yX1_drop (ia_ws yX1_drop cX1_drop 2 (some .boolean))) := ia_gV zmL_32 ziX1_drop zsX1_drop znX1 zkX1_drop
theorem zgL_36 : GoodIn tb (wsV RL 36 RX1 yX1_clear (ia_ws yX1_clear cX1_clear 1 none)) := ia_gV zmL_36 ziX1_clear zsX1_clear znX1 zkX1_clear
theorem zgL_41 : GoodIn tb (wsV RL 41 RX1 yX1_again (ia_ws yX1_again cX1_again 5 (some .int))) := ia_gV zmL_41 ziX1_again zsX1_again znX1 zkX1_again
theorem zgL_45 : GoodIn tb (wsV RL 45 RX1 yX1_time (ia_ws yX1_time cX1_time 3 (some .int))) := ia_gV zmL_45 ziX1_time zsX1_time znX1 zkX1_time
theorem zgL_49 : GoodIn tb (wsV RL 49 RX1 yX1_of (ia_ws yX1_of cX1_of 3 (some .int))) := ia_gV zmL_49 ziX1_of zsX1_of znX1 zkX1_of
theorem zgL_53 : GoodIn tb (wsV RL 53 RX1 yX1_stage (ia_ws yX1_stage cX1_stage 3 (some .int))) := ia_gV zmL_53 ziX1_stage zsX1_stage znX1 zkX1_stage
theorem zgL_57 : GoodIn tb (wsV RL 57 RX1 yX1_many (ia_ws yX1_many cX1_many 3 (some .int))) := ia_gV zmL_57 ziX1_many zsX1_many znX1 zkX1_many
theorem zgL_62 : GoodIn tb (wsV RL 62 RX1 yX1_look (ia_ws yX1_look cX1_look 2 (some .int))) := ia_gV zmL_62 ziX1_look zsX1_look znX1 zkX1_look
