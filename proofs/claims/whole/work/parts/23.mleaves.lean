section ZT
variable {p : Program} {l : Launch} {e : Env} {R : Room} {s : State} {m : MethodId} {args : Array Value} {below : List Frame} {meth : Method} {c : Code} {H : Heap} {locs : List Loc} {cells slots : Nat} {Q : State → Prop} {pc : Nat} {ls : Array Slot} {rest : List Value}
theorem zk_topn {a : Nat} (k : ∀ x : Nat, x = a → W p l e R s m args below meth c H locs cells slots Q (F0 m pc ls (.int (nI x) :: rest))) : W p l e R s m args below meth c H locs cells slots Q (F0 m pc ls (.int (nI a) :: rest)) := k a rfl
end ZT
theorem zm_B_clr {g : Nat → Nat → Nat} (h : zm_B g) (r : Nat) : zm_B (zm_clr g r) := by
  induction r with
  | zero => exact h
  | succ r ih => exact zm_B_upw ih (by omega)
set_option maxHeartbeats 4000000 in
set_option maxRecDepth 100000 in
/-- the reference: isRegister -/
theorem zmc_reg (l : Launch) (x : Int32)  : ia_T l yX1_isRegister cX1_isRegister 1 .boolean 0 [.int x] (nI (zs_reg x.toInt)) := by
  refine ia_Tof (by decide) (Nat.le_of_ble_eq_true rfl) (fun p e s m args below meth c ls hx hb hr hlk hl => ?_)
  have hl : lv_has ls 1 [(0, .int x)] := hl
  refine lv_iload_n hx hb dX1_isRegister_0 rfl (lv_at hl 0 rfl) ?_
  refine zi_iflt (tgt := 14) hx hb dX1_isRegister_1 (by decide) (fun c_1 => ?_) (fun c_1 => ?_)
  · refine lv_iconst (v := nI 0) hx hb dX1_isRegister_14 (by decide) ?_
    exact ia_zret hx hb hr hlk (by omega) (congrArg nI (show 0 = zs_reg x.toInt from by unfold zs_reg; (repeat' split) <;> omega)) dX1_isRegister_15
  · refine lv_iload_n hx hb dX1_isRegister_4 rfl (lv_at hl 0 rfl) ?_
    refine lv_bipush (v := nI 32) hx hb dX1_isRegister_5 (by decide) ?_
    have t_3 := nI_toInt (n := 32) (by omega)
    refine zi_cge (tgt := 14) hx hb dX1_isRegister_7 (by decide) (fun c_2 => ?_) (fun c_2 => ?_)
    · refine lv_iconst (v := nI 0) hx hb dX1_isRegister_14 (by decide) ?_
      exact ia_zret hx hb hr hlk (by omega) (congrArg nI (show 0 = zs_reg x.toInt from by unfold zs_reg; (repeat' split) <;> omega)) dX1_isRegister_15
    · refine lv_iconst (v := nI 1) hx hb dX1_isRegister_10 (by decide) ?_
      refine lv_goto (tgt := 15) hx hb dX1_isRegister_11 (by decide) ?_
      exact ia_zret hx hb hr hlk (by omega) (congrArg nI (show 1 = zs_reg x.toInt from by unfold zs_reg; (repeat' split) <;> omega)) dX1_isRegister_15
set_option maxHeartbeats 4000000 in
set_option maxRecDepth 100000 in
/-- the reference: later -/
theorem zmc_later (l : Launch) (a : Nat) (b : Nat) (ha : a < 2 ^ 31) (hb0 : b < 2 ^ 31) : ia_T l yX1_later cX1_later 2 .int 0 [.int (nI a), .int (nI b)] (nI (max a b)) := by
  refine ia_Tof (by decide) (Nat.le_of_ble_eq_true rfl) (fun p e s m args below meth c ls hx hb hr hlk hl => ?_)
  have hl : lv_has ls 2 [(0, .int (nI a)), (1, .int (nI b))] := hl
  refine lv_iload_n hx hb dX1_later_0 rfl (lv_at hl 0 rfl) ?_
  refine lv_iload_n hx hb dX1_later_1 rfl (lv_at hl 1 rfl) ?_
  refine zk_cle (tgt := 9) hx hb dX1_later_2 (by decide) (by omega) (by omega) (fun c_1 => ?_) (fun c_1 => ?_)
  · refine lv_iload_n hx hb dX1_later_9 rfl (lv_at hl 1 rfl) ?_
    exact ia_iret hx hb hr hlk (congrArg nI (show b = max a b from by omega)) dX1_later_10
  · refine lv_iload_n hx hb dX1_later_5 rfl (lv_at hl 0 rfl) ?_
    refine lv_goto (tgt := 10) hx hb dX1_later_6 (by decide) ?_
    exact ia_iret hx hb hr hlk (congrArg nI (show a = max a b from by omega)) dX1_later_10
set_option maxHeartbeats 4000000 in
set_option maxRecDepth 100000 in
/-- the reference: delay -/
theorem zmc_delay (l : Launch) (k : Nat) (hk : k < 2 ^ 31) : ia_T l yX1_delay cX1_delay 1 .int 0 [.int (nI k)] (nI (zs_delay k)) := by
  refine ia_Tof (by decide) (Nat.le_of_ble_eq_true rfl) (fun p e s m args below meth c ls hx hb hr hlk hl => ?_)
  have hl : lv_has ls 1 [(0, .int (nI k))] := hl
  refine lv_iload_n hx hb dX1_delay_0 rfl (lv_at hl 0 rfl) ?_
  refine lv_iconst (v := nI 1) hx hb dX1_delay_1 (by decide) ?_
  refine zk_cne (tgt := 9) hx hb dX1_delay_2 (by decide) (by omega) (by omega) (fun c_1 => ?_) (fun c_1 => ?_)
  · refine lv_iload_n hx hb dX1_delay_9 rfl (lv_at hl 0 rfl) ?_
    refine lv_iconst (v := nI 3) hx hb dX1_delay_10 (by decide) ?_
    refine zk_cne (tgt := 18) hx hb dX1_delay_11 (by decide) (by omega) (by omega) (fun c_2 => ?_) (fun c_2 => ?_)
    · refine lv_iload_n hx hb dX1_delay_18 rfl (lv_at hl 0 rfl) ?_
      refine lv_iconst (v := nI 4) hx hb dX1_delay_19 (by decide) ?_
      refine zk_cne (tgt := 28) hx hb dX1_delay_20 (by decide) (by omega) (by omega) (fun c_3 => ?_) (fun c_3 => ?_)
      · refine lv_iconst (v := nI 1) hx hb dX1_delay_28 (by decide) ?_
        exact ia_iret hx hb hr hlk (congrArg nI (show 1 = zs_delay k from by unfold zs_delay; (repeat' split) <;> omega)) dX1_delay_29
      · refine lv_bipush (v := nI 18) hx hb dX1_delay_23 (by decide) ?_
        refine lv_goto (tgt := 29) hx hb dX1_delay_25 (by decide) ?_
        exact ia_iret hx hb hr hlk (congrArg nI (show 18 = zs_delay k from by unfold zs_delay; (repeat' split) <;> omega)) dX1_delay_29
    · refine lv_iconst (v := nI 3) hx hb dX1_delay_14 (by decide) ?_
      refine lv_goto (tgt := 29) hx hb dX1_delay_15 (by decide) ?_
      exact ia_iret hx hb hr hlk (congrArg nI (show 3 = zs_delay k from by unfold zs_delay; (repeat' split) <;> omega)) dX1_delay_29
  · refine lv_iconst (v := nI 2) hx hb dX1_delay_5 (by decide) ?_
    refine lv_goto (tgt := 29) hx hb dX1_delay_6 (by decide) ?_
    exact ia_iret hx hb hr hlk (congrArg nI (show 2 = zs_delay k from by unfold zs_delay; (repeat' split) <;> omega)) dX1_delay_29
set_option maxHeartbeats 4000000 in
set_option maxRecDepth 100000 in
/-- the reference: isMemory -/
theorem zmc_mem (l : Launch) (k : Nat) (hk : k < 2 ^ 31) : ia_T l yX1_isMemory cX1_isMemory 1 .boolean 0 [.int (nI k)] (nI (zs_mem k)) := by
  refine ia_Tof (by decide) (Nat.le_of_ble_eq_true rfl) (fun p e s m args below meth c ls hx hb hr hlk hl => ?_)
  have hl : lv_has ls 1 [(0, .int (nI k))] := hl
  refine lv_iload_n hx hb dX1_isMemory_0 rfl (lv_at hl 0 rfl) ?_
  refine lv_iconst (v := nI 1) hx hb dX1_isMemory_1 (by decide) ?_
  refine zk_ceq (tgt := 10) hx hb dX1_isMemory_2 (by decide) (by omega) (by omega) (fun c_1 => ?_) (fun c_1 => ?_)
  · refine lv_iconst (v := nI 1) hx hb dX1_isMemory_10 (by decide) ?_
    refine lv_goto (tgt := 15) hx hb dX1_isMemory_11 (by decide) ?_
    exact ia_zret hx hb hr hlk (by omega) (congrArg nI (show 1 = zs_mem k from by unfold zs_mem; (repeat' split) <;> omega)) dX1_isMemory_15
  · refine lv_iload_n hx hb dX1_isMemory_5 rfl (lv_at hl 0 rfl) ?_
    refine lv_iconst (v := nI 2) hx hb dX1_isMemory_6 (by decide) ?_
    refine zk_cne (tgt := 14) hx hb dX1_isMemory_7 (by decide) (by omega) (by omega) (fun c_2 => ?_) (fun c_2 => ?_)
    · refine lv_iconst (v := nI 0) hx hb dX1_isMemory_14 (by decide) ?_
      exact ia_zret hx hb hr hlk (by omega) (congrArg nI (show 0 = zs_mem k from by unfold zs_mem; (repeat' split) <;> omega)) dX1_isMemory_15
    · refine lv_iconst (v := nI 1) hx hb dX1_isMemory_10 (by decide) ?_
      refine lv_goto (tgt := 15) hx hb dX1_isMemory_11 (by decide) ?_
      exact ia_zret hx hb hr hlk (by omega) (congrArg nI (show 1 = zs_mem k from by unfold zs_mem; (repeat' split) <;> omega)) dX1_isMemory_15
set_option maxHeartbeats 4000000 in
set_option maxRecDepth 100000 in
/-- the reference: isSlow -/
theorem zmc_mul (l : Launch) (k : Nat) (hk : k < 2 ^ 31) : ia_T l yX1_isSlow cX1_isSlow 1 .boolean 0 [.int (nI k)] (nI (zs_mul k)) := by
  refine ia_Tof (by decide) (Nat.le_of_ble_eq_true rfl) (fun p e s m args below meth c ls hx hb hr hlk hl => ?_)
  have hl : lv_has ls 1 [(0, .int (nI k))] := hl
  refine lv_iload_n hx hb dX1_isSlow_0 rfl (lv_at hl 0 rfl) ?_
  refine lv_iconst (v := nI 3) hx hb dX1_isSlow_1 (by decide) ?_
  refine zk_ceq (tgt := 10) hx hb dX1_isSlow_2 (by decide) (by omega) (by omega) (fun c_1 => ?_) (fun c_1 => ?_)
  · refine lv_iconst (v := nI 1) hx hb dX1_isSlow_10 (by decide) ?_
    refine lv_goto (tgt := 15) hx hb dX1_isSlow_11 (by decide) ?_
    exact ia_zret hx hb hr hlk (by omega) (congrArg nI (show 1 = zs_mul k from by unfold zs_mul; (repeat' split) <;> omega)) dX1_isSlow_15
  · refine lv_iload_n hx hb dX1_isSlow_5 rfl (lv_at hl 0 rfl) ?_
    refine lv_iconst (v := nI 4) hx hb dX1_isSlow_6 (by decide) ?_
    refine zk_cne (tgt := 14) hx hb dX1_isSlow_7 (by decide) (by omega) (by omega) (fun c_2 => ?_) (fun c_2 => ?_)
    · refine lv_iconst (v := nI 0) hx hb dX1_isSlow_14 (by decide) ?_
      exact ia_zret hx hb hr hlk (by omega) (congrArg nI (show 0 = zs_mul k from by unfold zs_mul; (repeat' split) <;> omega)) dX1_isSlow_15
    · refine lv_iconst (v := nI 1) hx hb dX1_isSlow_10 (by decide) ?_
      refine lv_goto (tgt := 15) hx hb dX1_isSlow_11 (by decide) ?_
      exact ia_zret hx hb hr hlk (by omega) (congrArg nI (show 1 = zs_mul k from by unfold zs_mul; (repeat' split) <;> omega)) dX1_isSlow_15
set_option maxHeartbeats 4000000 in
set_option maxRecDepth 100000 in
/-- the reference: pairs -/
theorem zmc_pairs (l : Launch) (E : ia_E) (n : Nat) (g : Nat → Nat → Nat) (hg : zm_B g) (i : Nat) (h0 : 0 < i) (hi : i < 400) : im_R l yX1_pairs cX1_pairs 5 .boolean 1 E n g [.int (nI i)] (nI (zs_pair g i)) := by
  refine im_Rof (by decide) rfl (Nat.le_of_ble_eq_true rfl) (fun p e s m args below meth c ls hx hb hr hml hown ht hlk hO hl => ?_)
  have hl : lv_has ls 5 [(0, .ref (ia_h E 0)), (1, .int (nI i))] := hl
  refine lv_aload_n hx hb dX1_pairs_0 rfl (lv_at hl 0 rfl) ?_
  refine im_get 2 (v := .ref (ia_h E 2)) hx hb ht hown hO (by decide) rfl zlX1_7 rfl dX1_pairs_1 ?_
  refine lv_iload_n hx hb dX1_pairs_4 rfl (lv_at hl 1 rfl) ?_
  refine lv_iconst (v := nI 1) hx hb dX1_pairs_5 (by decide) ?_
  refine zk_sub hx hb (by omega) dX1_pairs_6 ?_
  refine im_ild 1 2 1 (i - 1) hx hb hO rfl (by omega) dX1_pairs_7 ?_
  have b_1 := hg.1 1 (i - 1) (by decide)
  refine lv_istore_n (lv' := [(2, .int (nI (g 1 (i - 1)))), (0, .ref (ia_h E 0)), (1, .int (nI i))]) hx hb dX1_pairs_8 rfl hl (by decide) rfl (fun ls hl => ?_)
  refine lv_aload_n hx hb dX1_pairs_9 rfl (lv_at hl 1 rfl) ?_
  refine im_get 2 (v := .ref (ia_h E 2)) hx hb ht hown hO (by decide) rfl zlX1_7 rfl dX1_pairs_10 ?_
  refine lv_iload_n hx hb dX1_pairs_13 rfl (lv_at hl 2 rfl) ?_
  refine im_ild 1 2 1 i hx hb hO rfl (by omega) dX1_pairs_14 ?_
  have b_2 := hg.1 1 i (by decide)
  refine lv_istore_n (lv' := [(3, .int (nI (g 1 i))), (2, .int (nI (g 1 (i - 1)))), (0, .ref (ia_h E 0)), (1, .int (nI i))]) hx hb dX1_pairs_15 rfl hl (by decide) rfl (fun ls hl => ?_)
  have p_6 := zb_reads g i (g 2 (i - 1))
  refine zk_cut (nL := 5) 66 (fun v_3 => v_3 = zs_reads g i (g 2 (i - 1))) (fun v_3 => [(3, .int (nI (g 1 i))), (2, .int (nI (g 1 (i - 1)))), (0, .ref (ia_h E 0)), (1, .int (nI i))]) (fun v_3 => [.int (nI v_3)]) (fun v_3 ls e_4 hl => ?_) (fun J_5 => ?_)
  · have e_4 : v_3 = zs_reads g i (g 2 (i - 1)) := e_4
    have hl : lv_has ls 5 [(3, .int (nI (g 1 i))), (2, .int (nI (g 1 (i - 1)))), (0, .ref (ia_h E 0)), (1, .int (nI i))] := hl
    refine lv_istore (lv' := [(4, .int (nI v_3)), (3, .int (nI (g 1 i))), (2, .int (nI (g 1 (i - 1)))), (0, .ref (ia_h E 0)), (1, .int (nI i))]) hx hb dX1_pairs_66 hl (by decide) rfl (fun ls hl => ?_)
    refine lv_iload_n hx hb dX1_pairs_68 rfl (lv_at hl 2 rfl) ?_
    refine lv_bipush (v := nI 6) hx hb dX1_pairs_69 (by decide) ?_
    refine zk_ceq (tgt := 122) hx hb dX1_pairs_71 (by decide) (by omega) (by omega) (fun c_7 => ?_) (fun c_7 => ?_)
    · refine lv_iconst (v := nI 0) hx hb dX1_pairs_122 (by decide) ?_
      exact ia_zret hx hb hr hlk (by omega) (congrArg nI (show 0 = zs_pair g i from by unfold zs_pair; (repeat' split) <;> omega)) dX1_pairs_123
    · refine lv_iload_n hx hb dX1_pairs_74 rfl (lv_at hl 1 rfl) ?_
      refine lv_bipush (v := nI 6) hx hb dX1_pairs_75 (by decide) ?_
      refine zk_ceq (tgt := 122) hx hb dX1_pairs_77 (by decide) (by omega) (by omega) (fun c_8 => ?_) (fun c_8 => ?_)
      · refine lv_iconst (v := nI 0) hx hb dX1_pairs_122 (by decide) ?_
        exact ia_zret hx hb hr hlk (by omega) (congrArg nI (show 0 = zs_pair g i from by unfold zs_pair; (repeat' split) <;> omega)) dX1_pairs_123
      · refine lv_iload_n hx hb dX1_pairs_80 rfl (lv_at hl 2 rfl) ?_
        refine lv_iconst (v := nI 5) hx hb dX1_pairs_81 (by decide) ?_
        refine zk_ceq (tgt := 122) hx hb dX1_pairs_82 (by decide) (by omega) (by omega) (fun c_9 => ?_) (fun c_9 => ?_)
        · refine lv_iconst (v := nI 0) hx hb dX1_pairs_122 (by decide) ?_
          exact ia_zret hx hb hr hlk (by omega) (congrArg nI (show 0 = zs_pair g i from by unfold zs_pair; (repeat' split) <;> omega)) dX1_pairs_123
        · refine lv_iload_n hx hb dX1_pairs_85 rfl (lv_at hl 2 rfl) ?_
          refine im_callS (rest := []) hx hb hml hl.1 hown ht (zmc_mem l (g 1 (i - 1)) (by omega)) zgX1_74 zyX1_isMemory rfl ⟨by decide, by decide⟩ ⟨Nat.zero_le _, Nat.zero_le _⟩ (Nat.le_of_ble_eq_true rfl) rfl dX1_pairs_86 ?_
          have b_10 := zb_mem (g 1 (i - 1))
          refine zk_ifeq (tgt := 99) hx hb dX1_pairs_89 (by decide) (by omega) (fun c_11 => ?_) (fun c_11 => ?_)
          · refine lv_iload_n hx hb dX1_pairs_99 rfl (lv_at hl 2 rfl) ?_
            refine im_callS (rest := []) hx hb hml hl.1 hown ht (zmc_mul l (g 1 (i - 1)) (by omega)) zgX1_77 zyX1_isSlow rfl ⟨by decide, by decide⟩ ⟨Nat.zero_le _, Nat.zero_le _⟩ (Nat.le_of_ble_eq_true rfl) rfl dX1_pairs_100 ?_
            have b_12 := zb_mul (g 1 (i - 1))
            refine zk_ifeq (tgt := 113) hx hb dX1_pairs_103 (by decide) (by omega) (fun c_13 => ?_) (fun c_13 => ?_)
            · refine lv_iload hx hb dX1_pairs_113 (lv_at hl 0 rfl) ?_
              refine zk_ifne (tgt := 122) hx hb dX1_pairs_115 (by decide) (by omega) (fun c_14 => ?_) (fun c_14 => ?_)
              · refine lv_iconst (v := nI 0) hx hb dX1_pairs_122 (by decide) ?_
                exact ia_zret hx hb hr hlk (by omega) (congrArg nI (show 0 = zs_pair g i from by unfold zs_pair; (repeat' split) <;> omega)) dX1_pairs_123
              · refine lv_iconst (v := nI 1) hx hb dX1_pairs_118 (by decide) ?_
                refine lv_goto (tgt := 123) hx hb dX1_pairs_119 (by decide) ?_
                exact ia_zret hx hb hr hlk (by omega) (congrArg nI (show 1 = zs_pair g i from by unfold zs_pair; (repeat' split) <;> omega)) dX1_pairs_123
            · refine lv_iload_n hx hb dX1_pairs_106 rfl (lv_at hl 1 rfl) ?_
              refine im_callS (rest := []) hx hb hml hl.1 hown ht (zmc_mul l (g 1 i) (by omega)) zgX1_77 zyX1_isSlow rfl ⟨by decide, by decide⟩ ⟨Nat.zero_le _, Nat.zero_le _⟩ (Nat.le_of_ble_eq_true rfl) rfl dX1_pairs_107 ?_
              have b_15 := zb_mul (g 1 i)
              refine zk_ifne (tgt := 122) hx hb dX1_pairs_110 (by decide) (by omega) (fun c_16 => ?_) (fun c_16 => ?_)
              · refine lv_iconst (v := nI 0) hx hb dX1_pairs_122 (by decide) ?_
                exact ia_zret hx hb hr hlk (by omega) (congrArg nI (show 0 = zs_pair g i from by unfold zs_pair; (repeat' split) <;> omega)) dX1_pairs_123
              · refine lv_iload hx hb dX1_pairs_113 (lv_at hl 0 rfl) ?_
                refine zk_ifne (tgt := 122) hx hb dX1_pairs_115 (by decide) (by omega) (fun c_17 => ?_) (fun c_17 => ?_)
                · refine lv_iconst (v := nI 0) hx hb dX1_pairs_122 (by decide) ?_
                  exact ia_zret hx hb hr hlk (by omega) (congrArg nI (show 0 = zs_pair g i from by unfold zs_pair; (repeat' split) <;> omega)) dX1_pairs_123
                · refine lv_iconst (v := nI 1) hx hb dX1_pairs_118 (by decide) ?_
                  refine lv_goto (tgt := 123) hx hb dX1_pairs_119 (by decide) ?_
                  exact ia_zret hx hb hr hlk (by omega) (congrArg nI (show 1 = zs_pair g i from by unfold zs_pair; (repeat' split) <;> omega)) dX1_pairs_123
          · refine lv_iload_n hx hb dX1_pairs_92 rfl (lv_at hl 1 rfl) ?_
            refine im_callS (rest := []) hx hb hml hl.1 hown ht (zmc_mem l (g 1 i) (by omega)) zgX1_74 zyX1_isMemory rfl ⟨by decide, by decide⟩ ⟨Nat.zero_le _, Nat.zero_le _⟩ (Nat.le_of_ble_eq_true rfl) rfl dX1_pairs_93 ?_
            have b_18 := zb_mem (g 1 i)
            refine zk_ifne (tgt := 122) hx hb dX1_pairs_96 (by decide) (by omega) (fun c_19 => ?_) (fun c_19 => ?_)
            · refine lv_iconst (v := nI 0) hx hb dX1_pairs_122 (by decide) ?_
              exact ia_zret hx hb hr hlk (by omega) (congrArg nI (show 0 = zs_pair g i from by unfold zs_pair; (repeat' split) <;> omega)) dX1_pairs_123
            · refine lv_iload_n hx hb dX1_pairs_99 rfl (lv_at hl 2 rfl) ?_
              refine im_callS (rest := []) hx hb hml hl.1 hown ht (zmc_mul l (g 1 (i - 1)) (by omega)) zgX1_77 zyX1_isSlow rfl ⟨by decide, by decide⟩ ⟨Nat.zero_le _, Nat.zero_le _⟩ (Nat.le_of_ble_eq_true rfl) rfl dX1_pairs_100 ?_
              have b_20 := zb_mul (g 1 (i - 1))
              refine zk_ifeq (tgt := 113) hx hb dX1_pairs_103 (by decide) (by omega) (fun c_21 => ?_) (fun c_21 => ?_)
              · refine lv_iload hx hb dX1_pairs_113 (lv_at hl 0 rfl) ?_
                refine zk_ifne (tgt := 122) hx hb dX1_pairs_115 (by decide) (by omega) (fun c_22 => ?_) (fun c_22 => ?_)
                · refine lv_iconst (v := nI 0) hx hb dX1_pairs_122 (by decide) ?_
                  exact ia_zret hx hb hr hlk (by omega) (congrArg nI (show 0 = zs_pair g i from by unfold zs_pair; (repeat' split) <;> omega)) dX1_pairs_123
                · refine lv_iconst (v := nI 1) hx hb dX1_pairs_118 (by decide) ?_
                  refine lv_goto (tgt := 123) hx hb dX1_pairs_119 (by decide) ?_
                  exact ia_zret hx hb hr hlk (by omega) (congrArg nI (show 1 = zs_pair g i from by unfold zs_pair; (repeat' split) <;> omega)) dX1_pairs_123
              · refine lv_iload_n hx hb dX1_pairs_106 rfl (lv_at hl 1 rfl) ?_
                refine im_callS (rest := []) hx hb hml hl.1 hown ht (zmc_mul l (g 1 i) (by omega)) zgX1_77 zyX1_isSlow rfl ⟨by decide, by decide⟩ ⟨Nat.zero_le _, Nat.zero_le _⟩ (Nat.le_of_ble_eq_true rfl) rfl dX1_pairs_107 ?_
                have b_23 := zb_mul (g 1 i)
                refine zk_ifne (tgt := 122) hx hb dX1_pairs_110 (by decide) (by omega) (fun c_24 => ?_) (fun c_24 => ?_)
                · refine lv_iconst (v := nI 0) hx hb dX1_pairs_122 (by decide) ?_
                  exact ia_zret hx hb hr hlk (by omega) (congrArg nI (show 0 = zs_pair g i from by unfold zs_pair; (repeat' split) <;> omega)) dX1_pairs_123
                · refine lv_iload hx hb dX1_pairs_113 (lv_at hl 0 rfl) ?_
                  refine zk_ifne (tgt := 122) hx hb dX1_pairs_115 (by decide) (by omega) (fun c_25 => ?_) (fun c_25 => ?_)
                  · refine lv_iconst (v := nI 0) hx hb dX1_pairs_122 (by decide) ?_
                    exact ia_zret hx hb hr hlk (by omega) (congrArg nI (show 0 = zs_pair g i from by unfold zs_pair; (repeat' split) <;> omega)) dX1_pairs_123
                  · refine lv_iconst (v := nI 1) hx hb dX1_pairs_118 (by decide) ?_
                    refine lv_goto (tgt := 123) hx hb dX1_pairs_119 (by decide) ?_
                    exact ia_zret hx hb hr hlk (by omega) (congrArg nI (show 1 = zs_pair g i from by unfold zs_pair; (repeat' split) <;> omega)) dX1_pairs_123
  · refine lv_aload_n hx hb dX1_pairs_16 rfl (lv_at hl 2 rfl) ?_
    refine im_get 3 (v := .ref (ia_h E 3)) hx hb ht hown hO (by decide) rfl zlX1_13 rfl dX1_pairs_17 ?_
    refine lv_iload_n hx hb dX1_pairs_20 rfl (lv_at hl 3 rfl) ?_
    refine lv_iconst (v := nI 1) hx hb dX1_pairs_21 (by decide) ?_
    refine zk_sub hx hb (by omega) dX1_pairs_22 ?_
    refine im_ild 2 3 2 (i - 1) hx hb hO rfl (by omega) dX1_pairs_23 ?_
    have b_26 := hg.1 2 (i - 1) (by decide)
    refine zk_ifle (tgt := 65) hx hb dX1_pairs_24 (by decide) (by omega) (fun c_27 => ?_) (fun c_27 => ?_)
    · refine lv_iconst (v := nI 0) hx hb dX1_pairs_65 (by decide) ?_
      exact J_5 0 ls (show 0 = zs_reads g i (g 2 (i - 1)) from by unfold zs_reads; (repeat' split) <;> omega) (lv_sub hl [0, 1, 2, 3] rfl)
    · refine lv_aload_n hx hb dX1_pairs_27 rfl (lv_at hl 2 rfl) ?_
      refine im_get 4 (v := .ref (ia_h E 4)) hx hb ht hown hO (by decide) rfl zlX1_16 rfl dX1_pairs_28 ?_
      refine lv_iload_n hx hb dX1_pairs_31 rfl (lv_at hl 3 rfl) ?_
      refine im_ild 3 4 3 i hx hb hO rfl (by omega) dX1_pairs_32 ?_
      have b_28 := hg.1 3 i (by decide)
      refine lv_aload_n hx hb dX1_pairs_33 rfl (lv_at hl 2 rfl) ?_
      refine im_get 3 (v := .ref (ia_h E 3)) hx hb ht hown hO (by decide) rfl zlX1_13 rfl dX1_pairs_34 ?_
      refine lv_iload_n hx hb dX1_pairs_37 rfl (lv_at hl 3 rfl) ?_
      refine lv_iconst (v := nI 1) hx hb dX1_pairs_38 (by decide) ?_
      refine zk_sub hx hb (by omega) dX1_pairs_39 ?_
      refine im_ild 2 3 2 (i - 1) hx hb hO rfl (by omega) dX1_pairs_40 ?_
      have b_29 := hg.1 2 (i - 1) (by decide)
      refine zk_ceq (tgt := 61) hx hb dX1_pairs_41 (by decide) (by omega) (by omega) (fun c_30 => ?_) (fun c_30 => ?_)
      · refine lv_iconst (v := nI 1) hx hb dX1_pairs_61 (by decide) ?_
        refine lv_goto (tgt := 66) hx hb dX1_pairs_62 (by decide) ?_
        exact J_5 1 ls (show 1 = zs_reads g i (g 2 (i - 1)) from by unfold zs_reads; (repeat' split) <;> omega) (lv_sub hl [0, 1, 2, 3] rfl)
      · refine lv_aload_n hx hb dX1_pairs_44 rfl (lv_at hl 2 rfl) ?_
        refine im_get 5 (v := .ref (ia_h E 5)) hx hb ht hown hO (by decide) rfl zlX1_19 rfl dX1_pairs_45 ?_
        refine lv_iload_n hx hb dX1_pairs_48 rfl (lv_at hl 3 rfl) ?_
        refine im_ild 4 5 4 i hx hb hO rfl (by omega) dX1_pairs_49 ?_
        have b_31 := hg.1 4 i (by decide)
        refine lv_aload_n hx hb dX1_pairs_50 rfl (lv_at hl 2 rfl) ?_
        refine im_get 3 (v := .ref (ia_h E 3)) hx hb ht hown hO (by decide) rfl zlX1_13 rfl dX1_pairs_51 ?_
        refine lv_iload_n hx hb dX1_pairs_54 rfl (lv_at hl 3 rfl) ?_
        refine lv_iconst (v := nI 1) hx hb dX1_pairs_55 (by decide) ?_
        refine zk_sub hx hb (by omega) dX1_pairs_56 ?_
        refine im_ild 2 3 2 (i - 1) hx hb hO rfl (by omega) dX1_pairs_57 ?_
        have b_32 := hg.1 2 (i - 1) (by decide)
        refine zk_cne (tgt := 65) hx hb dX1_pairs_58 (by decide) (by omega) (by omega) (fun c_33 => ?_) (fun c_33 => ?_)
        · refine lv_iconst (v := nI 0) hx hb dX1_pairs_65 (by decide) ?_
          exact J_5 0 ls (show 0 = zs_reads g i (g 2 (i - 1)) from by unfold zs_reads; (repeat' split) <;> omega) (lv_sub hl [0, 1, 2, 3] rfl)
        · refine lv_iconst (v := nI 1) hx hb dX1_pairs_61 (by decide) ?_
          refine lv_goto (tgt := 66) hx hb dX1_pairs_62 (by decide) ?_
          exact J_5 1 ls (show 1 = zs_reads g i (g 2 (i - 1)) from by unfold zs_reads; (repeat' split) <;> omega) (lv_sub hl [0, 1, 2, 3] rfl)
set_option maxHeartbeats 4000000 in
set_option maxRecDepth 100000 in
/-- the reference: joins -/
theorem zmc_joins (l : Launch) (E : ia_E) (n : Nat) (g : Nat → Nat → Nat) (hg : zm_B g) (i : Nat) (hi : i < 400) : im_R l yX1_joins cX1_joins 2 .boolean 0 E n g [.int (nI i)] (nI (zm_joins g i)) := by
  refine im_Rof (by decide) rfl (Nat.le_of_ble_eq_true rfl) (fun p e s m args below meth c ls hx hb hr hml hown ht hlk hO hl => ?_)
  have hl : lv_has ls 2 [(0, .ref (ia_h E 0)), (1, .int (nI i))] := hl
  refine lv_iload_n hx hb dX1_joins_0 rfl (lv_at hl 1 rfl) ?_
  refine zk_ifle (tgt := 69) hx hb dX1_joins_1 (by decide) (by omega) (fun c_1 => ?_) (fun c_1 => ?_)
  · refine lv_iconst (v := nI 0) hx hb dX1_joins_69 (by decide) ?_
    exact ia_zret hx hb hr hlk (by omega) (congrArg nI (show 0 = zm_joins g i from by unfold zm_joins; (repeat' split) <;> omega)) dX1_joins_70
  · refine lv_aload_n hx hb dX1_joins_4 rfl (lv_at hl 0 rfl) ?_
    refine im_get 16 (v := .ref (ia_h E 16)) hx hb ht hown hO (by decide) rfl zlX1_53 rfl dX1_joins_5 ?_
    refine lv_iload_n hx hb dX1_joins_8 rfl (lv_at hl 1 rfl) ?_
    refine lv_iconst (v := nI 1) hx hb dX1_joins_9 (by decide) ?_
    refine zk_sub hx hb (by omega) dX1_joins_10 ?_
    refine im_zld 15 16 10 (i - 1) hx hb hO rfl (by omega) dX1_joins_11 ?_
    have b_2 := hg.1 10 (i - 1) (by decide)
    refine zk_ifeq (tgt := 69) hx hb dX1_joins_12 (by decide) (by omega) (fun c_3 => ?_) (fun c_3 => ?_)
    · refine lv_iconst (v := nI 0) hx hb dX1_joins_69 (by decide) ?_
      exact ia_zret hx hb hr hlk (by omega) (congrArg nI (show 0 = zm_joins g i from by unfold zm_joins; (repeat' split) <;> omega)) dX1_joins_70
    · refine lv_aload_n hx hb dX1_joins_15 rfl (lv_at hl 0 rfl) ?_
      refine im_get 12 (v := .ref (ia_h E 12)) hx hb ht hown hO (by decide) rfl zlX1_41 rfl dX1_joins_16 ?_
      refine lv_iload_n hx hb dX1_joins_19 rfl (lv_at hl 1 rfl) ?_
      refine im_zld 11 12 15 i hx hb hO rfl (by omega) dX1_joins_20 ?_
      have b_4 := hg.1 15 i (by decide)
      refine zk_ifeq (tgt := 69) hx hb dX1_joins_21 (by decide) (by omega) (fun c_5 => ?_) (fun c_5 => ?_)
      · refine lv_iconst (v := nI 0) hx hb dX1_joins_69 (by decide) ?_
        exact ia_zret hx hb hr hlk (by omega) (congrArg nI (show 0 = zm_joins g i from by unfold zm_joins; (repeat' split) <;> omega)) dX1_joins_70
      · refine lv_aload_n hx hb dX1_joins_24 rfl (lv_at hl 0 rfl) ?_
        refine im_get 11 (v := .ref (ia_h E 11)) hx hb ht hown hO (by decide) rfl zlX1_38 rfl dX1_joins_25 ?_
        refine lv_iload_n hx hb dX1_joins_28 rfl (lv_at hl 1 rfl) ?_
        refine im_zld 10 11 14 i hx hb hO rfl (by omega) dX1_joins_29 ?_
        have b_6 := hg.1 14 i (by decide)
        refine zk_ifne (tgt := 69) hx hb dX1_joins_30 (by decide) (by omega) (fun c_7 => ?_) (fun c_7 => ?_)
        · refine lv_iconst (v := nI 0) hx hb dX1_joins_69 (by decide) ?_
          exact ia_zret hx hb hr hlk (by omega) (congrArg nI (show 0 = zm_joins g i from by unfold zm_joins; (repeat' split) <;> omega)) dX1_joins_70
        · refine lv_aload_n hx hb dX1_joins_33 rfl (lv_at hl 0 rfl) ?_
          refine im_get 10 (v := .ref (ia_h E 10)) hx hb ht hown hO (by decide) rfl zlX1_35 rfl dX1_joins_34 ?_
          refine lv_iload_n hx hb dX1_joins_37 rfl (lv_at hl 1 rfl) ?_
          refine lv_iconst (v := nI 1) hx hb dX1_joins_38 (by decide) ?_
          refine zk_sub hx hb (by omega) dX1_joins_39 ?_
          refine im_zld 9 10 8 (i - 1) hx hb hO rfl (by omega) dX1_joins_40 ?_
          have b_8 := hg.1 8 (i - 1) (by decide)
          refine zk_ifeq (tgt := 65) hx hb dX1_joins_41 (by decide) (by omega) (fun c_9 => ?_) (fun c_9 => ?_)
          · refine lv_iconst (v := nI 1) hx hb dX1_joins_65 (by decide) ?_
            refine lv_goto (tgt := 70) hx hb dX1_joins_66 (by decide) ?_
            exact ia_zret hx hb hr hlk (by omega) (congrArg nI (show 1 = zm_joins g i from by unfold zm_joins; (repeat' split) <;> omega)) dX1_joins_70
          · refine lv_aload_n hx hb dX1_joins_44 rfl (lv_at hl 0 rfl) ?_
            refine im_get 6 (v := .ref (ia_h E 6)) hx hb ht hown hO (by decide) rfl zlX1_22 rfl dX1_joins_45 ?_
            refine zk_cut (nL := 2) 60 (fun v_10 => v_10 = i - 2) (fun v_10 => [(0, .ref (ia_h E 0)), (1, .int (nI i))]) (fun v_10 => [.int (nI v_10), .ref (ia_h E 6)]) (fun v_10 ls e_11 hl => ?_) (fun J_12 => ?_)
            · have e_11 : v_10 = i - 2 := e_11
              have hl : lv_has ls 2 [(0, .ref (ia_h E 0)), (1, .int (nI i))] := hl
              subst e_11
              refine im_ild 5 6 5 (i - 2) hx hb hO rfl (by omega) dX1_joins_60 ?_
              have b_13 := hg.1 5 (i - 2) (by decide)
              refine lv_iconst (v := nI 1) hx hb dX1_joins_61 (by decide) ?_
              refine zk_ceq (tgt := 69) hx hb dX1_joins_62 (by decide) (by omega) (by omega) (fun c_14 => ?_) (fun c_14 => ?_)
              · refine lv_iconst (v := nI 0) hx hb dX1_joins_69 (by decide) ?_
                exact ia_zret hx hb hr hlk (by omega) (congrArg nI (show 0 = zm_joins g i from by unfold zm_joins; (repeat' split) <;> omega)) dX1_joins_70
              · refine lv_iconst (v := nI 1) hx hb dX1_joins_65 (by decide) ?_
                refine lv_goto (tgt := 70) hx hb dX1_joins_66 (by decide) ?_
                exact ia_zret hx hb hr hlk (by omega) (congrArg nI (show 1 = zm_joins g i from by unfold zm_joins; (repeat' split) <;> omega)) dX1_joins_70
            · refine lv_iload_n hx hb dX1_joins_48 rfl (lv_at hl 1 rfl) ?_
              refine lv_iconst (v := nI 1) hx hb dX1_joins_49 (by decide) ?_
              refine zk_cle (tgt := 59) hx hb dX1_joins_50 (by decide) (by omega) (by omega) (fun c_15 => ?_) (fun c_15 => ?_)
              · refine lv_iconst (v := nI 0) hx hb dX1_joins_59 (by decide) ?_
                exact J_12 0 ls (show 0 = i - 2 from by omega) (lv_sub hl [0, 1] rfl)
              · refine lv_iload_n hx hb dX1_joins_53 rfl (lv_at hl 1 rfl) ?_
                refine lv_iconst (v := nI 2) hx hb dX1_joins_54 (by decide) ?_
                refine zk_sub hx hb (by omega) dX1_joins_55 ?_
                refine lv_goto (tgt := 60) hx hb dX1_joins_56 (by decide) ?_
                exact J_12 (i - 2) ls (show (i - 2) = i - 2 from by omega) (lv_sub hl [0, 1] rfl)
set_option maxHeartbeats 4000000 in
set_option maxRecDepth 100000 in
/-- the reference: ready -/
theorem zmc_ready (l : Launch) (E : ia_E) (n : Nat) (g : Nat → Nat → Nat) (hg : zm_B g) (r : Nat) (hr0 : r < 32) : im_R l yX1_ready cX1_ready 2 .int 1 E n g [.int (nI r)] (nI (zm_ready g r)) := by
  refine im_Rof (by decide) rfl (Nat.le_of_ble_eq_true rfl) (fun p e s m args below meth c ls hx hb hr hml hown ht hlk hO hl => ?_)
  have hl : lv_has ls 2 [(0, .ref (ia_h E 0)), (1, .int (nI r))] := hl
  refine lv_iload_n hx hb dX1_ready_0 rfl (lv_at hl 1 rfl) ?_
  refine zk_ifeq (tgt := 13) hx hb dX1_ready_1 (by decide) (by omega) (fun c_1 => ?_) (fun c_1 => ?_)
  · refine lv_iconst (v := nI 0) hx hb dX1_ready_13 (by decide) ?_
    refine lv_goto (tgt := 43) hx hb dX1_ready_14 (by decide) ?_
    exact ia_iret hx hb hr hlk (congrArg nI (show 0 = zm_ready g r from by unfold zm_ready; (repeat' split) <;> omega)) dX1_ready_43
  · refine lv_aload_n hx hb dX1_ready_4 rfl (lv_at hl 0 rfl) ?_
    refine im_get 17 (v := .ref (ia_h E 17)) hx hb ht hown hO (by decide) rfl zlX1_56 rfl dX1_ready_5 ?_
    refine lv_iload_n hx hb dX1_ready_8 rfl (lv_at hl 1 rfl) ?_
    refine im_wld r hx hb hO (by omega) dX1_ready_9 ?_
    have b_2 := hg.2 r
    have t_3 := zk_wi (w := g 16 r) (by omega)
    refine zi_ifge (tgt := 17) hx hb dX1_ready_10 (by decide) (fun c_4 => ?_) (fun c_4 => ?_)
    · refine lv_aload_n hx hb dX1_ready_17 rfl (lv_at hl 0 rfl) ?_
      refine im_get 14 (v := .ref (ia_h E 14)) hx hb ht hown hO (by decide) rfl zlX1_47 rfl dX1_ready_18 ?_
      refine lv_aload_n hx hb dX1_ready_21 rfl (lv_at hl 0 rfl) ?_
      refine im_get 17 (v := .ref (ia_h E 17)) hx hb ht hown hO (by decide) rfl zlX1_56 rfl dX1_ready_22 ?_
      refine lv_iload_n hx hb dX1_ready_25 rfl (lv_at hl 1 rfl) ?_
      refine im_wld r hx hb hO (by omega) dX1_ready_26 ?_
      have b_5 := hg.2 r
      have t_6 := zk_wi (w := g 16 r) (by omega)
      refine zk_top (y := (nI (g 16 r - 1))) (zk_wn (by omega)) ?_
      refine im_ild 13 14 12 (g 16 r - 1) hx hb hO rfl (by omega) dX1_ready_27 ?_
      have b_7 := hg.1 12 (g 16 r - 1) (by decide)
      refine lv_aload_n hx hb dX1_ready_28 rfl (lv_at hl 0 rfl) ?_
      refine im_get 2 (v := .ref (ia_h E 2)) hx hb ht hown hO (by decide) rfl zlX1_7 rfl dX1_ready_29 ?_
      refine lv_aload_n hx hb dX1_ready_32 rfl (lv_at hl 0 rfl) ?_
      refine im_get 17 (v := .ref (ia_h E 17)) hx hb ht hown hO (by decide) rfl zlX1_56 rfl dX1_ready_33 ?_
      refine lv_iload_n hx hb dX1_ready_36 rfl (lv_at hl 1 rfl) ?_
      refine im_wld r hx hb hO (by omega) dX1_ready_37 ?_
      have b_8 := hg.2 r
      have t_9 := zk_wi (w := g 16 r) (by omega)
      refine zk_top (y := (nI (g 16 r - 1))) (zk_wn (by omega)) ?_
      refine im_ild 1 2 1 (g 16 r - 1) hx hb hO rfl (by omega) dX1_ready_38 ?_
      have b_10 := hg.1 1 (g 16 r - 1) (by decide)
      refine im_callS (rest := [.int (nI (g 12 (g 16 r - 1)))]) hx hb hml hl.1 hown ht (zmc_delay l (g 1 (g 16 r - 1)) (by omega)) zgX1_87 zyX1_delay rfl ⟨by decide, by decide⟩ ⟨Nat.zero_le _, Nat.zero_le _⟩ (Nat.le_of_ble_eq_true rfl) rfl dX1_ready_39 ?_
      have b_11 := zb_delay (g 1 (g 16 r - 1))
      refine zk_add hx hb dX1_ready_42 ?_
      exact ia_iret hx hb hr hlk (congrArg nI (show (g 12 (g 16 r - 1)) + (zs_delay (g 1 (g 16 r - 1))) = zm_ready g r from by unfold zm_ready; (repeat' split) <;> omega)) dX1_ready_43
    · refine lv_iconst (v := nI 0) hx hb dX1_ready_13 (by decide) ?_
      refine lv_goto (tgt := 43) hx hb dX1_ready_14 (by decide) ?_
      exact ia_iret hx hb hr hlk (congrArg nI (show 0 = zm_ready g r from by unfold zm_ready; (repeat' split) <;> omega)) dX1_ready_43
set_option maxHeartbeats 4000000 in
set_option maxRecDepth 100000 in
/-- the reference: stageOf -/
theorem zmc_stage (l : Launch) (E : ia_E) (n : Nat) (g : Nat → Nat → Nat) (hg : zm_B g) (i : Nat) (y : Nat) (hi : i < 400) (hy0 : y < 2 ^ 31) : im_R l yX1_stageOf cX1_stageOf 3 .int 0 E n g [.int (nI i), .int (nI y)] (nI (zs_stage g i y)) := by
  refine im_Rof (by decide) rfl (Nat.le_of_ble_eq_true rfl) (fun p e s m args below meth c ls hx hb hr hml hown ht hlk hO hl => ?_)
  have hl : lv_has ls 3 [(0, .ref (ia_h E 0)), (1, .int (nI i)), (2, .int (nI y))] := hl
  refine lv_iload_n hx hb dX1_stageOf_0 rfl (lv_at hl 2 rfl) ?_
  refine lv_aload_n hx hb dX1_stageOf_1 rfl (lv_at hl 0 rfl) ?_
  refine im_get 13 (v := .ref (ia_h E 13)) hx hb ht hown hO (by decide) rfl zlX1_44 rfl dX1_stageOf_2 ?_
  refine lv_iload_n hx hb dX1_stageOf_5 rfl (lv_at hl 1 rfl) ?_
  refine im_ild 12 13 11 i hx hb hO rfl (by omega) dX1_stageOf_6 ?_
  have b_1 := hg.1 11 i (by decide)
  refine zk_cge (tgt := 14) hx hb dX1_stageOf_7 (by decide) (by omega) (by omega) (fun c_2 => ?_) (fun c_2 => ?_)
  · refine lv_iload_n hx hb dX1_stageOf_14 rfl (lv_at hl 2 rfl) ?_
    refine lv_aload_n hx hb dX1_stageOf_15 rfl (lv_at hl 0 rfl) ?_
    refine im_get 14 (v := .ref (ia_h E 14)) hx hb ht hown hO (by decide) rfl zlX1_47 rfl dX1_stageOf_16 ?_
    refine lv_iload_n hx hb dX1_stageOf_19 rfl (lv_at hl 1 rfl) ?_
    refine im_ild 13 14 12 i hx hb hO rfl (by omega) dX1_stageOf_20 ?_
    have b_3 := hg.1 12 i (by decide)
    refine zk_cge (tgt := 28) hx hb dX1_stageOf_21 (by decide) (by omega) (by omega) (fun c_4 => ?_) (fun c_4 => ?_)
    · refine lv_iload_n hx hb dX1_stageOf_28 rfl (lv_at hl 2 rfl) ?_
      refine lv_aload_n hx hb dX1_stageOf_29 rfl (lv_at hl 0 rfl) ?_
      refine im_get 15 (v := .ref (ia_h E 15)) hx hb ht hown hO (by decide) rfl zlX1_50 rfl dX1_stageOf_30 ?_
      refine lv_iload_n hx hb dX1_stageOf_33 rfl (lv_at hl 1 rfl) ?_
      refine im_ild 14 15 13 i hx hb hO rfl (by omega) dX1_stageOf_34 ?_
      have b_5 := hg.1 13 i (by decide)
      refine zk_cge (tgt := 42) hx hb dX1_stageOf_35 (by decide) (by omega) (by omega) (fun c_6 => ?_) (fun c_6 => ?_)
      · refine lv_iconst (v := nI 3) hx hb dX1_stageOf_42 (by decide) ?_
        exact ia_iret hx hb hr hlk (congrArg nI (show 3 = zs_stage g i y from by unfold zs_stage; (repeat' split) <;> omega)) dX1_stageOf_43
      · refine lv_iconst (v := nI 2) hx hb dX1_stageOf_38 (by decide) ?_
        refine lv_goto (tgt := 43) hx hb dX1_stageOf_39 (by decide) ?_
        exact ia_iret hx hb hr hlk (congrArg nI (show 2 = zs_stage g i y from by unfold zs_stage; (repeat' split) <;> omega)) dX1_stageOf_43
    · refine lv_iconst (v := nI 1) hx hb dX1_stageOf_24 (by decide) ?_
      refine lv_goto (tgt := 43) hx hb dX1_stageOf_25 (by decide) ?_
      exact ia_iret hx hb hr hlk (congrArg nI (show 1 = zs_stage g i y from by unfold zs_stage; (repeat' split) <;> omega)) dX1_stageOf_43
  · refine lv_iconst (v := nI 0) hx hb dX1_stageOf_10 (by decide) ?_
    refine lv_goto (tgt := 43) hx hb dX1_stageOf_11 (by decide) ?_
    exact ia_iret hx hb hr hlk (congrArg nI (show 0 = zs_stage g i y from by unfold zs_stage; (repeat' split) <;> omega)) dX1_stageOf_43
