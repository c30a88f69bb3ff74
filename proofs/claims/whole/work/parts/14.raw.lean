set_option maxHeartbeats 4000000 in
set_option maxRecDepth 100000 in
/-- isRegister -/
theorem zc_reg (l : Launch) (x : Int32) : ia_T l yX0_isRegister cX0_isRegister 1 .boolean 0 [.int x] (nI (zs_reg x.toInt)) := by
  refine ia_Tof (by decide) (Nat.le_of_ble_eq_true rfl) (fun p e s m args below meth c ls hx hb hr hlk hl => ?_)
  have hl : lv_has ls 1 [(0, .int x)] := hl
  refine lv_iload_n hx hb dX0_isRegister_0 rfl (lv_at hl 0 rfl) ?_
  refine zi_iflt (tgt := 14) hx hb dX0_isRegister_1 (by decide) (fun c_1 => ?_) (fun c_1 => ?_)
  · refine lv_iconst (v := nI 0) hx hb dX0_isRegister_14 (by decide) ?_
    exact ia_zret hx hb hr hlk (by omega) (congrArg nI (show 0 = zs_reg x.toInt from by unfold zs_reg; (repeat' split) <;> omega)) dX0_isRegister_15
  · refine lv_iload_n hx hb dX0_isRegister_4 rfl (lv_at hl 0 rfl) ?_
    refine lv_bipush (v := nI 31) hx hb dX0_isRegister_5 (by decide) ?_
    have t_3 := nI_toInt (n := 31) (by omega)
    refine zi_cgt (tgt := 14) hx hb dX0_isRegister_7 (by decide) (fun c_2 => ?_) (fun c_2 => ?_)
    · refine lv_iconst (v := nI 0) hx hb dX0_isRegister_14 (by decide) ?_
      exact ia_zret hx hb hr hlk (by omega) (congrArg nI (show 0 = zs_reg x.toInt from by unfold zs_reg; (repeat' split) <;> omega)) dX0_isRegister_15
    · refine lv_iconst (v := nI 1) hx hb dX0_isRegister_10 (by decide) ?_
      refine lv_goto (tgt := 15) hx hb dX0_isRegister_11 (by decide) ?_
      exact ia_zret hx hb hr hlk (by omega) (congrArg nI (show 1 = zs_reg x.toInt from by unfold zs_reg; (repeat' split) <;> omega)) dX0_isRegister_15
set_option maxHeartbeats 4000000 in
set_option maxRecDepth 100000 in
/-- isInstruction -/
theorem zc_ins (l : Launch) (E : ia_E) (n : Nat) (g : Nat → Nat → Nat) (x : Int32) (hn : n ≤ 400) : ia_R l yX0_isInstruction cX0_isInstruction 2 .boolean 0 E n g [.int x] (nI (zs_ins n x.toInt)) := by
  refine ia_Rof (by decide) rfl (Nat.le_of_ble_eq_true rfl) (fun p e s m args below meth c ls hx hb hr hml hown ht hlk hO hl => ?_)
  have hl : lv_has ls 2 [(0, .ref (ia_h E 0)), (1, .int x)] := hl
  refine lv_iload_n hx hb dX0_isInstruction_0 rfl (lv_at hl 1 rfl) ?_
  refine zi_iflt (tgt := 16) hx hb dX0_isInstruction_1 (by decide) (fun c_1 => ?_) (fun c_1 => ?_)
  · refine lv_iconst (v := nI 0) hx hb dX0_isInstruction_16 (by decide) ?_
    exact ia_zret hx hb hr hlk (by omega) (congrArg nI (show 0 = zs_ins n x.toInt from by unfold zs_ins; (repeat' split) <;> omega)) dX0_isInstruction_17
  · refine lv_iload_n hx hb dX0_isInstruction_4 rfl (lv_at hl 1 rfl) ?_
    refine lv_aload_n hx hb dX0_isInstruction_5 rfl (lv_at hl 0 rfl) ?_
    refine ia_get 0 (v := .int (nI n)) hx hb ht hown hO (by decide) rfl zlX0_7 rfl dX0_isInstruction_6 ?_
    have t_3 := nI_toInt (n := n) (by omega)
    refine zi_cge (tgt := 16) hx hb dX0_isInstruction_9 (by decide) (fun c_2 => ?_) (fun c_2 => ?_)
    · refine lv_iconst (v := nI 0) hx hb dX0_isInstruction_16 (by decide) ?_
      exact ia_zret hx hb hr hlk (by omega) (congrArg nI (show 0 = zs_ins n x.toInt from by unfold zs_ins; (repeat' split) <;> omega)) dX0_isInstruction_17
    · refine lv_iconst (v := nI 1) hx hb dX0_isInstruction_12 (by decide) ?_
      refine lv_goto (tgt := 17) hx hb dX0_isInstruction_13 (by decide) ?_
      exact ia_zret hx hb hr hlk (by omega) (congrArg nI (show 1 = zs_ins n x.toInt from by unfold zs_ins; (repeat' split) <;> omega)) dX0_isInstruction_17
set_option maxHeartbeats 4000000 in
set_option maxRecDepth 100000 in
/-- oneIf -/
theorem zc_one (l : Launch) (k : Nat) (hk : k < 2 ^ 31) : ia_T l yX0_oneIf cX0_oneIf 1 .int 0 [.int (nI k)] (nI (zs_one k)) := by
  refine ia_Tof (by decide) (Nat.le_of_ble_eq_true rfl) (fun p e s m args below meth c ls hx hb hr hlk hl => ?_)
  have hl : lv_has ls 1 [(0, .int (nI k))] := hl
  refine lv_iload_n hx hb dX0_oneIf_0 rfl (lv_at hl 0 rfl) ?_
  refine zk_ifeq (tgt := 8) hx hb dX0_oneIf_1 (by decide) (by omega) (fun c_1 => ?_) (fun c_1 => ?_)
  · refine lv_iconst (v := nI 0) hx hb dX0_oneIf_8 (by decide) ?_
    exact ia_iret hx hb hr hlk (congrArg nI (show 0 = zs_one k from by unfold zs_one; (repeat' split) <;> omega)) dX0_oneIf_9
  · refine lv_iconst (v := nI 1) hx hb dX0_oneIf_4 (by decide) ?_
    refine lv_goto (tgt := 9) hx hb dX0_oneIf_5 (by decide) ?_
    exact ia_iret hx hb hr hlk (congrArg nI (show 1 = zs_one k from by unfold zs_one; (repeat' split) <;> omega)) dX0_oneIf_9
