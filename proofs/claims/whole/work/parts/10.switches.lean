set_option maxHeartbeats 4000000 in
set_option maxRecDepth 100000 in
/-- delayOf -/
theorem zc_delay (l : Launch) (k : Nat) (hk : k < 2 ^ 31) : ia_T l yX0_delayOf cX0_delayOf 1 .int 0 [.int (nI k)] (nI (zs_delay k)) := by
  refine ia_Tof (by decide) (Nat.le_of_ble_eq_true rfl) (fun p e s m args below meth c ls hx hb hr hlk hl => ?_)
  have hl : lv_has ls 1 [(0, .int (nI k))] := hl
  refine lv_iload_n hx hb dX0_delayOf_0 rfl (lv_at hl 0 rfl) ?_
  rcases (show k = 1 ∨ k = 2 ∨ k = 3 ∨ k = 4 ∨ (k ≠ 1 ∧ k ≠ 2 ∧ k ≠ 3 ∧ k ≠ 4) by omega) with rfl | rfl | rfl | rfl | c_1
  · refine lv_tableIn (tgt := 32) (off := 31) hx hb dX0_delayOf_1 (by decide) (by decide) (by decide) (by decide) ?_
    refine lv_iconst (v := nI 2) hx hb dX0_delayOf_32 (by decide) ?_
    exact ia_iret hx hb hr hlk (congrArg nI (show 2 = zs_delay 1 from by unfold zs_delay; (repeat' split) <;> omega)) dX0_delayOf_33
  · refine lv_tableIn (tgt := 39) (off := 38) hx hb dX0_delayOf_1 (by decide) (by decide) (by decide) (by decide) ?_
    refine lv_iconst (v := nI 1) hx hb dX0_delayOf_39 (by decide) ?_
    exact ia_iret hx hb hr hlk (congrArg nI (show 1 = zs_delay 2 from by unfold zs_delay; (repeat' split) <;> omega)) dX0_delayOf_40
  · refine lv_tableIn (tgt := 34) (off := 33) hx hb dX0_delayOf_1 (by decide) (by decide) (by decide) (by decide) ?_
    refine lv_iconst (v := nI 3) hx hb dX0_delayOf_34 (by decide) ?_
    exact ia_iret hx hb hr hlk (congrArg nI (show 3 = zs_delay 3 from by unfold zs_delay; (repeat' split) <;> omega)) dX0_delayOf_35
  · refine lv_tableIn (tgt := 36) (off := 35) hx hb dX0_delayOf_1 (by decide) (by decide) (by decide) (by decide) ?_
    refine lv_bipush (v := nI 18) hx hb dX0_delayOf_36 (by decide) ?_
    exact ia_iret hx hb hr hlk (congrArg nI (show 18 = zs_delay 4 from by unfold zs_delay; (repeat' split) <;> omega)) dX0_delayOf_38
  · refine lv_tableOut (tgt := 39) hx hb dX0_delayOf_1 (by rw [nI_toInt (by omega)]; omega) (by decide) ?_
    refine lv_iconst (v := nI 1) hx hb dX0_delayOf_39 (by decide) ?_
    exact ia_iret hx hb hr hlk (congrArg nI (show 1 = zs_delay k from by unfold zs_delay; (repeat' split) <;> omega)) dX0_delayOf_40
set_option maxHeartbeats 4000000 in
set_option maxRecDepth 100000 in
/-- workOf -/
theorem zc_work (l : Launch) (k : Nat) (hk : k < 2 ^ 31) : ia_T l yX0_workOf cX0_workOf 1 .int 0 [.int (nI k)] (nI (zs_work k)) := by
  refine ia_Tof (by decide) (Nat.le_of_ble_eq_true rfl) (fun p e s m args below meth c ls hx hb hr hlk hl => ?_)
  have hl : lv_has ls 1 [(0, .int (nI k))] := hl
  refine lv_iload_n hx hb dX0_workOf_0 rfl (lv_at hl 0 rfl) ?_
  rcases (show k = 3 ∨ k = 4 ∨ (k ≠ 3 ∧ k ≠ 4) by omega) with rfl | rfl | c_1
  · refine lv_lookup (tgt := 28) (off := 27) hx hb dX0_workOf_1 (by decide) (by decide) (by decide) ?_
    refine lv_iconst (v := nI 5) hx hb dX0_workOf_28 (by decide) ?_
    exact ia_iret hx hb hr hlk (congrArg nI (show 5 = zs_work 3 from by unfold zs_work; (repeat' split) <;> omega)) dX0_workOf_29
  · refine lv_lookup (tgt := 30) (off := 29) hx hb dX0_workOf_1 (by decide) (by decide) (by decide) ?_
    refine lv_bipush (v := nI 20) hx hb dX0_workOf_30 (by decide) ?_
    exact ia_iret hx hb hr hlk (congrArg nI (show 20 = zs_work 4 from by unfold zs_work; (repeat' split) <;> omega)) dX0_workOf_32
  · refine lv_lookup (tgt := 33) (off := 32) hx hb dX0_workOf_1 (by decide) ((lv_osw (k := nI 3) (fun q => absurd ((nI_eq (by omega) (by decide)).mp q) (by omega)) (by decide)).trans ((lv_osw (k := nI 4) (fun q => absurd ((nI_eq (by omega) (by decide)).mp q) (by omega)) (by decide)).trans rfl)) (by decide) ?_
    refine lv_iconst (v := nI 3) hx hb dX0_workOf_33 (by decide) ?_
    exact ia_iret hx hb hr hlk (congrArg nI (show 3 = zs_work k from by unfold zs_work; (repeat' split) <;> omega)) dX0_workOf_34
