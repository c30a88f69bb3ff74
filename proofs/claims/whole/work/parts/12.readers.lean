set_option maxHeartbeats 4000000 in
set_option maxRecDepth 100000 in
/-- usesMemory -/
theorem zc_mem (l : Launch) (k : Nat) (hk : k < 2 ^ 31) : ia_T l yX0_usesMemory cX0_usesMemory 1 .boolean 0 [.int (nI k)] (nI (zs_mem k)) := by
  refine ia_Tof (by decide) (Nat.le_of_ble_eq_true rfl) (fun p e s m args below meth c ls hx hb hr hlk hl => ?_)
  have hl : lv_has ls 1 [(0, .int (nI k))] := hl
  refine lv_iload_n hx hb dX0_usesMemory_0 rfl (lv_at hl 0 rfl) ?_
  refine lv_iconst (v := nI 1) hx hb dX0_usesMemory_1 (by decide) ?_
  refine zk_ceq (tgt := 10) hx hb dX0_usesMemory_2 (by decide) (by omega) (by omega) (fun c_1 => ?_) (fun c_1 => ?_)
  · refine lv_iconst (v := nI 1) hx hb dX0_usesMemory_10 (by decide) ?_
    refine lv_goto (tgt := 15) hx hb dX0_usesMemory_11 (by decide) ?_
    exact ia_zret hx hb hr hlk (by omega) (congrArg nI (show 1 = zs_mem k from by unfold zs_mem; (repeat' split) <;> omega)) dX0_usesMemory_15
  · refine lv_iload_n hx hb dX0_usesMemory_5 rfl (lv_at hl 0 rfl) ?_
    refine lv_iconst (v := nI 2) hx hb dX0_usesMemory_6 (by decide) ?_
    refine zk_cne (tgt := 14) hx hb dX0_usesMemory_7 (by decide) (by omega) (by omega) (fun c_2 => ?_) (fun c_2 => ?_)
    · refine lv_iconst (v := nI 0) hx hb dX0_usesMemory_14 (by decide) ?_
      exact ia_zret hx hb hr hlk (by omega) (congrArg nI (show 0 = zs_mem k from by unfold zs_mem; (repeat' split) <;> omega)) dX0_usesMemory_15
    · refine lv_iconst (v := nI 1) hx hb dX0_usesMemory_10 (by decide) ?_
      refine lv_goto (tgt := 15) hx hb dX0_usesMemory_11 (by decide) ?_
      exact ia_zret hx hb hr hlk (by omega) (congrArg nI (show 1 = zs_mem k from by unfold zs_mem; (repeat' split) <;> omega)) dX0_usesMemory_15
set_option maxHeartbeats 4000000 in
set_option maxRecDepth 100000 in
/-- usesMultiplier -/
theorem zc_mul (l : Launch) (k : Nat) (hk : k < 2 ^ 31) : ia_T l yX0_usesMultiplier cX0_usesMultiplier 1 .boolean 0 [.int (nI k)] (nI (zs_mul k)) := by
  refine ia_Tof (by decide) (Nat.le_of_ble_eq_true rfl) (fun p e s m args below meth c ls hx hb hr hlk hl => ?_)
  have hl : lv_has ls 1 [(0, .int (nI k))] := hl
  refine lv_iload_n hx hb dX0_usesMultiplier_0 rfl (lv_at hl 0 rfl) ?_
  refine lv_iconst (v := nI 3) hx hb dX0_usesMultiplier_1 (by decide) ?_
  refine zk_ceq (tgt := 10) hx hb dX0_usesMultiplier_2 (by decide) (by omega) (by omega) (fun c_1 => ?_) (fun c_1 => ?_)
  · refine lv_iconst (v := nI 1) hx hb dX0_usesMultiplier_10 (by decide) ?_
    refine lv_goto (tgt := 15) hx hb dX0_usesMultiplier_11 (by decide) ?_
    exact ia_zret hx hb hr hlk (by omega) (congrArg nI (show 1 = zs_mul k from by unfold zs_mul; (repeat' split) <;> omega)) dX0_usesMultiplier_15
  · refine lv_iload_n hx hb dX0_usesMultiplier_5 rfl (lv_at hl 0 rfl) ?_
    refine lv_iconst (v := nI 4) hx hb dX0_usesMultiplier_6 (by decide) ?_
    refine zk_cne (tgt := 14) hx hb dX0_usesMultiplier_7 (by decide) (by omega) (by omega) (fun c_2 => ?_) (fun c_2 => ?_)
    · refine lv_iconst (v := nI 0) hx hb dX0_usesMultiplier_14 (by decide) ?_
      exact ia_zret hx hb hr hlk (by omega) (congrArg nI (show 0 = zs_mul k from by unfold zs_mul; (repeat' split) <;> omega)) dX0_usesMultiplier_15
    · refine lv_iconst (v := nI 1) hx hb dX0_usesMultiplier_10 (by decide) ?_
      refine lv_goto (tgt := 15) hx hb dX0_usesMultiplier_11 (by decide) ?_
      exact ia_zret hx hb hr hlk (by omega) (congrArg nI (show 1 = zs_mul k from by unfold zs_mul; (repeat' split) <;> omega)) dX0_usesMultiplier_15
set_option maxHeartbeats 4000000 in
set_option maxRecDepth 100000 in
/-- isBehindSlot -/
theorem zc_bslot (l : Launch) (E : ia_E) (n : Nat) (g : Nat → Nat → Nat) (hg : zs_B g) (i : Nat) (hi : i < 400) : ia_R l yX0_isBehindSlot cX0_isBehindSlot 2 .boolean 0 E n g [.int (nI i)] (nI (zs_bslot g i)) := by
  refine ia_Rof (by decide) rfl (Nat.le_of_ble_eq_true rfl) (fun p e s m args below meth c ls hx hb hr hml hown ht hlk hO hl => ?_)
  have hl : lv_has ls 2 [(0, .ref (ia_h E 0)), (1, .int (nI i))] := hl
  refine lv_iload_n hx hb dX0_isBehindSlot_0 rfl (lv_at hl 1 rfl) ?_
  refine lv_iconst (v := nI 1) hx hb dX0_isBehindSlot_1 (by decide) ?_
  refine zk_cle (tgt := 20) hx hb dX0_isBehindSlot_2 (by decide) (by omega) (by omega) (fun c_1 => ?_) (fun c_1 => ?_)
  · refine lv_iconst (v := nI 0) hx hb dX0_isBehindSlot_20 (by decide) ?_
    exact ia_zret hx hb hr hlk (by omega) (congrArg nI (show 0 = zs_bslot g i from by unfold zs_bslot; (repeat' split) <;> omega)) dX0_isBehindSlot_21
  · refine lv_aload_n hx hb dX0_isBehindSlot_5 rfl (lv_at hl 0 rfl) ?_
    refine ia_get 8 (v := .ref (ia_h E 8)) hx hb ht hown hO (by decide) rfl zlX0_36 rfl dX0_isBehindSlot_6 ?_
    refine lv_iload_n hx hb dX0_isBehindSlot_9 rfl (lv_at hl 1 rfl) ?_
    refine lv_iconst (v := nI 1) hx hb dX0_isBehindSlot_10 (by decide) ?_
    refine zk_sub hx hb (by omega) dX0_isBehindSlot_11 ?_
    refine ia_zld 8 (i - 1) hx hb hO rfl (by omega) dX0_isBehindSlot_12 ?_
    have b_2 := hg 8 (i - 1)
    refine zk_ifeq (tgt := 20) hx hb dX0_isBehindSlot_13 (by decide) (by omega) (fun c_3 => ?_) (fun c_3 => ?_)
    · refine lv_iconst (v := nI 0) hx hb dX0_isBehindSlot_20 (by decide) ?_
      exact ia_zret hx hb hr hlk (by omega) (congrArg nI (show 0 = zs_bslot g i from by unfold zs_bslot; (repeat' split) <;> omega)) dX0_isBehindSlot_21
    · refine lv_iconst (v := nI 1) hx hb dX0_isBehindSlot_16 (by decide) ?_
      refine lv_goto (tgt := 21) hx hb dX0_isBehindSlot_17 (by decide) ?_
      exact ia_zret hx hb hr hlk (by omega) (congrArg nI (show 1 = zs_bslot g i from by unfold zs_bslot; (repeat' split) <;> omega)) dX0_isBehindSlot_21
set_option maxHeartbeats 4000000 in
set_option maxRecDepth 100000 in
/-- isBehindFailingOrSingle -/
theorem zc_bfs (l : Launch) (E : ia_E) (n : Nat) (g : Nat → Nat → Nat) (hg : zs_B g) (i : Nat) (hi : i < 400) : ia_R l yX0_isBehindFailingOrSingle cX0_isBehindFailingOrSingle 2 .boolean 0 E n g [.int (nI i)] (nI (zs_bfs g i)) := by
  refine ia_Rof (by decide) rfl (Nat.le_of_ble_eq_true rfl) (fun p e s m args below meth c ls hx hb hr hml hown ht hlk hO hl => ?_)
  have hl : lv_has ls 2 [(0, .ref (ia_h E 0)), (1, .int (nI i))] := hl
  refine lv_iload_n hx hb dX0_isBehindFailingOrSingle_0 rfl (lv_at hl 1 rfl) ?_
  refine zk_ifle (tgt := 32) hx hb dX0_isBehindFailingOrSingle_1 (by decide) (by omega) (fun c_1 => ?_) (fun c_1 => ?_)
  · refine lv_iconst (v := nI 0) hx hb dX0_isBehindFailingOrSingle_32 (by decide) ?_
    exact ia_zret hx hb hr hlk (by omega) (congrArg nI (show 0 = zs_bfs g i from by unfold zs_bfs; (repeat' split) <;> omega)) dX0_isBehindFailingOrSingle_33
  · refine lv_aload_n hx hb dX0_isBehindFailingOrSingle_4 rfl (lv_at hl 0 rfl) ?_
    refine ia_get 9 (v := .ref (ia_h E 9)) hx hb ht hown hO (by decide) rfl zlX0_39 rfl dX0_isBehindFailingOrSingle_5 ?_
    refine lv_iload_n hx hb dX0_isBehindFailingOrSingle_8 rfl (lv_at hl 1 rfl) ?_
    refine lv_iconst (v := nI 1) hx hb dX0_isBehindFailingOrSingle_9 (by decide) ?_
    refine zk_sub hx hb (by omega) dX0_isBehindFailingOrSingle_10 ?_
    refine ia_zld 9 (i - 1) hx hb hO rfl (by omega) dX0_isBehindFailingOrSingle_11 ?_
    have b_2 := hg 9 (i - 1)
    refine zk_ifne (tgt := 28) hx hb dX0_isBehindFailingOrSingle_12 (by decide) (by omega) (fun c_3 => ?_) (fun c_3 => ?_)
    · refine lv_iconst (v := nI 1) hx hb dX0_isBehindFailingOrSingle_28 (by decide) ?_
      refine lv_goto (tgt := 33) hx hb dX0_isBehindFailingOrSingle_29 (by decide) ?_
      exact ia_zret hx hb hr hlk (by omega) (congrArg nI (show 1 = zs_bfs g i from by unfold zs_bfs; (repeat' split) <;> omega)) dX0_isBehindFailingOrSingle_33
    · refine lv_aload_n hx hb dX0_isBehindFailingOrSingle_15 rfl (lv_at hl 0 rfl) ?_
      refine ia_get 1 (v := .ref (ia_h E 1)) hx hb ht hown hO (by decide) rfl zlX0_13 rfl dX0_isBehindFailingOrSingle_16 ?_
      refine lv_iload_n hx hb dX0_isBehindFailingOrSingle_19 rfl (lv_at hl 1 rfl) ?_
      refine lv_iconst (v := nI 1) hx hb dX0_isBehindFailingOrSingle_20 (by decide) ?_
      refine zk_sub hx hb (by omega) dX0_isBehindFailingOrSingle_21 ?_
      refine ia_ild 1 (i - 1) hx hb hO rfl (by omega) dX0_isBehindFailingOrSingle_22 ?_
      have b_4 := hg 1 (i - 1)
      refine lv_bipush (v := nI 6) hx hb dX0_isBehindFailingOrSingle_23 (by decide) ?_
      refine zk_cne (tgt := 32) hx hb dX0_isBehindFailingOrSingle_25 (by decide) (by omega) (by omega) (fun c_5 => ?_) (fun c_5 => ?_)
      · refine lv_iconst (v := nI 0) hx hb dX0_isBehindFailingOrSingle_32 (by decide) ?_
        exact ia_zret hx hb hr hlk (by omega) (congrArg nI (show 0 = zs_bfs g i from by unfold zs_bfs; (repeat' split) <;> omega)) dX0_isBehindFailingOrSingle_33
      · refine lv_iconst (v := nI 1) hx hb dX0_isBehindFailingOrSingle_28 (by decide) ?_
        refine lv_goto (tgt := 33) hx hb dX0_isBehindFailingOrSingle_29 (by decide) ?_
        exact ia_zret hx hb hr hlk (by omega) (congrArg nI (show 1 = zs_bfs g i from by unfold zs_bfs; (repeat' split) <;> omega)) dX0_isBehindFailingOrSingle_33
set_option maxHeartbeats 4000000 in
set_option maxRecDepth 100000 in
/-- isMissed -/
theorem zc_missed (l : Launch) (E : ia_E) (n : Nat) (g : Nat → Nat → Nat) (hg : zs_B g) (i : Nat) (hi : i < 400) : ia_R l yX0_isMissed cX0_isMissed 2 .boolean 0 E n g [.int (nI i)] (nI (zs_missed g i)) := by
  refine ia_Rof (by decide) rfl (Nat.le_of_ble_eq_true rfl) (fun p e s m args below meth c ls hx hb hr hml hown ht hlk hO hl => ?_)
  have hl : lv_has ls 2 [(0, .ref (ia_h E 0)), (1, .int (nI i))] := hl
  refine lv_aload_n hx hb dX0_isMissed_0 rfl (lv_at hl 0 rfl) ?_
  refine ia_get 5 (v := .ref (ia_h E 5)) hx hb ht hown hO (by decide) rfl zlX0_26 rfl dX0_isMissed_1 ?_
  refine lv_iload_n hx hb dX0_isMissed_4 rfl (lv_at hl 1 rfl) ?_
  refine ia_ild 5 i hx hb hO rfl (by omega) dX0_isMissed_5 ?_
  have b_1 := hg 5 i
  refine zk_ifne (tgt := 11) hx hb dX0_isMissed_6 (by decide) (by omega) (fun c_2 => ?_) (fun c_2 => ?_)
  · refine lv_aload_n hx hb dX0_isMissed_11 rfl (lv_at hl 0 rfl) ?_
    refine ia_get 5 (v := .ref (ia_h E 5)) hx hb ht hown hO (by decide) rfl zlX0_26 rfl dX0_isMissed_12 ?_
    refine lv_iload_n hx hb dX0_isMissed_15 rfl (lv_at hl 1 rfl) ?_
    refine ia_ild 5 i hx hb hO rfl (by omega) dX0_isMissed_16 ?_
    have b_3 := hg 5 i
    refine lv_iconst (v := nI 1) hx hb dX0_isMissed_17 (by decide) ?_
    refine zk_cne (tgt := 25) hx hb dX0_isMissed_18 (by decide) (by omega) (by omega) (fun c_4 => ?_) (fun c_4 => ?_)
    · refine lv_iconst (v := nI 0) hx hb dX0_isMissed_25 (by decide) ?_
      refine lv_aload_n hx hb dX0_isMissed_26 rfl (lv_at hl 0 rfl) ?_
      refine ia_get 6 (v := .ref (ia_h E 6)) hx hb ht hown hO (by decide) rfl zlX0_29 rfl dX0_isMissed_27 ?_
      refine lv_iload_n hx hb dX0_isMissed_30 rfl (lv_at hl 1 rfl) ?_
      refine ia_zld 6 i hx hb hO rfl (by omega) dX0_isMissed_31 ?_
      have b_5 := hg 6 i
      refine zk_ceq (tgt := 39) hx hb dX0_isMissed_32 (by decide) (by omega) (by omega) (fun c_6 => ?_) (fun c_6 => ?_)
      · refine lv_iconst (v := nI 0) hx hb dX0_isMissed_39 (by decide) ?_
        exact ia_zret hx hb hr hlk (by omega) (congrArg nI (show 0 = zs_missed g i from by unfold zs_missed; (repeat' split) <;> omega)) dX0_isMissed_40
      · refine lv_iconst (v := nI 1) hx hb dX0_isMissed_35 (by decide) ?_
        refine lv_goto (tgt := 40) hx hb dX0_isMissed_36 (by decide) ?_
        exact ia_zret hx hb hr hlk (by omega) (congrArg nI (show 1 = zs_missed g i from by unfold zs_missed; (repeat' split) <;> omega)) dX0_isMissed_40
    · refine lv_iconst (v := nI 1) hx hb dX0_isMissed_21 (by decide) ?_
      refine lv_goto (tgt := 26) hx hb dX0_isMissed_22 (by decide) ?_
      refine lv_aload_n hx hb dX0_isMissed_26 rfl (lv_at hl 0 rfl) ?_
      refine ia_get 6 (v := .ref (ia_h E 6)) hx hb ht hown hO (by decide) rfl zlX0_29 rfl dX0_isMissed_27 ?_
      refine lv_iload_n hx hb dX0_isMissed_30 rfl (lv_at hl 1 rfl) ?_
      refine ia_zld 6 i hx hb hO rfl (by omega) dX0_isMissed_31 ?_
      have b_7 := hg 6 i
      refine zk_ceq (tgt := 39) hx hb dX0_isMissed_32 (by decide) (by omega) (by omega) (fun c_8 => ?_) (fun c_8 => ?_)
      · refine lv_iconst (v := nI 0) hx hb dX0_isMissed_39 (by decide) ?_
        exact ia_zret hx hb hr hlk (by omega) (congrArg nI (show 0 = zs_missed g i from by unfold zs_missed; (repeat' split) <;> omega)) dX0_isMissed_40
      · refine lv_iconst (v := nI 1) hx hb dX0_isMissed_35 (by decide) ?_
        refine lv_goto (tgt := 40) hx hb dX0_isMissed_36 (by decide) ?_
        exact ia_zret hx hb hr hlk (by omega) (congrArg nI (show 1 = zs_missed g i from by unfold zs_missed; (repeat' split) <;> omega)) dX0_isMissed_40
  · refine lv_iconst (v := nI 1) hx hb dX0_isMissed_9 (by decide) ?_
    exact ia_zret hx hb hr hlk (by omega) (congrArg nI (show 1 = zs_missed g i from by unfold zs_missed; (repeat' split) <;> omega)) dX0_isMissed_10
set_option maxHeartbeats 4000000 in
set_option maxRecDepth 100000 in
/-- isIssuedAsSecond -/
theorem zc_second (l : Launch) (E : ia_E) (n : Nat) (g : Nat → Nat → Nat) (hg : zs_B g) (i : Nat) (hi : i < 400) : ia_R l yX0_isIssuedAsSecond cX0_isIssuedAsSecond 2 .boolean 0 E n g [.int (nI i)] (nI (zs_second g i)) := by
  refine ia_Rof (by decide) rfl (Nat.le_of_ble_eq_true rfl) (fun p e s m args below meth c ls hx hb hr hml hown ht hlk hO hl => ?_)
  have hl : lv_has ls 2 [(0, .ref (ia_h E 0)), (1, .int (nI i))] := hl
  refine lv_iload_n hx hb dX0_isIssuedAsSecond_0 rfl (lv_at hl 1 rfl) ?_
  refine zk_ifle (tgt := 25) hx hb dX0_isIssuedAsSecond_1 (by decide) (by omega) (fun c_1 => ?_) (fun c_1 => ?_)
  · refine lv_iconst (v := nI 0) hx hb dX0_isIssuedAsSecond_25 (by decide) ?_
    exact ia_zret hx hb hr hlk (by omega) (congrArg nI (show 0 = zs_second g i from by unfold zs_second; (repeat' split) <;> omega)) dX0_isIssuedAsSecond_26
  · refine lv_aload_n hx hb dX0_isIssuedAsSecond_4 rfl (lv_at hl 0 rfl) ?_
    refine ia_get 12 (v := .ref (ia_h E 12)) hx hb ht hown hO (by decide) rfl zlX0_48 rfl dX0_isIssuedAsSecond_5 ?_
    refine lv_iload_n hx hb dX0_isIssuedAsSecond_8 rfl (lv_at hl 1 rfl) ?_
    refine lv_iconst (v := nI 1) hx hb dX0_isIssuedAsSecond_9 (by decide) ?_
    refine zk_sub hx hb (by omega) dX0_isIssuedAsSecond_10 ?_
    refine ia_ild 12 (i - 1) hx hb hO rfl (by omega) dX0_isIssuedAsSecond_11 ?_
    have b_2 := hg 12 (i - 1)
    refine lv_aload_n hx hb dX0_isIssuedAsSecond_12 rfl (lv_at hl 0 rfl) ?_
    refine ia_get 12 (v := .ref (ia_h E 12)) hx hb ht hown hO (by decide) rfl zlX0_48 rfl dX0_isIssuedAsSecond_13 ?_
    refine lv_iload_n hx hb dX0_isIssuedAsSecond_16 rfl (lv_at hl 1 rfl) ?_
    refine ia_ild 12 i hx hb hO rfl (by omega) dX0_isIssuedAsSecond_17 ?_
    have b_3 := hg 12 i
    refine zk_cne (tgt := 25) hx hb dX0_isIssuedAsSecond_18 (by decide) (by omega) (by omega) (fun c_4 => ?_) (fun c_4 => ?_)
    · refine lv_iconst (v := nI 0) hx hb dX0_isIssuedAsSecond_25 (by decide) ?_
      exact ia_zret hx hb hr hlk (by omega) (congrArg nI (show 0 = zs_second g i from by unfold zs_second; (repeat' split) <;> omega)) dX0_isIssuedAsSecond_26
    · refine lv_iconst (v := nI 1) hx hb dX0_isIssuedAsSecond_21 (by decide) ?_
      refine lv_goto (tgt := 26) hx hb dX0_isIssuedAsSecond_22 (by decide) ?_
      exact ia_zret hx hb hr hlk (by omega) (congrArg nI (show 1 = zs_second g i from by unfold zs_second; (repeat' split) <;> omega)) dX0_isIssuedAsSecond_26
set_option maxHeartbeats 4000000 in
set_option maxRecDepth 100000 in
/-- doneBefore -/
theorem zc_dbef (l : Launch) (E : ia_E) (n : Nat) (g : Nat → Nat → Nat) (hg : zs_B g) (i : Nat) (hi : i < 400) : ia_R l yX0_doneBefore cX0_doneBefore 2 .int 0 E n g [.int (nI i)] (nI (zs_dbef g i)) := by
  refine ia_Rof (by decide) rfl (Nat.le_of_ble_eq_true rfl) (fun p e s m args below meth c ls hx hb hr hml hown ht hlk hO hl => ?_)
  have hl : lv_has ls 2 [(0, .ref (ia_h E 0)), (1, .int (nI i))] := hl
  refine lv_iload_n hx hb dX0_doneBefore_0 rfl (lv_at hl 1 rfl) ?_
  refine zk_ifle (tgt := 15) hx hb dX0_doneBefore_1 (by decide) (by omega) (fun c_1 => ?_) (fun c_1 => ?_)
  · refine lv_iconst (v := nI 0) hx hb dX0_doneBefore_15 (by decide) ?_
    exact ia_iret hx hb hr hlk (congrArg nI (show 0 = zs_dbef g i from by unfold zs_dbef; (repeat' split) <;> omega)) dX0_doneBefore_16
  · refine lv_aload_n hx hb dX0_doneBefore_4 rfl (lv_at hl 0 rfl) ?_
    refine ia_get 13 (v := .ref (ia_h E 13)) hx hb ht hown hO (by decide) rfl zlX0_51 rfl dX0_doneBefore_5 ?_
    refine lv_iload_n hx hb dX0_doneBefore_8 rfl (lv_at hl 1 rfl) ?_
    refine lv_iconst (v := nI 1) hx hb dX0_doneBefore_9 (by decide) ?_
    refine zk_sub hx hb (by omega) dX0_doneBefore_10 ?_
    refine ia_ild 13 (i - 1) hx hb hO rfl (by omega) dX0_doneBefore_11 ?_
    have b_2 := hg 13 (i - 1)
    refine lv_goto (tgt := 16) hx hb dX0_doneBefore_12 (by decide) ?_
    exact ia_iret hx hb hr hlk (congrArg nI (show g 13 (i - 1) = zs_dbef g i from by unfold zs_dbef; (repeat' split) <;> omega)) dX0_doneBefore_16
set_option maxHeartbeats 4000000 in
set_option maxRecDepth 100000 in
/-- reads -/
theorem zc_reads (l : Launch) (E : ia_E) (n : Nat) (g : Nat → Nat → Nat) (hg : zs_B g) (i : Nat) (r : Nat) (hi : i < 400) (hr0 : r < 2 ^ 31) : ia_R l yX0_reads cX0_reads 3 .boolean 0 E n g [.int (nI i), .int (nI r)] (nI (zs_reads g i r)) := by
  refine ia_Rof (by decide) rfl (Nat.le_of_ble_eq_true rfl) (fun p e s m args below meth c ls hx hb hr hml hown ht hlk hO hl => ?_)
  have hl : lv_has ls 3 [(0, .ref (ia_h E 0)), (1, .int (nI i)), (2, .int (nI r))] := hl
  refine lv_iload_n hx hb dX0_reads_0 rfl (lv_at hl 2 rfl) ?_
  refine zk_ifeq (tgt := 28) hx hb dX0_reads_1 (by decide) (by omega) (fun c_1 => ?_) (fun c_1 => ?_)
  · refine lv_iconst (v := nI 0) hx hb dX0_reads_28 (by decide) ?_
    exact ia_zret hx hb hr hlk (by omega) (congrArg nI (show 0 = zs_reads g i r from by unfold zs_reads; (repeat' split) <;> omega)) dX0_reads_29
  · refine lv_aload_n hx hb dX0_reads_4 rfl (lv_at hl 0 rfl) ?_
    refine ia_get 3 (v := .ref (ia_h E 3)) hx hb ht hown hO (by decide) rfl zlX0_20 rfl dX0_reads_5 ?_
    refine lv_iload_n hx hb dX0_reads_8 rfl (lv_at hl 1 rfl) ?_
    refine ia_ild 3 i hx hb hO rfl (by omega) dX0_reads_9 ?_
    have b_2 := hg 3 i
    refine lv_iload_n hx hb dX0_reads_10 rfl (lv_at hl 2 rfl) ?_
    refine zk_ceq (tgt := 24) hx hb dX0_reads_11 (by decide) (by omega) (by omega) (fun c_3 => ?_) (fun c_3 => ?_)
    · refine lv_iconst (v := nI 1) hx hb dX0_reads_24 (by decide) ?_
      refine lv_goto (tgt := 29) hx hb dX0_reads_25 (by decide) ?_
      exact ia_zret hx hb hr hlk (by omega) (congrArg nI (show 1 = zs_reads g i r from by unfold zs_reads; (repeat' split) <;> omega)) dX0_reads_29
    · refine lv_aload_n hx hb dX0_reads_14 rfl (lv_at hl 0 rfl) ?_
      refine ia_get 4 (v := .ref (ia_h E 4)) hx hb ht hown hO (by decide) rfl zlX0_23 rfl dX0_reads_15 ?_
      refine lv_iload_n hx hb dX0_reads_18 rfl (lv_at hl 1 rfl) ?_
      refine ia_ild 4 i hx hb hO rfl (by omega) dX0_reads_19 ?_
      have b_4 := hg 4 i
      refine lv_iload_n hx hb dX0_reads_20 rfl (lv_at hl 2 rfl) ?_
      refine zk_cne (tgt := 28) hx hb dX0_reads_21 (by decide) (by omega) (by omega) (fun c_5 => ?_) (fun c_5 => ?_)
      · refine lv_iconst (v := nI 0) hx hb dX0_reads_28 (by decide) ?_
        exact ia_zret hx hb hr hlk (by omega) (congrArg nI (show 0 = zs_reads g i r from by unfold zs_reads; (repeat' split) <;> omega)) dX0_reads_29
      · refine lv_iconst (v := nI 1) hx hb dX0_reads_24 (by decide) ?_
        refine lv_goto (tgt := 29) hx hb dX0_reads_25 (by decide) ?_
        exact ia_zret hx hb hr hlk (by omega) (congrArg nI (show 1 = zs_reads g i r from by unfold zs_reads; (repeat' split) <;> omega)) dX0_reads_29
set_option maxHeartbeats 4000000 in
set_option maxRecDepth 100000 in
/-- stageAt -/
theorem zc_stage (l : Launch) (E : ia_E) (n : Nat) (g : Nat → Nat → Nat) (hg : zs_B g) (i : Nat) (y : Nat) (hi : i < 400) (hy0 : y < 2 ^ 31) : ia_R l yX0_stageAt cX0_stageAt 3 .int 0 E n g [.int (nI i), .int (nI y)] (nI (zs_stage g i y)) := by
  refine ia_Rof (by decide) rfl (Nat.le_of_ble_eq_true rfl) (fun p e s m args below meth c ls hx hb hr hml hown ht hlk hO hl => ?_)
  have hl : lv_has ls 3 [(0, .ref (ia_h E 0)), (1, .int (nI i)), (2, .int (nI y))] := hl
  refine lv_iload_n hx hb dX0_stageAt_0 rfl (lv_at hl 2 rfl) ?_
  refine lv_aload_n hx hb dX0_stageAt_1 rfl (lv_at hl 0 rfl) ?_
  refine ia_get 11 (v := .ref (ia_h E 11)) hx hb ht hown hO (by decide) rfl zlX0_45 rfl dX0_stageAt_2 ?_
  refine lv_iload_n hx hb dX0_stageAt_5 rfl (lv_at hl 1 rfl) ?_
  refine ia_ild 11 i hx hb hO rfl (by omega) dX0_stageAt_6 ?_
  have b_1 := hg 11 i
  refine zk_cge (tgt := 12) hx hb dX0_stageAt_7 (by decide) (by omega) (by omega) (fun c_2 => ?_) (fun c_2 => ?_)
  · refine lv_iload_n hx hb dX0_stageAt_12 rfl (lv_at hl 2 rfl) ?_
    refine lv_aload_n hx hb dX0_stageAt_13 rfl (lv_at hl 0 rfl) ?_
    refine ia_get 12 (v := .ref (ia_h E 12)) hx hb ht hown hO (by decide) rfl zlX0_48 rfl dX0_stageAt_14 ?_
    refine lv_iload_n hx hb dX0_stageAt_17 rfl (lv_at hl 1 rfl) ?_
    refine ia_ild 12 i hx hb hO rfl (by omega) dX0_stageAt_18 ?_
    have b_3 := hg 12 i
    refine zk_cge (tgt := 24) hx hb dX0_stageAt_19 (by decide) (by omega) (by omega) (fun c_4 => ?_) (fun c_4 => ?_)
    · refine lv_iload_n hx hb dX0_stageAt_24 rfl (lv_at hl 2 rfl) ?_
      refine lv_aload_n hx hb dX0_stageAt_25 rfl (lv_at hl 0 rfl) ?_
      refine ia_get 13 (v := .ref (ia_h E 13)) hx hb ht hown hO (by decide) rfl zlX0_51 rfl dX0_stageAt_26 ?_
      refine lv_iload_n hx hb dX0_stageAt_29 rfl (lv_at hl 1 rfl) ?_
      refine ia_ild 13 i hx hb hO rfl (by omega) dX0_stageAt_30 ?_
      have b_5 := hg 13 i
      refine zk_cge (tgt := 38) hx hb dX0_stageAt_31 (by decide) (by omega) (by omega) (fun c_6 => ?_) (fun c_6 => ?_)
      · refine lv_iconst (v := nI 3) hx hb dX0_stageAt_38 (by decide) ?_
        exact ia_iret hx hb hr hlk (congrArg nI (show 3 = zs_stage g i y from by unfold zs_stage; (repeat' split) <;> omega)) dX0_stageAt_39
      · refine lv_iconst (v := nI 2) hx hb dX0_stageAt_34 (by decide) ?_
        refine lv_goto (tgt := 39) hx hb dX0_stageAt_35 (by decide) ?_
        exact ia_iret hx hb hr hlk (congrArg nI (show 2 = zs_stage g i y from by unfold zs_stage; (repeat' split) <;> omega)) dX0_stageAt_39
    · refine lv_iconst (v := nI 1) hx hb dX0_stageAt_22 (by decide) ?_
      exact ia_iret hx hb hr hlk (congrArg nI (show 1 = zs_stage g i y from by unfold zs_stage; (repeat' split) <;> omega)) dX0_stageAt_23
  · refine lv_iconst (v := nI 0) hx hb dX0_stageAt_10 (by decide) ?_
    exact ia_iret hx hb hr hlk (congrArg nI (show 0 = zs_stage g i y from by unfold zs_stage; (repeat' split) <;> omega)) dX0_stageAt_11
set_option maxHeartbeats 4000000 in
set_option maxRecDepth 100000 in
/-- groupSize -/
theorem zc_gsize (l : Launch) (E : ia_E) (n : Nat) (g : Nat → Nat → Nat) (hg : zs_B g) (i : Nat) (hi : i < n) (hn : n ≤ 400) : ia_R l yX0_groupSize cX0_groupSize 2 .int 0 E n g [.int (nI i)] (nI (zs_gsize g n i)) := by
  refine ia_Rof (by decide) rfl (Nat.le_of_ble_eq_true rfl) (fun p e s m args below meth c ls hx hb hr hml hown ht hlk hO hl => ?_)
  have hl : lv_has ls 2 [(0, .ref (ia_h E 0)), (1, .int (nI i))] := hl
  refine lv_aload_n hx hb dX0_groupSize_0 rfl (lv_at hl 0 rfl) ?_
  refine ia_get 10 (v := .ref (ia_h E 10)) hx hb ht hown hO (by decide) rfl zlX0_42 rfl dX0_groupSize_1 ?_
  refine lv_iload_n hx hb dX0_groupSize_4 rfl (lv_at hl 1 rfl) ?_
  refine ia_zld 10 i hx hb hO rfl (by omega) dX0_groupSize_5 ?_
  have b_1 := hg 10 i
  refine zk_ifne (tgt := 11) hx hb dX0_groupSize_6 (by decide) (by omega) (fun c_2 => ?_) (fun c_2 => ?_)
  · refine lv_iload_n hx hb dX0_groupSize_11 rfl (lv_at hl 1 rfl) ?_
    refine lv_iconst (v := nI 1) hx hb dX0_groupSize_12 (by decide) ?_
    refine zk_add hx hb dX0_groupSize_13 ?_
    refine lv_aload_n hx hb dX0_groupSize_14 rfl (lv_at hl 0 rfl) ?_
    refine ia_get 0 (v := .int (nI n)) hx hb ht hown hO (by decide) rfl zlX0_7 rfl dX0_groupSize_15 ?_
    refine zk_cge (tgt := 36) hx hb dX0_groupSize_18 (by decide) (by omega) (by omega) (fun c_3 => ?_) (fun c_3 => ?_)
    · refine lv_iconst (v := nI 1) hx hb dX0_groupSize_36 (by decide) ?_
      exact ia_iret hx hb hr hlk (congrArg nI (show 1 = zs_gsize g n i from by unfold zs_gsize; (repeat' split) <;> omega)) dX0_groupSize_37
    · refine lv_aload_n hx hb dX0_groupSize_21 rfl (lv_at hl 0 rfl) ?_
      refine ia_get 10 (v := .ref (ia_h E 10)) hx hb ht hown hO (by decide) rfl zlX0_42 rfl dX0_groupSize_22 ?_
      refine lv_iload_n hx hb dX0_groupSize_25 rfl (lv_at hl 1 rfl) ?_
      refine lv_iconst (v := nI 1) hx hb dX0_groupSize_26 (by decide) ?_
      refine zk_add hx hb dX0_groupSize_27 ?_
      refine ia_zld 10 (i + 1) hx hb hO rfl (by omega) dX0_groupSize_28 ?_
      have b_4 := hg 10 (i + 1)
      refine zk_ifne (tgt := 36) hx hb dX0_groupSize_29 (by decide) (by omega) (fun c_5 => ?_) (fun c_5 => ?_)
      · refine lv_iconst (v := nI 1) hx hb dX0_groupSize_36 (by decide) ?_
        exact ia_iret hx hb hr hlk (congrArg nI (show 1 = zs_gsize g n i from by unfold zs_gsize; (repeat' split) <;> omega)) dX0_groupSize_37
      · refine lv_iconst (v := nI 2) hx hb dX0_groupSize_32 (by decide) ?_
        refine lv_goto (tgt := 37) hx hb dX0_groupSize_33 (by decide) ?_
        exact ia_iret hx hb hr hlk (congrArg nI (show 2 = zs_gsize g n i from by unfold zs_gsize; (repeat' split) <;> omega)) dX0_groupSize_37
  · refine lv_iconst (v := nI 2) hx hb dX0_groupSize_9 (by decide) ?_
    exact ia_iret hx hb hr hlk (congrArg nI (show 2 = zs_gsize g n i from by unfold zs_gsize; (repeat' split) <;> omega)) dX0_groupSize_10
set_option maxHeartbeats 4000000 in
set_option maxRecDepth 100000 in
/-- liesBehind -/
theorem zc_lies (l : Launch) (E : ia_E) (n : Nat) (g : Nat → Nat → Nat) (hg : zs_B g) (i : Nat) (hi : i < 400) : ia_R l yX0_liesBehind cX0_liesBehind 2 .boolean 1 E n g [.int (nI i)] (nI (zs_lies g i)) := by
  refine ia_Rof (by decide) rfl (Nat.le_of_ble_eq_true rfl) (fun p e s m args below meth c ls hx hb hr hml hown ht hlk hO hl => ?_)
  have hl : lv_has ls 2 [(0, .ref (ia_h E 0)), (1, .int (nI i))] := hl
  refine lv_iload_n hx hb dX0_liesBehind_0 rfl (lv_at hl 1 rfl) ?_
  refine zk_ifle (tgt := 38) hx hb dX0_liesBehind_1 (by decide) (by omega) (fun c_1 => ?_) (fun c_1 => ?_)
  · refine lv_iconst (v := nI 0) hx hb dX0_liesBehind_38 (by decide) ?_
    exact ia_zret hx hb hr hlk (by omega) (congrArg nI (show 0 = zs_lies g i from by unfold zs_lies; (repeat' split) <;> omega)) dX0_liesBehind_39
  · refine lv_aload_n hx hb dX0_liesBehind_4 rfl (lv_at hl 0 rfl) ?_
    refine ia_get 9 (v := .ref (ia_h E 9)) hx hb ht hown hO (by decide) rfl zlX0_39 rfl dX0_liesBehind_5 ?_
    refine lv_iload_n hx hb dX0_liesBehind_8 rfl (lv_at hl 1 rfl) ?_
    refine lv_iconst (v := nI 1) hx hb dX0_liesBehind_9 (by decide) ?_
    refine zk_sub hx hb (by omega) dX0_liesBehind_10 ?_
    refine ia_zld 9 (i - 1) hx hb hO rfl (by omega) dX0_liesBehind_11 ?_
    have b_2 := hg 9 (i - 1)
    refine zk_ifne (tgt := 38) hx hb dX0_liesBehind_12 (by decide) (by omega) (fun c_3 => ?_) (fun c_3 => ?_)
    · refine lv_iconst (v := nI 0) hx hb dX0_liesBehind_38 (by decide) ?_
      exact ia_zret hx hb hr hlk (by omega) (congrArg nI (show 0 = zs_lies g i from by unfold zs_lies; (repeat' split) <;> omega)) dX0_liesBehind_39
    · refine lv_aload_n hx hb dX0_liesBehind_15 rfl (lv_at hl 0 rfl) ?_
      refine lv_iload_n hx hb dX0_liesBehind_16 rfl (lv_at hl 1 rfl) ?_
      refine ia_call (rest := []) hx hb hml hl.1 hown ht hO (zc_bslot l E n g hg i (by omega)) zgX0_124 zyX0_isBehindSlot rfl ⟨by decide, by decide⟩ ⟨Nat.zero_le _, Nat.zero_le _⟩ (Nat.le_of_ble_eq_true rfl) rfl dX0_liesBehind_17 ?_
      have b_4 := zb_bslot g i
      refine zk_ifeq (tgt := 34) hx hb dX0_liesBehind_20 (by decide) (by omega) (fun c_5 => ?_) (fun c_5 => ?_)
      · refine lv_iconst (v := nI 1) hx hb dX0_liesBehind_34 (by decide) ?_
        refine lv_goto (tgt := 39) hx hb dX0_liesBehind_35 (by decide) ?_
        exact ia_zret hx hb hr hlk (by omega) (congrArg nI (show 1 = zs_lies g i from by unfold zs_lies; (repeat' split) <;> omega)) dX0_liesBehind_39
      · refine lv_aload_n hx hb dX0_liesBehind_23 rfl (lv_at hl 0 rfl) ?_
        refine ia_get 6 (v := .ref (ia_h E 6)) hx hb ht hown hO (by decide) rfl zlX0_29 rfl dX0_liesBehind_24 ?_
        refine lv_iload_n hx hb dX0_liesBehind_27 rfl (lv_at hl 1 rfl) ?_
        refine lv_iconst (v := nI 2) hx hb dX0_liesBehind_28 (by decide) ?_
        refine zk_sub hx hb (by omega) dX0_liesBehind_29 ?_
        refine ia_zld 6 (i - 2) hx hb hO rfl (by omega) dX0_liesBehind_30 ?_
        have b_6 := hg 6 (i - 2)
        refine zk_ifne (tgt := 38) hx hb dX0_liesBehind_31 (by decide) (by omega) (fun c_7 => ?_) (fun c_7 => ?_)
        · refine lv_iconst (v := nI 0) hx hb dX0_liesBehind_38 (by decide) ?_
          exact ia_zret hx hb hr hlk (by omega) (congrArg nI (show 0 = zs_lies g i from by unfold zs_lies; (repeat' split) <;> omega)) dX0_liesBehind_39
        · refine lv_iconst (v := nI 1) hx hb dX0_liesBehind_34 (by decide) ?_
          refine lv_goto (tgt := 39) hx hb dX0_liesBehind_35 (by decide) ?_
          exact ia_zret hx hb hr hlk (by omega) (congrArg nI (show 1 = zs_lies g i from by unfold zs_lies; (repeat' split) <;> omega)) dX0_liesBehind_39
set_option maxHeartbeats 4000000 in
set_option maxRecDepth 100000 in
/-- isBehindSlotOfMissedBranch -/
theorem zc_bsm (l : Launch) (E : ia_E) (n : Nat) (g : Nat → Nat → Nat) (hg : zs_B g) (i : Nat) (hi : i < 400) : ia_R l yX0_isBehindSlotOfMissedBranch cX0_isBehindSlotOfMissedBranch 2 .boolean 1 E n g [.int (nI i)] (nI (zs_bsm g i)) := by
  refine ia_Rof (by decide) rfl (Nat.le_of_ble_eq_true rfl) (fun p e s m args below meth c ls hx hb hr hml hown ht hlk hO hl => ?_)
  have hl : lv_has ls 2 [(0, .ref (ia_h E 0)), (1, .int (nI i))] := hl
  refine lv_aload_n hx hb dX0_isBehindSlotOfMissedBranch_0 rfl (lv_at hl 0 rfl) ?_
  refine lv_iload_n hx hb dX0_isBehindSlotOfMissedBranch_1 rfl (lv_at hl 1 rfl) ?_
  refine ia_call (rest := []) hx hb hml hl.1 hown ht hO (zc_bslot l E n g hg i (by omega)) zgX0_124 zyX0_isBehindSlot rfl ⟨by decide, by decide⟩ ⟨Nat.zero_le _, Nat.zero_le _⟩ (Nat.le_of_ble_eq_true rfl) rfl dX0_isBehindSlotOfMissedBranch_2 ?_
  have b_1 := zb_bslot g i
  refine zk_ifeq (tgt := 22) hx hb dX0_isBehindSlotOfMissedBranch_5 (by decide) (by omega) (fun c_2 => ?_) (fun c_2 => ?_)
  · refine lv_iconst (v := nI 0) hx hb dX0_isBehindSlotOfMissedBranch_22 (by decide) ?_
    exact ia_zret hx hb hr hlk (by omega) (congrArg nI (show 0 = zs_bsm g i from by unfold zs_bsm; (repeat' split) <;> omega)) dX0_isBehindSlotOfMissedBranch_23
  · refine lv_aload_n hx hb dX0_isBehindSlotOfMissedBranch_8 rfl (lv_at hl 0 rfl) ?_
    refine lv_iload_n hx hb dX0_isBehindSlotOfMissedBranch_9 rfl (lv_at hl 1 rfl) ?_
    refine lv_iconst (v := nI 2) hx hb dX0_isBehindSlotOfMissedBranch_10 (by decide) ?_
    refine zk_sub hx hb (by omega) dX0_isBehindSlotOfMissedBranch_11 ?_
    refine ia_call (rest := []) hx hb hml hl.1 hown ht hO (zc_missed l E n g hg (i - 2) (by omega)) zgX0_133 zyX0_isMissed rfl ⟨by decide, by decide⟩ ⟨Nat.zero_le _, Nat.zero_le _⟩ (Nat.le_of_ble_eq_true rfl) rfl dX0_isBehindSlotOfMissedBranch_12 ?_
    have b_3 := zb_missed g (i - 2)
    refine zk_ifeq (tgt := 22) hx hb dX0_isBehindSlotOfMissedBranch_15 (by decide) (by omega) (fun c_4 => ?_) (fun c_4 => ?_)
    · refine lv_iconst (v := nI 0) hx hb dX0_isBehindSlotOfMissedBranch_22 (by decide) ?_
      exact ia_zret hx hb hr hlk (by omega) (congrArg nI (show 0 = zs_bsm g i from by unfold zs_bsm; (repeat' split) <;> omega)) dX0_isBehindSlotOfMissedBranch_23
    · refine lv_iconst (v := nI 1) hx hb dX0_isBehindSlotOfMissedBranch_18 (by decide) ?_
      refine lv_goto (tgt := 23) hx hb dX0_isBehindSlotOfMissedBranch_19 (by decide) ?_
      exact ia_zret hx hb hr hlk (by omega) (congrArg nI (show 1 = zs_bsm g i from by unfold zs_bsm; (repeat' split) <;> omega)) dX0_isBehindSlotOfMissedBranch_23
set_option maxHeartbeats 4000000 in
set_option maxRecDepth 100000 in
/-- isRedirected -/
theorem zc_redir (l : Launch) (E : ia_E) (n : Nat) (g : Nat → Nat → Nat) (hg : zs_B g) (i : Nat) (hi : i < 400) : ia_R l yX0_isRedirected cX0_isRedirected 2 .boolean 2 E n g [.int (nI i)] (nI (zs_redir g i)) := by
  refine ia_Rof (by decide) rfl (Nat.le_of_ble_eq_true rfl) (fun p e s m args below meth c ls hx hb hr hml hown ht hlk hO hl => ?_)
  have hl : lv_has ls 2 [(0, .ref (ia_h E 0)), (1, .int (nI i))] := hl
  refine lv_aload_n hx hb dX0_isRedirected_0 rfl (lv_at hl 0 rfl) ?_
  refine lv_iload_n hx hb dX0_isRedirected_1 rfl (lv_at hl 1 rfl) ?_
  refine ia_call (rest := []) hx hb hml hl.1 hown ht hO (zc_bfs l E n g hg i (by omega)) zgX0_127 zyX0_isBehindFailingOrSingle rfl ⟨by decide, by decide⟩ ⟨Nat.zero_le _, Nat.zero_le _⟩ (Nat.le_of_ble_eq_true rfl) rfl dX0_isRedirected_2 ?_
  have b_1 := zb_bfs g i
  refine zk_ifne (tgt := 16) hx hb dX0_isRedirected_5 (by decide) (by omega) (fun c_2 => ?_) (fun c_2 => ?_)
  · refine lv_iconst (v := nI 1) hx hb dX0_isRedirected_16 (by decide) ?_
    refine lv_goto (tgt := 21) hx hb dX0_isRedirected_17 (by decide) ?_
    exact ia_zret hx hb hr hlk (by omega) (congrArg nI (show 1 = zs_redir g i from by unfold zs_redir; (repeat' split) <;> omega)) dX0_isRedirected_21
  · refine lv_aload_n hx hb dX0_isRedirected_8 rfl (lv_at hl 0 rfl) ?_
    refine lv_iload_n hx hb dX0_isRedirected_9 rfl (lv_at hl 1 rfl) ?_
    refine ia_call (rest := []) hx hb hml hl.1 hown ht hO (zc_bsm l E n g hg i (by omega)) zgX0_130 zyX0_isBehindSlotOfMissedBranch rfl ⟨by decide, by decide⟩ ⟨Nat.zero_le _, Nat.zero_le _⟩ (Nat.le_of_ble_eq_true rfl) rfl dX0_isRedirected_10 ?_
    have b_3 := zb_bsm g i
    refine zk_ifeq (tgt := 20) hx hb dX0_isRedirected_13 (by decide) (by omega) (fun c_4 => ?_) (fun c_4 => ?_)
    · refine lv_iconst (v := nI 0) hx hb dX0_isRedirected_20 (by decide) ?_
      exact ia_zret hx hb hr hlk (by omega) (congrArg nI (show 0 = zs_redir g i from by unfold zs_redir; (repeat' split) <;> omega)) dX0_isRedirected_21
    · refine lv_iconst (v := nI 1) hx hb dX0_isRedirected_16 (by decide) ?_
      refine lv_goto (tgt := 21) hx hb dX0_isRedirected_17 (by decide) ?_
      exact ia_zret hx hb hr hlk (by omega) (congrArg nI (show 1 = zs_redir g i from by unfold zs_redir; (repeat' split) <;> omega)) dX0_isRedirected_21
set_option maxHeartbeats 4000000 in
set_option maxRecDepth 100000 in
/-- makesPair -/
theorem zc_pair (l : Launch) (E : ia_E) (n : Nat) (g : Nat → Nat → Nat) (hg : zs_B g) (i : Nat) (hi : i < 400) : ia_R l yX0_makesPair cX0_makesPair 4 .boolean 1 E n g [.int (nI i)] (nI (zs_pair g i)) := by
  refine ia_Rof (by decide) rfl (Nat.le_of_ble_eq_true rfl) (fun p e s m args below meth c ls hx hb hr hml hown ht hlk hO hl => ?_)
  have hl : lv_has ls 4 [(0, .ref (ia_h E 0)), (1, .int (nI i))] := hl
  refine lv_iload_n hx hb dX0_makesPair_0 rfl (lv_at hl 1 rfl) ?_
  refine zk_ifne (tgt := 6) hx hb dX0_makesPair_1 (by decide) (by omega) (fun c_1 => ?_) (fun c_1 => ?_)
  · refine lv_aload_n hx hb dX0_makesPair_6 rfl (lv_at hl 0 rfl) ?_
    refine ia_get 1 (v := .ref (ia_h E 1)) hx hb ht hown hO (by decide) rfl zlX0_13 rfl dX0_makesPair_7 ?_
    refine lv_iload_n hx hb dX0_makesPair_10 rfl (lv_at hl 1 rfl) ?_
    refine lv_iconst (v := nI 1) hx hb dX0_makesPair_11 (by decide) ?_
    refine zk_sub hx hb (by omega) dX0_makesPair_12 ?_
    refine ia_ild 1 (i - 1) hx hb hO rfl (by omega) dX0_makesPair_13 ?_
    have b_2 := hg 1 (i - 1)
    refine lv_istore_n (lv' := [(2, .int (nI (g 1 (i - 1)))), (0, .ref (ia_h E 0)), (1, .int (nI i))]) hx hb dX0_makesPair_14 rfl hl (by decide) rfl (fun ls hl => ?_)
    refine lv_aload_n hx hb dX0_makesPair_15 rfl (lv_at hl 1 rfl) ?_
    refine ia_get 1 (v := .ref (ia_h E 1)) hx hb ht hown hO (by decide) rfl zlX0_13 rfl dX0_makesPair_16 ?_
    refine lv_iload_n hx hb dX0_makesPair_19 rfl (lv_at hl 2 rfl) ?_
    refine ia_ild 1 i hx hb hO rfl (by omega) dX0_makesPair_20 ?_
    have b_3 := hg 1 i
    refine lv_istore_n (lv' := [(3, .int (nI (g 1 i))), (2, .int (nI (g 1 (i - 1)))), (0, .ref (ia_h E 0)), (1, .int (nI i))]) hx hb dX0_makesPair_21 rfl hl (by decide) rfl (fun ls hl => ?_)
    refine lv_iload_n hx hb dX0_makesPair_22 rfl (lv_at hl 1 rfl) ?_
    refine lv_bipush (v := nI 6) hx hb dX0_makesPair_23 (by decide) ?_
    refine zk_ceq (tgt := 39) hx hb dX0_makesPair_25 (by decide) (by omega) (by omega) (fun c_4 => ?_) (fun c_4 => ?_)
    · refine lv_iconst (v := nI 0) hx hb dX0_makesPair_39 (by decide) ?_
      exact ia_zret hx hb hr hlk (by omega) (congrArg nI (show 0 = zs_pair g i from by unfold zs_pair; (repeat' split) <;> omega)) dX0_makesPair_40
    · refine lv_iload_n hx hb dX0_makesPair_28 rfl (lv_at hl 0 rfl) ?_
      refine lv_bipush (v := nI 6) hx hb dX0_makesPair_29 (by decide) ?_
      refine zk_ceq (tgt := 39) hx hb dX0_makesPair_31 (by decide) (by omega) (by omega) (fun c_5 => ?_) (fun c_5 => ?_)
      · refine lv_iconst (v := nI 0) hx hb dX0_makesPair_39 (by decide) ?_
        exact ia_zret hx hb hr hlk (by omega) (congrArg nI (show 0 = zs_pair g i from by unfold zs_pair; (repeat' split) <;> omega)) dX0_makesPair_40
      · refine lv_iload_n hx hb dX0_makesPair_34 rfl (lv_at hl 1 rfl) ?_
        refine lv_iconst (v := nI 5) hx hb dX0_makesPair_35 (by decide) ?_
        refine zk_cne (tgt := 41) hx hb dX0_makesPair_36 (by decide) (by omega) (by omega) (fun c_6 => ?_) (fun c_6 => ?_)
        · refine lv_iload_n hx hb dX0_makesPair_41 rfl (lv_at hl 1 rfl) ?_
          refine ia_callS (rest := []) hx hb hml hl.1 hown ht (zc_mem l (g 1 (i - 1)) (by omega)) zgX0_153 zyX0_usesMemory rfl ⟨by decide, by decide⟩ ⟨Nat.zero_le _, Nat.zero_le _⟩ (Nat.le_of_ble_eq_true rfl) rfl dX0_makesPair_42 ?_
          have b_7 := zb_mem (g 1 (i - 1))
          refine zk_ifeq (tgt := 57) hx hb dX0_makesPair_45 (by decide) (by omega) (fun c_8 => ?_) (fun c_8 => ?_)
          · refine lv_iload_n hx hb dX0_makesPair_57 rfl (lv_at hl 1 rfl) ?_
            refine ia_callS (rest := []) hx hb hml hl.1 hown ht (zc_mul l (g 1 (i - 1)) (by omega)) zgX0_156 zyX0_usesMultiplier rfl ⟨by decide, by decide⟩ ⟨Nat.zero_le _, Nat.zero_le _⟩ (Nat.le_of_ble_eq_true rfl) rfl dX0_makesPair_58 ?_
            have b_9 := zb_mul (g 1 (i - 1))
            refine zk_ifeq (tgt := 73) hx hb dX0_makesPair_61 (by decide) (by omega) (fun c_10 => ?_) (fun c_10 => ?_)
            · refine lv_aload_n hx hb dX0_makesPair_73 rfl (lv_at hl 2 rfl) ?_
              refine lv_iload_n hx hb dX0_makesPair_74 rfl (lv_at hl 3 rfl) ?_
              refine lv_aload_n hx hb dX0_makesPair_75 rfl (lv_at hl 2 rfl) ?_
              refine ia_get 2 (v := .ref (ia_h E 2)) hx hb ht hown hO (by decide) rfl zlX0_17 rfl dX0_makesPair_76 ?_
              refine lv_iload_n hx hb dX0_makesPair_79 rfl (lv_at hl 3 rfl) ?_
              refine lv_iconst (v := nI 1) hx hb dX0_makesPair_80 (by decide) ?_
              refine zk_sub hx hb (by omega) dX0_makesPair_81 ?_
              refine ia_ild 2 (i - 1) hx hb hO rfl (by omega) dX0_makesPair_82 ?_
              have b_11 := hg 2 (i - 1)
              refine ia_call (rest := []) hx hb hml hl.1 hown ht hO (zc_reads l E n g hg i (g 2 (i - 1)) (by omega) (by omega)) zgX0_159 zyX0_reads rfl ⟨by decide, by decide⟩ ⟨Nat.zero_le _, Nat.zero_le _⟩ (Nat.le_of_ble_eq_true rfl) rfl dX0_makesPair_83 ?_
              have b_12 := zb_reads g i (g 2 (i - 1))
              refine zk_ifne (tgt := 93) hx hb dX0_makesPair_86 (by decide) (by omega) (fun c_13 => ?_) (fun c_13 => ?_)
              · refine lv_iconst (v := nI 0) hx hb dX0_makesPair_93 (by decide) ?_
                exact ia_zret hx hb hr hlk (by omega) (congrArg nI (show 0 = zs_pair g i from by unfold zs_pair; (repeat' split) <;> omega)) dX0_makesPair_94
              · refine lv_iconst (v := nI 1) hx hb dX0_makesPair_89 (by decide) ?_
                refine lv_goto (tgt := 94) hx hb dX0_makesPair_90 (by decide) ?_
                exact ia_zret hx hb hr hlk (by omega) (congrArg nI (show 1 = zs_pair g i from by unfold zs_pair; (repeat' split) <;> omega)) dX0_makesPair_94
            · refine lv_iload_n hx hb dX0_makesPair_64 rfl (lv_at hl 0 rfl) ?_
              refine ia_callS (rest := []) hx hb hml hl.1 hown ht (zc_mul l (g 1 i) (by omega)) zgX0_156 zyX0_usesMultiplier rfl ⟨by decide, by decide⟩ ⟨Nat.zero_le _, Nat.zero_le _⟩ (Nat.le_of_ble_eq_true rfl) rfl dX0_makesPair_65 ?_
              have b_14 := zb_mul (g 1 i)
              refine zk_ifeq (tgt := 73) hx hb dX0_makesPair_68 (by decide) (by omega) (fun c_15 => ?_) (fun c_15 => ?_)
              · refine lv_aload_n hx hb dX0_makesPair_73 rfl (lv_at hl 2 rfl) ?_
                refine lv_iload_n hx hb dX0_makesPair_74 rfl (lv_at hl 3 rfl) ?_
                refine lv_aload_n hx hb dX0_makesPair_75 rfl (lv_at hl 2 rfl) ?_
                refine ia_get 2 (v := .ref (ia_h E 2)) hx hb ht hown hO (by decide) rfl zlX0_17 rfl dX0_makesPair_76 ?_
                refine lv_iload_n hx hb dX0_makesPair_79 rfl (lv_at hl 3 rfl) ?_
                refine lv_iconst (v := nI 1) hx hb dX0_makesPair_80 (by decide) ?_
                refine zk_sub hx hb (by omega) dX0_makesPair_81 ?_
                refine ia_ild 2 (i - 1) hx hb hO rfl (by omega) dX0_makesPair_82 ?_
                have b_16 := hg 2 (i - 1)
                refine ia_call (rest := []) hx hb hml hl.1 hown ht hO (zc_reads l E n g hg i (g 2 (i - 1)) (by omega) (by omega)) zgX0_159 zyX0_reads rfl ⟨by decide, by decide⟩ ⟨Nat.zero_le _, Nat.zero_le _⟩ (Nat.le_of_ble_eq_true rfl) rfl dX0_makesPair_83 ?_
                have b_17 := zb_reads g i (g 2 (i - 1))
                refine zk_ifne (tgt := 93) hx hb dX0_makesPair_86 (by decide) (by omega) (fun c_18 => ?_) (fun c_18 => ?_)
                · refine lv_iconst (v := nI 0) hx hb dX0_makesPair_93 (by decide) ?_
                  exact ia_zret hx hb hr hlk (by omega) (congrArg nI (show 0 = zs_pair g i from by unfold zs_pair; (repeat' split) <;> omega)) dX0_makesPair_94
                · refine lv_iconst (v := nI 1) hx hb dX0_makesPair_89 (by decide) ?_
                  refine lv_goto (tgt := 94) hx hb dX0_makesPair_90 (by decide) ?_
                  exact ia_zret hx hb hr hlk (by omega) (congrArg nI (show 1 = zs_pair g i from by unfold zs_pair; (repeat' split) <;> omega)) dX0_makesPair_94
              · refine lv_iconst (v := nI 0) hx hb dX0_makesPair_71 (by decide) ?_
                exact ia_zret hx hb hr hlk (by omega) (congrArg nI (show 0 = zs_pair g i from by unfold zs_pair; (repeat' split) <;> omega)) dX0_makesPair_72
          · refine lv_iload_n hx hb dX0_makesPair_48 rfl (lv_at hl 0 rfl) ?_
            refine ia_callS (rest := []) hx hb hml hl.1 hown ht (zc_mem l (g 1 i) (by omega)) zgX0_153 zyX0_usesMemory rfl ⟨by decide, by decide⟩ ⟨Nat.zero_le _, Nat.zero_le _⟩ (Nat.le_of_ble_eq_true rfl) rfl dX0_makesPair_49 ?_
            have b_19 := zb_mem (g 1 i)
            refine zk_ifeq (tgt := 57) hx hb dX0_makesPair_52 (by decide) (by omega) (fun c_20 => ?_) (fun c_20 => ?_)
            · refine lv_iload_n hx hb dX0_makesPair_57 rfl (lv_at hl 1 rfl) ?_
              refine ia_callS (rest := []) hx hb hml hl.1 hown ht (zc_mul l (g 1 (i - 1)) (by omega)) zgX0_156 zyX0_usesMultiplier rfl ⟨by decide, by decide⟩ ⟨Nat.zero_le _, Nat.zero_le _⟩ (Nat.le_of_ble_eq_true rfl) rfl dX0_makesPair_58 ?_
              have b_21 := zb_mul (g 1 (i - 1))
              refine zk_ifeq (tgt := 73) hx hb dX0_makesPair_61 (by decide) (by omega) (fun c_22 => ?_) (fun c_22 => ?_)
              · refine lv_aload_n hx hb dX0_makesPair_73 rfl (lv_at hl 2 rfl) ?_
                refine lv_iload_n hx hb dX0_makesPair_74 rfl (lv_at hl 3 rfl) ?_
                refine lv_aload_n hx hb dX0_makesPair_75 rfl (lv_at hl 2 rfl) ?_
                refine ia_get 2 (v := .ref (ia_h E 2)) hx hb ht hown hO (by decide) rfl zlX0_17 rfl dX0_makesPair_76 ?_
                refine lv_iload_n hx hb dX0_makesPair_79 rfl (lv_at hl 3 rfl) ?_
                refine lv_iconst (v := nI 1) hx hb dX0_makesPair_80 (by decide) ?_
                refine zk_sub hx hb (by omega) dX0_makesPair_81 ?_
                refine ia_ild 2 (i - 1) hx hb hO rfl (by omega) dX0_makesPair_82 ?_
                have b_23 := hg 2 (i - 1)
                refine ia_call (rest := []) hx hb hml hl.1 hown ht hO (zc_reads l E n g hg i (g 2 (i - 1)) (by omega) (by omega)) zgX0_159 zyX0_reads rfl ⟨by decide, by decide⟩ ⟨Nat.zero_le _, Nat.zero_le _⟩ (Nat.le_of_ble_eq_true rfl) rfl dX0_makesPair_83 ?_
                have b_24 := zb_reads g i (g 2 (i - 1))
                refine zk_ifne (tgt := 93) hx hb dX0_makesPair_86 (by decide) (by omega) (fun c_25 => ?_) (fun c_25 => ?_)
                · refine lv_iconst (v := nI 0) hx hb dX0_makesPair_93 (by decide) ?_
                  exact ia_zret hx hb hr hlk (by omega) (congrArg nI (show 0 = zs_pair g i from by unfold zs_pair; (repeat' split) <;> omega)) dX0_makesPair_94
                · refine lv_iconst (v := nI 1) hx hb dX0_makesPair_89 (by decide) ?_
                  refine lv_goto (tgt := 94) hx hb dX0_makesPair_90 (by decide) ?_
                  exact ia_zret hx hb hr hlk (by omega) (congrArg nI (show 1 = zs_pair g i from by unfold zs_pair; (repeat' split) <;> omega)) dX0_makesPair_94
              · refine lv_iload_n hx hb dX0_makesPair_64 rfl (lv_at hl 0 rfl) ?_
                refine ia_callS (rest := []) hx hb hml hl.1 hown ht (zc_mul l (g 1 i) (by omega)) zgX0_156 zyX0_usesMultiplier rfl ⟨by decide, by decide⟩ ⟨Nat.zero_le _, Nat.zero_le _⟩ (Nat.le_of_ble_eq_true rfl) rfl dX0_makesPair_65 ?_
                have b_26 := zb_mul (g 1 i)
                refine zk_ifeq (tgt := 73) hx hb dX0_makesPair_68 (by decide) (by omega) (fun c_27 => ?_) (fun c_27 => ?_)
                · refine lv_aload_n hx hb dX0_makesPair_73 rfl (lv_at hl 2 rfl) ?_
                  refine lv_iload_n hx hb dX0_makesPair_74 rfl (lv_at hl 3 rfl) ?_
                  refine lv_aload_n hx hb dX0_makesPair_75 rfl (lv_at hl 2 rfl) ?_
                  refine ia_get 2 (v := .ref (ia_h E 2)) hx hb ht hown hO (by decide) rfl zlX0_17 rfl dX0_makesPair_76 ?_
                  refine lv_iload_n hx hb dX0_makesPair_79 rfl (lv_at hl 3 rfl) ?_
                  refine lv_iconst (v := nI 1) hx hb dX0_makesPair_80 (by decide) ?_
                  refine zk_sub hx hb (by omega) dX0_makesPair_81 ?_
                  refine ia_ild 2 (i - 1) hx hb hO rfl (by omega) dX0_makesPair_82 ?_
                  have b_28 := hg 2 (i - 1)
                  refine ia_call (rest := []) hx hb hml hl.1 hown ht hO (zc_reads l E n g hg i (g 2 (i - 1)) (by omega) (by omega)) zgX0_159 zyX0_reads rfl ⟨by decide, by decide⟩ ⟨Nat.zero_le _, Nat.zero_le _⟩ (Nat.le_of_ble_eq_true rfl) rfl dX0_makesPair_83 ?_
                  have b_29 := zb_reads g i (g 2 (i - 1))
                  refine zk_ifne (tgt := 93) hx hb dX0_makesPair_86 (by decide) (by omega) (fun c_30 => ?_) (fun c_30 => ?_)
                  · refine lv_iconst (v := nI 0) hx hb dX0_makesPair_93 (by decide) ?_
                    exact ia_zret hx hb hr hlk (by omega) (congrArg nI (show 0 = zs_pair g i from by unfold zs_pair; (repeat' split) <;> omega)) dX0_makesPair_94
                  · refine lv_iconst (v := nI 1) hx hb dX0_makesPair_89 (by decide) ?_
                    refine lv_goto (tgt := 94) hx hb dX0_makesPair_90 (by decide) ?_
                    exact ia_zret hx hb hr hlk (by omega) (congrArg nI (show 1 = zs_pair g i from by unfold zs_pair; (repeat' split) <;> omega)) dX0_makesPair_94
                · refine lv_iconst (v := nI 0) hx hb dX0_makesPair_71 (by decide) ?_
                  exact ia_zret hx hb hr hlk (by omega) (congrArg nI (show 0 = zs_pair g i from by unfold zs_pair; (repeat' split) <;> omega)) dX0_makesPair_72
            · refine lv_iconst (v := nI 0) hx hb dX0_makesPair_55 (by decide) ?_
              exact ia_zret hx hb hr hlk (by omega) (congrArg nI (show 0 = zs_pair g i from by unfold zs_pair; (repeat' split) <;> omega)) dX0_makesPair_56
        · refine lv_iconst (v := nI 0) hx hb dX0_makesPair_39 (by decide) ?_
          exact ia_zret hx hb hr hlk (by omega) (congrArg nI (show 0 = zs_pair g i from by unfold zs_pair; (repeat' split) <;> omega)) dX0_makesPair_40
  · refine lv_iconst (v := nI 0) hx hb dX0_makesPair_4 (by decide) ?_
    exact ia_zret hx hb hr hlk (by omega) (congrArg nI (show 0 = zs_pair g i from by unfold zs_pair; (repeat' split) <;> omega)) dX0_makesPair_5
set_option maxHeartbeats 4000000 in
set_option maxRecDepth 100000 in
/-- leastInOrder -/
theorem zc_order (l : Launch) (E : ia_E) (n : Nat) (g : Nat → Nat → Nat) (hg : zs_B g) (i : Nat) (hi : i < 400) : ia_R l yX0_leastInOrder cX0_leastInOrder 3 .int 2 E n g [.int (nI i)] (nI (zs_order g i)) := by
  refine ia_Rof (by decide) rfl (Nat.le_of_ble_eq_true rfl) (fun p e s m args below meth c ls hx hb hr hml hown ht hlk hO hl => ?_)
  have hl : lv_has ls 3 [(0, .ref (ia_h E 0)), (1, .int (nI i))] := hl
  refine lv_iload_n hx hb dX0_leastInOrder_0 rfl (lv_at hl 1 rfl) ?_
  refine zk_ifne (tgt := 6) hx hb dX0_leastInOrder_1 (by decide) (by omega) (fun c_1 => ?_) (fun c_1 => ?_)
  · refine zk_cut (nL := 3) 35 (fun v_2 => (i = 1 ∨ g 12 (i - 2) < g 12 (i - 1) → v_2 = 1) ∧ (¬ (i = 1 ∨ g 12 (i - 2) < g 12 (i - 1)) → v_2 = 0)) (fun v_2 => [(0, .ref (ia_h E 0)), (1, .int (nI i))]) (fun v_2 => [.int (nI v_2)]) (fun v_2 ls e_3 hl => ?_) (fun J_4 => ?_)
    · have e_3 : (i = 1 ∨ g 12 (i - 2) < g 12 (i - 1) → v_2 = 1) ∧ (¬ (i = 1 ∨ g 12 (i - 2) < g 12 (i - 1)) → v_2 = 0) := e_3
      have hl : lv_has ls 3 [(0, .ref (ia_h E 0)), (1, .int (nI i))] := hl
      refine lv_istore_n (lv' := [(2, .int (nI v_2)), (0, .ref (ia_h E 0)), (1, .int (nI i))]) hx hb dX0_leastInOrder_35 rfl hl (by decide) rfl (fun ls hl => ?_)
      refine lv_iload_n hx hb dX0_leastInOrder_36 rfl (lv_at hl 0 rfl) ?_
      refine zk_ifeq (tgt := 59) hx hb dX0_leastInOrder_37 (by decide) (by omega) (fun c_5 => ?_) (fun c_5 => ?_)
      · refine lv_aload_n hx hb dX0_leastInOrder_59 rfl (lv_at hl 1 rfl) ?_
        refine ia_get 12 (v := .ref (ia_h E 12)) hx hb ht hown hO (by decide) rfl zlX0_48 rfl dX0_leastInOrder_60 ?_
        refine lv_iload_n hx hb dX0_leastInOrder_63 rfl (lv_at hl 2 rfl) ?_
        refine lv_iconst (v := nI 1) hx hb dX0_leastInOrder_64 (by decide) ?_
        refine zk_sub hx hb (by omega) dX0_leastInOrder_65 ?_
        refine ia_ild 12 (i - 1) hx hb hO rfl (by omega) dX0_leastInOrder_66 ?_
        have b_6 := hg 12 (i - 1)
        refine lv_iconst (v := nI 1) hx hb dX0_leastInOrder_67 (by decide) ?_
        refine zk_add hx hb dX0_leastInOrder_68 ?_
        exact ia_iret hx hb hr hlk (congrArg nI (show (g 12 (i - 1)) + 1 = zs_order g i from by unfold zs_order; (repeat' split) <;> omega)) dX0_leastInOrder_69
      · refine lv_aload_n hx hb dX0_leastInOrder_40 rfl (lv_at hl 1 rfl) ?_
        refine lv_iload_n hx hb dX0_leastInOrder_41 rfl (lv_at hl 2 rfl) ?_
        refine ia_call (rest := []) hx hb hml hl.1 hown ht hO (zc_pair l E n g hg i (by omega)) zgX0_150 zyX0_makesPair rfl ⟨by decide, by decide⟩ ⟨Nat.zero_le _, Nat.zero_le _⟩ (Nat.le_of_ble_eq_true rfl) rfl dX0_leastInOrder_42 ?_
        have b_7 := zb_pair g i
        refine zk_ifeq (tgt := 59) hx hb dX0_leastInOrder_45 (by decide) (by omega) (fun c_8 => ?_) (fun c_8 => ?_)
        · refine lv_aload_n hx hb dX0_leastInOrder_59 rfl (lv_at hl 1 rfl) ?_
          refine ia_get 12 (v := .ref (ia_h E 12)) hx hb ht hown hO (by decide) rfl zlX0_48 rfl dX0_leastInOrder_60 ?_
          refine lv_iload_n hx hb dX0_leastInOrder_63 rfl (lv_at hl 2 rfl) ?_
          refine lv_iconst (v := nI 1) hx hb dX0_leastInOrder_64 (by decide) ?_
          refine zk_sub hx hb (by omega) dX0_leastInOrder_65 ?_
          refine ia_ild 12 (i - 1) hx hb hO rfl (by omega) dX0_leastInOrder_66 ?_
          have b_9 := hg 12 (i - 1)
          refine lv_iconst (v := nI 1) hx hb dX0_leastInOrder_67 (by decide) ?_
          refine zk_add hx hb dX0_leastInOrder_68 ?_
          exact ia_iret hx hb hr hlk (congrArg nI (show (g 12 (i - 1)) + 1 = zs_order g i from by unfold zs_order; (repeat' split) <;> omega)) dX0_leastInOrder_69
        · refine lv_aload_n hx hb dX0_leastInOrder_48 rfl (lv_at hl 1 rfl) ?_
          refine ia_get 12 (v := .ref (ia_h E 12)) hx hb ht hown hO (by decide) rfl zlX0_48 rfl dX0_leastInOrder_49 ?_
          refine lv_iload_n hx hb dX0_leastInOrder_52 rfl (lv_at hl 2 rfl) ?_
          refine lv_iconst (v := nI 1) hx hb dX0_leastInOrder_53 (by decide) ?_
          refine zk_sub hx hb (by omega) dX0_leastInOrder_54 ?_
          refine ia_ild 12 (i - 1) hx hb hO rfl (by omega) dX0_leastInOrder_55 ?_
          have b_10 := hg 12 (i - 1)
          refine lv_goto (tgt := 69) hx hb dX0_leastInOrder_56 (by decide) ?_
          exact ia_iret hx hb hr hlk (congrArg nI (show g 12 (i - 1) = zs_order g i from by unfold zs_order; (repeat' split) <;> omega)) dX0_leastInOrder_69
    · refine lv_iload_n hx hb dX0_leastInOrder_6 rfl (lv_at hl 1 rfl) ?_
      refine lv_iconst (v := nI 1) hx hb dX0_leastInOrder_7 (by decide) ?_
      refine zk_ceq (tgt := 30) hx hb dX0_leastInOrder_8 (by decide) (by omega) (by omega) (fun c_11 => ?_) (fun c_11 => ?_)
      · refine lv_iconst (v := nI 1) hx hb dX0_leastInOrder_30 (by decide) ?_
        refine lv_goto (tgt := 35) hx hb dX0_leastInOrder_31 (by decide) ?_
        exact J_4 1 ls (show (i = 1 ∨ g 12 (i - 2) < g 12 (i - 1) → 1 = 1) ∧ (¬ (i = 1 ∨ g 12 (i - 2) < g 12 (i - 1)) → 1 = 0) from by omega) (lv_sub hl [0, 1] rfl)
      · refine lv_aload_n hx hb dX0_leastInOrder_11 rfl (lv_at hl 0 rfl) ?_
        refine ia_get 12 (v := .ref (ia_h E 12)) hx hb ht hown hO (by decide) rfl zlX0_48 rfl dX0_leastInOrder_12 ?_
        refine lv_iload_n hx hb dX0_leastInOrder_15 rfl (lv_at hl 1 rfl) ?_
        refine lv_iconst (v := nI 2) hx hb dX0_leastInOrder_16 (by decide) ?_
        refine zk_sub hx hb (by omega) dX0_leastInOrder_17 ?_
        refine ia_ild 12 (i - 2) hx hb hO rfl (by omega) dX0_leastInOrder_18 ?_
        have b_12 := hg 12 (i - 2)
        refine lv_aload_n hx hb dX0_leastInOrder_19 rfl (lv_at hl 0 rfl) ?_
        refine ia_get 12 (v := .ref (ia_h E 12)) hx hb ht hown hO (by decide) rfl zlX0_48 rfl dX0_leastInOrder_20 ?_
        refine lv_iload_n hx hb dX0_leastInOrder_23 rfl (lv_at hl 1 rfl) ?_
        refine lv_iconst (v := nI 1) hx hb dX0_leastInOrder_24 (by decide) ?_
        refine zk_sub hx hb (by omega) dX0_leastInOrder_25 ?_
        refine ia_ild 12 (i - 1) hx hb hO rfl (by omega) dX0_leastInOrder_26 ?_
        have b_13 := hg 12 (i - 1)
        refine zk_cge (tgt := 34) hx hb dX0_leastInOrder_27 (by decide) (by omega) (by omega) (fun c_14 => ?_) (fun c_14 => ?_)
        · refine lv_iconst (v := nI 0) hx hb dX0_leastInOrder_34 (by decide) ?_
          exact J_4 0 ls (show (i = 1 ∨ g 12 (i - 2) < g 12 (i - 1) → 0 = 1) ∧ (¬ (i = 1 ∨ g 12 (i - 2) < g 12 (i - 1)) → 0 = 0) from by omega) (lv_sub hl [0, 1] rfl)
        · refine lv_iconst (v := nI 1) hx hb dX0_leastInOrder_30 (by decide) ?_
          refine lv_goto (tgt := 35) hx hb dX0_leastInOrder_31 (by decide) ?_
          exact J_4 1 ls (show (i = 1 ∨ g 12 (i - 2) < g 12 (i - 1) → 1 = 1) ∧ (¬ (i = 1 ∨ g 12 (i - 2) < g 12 (i - 1)) → 1 = 0) from by omega) (lv_sub hl [0, 1] rfl)
  · refine lv_iconst (v := nI 1) hx hb dX0_leastInOrder_4 (by decide) ?_
    exact ia_iret hx hb hr hlk (congrArg nI (show 1 = zs_order g i from by unfold zs_order; (repeat' split) <;> omega)) dX0_leastInOrder_5
set_option maxHeartbeats 4000000 in
set_option maxRecDepth 100000 in
/-- joinsGroup -/
theorem zc_joins (l : Launch) (E : ia_E) (n : Nat) (g : Nat → Nat → Nat) (hg : zs_B g) (i : Nat) (hi : i < 400) : ia_R l yX0_joinsGroup cX0_joinsGroup 3 .boolean 3 E n g [.int (nI i)] (nI (zs_joins g i)) := by
  refine ia_Rof (by decide) rfl (Nat.le_of_ble_eq_true rfl) (fun p e s m args below meth c ls hx hb hr hml hown ht hlk hO hl => ?_)
  have hl : lv_has ls 3 [(0, .ref (ia_h E 0)), (1, .int (nI i))] := hl
  refine lv_iload_n hx hb dX0_joinsGroup_0 rfl (lv_at hl 1 rfl) ?_
  refine zk_ifeq (tgt := 15) hx hb dX0_joinsGroup_1 (by decide) (by omega) (fun c_1 => ?_) (fun c_1 => ?_)
  · refine lv_iconst (v := nI 0) hx hb dX0_joinsGroup_15 (by decide) ?_
    exact ia_zret hx hb hr hlk (by omega) (congrArg nI (show 0 = zs_joins g i from by unfold zs_joins; (repeat' split) <;> omega)) dX0_joinsGroup_16
  · refine lv_aload_n hx hb dX0_joinsGroup_4 rfl (lv_at hl 0 rfl) ?_
    refine ia_get 10 (v := .ref (ia_h E 10)) hx hb ht hown hO (by decide) rfl zlX0_42 rfl dX0_joinsGroup_5 ?_
    refine lv_iload_n hx hb dX0_joinsGroup_8 rfl (lv_at hl 1 rfl) ?_
    refine lv_iconst (v := nI 1) hx hb dX0_joinsGroup_9 (by decide) ?_
    refine zk_sub hx hb (by omega) dX0_joinsGroup_10 ?_
    refine ia_zld 10 (i - 1) hx hb hO rfl (by omega) dX0_joinsGroup_11 ?_
    have b_2 := hg 10 (i - 1)
    refine zk_ifne (tgt := 17) hx hb dX0_joinsGroup_12 (by decide) (by omega) (fun c_3 => ?_) (fun c_3 => ?_)
    · refine zk_cut (nL := 3) 42 (fun v_4 => (zs_bslot g i ≠ 0 ∧ g 5 (i - 2) = 1 → v_4 = 1) ∧ (¬ (zs_bslot g i ≠ 0 ∧ g 5 (i - 2) = 1) → v_4 = 0)) (fun v_4 => [(0, .ref (ia_h E 0)), (1, .int (nI i))]) (fun v_4 => [.int (nI v_4)]) (fun v_4 ls e_5 hl => ?_) (fun J_6 => ?_)
      · have e_5 : (zs_bslot g i ≠ 0 ∧ g 5 (i - 2) = 1 → v_4 = 1) ∧ (¬ (zs_bslot g i ≠ 0 ∧ g 5 (i - 2) = 1) → v_4 = 0) := e_5
        have hl : lv_has ls 3 [(0, .ref (ia_h E 0)), (1, .int (nI i))] := hl
        refine lv_istore_n (lv' := [(2, .int (nI v_4)), (0, .ref (ia_h E 0)), (1, .int (nI i))]) hx hb dX0_joinsGroup_42 rfl hl (by decide) rfl (fun ls hl => ?_)
        refine lv_aload_n hx hb dX0_joinsGroup_43 rfl (lv_at hl 1 rfl) ?_
        refine lv_iload_n hx hb dX0_joinsGroup_44 rfl (lv_at hl 2 rfl) ?_
        refine ia_call (rest := []) hx hb hml hl.1 hown ht hO (zc_lies l E n g hg i (by omega)) zgX0_82 zyX0_liesBehind rfl ⟨by decide, by decide⟩ ⟨Nat.zero_le _, Nat.zero_le _⟩ (Nat.le_of_ble_eq_true rfl) rfl dX0_joinsGroup_45 ?_
        have b_7 := zb_lies g i
        refine zk_ifeq (tgt := 67) hx hb dX0_joinsGroup_48 (by decide) (by omega) (fun c_8 => ?_) (fun c_8 => ?_)
        · refine lv_iconst (v := nI 0) hx hb dX0_joinsGroup_67 (by decide) ?_
          exact ia_zret hx hb hr hlk (by omega) (congrArg nI (show 0 = zs_joins g i from by unfold zs_joins; (repeat' split) <;> omega)) dX0_joinsGroup_68
        · refine lv_aload_n hx hb dX0_joinsGroup_51 rfl (lv_at hl 1 rfl) ?_
          refine lv_iload_n hx hb dX0_joinsGroup_52 rfl (lv_at hl 2 rfl) ?_
          refine ia_call (rest := []) hx hb hml hl.1 hown ht hO (zc_redir l E n g hg i (by omega)) zgX0_79 zyX0_isRedirected rfl ⟨by decide, by decide⟩ ⟨Nat.zero_le _, Nat.zero_le _⟩ (Nat.le_of_ble_eq_true rfl) rfl dX0_joinsGroup_53 ?_
          have b_9 := zb_redir g i
          refine zk_ifne (tgt := 67) hx hb dX0_joinsGroup_56 (by decide) (by omega) (fun c_10 => ?_) (fun c_10 => ?_)
          · refine lv_iconst (v := nI 0) hx hb dX0_joinsGroup_67 (by decide) ?_
            exact ia_zret hx hb hr hlk (by omega) (congrArg nI (show 0 = zs_joins g i from by unfold zs_joins; (repeat' split) <;> omega)) dX0_joinsGroup_68
          · refine lv_iload_n hx hb dX0_joinsGroup_59 rfl (lv_at hl 0 rfl) ?_
            refine zk_ifne (tgt := 67) hx hb dX0_joinsGroup_60 (by decide) (by omega) (fun c_11 => ?_) (fun c_11 => ?_)
            · refine lv_iconst (v := nI 0) hx hb dX0_joinsGroup_67 (by decide) ?_
              exact ia_zret hx hb hr hlk (by omega) (congrArg nI (show 0 = zs_joins g i from by unfold zs_joins; (repeat' split) <;> omega)) dX0_joinsGroup_68
            · refine lv_iconst (v := nI 1) hx hb dX0_joinsGroup_63 (by decide) ?_
              refine lv_goto (tgt := 68) hx hb dX0_joinsGroup_64 (by decide) ?_
              exact ia_zret hx hb hr hlk (by omega) (congrArg nI (show 1 = zs_joins g i from by unfold zs_joins; (repeat' split) <;> omega)) dX0_joinsGroup_68
      · refine lv_aload_n hx hb dX0_joinsGroup_17 rfl (lv_at hl 0 rfl) ?_
        refine lv_iload_n hx hb dX0_joinsGroup_18 rfl (lv_at hl 1 rfl) ?_
        refine ia_call (rest := []) hx hb hml hl.1 hown ht hO (zc_bslot l E n g hg i (by omega)) zgX0_124 zyX0_isBehindSlot rfl ⟨by decide, by decide⟩ ⟨Nat.zero_le _, Nat.zero_le _⟩ (Nat.le_of_ble_eq_true rfl) rfl dX0_joinsGroup_19 ?_
        have b_12 := zb_bslot g i
        refine zk_ifeq (tgt := 41) hx hb dX0_joinsGroup_22 (by decide) (by omega) (fun c_13 => ?_) (fun c_13 => ?_)
        · refine lv_iconst (v := nI 0) hx hb dX0_joinsGroup_41 (by decide) ?_
          exact J_6 0 ls (show (zs_bslot g i ≠ 0 ∧ g 5 (i - 2) = 1 → 0 = 1) ∧ (¬ (zs_bslot g i ≠ 0 ∧ g 5 (i - 2) = 1) → 0 = 0) from by omega) (lv_sub hl [0, 1] rfl)
        · refine lv_aload_n hx hb dX0_joinsGroup_25 rfl (lv_at hl 0 rfl) ?_
          refine ia_get 5 (v := .ref (ia_h E 5)) hx hb ht hown hO (by decide) rfl zlX0_26 rfl dX0_joinsGroup_26 ?_
          refine lv_iload_n hx hb dX0_joinsGroup_29 rfl (lv_at hl 1 rfl) ?_
          refine lv_iconst (v := nI 2) hx hb dX0_joinsGroup_30 (by decide) ?_
          refine zk_sub hx hb (by omega) dX0_joinsGroup_31 ?_
          refine ia_ild 5 (i - 2) hx hb hO rfl (by omega) dX0_joinsGroup_32 ?_
          have b_14 := hg 5 (i - 2)
          refine lv_iconst (v := nI 1) hx hb dX0_joinsGroup_33 (by decide) ?_
          refine zk_cne (tgt := 41) hx hb dX0_joinsGroup_34 (by decide) (by omega) (by omega) (fun c_15 => ?_) (fun c_15 => ?_)
          · refine lv_iconst (v := nI 0) hx hb dX0_joinsGroup_41 (by decide) ?_
            exact J_6 0 ls (show (zs_bslot g i ≠ 0 ∧ g 5 (i - 2) = 1 → 0 = 1) ∧ (¬ (zs_bslot g i ≠ 0 ∧ g 5 (i - 2) = 1) → 0 = 0) from by omega) (lv_sub hl [0, 1] rfl)
          · refine lv_iconst (v := nI 1) hx hb dX0_joinsGroup_37 (by decide) ?_
            refine lv_goto (tgt := 42) hx hb dX0_joinsGroup_38 (by decide) ?_
            exact J_6 1 ls (show (zs_bslot g i ≠ 0 ∧ g 5 (i - 2) = 1 → 1 = 1) ∧ (¬ (zs_bslot g i ≠ 0 ∧ g 5 (i - 2) = 1) → 1 = 0) from by omega) (lv_sub hl [0, 1] rfl)
    · refine lv_iconst (v := nI 0) hx hb dX0_joinsGroup_15 (by decide) ?_
      exact ia_zret hx hb hr hlk (by omega) (congrArg nI (show 0 = zs_joins g i from by unfold zs_joins; (repeat' split) <;> omega)) dX0_joinsGroup_16
set_option maxHeartbeats 4000000 in
set_option maxRecDepth 100000 in
/-- leastFetchTime -/
theorem zc_fetch (l : Launch) (E : ia_E) (n : Nat) (g : Nat → Nat → Nat) (hg : zs_B g) (i : Nat) (hi : i < 400) : ia_R l yX0_leastFetchTime cX0_leastFetchTime 3 .int 2 E n g [.int (nI i)] (nI (zs_fetch g i)) := by
  refine ia_Rof (by decide) rfl (Nat.le_of_ble_eq_true rfl) (fun p e s m args below meth c ls hx hb hr hml hown ht hlk hO hl => ?_)
  have hl : lv_has ls 3 [(0, .ref (ia_h E 0)), (1, .int (nI i))] := hl
  refine lv_iload_n hx hb dX0_leastFetchTime_0 rfl (lv_at hl 1 rfl) ?_
  refine zk_ifne (tgt := 6) hx hb dX0_leastFetchTime_1 (by decide) (by omega) (fun c_1 => ?_) (fun c_1 => ?_)
  · refine lv_aload_n hx hb dX0_leastFetchTime_6 rfl (lv_at hl 0 rfl) ?_
    refine ia_get 10 (v := .ref (ia_h E 10)) hx hb ht hown hO (by decide) rfl zlX0_42 rfl dX0_leastFetchTime_7 ?_
    refine lv_iload_n hx hb dX0_leastFetchTime_10 rfl (lv_at hl 1 rfl) ?_
    refine ia_zld 10 i hx hb hO rfl (by omega) dX0_leastFetchTime_11 ?_
    have b_2 := hg 10 i
    refine zk_ifne (tgt := 24) hx hb dX0_leastFetchTime_12 (by decide) (by omega) (fun c_3 => ?_) (fun c_3 => ?_)
    · refine lv_aload_n hx hb dX0_leastFetchTime_24 rfl (lv_at hl 0 rfl) ?_
      refine ia_get 11 (v := .ref (ia_h E 11)) hx hb ht hown hO (by decide) rfl zlX0_45 rfl dX0_leastFetchTime_25 ?_
      refine lv_iload_n hx hb dX0_leastFetchTime_28 rfl (lv_at hl 1 rfl) ?_
      refine lv_iconst (v := nI 1) hx hb dX0_leastFetchTime_29 (by decide) ?_
      refine zk_sub hx hb (by omega) dX0_leastFetchTime_30 ?_
      refine ia_ild 11 (i - 1) hx hb hO rfl (by omega) dX0_leastFetchTime_31 ?_
      have b_4 := hg 11 (i - 1)
      refine lv_iconst (v := nI 1) hx hb dX0_leastFetchTime_32 (by decide) ?_
      refine zk_add hx hb dX0_leastFetchTime_33 ?_
      refine lv_istore_n (lv' := [(2, .int (nI ((g 11 (i - 1)) + 1))), (0, .ref (ia_h E 0)), (1, .int (nI i))]) hx hb dX0_leastFetchTime_34 rfl hl (by decide) rfl (fun ls hl => ?_)
      have p_8 := hg 12 (i - 5)
      refine zk_cut (nL := 3) 55 (fun v_5 => (5 ≤ i → v_5 = max (g 11 (i - 1) + 1) (g 12 (i - 5) + 1)) ∧ (¬ (5 ≤ i) → v_5 = g 11 (i - 1) + 1)) (fun v_5 => [(2, .int (nI v_5)), (0, .ref (ia_h E 0)), (1, .int (nI i))]) (fun v_5 => []) (fun v_5 ls e_6 hl => ?_) (fun J_7 => ?_)
      · have e_6 : (5 ≤ i → v_5 = max (g 11 (i - 1) + 1) (g 12 (i - 5) + 1)) ∧ (¬ (5 ≤ i) → v_5 = g 11 (i - 1) + 1) := e_6
        have hl : lv_has ls 3 [(2, .int (nI v_5)), (0, .ref (ia_h E 0)), (1, .int (nI i))] := hl
        have p_12 := hg 13 (i - 1)
        refine zk_cut (nL := 3) 78 (fun v_9 => (zs_bfs g i ≠ 0 → v_9 = max v_5 (g 13 (i - 1) + 1)) ∧ (¬ (zs_bfs g i ≠ 0) → v_9 = v_5)) (fun v_9 => [(2, .int (nI v_9)), (0, .ref (ia_h E 0)), (1, .int (nI i))]) (fun v_9 => []) (fun v_9 ls e_10 hl => ?_) (fun J_11 => ?_)
        · have e_10 : (zs_bfs g i ≠ 0 → v_9 = max v_5 (g 13 (i - 1) + 1)) ∧ (¬ (zs_bfs g i ≠ 0) → v_9 = v_5) := e_10
          have hl : lv_has ls 3 [(2, .int (nI v_9)), (0, .ref (ia_h E 0)), (1, .int (nI i))] := hl
          have p_16 := hg 12 (i - 2)
          have p_17 := zb_bsm g i
          refine zk_cut (nL := 3) 101 (fun v_13 => (zs_bsm g i ≠ 0 → v_13 = max v_9 (g 12 (i - 2) + 2)) ∧ (¬ (zs_bsm g i ≠ 0) → v_13 = v_9)) (fun v_13 => [(2, .int (nI v_13)), (0, .ref (ia_h E 0)), (1, .int (nI i))]) (fun v_13 => []) (fun v_13 ls e_14 hl => ?_) (fun J_15 => ?_)
          · have e_14 : (zs_bsm g i ≠ 0 → v_13 = max v_9 (g 12 (i - 2) + 2)) ∧ (¬ (zs_bsm g i ≠ 0) → v_13 = v_9) := e_14
            have hl : lv_has ls 3 [(2, .int (nI v_13)), (0, .ref (ia_h E 0)), (1, .int (nI i))] := hl
            refine lv_iload_n hx hb dX0_leastFetchTime_101 rfl (lv_at hl 0 rfl) ?_
            exact ia_iret hx hb hr hlk (congrArg nI (show v_13 = zs_fetch g i from by unfold zs_fetch; (repeat' split) <;> omega)) dX0_leastFetchTime_102
          · refine lv_aload_n hx hb dX0_leastFetchTime_78 rfl (lv_at hl 1 rfl) ?_
            refine lv_iload_n hx hb dX0_leastFetchTime_79 rfl (lv_at hl 2 rfl) ?_
            refine ia_call (rest := []) hx hb hml hl.1 hown ht hO (zc_bsm l E n g hg i (by omega)) zgX0_130 zyX0_isBehindSlotOfMissedBranch rfl ⟨by decide, by decide⟩ ⟨Nat.zero_le _, Nat.zero_le _⟩ (Nat.le_of_ble_eq_true rfl) rfl dX0_leastFetchTime_80 ?_
            have b_18 := zb_bsm g i
            refine zk_ifeq (tgt := 101) hx hb dX0_leastFetchTime_83 (by decide) (by omega) (fun c_19 => ?_) (fun c_19 => ?_)
            · exact J_15 v_9 ls (show (zs_bsm g i ≠ 0 → v_9 = max v_9 (g 12 (i - 2) + 2)) ∧ (¬ (zs_bsm g i ≠ 0) → v_9 = v_9) from by omega) (lv_sub hl [0, 1, 2] rfl)
            · refine lv_iload_n hx hb dX0_leastFetchTime_86 rfl (lv_at hl 0 rfl) ?_
              refine lv_aload_n hx hb dX0_leastFetchTime_87 rfl (lv_at hl 1 rfl) ?_
              refine ia_get 12 (v := .ref (ia_h E 12)) hx hb ht hown hO (by decide) rfl zlX0_48 rfl dX0_leastFetchTime_88 ?_
              refine lv_iload_n hx hb dX0_leastFetchTime_91 rfl (lv_at hl 2 rfl) ?_
              refine lv_iconst (v := nI 2) hx hb dX0_leastFetchTime_92 (by decide) ?_
              refine zk_sub hx hb (by omega) dX0_leastFetchTime_93 ?_
              refine ia_ild 12 (i - 2) hx hb hO rfl (by omega) dX0_leastFetchTime_94 ?_
              have b_20 := hg 12 (i - 2)
              refine lv_iconst (v := nI 2) hx hb dX0_leastFetchTime_95 (by decide) ?_
              refine zk_add hx hb dX0_leastFetchTime_96 ?_
              refine ia_max hx hb hml hl.1 ht hown (by omega) (by omega) zmX0_136 (Nat.le_of_ble_eq_true rfl) (Nat.le_of_ble_eq_true rfl) ⟨Nat.zero_le _, Nat.zero_le _⟩ dX0_leastFetchTime_97 ?_
              refine lv_istore_n (lv' := [(2, .int (nI (max v_9 ((g 12 (i - 2)) + 2)))), (0, .ref (ia_h E 0)), (1, .int (nI i))]) hx hb dX0_leastFetchTime_100 rfl hl (by decide) rfl (fun ls hl => ?_)
              exact J_15 (max v_9 ((g 12 (i - 2)) + 2)) ls (show (zs_bsm g i ≠ 0 → (max v_9 ((g 12 (i - 2)) + 2)) = max v_9 (g 12 (i - 2) + 2)) ∧ (¬ (zs_bsm g i ≠ 0) → (max v_9 ((g 12 (i - 2)) + 2)) = v_9) from by omega) (lv_sub hl [0, 1, 2] rfl)
        · refine lv_aload_n hx hb dX0_leastFetchTime_55 rfl (lv_at hl 1 rfl) ?_
          refine lv_iload_n hx hb dX0_leastFetchTime_56 rfl (lv_at hl 2 rfl) ?_
          refine ia_call (rest := []) hx hb hml hl.1 hown ht hO (zc_bfs l E n g hg i (by omega)) zgX0_127 zyX0_isBehindFailingOrSingle rfl ⟨by decide, by decide⟩ ⟨Nat.zero_le _, Nat.zero_le _⟩ (Nat.le_of_ble_eq_true rfl) rfl dX0_leastFetchTime_57 ?_
          have b_21 := zb_bfs g i
          refine zk_ifeq (tgt := 78) hx hb dX0_leastFetchTime_60 (by decide) (by omega) (fun c_22 => ?_) (fun c_22 => ?_)
          · exact J_11 v_5 ls (show (zs_bfs g i ≠ 0 → v_5 = max v_5 (g 13 (i - 1) + 1)) ∧ (¬ (zs_bfs g i ≠ 0) → v_5 = v_5) from by omega) (lv_sub hl [0, 1, 2] rfl)
          · refine lv_iload_n hx hb dX0_leastFetchTime_63 rfl (lv_at hl 0 rfl) ?_
            refine lv_aload_n hx hb dX0_leastFetchTime_64 rfl (lv_at hl 1 rfl) ?_
            refine ia_get 13 (v := .ref (ia_h E 13)) hx hb ht hown hO (by decide) rfl zlX0_51 rfl dX0_leastFetchTime_65 ?_
            refine lv_iload_n hx hb dX0_leastFetchTime_68 rfl (lv_at hl 2 rfl) ?_
            refine lv_iconst (v := nI 1) hx hb dX0_leastFetchTime_69 (by decide) ?_
            refine zk_sub hx hb (by omega) dX0_leastFetchTime_70 ?_
            refine ia_ild 13 (i - 1) hx hb hO rfl (by omega) dX0_leastFetchTime_71 ?_
            have b_23 := hg 13 (i - 1)
            refine lv_iconst (v := nI 1) hx hb dX0_leastFetchTime_72 (by decide) ?_
            refine zk_add hx hb dX0_leastFetchTime_73 ?_
            refine ia_max hx hb hml hl.1 ht hown (by omega) (by omega) zmX0_136 (Nat.le_of_ble_eq_true rfl) (Nat.le_of_ble_eq_true rfl) ⟨Nat.zero_le _, Nat.zero_le _⟩ dX0_leastFetchTime_74 ?_
            refine lv_istore_n (lv' := [(2, .int (nI (max v_5 ((g 13 (i - 1)) + 1)))), (0, .ref (ia_h E 0)), (1, .int (nI i))]) hx hb dX0_leastFetchTime_77 rfl hl (by decide) rfl (fun ls hl => ?_)
            exact J_11 (max v_5 ((g 13 (i - 1)) + 1)) ls (show (zs_bfs g i ≠ 0 → (max v_5 ((g 13 (i - 1)) + 1)) = max v_5 (g 13 (i - 1) + 1)) ∧ (¬ (zs_bfs g i ≠ 0) → (max v_5 ((g 13 (i - 1)) + 1)) = v_5) from by omega) (lv_sub hl [0, 1, 2] rfl)
      · refine lv_iload_n hx hb dX0_leastFetchTime_35 rfl (lv_at hl 2 rfl) ?_
        refine lv_iconst (v := nI 5) hx hb dX0_leastFetchTime_36 (by decide) ?_
        refine zk_clt (tgt := 55) hx hb dX0_leastFetchTime_37 (by decide) (by omega) (by omega) (fun c_24 => ?_) (fun c_24 => ?_)
        · exact J_7 ((g 11 (i - 1)) + 1) ls (show (5 ≤ i → ((g 11 (i - 1)) + 1) = max (g 11 (i - 1) + 1) (g 12 (i - 5) + 1)) ∧ (¬ (5 ≤ i) → ((g 11 (i - 1)) + 1) = g 11 (i - 1) + 1) from by omega) (lv_sub hl [0, 1, 2] rfl)
        · refine lv_iload_n hx hb dX0_leastFetchTime_40 rfl (lv_at hl 0 rfl) ?_
          refine lv_aload_n hx hb dX0_leastFetchTime_41 rfl (lv_at hl 1 rfl) ?_
          refine ia_get 12 (v := .ref (ia_h E 12)) hx hb ht hown hO (by decide) rfl zlX0_48 rfl dX0_leastFetchTime_42 ?_
          refine lv_iload_n hx hb dX0_leastFetchTime_45 rfl (lv_at hl 2 rfl) ?_
          refine lv_iconst (v := nI 5) hx hb dX0_leastFetchTime_46 (by decide) ?_
          refine zk_sub hx hb (by omega) dX0_leastFetchTime_47 ?_
          refine ia_ild 12 (i - 5) hx hb hO rfl (by omega) dX0_leastFetchTime_48 ?_
          have b_25 := hg 12 (i - 5)
          refine lv_iconst (v := nI 1) hx hb dX0_leastFetchTime_49 (by decide) ?_
          refine zk_add hx hb dX0_leastFetchTime_50 ?_
          refine ia_max hx hb hml hl.1 ht hown (by omega) (by omega) zmX0_136 (Nat.le_of_ble_eq_true rfl) (Nat.le_of_ble_eq_true rfl) ⟨Nat.zero_le _, Nat.zero_le _⟩ dX0_leastFetchTime_51 ?_
          refine lv_istore_n (lv' := [(2, .int (nI (max ((g 11 (i - 1)) + 1) ((g 12 (i - 5)) + 1)))), (0, .ref (ia_h E 0)), (1, .int (nI i))]) hx hb dX0_leastFetchTime_54 rfl hl (by decide) rfl (fun ls hl => ?_)
          exact J_7 (max ((g 11 (i - 1)) + 1) ((g 12 (i - 5)) + 1)) ls (show (5 ≤ i → (max ((g 11 (i - 1)) + 1) ((g 12 (i - 5)) + 1)) = max (g 11 (i - 1) + 1) (g 12 (i - 5) + 1)) ∧ (¬ (5 ≤ i) → (max ((g 11 (i - 1)) + 1) ((g 12 (i - 5)) + 1)) = g 11 (i - 1) + 1) from by omega) (lv_sub hl [0, 1, 2] rfl)
    · refine lv_aload_n hx hb dX0_leastFetchTime_15 rfl (lv_at hl 0 rfl) ?_
      refine ia_get 11 (v := .ref (ia_h E 11)) hx hb ht hown hO (by decide) rfl zlX0_45 rfl dX0_leastFetchTime_16 ?_
      refine lv_iload_n hx hb dX0_leastFetchTime_19 rfl (lv_at hl 1 rfl) ?_
      refine lv_iconst (v := nI 1) hx hb dX0_leastFetchTime_20 (by decide) ?_
      refine zk_sub hx hb (by omega) dX0_leastFetchTime_21 ?_
      refine ia_ild 11 (i - 1) hx hb hO rfl (by omega) dX0_leastFetchTime_22 ?_
      have b_26 := hg 11 (i - 1)
      exact ia_iret hx hb hr hlk (congrArg nI (show g 11 (i - 1) = zs_fetch g i from by unfold zs_fetch; (repeat' split) <;> omega)) dX0_leastFetchTime_23
  · refine lv_iconst (v := nI 1) hx hb dX0_leastFetchTime_4 (by decide) ?_
    exact ia_iret hx hb hr hlk (congrArg nI (show 1 = zs_fetch g i from by unfold zs_fetch; (repeat' split) <;> omega)) dX0_leastFetchTime_5
set_option maxHeartbeats 4000000 in
set_option maxRecDepth 100000 in
/-- leastDoneTime -/
theorem zc_done (l : Launch) (E : ia_E) (n : Nat) (g : Nat → Nat → Nat) (hg : zs_B g) (i : Nat) (hi : i < 400) : ia_R l yX0_leastDoneTime cX0_leastDoneTime 3 .int 1 E n g [.int (nI i)] (nI (zs_done g i)) := by
  refine ia_Rof (by decide) rfl (Nat.le_of_ble_eq_true rfl) (fun p e s m args below meth c ls hx hb hr hml hown ht hlk hO hl => ?_)
  have hl : lv_has ls 3 [(0, .ref (ia_h E 0)), (1, .int (nI i))] := hl
  refine lv_aload_n hx hb dX0_leastDoneTime_0 rfl (lv_at hl 0 rfl) ?_
  refine ia_get 12 (v := .ref (ia_h E 12)) hx hb ht hown hO (by decide) rfl zlX0_48 rfl dX0_leastDoneTime_1 ?_
  refine lv_iload_n hx hb dX0_leastDoneTime_4 rfl (lv_at hl 1 rfl) ?_
  refine ia_ild 12 i hx hb hO rfl (by omega) dX0_leastDoneTime_5 ?_
  have b_1 := hg 12 i
  refine lv_aload_n hx hb dX0_leastDoneTime_6 rfl (lv_at hl 0 rfl) ?_
  refine ia_get 1 (v := .ref (ia_h E 1)) hx hb ht hown hO (by decide) rfl zlX0_13 rfl dX0_leastDoneTime_7 ?_
  refine lv_iload_n hx hb dX0_leastDoneTime_10 rfl (lv_at hl 1 rfl) ?_
  refine ia_ild 1 i hx hb hO rfl (by omega) dX0_leastDoneTime_11 ?_
  have b_2 := hg 1 i
  refine ia_callS (rest := [.int (nI (g 12 i))]) hx hb hml hl.1 hown ht (zc_work l (g 1 i) (by omega)) zgX0_166 zyX0_workOf rfl ⟨by decide, by decide⟩ ⟨Nat.zero_le _, Nat.zero_le _⟩ (Nat.le_of_ble_eq_true rfl) rfl dX0_leastDoneTime_12 ?_
  have b_3 := zb_work (g 1 i)
  refine zk_add hx hb dX0_leastDoneTime_15 ?_
  refine lv_aload_n hx hb dX0_leastDoneTime_16 rfl (lv_at hl 0 rfl) ?_
  refine lv_iload_n hx hb dX0_leastDoneTime_17 rfl (lv_at hl 1 rfl) ?_
  refine ia_call (rest := [.int (nI ((g 12 i) + (zs_work (g 1 i))))]) hx hb hml hl.1 hown ht hO (zc_dbef l E n g hg i (by omega)) zgX0_89 zyX0_doneBefore rfl ⟨by decide, by decide⟩ ⟨Nat.zero_le _, Nat.zero_le _⟩ (Nat.le_of_ble_eq_true rfl) rfl dX0_leastDoneTime_18 ?_
  have b_4 := zb_dbef hg i
  refine ia_max hx hb hml hl.1 ht hown (by omega) (by omega) zmX0_136 (Nat.le_of_ble_eq_true rfl) (Nat.le_of_ble_eq_true rfl) ⟨Nat.zero_le _, Nat.zero_le _⟩ dX0_leastDoneTime_21 ?_
  refine lv_istore_n (lv' := [(2, .int (nI (max ((g 12 i) + (zs_work (g 1 i))) (zs_dbef g i)))), (0, .ref (ia_h E 0)), (1, .int (nI i))]) hx hb dX0_leastDoneTime_24 rfl hl (by decide) rfl (fun ls hl => ?_)
  have p_8 := hg 13 (i - 2)
  refine zk_cut (nL := 3) 45 (fun v_5 => (1 < i → v_5 = max (max ((g 12 i) + (zs_work (g 1 i))) (zs_dbef g i)) (g 13 (i - 2) + 1)) ∧ (¬ (1 < i) → v_5 = max ((g 12 i) + (zs_work (g 1 i))) (zs_dbef g i))) (fun v_5 => [(2, .int (nI v_5)), (0, .ref (ia_h E 0)), (1, .int (nI i))]) (fun v_5 => []) (fun v_5 ls e_6 hl => ?_) (fun J_7 => ?_)
  · have e_6 : (1 < i → v_5 = max (max ((g 12 i) + (zs_work (g 1 i))) (zs_dbef g i)) (g 13 (i - 2) + 1)) ∧ (¬ (1 < i) → v_5 = max ((g 12 i) + (zs_work (g 1 i))) (zs_dbef g i)) := e_6
    have hl : lv_has ls 3 [(2, .int (nI v_5)), (0, .ref (ia_h E 0)), (1, .int (nI i))] := hl
    have p_12 := zb_dbef hg i
    refine zk_cut (nL := 3) 66 (fun v_9 => (g 9 i ≠ 0 → v_9 = max v_5 (zs_dbef g i + 1)) ∧ (¬ (g 9 i ≠ 0) → v_9 = v_5)) (fun v_9 => [(2, .int (nI v_9)), (0, .ref (ia_h E 0)), (1, .int (nI i))]) (fun v_9 => []) (fun v_9 ls e_10 hl => ?_) (fun J_11 => ?_)
    · have e_10 : (g 9 i ≠ 0 → v_9 = max v_5 (zs_dbef g i + 1)) ∧ (¬ (g 9 i ≠ 0) → v_9 = v_5) := e_10
      have hl : lv_has ls 3 [(2, .int (nI v_9)), (0, .ref (ia_h E 0)), (1, .int (nI i))] := hl
      refine lv_iload_n hx hb dX0_leastDoneTime_66 rfl (lv_at hl 0 rfl) ?_
      exact ia_iret hx hb hr hlk (congrArg nI (show v_9 = zs_done g i from by unfold zs_done; (repeat' split) <;> omega)) dX0_leastDoneTime_67
    · refine lv_aload_n hx hb dX0_leastDoneTime_45 rfl (lv_at hl 1 rfl) ?_
      refine ia_get 9 (v := .ref (ia_h E 9)) hx hb ht hown hO (by decide) rfl zlX0_39 rfl dX0_leastDoneTime_46 ?_
      refine lv_iload_n hx hb dX0_leastDoneTime_49 rfl (lv_at hl 2 rfl) ?_
      refine ia_zld 9 i hx hb hO rfl (by omega) dX0_leastDoneTime_50 ?_
      have b_13 := hg 9 i
      refine zk_ifeq (tgt := 66) hx hb dX0_leastDoneTime_51 (by decide) (by omega) (fun c_14 => ?_) (fun c_14 => ?_)
      · exact J_11 v_5 ls (show (g 9 i ≠ 0 → v_5 = max v_5 (zs_dbef g i + 1)) ∧ (¬ (g 9 i ≠ 0) → v_5 = v_5) from by omega) (lv_sub hl [0, 1, 2] rfl)
      · refine lv_iload_n hx hb dX0_leastDoneTime_54 rfl (lv_at hl 0 rfl) ?_
        refine lv_aload_n hx hb dX0_leastDoneTime_55 rfl (lv_at hl 1 rfl) ?_
        refine lv_iload_n hx hb dX0_leastDoneTime_56 rfl (lv_at hl 2 rfl) ?_
        refine ia_call (rest := [.int (nI v_5)]) hx hb hml hl.1 hown ht hO (zc_dbef l E n g hg i (by omega)) zgX0_89 zyX0_doneBefore rfl ⟨by decide, by decide⟩ ⟨Nat.zero_le _, Nat.zero_le _⟩ (Nat.le_of_ble_eq_true rfl) rfl dX0_leastDoneTime_57 ?_
        have b_15 := zb_dbef hg i
        refine lv_iconst (v := nI 1) hx hb dX0_leastDoneTime_60 (by decide) ?_
        refine zk_add hx hb dX0_leastDoneTime_61 ?_
        refine ia_max hx hb hml hl.1 ht hown (by omega) (by omega) zmX0_136 (Nat.le_of_ble_eq_true rfl) (Nat.le_of_ble_eq_true rfl) ⟨Nat.zero_le _, Nat.zero_le _⟩ dX0_leastDoneTime_62 ?_
        refine lv_istore_n (lv' := [(2, .int (nI (max v_5 ((zs_dbef g i) + 1)))), (0, .ref (ia_h E 0)), (1, .int (nI i))]) hx hb dX0_leastDoneTime_65 rfl hl (by decide) rfl (fun ls hl => ?_)
        exact J_11 (max v_5 ((zs_dbef g i) + 1)) ls (show (g 9 i ≠ 0 → (max v_5 ((zs_dbef g i) + 1)) = max v_5 (zs_dbef g i + 1)) ∧ (¬ (g 9 i ≠ 0) → (max v_5 ((zs_dbef g i) + 1)) = v_5) from by omega) (lv_sub hl [0, 1, 2] rfl)
  · refine lv_iload_n hx hb dX0_leastDoneTime_25 rfl (lv_at hl 2 rfl) ?_
    refine lv_iconst (v := nI 1) hx hb dX0_leastDoneTime_26 (by decide) ?_
    refine zk_cle (tgt := 45) hx hb dX0_leastDoneTime_27 (by decide) (by omega) (by omega) (fun c_16 => ?_) (fun c_16 => ?_)
    · exact J_7 (max ((g 12 i) + (zs_work (g 1 i))) (zs_dbef g i)) ls (show (1 < i → (max ((g 12 i) + (zs_work (g 1 i))) (zs_dbef g i)) = max (max ((g 12 i) + (zs_work (g 1 i))) (zs_dbef g i)) (g 13 (i - 2) + 1)) ∧ (¬ (1 < i) → (max ((g 12 i) + (zs_work (g 1 i))) (zs_dbef g i)) = max ((g 12 i) + (zs_work (g 1 i))) (zs_dbef g i)) from by omega) (lv_sub hl [0, 1, 2] rfl)
    · refine lv_iload_n hx hb dX0_leastDoneTime_30 rfl (lv_at hl 0 rfl) ?_
      refine lv_aload_n hx hb dX0_leastDoneTime_31 rfl (lv_at hl 1 rfl) ?_
      refine ia_get 13 (v := .ref (ia_h E 13)) hx hb ht hown hO (by decide) rfl zlX0_51 rfl dX0_leastDoneTime_32 ?_
      refine lv_iload_n hx hb dX0_leastDoneTime_35 rfl (lv_at hl 2 rfl) ?_
      refine lv_iconst (v := nI 2) hx hb dX0_leastDoneTime_36 (by decide) ?_
      refine zk_sub hx hb (by omega) dX0_leastDoneTime_37 ?_
      refine ia_ild 13 (i - 2) hx hb hO rfl (by omega) dX0_leastDoneTime_38 ?_
      have b_17 := hg 13 (i - 2)
      refine lv_iconst (v := nI 1) hx hb dX0_leastDoneTime_39 (by decide) ?_
      refine zk_add hx hb dX0_leastDoneTime_40 ?_
      refine ia_max hx hb hml hl.1 ht hown (by omega) (by omega) zmX0_136 (Nat.le_of_ble_eq_true rfl) (Nat.le_of_ble_eq_true rfl) ⟨Nat.zero_le _, Nat.zero_le _⟩ dX0_leastDoneTime_41 ?_
      refine lv_istore_n (lv' := [(2, .int (nI (max (max ((g 12 i) + (zs_work (g 1 i))) (zs_dbef g i)) ((g 13 (i - 2)) + 1)))), (0, .ref (ia_h E 0)), (1, .int (nI i))]) hx hb dX0_leastDoneTime_44 rfl hl (by decide) rfl (fun ls hl => ?_)
      exact J_7 (max (max ((g 12 i) + (zs_work (g 1 i))) (zs_dbef g i)) ((g 13 (i - 2)) + 1)) ls (show (1 < i → (max (max ((g 12 i) + (zs_work (g 1 i))) (zs_dbef g i)) ((g 13 (i - 2)) + 1)) = max (max ((g 12 i) + (zs_work (g 1 i))) (zs_dbef g i)) (g 13 (i - 2) + 1)) ∧ (¬ (1 < i) → (max (max ((g 12 i) + (zs_work (g 1 i))) (zs_dbef g i)) ((g 13 (i - 2)) + 1)) = max ((g 12 i) + (zs_work (g 1 i))) (zs_dbef g i)) from by omega) (lv_sub hl [0, 1, 2] rfl)
set_option maxHeartbeats 4000000 in
set_option maxRecDepth 100000 in
/-- leastIssueTime -/
theorem zc_issue (l : Launch) (E : ia_E) (n : Nat) (g : Nat → Nat → Nat) (hg : zs_B g) (i : Nat) (hi : i < 400) : ia_R l yX0_leastIssueTime cX0_leastIssueTime 3 .int 3 E n g [.int (nI i)] (nI (zs_issue g i)) := by
  refine ia_Rof (by decide) rfl (Nat.le_of_ble_eq_true rfl) (fun p e s m args below meth c ls hx hb hr hml hown ht hlk hO hl => ?_)
  have hl : lv_has ls 3 [(0, .ref (ia_h E 0)), (1, .int (nI i))] := hl
  refine lv_aload_n hx hb dX0_leastIssueTime_0 rfl (lv_at hl 0 rfl) ?_
  refine ia_get 11 (v := .ref (ia_h E 11)) hx hb ht hown hO (by decide) rfl zlX0_45 rfl dX0_leastIssueTime_1 ?_
  refine lv_iload_n hx hb dX0_leastIssueTime_4 rfl (lv_at hl 1 rfl) ?_
  refine ia_ild 11 i hx hb hO rfl (by omega) dX0_leastIssueTime_5 ?_
  have b_1 := hg 11 i
  refine lv_iconst (v := nI 2) hx hb dX0_leastIssueTime_6 (by decide) ?_
  refine zk_add hx hb dX0_leastIssueTime_7 ?_
  refine lv_aload_n hx hb dX0_leastIssueTime_8 rfl (lv_at hl 0 rfl) ?_
  refine lv_iload_n hx hb dX0_leastIssueTime_9 rfl (lv_at hl 1 rfl) ?_
  refine ia_call (rest := [.int (nI ((g 11 i) + 2))]) hx hb hml hl.1 hown ht hO (zc_order l E n g hg i (by omega)) zgX0_141 zyX0_leastInOrder rfl ⟨by decide, by decide⟩ ⟨Nat.zero_le _, Nat.zero_le _⟩ (Nat.le_of_ble_eq_true rfl) rfl dX0_leastIssueTime_10 ?_
  have b_2 := zb_order hg i
  refine ia_max hx hb hml hl.1 ht hown (by omega) (by omega) zmX0_136 (Nat.le_of_ble_eq_true rfl) (Nat.le_of_ble_eq_true rfl) ⟨Nat.zero_le _, Nat.zero_le _⟩ dX0_leastIssueTime_13 ?_
  refine lv_istore_n (lv' := [(2, .int (nI (max ((g 11 i) + 2) (zs_order g i)))), (0, .ref (ia_h E 0)), (1, .int (nI i))]) hx hb dX0_leastIssueTime_16 rfl hl (by decide) rfl (fun ls hl => ?_)
  refine lv_iload_n hx hb dX0_leastIssueTime_17 rfl (lv_at hl 0 rfl) ?_
  refine lv_aload_n hx hb dX0_leastIssueTime_18 rfl (lv_at hl 1 rfl) ?_
  refine lv_aload_n hx hb dX0_leastIssueTime_19 rfl (lv_at hl 1 rfl) ?_
  refine ia_get 3 (v := .ref (ia_h E 3)) hx hb ht hown hO (by decide) rfl zlX0_20 rfl dX0_leastIssueTime_20 ?_
  refine lv_iload_n hx hb dX0_leastIssueTime_23 rfl (lv_at hl 2 rfl) ?_
  refine ia_ild 3 i hx hb hO rfl (by omega) dX0_leastIssueTime_24 ?_
  have b_3 := hg 3 i
  refine lv_iload_n hx hb dX0_leastIssueTime_25 rfl (lv_at hl 2 rfl) ?_
  refine ia_call (rest := [.int (nI (max ((g 11 i) + 2) (zs_order g i)))]) hx hb hml hl.1 hown ht hO (zc_readable l E n g hg (g 3 i) i (by omega) (by omega)) zgX0_144 zyX0_whenReadable rfl ⟨by decide, by decide⟩ ⟨Nat.zero_le _, Nat.zero_le _⟩ (Nat.le_of_ble_eq_true rfl) rfl dX0_leastIssueTime_26 ?_
  have b_4 := zb_readable hg (g 3 i) i
  refine ia_max hx hb hml hl.1 ht hown (by omega) (by omega) zmX0_136 (Nat.le_of_ble_eq_true rfl) (Nat.le_of_ble_eq_true rfl) ⟨Nat.zero_le _, Nat.zero_le _⟩ dX0_leastIssueTime_29 ?_
  refine lv_istore_n (lv' := [(2, .int (nI (max (max ((g 11 i) + 2) (zs_order g i)) (zs_readable g (g 3 i) i)))), (0, .ref (ia_h E 0)), (1, .int (nI i))]) hx hb dX0_leastIssueTime_32 rfl hl (by decide) rfl (fun ls hl => ?_)
  refine lv_iload_n hx hb dX0_leastIssueTime_33 rfl (lv_at hl 0 rfl) ?_
  refine lv_aload_n hx hb dX0_leastIssueTime_34 rfl (lv_at hl 1 rfl) ?_
  refine lv_aload_n hx hb dX0_leastIssueTime_35 rfl (lv_at hl 1 rfl) ?_
  refine ia_get 4 (v := .ref (ia_h E 4)) hx hb ht hown hO (by decide) rfl zlX0_23 rfl dX0_leastIssueTime_36 ?_
  refine lv_iload_n hx hb dX0_leastIssueTime_39 rfl (lv_at hl 2 rfl) ?_
  refine ia_ild 4 i hx hb hO rfl (by omega) dX0_leastIssueTime_40 ?_
  have b_5 := hg 4 i
  refine lv_iload_n hx hb dX0_leastIssueTime_41 rfl (lv_at hl 2 rfl) ?_
  refine ia_call (rest := [.int (nI (max (max ((g 11 i) + 2) (zs_order g i)) (zs_readable g (g 3 i) i)))]) hx hb hml hl.1 hown ht hO (zc_readable l E n g hg (g 4 i) i (by omega) (by omega)) zgX0_144 zyX0_whenReadable rfl ⟨by decide, by decide⟩ ⟨Nat.zero_le _, Nat.zero_le _⟩ (Nat.le_of_ble_eq_true rfl) rfl dX0_leastIssueTime_42 ?_
  have b_6 := zb_readable hg (g 4 i) i
  refine ia_max hx hb hml hl.1 ht hown (by omega) (by omega) zmX0_136 (Nat.le_of_ble_eq_true rfl) (Nat.le_of_ble_eq_true rfl) ⟨Nat.zero_le _, Nat.zero_le _⟩ dX0_leastIssueTime_45 ?_
  refine lv_istore_n (lv' := [(2, .int (nI (max (max (max ((g 11 i) + 2) (zs_order g i)) (zs_readable g (g 3 i) i)) (zs_readable g (g 4 i) i)))), (0, .ref (ia_h E 0)), (1, .int (nI i))]) hx hb dX0_leastIssueTime_48 rfl hl (by decide) rfl (fun ls hl => ?_)
  have p_10 := zb_div hg i
  refine zk_cut (nL := 3) 69 (fun v_7 => (g 1 i = 4 → v_7 = max (max (max (max ((g 11 i) + 2) (zs_order g i)) (zs_readable g (g 3 i) i)) (zs_readable g (g 4 i) i)) (zs_div g i)) ∧ (¬ (g 1 i = 4) → v_7 = max (max (max ((g 11 i) + 2) (zs_order g i)) (zs_readable g (g 3 i) i)) (zs_readable g (g 4 i) i))) (fun v_7 => [(2, .int (nI v_7)), (0, .ref (ia_h E 0)), (1, .int (nI i))]) (fun v_7 => []) (fun v_7 ls e_8 hl => ?_) (fun J_9 => ?_)
  · have e_8 : (g 1 i = 4 → v_7 = max (max (max (max ((g 11 i) + 2) (zs_order g i)) (zs_readable g (g 3 i) i)) (zs_readable g (g 4 i) i)) (zs_div g i)) ∧ (¬ (g 1 i = 4) → v_7 = max (max (max ((g 11 i) + 2) (zs_order g i)) (zs_readable g (g 3 i) i)) (zs_readable g (g 4 i) i)) := e_8
    have hl : lv_has ls 3 [(2, .int (nI v_7)), (0, .ref (ia_h E 0)), (1, .int (nI i))] := hl
    have p_14 := zb_dbef hg i
    refine zk_cut (nL := 3) 92 (fun v_11 => (g 1 i = 6 → v_11 = max v_7 (zs_dbef g i + 1)) ∧ (¬ (g 1 i = 6) → v_11 = v_7)) (fun v_11 => [(2, .int (nI v_11)), (0, .ref (ia_h E 0)), (1, .int (nI i))]) (fun v_11 => []) (fun v_11 ls e_12 hl => ?_) (fun J_13 => ?_)
    · have e_12 : (g 1 i = 6 → v_11 = max v_7 (zs_dbef g i + 1)) ∧ (¬ (g 1 i = 6) → v_11 = v_7) := e_12
      have hl : lv_has ls 3 [(2, .int (nI v_11)), (0, .ref (ia_h E 0)), (1, .int (nI i))] := hl
      refine lv_iload_n hx hb dX0_leastIssueTime_92 rfl (lv_at hl 0 rfl) ?_
      exact ia_iret hx hb hr hlk (congrArg nI (show v_11 = zs_issue g i from by unfold zs_issue; (repeat' split) <;> omega)) dX0_leastIssueTime_93
    · refine lv_aload_n hx hb dX0_leastIssueTime_69 rfl (lv_at hl 1 rfl) ?_
      refine ia_get 1 (v := .ref (ia_h E 1)) hx hb ht hown hO (by decide) rfl zlX0_13 rfl dX0_leastIssueTime_70 ?_
      refine lv_iload_n hx hb dX0_leastIssueTime_73 rfl (lv_at hl 2 rfl) ?_
      refine ia_ild 1 i hx hb hO rfl (by omega) dX0_leastIssueTime_74 ?_
      have b_15 := hg 1 i
      refine lv_bipush (v := nI 6) hx hb dX0_leastIssueTime_75 (by decide) ?_
      refine zk_cne (tgt := 92) hx hb dX0_leastIssueTime_77 (by decide) (by omega) (by omega) (fun c_16 => ?_) (fun c_16 => ?_)
      · exact J_13 v_7 ls (show (g 1 i = 6 → v_7 = max v_7 (zs_dbef g i + 1)) ∧ (¬ (g 1 i = 6) → v_7 = v_7) from by omega) (lv_sub hl [0, 1, 2] rfl)
      · refine lv_iload_n hx hb dX0_leastIssueTime_80 rfl (lv_at hl 0 rfl) ?_
        refine lv_aload_n hx hb dX0_leastIssueTime_81 rfl (lv_at hl 1 rfl) ?_
        refine lv_iload_n hx hb dX0_leastIssueTime_82 rfl (lv_at hl 2 rfl) ?_
        refine ia_call (rest := [.int (nI v_7)]) hx hb hml hl.1 hown ht hO (zc_dbef l E n g hg i (by omega)) zgX0_89 zyX0_doneBefore rfl ⟨by decide, by decide⟩ ⟨Nat.zero_le _, Nat.zero_le _⟩ (Nat.le_of_ble_eq_true rfl) rfl dX0_leastIssueTime_83 ?_
        have b_17 := zb_dbef hg i
        refine lv_iconst (v := nI 1) hx hb dX0_leastIssueTime_86 (by decide) ?_
        refine zk_add hx hb dX0_leastIssueTime_87 ?_
        refine ia_max hx hb hml hl.1 ht hown (by omega) (by omega) zmX0_136 (Nat.le_of_ble_eq_true rfl) (Nat.le_of_ble_eq_true rfl) ⟨Nat.zero_le _, Nat.zero_le _⟩ dX0_leastIssueTime_88 ?_
        refine lv_istore_n (lv' := [(2, .int (nI (max v_7 ((zs_dbef g i) + 1)))), (0, .ref (ia_h E 0)), (1, .int (nI i))]) hx hb dX0_leastIssueTime_91 rfl hl (by decide) rfl (fun ls hl => ?_)
        exact J_13 (max v_7 ((zs_dbef g i) + 1)) ls (show (g 1 i = 6 → (max v_7 ((zs_dbef g i) + 1)) = max v_7 (zs_dbef g i + 1)) ∧ (¬ (g 1 i = 6) → (max v_7 ((zs_dbef g i) + 1)) = v_7) from by omega) (lv_sub hl [0, 1, 2] rfl)
  · refine lv_aload_n hx hb dX0_leastIssueTime_49 rfl (lv_at hl 1 rfl) ?_
    refine ia_get 1 (v := .ref (ia_h E 1)) hx hb ht hown hO (by decide) rfl zlX0_13 rfl dX0_leastIssueTime_50 ?_
    refine lv_iload_n hx hb dX0_leastIssueTime_53 rfl (lv_at hl 2 rfl) ?_
    refine ia_ild 1 i hx hb hO rfl (by omega) dX0_leastIssueTime_54 ?_
    have b_18 := hg 1 i
    refine lv_iconst (v := nI 4) hx hb dX0_leastIssueTime_55 (by decide) ?_
    refine zk_cne (tgt := 69) hx hb dX0_leastIssueTime_56 (by decide) (by omega) (by omega) (fun c_19 => ?_) (fun c_19 => ?_)
    · exact J_9 (max (max (max ((g 11 i) + 2) (zs_order g i)) (zs_readable g (g 3 i) i)) (zs_readable g (g 4 i) i)) ls (show (g 1 i = 4 → (max (max (max ((g 11 i) + 2) (zs_order g i)) (zs_readable g (g 3 i) i)) (zs_readable g (g 4 i) i)) = max (max (max (max ((g 11 i) + 2) (zs_order g i)) (zs_readable g (g 3 i) i)) (zs_readable g (g 4 i) i)) (zs_div g i)) ∧ (¬ (g 1 i = 4) → (max (max (max ((g 11 i) + 2) (zs_order g i)) (zs_readable g (g 3 i) i)) (zs_readable g (g 4 i) i)) = max (max (max ((g 11 i) + 2) (zs_order g i)) (zs_readable g (g 3 i) i)) (zs_readable g (g 4 i) i)) from by omega) (lv_sub hl [0, 1, 2] rfl)
    · refine lv_iload_n hx hb dX0_leastIssueTime_59 rfl (lv_at hl 0 rfl) ?_
      refine lv_aload_n hx hb dX0_leastIssueTime_60 rfl (lv_at hl 1 rfl) ?_
      refine lv_iload_n hx hb dX0_leastIssueTime_61 rfl (lv_at hl 2 rfl) ?_
      refine ia_call (rest := [.int (nI (max (max (max ((g 11 i) + 2) (zs_order g i)) (zs_readable g (g 3 i) i)) (zs_readable g (g 4 i) i)))]) hx hb hml hl.1 hown ht hO (zc_div l E n g hg i (by omega)) zgX0_147 zyX0_whenDividerIsFree rfl ⟨by decide, by decide⟩ ⟨Nat.zero_le _, Nat.zero_le _⟩ (Nat.le_of_ble_eq_true rfl) rfl dX0_leastIssueTime_62 ?_
      have b_20 := zb_div hg i
      refine ia_max hx hb hml hl.1 ht hown (by omega) (by omega) zmX0_136 (Nat.le_of_ble_eq_true rfl) (Nat.le_of_ble_eq_true rfl) ⟨Nat.zero_le _, Nat.zero_le _⟩ dX0_leastIssueTime_65 ?_
      refine lv_istore_n (lv' := [(2, .int (nI (max (max (max (max ((g 11 i) + 2) (zs_order g i)) (zs_readable g (g 3 i) i)) (zs_readable g (g 4 i) i)) (zs_div g i)))), (0, .ref (ia_h E 0)), (1, .int (nI i))]) hx hb dX0_leastIssueTime_68 rfl hl (by decide) rfl (fun ls hl => ?_)
      exact J_9 (max (max (max (max ((g 11 i) + 2) (zs_order g i)) (zs_readable g (g 3 i) i)) (zs_readable g (g 4 i) i)) (zs_div g i)) ls (show (g 1 i = 4 → (max (max (max (max ((g 11 i) + 2) (zs_order g i)) (zs_readable g (g 3 i) i)) (zs_readable g (g 4 i) i)) (zs_div g i)) = max (max (max (max ((g 11 i) + 2) (zs_order g i)) (zs_readable g (g 3 i) i)) (zs_readable g (g 4 i) i)) (zs_div g i)) ∧ (¬ (g 1 i = 4) → (max (max (max (max ((g 11 i) + 2) (zs_order g i)) (zs_readable g (g 3 i) i)) (zs_readable g (g 4 i) i)) (zs_div g i)) = max (max (max ((g 11 i) + 2) (zs_order g i)) (zs_readable g (g 3 i) i)) (zs_readable g (g 4 i) i)) from by omega) (lv_sub hl [0, 1, 2] rfl)
