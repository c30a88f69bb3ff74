set_option maxHeartbeats 4000000 in
set_option maxRecDepth 100000 in
/-- whenReadable -/
theorem zc_readable (l : Launch) (E : ia_E) (n : Nat) (g : Nat → Nat → Nat) (hg : zs_B g) (r : Nat) (i : Nat) (hr0 : r < 2 ^ 31) (hi : i < 400) : ia_R l yX0_whenReadable cX0_whenReadable 4 .int 1 E n g [.int (nI r), .int (nI i)] (nI (zs_readable g r i)) := by
  refine ia_Rof (by decide) rfl (Nat.le_of_ble_eq_true rfl) (fun p e s m args below meth c ls hx hb hr hml hown ht hlk hO hl => ?_)
  have hl : lv_has ls 4 [(0, .ref (ia_h E 0)), (1, .int (nI r)), (2, .int (nI i))] := hl
  refine lv_iload_n hx hb dX0_whenReadable_0 rfl (lv_at hl 1 rfl) ?_
  refine zk_ifne (tgt := 6) hx hb dX0_whenReadable_1 (by decide) (by omega) (fun c_1 => ?_) (fun c_1 => ?_)
  · refine lv_iload_n hx hb dX0_whenReadable_6 rfl (lv_at hl 2 rfl) ?_
    refine lv_iconst (v := nI 1) hx hb dX0_whenReadable_7 (by decide) ?_
    refine lv_isub hx hb dX0_whenReadable_8 (zk_top (zk_m1 i) ?_)
    refine lv_istore_n (lv' := [(3, .int (nI i + (-1))), (0, .ref (ia_h E 0)), (1, .int (nI r)), (2, .int (nI i))]) hx hb dX0_whenReadable_9 rfl hl (by decide) rfl (fun ls hl => ?_)
    refine zk_down (nL := 4) (pcH := 10) (fun k => zs_wr g r i = zs_wr g r k) (fun k => [(3, .int (nI k + (-1))), (0, .ref (ia_h E 0)), (1, .int (nI r)), (2, .int (nI i))]) ?_ i ?_ i (Nat.le_refl _) rfl ls hl
    · intro hP ls hl
      have hP : zs_wr g r i = zs_wr g r 0 := hP
      have hl : lv_has ls 4 [(3, .int (nI 0 + (-1))), (0, .ref (ia_h E 0)), (1, .int (nI r)), (2, .int (nI i))] := hl
      refine lv_iload_n hx hb dX0_whenReadable_10 rfl (lv_at hl 0 rfl) ?_
      refine lv_if_lt (tgt := 56) hx hb dX0_whenReadable_11 (by decide) (fun c_ => ?_) (fun c_ => absurd (by decide) c_)
      refine lv_iconst (v := nI 0) hx hb dX0_whenReadable_56 (by decide) ?_
      exact ia_iret hx hb hr hlk (congrArg nI (show 0 = zs_readable g r i from by have e0 : zs_wr g r 0 = 0 := rfl; unfold zs_readable; (repeat' split) <;> omega)) dX0_whenReadable_57
    · intro k hk ih hP ls hl
      have hP : zs_wr g r i = zs_wr g r (k + 1) := hP
      have hl : lv_has ls 4 [(3, .int (nI (k + 1) + (-1))), (0, .ref (ia_h E 0)), (1, .int (nI r)), (2, .int (nI i))] := hl
      rw [pk_m1] at hl
      have e1 : (g 2 k = r ∧ g 9 k = 0 → zs_wr g r (k + 1) = g 12 k + zs_delay (g 1 k)) ∧ (¬ (g 2 k = r ∧ g 9 k = 0) → zs_wr g r (k + 1) = zs_wr g r k) := ⟨fun h => if_pos h, fun h => if_neg h⟩
      refine lv_iload_n hx hb dX0_whenReadable_10 rfl (lv_at hl 0 rfl) ?_
      refine zk_iflt (tgt := 56) hx hb dX0_whenReadable_11 (by decide) (by omega) ?_
      refine lv_aload_n hx hb dX0_whenReadable_14 rfl (lv_at hl 1 rfl) ?_
      refine ia_get 2 (v := .ref (ia_h E 2)) hx hb ht hown hO (by decide) rfl zlX0_17 rfl dX0_whenReadable_15 ?_
      refine lv_iload_n hx hb dX0_whenReadable_18 rfl (lv_at hl 0 rfl) ?_
      refine ia_ild 2 k hx hb hO rfl (by omega) dX0_whenReadable_19 ?_
      have b_3 := hg 2 k
      refine lv_iload_n hx hb dX0_whenReadable_20 rfl (lv_at hl 2 rfl) ?_
      refine zk_cne (tgt := 50) hx hb dX0_whenReadable_21 (by decide) (by omega) (by omega) (fun c_4 => ?_) (fun c_4 => ?_)
      · refine lv_iinc (v := nI k + (-1)) (lv' := [(3, .int (nI k + (-1))), (0, .ref (ia_h E 0)), (1, .int (nI r)), (2, .int (nI i))]) hx hb dX0_whenReadable_50 hl (k := 0) rfl rfl (by decide) rfl (fun ls hl => ?_)
        refine lv_goto (tgt := 10) hx hb dX0_whenReadable_53 (by decide) ?_
        exact ih (show zs_wr g r i = zs_wr g r k from by omega) ls (lv_sub hl [0, 1, 2, 3] rfl)
      · refine lv_aload_n hx hb dX0_whenReadable_24 rfl (lv_at hl 1 rfl) ?_
        refine ia_get 9 (v := .ref (ia_h E 9)) hx hb ht hown hO (by decide) rfl zlX0_39 rfl dX0_whenReadable_25 ?_
        refine lv_iload_n hx hb dX0_whenReadable_28 rfl (lv_at hl 0 rfl) ?_
        refine ia_zld 9 k hx hb hO rfl (by omega) dX0_whenReadable_29 ?_
        have b_5 := hg 9 k
        refine zk_ifne (tgt := 50) hx hb dX0_whenReadable_30 (by decide) (by omega) (fun c_6 => ?_) (fun c_6 => ?_)
        · refine lv_iinc (v := nI k + (-1)) (lv' := [(3, .int (nI k + (-1))), (0, .ref (ia_h E 0)), (1, .int (nI r)), (2, .int (nI i))]) hx hb dX0_whenReadable_50 hl (k := 0) rfl rfl (by decide) rfl (fun ls hl => ?_)
          refine lv_goto (tgt := 10) hx hb dX0_whenReadable_53 (by decide) ?_
          exact ih (show zs_wr g r i = zs_wr g r k from by omega) ls (lv_sub hl [0, 1, 2, 3] rfl)
        · refine lv_aload_n hx hb dX0_whenReadable_33 rfl (lv_at hl 1 rfl) ?_
          refine ia_get 12 (v := .ref (ia_h E 12)) hx hb ht hown hO (by decide) rfl zlX0_48 rfl dX0_whenReadable_34 ?_
          refine lv_iload_n hx hb dX0_whenReadable_37 rfl (lv_at hl 0 rfl) ?_
          refine ia_ild 12 k hx hb hO rfl (by omega) dX0_whenReadable_38 ?_
          have b_7 := hg 12 k
          refine lv_aload_n hx hb dX0_whenReadable_39 rfl (lv_at hl 1 rfl) ?_
          refine ia_get 1 (v := .ref (ia_h E 1)) hx hb ht hown hO (by decide) rfl zlX0_13 rfl dX0_whenReadable_40 ?_
          refine lv_iload_n hx hb dX0_whenReadable_43 rfl (lv_at hl 0 rfl) ?_
          refine ia_ild 1 k hx hb hO rfl (by omega) dX0_whenReadable_44 ?_
          have b_8 := hg 1 k
          refine ia_callS (rest := [.int (nI (g 12 k))]) hx hb hml hl.1 hown ht (zc_delay l (g 1 k) (by omega)) zgX0_163 zyX0_delayOf rfl ⟨by decide, by decide⟩ ⟨Nat.zero_le _, Nat.zero_le _⟩ (Nat.le_of_ble_eq_true rfl) rfl dX0_whenReadable_45 ?_
          have b_9 := zb_delay (g 1 k)
          refine zk_add hx hb dX0_whenReadable_48 ?_
          exact ia_iret hx hb hr hlk (congrArg nI (show (g 12 k) + (zs_delay (g 1 k)) = zs_readable g r i from by unfold zs_readable; (repeat' split) <;> omega)) dX0_whenReadable_49
  · refine lv_iconst (v := nI 0) hx hb dX0_whenReadable_4 (by decide) ?_
    exact ia_iret hx hb hr hlk (congrArg nI (show 0 = zs_readable g r i from by unfold zs_readable; (repeat' split) <;> omega)) dX0_whenReadable_5
set_option maxHeartbeats 4000000 in
set_option maxRecDepth 100000 in
/-- whenDividerIsFree -/
theorem zc_div (l : Launch) (E : ia_E) (n : Nat) (g : Nat → Nat → Nat) (hg : zs_B g) (i : Nat) (hi : i < 400) : ia_R l yX0_whenDividerIsFree cX0_whenDividerIsFree 3 .int 0 E n g [.int (nI i)] (nI (zs_div g i)) := by
  refine ia_Rof (by decide) rfl (Nat.le_of_ble_eq_true rfl) (fun p e s m args below meth c ls hx hb hr hml hown ht hlk hO hl => ?_)
  have hl : lv_has ls 3 [(0, .ref (ia_h E 0)), (1, .int (nI i))] := hl
  refine lv_iload_n hx hb dX0_whenDividerIsFree_0 rfl (lv_at hl 1 rfl) ?_
  refine lv_iconst (v := nI 1) hx hb dX0_whenDividerIsFree_1 (by decide) ?_
  refine lv_isub hx hb dX0_whenDividerIsFree_2 (zk_top (zk_m1 i) ?_)
  refine lv_istore_n (lv' := [(2, .int (nI i + (-1))), (0, .ref (ia_h E 0)), (1, .int (nI i))]) hx hb dX0_whenDividerIsFree_3 rfl hl (by decide) rfl (fun ls hl => ?_)
  refine zk_down (nL := 3) (pcH := 4) (fun k => zs_div g i = zs_div g k) (fun k => [(2, .int (nI k + (-1))), (0, .ref (ia_h E 0)), (1, .int (nI i))]) ?_ i ?_ i (Nat.le_refl _) rfl ls hl
  · intro hP ls hl
    have hP : zs_div g i = zs_div g 0 := hP
    have hl : lv_has ls 3 [(2, .int (nI 0 + (-1))), (0, .ref (ia_h E 0)), (1, .int (nI i))] := hl
    refine lv_iload_n hx hb dX0_whenDividerIsFree_4 rfl (lv_at hl 0 rfl) ?_
    refine lv_if_lt (tgt := 34) hx hb dX0_whenDividerIsFree_5 (by decide) (fun c_ => ?_) (fun c_ => absurd (by decide) c_)
    refine lv_iconst (v := nI 0) hx hb dX0_whenDividerIsFree_34 (by decide) ?_
    exact ia_iret hx hb hr hlk (congrArg nI (show 0 = zs_div g i from by have e0 : zs_div g 0 = 0 := rfl; omega)) dX0_whenDividerIsFree_35
  · intro k hk ih hP ls hl
    have hP : zs_div g i = zs_div g (k + 1) := hP
    have hl : lv_has ls 3 [(2, .int (nI (k + 1) + (-1))), (0, .ref (ia_h E 0)), (1, .int (nI i))] := hl
    rw [pk_m1] at hl
    have e1 : (g 1 k = 4 → zs_div g (k + 1) = g 12 k + 18) ∧ (¬ (g 1 k = 4) → zs_div g (k + 1) = zs_div g k) := ⟨fun h => if_pos h, fun h => if_neg h⟩
    refine lv_iload_n hx hb dX0_whenDividerIsFree_4 rfl (lv_at hl 0 rfl) ?_
    refine zk_iflt (tgt := 34) hx hb dX0_whenDividerIsFree_5 (by decide) (by omega) ?_
    refine lv_aload_n hx hb dX0_whenDividerIsFree_8 rfl (lv_at hl 1 rfl) ?_
    refine ia_get 1 (v := .ref (ia_h E 1)) hx hb ht hown hO (by decide) rfl zlX0_13 rfl dX0_whenDividerIsFree_9 ?_
    refine lv_iload_n hx hb dX0_whenDividerIsFree_12 rfl (lv_at hl 0 rfl) ?_
    refine ia_ild 1 k hx hb hO rfl (by omega) dX0_whenDividerIsFree_13 ?_
    have b_2 := hg 1 k
    refine lv_iconst (v := nI 4) hx hb dX0_whenDividerIsFree_14 (by decide) ?_
    refine zk_cne (tgt := 28) hx hb dX0_whenDividerIsFree_15 (by decide) (by omega) (by omega) (fun c_3 => ?_) (fun c_3 => ?_)
    · refine lv_iinc (v := nI k + (-1)) (lv' := [(2, .int (nI k + (-1))), (0, .ref (ia_h E 0)), (1, .int (nI i))]) hx hb dX0_whenDividerIsFree_28 hl (k := 0) rfl rfl (by decide) rfl (fun ls hl => ?_)
      refine lv_goto (tgt := 4) hx hb dX0_whenDividerIsFree_31 (by decide) ?_
      exact ih (show zs_div g i = zs_div g k from by omega) ls (lv_sub hl [0, 1, 2] rfl)
    · refine lv_aload_n hx hb dX0_whenDividerIsFree_18 rfl (lv_at hl 1 rfl) ?_
      refine ia_get 12 (v := .ref (ia_h E 12)) hx hb ht hown hO (by decide) rfl zlX0_48 rfl dX0_whenDividerIsFree_19 ?_
      refine lv_iload_n hx hb dX0_whenDividerIsFree_22 rfl (lv_at hl 0 rfl) ?_
      refine ia_ild 12 k hx hb hO rfl (by omega) dX0_whenDividerIsFree_23 ?_
      have b_4 := hg 12 k
      refine lv_bipush (v := nI 18) hx hb dX0_whenDividerIsFree_24 (by decide) ?_
      refine zk_add hx hb dX0_whenDividerIsFree_26 ?_
      exact ia_iret hx hb hr hlk (congrArg nI (show (g 12 k) + 18 = zs_div g i from by omega)) dX0_whenDividerIsFree_27
