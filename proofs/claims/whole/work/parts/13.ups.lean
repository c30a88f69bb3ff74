set_option maxHeartbeats 4000000 in
set_option maxRecDepth 100000 in
/-- cyclesWithTwoDone -/
theorem zc_two (l : Launch) (E : ia_E) (n : Nat) (g : Nat → Nat → Nat) (hg : zs_B g)  (hn : n ≤ 400) : ia_R l yX0_cyclesWithTwoDone cX0_cyclesWithTwoDone 3 .int 0 E n g [] (nI (zs_two g n)) := by
  refine ia_Rof (by decide) rfl (Nat.le_of_ble_eq_true rfl) (fun p e s m args below meth c ls hx hb hr hml hown ht hlk hO hl => ?_)
  have hl : lv_has ls 3 [(0, .ref (ia_h E 0))] := hl
  refine lv_iconst (v := nI 0) hx hb dX0_cyclesWithTwoDone_0 (by decide) ?_
  refine lv_istore_n (lv' := [(1, .int (nI 0)), (0, .ref (ia_h E 0))]) hx hb dX0_cyclesWithTwoDone_1 rfl hl (by decide) rfl (fun ls hl => ?_)
  refine lv_iconst (v := nI 1) hx hb dX0_cyclesWithTwoDone_2 (by decide) ?_
  refine lv_istore_n (lv' := [(2, .int (nI 1)), (1, .int (nI 0)), (0, .ref (ia_h E 0))]) hx hb dX0_cyclesWithTwoDone_3 rfl hl (by decide) rfl (fun ls hl => ?_)
  refine zk_up (nL := 3) (pcH := 4) 1 (max n 1) (fun _ => True) (fun k => [(1, .int (nI (zs_two g k))), (2, .int (nI k)), (0, .ref (ia_h E 0))]) ?_ ?_ (max n 1 - 1) 1 (Nat.le_refl _) (by omega) trivial ls (lv_sub hl [1, 0, 2] rfl)
  · intro _ ls hl
    have hl : lv_has ls 3 [(1, .int (nI (zs_two g (max n 1)))), (2, .int (nI (max n 1))), (0, .ref (ia_h E 0))] := hl
    refine lv_iload_n hx hb dX0_cyclesWithTwoDone_4 rfl (lv_at hl 1 rfl) ?_
    refine lv_aload_n hx hb dX0_cyclesWithTwoDone_5 rfl (lv_at hl 2 rfl) ?_
    refine ia_get 0 (v := .int (nI n)) hx hb ht hown hO (by decide) rfl zlX0_7 rfl dX0_cyclesWithTwoDone_6 ?_
    refine zk_cge (tgt := 38) hx hb dX0_cyclesWithTwoDone_9 (by decide) (by omega) (by omega) (fun c_1 => ?_) (fun c_1 => ?_)
    · refine lv_iload_n hx hb dX0_cyclesWithTwoDone_38 rfl (lv_at hl 0 rfl) ?_
      exact ia_iret hx hb hr hlk (congrArg nI (show zs_two g (max n 1) = zs_two g n from by rcases (show n = 0 ∨ max n 1 = n by omega) with h0 | h0 <;> first | (subst h0; rfl) | rw [h0])) dX0_cyclesWithTwoDone_39
    · exact absurd (show False from by omega) id
  · intro k hk0 hk ih _ ls hl
    have hl : lv_has ls 3 [(1, .int (nI (zs_two g k))), (2, .int (nI k)), (0, .ref (ia_h E 0))] := hl
    have e1 : (0 < k ∧ g 13 k = g 13 (k - 1) → zs_two g (k + 1) = zs_two g k + 1) ∧ (¬ (0 < k ∧ g 13 k = g 13 (k - 1)) → zs_two g (k + 1) = zs_two g k + 0) := ⟨fun h => congrArg (fun z => zs_two g k + z) (if_pos h), fun h => congrArg (fun z => zs_two g k + z) (if_neg h)⟩
    have e2 := zb_two g k
    refine lv_iload_n hx hb dX0_cyclesWithTwoDone_4 rfl (lv_at hl 1 rfl) ?_
    refine lv_aload_n hx hb dX0_cyclesWithTwoDone_5 rfl (lv_at hl 2 rfl) ?_
    refine ia_get 0 (v := .int (nI n)) hx hb ht hown hO (by decide) rfl zlX0_7 rfl dX0_cyclesWithTwoDone_6 ?_
    refine zk_cge (tgt := 38) hx hb dX0_cyclesWithTwoDone_9 (by decide) (by omega) (by omega) (fun c_2 => ?_) (fun c_2 => ?_)
    · exact absurd (show False from by omega) id
    · refine lv_aload_n hx hb dX0_cyclesWithTwoDone_12 rfl (lv_at hl 2 rfl) ?_
      refine ia_get 13 (v := .ref (ia_h E 13)) hx hb ht hown hO (by decide) rfl zlX0_51 rfl dX0_cyclesWithTwoDone_13 ?_
      refine lv_iload_n hx hb dX0_cyclesWithTwoDone_16 rfl (lv_at hl 1 rfl) ?_
      refine ia_ild 13 k hx hb hO rfl (by omega) dX0_cyclesWithTwoDone_17 ?_
      have b_3 := hg 13 k
      refine lv_aload_n hx hb dX0_cyclesWithTwoDone_18 rfl (lv_at hl 2 rfl) ?_
      refine ia_get 13 (v := .ref (ia_h E 13)) hx hb ht hown hO (by decide) rfl zlX0_51 rfl dX0_cyclesWithTwoDone_19 ?_
      refine lv_iload_n hx hb dX0_cyclesWithTwoDone_22 rfl (lv_at hl 1 rfl) ?_
      refine lv_iconst (v := nI 1) hx hb dX0_cyclesWithTwoDone_23 (by decide) ?_
      refine zk_sub hx hb (by omega) dX0_cyclesWithTwoDone_24 ?_
      refine ia_ild 13 (k - 1) hx hb hO rfl (by omega) dX0_cyclesWithTwoDone_25 ?_
      have b_4 := hg 13 (k - 1)
      refine zk_cne (tgt := 32) hx hb dX0_cyclesWithTwoDone_26 (by decide) (by omega) (by omega) (fun c_5 => ?_) (fun c_5 => ?_)
      · refine lv_iinc (v := nI (k + 1)) (lv' := [(2, .int (nI (k + 1))), (1, .int (nI (zs_two g k))), (0, .ref (ia_h E 0))]) hx hb dX0_cyclesWithTwoDone_32 hl (k := 1) rfl (zk_inc k) (by decide) rfl (fun ls hl => ?_)
        refine lv_goto (tgt := 4) hx hb dX0_cyclesWithTwoDone_35 (by decide) ?_
        have e9 : zs_two g k = zs_two g (k + 1) := by omega
        rw [e9] at hl
        exact ih trivial ls (lv_sub hl [1, 0, 2] rfl)
      · refine lv_iinc (v := nI ((zs_two g k) + 1)) (lv' := [(1, .int (nI ((zs_two g k) + 1))), (2, .int (nI k)), (0, .ref (ia_h E 0))]) hx hb dX0_cyclesWithTwoDone_29 hl (k := 0) rfl (zk_inc (zs_two g k)) (by decide) rfl (fun ls hl => ?_)
        refine lv_iinc (v := nI (k + 1)) (lv' := [(2, .int (nI (k + 1))), (1, .int (nI ((zs_two g k) + 1))), (0, .ref (ia_h E 0))]) hx hb dX0_cyclesWithTwoDone_32 hl (k := 1) rfl (zk_inc k) (by decide) rfl (fun ls hl => ?_)
        refine lv_goto (tgt := 4) hx hb dX0_cyclesWithTwoDone_35 (by decide) ?_
        have e9 : (zs_two g k) + 1 = zs_two g (k + 1) := by omega
        rw [e9] at hl
        exact ih trivial ls (lv_sub hl [1, 0, 2] rfl)
set_option maxHeartbeats 4000000 in
set_option maxRecDepth 100000 in
/-- longestWayBetweenDone -/
theorem zc_long (l : Launch) (E : ia_E) (n : Nat) (g : Nat → Nat → Nat) (hg : zs_B g)  (hn : n ≤ 400) (hm : ∀ k, k < n → zs_dbef g k ≤ g 13 k) : ia_R l yX0_longestWayBetweenDone cX0_longestWayBetweenDone 3 .int 1 E n g [] (nI (zs_long g n)) := by
  refine ia_Rof (by decide) rfl (Nat.le_of_ble_eq_true rfl) (fun p e s m args below meth c ls hx hb hr hml hown ht hlk hO hl => ?_)
  have hl : lv_has ls 3 [(0, .ref (ia_h E 0))] := hl
  refine lv_iconst (v := nI 0) hx hb dX0_longestWayBetweenDone_0 (by decide) ?_
  refine lv_istore_n (lv' := [(1, .int (nI 0)), (0, .ref (ia_h E 0))]) hx hb dX0_longestWayBetweenDone_1 rfl hl (by decide) rfl (fun ls hl => ?_)
  refine lv_iconst (v := nI 0) hx hb dX0_longestWayBetweenDone_2 (by decide) ?_
  refine lv_istore_n (lv' := [(2, .int (nI 0)), (1, .int (nI 0)), (0, .ref (ia_h E 0))]) hx hb dX0_longestWayBetweenDone_3 rfl hl (by decide) rfl (fun ls hl => ?_)
  refine zk_up (nL := 3) (pcH := 4) 0 (n) (fun _ => True) (fun k => [(1, .int (nI (zs_long g k))), (2, .int (nI k)), (0, .ref (ia_h E 0))]) ?_ ?_ (n - 0) 0 (Nat.le_refl _) (by omega) trivial ls (lv_sub hl [1, 0, 2] rfl)
  · intro _ ls hl
    have hl : lv_has ls 3 [(1, .int (nI (zs_long g n))), (2, .int (nI n)), (0, .ref (ia_h E 0))] := hl
    refine lv_iload_n hx hb dX0_longestWayBetweenDone_4 rfl (lv_at hl 1 rfl) ?_
    refine lv_aload_n hx hb dX0_longestWayBetweenDone_5 rfl (lv_at hl 2 rfl) ?_
    refine ia_get 0 (v := .int (nI n)) hx hb ht hown hO (by decide) rfl zlX0_7 rfl dX0_longestWayBetweenDone_6 ?_
    refine zk_cge (tgt := 35) hx hb dX0_longestWayBetweenDone_9 (by decide) (by omega) (by omega) (fun c_1 => ?_) (fun c_1 => ?_)
    · refine lv_iload_n hx hb dX0_longestWayBetweenDone_35 rfl (lv_at hl 0 rfl) ?_
      exact ia_iret hx hb hr hlk rfl dX0_longestWayBetweenDone_36
    · exact absurd (show False from by omega) id
  · intro k hk0 hk ih _ ls hl
    have hl : lv_has ls 3 [(1, .int (nI (zs_long g k))), (2, .int (nI k)), (0, .ref (ia_h E 0))] := hl
    have e1 : zs_long g (k + 1) = max (zs_long g k) (g 13 k - zs_dbef g k) := rfl
    have e2 := And.intro (zb_long hg k) (hm k (by omega))
    refine lv_iload_n hx hb dX0_longestWayBetweenDone_4 rfl (lv_at hl 1 rfl) ?_
    refine lv_aload_n hx hb dX0_longestWayBetweenDone_5 rfl (lv_at hl 2 rfl) ?_
    refine ia_get 0 (v := .int (nI n)) hx hb ht hown hO (by decide) rfl zlX0_7 rfl dX0_longestWayBetweenDone_6 ?_
    refine zk_cge (tgt := 35) hx hb dX0_longestWayBetweenDone_9 (by decide) (by omega) (by omega) (fun c_2 => ?_) (fun c_2 => ?_)
    · exact absurd (show False from by omega) id
    · refine lv_iload_n hx hb dX0_longestWayBetweenDone_12 rfl (lv_at hl 0 rfl) ?_
      refine lv_aload_n hx hb dX0_longestWayBetweenDone_13 rfl (lv_at hl 2 rfl) ?_
      refine ia_get 13 (v := .ref (ia_h E 13)) hx hb ht hown hO (by decide) rfl zlX0_51 rfl dX0_longestWayBetweenDone_14 ?_
      refine lv_iload_n hx hb dX0_longestWayBetweenDone_17 rfl (lv_at hl 1 rfl) ?_
      refine ia_ild 13 k hx hb hO rfl (by omega) dX0_longestWayBetweenDone_18 ?_
      have b_3 := hg 13 k
      refine lv_aload_n hx hb dX0_longestWayBetweenDone_19 rfl (lv_at hl 2 rfl) ?_
      refine lv_iload_n hx hb dX0_longestWayBetweenDone_20 rfl (lv_at hl 1 rfl) ?_
      refine ia_call (rest := [.int (nI (g 13 k)), .int (nI (zs_long g k))]) hx hb hml hl.1 hown ht hO (zc_dbef l E n g hg k (by omega)) zgX0_89 zyX0_doneBefore rfl ⟨by decide, by decide⟩ ⟨Nat.zero_le _, Nat.zero_le _⟩ (Nat.le_of_ble_eq_true rfl) rfl dX0_longestWayBetweenDone_21 ?_
      have b_4 := zb_dbef hg k
      refine zk_sub hx hb (by omega) dX0_longestWayBetweenDone_24 ?_
      refine ia_max hx hb hml hl.1 ht hown (by omega) (by omega) zmX0_136 (Nat.le_of_ble_eq_true rfl) (Nat.le_of_ble_eq_true rfl) ⟨Nat.zero_le _, Nat.zero_le _⟩ dX0_longestWayBetweenDone_25 ?_
      refine lv_istore_n (lv' := [(1, .int (nI (max (zs_long g k) ((g 13 k) - (zs_dbef g k))))), (2, .int (nI k)), (0, .ref (ia_h E 0))]) hx hb dX0_longestWayBetweenDone_28 rfl hl (by decide) rfl (fun ls hl => ?_)
      refine lv_iinc (v := nI (k + 1)) (lv' := [(2, .int (nI (k + 1))), (1, .int (nI (max (zs_long g k) ((g 13 k) - (zs_dbef g k))))), (0, .ref (ia_h E 0))]) hx hb dX0_longestWayBetweenDone_29 hl (k := 1) rfl (zk_inc k) (by decide) rfl (fun ls hl => ?_)
      refine lv_goto (tgt := 4) hx hb dX0_longestWayBetweenDone_32 (by decide) ?_
      have e9 : max (zs_long g k) ((g 13 k) - (zs_dbef g k)) = zs_long g (k + 1) := by omega
      rw [e9] at hl
      exact ih trivial ls (lv_sub hl [1, 0, 2] rfl)
set_option maxHeartbeats 4000000 in
set_option maxRecDepth 100000 in
/-- groups -/
theorem zc_groups (l : Launch) (E : ia_E) (n : Nat) (g : Nat → Nat → Nat) (hg : zs_B g)  (hn : n ≤ 400) : ia_R l yX0_groups cX0_groups 3 .int 0 E n g [] (nI (zs_groups g n)) := by
  refine ia_Rof (by decide) rfl (Nat.le_of_ble_eq_true rfl) (fun p e s m args below meth c ls hx hb hr hml hown ht hlk hO hl => ?_)
  have hl : lv_has ls 3 [(0, .ref (ia_h E 0))] := hl
  refine lv_iconst (v := nI 0) hx hb dX0_groups_0 (by decide) ?_
  refine lv_istore_n (lv' := [(1, .int (nI 0)), (0, .ref (ia_h E 0))]) hx hb dX0_groups_1 rfl hl (by decide) rfl (fun ls hl => ?_)
  refine lv_iconst (v := nI 0) hx hb dX0_groups_2 (by decide) ?_
  refine lv_istore_n (lv' := [(2, .int (nI 0)), (1, .int (nI 0)), (0, .ref (ia_h E 0))]) hx hb dX0_groups_3 rfl hl (by decide) rfl (fun ls hl => ?_)
  refine zk_up (nL := 3) (pcH := 4) 0 (n) (fun _ => True) (fun k => [(1, .int (nI (zs_groups g k))), (2, .int (nI k)), (0, .ref (ia_h E 0))]) ?_ ?_ (n - 0) 0 (Nat.le_refl _) (by omega) trivial ls (lv_sub hl [1, 0, 2] rfl)
  · intro _ ls hl
    have hl : lv_has ls 3 [(1, .int (nI (zs_groups g n))), (2, .int (nI n)), (0, .ref (ia_h E 0))] := hl
    refine lv_iload_n hx hb dX0_groups_4 rfl (lv_at hl 1 rfl) ?_
    refine lv_aload_n hx hb dX0_groups_5 rfl (lv_at hl 2 rfl) ?_
    refine ia_get 0 (v := .int (nI n)) hx hb ht hown hO (by decide) rfl zlX0_7 rfl dX0_groups_6 ?_
    refine zk_cge (tgt := 30) hx hb dX0_groups_9 (by decide) (by omega) (by omega) (fun c_1 => ?_) (fun c_1 => ?_)
    · refine lv_iload_n hx hb dX0_groups_30 rfl (lv_at hl 0 rfl) ?_
      exact ia_iret hx hb hr hlk rfl dX0_groups_31
    · exact absurd (show False from by omega) id
  · intro k hk0 hk ih _ ls hl
    have hl : lv_has ls 3 [(1, .int (nI (zs_groups g k))), (2, .int (nI k)), (0, .ref (ia_h E 0))] := hl
    have e1 : (g 10 k ≠ 0 → zs_groups g (k + 1) = zs_groups g k + 1) ∧ (¬ (g 10 k ≠ 0) → zs_groups g (k + 1) = zs_groups g k + 0) := ⟨fun h => congrArg (fun z => zs_groups g k + z) (if_pos h), fun h => congrArg (fun z => zs_groups g k + z) (if_neg h)⟩
    have e2 := zb_groups g k
    refine lv_iload_n hx hb dX0_groups_4 rfl (lv_at hl 1 rfl) ?_
    refine lv_aload_n hx hb dX0_groups_5 rfl (lv_at hl 2 rfl) ?_
    refine ia_get 0 (v := .int (nI n)) hx hb ht hown hO (by decide) rfl zlX0_7 rfl dX0_groups_6 ?_
    refine zk_cge (tgt := 30) hx hb dX0_groups_9 (by decide) (by omega) (by omega) (fun c_2 => ?_) (fun c_2 => ?_)
    · exact absurd (show False from by omega) id
    · refine lv_aload_n hx hb dX0_groups_12 rfl (lv_at hl 2 rfl) ?_
      refine ia_get 10 (v := .ref (ia_h E 10)) hx hb ht hown hO (by decide) rfl zlX0_42 rfl dX0_groups_13 ?_
      refine lv_iload_n hx hb dX0_groups_16 rfl (lv_at hl 1 rfl) ?_
      refine ia_zld 10 k hx hb hO rfl (by omega) dX0_groups_17 ?_
      have b_3 := hg 10 k
      refine zk_ifeq (tgt := 24) hx hb dX0_groups_18 (by decide) (by omega) (fun c_4 => ?_) (fun c_4 => ?_)
      · refine lv_iinc (v := nI (k + 1)) (lv' := [(2, .int (nI (k + 1))), (1, .int (nI (zs_groups g k))), (0, .ref (ia_h E 0))]) hx hb dX0_groups_24 hl (k := 1) rfl (zk_inc k) (by decide) rfl (fun ls hl => ?_)
        refine lv_goto (tgt := 4) hx hb dX0_groups_27 (by decide) ?_
        have e9 : zs_groups g k = zs_groups g (k + 1) := by omega
        rw [e9] at hl
        exact ih trivial ls (lv_sub hl [1, 0, 2] rfl)
      · refine lv_iinc (v := nI ((zs_groups g k) + 1)) (lv' := [(1, .int (nI ((zs_groups g k) + 1))), (2, .int (nI k)), (0, .ref (ia_h E 0))]) hx hb dX0_groups_21 hl (k := 0) rfl (zk_inc (zs_groups g k)) (by decide) rfl (fun ls hl => ?_)
        refine lv_iinc (v := nI (k + 1)) (lv' := [(2, .int (nI (k + 1))), (1, .int (nI ((zs_groups g k) + 1))), (0, .ref (ia_h E 0))]) hx hb dX0_groups_24 hl (k := 1) rfl (zk_inc k) (by decide) rfl (fun ls hl => ?_)
        refine lv_goto (tgt := 4) hx hb dX0_groups_27 (by decide) ?_
        have e9 : (zs_groups g k) + 1 = zs_groups g (k + 1) := by omega
        rw [e9] at hl
        exact ih trivial ls (lv_sub hl [1, 0, 2] rfl)
set_option maxHeartbeats 4000000 in
set_option maxRecDepth 100000 in
/-- pairsIssuedAtOnce -/
theorem zc_pairs (l : Launch) (E : ia_E) (n : Nat) (g : Nat → Nat → Nat) (hg : zs_B g)  (hn : n ≤ 400) : ia_R l yX0_pairsIssuedAtOnce cX0_pairsIssuedAtOnce 3 .int 1 E n g [] (nI (zs_pairs g n)) := by
  refine ia_Rof (by decide) rfl (Nat.le_of_ble_eq_true rfl) (fun p e s m args below meth c ls hx hb hr hml hown ht hlk hO hl => ?_)
  have hl : lv_has ls 3 [(0, .ref (ia_h E 0))] := hl
  refine lv_iconst (v := nI 0) hx hb dX0_pairsIssuedAtOnce_0 (by decide) ?_
  refine lv_istore_n (lv' := [(1, .int (nI 0)), (0, .ref (ia_h E 0))]) hx hb dX0_pairsIssuedAtOnce_1 rfl hl (by decide) rfl (fun ls hl => ?_)
  refine lv_iconst (v := nI 1) hx hb dX0_pairsIssuedAtOnce_2 (by decide) ?_
  refine lv_istore_n (lv' := [(2, .int (nI 1)), (1, .int (nI 0)), (0, .ref (ia_h E 0))]) hx hb dX0_pairsIssuedAtOnce_3 rfl hl (by decide) rfl (fun ls hl => ?_)
  refine zk_up (nL := 3) (pcH := 4) 1 (max n 1) (fun _ => True) (fun k => [(1, .int (nI (zs_pairs g k))), (2, .int (nI k)), (0, .ref (ia_h E 0))]) ?_ ?_ (max n 1 - 1) 1 (Nat.le_refl _) (by omega) trivial ls (lv_sub hl [1, 0, 2] rfl)
  · intro _ ls hl
    have hl : lv_has ls 3 [(1, .int (nI (zs_pairs g (max n 1)))), (2, .int (nI (max n 1))), (0, .ref (ia_h E 0))] := hl
    refine lv_iload_n hx hb dX0_pairsIssuedAtOnce_4 rfl (lv_at hl 1 rfl) ?_
    refine lv_aload_n hx hb dX0_pairsIssuedAtOnce_5 rfl (lv_at hl 2 rfl) ?_
    refine ia_get 0 (v := .int (nI n)) hx hb ht hown hO (by decide) rfl zlX0_7 rfl dX0_pairsIssuedAtOnce_6 ?_
    refine zk_cge (tgt := 29) hx hb dX0_pairsIssuedAtOnce_9 (by decide) (by omega) (by omega) (fun c_1 => ?_) (fun c_1 => ?_)
    · refine lv_iload_n hx hb dX0_pairsIssuedAtOnce_29 rfl (lv_at hl 0 rfl) ?_
      exact ia_iret hx hb hr hlk (congrArg nI (show zs_pairs g (max n 1) = zs_pairs g n from by rcases (show n = 0 ∨ max n 1 = n by omega) with h0 | h0 <;> first | (subst h0; rfl) | rw [h0])) dX0_pairsIssuedAtOnce_30
    · exact absurd (show False from by omega) id
  · intro k hk0 hk ih _ ls hl
    have hl : lv_has ls 3 [(1, .int (nI (zs_pairs g k))), (2, .int (nI k)), (0, .ref (ia_h E 0))] := hl
    have e1 : zs_pairs g (k + 1) = zs_pairs g k + zs_second g k := rfl
    have e2 := zb_pairs g k
    refine lv_iload_n hx hb dX0_pairsIssuedAtOnce_4 rfl (lv_at hl 1 rfl) ?_
    refine lv_aload_n hx hb dX0_pairsIssuedAtOnce_5 rfl (lv_at hl 2 rfl) ?_
    refine ia_get 0 (v := .int (nI n)) hx hb ht hown hO (by decide) rfl zlX0_7 rfl dX0_pairsIssuedAtOnce_6 ?_
    refine zk_cge (tgt := 29) hx hb dX0_pairsIssuedAtOnce_9 (by decide) (by omega) (by omega) (fun c_2 => ?_) (fun c_2 => ?_)
    · exact absurd (show False from by omega) id
    · refine lv_aload_n hx hb dX0_pairsIssuedAtOnce_12 rfl (lv_at hl 2 rfl) ?_
      refine lv_iload_n hx hb dX0_pairsIssuedAtOnce_13 rfl (lv_at hl 1 rfl) ?_
      refine ia_call (rest := []) hx hb hml hl.1 hown ht hO (zc_second l E n g hg k (by omega)) zgX0_72 zyX0_isIssuedAsSecond rfl ⟨by decide, by decide⟩ ⟨Nat.zero_le _, Nat.zero_le _⟩ (Nat.le_of_ble_eq_true rfl) rfl dX0_pairsIssuedAtOnce_14 ?_
      have b_3 := zb_second g k
      refine zk_ifeq (tgt := 23) hx hb dX0_pairsIssuedAtOnce_17 (by decide) (by omega) (fun c_4 => ?_) (fun c_4 => ?_)
      · refine lv_iinc (v := nI (k + 1)) (lv' := [(2, .int (nI (k + 1))), (1, .int (nI (zs_pairs g k))), (0, .ref (ia_h E 0))]) hx hb dX0_pairsIssuedAtOnce_23 hl (k := 1) rfl (zk_inc k) (by decide) rfl (fun ls hl => ?_)
        refine lv_goto (tgt := 4) hx hb dX0_pairsIssuedAtOnce_26 (by decide) ?_
        have e9 : zs_pairs g k = zs_pairs g (k + 1) := by omega
        rw [e9] at hl
        exact ih trivial ls (lv_sub hl [1, 0, 2] rfl)
      · refine lv_iinc (v := nI ((zs_pairs g k) + 1)) (lv' := [(1, .int (nI ((zs_pairs g k) + 1))), (2, .int (nI k)), (0, .ref (ia_h E 0))]) hx hb dX0_pairsIssuedAtOnce_20 hl (k := 0) rfl (zk_inc (zs_pairs g k)) (by decide) rfl (fun ls hl => ?_)
        refine lv_iinc (v := nI (k + 1)) (lv' := [(2, .int (nI (k + 1))), (1, .int (nI ((zs_pairs g k) + 1))), (0, .ref (ia_h E 0))]) hx hb dX0_pairsIssuedAtOnce_23 hl (k := 1) rfl (zk_inc k) (by decide) rfl (fun ls hl => ?_)
        refine lv_goto (tgt := 4) hx hb dX0_pairsIssuedAtOnce_26 (by decide) ?_
        have e9 : (zs_pairs g k) + 1 = zs_pairs g (k + 1) := by omega
        rw [e9] at hl
        exact ih trivial ls (lv_sub hl [1, 0, 2] rfl)
set_option maxHeartbeats 4000000 in
set_option maxRecDepth 100000 in
/-- mostAtWork -/
theorem zc_most (l : Launch) (E : ia_E) (n : Nat) (g : Nat → Nat → Nat) (hg : zs_B g)  (hn : n ≤ 400) : ia_R l yX0_mostAtWork cX0_mostAtWork 4 .int 1 E n g [] (nI (zs_most g n)) := by
  refine ia_Rof (by decide) rfl (Nat.le_of_ble_eq_true rfl) (fun p e s m args below meth c ls hx hb hr hml hown ht hlk hO hl => ?_)
  have hl : lv_has ls 4 [(0, .ref (ia_h E 0))] := hl
  refine lv_iconst (v := nI 0) hx hb dX0_mostAtWork_0 (by decide) ?_
  refine lv_istore_n (lv' := [(1, .int (nI 0)), (0, .ref (ia_h E 0))]) hx hb dX0_mostAtWork_1 rfl hl (by decide) rfl (fun ls hl => ?_)
  refine lv_iconst (v := nI 0) hx hb dX0_mostAtWork_2 (by decide) ?_
  refine lv_istore_n (lv' := [(2, .int (nI 0)), (1, .int (nI 0)), (0, .ref (ia_h E 0))]) hx hb dX0_mostAtWork_3 rfl hl (by decide) rfl (fun ls hl => ?_)
  refine lv_iconst (v := nI 0) hx hb dX0_mostAtWork_4 (by decide) ?_
  refine lv_istore_n (lv' := [(3, .int (nI 0)), (2, .int (nI 0)), (1, .int (nI 0)), (0, .ref (ia_h E 0))]) hx hb dX0_mostAtWork_5 rfl hl (by decide) rfl (fun ls hl => ?_)
  refine zk_up (nL := 4) (pcH := 6) 0 n (fun _ => True) (fun k => [(1, .int (nI (zs_most g k))), (2, .int (nI (zs_oldest g k))), (3, .int (nI k)), (0, .ref (ia_h E 0))]) ?_ ?_ n 0 (Nat.le_refl _) (by omega) trivial ls (lv_sub hl [2, 1, 0, 3] rfl)
  · intro _ ls hl
    have hl : lv_has ls 4 [(1, .int (nI (zs_most g n))), (2, .int (nI (zs_oldest g n))), (3, .int (nI n)), (0, .ref (ia_h E 0))] := hl
    refine lv_iload_n hx hb dX0_mostAtWork_6 rfl (lv_at hl 2 rfl) ?_
    refine lv_aload_n hx hb dX0_mostAtWork_7 rfl (lv_at hl 3 rfl) ?_
    refine ia_get 0 (v := .int (nI n)) hx hb ht hown hO (by decide) rfl zlX0_7 rfl dX0_mostAtWork_8 ?_
    refine zk_cge (tgt := 56) hx hb dX0_mostAtWork_11 (by decide) (by omega) (by omega) (fun c_1 => ?_) (fun c_1 => ?_)
    · refine lv_iload_n hx hb dX0_mostAtWork_56 rfl (lv_at hl 0 rfl) ?_
      exact ia_iret hx hb hr hlk rfl dX0_mostAtWork_57
    · exact absurd (show False from by omega) id
  · intro k hk0 hk ih _ ls hl
    have hl : lv_has ls 4 [(1, .int (nI (zs_most g k))), (2, .int (nI (zs_oldest g k))), (3, .int (nI k)), (0, .ref (ia_h E 0))] := hl
    have e1 : zs_most g (k + 1) = max (zs_most g k) (k - zs_oldest g (k + 1) + 1) := rfl
    have e2 := zb_most g k
    have e3 := zb_oldest g k
    have e4 := zb_oldest g (k + 1)
    have e5 := zb_old g k (k - zs_oldest g k) (zs_oldest g k)
    have e6 : zs_oldest g (k + 1) = zs_old g k (k - zs_oldest g k) (zs_oldest g k) := rfl
    refine lv_iload_n hx hb dX0_mostAtWork_6 rfl (lv_at hl 2 rfl) ?_
    refine lv_aload_n hx hb dX0_mostAtWork_7 rfl (lv_at hl 3 rfl) ?_
    refine ia_get 0 (v := .int (nI n)) hx hb ht hown hO (by decide) rfl zlX0_7 rfl dX0_mostAtWork_8 ?_
    refine zk_cge (tgt := 56) hx hb dX0_mostAtWork_11 (by decide) (by omega) (by omega) (fun c_2 => ?_) (fun c_2 => ?_)
    · exact absurd (show False from by omega) id
    · refine zk_cut (nL := 4) 40 (fun v => v = zs_oldest g (k + 1)) (fun v => [(2, .int (nI v)), (1, .int (nI (zs_most g k))), (3, .int (nI k)), (0, .ref (ia_h E 0))]) (fun _ => []) (fun v ls ev hl => ?_) (fun J => ?_)
      · have ev : v = zs_oldest g (k + 1) := ev
        have hl : lv_has ls 4 [(2, .int (nI v)), (1, .int (nI (zs_most g k))), (3, .int (nI k)), (0, .ref (ia_h E 0))] := hl
        refine lv_iload_n hx hb dX0_mostAtWork_40 rfl (lv_at hl 1 rfl) ?_
        refine lv_iload_n hx hb dX0_mostAtWork_41 rfl (lv_at hl 2 rfl) ?_
        refine lv_iload_n hx hb dX0_mostAtWork_42 rfl (lv_at hl 0 rfl) ?_
        refine zk_sub hx hb (by omega) dX0_mostAtWork_43 ?_
        refine lv_iconst (v := nI 1) hx hb dX0_mostAtWork_44 (by decide) ?_
        refine zk_add hx hb dX0_mostAtWork_45 ?_
        refine ia_max hx hb hml hl.1 ht hown (by omega) (by omega) zmX0_136 (Nat.le_of_ble_eq_true rfl) (Nat.le_of_ble_eq_true rfl) ⟨Nat.zero_le _, Nat.zero_le _⟩ dX0_mostAtWork_46 ?_
        refine lv_istore_n (lv' := [(1, .int (nI (max (zs_most g k) ((k - v) + 1)))), (2, .int (nI v)), (3, .int (nI k)), (0, .ref (ia_h E 0))]) hx hb dX0_mostAtWork_49 rfl hl (by decide) rfl (fun ls hl => ?_)
        refine lv_iinc (v := nI (k + 1)) (lv' := [(3, .int (nI (k + 1))), (1, .int (nI (max (zs_most g k) ((k - v) + 1)))), (2, .int (nI v)), (0, .ref (ia_h E 0))]) hx hb dX0_mostAtWork_50 hl (k := 2) rfl (zk_inc k) (by decide) rfl (fun ls hl => ?_)
        refine lv_goto (tgt := 6) hx hb dX0_mostAtWork_53 (by decide) ?_
        have e9 : max (zs_most g k) ((k - v) + 1) = zs_most g (k + 1) := by omega
        rw [e9, ev] at hl
        exact ih trivial ls (lv_sub hl [1, 2, 0, 3] rfl)
      · refine zk_up (nL := 4) (pcH := 14) (zs_oldest g k) k (fun o => zs_old g k (k - o) o = zs_oldest g (k + 1)) (fun o => [(2, .int (nI o)), (1, .int (nI (zs_most g k))), (3, .int (nI k)), (0, .ref (ia_h E 0))]) ?_ ?_ (k - zs_oldest g k) (zs_oldest g k) (Nat.le_refl _) (by omega) rfl ls (lv_sub hl [1, 0, 2, 3] rfl)
        · intro hP ls hl
          have hl : lv_has ls 4 [(2, .int (nI k)), (1, .int (nI (zs_most g k))), (3, .int (nI k)), (0, .ref (ia_h E 0))] := hl
          have hP : zs_old g k (k - k) k = zs_oldest g (k + 1) := hP
          rw [Nat.sub_self] at hP
          have hP : k = zs_oldest g (k + 1) := hP
          refine lv_iload_n hx hb dX0_mostAtWork_14 rfl (lv_at hl 0 rfl) ?_
          refine lv_iload_n hx hb dX0_mostAtWork_15 rfl (lv_at hl 2 rfl) ?_
          refine zk_cge (tgt := 40) hx hb dX0_mostAtWork_16 (by decide) (by omega) (by omega) (fun c_3 => ?_) (fun c_3 => ?_)
          · exact J k ls (show k = zs_oldest g (k + 1) from by omega) (lv_sub hl [0, 1, 2, 3] rfl)
          · exact absurd (show False from by omega) id
        · intro o ho0 ho ih2 hP ls hl
          have hl : lv_has ls 4 [(2, .int (nI o)), (1, .int (nI (zs_most g k))), (3, .int (nI k)), (0, .ref (ia_h E 0))] := hl
          have hP : zs_old g k (k - o) o = zs_oldest g (k + 1) := hP
          have e7 : (g 13 o ≤ g 12 k → zs_old g k (k - o) o = zs_old g k (k - (o + 1)) (o + 1)) ∧ (¬ g 13 o ≤ g 12 k → zs_old g k (k - o) o = o) := by
            rw [show k - o = (k - (o + 1)) + 1 by omega]
            exact ⟨fun h => if_pos h, fun h => if_neg h⟩
          refine lv_iload_n hx hb dX0_mostAtWork_14 rfl (lv_at hl 0 rfl) ?_
          refine lv_iload_n hx hb dX0_mostAtWork_15 rfl (lv_at hl 2 rfl) ?_
          refine zk_cge (tgt := 40) hx hb dX0_mostAtWork_16 (by decide) (by omega) (by omega) (fun c_4 => ?_) (fun c_4 => ?_)
          · exact J o ls (show o = zs_oldest g (k + 1) from by omega) (lv_sub hl [0, 1, 2, 3] rfl)
          · refine lv_aload_n hx hb dX0_mostAtWork_19 rfl (lv_at hl 3 rfl) ?_
            refine ia_get 13 (v := .ref (ia_h E 13)) hx hb ht hown hO (by decide) rfl zlX0_51 rfl dX0_mostAtWork_20 ?_
            refine lv_iload_n hx hb dX0_mostAtWork_23 rfl (lv_at hl 0 rfl) ?_
            refine ia_ild 13 o hx hb hO rfl (by omega) dX0_mostAtWork_24 ?_
            have b_5 := hg 13 o
            refine lv_aload_n hx hb dX0_mostAtWork_25 rfl (lv_at hl 3 rfl) ?_
            refine ia_get 12 (v := .ref (ia_h E 12)) hx hb ht hown hO (by decide) rfl zlX0_48 rfl dX0_mostAtWork_26 ?_
            refine lv_iload_n hx hb dX0_mostAtWork_29 rfl (lv_at hl 2 rfl) ?_
            refine ia_ild 12 k hx hb hO rfl (by omega) dX0_mostAtWork_30 ?_
            have b_6 := hg 12 k
            refine zk_cgt (tgt := 40) hx hb dX0_mostAtWork_31 (by decide) (by omega) (by omega) (fun c_7 => ?_) (fun c_7 => ?_)
            · exact J o ls (show o = zs_oldest g (k + 1) from by omega) (lv_sub hl [0, 1, 2, 3] rfl)
            · refine lv_iinc (v := nI (o + 1)) (lv' := [(2, .int (nI (o + 1))), (1, .int (nI (zs_most g k))), (3, .int (nI k)), (0, .ref (ia_h E 0))]) hx hb dX0_mostAtWork_34 hl (k := 0) rfl (zk_inc o) (by decide) rfl (fun ls hl => ?_)
              refine lv_goto (tgt := 14) hx hb dX0_mostAtWork_37 (by decide) ?_
              exact ih2 (show zs_old g k (k - (o + 1)) (o + 1) = zs_oldest g (k + 1) from by omega) ls (lv_sub hl [0, 1, 2, 3] rfl)
