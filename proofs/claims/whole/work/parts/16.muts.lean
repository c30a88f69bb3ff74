set_option maxHeartbeats 4000000 in
set_option maxRecDepth 100000 in
/-- settle -/
theorem zc_settle (l : Launch) (E : ia_E) (n : Nat) (g : Nat → Nat → Nat) (hg : zs_B g) (i : Nat) (hi : i < 400) (sz : Nat) : ia_V l yX0_settle cX0_settle 2 4 E n g sz [.int (nI i)] (n) (zs_settle g i) := by
  refine ia_Vof (by decide) rfl (Nat.le_of_ble_eq_true rfl) (fun p e s m args below meth c ls A hx hb hr hml hown ht hlk hA hO hD hS hl => ?_)
  have hl : lv_has ls 2 [(0, .ref (ia_h E 0)), (1, .int (nI i))] := hl
  refine lv_aload_n hx hb dX0_settle_0 rfl (lv_at hl 0 rfl) ?_
  refine ia_get 8 (v := .ref (ia_h E 8)) hx hb ht hown hO (by decide) rfl zlX0_36 rfl dX0_settle_1 ?_
  refine lv_iload_n hx hb dX0_settle_4 rfl (lv_at hl 1 rfl) ?_
  refine zk_cut (nL := 2) 37 (fun v_1 => v_1 = zs_slot g i) (fun v_1 => [(0, .ref (ia_h E 0)), (1, .int (nI i))]) (fun v_1 => [.int (nI v_1), .int (nI i), .ref (ia_h E 8)]) (fun v_1 ls e_2 hl => ?_) (fun J_3 => ?_)
  · have e_2 : v_1 = zs_slot g i := e_2
    have hl : lv_has ls 2 [(0, .ref (ia_h E 0)), (1, .int (nI i))] := hl
    have bz_1 := zb_slot g i
    refine ia_zst 8 i v_1 hx hb hO hD hS rfl (ia_set8 E n g i v_1) (by omega) (by omega) dX0_settle_37 (fun H locs hO hD hS => ?_)
    have hg_4 : zs_B (ia_up g 8 i v_1) := zs_B_up hg (by omega)
    obtain ⟨g_4, eg_4⟩ : ∃ z, z = ia_up g 8 i v_1 := ⟨_, rfl⟩
    rw [← eg_4] at hO hD hg_4
    have fg_4 : g_4 8 i = v_1 := by rw [eg_4]; simp [ia_up]
    refine lv_aload_n hx hb dX0_settle_38 rfl (lv_at hl 0 rfl) ?_
    refine ia_get 9 (v := .ref (ia_h E 9)) hx hb ht hown hO (by decide) rfl zlX0_39 rfl dX0_settle_39 ?_
    refine lv_iload_n hx hb dX0_settle_42 rfl (lv_at hl 1 rfl) ?_
    refine zk_cut (nL := 2) 87 (fun v_5 => v_5 = zs_fail g_4 i) (fun v_5 => [(0, .ref (ia_h E 0)), (1, .int (nI i))]) (fun v_5 => [.int (nI v_5), .int (nI i), .ref (ia_h E 9)]) (fun v_5 ls e_6 hl => ?_) (fun J_7 => ?_)
    · have e_6 : v_5 = zs_fail g_4 i := e_6
      have hl : lv_has ls 2 [(0, .ref (ia_h E 0)), (1, .int (nI i))] := hl
      have bz_2 := zb_fail g_4 i
      refine ia_zst 9 i v_5 hx hb hO hD hS rfl (ia_set9 E n g_4 i v_5) (by omega) (by omega) dX0_settle_87 (fun H locs hO hD hS => ?_)
      have hg_8 : zs_B (ia_up g_4 9 i v_5) := zs_B_up hg_4 (by omega)
      obtain ⟨g_8, eg_8⟩ : ∃ z, z = ia_up g_4 9 i v_5 := ⟨_, rfl⟩
      rw [← eg_8] at hO hD hg_8
      have fg_8 : g_8 9 i = v_5 := by rw [eg_8]; simp [ia_up]
      refine lv_aload_n hx hb dX0_settle_88 rfl (lv_at hl 0 rfl) ?_
      refine ia_get 10 (v := .ref (ia_h E 10)) hx hb ht hown hO (by decide) rfl zlX0_42 rfl dX0_settle_89 ?_
      refine lv_iload_n hx hb dX0_settle_92 rfl (lv_at hl 1 rfl) ?_
      refine zk_cut (nL := 2) 106 (fun v_9 => v_9 = zs_begin g_8 i) (fun v_9 => [(0, .ref (ia_h E 0)), (1, .int (nI i))]) (fun v_9 => [.int (nI v_9), .int (nI i), .ref (ia_h E 10)]) (fun v_9 ls e_10 hl => ?_) (fun J_11 => ?_)
      · have e_10 : v_9 = zs_begin g_8 i := e_10
        have hl : lv_has ls 2 [(0, .ref (ia_h E 0)), (1, .int (nI i))] := hl
        have bz_3 := zb_begin g_8 i
        refine ia_zst 10 i v_9 hx hb hO hD hS rfl (ia_set10 E n g_8 i v_9) (by omega) (by omega) dX0_settle_106 (fun H locs hO hD hS => ?_)
        have hg_12 : zs_B (ia_up g_8 10 i v_9) := zs_B_up hg_8 (by omega)
        obtain ⟨g_12, eg_12⟩ : ∃ z, z = ia_up g_8 10 i v_9 := ⟨_, rfl⟩
        rw [← eg_12] at hO hD hg_12
        have fg_12 : g_12 10 i = v_9 := by rw [eg_12]; simp [ia_up]
        refine lv_aload_n hx hb dX0_settle_107 rfl (lv_at hl 0 rfl) ?_
        refine ia_get 11 (v := .ref (ia_h E 11)) hx hb ht hown hO (by decide) rfl zlX0_45 rfl dX0_settle_108 ?_
        refine lv_iload_n hx hb dX0_settle_111 rfl (lv_at hl 1 rfl) ?_
        refine lv_aload_n hx hb dX0_settle_112 rfl (lv_at hl 0 rfl) ?_
        refine lv_iload_n hx hb dX0_settle_113 rfl (lv_at hl 1 rfl) ?_
        refine ia_call (rest := [.int (nI i), .ref (ia_h E 11)]) hx hb hml hl.1 hown ht hO (zc_fetch l E n g_12 hg_12 i (by omega)) zgX0_115 zyX0_leastFetchTime rfl ⟨by decide, by decide⟩ ⟨Nat.zero_le _, Nat.zero_le _⟩ (Nat.le_of_ble_eq_true rfl) rfl dX0_settle_114 ?_
        have b_13 := zb_fetch hg_12 i
        refine ia_ist 11 i (zs_fetch g_12 i) hx hb hO hD hS rfl (ia_set11 E n g_12 i (zs_fetch g_12 i)) (by omega) dX0_settle_117 (fun H locs hO hD hS => ?_)
        have hg_14 : zs_B (ia_up g_12 11 i (zs_fetch g_12 i)) := zs_B_up hg_12 (by omega)
        obtain ⟨g_14, eg_14⟩ : ∃ z, z = ia_up g_12 11 i (zs_fetch g_12 i) := ⟨_, rfl⟩
        rw [← eg_14] at hO hD hg_14
        have fg_14 : g_14 11 i = zs_fetch g_12 i := by rw [eg_14]; simp [ia_up]
        refine lv_aload_n hx hb dX0_settle_118 rfl (lv_at hl 0 rfl) ?_
        refine ia_get 12 (v := .ref (ia_h E 12)) hx hb ht hown hO (by decide) rfl zlX0_48 rfl dX0_settle_119 ?_
        refine lv_iload_n hx hb dX0_settle_122 rfl (lv_at hl 1 rfl) ?_
        refine lv_aload_n hx hb dX0_settle_123 rfl (lv_at hl 0 rfl) ?_
        refine lv_iload_n hx hb dX0_settle_124 rfl (lv_at hl 1 rfl) ?_
        refine ia_call (rest := [.int (nI i), .ref (ia_h E 12)]) hx hb hml hl.1 hown ht hO (zc_issue l E n g_14 hg_14 i (by omega)) zgX0_118 zyX0_leastIssueTime rfl ⟨by decide, by decide⟩ ⟨Nat.zero_le _, Nat.zero_le _⟩ (Nat.le_of_ble_eq_true rfl) rfl dX0_settle_125 ?_
        have b_15 := zb_issue hg_14 i (by omega)
        refine ia_ist 12 i (zs_issue g_14 i) hx hb hO hD hS rfl (ia_set12 E n g_14 i (zs_issue g_14 i)) (by omega) dX0_settle_128 (fun H locs hO hD hS => ?_)
        have hg_16 : zs_B (ia_up g_14 12 i (zs_issue g_14 i)) := zs_B_up hg_14 (by omega)
        obtain ⟨g_16, eg_16⟩ : ∃ z, z = ia_up g_14 12 i (zs_issue g_14 i) := ⟨_, rfl⟩
        rw [← eg_16] at hO hD hg_16
        have fg_16 : g_16 12 i = zs_issue g_14 i := by rw [eg_16]; simp [ia_up]
        refine lv_aload_n hx hb dX0_settle_129 rfl (lv_at hl 0 rfl) ?_
        refine ia_get 13 (v := .ref (ia_h E 13)) hx hb ht hown hO (by decide) rfl zlX0_51 rfl dX0_settle_130 ?_
        refine lv_iload_n hx hb dX0_settle_133 rfl (lv_at hl 1 rfl) ?_
        refine lv_aload_n hx hb dX0_settle_134 rfl (lv_at hl 0 rfl) ?_
        refine lv_iload_n hx hb dX0_settle_135 rfl (lv_at hl 1 rfl) ?_
        refine ia_call (rest := [.int (nI i), .ref (ia_h E 13)]) hx hb hml hl.1 hown ht hO (zc_done l E n g_16 hg_16 i (by omega)) zgX0_121 zyX0_leastDoneTime rfl ⟨by decide, by decide⟩ ⟨Nat.zero_le _, Nat.zero_le _⟩ (Nat.le_of_ble_eq_true rfl) rfl dX0_settle_136 ?_
        have b_17 := zb_done hg_16 i (by omega)
        refine ia_ist 13 i (zs_done g_16 i) hx hb hO hD hS rfl (ia_set13 E n g_16 i (zs_done g_16 i)) (by omega) dX0_settle_139 (fun H locs hO hD hS => ?_)
        have hg_18 : zs_B (ia_up g_16 13 i (zs_done g_16 i)) := zs_B_up hg_16 (by omega)
        obtain ⟨g_18, eg_18⟩ : ∃ z, z = ia_up g_16 13 i (zs_done g_16 i) := ⟨_, rfl⟩
        rw [← eg_18] at hO hD hg_18
        have fg_18 : g_18 13 i = zs_done g_16 i := by rw [eg_18]; simp [ia_up]
        exact ia_vret hx hb hr hlk hO hD hS (by subst eg_18 eg_16 eg_14 eg_12 eg_8 eg_4; subst e_2 e_6 e_10; rfl) dX0_settle_140
      · refine lv_aload_n hx hb dX0_settle_93 rfl (lv_at hl 0 rfl) ?_
        refine lv_iload_n hx hb dX0_settle_94 rfl (lv_at hl 1 rfl) ?_
        refine ia_call (rest := [.int (nI i), .ref (ia_h E 10)]) hx hb hml hl.1 hown ht hO (zc_joins l E n g_8 hg_8 i (by omega)) zgX0_112 zyX0_joinsGroup rfl ⟨by decide, by decide⟩ ⟨Nat.zero_le _, Nat.zero_le _⟩ (Nat.le_of_ble_eq_true rfl) rfl dX0_settle_95 ?_
        have b_19 := zb_joins g_8 i
        refine zk_ifne (tgt := 105) hx hb dX0_settle_98 (by decide) (by omega) (fun c_20 => ?_) (fun c_20 => ?_)
        · refine lv_iconst (v := nI 0) hx hb dX0_settle_105 (by decide) ?_
          exact J_11 0 ls (show 0 = zs_begin g_8 i from by unfold zs_begin; (repeat' split) <;> omega) (lv_sub hl [0, 1] rfl)
        · refine lv_iconst (v := nI 1) hx hb dX0_settle_101 (by decide) ?_
          refine lv_goto (tgt := 106) hx hb dX0_settle_102 (by decide) ?_
          exact J_11 1 ls (show 1 = zs_begin g_8 i from by unfold zs_begin; (repeat' split) <;> omega) (lv_sub hl [0, 1] rfl)
    · refine lv_aload_n hx hb dX0_settle_43 rfl (lv_at hl 0 rfl) ?_
      refine ia_get 7 (v := .ref (ia_h E 7)) hx hb ht hown hO (by decide) rfl zlX0_33 rfl dX0_settle_44 ?_
      refine lv_iload_n hx hb dX0_settle_47 rfl (lv_at hl 1 rfl) ?_
      refine ia_zld 7 i hx hb hO rfl (by omega) dX0_settle_48 ?_
      have b_21 := hg_4 7 i
      refine zk_ifne (tgt := 82) hx hb dX0_settle_49 (by decide) (by omega) (fun c_22 => ?_) (fun c_22 => ?_)
      · refine lv_iconst (v := nI 1) hx hb dX0_settle_82 (by decide) ?_
        refine lv_goto (tgt := 87) hx hb dX0_settle_83 (by decide) ?_
        exact J_7 1 ls (show 1 = zs_fail g_4 i from by unfold zs_fail; (repeat' split) <;> omega) (lv_sub hl [0, 1] rfl)
      · refine lv_aload_n hx hb dX0_settle_52 rfl (lv_at hl 0 rfl) ?_
        refine ia_get 1 (v := .ref (ia_h E 1)) hx hb ht hown hO (by decide) rfl zlX0_13 rfl dX0_settle_53 ?_
        refine lv_iload_n hx hb dX0_settle_56 rfl (lv_at hl 1 rfl) ?_
        refine ia_ild 1 i hx hb hO rfl (by omega) dX0_settle_57 ?_
        have b_23 := hg_4 1 i
        refine lv_bipush (v := nI 7) hx hb dX0_settle_58 (by decide) ?_
        refine zk_ceq (tgt := 82) hx hb dX0_settle_60 (by decide) (by omega) (by omega) (fun c_24 => ?_) (fun c_24 => ?_)
        · refine lv_iconst (v := nI 1) hx hb dX0_settle_82 (by decide) ?_
          refine lv_goto (tgt := 87) hx hb dX0_settle_83 (by decide) ?_
          exact J_7 1 ls (show 1 = zs_fail g_4 i from by unfold zs_fail; (repeat' split) <;> omega) (lv_sub hl [0, 1] rfl)
        · refine lv_aload_n hx hb dX0_settle_63 rfl (lv_at hl 0 rfl) ?_
          refine ia_get 1 (v := .ref (ia_h E 1)) hx hb ht hown hO (by decide) rfl zlX0_13 rfl dX0_settle_64 ?_
          refine lv_iload_n hx hb dX0_settle_67 rfl (lv_at hl 1 rfl) ?_
          refine ia_ild 1 i hx hb hO rfl (by omega) dX0_settle_68 ?_
          have b_25 := hg_4 1 i
          refine lv_iconst (v := nI 5) hx hb dX0_settle_69 (by decide) ?_
          refine zk_cne (tgt := 86) hx hb dX0_settle_70 (by decide) (by omega) (by omega) (fun c_26 => ?_) (fun c_26 => ?_)
          · refine lv_iconst (v := nI 0) hx hb dX0_settle_86 (by decide) ?_
            exact J_7 0 ls (show 0 = zs_fail g_4 i from by unfold zs_fail; (repeat' split) <;> omega) (lv_sub hl [0, 1] rfl)
          · refine lv_aload_n hx hb dX0_settle_73 rfl (lv_at hl 0 rfl) ?_
            refine ia_get 8 (v := .ref (ia_h E 8)) hx hb ht hown hO (by decide) rfl zlX0_36 rfl dX0_settle_74 ?_
            refine lv_iload_n hx hb dX0_settle_77 rfl (lv_at hl 1 rfl) ?_
            refine ia_zld 8 i hx hb hO rfl (by omega) dX0_settle_78 ?_
            have b_27 := hg_4 8 i
            refine zk_ifeq (tgt := 86) hx hb dX0_settle_79 (by decide) (by omega) (fun c_28 => ?_) (fun c_28 => ?_)
            · refine lv_iconst (v := nI 0) hx hb dX0_settle_86 (by decide) ?_
              exact J_7 0 ls (show 0 = zs_fail g_4 i from by unfold zs_fail; (repeat' split) <;> omega) (lv_sub hl [0, 1] rfl)
            · refine lv_iconst (v := nI 1) hx hb dX0_settle_82 (by decide) ?_
              refine lv_goto (tgt := 87) hx hb dX0_settle_83 (by decide) ?_
              exact J_7 1 ls (show 1 = zs_fail g_4 i from by unfold zs_fail; (repeat' split) <;> omega) (lv_sub hl [0, 1] rfl)
  · refine lv_iload_n hx hb dX0_settle_5 rfl (lv_at hl 1 rfl) ?_
    refine zk_ifle (tgt := 36) hx hb dX0_settle_6 (by decide) (by omega) (fun c_29 => ?_) (fun c_29 => ?_)
    · refine lv_iconst (v := nI 0) hx hb dX0_settle_36 (by decide) ?_
      exact J_3 0 ls (show 0 = zs_slot g i from by unfold zs_slot; (repeat' split) <;> omega) (lv_sub hl [0, 1] rfl)
    · refine lv_aload_n hx hb dX0_settle_9 rfl (lv_at hl 0 rfl) ?_
      refine ia_get 1 (v := .ref (ia_h E 1)) hx hb ht hown hO (by decide) rfl zlX0_13 rfl dX0_settle_10 ?_
      refine lv_iload_n hx hb dX0_settle_13 rfl (lv_at hl 1 rfl) ?_
      refine lv_iconst (v := nI 1) hx hb dX0_settle_14 (by decide) ?_
      refine zk_sub hx hb (by omega) dX0_settle_15 ?_
      refine ia_ild 1 (i - 1) hx hb hO rfl (by omega) dX0_settle_16 ?_
      have b_30 := hg 1 (i - 1)
      refine lv_iconst (v := nI 5) hx hb dX0_settle_17 (by decide) ?_
      refine zk_cne (tgt := 36) hx hb dX0_settle_18 (by decide) (by omega) (by omega) (fun c_31 => ?_) (fun c_31 => ?_)
      · refine lv_iconst (v := nI 0) hx hb dX0_settle_36 (by decide) ?_
        exact J_3 0 ls (show 0 = zs_slot g i from by unfold zs_slot; (repeat' split) <;> omega) (lv_sub hl [0, 1] rfl)
      · refine lv_aload_n hx hb dX0_settle_21 rfl (lv_at hl 0 rfl) ?_
        refine ia_get 9 (v := .ref (ia_h E 9)) hx hb ht hown hO (by decide) rfl zlX0_39 rfl dX0_settle_22 ?_
        refine lv_iload_n hx hb dX0_settle_25 rfl (lv_at hl 1 rfl) ?_
        refine lv_iconst (v := nI 1) hx hb dX0_settle_26 (by decide) ?_
        refine zk_sub hx hb (by omega) dX0_settle_27 ?_
        refine ia_zld 9 (i - 1) hx hb hO rfl (by omega) dX0_settle_28 ?_
        have b_32 := hg 9 (i - 1)
        refine zk_ifne (tgt := 36) hx hb dX0_settle_29 (by decide) (by omega) (fun c_33 => ?_) (fun c_33 => ?_)
        · refine lv_iconst (v := nI 0) hx hb dX0_settle_36 (by decide) ?_
          exact J_3 0 ls (show 0 = zs_slot g i from by unfold zs_slot; (repeat' split) <;> omega) (lv_sub hl [0, 1] rfl)
        · refine lv_iconst (v := nI 1) hx hb dX0_settle_32 (by decide) ?_
          refine lv_goto (tgt := 37) hx hb dX0_settle_33 (by decide) ?_
          exact J_3 1 ls (show 1 = zs_slot g i from by unfold zs_slot; (repeat' split) <;> omega) (lv_sub hl [0, 1] rfl)
set_option maxHeartbeats 4000000 in
set_option maxRecDepth 100000 in
/-- append -/
theorem zc_append (l : Launch) (E : ia_E) (n : Nat) (g : Nat → Nat → Nat) (hg : zs_B g) (k d a b f go : Nat) (hn : n < 400) (hk : k ≤ 7 ∧ d ≤ 31 ∧ a ≤ 31 ∧ b ≤ 31) (hf : f ≤ 2 ∧ go ≤ 1) (sz : Nat) : ia_M l yX0_append cX0_append 8 .int 5 E n g sz [.int (nI k), .int (nI d), .int (nI a), .int (nI b), .int (nI f), .int (nI go)] (nI n) (n + 1) (zs_append g n k d a b f go) := by
  refine ia_Mof (by decide) rfl (Nat.le_of_ble_eq_true rfl) (fun p e s m args below meth c ls A hx hb hr hml hown ht hlk hA hO hD hS hl => ?_)
  have hl : lv_has ls 8 [(0, .ref (ia_h E 0)), (1, .int (nI k)), (2, .int (nI d)), (3, .int (nI a)), (4, .int (nI b)), (5, .int (nI f)), (6, .int (nI go))] := hl
  refine lv_aload_n hx hb dX0_append_0 rfl (lv_at hl 0 rfl) ?_
  refine ia_get 0 (v := .int (nI n)) hx hb ht hown hO (by decide) rfl zlX0_7 rfl dX0_append_1 ?_
  refine lv_sipush (v := nI 400) hx hb dX0_append_4 (by decide) ?_
  refine zk_clt (tgt := 12) hx hb dX0_append_7 (by decide) (by omega) (by omega) (fun c_1 => ?_) (fun c_1 => ?_)
  · refine lv_aload_n hx hb dX0_append_12 rfl (lv_at hl 0 rfl) ?_
    refine ia_get 0 (v := .int (nI n)) hx hb ht hown hO (by decide) rfl zlX0_7 rfl dX0_append_13 ?_
    refine lv_istore (lv' := [(7, .int (nI n)), (0, .ref (ia_h E 0)), (1, .int (nI k)), (2, .int (nI d)), (3, .int (nI a)), (4, .int (nI b)), (5, .int (nI f)), (6, .int (nI go))]) hx hb dX0_append_16 hl (by decide) rfl (fun ls hl => ?_)
    refine lv_aload_n hx hb dX0_append_18 rfl (lv_at hl 1 rfl) ?_
    refine ia_get 1 (v := .ref (ia_h E 1)) hx hb ht hown hO (by decide) rfl zlX0_13 rfl dX0_append_19 ?_
    refine lv_iload hx hb dX0_append_22 (lv_at hl 0 rfl) ?_
    refine lv_iload_n hx hb dX0_append_24 rfl (lv_at hl 2 rfl) ?_
    refine ia_ist 1 n k hx hb hO hD hS rfl (ia_set1 E n g n k) (by omega) dX0_append_25 (fun H locs hO hD hS => ?_)
    have hg_2 : zs_B (ia_up g 1 n k) := zs_B_up hg (by omega)
    obtain ⟨g_2, eg_2⟩ : ∃ z, z = ia_up g 1 n k := ⟨_, rfl⟩
    rw [← eg_2] at hO hD hg_2
    have fg_2 : g_2 1 n = k := by rw [eg_2]; simp [ia_up]
    refine lv_aload_n hx hb dX0_append_26 rfl (lv_at hl 1 rfl) ?_
    refine ia_get 2 (v := .ref (ia_h E 2)) hx hb ht hown hO (by decide) rfl zlX0_17 rfl dX0_append_27 ?_
    refine lv_iload hx hb dX0_append_30 (lv_at hl 0 rfl) ?_
    refine lv_iload_n hx hb dX0_append_32 rfl (lv_at hl 3 rfl) ?_
    refine ia_ist 2 n d hx hb hO hD hS rfl (ia_set2 E n g_2 n d) (by omega) dX0_append_33 (fun H locs hO hD hS => ?_)
    have hg_3 : zs_B (ia_up g_2 2 n d) := zs_B_up hg_2 (by omega)
    obtain ⟨g_3, eg_3⟩ : ∃ z, z = ia_up g_2 2 n d := ⟨_, rfl⟩
    rw [← eg_3] at hO hD hg_3
    have fg_3 : g_3 2 n = d := by rw [eg_3]; simp [ia_up]
    refine lv_aload_n hx hb dX0_append_34 rfl (lv_at hl 1 rfl) ?_
    refine ia_get 3 (v := .ref (ia_h E 3)) hx hb ht hown hO (by decide) rfl zlX0_20 rfl dX0_append_35 ?_
    refine lv_iload hx hb dX0_append_38 (lv_at hl 0 rfl) ?_
    refine lv_iload_n hx hb dX0_append_40 rfl (lv_at hl 4 rfl) ?_
    refine ia_ist 3 n a hx hb hO hD hS rfl (ia_set3 E n g_3 n a) (by omega) dX0_append_41 (fun H locs hO hD hS => ?_)
    have hg_4 : zs_B (ia_up g_3 3 n a) := zs_B_up hg_3 (by omega)
    obtain ⟨g_4, eg_4⟩ : ∃ z, z = ia_up g_3 3 n a := ⟨_, rfl⟩
    rw [← eg_4] at hO hD hg_4
    have fg_4 : g_4 3 n = a := by rw [eg_4]; simp [ia_up]
    refine lv_aload_n hx hb dX0_append_42 rfl (lv_at hl 1 rfl) ?_
    refine ia_get 4 (v := .ref (ia_h E 4)) hx hb ht hown hO (by decide) rfl zlX0_23 rfl dX0_append_43 ?_
    refine lv_iload hx hb dX0_append_46 (lv_at hl 0 rfl) ?_
    refine lv_iload hx hb dX0_append_48 (lv_at hl 5 rfl) ?_
    refine ia_ist 4 n b hx hb hO hD hS rfl (ia_set4 E n g_4 n b) (by omega) dX0_append_50 (fun H locs hO hD hS => ?_)
    have hg_5 : zs_B (ia_up g_4 4 n b) := zs_B_up hg_4 (by omega)
    obtain ⟨g_5, eg_5⟩ : ∃ z, z = ia_up g_4 4 n b := ⟨_, rfl⟩
    rw [← eg_5] at hO hD hg_5
    have fg_5 : g_5 4 n = b := by rw [eg_5]; simp [ia_up]
    refine lv_aload_n hx hb dX0_append_51 rfl (lv_at hl 1 rfl) ?_
    refine ia_get 5 (v := .ref (ia_h E 5)) hx hb ht hown hO (by decide) rfl zlX0_26 rfl dX0_append_52 ?_
    refine lv_iload hx hb dX0_append_55 (lv_at hl 0 rfl) ?_
    refine lv_iload hx hb dX0_append_57 (lv_at hl 6 rfl) ?_
    refine ia_ist 5 n f hx hb hO hD hS rfl (ia_set5 E n g_5 n f) (by omega) dX0_append_59 (fun H locs hO hD hS => ?_)
    have hg_6 : zs_B (ia_up g_5 5 n f) := zs_B_up hg_5 (by omega)
    obtain ⟨g_6, eg_6⟩ : ∃ z, z = ia_up g_5 5 n f := ⟨_, rfl⟩
    rw [← eg_6] at hO hD hg_6
    have fg_6 : g_6 5 n = f := by rw [eg_6]; simp [ia_up]
    refine lv_aload_n hx hb dX0_append_60 rfl (lv_at hl 1 rfl) ?_
    refine ia_get 6 (v := .ref (ia_h E 6)) hx hb ht hown hO (by decide) rfl zlX0_29 rfl dX0_append_61 ?_
    refine lv_iload hx hb dX0_append_64 (lv_at hl 0 rfl) ?_
    refine lv_iload hx hb dX0_append_66 (lv_at hl 7 rfl) ?_
    refine ia_zst 6 n go hx hb hO hD hS rfl (ia_set6 E n g_6 n go) (by omega) (by omega) dX0_append_68 (fun H locs hO hD hS => ?_)
    have hg_7 : zs_B (ia_up g_6 6 n go) := zs_B_up hg_6 (by omega)
    obtain ⟨g_7, eg_7⟩ : ∃ z, z = ia_up g_6 6 n go := ⟨_, rfl⟩
    rw [← eg_7] at hO hD hg_7
    have fg_7 : g_7 6 n = go := by rw [eg_7]; simp [ia_up]
    refine lv_aload_n hx hb dX0_append_69 rfl (lv_at hl 1 rfl) ?_
    refine ia_get 7 (v := .ref (ia_h E 7)) hx hb ht hown hO (by decide) rfl zlX0_33 rfl dX0_append_70 ?_
    refine lv_iload hx hb dX0_append_73 (lv_at hl 0 rfl) ?_
    refine lv_iconst (v := nI 0) hx hb dX0_append_75 (by decide) ?_
    refine ia_zst 7 n 0 hx hb hO hD hS rfl (ia_set7 E n g_7 n 0) (by omega) (by omega) dX0_append_76 (fun H locs hO hD hS => ?_)
    have hg_8 : zs_B (ia_up g_7 7 n 0) := zs_B_up hg_7 (by omega)
    obtain ⟨g_8, eg_8⟩ : ∃ z, z = ia_up g_7 7 n 0 := ⟨_, rfl⟩
    rw [← eg_8] at hO hD hg_8
    have fg_8 : g_8 7 n = 0 := by rw [eg_8]; simp [ia_up]
    refine lv_aload_n hx hb dX0_append_77 rfl (lv_at hl 1 rfl) ?_
    refine lv_dup hx hb dX0_append_78 rfl ?_
    refine ia_get 0 (v := .int (nI n)) hx hb ht hown hO (by decide) rfl zlX0_7 rfl dX0_append_79 ?_
    refine lv_iconst (v := nI 1) hx hb dX0_append_82 (by decide) ?_
    refine zk_add hx hb dX0_append_83 ?_
    refine ia_putn (n + 1) hx hb ht hown hO hD hS zlX0_7 dX0_append_84 (fun H locs hO hD hS => ?_)
    refine lv_aload_n hx hb dX0_append_87 rfl (lv_at hl 1 rfl) ?_
    refine lv_iload hx hb dX0_append_88 (lv_at hl 0 rfl) ?_
    refine ia_callV (rest := []) hx hb hml hl.1 hown ht hO hD hS hA (zc_settle l E (n + 1) g_8 hg_8 n (by omega) _) zgX0_108 zyX0_settle rfl ⟨by decide, by decide⟩ ⟨Nat.zero_le _, Nat.zero_le _⟩ (Nat.le_of_ble_eq_true rfl) rfl dX0_append_90 (fun H locs hO hD hS => ?_)
    refine lv_iload hx hb dX0_append_93 (lv_at hl 0 rfl) ?_
    exact ia_miret hx hb hr hlk hO hD hS rfl (by subst eg_8 eg_7 eg_6 eg_5 eg_4 eg_3 eg_2; rfl) dX0_append_95
  · exact absurd (show False from by omega) id
set_option maxHeartbeats 4000000 in
set_option maxRecDepth 100000 in
/-- append -/
theorem zc_append_full (l : Launch) (E : ia_E) (n : Nat) (g : Nat → Nat → Nat) (hg : zs_B g) (k d a b f go : Nat) (hn : n = 400) (sz : Nat) : ia_M l yX0_append cX0_append 8 .int 5 E n g sz [.int (nI k), .int (nI d), .int (nI a), .int (nI b), .int (nI f), .int (nI go)] ((-1)) (n) (g) := by
  refine ia_Mof (by decide) rfl (Nat.le_of_ble_eq_true rfl) (fun p e s m args below meth c ls A hx hb hr hml hown ht hlk hA hO hD hS hl => ?_)
  have hl : lv_has ls 8 [(0, .ref (ia_h E 0)), (1, .int (nI k)), (2, .int (nI d)), (3, .int (nI a)), (4, .int (nI b)), (5, .int (nI f)), (6, .int (nI go))] := hl
  refine lv_aload_n hx hb dX0_append_0 rfl (lv_at hl 0 rfl) ?_
  refine ia_get 0 (v := .int (nI n)) hx hb ht hown hO (by decide) rfl zlX0_7 rfl dX0_append_1 ?_
  refine lv_sipush (v := nI 400) hx hb dX0_append_4 (by decide) ?_
  refine zk_clt (tgt := 12) hx hb dX0_append_7 (by decide) (by omega) (by omega) (fun c_1 => ?_) (fun c_1 => ?_)
  · exact absurd (show False from by omega) id
  · refine lv_iconst (v := (-1)) hx hb dX0_append_10 (by decide) ?_
    exact ia_miret hx hb hr hlk hO hD hS rfl (by rfl) dX0_append_11
set_option maxHeartbeats 4000000 in
set_option maxRecDepth 100000 in
/-- failLast -/
theorem zc_failLast (l : Launch) (E : ia_E) (n : Nat) (g : Nat → Nat → Nat) (hg : zs_B g)  (hn : 0 < n ∧ n ≤ 400) (sz : Nat) : ia_V l yX0_failLast cX0_failLast 2 5 E n g sz [] (n) (zs_failLast g (n - 1)) := by
  refine ia_Vof (by decide) rfl (Nat.le_of_ble_eq_true rfl) (fun p e s m args below meth c ls A hx hb hr hml hown ht hlk hA hO hD hS hl => ?_)
  have hl : lv_has ls 2 [(0, .ref (ia_h E 0))] := hl
  refine lv_aload_n hx hb dX0_failLast_0 rfl (lv_at hl 0 rfl) ?_
  refine ia_get 0 (v := .int (nI n)) hx hb ht hown hO (by decide) rfl zlX0_7 rfl dX0_failLast_1 ?_
  refine lv_iconst (v := nI 1) hx hb dX0_failLast_4 (by decide) ?_
  refine zk_sub hx hb (by omega) dX0_failLast_5 ?_
  refine lv_istore_n (lv' := [(1, .int (nI (n - 1))), (0, .ref (ia_h E 0))]) hx hb dX0_failLast_6 rfl hl (by decide) rfl (fun ls hl => ?_)
  refine lv_iload_n hx hb dX0_failLast_7 rfl (lv_at hl 0 rfl) ?_
  refine zk_iflt (tgt := 23) hx hb dX0_failLast_8 (by decide) (by omega) ?_
  refine lv_aload_n hx hb dX0_failLast_11 rfl (lv_at hl 1 rfl) ?_
  refine ia_get 7 (v := .ref (ia_h E 7)) hx hb ht hown hO (by decide) rfl zlX0_33 rfl dX0_failLast_12 ?_
  refine lv_iload_n hx hb dX0_failLast_15 rfl (lv_at hl 0 rfl) ?_
  refine lv_iconst (v := nI 1) hx hb dX0_failLast_16 (by decide) ?_
  refine ia_zst 7 (n - 1) 1 hx hb hO hD hS rfl (ia_set7 E n g (n - 1) 1) (by omega) (by omega) dX0_failLast_17 (fun H locs hO hD hS => ?_)
  have hg_2 : zs_B (ia_up g 7 (n - 1) 1) := zs_B_up hg (by omega)
  obtain ⟨g_2, eg_2⟩ : ∃ z, z = ia_up g 7 (n - 1) 1 := ⟨_, rfl⟩
  rw [← eg_2] at hO hD hg_2
  have fg_2 : g_2 7 (n - 1) = 1 := by rw [eg_2]; simp [ia_up]
  refine lv_aload_n hx hb dX0_failLast_18 rfl (lv_at hl 1 rfl) ?_
  refine lv_iload_n hx hb dX0_failLast_19 rfl (lv_at hl 0 rfl) ?_
  refine ia_callV (rest := []) hx hb hml hl.1 hown ht hO hD hS hA (zc_settle l E n g_2 hg_2 (n - 1) (by omega) _) zgX0_108 zyX0_settle rfl ⟨by decide, by decide⟩ ⟨Nat.zero_le _, Nat.zero_le _⟩ (Nat.le_of_ble_eq_true rfl) rfl dX0_failLast_20 (fun H locs hO hD hS => ?_)
  exact ia_vret hx hb hr hlk hO hD hS (by subst eg_2; rfl) dX0_failLast_23
