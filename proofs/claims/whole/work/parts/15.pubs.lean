set_option maxHeartbeats 4000000 in
set_option maxRecDepth 100000 in
/-- time -/
theorem zc_ptime_no (l : Launch) (E : ia_E) (n : Nat) (g : Nat → Nat → Nat) (hg : zs_B g) (x w : Int32) (hn : n ≤ 400) (h0 : ¬ (0 ≤ x.toInt ∧ x.toInt < n)) : ia_R l yX0_time cX0_time 3 .int 1 E n g [.int x, .int w] ((-1)) := by
  refine ia_Rof (by decide) rfl (Nat.le_of_ble_eq_true rfl) (fun p e s m args below meth c ls hx hb hr hml hown ht hlk hO hl => ?_)
  have hl : lv_has ls 3 [(0, .ref (ia_h E 0)), (1, .int x), (2, .int w)] := hl
  refine lv_aload_n hx hb dX0_time_0 rfl (lv_at hl 0 rfl) ?_
  refine lv_iload_n hx hb dX0_time_1 rfl (lv_at hl 1 rfl) ?_
  refine ia_call (rest := []) hx hb hml hl.1 hown ht hO (zc_ins l E n g x (by omega)) zgX0_65 zyX0_isInstruction rfl ⟨by decide, by decide⟩ ⟨Nat.zero_le _, Nat.zero_le _⟩ (Nat.le_of_ble_eq_true rfl) rfl dX0_time_2 ?_
  have b_1 := zb_ins n x.toInt
  refine zk_ifne (tgt := 10) hx hb dX0_time_5 (by decide) (by omega) (fun c_2 => ?_) (fun c_2 => ?_)
  · exact absurd (show False from by omega) id
  · refine lv_iconst (v := (-1)) hx hb dX0_time_8 (by decide) ?_
    exact ia_iret hx hb hr hlk rfl dX0_time_9
set_option maxHeartbeats 4000000 in
set_option maxRecDepth 100000 in
/-- time -/
theorem zc_ptime (l : Launch) (E : ia_E) (n : Nat) (g : Nat → Nat → Nat) (hg : zs_B g) (i : Nat) (w : Int32) (hn : n ≤ 400) (hi : i < n) : ia_R l yX0_time cX0_time 3 .int 1 E n g [.int (nI i), .int w] (zp_time g n i w.toInt) := by
  refine ia_Rof (by decide) rfl (Nat.le_of_ble_eq_true rfl) (fun p e s m args below meth c ls hx hb hr hml hown ht hlk hO hl => ?_)
  have hl : lv_has ls 3 [(0, .ref (ia_h E 0)), (1, .int (nI i)), (2, .int w)] := hl
  refine lv_aload_n hx hb dX0_time_0 rfl (lv_at hl 0 rfl) ?_
  refine lv_iload_n hx hb dX0_time_1 rfl (lv_at hl 1 rfl) ?_
  refine ia_call (rest := []) hx hb hml hl.1 hown ht hO (zc_ins l E n g (nI i) (by omega)) zgX0_65 zyX0_isInstruction rfl ⟨by decide, by decide⟩ ⟨Nat.zero_le _, Nat.zero_le _⟩ (Nat.le_of_ble_eq_true rfl) rfl dX0_time_2 ?_
  have t_1 := nI_toInt (n := i) (by omega)
  have b_2 := zb_ins n (nI i).toInt
  refine zk_ifne (tgt := 10) hx hb dX0_time_5 (by decide) (by omega) (fun c_3 => ?_) (fun c_3 => ?_)
  · refine lv_iload_n hx hb dX0_time_10 rfl (lv_at hl 2 rfl) ?_
    rcases (show w.toInt = 0 ∨ w.toInt = 1 ∨ w.toInt = 2 ∨ w.toInt = 3 ∨ w.toInt = 4 ∨ (w.toInt < 0 ∨ 4 < w.toInt) by omega) with w_4 | w_4 | w_4 | w_4 | w_4 | w_4
    · refine lv_tableIn (tgt := 44) (off := 33) hx hb dX0_time_11 (by omega) (by omega) (by rw [w_4]; rfl) (by decide) ?_
      refine lv_aload_n hx hb dX0_time_44 rfl (lv_at hl 0 rfl) ?_
      refine ia_get 11 (v := .ref (ia_h E 11)) hx hb ht hown hO (by decide) rfl zlX0_45 rfl dX0_time_45 ?_
      refine lv_iload_n hx hb dX0_time_48 rfl (lv_at hl 1 rfl) ?_
      refine ia_ild 11 i hx hb hO rfl (by omega) dX0_time_49 ?_
      have b_5 := hg 11 i
      exact ia_iret hx hb hr hlk (by simp [zp_time, w_4]) dX0_time_50
    · refine lv_tableIn (tgt := 51) (off := 40) hx hb dX0_time_11 (by omega) (by omega) (by rw [w_4]; rfl) (by decide) ?_
      refine lv_aload_n hx hb dX0_time_51 rfl (lv_at hl 0 rfl) ?_
      refine ia_get 12 (v := .ref (ia_h E 12)) hx hb ht hown hO (by decide) rfl zlX0_48 rfl dX0_time_52 ?_
      refine lv_iload_n hx hb dX0_time_55 rfl (lv_at hl 1 rfl) ?_
      refine ia_ild 12 i hx hb hO rfl (by omega) dX0_time_56 ?_
      have b_6 := hg 12 i
      exact ia_iret hx hb hr hlk (by simp [zp_time, w_4]) dX0_time_57
    · refine lv_tableIn (tgt := 58) (off := 47) hx hb dX0_time_11 (by omega) (by omega) (by rw [w_4]; rfl) (by decide) ?_
      refine lv_aload_n hx hb dX0_time_58 rfl (lv_at hl 0 rfl) ?_
      refine ia_get 13 (v := .ref (ia_h E 13)) hx hb ht hown hO (by decide) rfl zlX0_51 rfl dX0_time_59 ?_
      refine lv_iload_n hx hb dX0_time_62 rfl (lv_at hl 1 rfl) ?_
      refine ia_ild 13 i hx hb hO rfl (by omega) dX0_time_63 ?_
      have b_7 := hg 13 i
      exact ia_iret hx hb hr hlk (by simp [zp_time, w_4]) dX0_time_64
    · refine lv_tableIn (tgt := 65) (off := 54) hx hb dX0_time_11 (by omega) (by omega) (by rw [w_4]; rfl) (by decide) ?_
      refine lv_aload_n hx hb dX0_time_65 rfl (lv_at hl 0 rfl) ?_
      refine lv_iload_n hx hb dX0_time_66 rfl (lv_at hl 1 rfl) ?_
      refine ia_call (rest := []) hx hb hml hl.1 hown ht hO (zc_gsize l E n g hg i (by omega) (by omega)) zgX0_68 zyX0_groupSize rfl ⟨by decide, by decide⟩ ⟨Nat.zero_le _, Nat.zero_le _⟩ (Nat.le_of_ble_eq_true rfl) rfl dX0_time_67 ?_
      have b_8 := zb_gsize g n i
      exact ia_iret hx hb hr hlk (by simp [zp_time, w_4]) dX0_time_70
    · refine lv_tableIn (tgt := 71) (off := 60) hx hb dX0_time_11 (by omega) (by omega) (by rw [w_4]; rfl) (by decide) ?_
      refine lv_aload_n hx hb dX0_time_71 rfl (lv_at hl 0 rfl) ?_
      refine lv_iload_n hx hb dX0_time_72 rfl (lv_at hl 1 rfl) ?_
      refine ia_call (rest := []) hx hb hml hl.1 hown ht hO (zc_second l E n g hg i (by omega)) zgX0_72 zyX0_isIssuedAsSecond rfl ⟨by decide, by decide⟩ ⟨Nat.zero_le _, Nat.zero_le _⟩ (Nat.le_of_ble_eq_true rfl) rfl dX0_time_73 ?_
      have b_9 := zb_second g i
      refine ia_callS (rest := []) hx hb hml hl.1 hown ht (zc_one l (zs_second g i) (by omega)) zgX0_75 zyX0_oneIf rfl ⟨by decide, by decide⟩ ⟨Nat.zero_le _, Nat.zero_le _⟩ (Nat.le_of_ble_eq_true rfl) rfl dX0_time_76 ?_
      have b_10 := zb_one (zs_second g i)
      exact ia_iret hx hb hr hlk (by simp [zp_time, w_4]) dX0_time_79
    · refine lv_tableOut (tgt := 80) hx hb dX0_time_11 (by omega) (by decide) ?_
      refine lv_iconst (v := (-1)) hx hb dX0_time_80 (by decide) ?_
      exact ia_iret hx hb hr hlk (by unfold zp_time; rw [if_neg (by omega), if_neg (by omega), if_neg (by omega), if_neg (by omega), if_neg (by omega)]) dX0_time_81
  · exact absurd (show False from by omega) id
set_option maxHeartbeats 4000000 in
set_option maxRecDepth 100000 in
/-- of -/
theorem zc_pof_no (l : Launch) (E : ia_E) (n : Nat) (g : Nat → Nat → Nat) (hg : zs_B g) (x w : Int32) (hn : n ≤ 400) (h0 : ¬ (0 ≤ x.toInt ∧ x.toInt < n)) : ia_R l yX0_of cX0_of 3 .int 3 E n g [.int x, .int w] ((-1)) := by
  refine ia_Rof (by decide) rfl (Nat.le_of_ble_eq_true rfl) (fun p e s m args below meth c ls hx hb hr hml hown ht hlk hO hl => ?_)
  have hl : lv_has ls 3 [(0, .ref (ia_h E 0)), (1, .int x), (2, .int w)] := hl
  refine lv_aload_n hx hb dX0_of_0 rfl (lv_at hl 0 rfl) ?_
  refine lv_iload_n hx hb dX0_of_1 rfl (lv_at hl 1 rfl) ?_
  refine ia_call (rest := []) hx hb hml hl.1 hown ht hO (zc_ins l E n g x (by omega)) zgX0_65 zyX0_isInstruction rfl ⟨by decide, by decide⟩ ⟨Nat.zero_le _, Nat.zero_le _⟩ (Nat.le_of_ble_eq_true rfl) rfl dX0_of_2 ?_
  have b_1 := zb_ins n x.toInt
  refine zk_ifne (tgt := 10) hx hb dX0_of_5 (by decide) (by omega) (fun c_2 => ?_) (fun c_2 => ?_)
  · exact absurd (show False from by omega) id
  · refine lv_iconst (v := (-1)) hx hb dX0_of_8 (by decide) ?_
    exact ia_iret hx hb hr hlk rfl dX0_of_9
set_option maxHeartbeats 4000000 in
set_option maxRecDepth 100000 in
/-- of -/
theorem zc_pof (l : Launch) (E : ia_E) (n : Nat) (g : Nat → Nat → Nat) (hg : zs_B g) (i : Nat) (w : Int32) (hn : n ≤ 400) (hi : i < n) : ia_R l yX0_of cX0_of 3 .int 3 E n g [.int (nI i), .int w] (zp_of g i w.toInt) := by
  refine ia_Rof (by decide) rfl (Nat.le_of_ble_eq_true rfl) (fun p e s m args below meth c ls hx hb hr hml hown ht hlk hO hl => ?_)
  have hl : lv_has ls 3 [(0, .ref (ia_h E 0)), (1, .int (nI i)), (2, .int w)] := hl
  refine lv_aload_n hx hb dX0_of_0 rfl (lv_at hl 0 rfl) ?_
  refine lv_iload_n hx hb dX0_of_1 rfl (lv_at hl 1 rfl) ?_
  refine ia_call (rest := []) hx hb hml hl.1 hown ht hO (zc_ins l E n g (nI i) (by omega)) zgX0_65 zyX0_isInstruction rfl ⟨by decide, by decide⟩ ⟨Nat.zero_le _, Nat.zero_le _⟩ (Nat.le_of_ble_eq_true rfl) rfl dX0_of_2 ?_
  have t_1 := nI_toInt (n := i) (by omega)
  have b_2 := zb_ins n (nI i).toInt
  refine zk_ifne (tgt := 10) hx hb dX0_of_5 (by decide) (by omega) (fun c_3 => ?_) (fun c_3 => ?_)
  · refine lv_iload_n hx hb dX0_of_10 rfl (lv_at hl 2 rfl) ?_
    rcases (show w.toInt = 0 ∨ w.toInt = 1 ∨ w.toInt = 2 ∨ w.toInt = 3 ∨ w.toInt = 4 ∨ w.toInt = 5 ∨ w.toInt = 6 ∨ w.toInt = 7 ∨ (w.toInt < 0 ∨ 7 < w.toInt) by omega) with w_4 | w_4 | w_4 | w_4 | w_4 | w_4 | w_4 | w_4 | w_4
    · refine lv_tableIn (tgt := 56) (off := 45) hx hb dX0_of_11 (by omega) (by omega) (by rw [w_4]; rfl) (by decide) ?_
      refine lv_aload_n hx hb dX0_of_56 rfl (lv_at hl 0 rfl) ?_
      refine ia_get 1 (v := .ref (ia_h E 1)) hx hb ht hown hO (by decide) rfl zlX0_13 rfl dX0_of_57 ?_
      refine lv_iload_n hx hb dX0_of_60 rfl (lv_at hl 1 rfl) ?_
      refine ia_ild 1 i hx hb hO rfl (by omega) dX0_of_61 ?_
      have b_5 := hg 1 i
      exact ia_iret hx hb hr hlk (by simp [zp_of, w_4]) dX0_of_62
    · refine lv_tableIn (tgt := 63) (off := 52) hx hb dX0_of_11 (by omega) (by omega) (by rw [w_4]; rfl) (by decide) ?_
      refine lv_aload_n hx hb dX0_of_63 rfl (lv_at hl 0 rfl) ?_
      refine ia_get 2 (v := .ref (ia_h E 2)) hx hb ht hown hO (by decide) rfl zlX0_17 rfl dX0_of_64 ?_
      refine lv_iload_n hx hb dX0_of_67 rfl (lv_at hl 1 rfl) ?_
      refine ia_ild 2 i hx hb hO rfl (by omega) dX0_of_68 ?_
      have b_6 := hg 2 i
      exact ia_iret hx hb hr hlk (by simp [zp_of, w_4]) dX0_of_69
    · refine lv_tableIn (tgt := 70) (off := 59) hx hb dX0_of_11 (by omega) (by omega) (by rw [w_4]; rfl) (by decide) ?_
      refine lv_aload_n hx hb dX0_of_70 rfl (lv_at hl 0 rfl) ?_
      refine ia_get 3 (v := .ref (ia_h E 3)) hx hb ht hown hO (by decide) rfl zlX0_20 rfl dX0_of_71 ?_
      refine lv_iload_n hx hb dX0_of_74 rfl (lv_at hl 1 rfl) ?_
      refine ia_ild 3 i hx hb hO rfl (by omega) dX0_of_75 ?_
      have b_7 := hg 3 i
      exact ia_iret hx hb hr hlk (by simp [zp_of, w_4]) dX0_of_76
    · refine lv_tableIn (tgt := 77) (off := 66) hx hb dX0_of_11 (by omega) (by omega) (by rw [w_4]; rfl) (by decide) ?_
      refine lv_aload_n hx hb dX0_of_77 rfl (lv_at hl 0 rfl) ?_
      refine ia_get 4 (v := .ref (ia_h E 4)) hx hb ht hown hO (by decide) rfl zlX0_23 rfl dX0_of_78 ?_
      refine lv_iload_n hx hb dX0_of_81 rfl (lv_at hl 1 rfl) ?_
      refine ia_ild 4 i hx hb hO rfl (by omega) dX0_of_82 ?_
      have b_8 := hg 4 i
      exact ia_iret hx hb hr hlk (by simp [zp_of, w_4]) dX0_of_83
    · refine lv_tableIn (tgt := 84) (off := 73) hx hb dX0_of_11 (by omega) (by omega) (by rw [w_4]; rfl) (by decide) ?_
      refine lv_aload_n hx hb dX0_of_84 rfl (lv_at hl 0 rfl) ?_
      refine ia_get 9 (v := .ref (ia_h E 9)) hx hb ht hown hO (by decide) rfl zlX0_39 rfl dX0_of_85 ?_
      refine lv_iload_n hx hb dX0_of_88 rfl (lv_at hl 1 rfl) ?_
      refine ia_zld 9 i hx hb hO rfl (by omega) dX0_of_89 ?_
      have b_9 := hg 9 i
      refine ia_callS (rest := []) hx hb hml hl.1 hown ht (zc_one l (g 9 i) (by omega)) zgX0_75 zyX0_oneIf rfl ⟨by decide, by decide⟩ ⟨Nat.zero_le _, Nat.zero_le _⟩ (Nat.le_of_ble_eq_true rfl) rfl dX0_of_90 ?_
      have b_10 := zb_one (g 9 i)
      exact ia_iret hx hb hr hlk (by simp [zp_of, w_4]) dX0_of_93
    · refine lv_tableIn (tgt := 94) (off := 83) hx hb dX0_of_11 (by omega) (by omega) (by rw [w_4]; rfl) (by decide) ?_
      refine lv_aload_n hx hb dX0_of_94 rfl (lv_at hl 0 rfl) ?_
      refine ia_get 8 (v := .ref (ia_h E 8)) hx hb ht hown hO (by decide) rfl zlX0_36 rfl dX0_of_95 ?_
      refine lv_iload_n hx hb dX0_of_98 rfl (lv_at hl 1 rfl) ?_
      refine ia_zld 8 i hx hb hO rfl (by omega) dX0_of_99 ?_
      have b_11 := hg 8 i
      refine ia_callS (rest := []) hx hb hml hl.1 hown ht (zc_one l (g 8 i) (by omega)) zgX0_75 zyX0_oneIf rfl ⟨by decide, by decide⟩ ⟨Nat.zero_le _, Nat.zero_le _⟩ (Nat.le_of_ble_eq_true rfl) rfl dX0_of_100 ?_
      have b_12 := zb_one (g 8 i)
      exact ia_iret hx hb hr hlk (by simp [zp_of, w_4]) dX0_of_103
    · refine lv_tableIn (tgt := 104) (off := 93) hx hb dX0_of_11 (by omega) (by omega) (by rw [w_4]; rfl) (by decide) ?_
      refine lv_aload_n hx hb dX0_of_104 rfl (lv_at hl 0 rfl) ?_
      refine lv_iload_n hx hb dX0_of_105 rfl (lv_at hl 1 rfl) ?_
      refine ia_call (rest := []) hx hb hml hl.1 hown ht hO (zc_redir l E n g hg i (by omega)) zgX0_79 zyX0_isRedirected rfl ⟨by decide, by decide⟩ ⟨Nat.zero_le _, Nat.zero_le _⟩ (Nat.le_of_ble_eq_true rfl) rfl dX0_of_106 ?_
      have b_13 := zb_redir g i
      refine ia_callS (rest := []) hx hb hml hl.1 hown ht (zc_one l (zs_redir g i) (by omega)) zgX0_75 zyX0_oneIf rfl ⟨by decide, by decide⟩ ⟨Nat.zero_le _, Nat.zero_le _⟩ (Nat.le_of_ble_eq_true rfl) rfl dX0_of_109 ?_
      have b_14 := zb_one (zs_redir g i)
      exact ia_iret hx hb hr hlk (by simp [zp_of, w_4]) dX0_of_112
    · refine lv_tableIn (tgt := 113) (off := 102) hx hb dX0_of_11 (by omega) (by omega) (by rw [w_4]; rfl) (by decide) ?_
      refine lv_aload_n hx hb dX0_of_113 rfl (lv_at hl 0 rfl) ?_
      refine lv_iload_n hx hb dX0_of_114 rfl (lv_at hl 1 rfl) ?_
      refine ia_call (rest := []) hx hb hml hl.1 hown ht hO (zc_lies l E n g hg i (by omega)) zgX0_82 zyX0_liesBehind rfl ⟨by decide, by decide⟩ ⟨Nat.zero_le _, Nat.zero_le _⟩ (Nat.le_of_ble_eq_true rfl) rfl dX0_of_115 ?_
      have b_15 := zb_lies g i
      refine ia_callS (rest := []) hx hb hml hl.1 hown ht (zc_one l (zs_lies g i) (by omega)) zgX0_75 zyX0_oneIf rfl ⟨by decide, by decide⟩ ⟨Nat.zero_le _, Nat.zero_le _⟩ (Nat.le_of_ble_eq_true rfl) rfl dX0_of_118 ?_
      have b_16 := zb_one (zs_lies g i)
      exact ia_iret hx hb hr hlk (by simp [zp_of, w_4]) dX0_of_121
    · refine lv_tableOut (tgt := 122) hx hb dX0_of_11 (by omega) (by decide) ?_
      refine lv_iconst (v := (-1)) hx hb dX0_of_122 (by decide) ?_
      exact ia_iret hx hb hr hlk (by unfold zp_of; rw [if_neg (by omega), if_neg (by omega), if_neg (by omega), if_neg (by omega), if_neg (by omega), if_neg (by omega), if_neg (by omega), if_neg (by omega)]) dX0_of_123
  · exact absurd (show False from by omega) id
set_option maxHeartbeats 4000000 in
set_option maxRecDepth 100000 in
/-- stage -/
theorem zc_pstage_no (l : Launch) (E : ia_E) (n : Nat) (g : Nat → Nat → Nat) (hg : zs_B g) (x y : Int32) (hn : n ≤ 400) (h0 : ¬ (0 ≤ x.toInt ∧ x.toInt < n) ∨ y.toInt < 0) : ia_R l yX0_stage cX0_stage 3 .int 1 E n g [.int x, .int y] ((-1)) := by
  refine ia_Rof (by decide) rfl (Nat.le_of_ble_eq_true rfl) (fun p e s m args below meth c ls hx hb hr hml hown ht hlk hO hl => ?_)
  have hl : lv_has ls 3 [(0, .ref (ia_h E 0)), (1, .int x), (2, .int y)] := hl
  refine lv_aload_n hx hb dX0_stage_0 rfl (lv_at hl 0 rfl) ?_
  refine lv_iload_n hx hb dX0_stage_1 rfl (lv_at hl 1 rfl) ?_
  refine ia_call (rest := []) hx hb hml hl.1 hown ht hO (zc_ins l E n g x (by omega)) zgX0_65 zyX0_isInstruction rfl ⟨by decide, by decide⟩ ⟨Nat.zero_le _, Nat.zero_le _⟩ (Nat.le_of_ble_eq_true rfl) rfl dX0_stage_2 ?_
  have b_1 := zb_ins n x.toInt
  refine zk_ifeq (tgt := 12) hx hb dX0_stage_5 (by decide) (by omega) (fun c_2 => ?_) (fun c_2 => ?_)
  · refine lv_iconst (v := (-1)) hx hb dX0_stage_12 (by decide) ?_
    exact ia_iret hx hb hr hlk rfl dX0_stage_13
  · refine lv_iload_n hx hb dX0_stage_8 rfl (lv_at hl 2 rfl) ?_
    refine zi_ifge (tgt := 14) hx hb dX0_stage_9 (by decide) (fun c_3 => ?_) (fun c_3 => ?_)
    · exact absurd (show False from by omega) id
    · refine lv_iconst (v := (-1)) hx hb dX0_stage_12 (by decide) ?_
      exact ia_iret hx hb hr hlk rfl dX0_stage_13
set_option maxHeartbeats 4000000 in
set_option maxRecDepth 100000 in
/-- stage -/
theorem zc_pstage (l : Launch) (E : ia_E) (n : Nat) (g : Nat → Nat → Nat) (hg : zs_B g) (i y : Nat) (hn : n ≤ 400) (hi : i < n) (hy : y < 2 ^ 31) : ia_R l yX0_stage cX0_stage 3 .int 1 E n g [.int (nI i), .int (nI y)] (nI (zs_stage g i y)) := by
  refine ia_Rof (by decide) rfl (Nat.le_of_ble_eq_true rfl) (fun p e s m args below meth c ls hx hb hr hml hown ht hlk hO hl => ?_)
  have hl : lv_has ls 3 [(0, .ref (ia_h E 0)), (1, .int (nI i)), (2, .int (nI y))] := hl
  refine lv_aload_n hx hb dX0_stage_0 rfl (lv_at hl 0 rfl) ?_
  refine lv_iload_n hx hb dX0_stage_1 rfl (lv_at hl 1 rfl) ?_
  refine ia_call (rest := []) hx hb hml hl.1 hown ht hO (zc_ins l E n g (nI i) (by omega)) zgX0_65 zyX0_isInstruction rfl ⟨by decide, by decide⟩ ⟨Nat.zero_le _, Nat.zero_le _⟩ (Nat.le_of_ble_eq_true rfl) rfl dX0_stage_2 ?_
  have t_1 := nI_toInt (n := i) (by omega)
  have b_2 := zb_ins n (nI i).toInt
  refine zk_ifeq (tgt := 12) hx hb dX0_stage_5 (by decide) (by omega) (fun c_3 => ?_) (fun c_3 => ?_)
  · exact absurd (show False from by omega) id
  · refine lv_iload_n hx hb dX0_stage_8 rfl (lv_at hl 2 rfl) ?_
    refine zk_ifge (tgt := 14) hx hb dX0_stage_9 (by decide) (by omega) ?_
    refine lv_aload_n hx hb dX0_stage_14 rfl (lv_at hl 0 rfl) ?_
    refine lv_iload_n hx hb dX0_stage_15 rfl (lv_at hl 1 rfl) ?_
    refine lv_iload_n hx hb dX0_stage_16 rfl (lv_at hl 2 rfl) ?_
    refine ia_call (rest := []) hx hb hml hl.1 hown ht hO (zc_stage l E n g hg i y (by omega) (by omega)) zgX0_85 zyX0_stageAt rfl ⟨by decide, by decide⟩ ⟨Nat.zero_le _, Nat.zero_le _⟩ (Nat.le_of_ble_eq_true rfl) rfl dX0_stage_17 ?_
    have b_5 := zb_stage g i y
    exact ia_iret hx hb hr hlk rfl dX0_stage_20
set_option maxHeartbeats 4000000 in
set_option maxRecDepth 100000 in
/-- many -/
theorem zc_pmany_no (l : Launch) (E : ia_E) (n : Nat) (g : Nat → Nat → Nat) (hg : zs_B g) (x y : Int32) (hn : n ≤ 400) (h0 : x.toInt < 0 ∨ 3 < x.toInt ∨ y.toInt < 0) : ia_R l yX0_many cX0_many 5 .int 1 E n g [.int x, .int y] ((-1)) := by
  refine ia_Rof (by decide) rfl (Nat.le_of_ble_eq_true rfl) (fun p e s m args below meth c ls hx hb hr hml hown ht hlk hO hl => ?_)
  have hl : lv_has ls 5 [(0, .ref (ia_h E 0)), (1, .int x), (2, .int y)] := hl
  refine lv_iload_n hx hb dX0_many_0 rfl (lv_at hl 1 rfl) ?_
  refine zi_iflt (tgt := 13) hx hb dX0_many_1 (by decide) (fun c_1 => ?_) (fun c_1 => ?_)
  · refine lv_iconst (v := (-1)) hx hb dX0_many_13 (by decide) ?_
    exact ia_iret hx hb hr hlk rfl dX0_many_14
  · refine lv_iload_n hx hb dX0_many_4 rfl (lv_at hl 1 rfl) ?_
    refine lv_iconst (v := nI 3) hx hb dX0_many_5 (by decide) ?_
    have t_3 := nI_toInt (n := 3) (by omega)
    refine zi_cgt (tgt := 13) hx hb dX0_many_6 (by decide) (fun c_2 => ?_) (fun c_2 => ?_)
    · refine lv_iconst (v := (-1)) hx hb dX0_many_13 (by decide) ?_
      exact ia_iret hx hb hr hlk rfl dX0_many_14
    · refine lv_iload_n hx hb dX0_many_9 rfl (lv_at hl 2 rfl) ?_
      refine zi_ifge (tgt := 15) hx hb dX0_many_10 (by decide) (fun c_4 => ?_) (fun c_4 => ?_)
      · exact absurd (show False from by omega) id
      · refine lv_iconst (v := (-1)) hx hb dX0_many_13 (by decide) ?_
        exact ia_iret hx hb hr hlk rfl dX0_many_14
set_option maxHeartbeats 4000000 in
set_option maxRecDepth 100000 in
/-- many -/
theorem zc_pmany (l : Launch) (E : ia_E) (n : Nat) (g : Nat → Nat → Nat) (hg : zs_B g) (x y : Nat) (hn : n ≤ 400) (hx0 : x ≤ 3) (hy : y < 2 ^ 31) : ia_R l yX0_many cX0_many 5 .int 1 E n g [.int (nI x), .int (nI y)] (nI (zs_many g x y n)) := by
  refine ia_Rof (by decide) rfl (Nat.le_of_ble_eq_true rfl) (fun p e s m args below meth c ls hx hb hr hml hown ht hlk hO hl => ?_)
  have hl : lv_has ls 5 [(0, .ref (ia_h E 0)), (1, .int (nI x)), (2, .int (nI y))] := hl
  refine lv_iload_n hx hb dX0_many_0 rfl (lv_at hl 1 rfl) ?_
  refine zk_iflt (tgt := 13) hx hb dX0_many_1 (by decide) (by omega) ?_
  refine lv_iload_n hx hb dX0_many_4 rfl (lv_at hl 1 rfl) ?_
  refine lv_iconst (v := nI 3) hx hb dX0_many_5 (by decide) ?_
  refine zk_cgt (tgt := 13) hx hb dX0_many_6 (by decide) (by omega) (by omega) (fun c_2 => ?_) (fun c_2 => ?_)
  · exact absurd (show False from by omega) id
  · refine lv_iload_n hx hb dX0_many_9 rfl (lv_at hl 2 rfl) ?_
    refine zk_ifge (tgt := 15) hx hb dX0_many_10 (by decide) (by omega) ?_
    refine lv_iconst (v := nI 0) hx hb dX0_many_15 (by decide) ?_
    refine lv_istore_n (lv' := [(3, .int (nI 0)), (0, .ref (ia_h E 0)), (1, .int (nI x)), (2, .int (nI y))]) hx hb dX0_many_16 rfl hl (by decide) rfl (fun ls hl => ?_)
    refine lv_iconst (v := nI 0) hx hb dX0_many_17 (by decide) ?_
    refine lv_istore (lv' := [(4, .int (nI 0)), (3, .int (nI 0)), (0, .ref (ia_h E 0)), (1, .int (nI x)), (2, .int (nI y))]) hx hb dX0_many_18 hl (by decide) rfl (fun ls hl => ?_)
    refine zk_up (nL := 5) (pcH := 20) 0 n (fun _ => True) (fun k => [(3, .int (nI (zs_many g x y k))), (4, .int (nI k)), (0, .ref (ia_h E 0)), (1, .int (nI x)), (2, .int (nI y))]) ?_ ?_ n 0 (Nat.le_refl _) (by omega) trivial ls (lv_sub hl [1, 0, 2, 3, 4] rfl)
    · intro _ ls hl
      have hl : lv_has ls 5 [(3, .int (nI (zs_many g x y n))), (4, .int (nI n)), (0, .ref (ia_h E 0)), (1, .int (nI x)), (2, .int (nI y))] := hl
      refine lv_iload hx hb dX0_many_20 (lv_at hl 1 rfl) ?_
      refine lv_aload_n hx hb dX0_many_22 rfl (lv_at hl 2 rfl) ?_
      refine ia_get 0 (v := .int (nI n)) hx hb ht hown hO (by decide) rfl zlX0_7 rfl dX0_many_23 ?_
      refine zk_cge (tgt := 49) hx hb dX0_many_26 (by decide) (by omega) (by omega) (fun c_4 => ?_) (fun c_4 => ?_)
      · refine lv_iload_n hx hb dX0_many_49 rfl (lv_at hl 0 rfl) ?_
        exact ia_iret hx hb hr hlk rfl dX0_many_50
      · exact absurd (show False from by omega) id
    · intro k hk0 hk ih _ ls hl
      have hl : lv_has ls 5 [(3, .int (nI (zs_many g x y k))), (4, .int (nI k)), (0, .ref (ia_h E 0)), (1, .int (nI x)), (2, .int (nI y))] := hl
      have e1 : (zs_stage g k y = x → zs_many g x y (k + 1) = zs_many g x y k + 1) ∧ (¬ zs_stage g k y = x → zs_many g x y (k + 1) = zs_many g x y k + 0) := ⟨fun h => congrArg (fun z => zs_many g x y k + z) (if_pos h), fun h => congrArg (fun z => zs_many g x y k + z) (if_neg h)⟩
      have e2 := zb_many g x y k
      refine lv_iload hx hb dX0_many_20 (lv_at hl 1 rfl) ?_
      refine lv_aload_n hx hb dX0_many_22 rfl (lv_at hl 2 rfl) ?_
      refine ia_get 0 (v := .int (nI n)) hx hb ht hown hO (by decide) rfl zlX0_7 rfl dX0_many_23 ?_
      refine zk_cge (tgt := 49) hx hb dX0_many_26 (by decide) (by omega) (by omega) (fun c_5 => ?_) (fun c_5 => ?_)
      · exact absurd (show False from by omega) id
      · refine lv_aload_n hx hb dX0_many_29 rfl (lv_at hl 2 rfl) ?_
        refine lv_iload hx hb dX0_many_30 (lv_at hl 1 rfl) ?_
        refine lv_iload_n hx hb dX0_many_32 rfl (lv_at hl 4 rfl) ?_
        refine ia_call (rest := []) hx hb hml hl.1 hown ht hO (zc_stage l E n g hg k y (by omega) (by omega)) zgX0_85 zyX0_stageAt rfl ⟨by decide, by decide⟩ ⟨Nat.zero_le _, Nat.zero_le _⟩ (Nat.le_of_ble_eq_true rfl) rfl dX0_many_33 ?_
        have b_6 := zb_stage g k y
        refine lv_iload_n hx hb dX0_many_36 rfl (lv_at hl 3 rfl) ?_
        refine zk_cne (tgt := 43) hx hb dX0_many_37 (by decide) (by omega) (by omega) (fun c_7 => ?_) (fun c_7 => ?_)
        · refine lv_iinc (v := nI (k + 1)) (lv' := [(4, .int (nI (k + 1))), (3, .int (nI (zs_many g x y k))), (0, .ref (ia_h E 0)), (1, .int (nI x)), (2, .int (nI y))]) hx hb dX0_many_43 hl (k := 1) rfl (zk_inc k) (by decide) rfl (fun ls hl => ?_)
          refine lv_goto (tgt := 20) hx hb dX0_many_46 (by decide) ?_
          have e9 : zs_many g x y k = zs_many g x y (k + 1) := by omega
          rw [e9] at hl
          exact ih trivial ls (lv_sub hl [1, 0, 2, 3, 4] rfl)
        · refine lv_iinc (v := nI ((zs_many g x y k) + 1)) (lv' := [(3, .int (nI ((zs_many g x y k) + 1))), (4, .int (nI k)), (0, .ref (ia_h E 0)), (1, .int (nI x)), (2, .int (nI y))]) hx hb dX0_many_40 hl (k := 0) rfl (zk_inc (zs_many g x y k)) (by decide) rfl (fun ls hl => ?_)
          refine lv_iinc (v := nI (k + 1)) (lv' := [(4, .int (nI (k + 1))), (3, .int (nI ((zs_many g x y k) + 1))), (0, .ref (ia_h E 0)), (1, .int (nI x)), (2, .int (nI y))]) hx hb dX0_many_43 hl (k := 1) rfl (zk_inc k) (by decide) rfl (fun ls hl => ?_)
          refine lv_goto (tgt := 20) hx hb dX0_many_46 (by decide) ?_
          have e9 : (zs_many g x y k) + 1 = zs_many g x y (k + 1) := by omega
          rw [e9] at hl
          exact ih trivial ls (lv_sub hl [1, 0, 2, 3, 4] rfl)
set_option maxHeartbeats 4000000 in
set_option maxRecDepth 100000 in
/-- doneBefore -/
theorem zc_dbef2 (l : Launch) (E : ia_E) (n : Nat) (g : Nat → Nat → Nat) (hg : zs_B g) (i : Nat) (hi : i ≤ 400) : ia_R l yX0_doneBefore cX0_doneBefore 2 .int 0 E n g [.int (nI i)] (nI (zs_dbef g i)) := by
  refine ia_Rof (by decide) rfl (Nat.le_of_ble_eq_true rfl) (fun p e s m args below meth c ls hx hb hr hml hown ht hlk hO hl => ?_)
  have hl : lv_has ls 2 [(0, .ref (ia_h E 0)), (1, .int (nI i))] := hl
  refine lv_iload_n hx hb dX0_doneBefore_0 rfl (lv_at hl 1 rfl) ?_
  refine zk_ifle (tgt := 15) hx hb dX0_doneBefore_1 (by decide) (by omega) (fun c_1 => ?_) (fun c_1 => ?_)
  · refine lv_iconst (v := nI 0) hx hb dX0_doneBefore_15 (by decide) ?_
    exact ia_iret hx hb hr hlk (congrArg nI (show 0 = zs_dbef g i from by unfold zs_dbef; (repeat' split) <;> omega)) dX0_doneBefore_16
  · refine lv_aload_n hx hb dX0_doneBefore_4 rfl (lv_at hl 0 rfl) ?_
    refine ia_get 13 (v := .ref (ia_h E 13)) hx hb ht hown hO (by decide) rfl zlX0_51 rfl dX0_doneBefore_5 ?_
    refine lv_iload_n hx hb dX0_doneBefore_8 rfl (lv_at hl 1 rfl) ?_
    refine lv_iconst (v := nI 1) hx hb dX0_doneBefore_9 (by decide) ?_
    refine zk_sub hx hb (by omega) dX0_doneBefore_10 ?_
    refine ia_ild 13 (i - 1) hx hb hO rfl (by omega) dX0_doneBefore_11 ?_
    have b_2 := hg 13 (i - 1)
    refine lv_goto (tgt := 16) hx hb dX0_doneBefore_12 (by decide) ?_
    exact ia_iret hx hb hr hlk (congrArg nI (show g 13 (i - 1) = zs_dbef g i from by unfold zs_dbef; (repeat' split) <;> omega)) dX0_doneBefore_16
set_option maxHeartbeats 4000000 in
set_option maxRecDepth 100000 in
/-- look -/
theorem zc_plook (l : Launch) (E : ia_E) (n : Nat) (g : Nat → Nat → Nat) (hg : zs_B g) (w : Int32) (hn : n ≤ 400) (hm : ∀ k, k < n → zs_dbef g k ≤ g 13 k) : ia_R l yX0_look cX0_look 2 .int 2 E n g [.int w] (zp_look g n w.toInt) := by
  refine ia_Rof (by decide) rfl (Nat.le_of_ble_eq_true rfl) (fun p e s m args below meth c ls hx hb hr hml hown ht hlk hO hl => ?_)
  have hl : lv_has ls 2 [(0, .ref (ia_h E 0)), (1, .int w)] := hl
  refine lv_iload_n hx hb dX0_look_0 rfl (lv_at hl 1 rfl) ?_
  rcases (show w.toInt = 0 ∨ w.toInt = 1 ∨ w.toInt = 2 ∨ w.toInt = 3 ∨ w.toInt = 4 ∨ w.toInt = 5 ∨ w.toInt = 6 ∨ (w.toInt < 0 ∨ 6 < w.toInt) by omega) with w_1 | w_1 | w_1 | w_1 | w_1 | w_1 | w_1 | w_1
  · refine lv_tableIn (tgt := 44) (off := 43) hx hb dX0_look_1 (by omega) (by omega) (by rw [w_1]; rfl) (by decide) ?_
    refine lv_aload_n hx hb dX0_look_44 rfl (lv_at hl 0 rfl) ?_
    refine ia_get 0 (v := .int (nI n)) hx hb ht hown hO (by decide) rfl zlX0_7 rfl dX0_look_45 ?_
    exact ia_iret hx hb hr hlk (by simp [zp_look, w_1]) dX0_look_48
  · refine lv_tableIn (tgt := 49) (off := 48) hx hb dX0_look_1 (by omega) (by omega) (by rw [w_1]; rfl) (by decide) ?_
    refine lv_aload_n hx hb dX0_look_49 rfl (lv_at hl 0 rfl) ?_
    refine lv_aload_n hx hb dX0_look_50 rfl (lv_at hl 0 rfl) ?_
    refine ia_get 0 (v := .int (nI n)) hx hb ht hown hO (by decide) rfl zlX0_7 rfl dX0_look_51 ?_
    refine ia_call (rest := []) hx hb hml hl.1 hown ht hO (zc_dbef2 l E n g hg n (by omega)) zgX0_89 zyX0_doneBefore rfl ⟨by decide, by decide⟩ ⟨Nat.zero_le _, Nat.zero_le _⟩ (Nat.le_of_ble_eq_true rfl) rfl dX0_look_54 ?_
    have b_2 := zb_dbef hg n
    exact ia_iret hx hb hr hlk (by simp [zp_look, w_1]) dX0_look_57
  · refine lv_tableIn (tgt := 58) (off := 57) hx hb dX0_look_1 (by omega) (by omega) (by rw [w_1]; rfl) (by decide) ?_
    refine lv_aload_n hx hb dX0_look_58 rfl (lv_at hl 0 rfl) ?_
    refine ia_call (rest := []) hx hb hml hl.1 hown ht hO (zc_two l E n g hg (by omega)) zgX0_92 zyX0_cyclesWithTwoDone rfl ⟨by decide, by decide⟩ ⟨Nat.zero_le _, Nat.zero_le _⟩ (Nat.le_of_ble_eq_true rfl) rfl dX0_look_59 ?_
    exact ia_iret hx hb hr hlk (by simp [zp_look, w_1]) dX0_look_62
  · refine lv_tableIn (tgt := 63) (off := 62) hx hb dX0_look_1 (by omega) (by omega) (by rw [w_1]; rfl) (by decide) ?_
    refine lv_aload_n hx hb dX0_look_63 rfl (lv_at hl 0 rfl) ?_
    refine ia_call (rest := []) hx hb hml hl.1 hown ht hO (zc_long l E n g hg (by omega) hm) zgX0_96 zyX0_longestWayBetweenDone rfl ⟨by decide, by decide⟩ ⟨Nat.zero_le _, Nat.zero_le _⟩ (Nat.le_of_ble_eq_true rfl) rfl dX0_look_64 ?_
    exact ia_iret hx hb hr hlk (by simp [zp_look, w_1]) dX0_look_67
  · refine lv_tableIn (tgt := 68) (off := 67) hx hb dX0_look_1 (by omega) (by omega) (by rw [w_1]; rfl) (by decide) ?_
    refine lv_aload_n hx hb dX0_look_68 rfl (lv_at hl 0 rfl) ?_
    refine ia_call (rest := []) hx hb hml hl.1 hown ht hO (zc_groups l E n g hg (by omega)) zgX0_99 zyX0_groups rfl ⟨by decide, by decide⟩ ⟨Nat.zero_le _, Nat.zero_le _⟩ (Nat.le_of_ble_eq_true rfl) rfl dX0_look_69 ?_
    exact ia_iret hx hb hr hlk (by simp [zp_look, w_1]) dX0_look_72
  · refine lv_tableIn (tgt := 73) (off := 72) hx hb dX0_look_1 (by omega) (by omega) (by rw [w_1]; rfl) (by decide) ?_
    refine lv_aload_n hx hb dX0_look_73 rfl (lv_at hl 0 rfl) ?_
    refine ia_call (rest := []) hx hb hml hl.1 hown ht hO (zc_pairs l E n g hg (by omega)) zgX0_102 zyX0_pairsIssuedAtOnce rfl ⟨by decide, by decide⟩ ⟨Nat.zero_le _, Nat.zero_le _⟩ (Nat.le_of_ble_eq_true rfl) rfl dX0_look_74 ?_
    exact ia_iret hx hb hr hlk (by simp [zp_look, w_1]) dX0_look_77
  · refine lv_tableIn (tgt := 78) (off := 77) hx hb dX0_look_1 (by omega) (by omega) (by rw [w_1]; rfl) (by decide) ?_
    refine lv_aload_n hx hb dX0_look_78 rfl (lv_at hl 0 rfl) ?_
    refine ia_call (rest := []) hx hb hml hl.1 hown ht hO (zc_most l E n g hg (by omega)) zgX0_105 zyX0_mostAtWork rfl ⟨by decide, by decide⟩ ⟨Nat.zero_le _, Nat.zero_le _⟩ (Nat.le_of_ble_eq_true rfl) rfl dX0_look_79 ?_
    exact ia_iret hx hb hr hlk (by simp [zp_look, w_1]) dX0_look_82
  · refine lv_tableOut (tgt := 83) hx hb dX0_look_1 (by omega) (by decide) ?_
    refine lv_iconst (v := (-1)) hx hb dX0_look_83 (by decide) ?_
    exact ia_iret hx hb hr hlk (by unfold zp_look; rw [if_neg (by omega), if_neg (by omega), if_neg (by omega), if_neg (by omega), if_neg (by omega), if_neg (by omega), if_neg (by omega)]) dX0_look_84
