def zpm_of (g : Nat → Nat → Nat) (i : Nat) (w : Int) : Int32 := if w = 0 then nI (g 1 i) else if w = 1 then nI (g 2 i) else if w = 2 then nI (g 3 i) else if w = 3 then nI (g 4 i) else if w = 4 then nI (zs_one (g 9 i)) else if w = 5 then nI (zs_one (g 8 i)) else if w = 6 then nI (zs_one (g 14 i)) else if w = 7 then nI (zs_one (g 15 i)) else (-1)
def zpm_look (g : Nat → Nat → Nat) (n : Nat) (w : Int) : Int32 := if w = 0 then nI n else if w = 1 then nI (zs_dbef g n) else if w = 2 then nI (zm_cnt g 2 n) else if w = 3 then nI (zs_long g n) else if w = 4 then nI (zm_cnt g 4 n) else if w = 5 then nI (zm_cnt g 5 n) else if w = 6 then nI (zm_busy g n n) else (-1)
set_option maxHeartbeats 4000000 in
set_option maxRecDepth 100000 in
/-- the reference: time -/
theorem zmc_time_no (l : Launch) (E : ia_E) (n : Nat) (g : Nat → Nat → Nat) (hg : zm_B g) (x w : Int32) (hv : zs_V g) (hn : n ≤ 400) (h0 : ¬ (0 ≤ x.toInt ∧ x.toInt < n)) (sz : Nat) : im_M l yX1_time cX1_time 3 .int 3 E n g sz [.int x, .int w] ((-1)) (n) (g) := by
  refine im_Mof (by decide) rfl (Nat.le_of_ble_eq_true rfl) (fun p e s m args below meth c ls A hx hb hr hml hown ht hlk hA hO hD hS hl => ?_)
  have hl : lv_has ls 3 [(0, .ref (ia_h E 0)), (1, .int x), (2, .int w)] := hl
  refine lv_aload_n hx hb dX1_time_0 rfl (lv_at hl 0 rfl) ?_
  refine lv_iconst (v := nI 0) hx hb dX1_time_1 (by decide) ?_
  refine im_putt hx hb ht hown hO hD hS zlX1_59 dX1_time_2 (fun H locs hO hD hS => ?_)
  refine lv_iload_n hx hb dX1_time_5 rfl (lv_at hl 1 rfl) ?_
  refine zi_iflt (tgt := 17) hx hb dX1_time_6 (by decide) (fun c_1 => ?_) (fun c_1 => ?_)
  · refine lv_iconst (v := (-1)) hx hb dX1_time_17 (by decide) ?_
    exact im_miret hx hb hr hlk hO hD hS rfl (by rfl) dX1_time_18
  · refine lv_iload_n hx hb dX1_time_9 rfl (lv_at hl 1 rfl) ?_
    refine lv_aload_n hx hb dX1_time_10 rfl (lv_at hl 0 rfl) ?_
    refine im_get 1 (v := .int (nI n)) hx hb ht hown hO (by decide) rfl zlX1_63 rfl dX1_time_11 ?_
    have t_3 := nI_toInt (n := n) (by omega)
    refine zi_clt (tgt := 19) hx hb dX1_time_14 (by decide) (fun c_2 => ?_) (fun c_2 => ?_)
    · exact absurd (show False from by omega) id
    · refine lv_iconst (v := (-1)) hx hb dX1_time_17 (by decide) ?_
      exact im_miret hx hb hr hlk hO hD hS rfl (by rfl) dX1_time_18
set_option maxHeartbeats 4000000 in
set_option maxRecDepth 100000 in
/-- the reference: of -/
theorem zmc_of_no (l : Launch) (E : ia_E) (n : Nat) (g : Nat → Nat → Nat) (hg : zm_B g) (x w : Int32) (hv : zs_V g) (hn : n ≤ 400) (h0 : ¬ (0 ≤ x.toInt ∧ x.toInt < n)) (sz : Nat) : im_M l yX1_of cX1_of 3 .int 3 E n g sz [.int x, .int w] ((-1)) (n) (g) := by
  refine im_Mof (by decide) rfl (Nat.le_of_ble_eq_true rfl) (fun p e s m args below meth c ls A hx hb hr hml hown ht hlk hA hO hD hS hl => ?_)
  have hl : lv_has ls 3 [(0, .ref (ia_h E 0)), (1, .int x), (2, .int w)] := hl
  refine lv_aload_n hx hb dX1_of_0 rfl (lv_at hl 0 rfl) ?_
  refine lv_iconst (v := nI 0) hx hb dX1_of_1 (by decide) ?_
  refine im_putt hx hb ht hown hO hD hS zlX1_59 dX1_of_2 (fun H locs hO hD hS => ?_)
  refine lv_iload_n hx hb dX1_of_5 rfl (lv_at hl 1 rfl) ?_
  refine zi_iflt (tgt := 17) hx hb dX1_of_6 (by decide) (fun c_1 => ?_) (fun c_1 => ?_)
  · refine lv_iconst (v := (-1)) hx hb dX1_of_17 (by decide) ?_
    exact im_miret hx hb hr hlk hO hD hS rfl (by rfl) dX1_of_18
  · refine lv_iload_n hx hb dX1_of_9 rfl (lv_at hl 1 rfl) ?_
    refine lv_aload_n hx hb dX1_of_10 rfl (lv_at hl 0 rfl) ?_
    refine im_get 1 (v := .int (nI n)) hx hb ht hown hO (by decide) rfl zlX1_63 rfl dX1_of_11 ?_
    have t_3 := nI_toInt (n := n) (by omega)
    refine zi_clt (tgt := 19) hx hb dX1_of_14 (by decide) (fun c_2 => ?_) (fun c_2 => ?_)
    · exact absurd (show False from by omega) id
    · refine lv_iconst (v := (-1)) hx hb dX1_of_17 (by decide) ?_
      exact im_miret hx hb hr hlk hO hD hS rfl (by rfl) dX1_of_18
set_option maxHeartbeats 4000000 in
set_option maxRecDepth 100000 in
/-- the reference: time -/
theorem zmc_time (l : Launch) (E : ia_E) (n : Nat) (g : Nat → Nat → Nat) (hg : zm_B g) (i : Nat) (w : Int32) (hv : zs_V g) (hn : n ≤ 400) (hi : i < n) (sz : Nat) : im_M l yX1_time cX1_time 3 .int 3 E n g sz [.int (nI i), .int w] (zp_time (zm_loop g n) n i w.toInt) (n) (zm_loop g n) := by
  refine im_Mof (by decide) rfl (Nat.le_of_ble_eq_true rfl) (fun p e s m args below meth c ls A hx hb hr hml hown ht hlk hA hO hD hS hl => ?_)
  have hl : lv_has ls 3 [(0, .ref (ia_h E 0)), (1, .int (nI i)), (2, .int w)] := hl
  refine lv_aload_n hx hb dX1_time_0 rfl (lv_at hl 0 rfl) ?_
  refine lv_iconst (v := nI 0) hx hb dX1_time_1 (by decide) ?_
  refine im_putt hx hb ht hown hO hD hS zlX1_59 dX1_time_2 (fun H locs hO hD hS => ?_)
  refine lv_iload_n hx hb dX1_time_5 rfl (lv_at hl 1 rfl) ?_
  refine zk_iflt (tgt := 17) hx hb dX1_time_6 (by decide) (by omega) ?_
  refine lv_iload_n hx hb dX1_time_9 rfl (lv_at hl 1 rfl) ?_
  refine lv_aload_n hx hb dX1_time_10 rfl (lv_at hl 0 rfl) ?_
  refine im_get 1 (v := .int (nI n)) hx hb ht hown hO (by decide) rfl zlX1_63 rfl dX1_time_11 ?_
  refine zk_clt (tgt := 19) hx hb dX1_time_14 (by decide) (by omega) (by omega) (fun c_2 => ?_) (fun c_2 => ?_)
  · refine lv_aload_n hx hb dX1_time_19 rfl (lv_at hl 0 rfl) ?_
    refine im_callV (rest := []) hx hb hml hl.1 hown ht hO hD hS hA (zmc_reckon l E n g hg hv (by omega) _) zgX1_104 zyX1_reckon rfl ⟨by decide, by decide⟩ ⟨Nat.zero_le _, Nat.zero_le _⟩ (Nat.le_of_ble_eq_true rfl) rfl dX1_time_20 (fun H locs hO hD hS => ?_)
    have hL := zm_L_loop hg hv n (by omega)
    refine lv_iload_n hx hb dX1_time_23 rfl (lv_at hl 2 rfl) ?_
    rcases (show w.toInt = 0 ∨ w.toInt = 1 ∨ w.toInt = 2 ∨ w.toInt = 3 ∨ w.toInt = 4 ∨ (w.toInt < 0 ∨ 4 < w.toInt) by omega) with w_3 | w_3 | w_3 | w_3 | w_3 | w_3
    · refine lv_tableIn (tgt := 60) (off := 36) hx hb dX1_time_24 (by omega) (by omega) (by rw [w_3]; rfl) (by decide) ?_
      refine lv_aload_n hx hb dX1_time_60 rfl (lv_at hl 0 rfl) ?_
      refine im_get 13 (v := .ref (ia_h E 13)) hx hb ht hown hO (by decide) rfl zlX1_44 rfl dX1_time_61 ?_
      refine lv_iload_n hx hb dX1_time_64 rfl (lv_at hl 1 rfl) ?_
      refine im_ild 12 13 11 i hx hb hO rfl (by omega) dX1_time_65 ?_
      have b_4 := hL.1.1 11 i (by decide)
      exact im_miret hx hb hr hlk hO hD hS ((congrArg nI (show (zm_loop g n) 11 i = (zm_loop g n) 11 i from by omega)).trans (show nI ((zm_loop g n) 11 i) = zp_time (zm_loop g n) n i w.toInt from by simp [zp_time, w_3])) rfl dX1_time_66
    · refine lv_tableIn (tgt := 67) (off := 43) hx hb dX1_time_24 (by omega) (by omega) (by rw [w_3]; rfl) (by decide) ?_
      refine lv_aload_n hx hb dX1_time_67 rfl (lv_at hl 0 rfl) ?_
      refine im_get 14 (v := .ref (ia_h E 14)) hx hb ht hown hO (by decide) rfl zlX1_47 rfl dX1_time_68 ?_
      refine lv_iload_n hx hb dX1_time_71 rfl (lv_at hl 1 rfl) ?_
      refine im_ild 13 14 12 i hx hb hO rfl (by omega) dX1_time_72 ?_
      have b_5 := hL.1.1 12 i (by decide)
      exact im_miret hx hb hr hlk hO hD hS ((congrArg nI (show (zm_loop g n) 12 i = (zm_loop g n) 12 i from by omega)).trans (show nI ((zm_loop g n) 12 i) = zp_time (zm_loop g n) n i w.toInt from by simp [zp_time, w_3])) rfl dX1_time_73
    · refine lv_tableIn (tgt := 74) (off := 50) hx hb dX1_time_24 (by omega) (by omega) (by rw [w_3]; rfl) (by decide) ?_
      refine lv_aload_n hx hb dX1_time_74 rfl (lv_at hl 0 rfl) ?_
      refine im_get 15 (v := .ref (ia_h E 15)) hx hb ht hown hO (by decide) rfl zlX1_50 rfl dX1_time_75 ?_
      refine lv_iload_n hx hb dX1_time_78 rfl (lv_at hl 1 rfl) ?_
      refine im_ild 14 15 13 i hx hb hO rfl (by omega) dX1_time_79 ?_
      have b_6 := hL.1.1 13 i (by decide)
      exact im_miret hx hb hr hlk hO hD hS ((congrArg nI (show (zm_loop g n) 13 i = (zm_loop g n) 13 i from by omega)).trans (show nI ((zm_loop g n) 13 i) = zp_time (zm_loop g n) n i w.toInt from by simp [zp_time, w_3])) rfl dX1_time_80
    · refine lv_tableIn (tgt := 81) (off := 57) hx hb dX1_time_24 (by omega) (by omega) (by rw [w_3]; rfl) (by decide) ?_
      refine lv_aload_n hx hb dX1_time_81 rfl (lv_at hl 0 rfl) ?_
      refine im_get 16 (v := .ref (ia_h E 16)) hx hb ht hown hO (by decide) rfl zlX1_53 rfl dX1_time_82 ?_
      refine lv_iload_n hx hb dX1_time_85 rfl (lv_at hl 1 rfl) ?_
      refine im_zld 15 16 10 i hx hb hO rfl (by omega) dX1_time_86 ?_
      have b_7 := hL.1.1 10 i (by decide)
      refine zk_ifeq (tgt := 125) hx hb dX1_time_87 (by decide) (by omega) (fun c_8 => ?_) (fun c_8 => ?_)
      · refine lv_iconst (v := nI 2) hx hb dX1_time_125 (by decide) ?_
        refine lv_goto (tgt := 130) hx hb dX1_time_126 (by decide) ?_
        exact im_miret hx hb hr hlk hO hD hS ((congrArg nI (show 2 = zs_gsize (zm_loop g n) n i from by unfold zs_gsize; (repeat' split) <;> omega)).trans (show nI (zs_gsize (zm_loop g n) n i) = zp_time (zm_loop g n) n i w.toInt from by simp [zp_time, w_3])) rfl dX1_time_130
      · refine lv_iload_n hx hb dX1_time_90 rfl (lv_at hl 1 rfl) ?_
        refine lv_iconst (v := nI 1) hx hb dX1_time_91 (by decide) ?_
        refine zk_add hx hb dX1_time_92 ?_
        refine lv_aload_n hx hb dX1_time_93 rfl (lv_at hl 0 rfl) ?_
        refine im_get 1 (v := .int (nI n)) hx hb ht hown hO (by decide) rfl zlX1_63 rfl dX1_time_94 ?_
        refine zk_cge (tgt := 129) hx hb dX1_time_97 (by decide) (by omega) (by omega) (fun c_9 => ?_) (fun c_9 => ?_)
        · refine lv_iconst (v := nI 1) hx hb dX1_time_129 (by decide) ?_
          exact im_miret hx hb hr hlk hO hD hS ((congrArg nI (show 1 = zs_gsize (zm_loop g n) n i from by unfold zs_gsize; (repeat' split) <;> omega)).trans (show nI (zs_gsize (zm_loop g n) n i) = zp_time (zm_loop g n) n i w.toInt from by simp [zp_time, w_3])) rfl dX1_time_130
        · refine lv_aload_n hx hb dX1_time_100 rfl (lv_at hl 0 rfl) ?_
          refine im_get 16 (v := .ref (ia_h E 16)) hx hb ht hown hO (by decide) rfl zlX1_53 rfl dX1_time_101 ?_
          refine lv_iload_n hx hb dX1_time_104 rfl (lv_at hl 1 rfl) ?_
          refine lv_iconst (v := nI 1) hx hb dX1_time_105 (by decide) ?_
          refine zk_add hx hb dX1_time_106 ?_
          refine lv_aload_n hx hb dX1_time_107 rfl (lv_at hl 0 rfl) ?_
          refine im_get 1 (v := .int (nI n)) hx hb ht hown hO (by decide) rfl zlX1_63 rfl dX1_time_108 ?_
          refine zk_cge (tgt := 120) hx hb dX1_time_111 (by decide) (by omega) (by omega) (fun c_10 => ?_) (fun c_10 => ?_)
          · refine lv_iload_n hx hb dX1_time_120 rfl (lv_at hl 1 rfl) ?_
            refine im_zld 15 16 10 i hx hb hO rfl (by omega) dX1_time_121 ?_
            have b_11 := hL.1.1 10 i (by decide)
            refine zk_ifne (tgt := 129) hx hb dX1_time_122 (by decide) (by omega) (fun c_12 => ?_) (fun c_12 => ?_)
            · refine lv_iconst (v := nI 1) hx hb dX1_time_129 (by decide) ?_
              exact im_miret hx hb hr hlk hO hD hS ((congrArg nI (show 1 = zs_gsize (zm_loop g n) n i from by unfold zs_gsize; (repeat' split) <;> omega)).trans (show nI (zs_gsize (zm_loop g n) n i) = zp_time (zm_loop g n) n i w.toInt from by simp [zp_time, w_3])) rfl dX1_time_130
            · refine lv_iconst (v := nI 2) hx hb dX1_time_125 (by decide) ?_
              refine lv_goto (tgt := 130) hx hb dX1_time_126 (by decide) ?_
              exact im_miret hx hb hr hlk hO hD hS ((congrArg nI (show 2 = zs_gsize (zm_loop g n) n i from by unfold zs_gsize; (repeat' split) <;> omega)).trans (show nI (zs_gsize (zm_loop g n) n i) = zp_time (zm_loop g n) n i w.toInt from by simp [zp_time, w_3])) rfl dX1_time_130
          · refine lv_iload_n hx hb dX1_time_114 rfl (lv_at hl 1 rfl) ?_
            refine lv_iconst (v := nI 1) hx hb dX1_time_115 (by decide) ?_
            refine zk_add hx hb dX1_time_116 ?_
            refine lv_goto (tgt := 121) hx hb dX1_time_117 (by decide) ?_
            refine im_zld 15 16 10 (i + 1) hx hb hO rfl (by omega) dX1_time_121 ?_
            have b_13 := hL.1.1 10 (i + 1) (by decide)
            refine zk_ifne (tgt := 129) hx hb dX1_time_122 (by decide) (by omega) (fun c_14 => ?_) (fun c_14 => ?_)
            · refine lv_iconst (v := nI 1) hx hb dX1_time_129 (by decide) ?_
              exact im_miret hx hb hr hlk hO hD hS ((congrArg nI (show 1 = zs_gsize (zm_loop g n) n i from by unfold zs_gsize; (repeat' split) <;> omega)).trans (show nI (zs_gsize (zm_loop g n) n i) = zp_time (zm_loop g n) n i w.toInt from by simp [zp_time, w_3])) rfl dX1_time_130
            · refine lv_iconst (v := nI 2) hx hb dX1_time_125 (by decide) ?_
              refine lv_goto (tgt := 130) hx hb dX1_time_126 (by decide) ?_
              exact im_miret hx hb hr hlk hO hD hS ((congrArg nI (show 2 = zs_gsize (zm_loop g n) n i from by unfold zs_gsize; (repeat' split) <;> omega)).trans (show nI (zs_gsize (zm_loop g n) n i) = zp_time (zm_loop g n) n i w.toInt from by simp [zp_time, w_3])) rfl dX1_time_130
    · refine lv_tableIn (tgt := 131) (off := 107) hx hb dX1_time_24 (by omega) (by omega) (by rw [w_3]; rfl) (by decide) ?_
      refine lv_iload_n hx hb dX1_time_131 rfl (lv_at hl 1 rfl) ?_
      refine zk_ifle (tgt := 164) hx hb dX1_time_132 (by decide) (by omega) (fun c_15 => ?_) (fun c_15 => ?_)
      · refine lv_iconst (v := nI 0) hx hb dX1_time_164 (by decide) ?_
        exact im_miret hx hb hr hlk hO hD hS ((congrArg nI (show 0 = zs_one (zs_second (zm_loop g n) i) from by unfold zs_one zs_second; (repeat' split) <;> omega)).trans (show nI (zs_one (zs_second (zm_loop g n) i)) = zp_time (zm_loop g n) n i w.toInt from by simp [zp_time, w_3])) rfl dX1_time_165
      · refine lv_aload_n hx hb dX1_time_135 rfl (lv_at hl 0 rfl) ?_
        refine im_get 14 (v := .ref (ia_h E 14)) hx hb ht hown hO (by decide) rfl zlX1_47 rfl dX1_time_136 ?_
        refine lv_iload_n hx hb dX1_time_139 rfl (lv_at hl 1 rfl) ?_
        refine im_ild 13 14 12 i hx hb hO rfl (by omega) dX1_time_140 ?_
        have b_16 := hL.1.1 12 i (by decide)
        refine lv_aload_n hx hb dX1_time_141 rfl (lv_at hl 0 rfl) ?_
        refine im_get 14 (v := .ref (ia_h E 14)) hx hb ht hown hO (by decide) rfl zlX1_47 rfl dX1_time_142 ?_
        refine lv_iload_n hx hb dX1_time_145 rfl (lv_at hl 1 rfl) ?_
        refine zk_ifle (tgt := 155) hx hb dX1_time_146 (by decide) (by omega) (fun c_17 => ?_) (fun c_17 => ?_)
        · refine lv_iconst (v := nI 0) hx hb dX1_time_155 (by decide) ?_
          refine im_ild 13 14 12 0 hx hb hO rfl (by omega) dX1_time_156 ?_
          have b_18 := hL.1.1 12 0 (by decide)
          refine zk_cne (tgt := 164) hx hb dX1_time_157 (by decide) (by omega) (by omega) (fun c_19 => ?_) (fun c_19 => ?_)
          · refine lv_iconst (v := nI 0) hx hb dX1_time_164 (by decide) ?_
            exact im_miret hx hb hr hlk hO hD hS ((congrArg nI (show 0 = zs_one (zs_second (zm_loop g n) i) from by unfold zs_one zs_second; (repeat' split) <;> omega)).trans (show nI (zs_one (zs_second (zm_loop g n) i)) = zp_time (zm_loop g n) n i w.toInt from by simp [zp_time, w_3])) rfl dX1_time_165
          · refine lv_iconst (v := nI 1) hx hb dX1_time_160 (by decide) ?_
            refine lv_goto (tgt := 165) hx hb dX1_time_161 (by decide) ?_
            exact im_miret hx hb hr hlk hO hD hS ((congrArg nI (show 1 = zs_one (zs_second (zm_loop g n) i) from by unfold zs_one zs_second; (repeat' split) <;> omega)).trans (show nI (zs_one (zs_second (zm_loop g n) i)) = zp_time (zm_loop g n) n i w.toInt from by simp [zp_time, w_3])) rfl dX1_time_165
        · refine lv_iload_n hx hb dX1_time_149 rfl (lv_at hl 1 rfl) ?_
          refine lv_iconst (v := nI 1) hx hb dX1_time_150 (by decide) ?_
          refine zk_sub hx hb (by omega) dX1_time_151 ?_
          refine lv_goto (tgt := 156) hx hb dX1_time_152 (by decide) ?_
          refine im_ild 13 14 12 (i - 1) hx hb hO rfl (by omega) dX1_time_156 ?_
          have b_20 := hL.1.1 12 (i - 1) (by decide)
          refine zk_cne (tgt := 164) hx hb dX1_time_157 (by decide) (by omega) (by omega) (fun c_21 => ?_) (fun c_21 => ?_)
          · refine lv_iconst (v := nI 0) hx hb dX1_time_164 (by decide) ?_
            exact im_miret hx hb hr hlk hO hD hS ((congrArg nI (show 0 = zs_one (zs_second (zm_loop g n) i) from by unfold zs_one zs_second; (repeat' split) <;> omega)).trans (show nI (zs_one (zs_second (zm_loop g n) i)) = zp_time (zm_loop g n) n i w.toInt from by simp [zp_time, w_3])) rfl dX1_time_165
          · refine lv_iconst (v := nI 1) hx hb dX1_time_160 (by decide) ?_
            refine lv_goto (tgt := 165) hx hb dX1_time_161 (by decide) ?_
            exact im_miret hx hb hr hlk hO hD hS ((congrArg nI (show 1 = zs_one (zs_second (zm_loop g n) i) from by unfold zs_one zs_second; (repeat' split) <;> omega)).trans (show nI (zs_one (zs_second (zm_loop g n) i)) = zp_time (zm_loop g n) n i w.toInt from by simp [zp_time, w_3])) rfl dX1_time_165
    · refine lv_tableOut (tgt := 166) hx hb dX1_time_24 (by omega) (by decide) ?_
      refine lv_iconst (v := (-1)) hx hb dX1_time_166 (by decide) ?_
      exact im_miret hx hb hr hlk hO hD hS (by unfold zp_time; rw [if_neg (by omega), if_neg (by omega), if_neg (by omega), if_neg (by omega), if_neg (by omega)]) rfl dX1_time_167
  · exact absurd (show False from by omega) id
set_option maxHeartbeats 4000000 in
set_option maxRecDepth 100000 in
/-- the reference: of -/
theorem zmc_of (l : Launch) (E : ia_E) (n : Nat) (g : Nat → Nat → Nat) (hg : zm_B g) (i : Nat) (w : Int32) (hv : zs_V g) (hn : n ≤ 400) (hi : i < n) (sz : Nat) : im_M l yX1_of cX1_of 3 .int 3 E n g sz [.int (nI i), .int w] (zpm_of (zm_loop g n) i w.toInt) (n) (zm_loop g n) := by
  refine im_Mof (by decide) rfl (Nat.le_of_ble_eq_true rfl) (fun p e s m args below meth c ls A hx hb hr hml hown ht hlk hA hO hD hS hl => ?_)
  have hl : lv_has ls 3 [(0, .ref (ia_h E 0)), (1, .int (nI i)), (2, .int w)] := hl
  refine lv_aload_n hx hb dX1_of_0 rfl (lv_at hl 0 rfl) ?_
  refine lv_iconst (v := nI 0) hx hb dX1_of_1 (by decide) ?_
  refine im_putt hx hb ht hown hO hD hS zlX1_59 dX1_of_2 (fun H locs hO hD hS => ?_)
  refine lv_iload_n hx hb dX1_of_5 rfl (lv_at hl 1 rfl) ?_
  refine zk_iflt (tgt := 17) hx hb dX1_of_6 (by decide) (by omega) ?_
  refine lv_iload_n hx hb dX1_of_9 rfl (lv_at hl 1 rfl) ?_
  refine lv_aload_n hx hb dX1_of_10 rfl (lv_at hl 0 rfl) ?_
  refine im_get 1 (v := .int (nI n)) hx hb ht hown hO (by decide) rfl zlX1_63 rfl dX1_of_11 ?_
  refine zk_clt (tgt := 19) hx hb dX1_of_14 (by decide) (by omega) (by omega) (fun c_2 => ?_) (fun c_2 => ?_)
  · refine lv_aload_n hx hb dX1_of_19 rfl (lv_at hl 0 rfl) ?_
    refine im_callV (rest := []) hx hb hml hl.1 hown ht hO hD hS hA (zmc_reckon l E n g hg hv (by omega) _) zgX1_104 zyX1_reckon rfl ⟨by decide, by decide⟩ ⟨Nat.zero_le _, Nat.zero_le _⟩ (Nat.le_of_ble_eq_true rfl) rfl dX1_of_20 (fun H locs hO hD hS => ?_)
    have hL := zm_L_loop hg hv n (by omega)
    refine lv_iload_n hx hb dX1_of_23 rfl (lv_at hl 2 rfl) ?_
    rcases (show w.toInt = 0 ∨ w.toInt = 1 ∨ w.toInt = 2 ∨ w.toInt = 3 ∨ w.toInt = 4 ∨ w.toInt = 5 ∨ w.toInt = 6 ∨ w.toInt = 7 ∨ (w.toInt < 0 ∨ 7 < w.toInt) by omega) with w_3 | w_3 | w_3 | w_3 | w_3 | w_3 | w_3 | w_3 | w_3
    · refine lv_tableIn (tgt := 72) (off := 48) hx hb dX1_of_24 (by omega) (by omega) (by rw [w_3]; rfl) (by decide) ?_
      refine lv_aload_n hx hb dX1_of_72 rfl (lv_at hl 0 rfl) ?_
      refine im_get 2 (v := .ref (ia_h E 2)) hx hb ht hown hO (by decide) rfl zlX1_7 rfl dX1_of_73 ?_
      refine lv_iload_n hx hb dX1_of_76 rfl (lv_at hl 1 rfl) ?_
      refine im_ild 1 2 1 i hx hb hO rfl (by omega) dX1_of_77 ?_
      have b_4 := hL.1.1 1 i (by decide)
      exact im_miret hx hb hr hlk hO hD hS ((congrArg nI (show (zm_loop g n) 1 i = (zm_loop g n) 1 i from by omega)).trans (show nI ((zm_loop g n) 1 i) = zpm_of (zm_loop g n) i w.toInt from by simp [zpm_of, w_3])) rfl dX1_of_78
    · refine lv_tableIn (tgt := 79) (off := 55) hx hb dX1_of_24 (by omega) (by omega) (by rw [w_3]; rfl) (by decide) ?_
      refine lv_aload_n hx hb dX1_of_79 rfl (lv_at hl 0 rfl) ?_
      refine im_get 3 (v := .ref (ia_h E 3)) hx hb ht hown hO (by decide) rfl zlX1_13 rfl dX1_of_80 ?_
      refine lv_iload_n hx hb dX1_of_83 rfl (lv_at hl 1 rfl) ?_
      refine im_ild 2 3 2 i hx hb hO rfl (by omega) dX1_of_84 ?_
      have b_5 := hL.1.1 2 i (by decide)
      exact im_miret hx hb hr hlk hO hD hS ((congrArg nI (show (zm_loop g n) 2 i = (zm_loop g n) 2 i from by omega)).trans (show nI ((zm_loop g n) 2 i) = zpm_of (zm_loop g n) i w.toInt from by simp [zpm_of, w_3])) rfl dX1_of_85
    · refine lv_tableIn (tgt := 86) (off := 62) hx hb dX1_of_24 (by omega) (by omega) (by rw [w_3]; rfl) (by decide) ?_
      refine lv_aload_n hx hb dX1_of_86 rfl (lv_at hl 0 rfl) ?_
      refine im_get 4 (v := .ref (ia_h E 4)) hx hb ht hown hO (by decide) rfl zlX1_16 rfl dX1_of_87 ?_
      refine lv_iload_n hx hb dX1_of_90 rfl (lv_at hl 1 rfl) ?_
      refine im_ild 3 4 3 i hx hb hO rfl (by omega) dX1_of_91 ?_
      have b_6 := hL.1.1 3 i (by decide)
      exact im_miret hx hb hr hlk hO hD hS ((congrArg nI (show (zm_loop g n) 3 i = (zm_loop g n) 3 i from by omega)).trans (show nI ((zm_loop g n) 3 i) = zpm_of (zm_loop g n) i w.toInt from by simp [zpm_of, w_3])) rfl dX1_of_92
    · refine lv_tableIn (tgt := 93) (off := 69) hx hb dX1_of_24 (by omega) (by omega) (by rw [w_3]; rfl) (by decide) ?_
      refine lv_aload_n hx hb dX1_of_93 rfl (lv_at hl 0 rfl) ?_
      refine im_get 5 (v := .ref (ia_h E 5)) hx hb ht hown hO (by decide) rfl zlX1_19 rfl dX1_of_94 ?_
      refine lv_iload_n hx hb dX1_of_97 rfl (lv_at hl 1 rfl) ?_
      refine im_ild 4 5 4 i hx hb hO rfl (by omega) dX1_of_98 ?_
      have b_7 := hL.1.1 4 i (by decide)
      exact im_miret hx hb hr hlk hO hD hS ((congrArg nI (show (zm_loop g n) 4 i = (zm_loop g n) 4 i from by omega)).trans (show nI ((zm_loop g n) 4 i) = zpm_of (zm_loop g n) i w.toInt from by simp [zpm_of, w_3])) rfl dX1_of_99
    · refine lv_tableIn (tgt := 100) (off := 76) hx hb dX1_of_24 (by omega) (by omega) (by rw [w_3]; rfl) (by decide) ?_
      refine lv_aload_n hx hb dX1_of_100 rfl (lv_at hl 0 rfl) ?_
      refine im_get 9 (v := .ref (ia_h E 9)) hx hb ht hown hO (by decide) rfl zlX1_32 rfl dX1_of_101 ?_
      refine lv_iload_n hx hb dX1_of_104 rfl (lv_at hl 1 rfl) ?_
      refine im_zld 8 9 9 i hx hb hO rfl (by omega) dX1_of_105 ?_
      have b_8 := hL.1.1 9 i (by decide)
      refine zk_ifeq (tgt := 113) hx hb dX1_of_106 (by decide) (by omega) (fun c_9 => ?_) (fun c_9 => ?_)
      · refine lv_iconst (v := nI 0) hx hb dX1_of_113 (by decide) ?_
        exact im_miret hx hb hr hlk hO hD hS ((congrArg nI (show 0 = zs_one ((zm_loop g n) 9 i) from by unfold zs_one; (repeat' split) <;> omega)).trans (show nI (zs_one ((zm_loop g n) 9 i)) = zpm_of (zm_loop g n) i w.toInt from by simp [zpm_of, w_3])) rfl dX1_of_114
      · refine lv_iconst (v := nI 1) hx hb dX1_of_109 (by decide) ?_
        refine lv_goto (tgt := 114) hx hb dX1_of_110 (by decide) ?_
        exact im_miret hx hb hr hlk hO hD hS ((congrArg nI (show 1 = zs_one ((zm_loop g n) 9 i) from by unfold zs_one; (repeat' split) <;> omega)).trans (show nI (zs_one ((zm_loop g n) 9 i)) = zpm_of (zm_loop g n) i w.toInt from by simp [zpm_of, w_3])) rfl dX1_of_114
    · refine lv_tableIn (tgt := 115) (off := 91) hx hb dX1_of_24 (by omega) (by omega) (by rw [w_3]; rfl) (by decide) ?_
      refine lv_aload_n hx hb dX1_of_115 rfl (lv_at hl 0 rfl) ?_
      refine im_get 10 (v := .ref (ia_h E 10)) hx hb ht hown hO (by decide) rfl zlX1_35 rfl dX1_of_116 ?_
      refine lv_iload_n hx hb dX1_of_119 rfl (lv_at hl 1 rfl) ?_
      refine im_zld 9 10 8 i hx hb hO rfl (by omega) dX1_of_120 ?_
      have b_10 := hL.1.1 8 i (by decide)
      refine zk_ifeq (tgt := 128) hx hb dX1_of_121 (by decide) (by omega) (fun c_11 => ?_) (fun c_11 => ?_)
      · refine lv_iconst (v := nI 0) hx hb dX1_of_128 (by decide) ?_
        exact im_miret hx hb hr hlk hO hD hS ((congrArg nI (show 0 = zs_one ((zm_loop g n) 8 i) from by unfold zs_one; (repeat' split) <;> omega)).trans (show nI (zs_one ((zm_loop g n) 8 i)) = zpm_of (zm_loop g n) i w.toInt from by simp [zpm_of, w_3])) rfl dX1_of_129
      · refine lv_iconst (v := nI 1) hx hb dX1_of_124 (by decide) ?_
        refine lv_goto (tgt := 129) hx hb dX1_of_125 (by decide) ?_
        exact im_miret hx hb hr hlk hO hD hS ((congrArg nI (show 1 = zs_one ((zm_loop g n) 8 i) from by unfold zs_one; (repeat' split) <;> omega)).trans (show nI (zs_one ((zm_loop g n) 8 i)) = zpm_of (zm_loop g n) i w.toInt from by simp [zpm_of, w_3])) rfl dX1_of_129
    · refine lv_tableIn (tgt := 130) (off := 106) hx hb dX1_of_24 (by omega) (by omega) (by rw [w_3]; rfl) (by decide) ?_
      refine lv_aload_n hx hb dX1_of_130 rfl (lv_at hl 0 rfl) ?_
      refine im_get 11 (v := .ref (ia_h E 11)) hx hb ht hown hO (by decide) rfl zlX1_38 rfl dX1_of_131 ?_
      refine lv_iload_n hx hb dX1_of_134 rfl (lv_at hl 1 rfl) ?_
      refine im_zld 10 11 14 i hx hb hO rfl (by omega) dX1_of_135 ?_
      have b_12 := hL.1.1 14 i (by decide)
      refine zk_ifeq (tgt := 143) hx hb dX1_of_136 (by decide) (by omega) (fun c_13 => ?_) (fun c_13 => ?_)
      · refine lv_iconst (v := nI 0) hx hb dX1_of_143 (by decide) ?_
        exact im_miret hx hb hr hlk hO hD hS ((congrArg nI (show 0 = zs_one ((zm_loop g n) 14 i) from by unfold zs_one; (repeat' split) <;> omega)).trans (show nI (zs_one ((zm_loop g n) 14 i)) = zpm_of (zm_loop g n) i w.toInt from by simp [zpm_of, w_3])) rfl dX1_of_144
      · refine lv_iconst (v := nI 1) hx hb dX1_of_139 (by decide) ?_
        refine lv_goto (tgt := 144) hx hb dX1_of_140 (by decide) ?_
        exact im_miret hx hb hr hlk hO hD hS ((congrArg nI (show 1 = zs_one ((zm_loop g n) 14 i) from by unfold zs_one; (repeat' split) <;> omega)).trans (show nI (zs_one ((zm_loop g n) 14 i)) = zpm_of (zm_loop g n) i w.toInt from by simp [zpm_of, w_3])) rfl dX1_of_144
    · refine lv_tableIn (tgt := 145) (off := 121) hx hb dX1_of_24 (by omega) (by omega) (by rw [w_3]; rfl) (by decide) ?_
      refine lv_aload_n hx hb dX1_of_145 rfl (lv_at hl 0 rfl) ?_
      refine im_get 12 (v := .ref (ia_h E 12)) hx hb ht hown hO (by decide) rfl zlX1_41 rfl dX1_of_146 ?_
      refine lv_iload_n hx hb dX1_of_149 rfl (lv_at hl 1 rfl) ?_
      refine im_zld 11 12 15 i hx hb hO rfl (by omega) dX1_of_150 ?_
      have b_14 := hL.1.1 15 i (by decide)
      refine zk_ifeq (tgt := 158) hx hb dX1_of_151 (by decide) (by omega) (fun c_15 => ?_) (fun c_15 => ?_)
      · refine lv_iconst (v := nI 0) hx hb dX1_of_158 (by decide) ?_
        exact im_miret hx hb hr hlk hO hD hS ((congrArg nI (show 0 = zs_one ((zm_loop g n) 15 i) from by unfold zs_one; (repeat' split) <;> omega)).trans (show nI (zs_one ((zm_loop g n) 15 i)) = zpm_of (zm_loop g n) i w.toInt from by simp [zpm_of, w_3])) rfl dX1_of_159
      · refine lv_iconst (v := nI 1) hx hb dX1_of_154 (by decide) ?_
        refine lv_goto (tgt := 159) hx hb dX1_of_155 (by decide) ?_
        exact im_miret hx hb hr hlk hO hD hS ((congrArg nI (show 1 = zs_one ((zm_loop g n) 15 i) from by unfold zs_one; (repeat' split) <;> omega)).trans (show nI (zs_one ((zm_loop g n) 15 i)) = zpm_of (zm_loop g n) i w.toInt from by simp [zpm_of, w_3])) rfl dX1_of_159
    · refine lv_tableOut (tgt := 160) hx hb dX1_of_24 (by omega) (by decide) ?_
      refine lv_iconst (v := (-1)) hx hb dX1_of_160 (by decide) ?_
      exact im_miret hx hb hr hlk hO hD hS (by unfold zpm_of; rw [if_neg (by omega), if_neg (by omega), if_neg (by omega), if_neg (by omega), if_neg (by omega), if_neg (by omega), if_neg (by omega), if_neg (by omega)]) rfl dX1_of_161
  · exact absurd (show False from by omega) id
set_option maxHeartbeats 4000000 in
set_option maxRecDepth 100000 in
/-- the reference: stage -/
theorem zmc_pstage_no (l : Launch) (E : ia_E) (n : Nat) (g : Nat → Nat → Nat) (hg : zm_B g) (x y : Int32) (hv : zs_V g) (hn : n ≤ 400) (h0 : ¬ (0 ≤ x.toInt ∧ x.toInt < n) ∨ y.toInt < 0) (sz : Nat) : im_M l yX1_stage cX1_stage 3 .int 3 E n g sz [.int x, .int y] ((-1)) (n) (g) := by
  refine im_Mof (by decide) rfl (Nat.le_of_ble_eq_true rfl) (fun p e s m args below meth c ls A hx hb hr hml hown ht hlk hA hO hD hS hl => ?_)
  have hl : lv_has ls 3 [(0, .ref (ia_h E 0)), (1, .int x), (2, .int y)] := hl
  refine lv_aload_n hx hb dX1_stage_0 rfl (lv_at hl 0 rfl) ?_
  refine lv_iconst (v := nI 0) hx hb dX1_stage_1 (by decide) ?_
  refine im_putt hx hb ht hown hO hD hS zlX1_59 dX1_stage_2 (fun H locs hO hD hS => ?_)
  refine lv_iload_n hx hb dX1_stage_5 rfl (lv_at hl 1 rfl) ?_
  refine zi_iflt (tgt := 21) hx hb dX1_stage_6 (by decide) (fun c_1 => ?_) (fun c_1 => ?_)
  · refine lv_iconst (v := (-1)) hx hb dX1_stage_21 (by decide) ?_
    exact im_miret hx hb hr hlk hO hD hS rfl (by rfl) dX1_stage_22
  · refine lv_iload_n hx hb dX1_stage_9 rfl (lv_at hl 1 rfl) ?_
    refine lv_aload_n hx hb dX1_stage_10 rfl (lv_at hl 0 rfl) ?_
    refine im_get 1 (v := .int (nI n)) hx hb ht hown hO (by decide) rfl zlX1_63 rfl dX1_stage_11 ?_
    have t_3 := nI_toInt (n := n) (by omega)
    refine zi_cge (tgt := 21) hx hb dX1_stage_14 (by decide) (fun c_2 => ?_) (fun c_2 => ?_)
    · refine lv_iconst (v := (-1)) hx hb dX1_stage_21 (by decide) ?_
      exact im_miret hx hb hr hlk hO hD hS rfl (by rfl) dX1_stage_22
    · refine lv_iload_n hx hb dX1_stage_17 rfl (lv_at hl 2 rfl) ?_
      refine zi_ifge (tgt := 23) hx hb dX1_stage_18 (by decide) (fun c_4 => ?_) (fun c_4 => ?_)
      · exact absurd (show False from by omega) id
      · refine lv_iconst (v := (-1)) hx hb dX1_stage_21 (by decide) ?_
        exact im_miret hx hb hr hlk hO hD hS rfl (by rfl) dX1_stage_22
set_option maxHeartbeats 4000000 in
set_option maxRecDepth 100000 in
/-- the reference: stage -/
theorem zmc_pstage (l : Launch) (E : ia_E) (n : Nat) (g : Nat → Nat → Nat) (hg : zm_B g) (i y : Nat) (hv : zs_V g) (hn : n ≤ 400) (hi : i < n) (hy : y < 2 ^ 31) (sz : Nat) : im_M l yX1_stage cX1_stage 3 .int 3 E n g sz [.int (nI i), .int (nI y)] (nI (zs_stage (zm_loop g n) i y)) (n) (zm_loop g n) := by
  refine im_Mof (by decide) rfl (Nat.le_of_ble_eq_true rfl) (fun p e s m args below meth c ls A hx hb hr hml hown ht hlk hA hO hD hS hl => ?_)
  have hl : lv_has ls 3 [(0, .ref (ia_h E 0)), (1, .int (nI i)), (2, .int (nI y))] := hl
  refine lv_aload_n hx hb dX1_stage_0 rfl (lv_at hl 0 rfl) ?_
  refine lv_iconst (v := nI 0) hx hb dX1_stage_1 (by decide) ?_
  refine im_putt hx hb ht hown hO hD hS zlX1_59 dX1_stage_2 (fun H locs hO hD hS => ?_)
  refine lv_iload_n hx hb dX1_stage_5 rfl (lv_at hl 1 rfl) ?_
  refine zk_iflt (tgt := 21) hx hb dX1_stage_6 (by decide) (by omega) ?_
  refine lv_iload_n hx hb dX1_stage_9 rfl (lv_at hl 1 rfl) ?_
  refine lv_aload_n hx hb dX1_stage_10 rfl (lv_at hl 0 rfl) ?_
  refine im_get 1 (v := .int (nI n)) hx hb ht hown hO (by decide) rfl zlX1_63 rfl dX1_stage_11 ?_
  refine zk_cge (tgt := 21) hx hb dX1_stage_14 (by decide) (by omega) (by omega) (fun c_2 => ?_) (fun c_2 => ?_)
  · exact absurd (show False from by omega) id
  · refine lv_iload_n hx hb dX1_stage_17 rfl (lv_at hl 2 rfl) ?_
    refine zk_ifge (tgt := 23) hx hb dX1_stage_18 (by decide) (by omega) ?_
    refine lv_aload_n hx hb dX1_stage_23 rfl (lv_at hl 0 rfl) ?_
    refine im_callV (rest := []) hx hb hml hl.1 hown ht hO hD hS hA (zmc_reckon l E n g hg hv (by omega) _) zgX1_104 zyX1_reckon rfl ⟨by decide, by decide⟩ ⟨Nat.zero_le _, Nat.zero_le _⟩ (Nat.le_of_ble_eq_true rfl) rfl dX1_stage_24 (fun H locs hO hD hS => ?_)
    have hL := zm_L_loop hg hv n (by omega)
    refine lv_aload_n hx hb dX1_stage_27 rfl (lv_at hl 0 rfl) ?_
    refine lv_iload_n hx hb dX1_stage_28 rfl (lv_at hl 1 rfl) ?_
    refine lv_iload_n hx hb dX1_stage_29 rfl (lv_at hl 2 rfl) ?_
    refine im_call (rest := []) hx hb hml hl.1 hown ht hO (zmc_stage l E n (zm_loop g n) hL.1 i y (by omega) (by omega)) zgX1_107 zyX1_stageOf rfl ⟨by decide, by decide⟩ ⟨Nat.zero_le _, Nat.zero_le _⟩ (Nat.le_of_ble_eq_true rfl) rfl dX1_stage_30 ?_
    have b_4 := zb_stage (zm_loop g n) i y
    exact im_miret hx hb hr hlk hO hD hS rfl (by rfl) dX1_stage_33
set_option maxHeartbeats 4000000 in
set_option maxRecDepth 100000 in
/-- the reference: many -/
theorem zmc_pmany_no (l : Launch) (E : ia_E) (n : Nat) (g : Nat → Nat → Nat) (hg : zm_B g) (x y : Int32) (hv : zs_V g) (hn : n ≤ 400) (h0 : x.toInt < 0 ∨ 3 < x.toInt ∨ y.toInt < 0) (sz : Nat) : im_M l yX1_many cX1_many 3 .int 3 E n g sz [.int x, .int y] ((-1)) (n) (g) := by
  refine im_Mof (by decide) rfl (Nat.le_of_ble_eq_true rfl) (fun p e s m args below meth c ls A hx hb hr hml hown ht hlk hA hO hD hS hl => ?_)
  have hl : lv_has ls 3 [(0, .ref (ia_h E 0)), (1, .int x), (2, .int y)] := hl
  refine lv_aload_n hx hb dX1_many_0 rfl (lv_at hl 0 rfl) ?_
  refine lv_iconst (v := nI 0) hx hb dX1_many_1 (by decide) ?_
  refine im_putt hx hb ht hown hO hD hS zlX1_59 dX1_many_2 (fun H locs hO hD hS => ?_)
  refine lv_iload_n hx hb dX1_many_5 rfl (lv_at hl 1 rfl) ?_
  refine zi_iflt (tgt := 18) hx hb dX1_many_6 (by decide) (fun c_1 => ?_) (fun c_1 => ?_)
  · refine lv_iconst (v := (-1)) hx hb dX1_many_18 (by decide) ?_
    exact im_miret hx hb hr hlk hO hD hS rfl (by rfl) dX1_many_19
  · refine lv_iload_n hx hb dX1_many_9 rfl (lv_at hl 1 rfl) ?_
    refine lv_iconst (v := nI 3) hx hb dX1_many_10 (by decide) ?_
    have t_3 := nI_toInt (n := 3) (by omega)
    refine zi_cgt (tgt := 18) hx hb dX1_many_11 (by decide) (fun c_2 => ?_) (fun c_2 => ?_)
    · refine lv_iconst (v := (-1)) hx hb dX1_many_18 (by decide) ?_
      exact im_miret hx hb hr hlk hO hD hS rfl (by rfl) dX1_many_19
    · refine lv_iload_n hx hb dX1_many_14 rfl (lv_at hl 2 rfl) ?_
      refine zi_ifge (tgt := 20) hx hb dX1_many_15 (by decide) (fun c_4 => ?_) (fun c_4 => ?_)
      · exact absurd (show False from by omega) id
      · refine lv_iconst (v := (-1)) hx hb dX1_many_18 (by decide) ?_
        exact im_miret hx hb hr hlk hO hD hS rfl (by rfl) dX1_many_19
set_option maxHeartbeats 4000000 in
set_option maxRecDepth 100000 in
/-- the reference: many -/
theorem zmc_pmany (l : Launch) (E : ia_E) (n : Nat) (g : Nat → Nat → Nat) (hg : zm_B g) (x y : Nat) (hv : zs_V g) (hn : n ≤ 400) (hx0 : x ≤ 3) (hy : y < 2 ^ 31) (sz : Nat) : im_M l yX1_many cX1_many 3 .int 3 E n g sz [.int (nI x), .int (nI y)] (nI (zs_many (zm_loop g n) x y n)) (n) (zm_loop g n) := by
  refine im_Mof (by decide) rfl (Nat.le_of_ble_eq_true rfl) (fun p e s m args below meth c ls A hx hb hr hml hown ht hlk hA hO hD hS hl => ?_)
  have hl : lv_has ls 3 [(0, .ref (ia_h E 0)), (1, .int (nI x)), (2, .int (nI y))] := hl
  refine lv_aload_n hx hb dX1_many_0 rfl (lv_at hl 0 rfl) ?_
  refine lv_iconst (v := nI 0) hx hb dX1_many_1 (by decide) ?_
  refine im_putt hx hb ht hown hO hD hS zlX1_59 dX1_many_2 (fun H locs hO hD hS => ?_)
  refine lv_iload_n hx hb dX1_many_5 rfl (lv_at hl 1 rfl) ?_
  refine zk_iflt (tgt := 18) hx hb dX1_many_6 (by decide) (by omega) ?_
  refine lv_iload_n hx hb dX1_many_9 rfl (lv_at hl 1 rfl) ?_
  refine lv_iconst (v := nI 3) hx hb dX1_many_10 (by decide) ?_
  refine zk_cgt (tgt := 18) hx hb dX1_many_11 (by decide) (by omega) (by omega) (fun c_2 => ?_) (fun c_2 => ?_)
  · exact absurd (show False from by omega) id
  · refine lv_iload_n hx hb dX1_many_14 rfl (lv_at hl 2 rfl) ?_
    refine zk_ifge (tgt := 20) hx hb dX1_many_15 (by decide) (by omega) ?_
    refine lv_aload_n hx hb dX1_many_20 rfl (lv_at hl 0 rfl) ?_
    refine im_callV (rest := []) hx hb hml hl.1 hown ht hO hD hS hA (zmc_reckon l E n g hg hv (by omega) _) zgX1_104 zyX1_reckon rfl ⟨by decide, by decide⟩ ⟨Nat.zero_le _, Nat.zero_le _⟩ (Nat.le_of_ble_eq_true rfl) rfl dX1_many_21 (fun H locs hO hD hS => ?_)
    have hL := zm_L_loop hg hv n (by omega)
    refine lv_aload_n hx hb dX1_many_24 rfl (lv_at hl 0 rfl) ?_
    refine lv_iload_n hx hb dX1_many_25 rfl (lv_at hl 1 rfl) ?_
    refine lv_iload_n hx hb dX1_many_26 rfl (lv_at hl 2 rfl) ?_
    refine im_call (rest := []) hx hb hml hl.1 hown ht hO (zmc_many l E n (zm_loop g n) hL.1 x y (by omega) (by omega) (by omega)) zgX1_110 zyX1_inStage rfl ⟨by decide, by decide⟩ ⟨Nat.zero_le _, Nat.zero_le _⟩ (Nat.le_of_ble_eq_true rfl) rfl dX1_many_27 ?_
    exact im_miret hx hb hr hlk hO hD hS rfl (by rfl) dX1_many_30
set_option maxHeartbeats 4000000 in
set_option maxRecDepth 100000 in
/-- the reference: look -/
theorem zmc_look (l : Launch) (E : ia_E) (n : Nat) (g : Nat → Nat → Nat) (hg : zm_B g) (w : Int32) (hv : zs_V g) (hn : n ≤ 400) (hm : ∀ k, k < n → 0 < k → (zm_loop g n) 13 (k - 1) ≤ (zm_loop g n) 13 k) (sz : Nat) : im_M l yX1_look cX1_look 2 .int 3 E n g sz [.int w] (zpm_look (zm_loop g n) n w.toInt) (n) (zm_loop g n) := by
  refine im_Mof (by decide) rfl (Nat.le_of_ble_eq_true rfl) (fun p e s m args below meth c ls A hx hb hr hml hown ht hlk hA hO hD hS hl => ?_)
  have hl : lv_has ls 2 [(0, .ref (ia_h E 0)), (1, .int w)] := hl
  refine lv_aload_n hx hb dX1_look_0 rfl (lv_at hl 0 rfl) ?_
  refine lv_iconst (v := nI 0) hx hb dX1_look_1 (by decide) ?_
  refine im_putt hx hb ht hown hO hD hS zlX1_59 dX1_look_2 (fun H locs hO hD hS => ?_)
  refine lv_aload_n hx hb dX1_look_5 rfl (lv_at hl 0 rfl) ?_
  refine im_callV (rest := []) hx hb hml hl.1 hown ht hO hD hS hA (zmc_reckon l E n g hg hv (by omega) _) zgX1_104 zyX1_reckon rfl ⟨by decide, by decide⟩ ⟨Nat.zero_le _, Nat.zero_le _⟩ (Nat.le_of_ble_eq_true rfl) rfl dX1_look_6 (fun H locs hO hD hS => ?_)
  have hL := zm_L_loop hg hv n (by omega)
  refine lv_iload_n hx hb dX1_look_9 rfl (lv_at hl 1 rfl) ?_
  rcases (show w.toInt = 0 ∨ w.toInt = 1 ∨ w.toInt = 2 ∨ w.toInt = 3 ∨ w.toInt = 4 ∨ w.toInt = 5 ∨ w.toInt = 6 ∨ (w.toInt < 0 ∨ 6 < w.toInt) by omega) with w_1 | w_1 | w_1 | w_1 | w_1 | w_1 | w_1 | w_1
  · refine lv_tableIn (tgt := 52) (off := 42) hx hb dX1_look_10 (by omega) (by omega) (by rw [w_1]; rfl) (by decide) ?_
    obtain rfl : w = nI 0 := zi_nI w_1 (by decide)
    refine lv_aload_n hx hb dX1_look_52 rfl (lv_at hl 0 rfl) ?_
    refine im_get 1 (v := .int (nI n)) hx hb ht hown hO (by decide) rfl zlX1_63 rfl dX1_look_53 ?_
    exact im_miret hx hb hr hlk hO hD hS ((congrArg nI (show n = n from by omega)).trans (show nI (n) = zpm_look (zm_loop g n) n (nI 0).toInt from by simp [zpm_look, w_1])) rfl dX1_look_56
  · refine lv_tableIn (tgt := 57) (off := 47) hx hb dX1_look_10 (by omega) (by omega) (by rw [w_1]; rfl) (by decide) ?_
    obtain rfl : w = nI 1 := zi_nI w_1 (by decide)
    refine lv_aload_n hx hb dX1_look_57 rfl (lv_at hl 0 rfl) ?_
    refine im_get 1 (v := .int (nI n)) hx hb ht hown hO (by decide) rfl zlX1_63 rfl dX1_look_58 ?_
    refine zk_ifle (tgt := 78) hx hb dX1_look_61 (by decide) (by omega) (fun c_2 => ?_) (fun c_2 => ?_)
    · refine lv_iconst (v := nI 0) hx hb dX1_look_78 (by decide) ?_
      exact im_miret hx hb hr hlk hO hD hS ((congrArg nI (show 0 = zs_dbef (zm_loop g n) n from by unfold zs_dbef; (repeat' split) <;> omega)).trans (show nI (zs_dbef (zm_loop g n) n) = zpm_look (zm_loop g n) n (nI 1).toInt from by simp [zpm_look, w_1])) rfl dX1_look_79
    · refine lv_aload_n hx hb dX1_look_64 rfl (lv_at hl 0 rfl) ?_
      refine im_get 15 (v := .ref (ia_h E 15)) hx hb ht hown hO (by decide) rfl zlX1_50 rfl dX1_look_65 ?_
      refine lv_aload_n hx hb dX1_look_68 rfl (lv_at hl 0 rfl) ?_
      refine im_get 1 (v := .int (nI n)) hx hb ht hown hO (by decide) rfl zlX1_63 rfl dX1_look_69 ?_
      refine lv_iconst (v := nI 1) hx hb dX1_look_72 (by decide) ?_
      refine zk_sub hx hb (by omega) dX1_look_73 ?_
      refine im_ild 14 15 13 (n - 1) hx hb hO rfl (by omega) dX1_look_74 ?_
      have b_3 := hL.1.1 13 (n - 1) (by decide)
      refine lv_goto (tgt := 79) hx hb dX1_look_75 (by decide) ?_
      exact im_miret hx hb hr hlk hO hD hS ((congrArg nI (show (zm_loop g n) 13 (n - 1) = zs_dbef (zm_loop g n) n from by unfold zs_dbef; (repeat' split) <;> omega)).trans (show nI (zs_dbef (zm_loop g n) n) = zpm_look (zm_loop g n) n (nI 1).toInt from by simp [zpm_look, w_1])) rfl dX1_look_79
  · refine lv_tableIn (tgt := 80) (off := 70) hx hb dX1_look_10 (by omega) (by omega) (by rw [w_1]; rfl) (by decide) ?_
    obtain rfl : w = nI 2 := zi_nI w_1 (by decide)
    refine lv_aload_n hx hb dX1_look_80 rfl (lv_at hl 0 rfl) ?_
    refine lv_iload_n hx hb dX1_look_81 rfl (lv_at hl 1 rfl) ?_
    refine im_call (rest := []) hx hb hml hl.1 hown ht hO (zmc_cnt l E n (zm_loop g n) hL.1 2 (by omega) (by omega)) zgX1_113 zyX1_counted rfl ⟨by decide, by decide⟩ ⟨Nat.zero_le _, Nat.zero_le _⟩ (Nat.le_of_ble_eq_true rfl) rfl dX1_look_82 ?_
    exact im_miret hx hb hr hlk hO hD hS ((congrArg nI (show zm_cnt (zm_loop g n) 2 n = zm_cnt (zm_loop g n) 2 n from by omega)).trans (show nI (zm_cnt (zm_loop g n) 2 n) = zpm_look (zm_loop g n) n (nI 2).toInt from by simp [zpm_look, w_1])) rfl dX1_look_85
  · refine lv_tableIn (tgt := 86) (off := 76) hx hb dX1_look_10 (by omega) (by omega) (by rw [w_1]; rfl) (by decide) ?_
    obtain rfl : w = nI 3 := zi_nI w_1 (by decide)
    refine lv_aload_n hx hb dX1_look_86 rfl (lv_at hl 0 rfl) ?_
    refine im_call (rest := []) hx hb hml hl.1 hown ht hO (zmc_long l E n (zm_loop g n) hL.1 (by omega) hm) zgX1_116 zyX1_longest rfl ⟨by decide, by decide⟩ ⟨Nat.zero_le _, Nat.zero_le _⟩ (Nat.le_of_ble_eq_true rfl) rfl dX1_look_87 ?_
    exact im_miret hx hb hr hlk hO hD hS ((congrArg nI (show zs_long (zm_loop g n) n = zs_long (zm_loop g n) n from by omega)).trans (show nI (zs_long (zm_loop g n) n) = zpm_look (zm_loop g n) n (nI 3).toInt from by simp [zpm_look, w_1])) rfl dX1_look_90
  · refine lv_tableIn (tgt := 80) (off := 70) hx hb dX1_look_10 (by omega) (by omega) (by rw [w_1]; rfl) (by decide) ?_
    obtain rfl : w = nI 4 := zi_nI w_1 (by decide)
    refine lv_aload_n hx hb dX1_look_80 rfl (lv_at hl 0 rfl) ?_
    refine lv_iload_n hx hb dX1_look_81 rfl (lv_at hl 1 rfl) ?_
    refine im_call (rest := []) hx hb hml hl.1 hown ht hO (zmc_cnt l E n (zm_loop g n) hL.1 4 (by omega) (by omega)) zgX1_113 zyX1_counted rfl ⟨by decide, by decide⟩ ⟨Nat.zero_le _, Nat.zero_le _⟩ (Nat.le_of_ble_eq_true rfl) rfl dX1_look_82 ?_
    exact im_miret hx hb hr hlk hO hD hS ((congrArg nI (show zm_cnt (zm_loop g n) 4 n = zm_cnt (zm_loop g n) 4 n from by omega)).trans (show nI (zm_cnt (zm_loop g n) 4 n) = zpm_look (zm_loop g n) n (nI 4).toInt from by simp [zpm_look, w_1])) rfl dX1_look_85
  · refine lv_tableIn (tgt := 80) (off := 70) hx hb dX1_look_10 (by omega) (by omega) (by rw [w_1]; rfl) (by decide) ?_
    obtain rfl : w = nI 5 := zi_nI w_1 (by decide)
    refine lv_aload_n hx hb dX1_look_80 rfl (lv_at hl 0 rfl) ?_
    refine lv_iload_n hx hb dX1_look_81 rfl (lv_at hl 1 rfl) ?_
    refine im_call (rest := []) hx hb hml hl.1 hown ht hO (zmc_cnt l E n (zm_loop g n) hL.1 5 (by omega) (by omega)) zgX1_113 zyX1_counted rfl ⟨by decide, by decide⟩ ⟨Nat.zero_le _, Nat.zero_le _⟩ (Nat.le_of_ble_eq_true rfl) rfl dX1_look_82 ?_
    exact im_miret hx hb hr hlk hO hD hS ((congrArg nI (show zm_cnt (zm_loop g n) 5 n = zm_cnt (zm_loop g n) 5 n from by omega)).trans (show nI (zm_cnt (zm_loop g n) 5 n) = zpm_look (zm_loop g n) n (nI 5).toInt from by simp [zpm_look, w_1])) rfl dX1_look_85
  · refine lv_tableIn (tgt := 91) (off := 81) hx hb dX1_look_10 (by omega) (by omega) (by rw [w_1]; rfl) (by decide) ?_
    obtain rfl : w = nI 6 := zi_nI w_1 (by decide)
    refine lv_aload_n hx hb dX1_look_91 rfl (lv_at hl 0 rfl) ?_
    refine im_call (rest := []) hx hb hml hl.1 hown ht hO (zmc_busy l E n (zm_loop g n) hL.1 (by omega)) zgX1_120 zyX1_busiest rfl ⟨by decide, by decide⟩ ⟨Nat.zero_le _, Nat.zero_le _⟩ (Nat.le_of_ble_eq_true rfl) rfl dX1_look_92 ?_
    exact im_miret hx hb hr hlk hO hD hS ((congrArg nI (show zm_busy (zm_loop g n) n n = zm_busy (zm_loop g n) n n from by omega)).trans (show nI (zm_busy (zm_loop g n) n n) = zpm_look (zm_loop g n) n (nI 6).toInt from by simp [zpm_look, w_1])) rfl dX1_look_95
  · refine lv_tableOut (tgt := 96) hx hb dX1_look_10 (by omega) (by decide) ?_
    refine lv_iconst (v := (-1)) hx hb dX1_look_96 (by decide) ?_
    exact im_miret hx hb hr hlk hO hD hS (by unfold zpm_look; rw [if_neg (by omega), if_neg (by omega), if_neg (by omega), if_neg (by omega), if_neg (by omega), if_neg (by omega), if_neg (by omega)]) rfl dX1_look_97
