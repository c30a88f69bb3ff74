set_option maxHeartbeats 4000000 in
set_option maxRecDepth 100000 in
/-- the reference: come -/
theorem zmc_come (l : Launch) (E : ia_E) (n : Nat) (g : Nat → Nat → Nat) (hg : zm_B g) (k d a b f go : Nat) (hn : n < 400) (hk : k ≤ 7 ∧ d ≤ 31 ∧ a ≤ 31 ∧ b ≤ 31) (hf : f ≤ 2 ∧ go ≤ 1) (sz : Nat) : im_M l yX1_come cX1_come 7 .int 0 E n g sz [.int (nI k), .int (nI d), .int (nI a), .int (nI b), .int (nI f), .int (nI go)] (nI n) (n + 1) (zs_put g n k d a b f go) := by
  refine im_Mof (by decide) rfl (Nat.le_of_ble_eq_true rfl) (fun p e s m args below meth c ls A hx hb hr hml hown ht hlk hA hO hD hS hl => ?_)
  have hl : lv_has ls 7 [(0, .ref (ia_h E 0)), (1, .int (nI k)), (2, .int (nI d)), (3, .int (nI a)), (4, .int (nI b)), (5, .int (nI f)), (6, .int (nI go))] := hl
  refine lv_aload_n hx hb dX1_come_0 rfl (lv_at hl 0 rfl) ?_
  refine im_get 2 (v := .ref (ia_h E 2)) hx hb ht hown hO (by decide) rfl zlX1_7 rfl dX1_come_1 ?_
  refine lv_aload_n hx hb dX1_come_4 rfl (lv_at hl 0 rfl) ?_
  refine im_get 1 (v := .int (nI n)) hx hb ht hown hO (by decide) rfl zlX1_63 rfl dX1_come_5 ?_
  refine lv_iload_n hx hb dX1_come_8 rfl (lv_at hl 1 rfl) ?_
  refine im_ist 1 2 1 n k hx hb hO hD hS rfl (im_set2 E n g n k) (by omega) dX1_come_9 (fun H locs hO hD hS => ?_)
  have hg_1 : zm_B (ia_up g 1 n k) := zm_B_up hg (by decide) (by omega)
  obtain ⟨g_1, eg_1⟩ : ∃ z, z = ia_up g 1 n k := ⟨_, rfl⟩
  rw [← eg_1] at hO hD hg_1
  have fg_1 : g_1 1 n = k := by rw [eg_1]; exact zs_up_at _ _ _ _
  refine lv_aload_n hx hb dX1_come_10 rfl (lv_at hl 0 rfl) ?_
  refine im_get 3 (v := .ref (ia_h E 3)) hx hb ht hown hO (by decide) rfl zlX1_13 rfl dX1_come_11 ?_
  refine lv_aload_n hx hb dX1_come_14 rfl (lv_at hl 0 rfl) ?_
  refine im_get 1 (v := .int (nI n)) hx hb ht hown hO (by decide) rfl zlX1_63 rfl dX1_come_15 ?_
  refine lv_iload_n hx hb dX1_come_18 rfl (lv_at hl 2 rfl) ?_
  refine im_ist 2 3 2 n d hx hb hO hD hS rfl (im_set3 E n g_1 n d) (by omega) dX1_come_19 (fun H locs hO hD hS => ?_)
  have hg_2 : zm_B (ia_up g_1 2 n d) := zm_B_up hg_1 (by decide) (by omega)
  obtain ⟨g_2, eg_2⟩ : ∃ z, z = ia_up g_1 2 n d := ⟨_, rfl⟩
  rw [← eg_2] at hO hD hg_2
  have fg_2 : g_2 2 n = d := by rw [eg_2]; exact zs_up_at _ _ _ _
  refine lv_aload_n hx hb dX1_come_20 rfl (lv_at hl 0 rfl) ?_
  refine im_get 4 (v := .ref (ia_h E 4)) hx hb ht hown hO (by decide) rfl zlX1_16 rfl dX1_come_21 ?_
  refine lv_aload_n hx hb dX1_come_24 rfl (lv_at hl 0 rfl) ?_
  refine im_get 1 (v := .int (nI n)) hx hb ht hown hO (by decide) rfl zlX1_63 rfl dX1_come_25 ?_
  refine lv_iload_n hx hb dX1_come_28 rfl (lv_at hl 3 rfl) ?_
  refine im_ist 3 4 3 n a hx hb hO hD hS rfl (im_set4 E n g_2 n a) (by omega) dX1_come_29 (fun H locs hO hD hS => ?_)
  have hg_3 : zm_B (ia_up g_2 3 n a) := zm_B_up hg_2 (by decide) (by omega)
  obtain ⟨g_3, eg_3⟩ : ∃ z, z = ia_up g_2 3 n a := ⟨_, rfl⟩
  rw [← eg_3] at hO hD hg_3
  have fg_3 : g_3 3 n = a := by rw [eg_3]; exact zs_up_at _ _ _ _
  refine lv_aload_n hx hb dX1_come_30 rfl (lv_at hl 0 rfl) ?_
  refine im_get 5 (v := .ref (ia_h E 5)) hx hb ht hown hO (by decide) rfl zlX1_19 rfl dX1_come_31 ?_
  refine lv_aload_n hx hb dX1_come_34 rfl (lv_at hl 0 rfl) ?_
  refine im_get 1 (v := .int (nI n)) hx hb ht hown hO (by decide) rfl zlX1_63 rfl dX1_come_35 ?_
  refine lv_iload hx hb dX1_come_38 (lv_at hl 4 rfl) ?_
  refine im_ist 4 5 4 n b hx hb hO hD hS rfl (im_set5 E n g_3 n b) (by omega) dX1_come_40 (fun H locs hO hD hS => ?_)
  have hg_4 : zm_B (ia_up g_3 4 n b) := zm_B_up hg_3 (by decide) (by omega)
  obtain ⟨g_4, eg_4⟩ : ∃ z, z = ia_up g_3 4 n b := ⟨_, rfl⟩
  rw [← eg_4] at hO hD hg_4
  have fg_4 : g_4 4 n = b := by rw [eg_4]; exact zs_up_at _ _ _ _
  refine lv_aload_n hx hb dX1_come_41 rfl (lv_at hl 0 rfl) ?_
  refine im_get 6 (v := .ref (ia_h E 6)) hx hb ht hown hO (by decide) rfl zlX1_22 rfl dX1_come_42 ?_
  refine lv_aload_n hx hb dX1_come_45 rfl (lv_at hl 0 rfl) ?_
  refine im_get 1 (v := .int (nI n)) hx hb ht hown hO (by decide) rfl zlX1_63 rfl dX1_come_46 ?_
  refine lv_iload hx hb dX1_come_49 (lv_at hl 5 rfl) ?_
  refine im_ist 5 6 5 n f hx hb hO hD hS rfl (im_set6 E n g_4 n f) (by omega) dX1_come_51 (fun H locs hO hD hS => ?_)
  have hg_5 : zm_B (ia_up g_4 5 n f) := zm_B_up hg_4 (by decide) (by omega)
  obtain ⟨g_5, eg_5⟩ : ∃ z, z = ia_up g_4 5 n f := ⟨_, rfl⟩
  rw [← eg_5] at hO hD hg_5
  have fg_5 : g_5 5 n = f := by rw [eg_5]; exact zs_up_at _ _ _ _
  refine lv_aload_n hx hb dX1_come_52 rfl (lv_at hl 0 rfl) ?_
  refine im_get 7 (v := .ref (ia_h E 7)) hx hb ht hown hO (by decide) rfl zlX1_25 rfl dX1_come_53 ?_
  refine lv_aload_n hx hb dX1_come_56 rfl (lv_at hl 0 rfl) ?_
  refine im_get 1 (v := .int (nI n)) hx hb ht hown hO (by decide) rfl zlX1_63 rfl dX1_come_57 ?_
  refine lv_iload hx hb dX1_come_60 (lv_at hl 6 rfl) ?_
  refine im_zst 6 7 6 n go hx hb hO hD hS rfl (im_set7 E n g_5 n go) (by omega) (by omega) dX1_come_62 (fun H locs hO hD hS => ?_)
  have hg_6 : zm_B (ia_up g_5 6 n go) := zm_B_up hg_5 (by decide) (by omega)
  obtain ⟨g_6, eg_6⟩ : ∃ z, z = ia_up g_5 6 n go := ⟨_, rfl⟩
  rw [← eg_6] at hO hD hg_6
  have fg_6 : g_6 6 n = go := by rw [eg_6]; exact zs_up_at _ _ _ _
  refine lv_aload_n hx hb dX1_come_63 rfl (lv_at hl 0 rfl) ?_
  refine im_get 8 (v := .ref (ia_h E 8)) hx hb ht hown hO (by decide) rfl zlX1_29 rfl dX1_come_64 ?_
  refine lv_aload_n hx hb dX1_come_67 rfl (lv_at hl 0 rfl) ?_
  refine im_get 1 (v := .int (nI n)) hx hb ht hown hO (by decide) rfl zlX1_63 rfl dX1_come_68 ?_
  refine lv_iconst (v := nI 0) hx hb dX1_come_71 (by decide) ?_
  refine im_zst 7 8 7 n 0 hx hb hO hD hS rfl (im_set8 E n g_6 n 0) (by omega) (by omega) dX1_come_72 (fun H locs hO hD hS => ?_)
  have hg_7 : zm_B (ia_up g_6 7 n 0) := zm_B_up hg_6 (by decide) (by omega)
  obtain ⟨g_7, eg_7⟩ : ∃ z, z = ia_up g_6 7 n 0 := ⟨_, rfl⟩
  rw [← eg_7] at hO hD hg_7
  have fg_7 : g_7 7 n = 0 := by rw [eg_7]; exact zs_up_at _ _ _ _
  refine lv_aload_n hx hb dX1_come_73 rfl (lv_at hl 0 rfl) ?_
  refine lv_dup hx hb dX1_come_74 rfl ?_
  refine im_get 1 (v := .int (nI n)) hx hb ht hown hO (by decide) rfl zlX1_63 rfl dX1_come_75 ?_
  refine lv_iconst (v := nI 1) hx hb dX1_come_78 (by decide) ?_
  refine zk_add hx hb dX1_come_79 ?_
  refine im_putn (n + 1) hx hb ht hown hO hD hS zlX1_63 dX1_come_80 (fun H locs hO hD hS => ?_)
  refine lv_aload_n hx hb dX1_come_83 rfl (lv_at hl 0 rfl) ?_
  refine im_get 1 (v := .int (nI (n + 1))) hx hb ht hown hO (by decide) rfl zlX1_63 rfl dX1_come_84 ?_
  refine lv_iconst (v := nI 1) hx hb dX1_come_87 (by decide) ?_
  refine zk_sub hx hb (by omega) dX1_come_88 ?_
  exact im_miret hx hb hr hlk hO hD hS (congrArg nI (show n + 1 - 1 = n by omega)) (by subst eg_7 eg_6 eg_5 eg_4 eg_3 eg_2 eg_1; rfl) dX1_come_89
set_option maxHeartbeats 4000000 in
set_option maxRecDepth 100000 in
/-- the reference: put -/
theorem zmc_put_no (l : Launch) (E : ia_E) (n : Nat) (g : Nat → Nat → Nat) (hg : zm_B g) (k d a b : Int32) (h0 : k.toInt < 0 ∨ 7 < k.toInt ∨ k.toInt = 5 ∨ ¬ (0 ≤ d.toInt ∧ d.toInt ≤ 31) ∨ ¬ (0 ≤ a.toInt ∧ a.toInt ≤ 31) ∨ ¬ (0 ≤ b.toInt ∧ b.toInt ≤ 31)) (sz : Nat) : im_M l yX1_put cX1_put 5 .int 1 E n g sz [.int k, .int d, .int a, .int b] ((-1)) (n) (g) := by
  refine im_Mof (by decide) rfl (Nat.le_of_ble_eq_true rfl) (fun p e s m args below meth c ls A hx hb hr hml hown ht hlk hA hO hD hS hl => ?_)
  have hl : lv_has ls 5 [(0, .ref (ia_h E 0)), (1, .int k), (2, .int d), (3, .int a), (4, .int b)] := hl
  refine lv_aload_n hx hb dX1_put_0 rfl (lv_at hl 0 rfl) ?_
  refine lv_iconst (v := nI 0) hx hb dX1_put_1 (by decide) ?_
  refine im_putt hx hb ht hown hO hD hS zlX1_59 dX1_put_2 (fun H locs hO hD hS => ?_)
  refine lv_iload_n hx hb dX1_put_5 rfl (lv_at hl 1 rfl) ?_
  refine zi_iflt (tgt := 67) hx hb dX1_put_6 (by decide) (fun c_1 => ?_) (fun c_1 => ?_)
  · refine lv_iconst (v := (-1)) hx hb dX1_put_67 (by decide) ?_
    exact im_miret hx hb hr hlk hO hD hS rfl (by rfl) dX1_put_68
  · refine lv_iload_n hx hb dX1_put_9 rfl (lv_at hl 1 rfl) ?_
    refine lv_bipush (v := nI 7) hx hb dX1_put_10 (by decide) ?_
    have t_3 := nI_toInt (n := 7) (by omega)
    refine zi_cgt (tgt := 67) hx hb dX1_put_12 (by decide) (fun c_2 => ?_) (fun c_2 => ?_)
    · refine lv_iconst (v := (-1)) hx hb dX1_put_67 (by decide) ?_
      exact im_miret hx hb hr hlk hO hD hS rfl (by rfl) dX1_put_68
    · refine lv_iload_n hx hb dX1_put_15 rfl (lv_at hl 1 rfl) ?_
      refine lv_iconst (v := nI 5) hx hb dX1_put_16 (by decide) ?_
      have t_5 := nI_toInt (n := 5) (by omega)
      refine zi_ceq (tgt := 67) hx hb dX1_put_17 (by decide) (fun c_4 => ?_) (fun c_4 => ?_)
      · refine lv_iconst (v := (-1)) hx hb dX1_put_67 (by decide) ?_
        exact im_miret hx hb hr hlk hO hD hS rfl (by rfl) dX1_put_68
      · refine lv_iload_n hx hb dX1_put_20 rfl (lv_at hl 2 rfl) ?_
        refine im_callS (rest := []) hx hb hml hl.1 hown ht (zmc_reg l d) zgX1_66 zyX1_isRegister rfl ⟨by decide, by decide⟩ ⟨Nat.zero_le _, Nat.zero_le _⟩ (Nat.le_of_ble_eq_true rfl) rfl dX1_put_21 ?_
        have b_6 := zb_reg d.toInt
        refine zk_ifeq (tgt := 67) hx hb dX1_put_24 (by decide) (by omega) (fun c_7 => ?_) (fun c_7 => ?_)
        · refine lv_iconst (v := (-1)) hx hb dX1_put_67 (by decide) ?_
          exact im_miret hx hb hr hlk hO hD hS rfl (by rfl) dX1_put_68
        · refine lv_iload_n hx hb dX1_put_27 rfl (lv_at hl 3 rfl) ?_
          refine im_callS (rest := []) hx hb hml hl.1 hown ht (zmc_reg l a) zgX1_66 zyX1_isRegister rfl ⟨by decide, by decide⟩ ⟨Nat.zero_le _, Nat.zero_le _⟩ (Nat.le_of_ble_eq_true rfl) rfl dX1_put_28 ?_
          have b_8 := zb_reg a.toInt
          refine zk_ifeq (tgt := 67) hx hb dX1_put_31 (by decide) (by omega) (fun c_9 => ?_) (fun c_9 => ?_)
          · refine lv_iconst (v := (-1)) hx hb dX1_put_67 (by decide) ?_
            exact im_miret hx hb hr hlk hO hD hS rfl (by rfl) dX1_put_68
          · refine lv_iload hx hb dX1_put_34 (lv_at hl 4 rfl) ?_
            refine im_callS (rest := []) hx hb hml hl.1 hown ht (zmc_reg l b) zgX1_66 zyX1_isRegister rfl ⟨by decide, by decide⟩ ⟨Nat.zero_le _, Nat.zero_le _⟩ (Nat.le_of_ble_eq_true rfl) rfl dX1_put_36 ?_
            have b_10 := zb_reg b.toInt
            refine zk_ifeq (tgt := 67) hx hb dX1_put_39 (by decide) (by omega) (fun c_11 => ?_) (fun c_11 => ?_)
            · refine lv_iconst (v := (-1)) hx hb dX1_put_67 (by decide) ?_
              exact im_miret hx hb hr hlk hO hD hS rfl (by rfl) dX1_put_68
            · exact absurd (show False from by omega) id
set_option maxHeartbeats 4000000 in
set_option maxRecDepth 100000 in
/-- the reference: put -/
theorem zmc_put_no2 (l : Launch) (E : ia_E) (n : Nat) (g : Nat → Nat → Nat) (hg : zm_B g) (k d a b : Nat) (hn : n ≤ 400) (hk : k ≤ 7 ∧ d ≤ 31 ∧ a ≤ 31 ∧ b ≤ 31) (h5 : k ≠ 5) (h7 : (k = 7 ∧ ¬ (d = 0 ∧ a = 0 ∧ b = 0)) ∨ n = 400) (sz : Nat) : im_M l yX1_put cX1_put 5 .int 1 E n g sz [.int (nI k), .int (nI d), .int (nI a), .int (nI b)] ((-1)) (n) (g) := by
  refine im_Mof (by decide) rfl (Nat.le_of_ble_eq_true rfl) (fun p e s m args below meth c ls A hx hb hr hml hown ht hlk hA hO hD hS hl => ?_)
  have hl : lv_has ls 5 [(0, .ref (ia_h E 0)), (1, .int (nI k)), (2, .int (nI d)), (3, .int (nI a)), (4, .int (nI b))] := hl
  refine lv_aload_n hx hb dX1_put_0 rfl (lv_at hl 0 rfl) ?_
  refine lv_iconst (v := nI 0) hx hb dX1_put_1 (by decide) ?_
  refine im_putt hx hb ht hown hO hD hS zlX1_59 dX1_put_2 (fun H locs hO hD hS => ?_)
  refine lv_iload_n hx hb dX1_put_5 rfl (lv_at hl 1 rfl) ?_
  refine zk_iflt (tgt := 67) hx hb dX1_put_6 (by decide) (by omega) ?_
  refine lv_iload_n hx hb dX1_put_9 rfl (lv_at hl 1 rfl) ?_
  refine lv_bipush (v := nI 7) hx hb dX1_put_10 (by decide) ?_
  refine zk_cgt (tgt := 67) hx hb dX1_put_12 (by decide) (by omega) (by omega) (fun c_2 => ?_) (fun c_2 => ?_)
  · refine lv_iconst (v := (-1)) hx hb dX1_put_67 (by decide) ?_
    exact im_miret hx hb hr hlk hO hD hS rfl (by rfl) dX1_put_68
  · refine lv_iload_n hx hb dX1_put_15 rfl (lv_at hl 1 rfl) ?_
    refine lv_iconst (v := nI 5) hx hb dX1_put_16 (by decide) ?_
    refine zk_ceq (tgt := 67) hx hb dX1_put_17 (by decide) (by omega) (by omega) (fun c_3 => ?_) (fun c_3 => ?_)
    · refine lv_iconst (v := (-1)) hx hb dX1_put_67 (by decide) ?_
      exact im_miret hx hb hr hlk hO hD hS rfl (by rfl) dX1_put_68
    · refine lv_iload_n hx hb dX1_put_20 rfl (lv_at hl 2 rfl) ?_
      refine im_callS (rest := []) hx hb hml hl.1 hown ht (zmc_reg l (nI d)) zgX1_66 zyX1_isRegister rfl ⟨by decide, by decide⟩ ⟨Nat.zero_le _, Nat.zero_le _⟩ (Nat.le_of_ble_eq_true rfl) rfl dX1_put_21 ?_
      have t_4 := nI_toInt (n := d) (by omega)
      have b_5 := zb_reg (nI d).toInt
      refine zk_ifeq (tgt := 67) hx hb dX1_put_24 (by decide) (by omega) (fun c_6 => ?_) (fun c_6 => ?_)
      · refine lv_iconst (v := (-1)) hx hb dX1_put_67 (by decide) ?_
        exact im_miret hx hb hr hlk hO hD hS rfl (by rfl) dX1_put_68
      · refine lv_iload_n hx hb dX1_put_27 rfl (lv_at hl 3 rfl) ?_
        refine im_callS (rest := []) hx hb hml hl.1 hown ht (zmc_reg l (nI a)) zgX1_66 zyX1_isRegister rfl ⟨by decide, by decide⟩ ⟨Nat.zero_le _, Nat.zero_le _⟩ (Nat.le_of_ble_eq_true rfl) rfl dX1_put_28 ?_
        have t_7 := nI_toInt (n := a) (by omega)
        have b_8 := zb_reg (nI a).toInt
        refine zk_ifeq (tgt := 67) hx hb dX1_put_31 (by decide) (by omega) (fun c_9 => ?_) (fun c_9 => ?_)
        · refine lv_iconst (v := (-1)) hx hb dX1_put_67 (by decide) ?_
          exact im_miret hx hb hr hlk hO hD hS rfl (by rfl) dX1_put_68
        · refine lv_iload hx hb dX1_put_34 (lv_at hl 4 rfl) ?_
          refine im_callS (rest := []) hx hb hml hl.1 hown ht (zmc_reg l (nI b)) zgX1_66 zyX1_isRegister rfl ⟨by decide, by decide⟩ ⟨Nat.zero_le _, Nat.zero_le _⟩ (Nat.le_of_ble_eq_true rfl) rfl dX1_put_36 ?_
          have t_10 := nI_toInt (n := b) (by omega)
          have b_11 := zb_reg (nI b).toInt
          refine zk_ifeq (tgt := 67) hx hb dX1_put_39 (by decide) (by omega) (fun c_12 => ?_) (fun c_12 => ?_)
          · refine lv_iconst (v := (-1)) hx hb dX1_put_67 (by decide) ?_
            exact im_miret hx hb hr hlk hO hD hS rfl (by rfl) dX1_put_68
          · refine lv_iload_n hx hb dX1_put_42 rfl (lv_at hl 1 rfl) ?_
            refine lv_bipush (v := nI 7) hx hb dX1_put_43 (by decide) ?_
            refine zk_cne (tgt := 57) hx hb dX1_put_45 (by decide) (by omega) (by omega) (fun c_13 => ?_) (fun c_13 => ?_)
            · refine lv_aload_n hx hb dX1_put_57 rfl (lv_at hl 0 rfl) ?_
              refine im_get 1 (v := .int (nI n)) hx hb ht hown hO (by decide) rfl zlX1_63 rfl dX1_put_58 ?_
              refine lv_sipush (v := nI 400) hx hb dX1_put_61 (by decide) ?_
              refine zk_cne (tgt := 69) hx hb dX1_put_64 (by decide) (by omega) (by omega) (fun c_14 => ?_) (fun c_14 => ?_)
              · exact absurd (show False from by omega) id
              · refine lv_iconst (v := (-1)) hx hb dX1_put_67 (by decide) ?_
                exact im_miret hx hb hr hlk hO hD hS rfl (by rfl) dX1_put_68
            · refine lv_iload_n hx hb dX1_put_48 rfl (lv_at hl 2 rfl) ?_
              refine lv_iload_n hx hb dX1_put_49 rfl (lv_at hl 3 rfl) ?_
              refine zk_add hx hb dX1_put_50 ?_
              refine lv_iload hx hb dX1_put_51 (lv_at hl 4 rfl) ?_
              refine zk_add hx hb dX1_put_53 ?_
              refine zk_ifgt (tgt := 67) hx hb dX1_put_54 (by decide) (by omega) (fun c_15 => ?_) (fun c_15 => ?_)
              · refine lv_iconst (v := (-1)) hx hb dX1_put_67 (by decide) ?_
                exact im_miret hx hb hr hlk hO hD hS rfl (by rfl) dX1_put_68
              · refine lv_aload_n hx hb dX1_put_57 rfl (lv_at hl 0 rfl) ?_
                refine im_get 1 (v := .int (nI n)) hx hb ht hown hO (by decide) rfl zlX1_63 rfl dX1_put_58 ?_
                refine lv_sipush (v := nI 400) hx hb dX1_put_61 (by decide) ?_
                refine zk_cne (tgt := 69) hx hb dX1_put_64 (by decide) (by omega) (by omega) (fun c_16 => ?_) (fun c_16 => ?_)
                · exact absurd (show False from by omega) id
                · refine lv_iconst (v := (-1)) hx hb dX1_put_67 (by decide) ?_
                  exact im_miret hx hb hr hlk hO hD hS rfl (by rfl) dX1_put_68
set_option maxHeartbeats 4000000 in
set_option maxRecDepth 100000 in
/-- the reference: put -/
theorem zmc_put (l : Launch) (E : ia_E) (n : Nat) (g : Nat → Nat → Nat) (hg : zm_B g) (k d a b : Nat) (hn : n < 400) (hk : k ≤ 7 ∧ d ≤ 31 ∧ a ≤ 31 ∧ b ≤ 31) (h5 : k ≠ 5) (h7 : k = 7 → d = 0 ∧ a = 0 ∧ b = 0) (sz : Nat) : im_M l yX1_put cX1_put 5 .int 1 E n g sz [.int (nI k), .int (nI d), .int (nI a), .int (nI b)] (nI n) (n + 1) (zs_put g n k d a b 0 0) := by
  refine im_Mof (by decide) rfl (Nat.le_of_ble_eq_true rfl) (fun p e s m args below meth c ls A hx hb hr hml hown ht hlk hA hO hD hS hl => ?_)
  have hl : lv_has ls 5 [(0, .ref (ia_h E 0)), (1, .int (nI k)), (2, .int (nI d)), (3, .int (nI a)), (4, .int (nI b))] := hl
  refine lv_aload_n hx hb dX1_put_0 rfl (lv_at hl 0 rfl) ?_
  refine lv_iconst (v := nI 0) hx hb dX1_put_1 (by decide) ?_
  refine im_putt hx hb ht hown hO hD hS zlX1_59 dX1_put_2 (fun H locs hO hD hS => ?_)
  refine lv_iload_n hx hb dX1_put_5 rfl (lv_at hl 1 rfl) ?_
  refine zk_iflt (tgt := 67) hx hb dX1_put_6 (by decide) (by omega) ?_
  refine lv_iload_n hx hb dX1_put_9 rfl (lv_at hl 1 rfl) ?_
  refine lv_bipush (v := nI 7) hx hb dX1_put_10 (by decide) ?_
  refine zk_cgt (tgt := 67) hx hb dX1_put_12 (by decide) (by omega) (by omega) (fun c_2 => ?_) (fun c_2 => ?_)
  · exact absurd (show False from by omega) id
  · refine lv_iload_n hx hb dX1_put_15 rfl (lv_at hl 1 rfl) ?_
    refine lv_iconst (v := nI 5) hx hb dX1_put_16 (by decide) ?_
    refine zk_ceq (tgt := 67) hx hb dX1_put_17 (by decide) (by omega) (by omega) (fun c_3 => ?_) (fun c_3 => ?_)
    · exact absurd (show False from by omega) id
    · refine lv_iload_n hx hb dX1_put_20 rfl (lv_at hl 2 rfl) ?_
      refine im_callS (rest := []) hx hb hml hl.1 hown ht (zmc_reg l (nI d)) zgX1_66 zyX1_isRegister rfl ⟨by decide, by decide⟩ ⟨Nat.zero_le _, Nat.zero_le _⟩ (Nat.le_of_ble_eq_true rfl) rfl dX1_put_21 ?_
      have t_4 := nI_toInt (n := d) (by omega)
      have b_5 := zb_reg (nI d).toInt
      refine zk_ifeq (tgt := 67) hx hb dX1_put_24 (by decide) (by omega) (fun c_6 => ?_) (fun c_6 => ?_)
      · exact absurd (show False from by omega) id
      · refine lv_iload_n hx hb dX1_put_27 rfl (lv_at hl 3 rfl) ?_
        refine im_callS (rest := []) hx hb hml hl.1 hown ht (zmc_reg l (nI a)) zgX1_66 zyX1_isRegister rfl ⟨by decide, by decide⟩ ⟨Nat.zero_le _, Nat.zero_le _⟩ (Nat.le_of_ble_eq_true rfl) rfl dX1_put_28 ?_
        have t_7 := nI_toInt (n := a) (by omega)
        have b_8 := zb_reg (nI a).toInt
        refine zk_ifeq (tgt := 67) hx hb dX1_put_31 (by decide) (by omega) (fun c_9 => ?_) (fun c_9 => ?_)
        · exact absurd (show False from by omega) id
        · refine lv_iload hx hb dX1_put_34 (lv_at hl 4 rfl) ?_
          refine im_callS (rest := []) hx hb hml hl.1 hown ht (zmc_reg l (nI b)) zgX1_66 zyX1_isRegister rfl ⟨by decide, by decide⟩ ⟨Nat.zero_le _, Nat.zero_le _⟩ (Nat.le_of_ble_eq_true rfl) rfl dX1_put_36 ?_
          have t_10 := nI_toInt (n := b) (by omega)
          have b_11 := zb_reg (nI b).toInt
          refine zk_ifeq (tgt := 67) hx hb dX1_put_39 (by decide) (by omega) (fun c_12 => ?_) (fun c_12 => ?_)
          · exact absurd (show False from by omega) id
          · refine lv_iload_n hx hb dX1_put_42 rfl (lv_at hl 1 rfl) ?_
            refine lv_bipush (v := nI 7) hx hb dX1_put_43 (by decide) ?_
            refine zk_cne (tgt := 57) hx hb dX1_put_45 (by decide) (by omega) (by omega) (fun c_13 => ?_) (fun c_13 => ?_)
            · refine lv_aload_n hx hb dX1_put_57 rfl (lv_at hl 0 rfl) ?_
              refine im_get 1 (v := .int (nI n)) hx hb ht hown hO (by decide) rfl zlX1_63 rfl dX1_put_58 ?_
              refine lv_sipush (v := nI 400) hx hb dX1_put_61 (by decide) ?_
              refine zk_cne (tgt := 69) hx hb dX1_put_64 (by decide) (by omega) (by omega) (fun c_14 => ?_) (fun c_14 => ?_)
              · refine lv_aload_n hx hb dX1_put_69 rfl (lv_at hl 0 rfl) ?_
                refine lv_iload_n hx hb dX1_put_70 rfl (lv_at hl 1 rfl) ?_
                refine lv_iload_n hx hb dX1_put_71 rfl (lv_at hl 2 rfl) ?_
                refine lv_iload_n hx hb dX1_put_72 rfl (lv_at hl 3 rfl) ?_
                refine lv_iload hx hb dX1_put_73 (lv_at hl 4 rfl) ?_
                refine lv_iconst (v := nI 0) hx hb dX1_put_75 (by decide) ?_
                refine lv_iconst (v := nI 0) hx hb dX1_put_76 (by decide) ?_
                refine im_callM (rest := []) hx hb hml hl.1 hown ht hO hD hS hA (zmc_come l E n g hg k d a b 0 0 (by omega) (by omega) (by omega) _) zgX1_70 zyX1_come rfl ⟨by decide, by decide⟩ ⟨Nat.zero_le _, Nat.zero_le _⟩ (Nat.le_of_ble_eq_true rfl) rfl dX1_put_77 (fun H locs hO hD hS => ?_)
                exact im_miret hx hb hr hlk hO hD hS rfl (by rfl) dX1_put_80
              · exact absurd (show False from by omega) id
            · refine lv_iload_n hx hb dX1_put_48 rfl (lv_at hl 2 rfl) ?_
              refine lv_iload_n hx hb dX1_put_49 rfl (lv_at hl 3 rfl) ?_
              refine zk_add hx hb dX1_put_50 ?_
              refine lv_iload hx hb dX1_put_51 (lv_at hl 4 rfl) ?_
              refine zk_add hx hb dX1_put_53 ?_
              refine zk_ifgt (tgt := 67) hx hb dX1_put_54 (by decide) (by omega) (fun c_15 => ?_) (fun c_15 => ?_)
              · exact absurd (show False from by omega) id
              · refine lv_aload_n hx hb dX1_put_57 rfl (lv_at hl 0 rfl) ?_
                refine im_get 1 (v := .int (nI n)) hx hb ht hown hO (by decide) rfl zlX1_63 rfl dX1_put_58 ?_
                refine lv_sipush (v := nI 400) hx hb dX1_put_61 (by decide) ?_
                refine zk_cne (tgt := 69) hx hb dX1_put_64 (by decide) (by omega) (by omega) (fun c_16 => ?_) (fun c_16 => ?_)
                · refine lv_aload_n hx hb dX1_put_69 rfl (lv_at hl 0 rfl) ?_
                  refine lv_iload_n hx hb dX1_put_70 rfl (lv_at hl 1 rfl) ?_
                  refine lv_iload_n hx hb dX1_put_71 rfl (lv_at hl 2 rfl) ?_
                  refine lv_iload_n hx hb dX1_put_72 rfl (lv_at hl 3 rfl) ?_
                  refine lv_iload hx hb dX1_put_73 (lv_at hl 4 rfl) ?_
                  refine lv_iconst (v := nI 0) hx hb dX1_put_75 (by decide) ?_
                  refine lv_iconst (v := nI 0) hx hb dX1_put_76 (by decide) ?_
                  refine im_callM (rest := []) hx hb hml hl.1 hown ht hO hD hS hA (zmc_come l E n g hg k d a b 0 0 (by omega) (by omega) (by omega) _) zgX1_70 zyX1_come rfl ⟨by decide, by decide⟩ ⟨Nat.zero_le _, Nat.zero_le _⟩ (Nat.le_of_ble_eq_true rfl) rfl dX1_put_77 (fun H locs hO hD hS => ?_)
                  exact im_miret hx hb hr hlk hO hD hS rfl (by rfl) dX1_put_80
                · exact absurd (show False from by omega) id
set_option maxHeartbeats 4000000 in
set_option maxRecDepth 100000 in
/-- the reference: branch -/
theorem zmc_branch_no (l : Launch) (E : ia_E) (n : Nat) (g : Nat → Nat → Nat) (hg : zm_B g) (f : Int32) (go : Nat) (d a : Int32) (hn : n ≤ 400) (h0 : f.toInt < 0 ∨ 2 < f.toInt ∨ ¬ (0 ≤ d.toInt ∧ d.toInt ≤ 31) ∨ ¬ (0 ≤ a.toInt ∧ a.toInt ≤ 31) ∨ n = 400) (sz : Nat) : im_M l yX1_branch cX1_branch 5 .int 1 E n g sz [.int f, .int (nI go), .int d, .int a] ((-1)) (n) (g) := by
  refine im_Mof (by decide) rfl (Nat.le_of_ble_eq_true rfl) (fun p e s m args below meth c ls A hx hb hr hml hown ht hlk hA hO hD hS hl => ?_)
  have hl : lv_has ls 5 [(0, .ref (ia_h E 0)), (1, .int f), (2, .int (nI go)), (3, .int d), (4, .int a)] := hl
  refine lv_aload_n hx hb dX1_branch_0 rfl (lv_at hl 0 rfl) ?_
  refine lv_iconst (v := nI 0) hx hb dX1_branch_1 (by decide) ?_
  refine im_putt hx hb ht hown hO hD hS zlX1_59 dX1_branch_2 (fun H locs hO hD hS => ?_)
  refine lv_iload_n hx hb dX1_branch_5 rfl (lv_at hl 1 rfl) ?_
  refine zi_iflt (tgt := 39) hx hb dX1_branch_6 (by decide) (fun c_1 => ?_) (fun c_1 => ?_)
  · refine lv_iconst (v := (-1)) hx hb dX1_branch_39 (by decide) ?_
    exact im_miret hx hb hr hlk hO hD hS rfl (by rfl) dX1_branch_40
  · refine lv_iload_n hx hb dX1_branch_9 rfl (lv_at hl 1 rfl) ?_
    refine lv_iconst (v := nI 2) hx hb dX1_branch_10 (by decide) ?_
    have t_3 := nI_toInt (n := 2) (by omega)
    refine zi_cgt (tgt := 39) hx hb dX1_branch_11 (by decide) (fun c_2 => ?_) (fun c_2 => ?_)
    · refine lv_iconst (v := (-1)) hx hb dX1_branch_39 (by decide) ?_
      exact im_miret hx hb hr hlk hO hD hS rfl (by rfl) dX1_branch_40
    · refine lv_iload_n hx hb dX1_branch_14 rfl (lv_at hl 3 rfl) ?_
      refine im_callS (rest := []) hx hb hml hl.1 hown ht (zmc_reg l d) zgX1_66 zyX1_isRegister rfl ⟨by decide, by decide⟩ ⟨Nat.zero_le _, Nat.zero_le _⟩ (Nat.le_of_ble_eq_true rfl) rfl dX1_branch_15 ?_
      have b_4 := zb_reg d.toInt
      refine zk_ifeq (tgt := 39) hx hb dX1_branch_18 (by decide) (by omega) (fun c_5 => ?_) (fun c_5 => ?_)
      · refine lv_iconst (v := (-1)) hx hb dX1_branch_39 (by decide) ?_
        exact im_miret hx hb hr hlk hO hD hS rfl (by rfl) dX1_branch_40
      · refine lv_iload hx hb dX1_branch_21 (lv_at hl 4 rfl) ?_
        refine im_callS (rest := []) hx hb hml hl.1 hown ht (zmc_reg l a) zgX1_66 zyX1_isRegister rfl ⟨by decide, by decide⟩ ⟨Nat.zero_le _, Nat.zero_le _⟩ (Nat.le_of_ble_eq_true rfl) rfl dX1_branch_23 ?_
        have b_6 := zb_reg a.toInt
        refine zk_ifeq (tgt := 39) hx hb dX1_branch_26 (by decide) (by omega) (fun c_7 => ?_) (fun c_7 => ?_)
        · refine lv_iconst (v := (-1)) hx hb dX1_branch_39 (by decide) ?_
          exact im_miret hx hb hr hlk hO hD hS rfl (by rfl) dX1_branch_40
        · refine lv_aload_n hx hb dX1_branch_29 rfl (lv_at hl 0 rfl) ?_
          refine im_get 1 (v := .int (nI n)) hx hb ht hown hO (by decide) rfl zlX1_63 rfl dX1_branch_30 ?_
          refine lv_sipush (v := nI 400) hx hb dX1_branch_33 (by decide) ?_
          refine zk_cne (tgt := 41) hx hb dX1_branch_36 (by decide) (by omega) (by omega) (fun c_8 => ?_) (fun c_8 => ?_)
          · exact absurd (show False from by omega) id
          · refine lv_iconst (v := (-1)) hx hb dX1_branch_39 (by decide) ?_
            exact im_miret hx hb hr hlk hO hD hS rfl (by rfl) dX1_branch_40
set_option maxHeartbeats 4000000 in
set_option maxRecDepth 100000 in
/-- the reference: branch -/
theorem zmc_branch (l : Launch) (E : ia_E) (n : Nat) (g : Nat → Nat → Nat) (hg : zm_B g) (f go d a : Nat) (hn : n < 400) (hf : f ≤ 2 ∧ go ≤ 1) (hk : d ≤ 31 ∧ a ≤ 31) (sz : Nat) : im_M l yX1_branch cX1_branch 5 .int 1 E n g sz [.int (nI f), .int (nI go), .int (nI d), .int (nI a)] (nI n) (n + 1) (zs_put g n 5 d a 0 f go) := by
  refine im_Mof (by decide) rfl (Nat.le_of_ble_eq_true rfl) (fun p e s m args below meth c ls A hx hb hr hml hown ht hlk hA hO hD hS hl => ?_)
  have hl : lv_has ls 5 [(0, .ref (ia_h E 0)), (1, .int (nI f)), (2, .int (nI go)), (3, .int (nI d)), (4, .int (nI a))] := hl
  refine lv_aload_n hx hb dX1_branch_0 rfl (lv_at hl 0 rfl) ?_
  refine lv_iconst (v := nI 0) hx hb dX1_branch_1 (by decide) ?_
  refine im_putt hx hb ht hown hO hD hS zlX1_59 dX1_branch_2 (fun H locs hO hD hS => ?_)
  refine lv_iload_n hx hb dX1_branch_5 rfl (lv_at hl 1 rfl) ?_
  refine zk_iflt (tgt := 39) hx hb dX1_branch_6 (by decide) (by omega) ?_
  refine lv_iload_n hx hb dX1_branch_9 rfl (lv_at hl 1 rfl) ?_
  refine lv_iconst (v := nI 2) hx hb dX1_branch_10 (by decide) ?_
  refine zk_cgt (tgt := 39) hx hb dX1_branch_11 (by decide) (by omega) (by omega) (fun c_2 => ?_) (fun c_2 => ?_)
  · exact absurd (show False from by omega) id
  · refine lv_iload_n hx hb dX1_branch_14 rfl (lv_at hl 3 rfl) ?_
    refine im_callS (rest := []) hx hb hml hl.1 hown ht (zmc_reg l (nI d)) zgX1_66 zyX1_isRegister rfl ⟨by decide, by decide⟩ ⟨Nat.zero_le _, Nat.zero_le _⟩ (Nat.le_of_ble_eq_true rfl) rfl dX1_branch_15 ?_
    have t_3 := nI_toInt (n := d) (by omega)
    have b_4 := zb_reg (nI d).toInt
    refine zk_ifeq (tgt := 39) hx hb dX1_branch_18 (by decide) (by omega) (fun c_5 => ?_) (fun c_5 => ?_)
    · exact absurd (show False from by omega) id
    · refine lv_iload hx hb dX1_branch_21 (lv_at hl 4 rfl) ?_
      refine im_callS (rest := []) hx hb hml hl.1 hown ht (zmc_reg l (nI a)) zgX1_66 zyX1_isRegister rfl ⟨by decide, by decide⟩ ⟨Nat.zero_le _, Nat.zero_le _⟩ (Nat.le_of_ble_eq_true rfl) rfl dX1_branch_23 ?_
      have t_6 := nI_toInt (n := a) (by omega)
      have b_7 := zb_reg (nI a).toInt
      refine zk_ifeq (tgt := 39) hx hb dX1_branch_26 (by decide) (by omega) (fun c_8 => ?_) (fun c_8 => ?_)
      · exact absurd (show False from by omega) id
      · refine lv_aload_n hx hb dX1_branch_29 rfl (lv_at hl 0 rfl) ?_
        refine im_get 1 (v := .int (nI n)) hx hb ht hown hO (by decide) rfl zlX1_63 rfl dX1_branch_30 ?_
        refine lv_sipush (v := nI 400) hx hb dX1_branch_33 (by decide) ?_
        refine zk_cne (tgt := 41) hx hb dX1_branch_36 (by decide) (by omega) (by omega) (fun c_9 => ?_) (fun c_9 => ?_)
        · refine lv_aload_n hx hb dX1_branch_41 rfl (lv_at hl 0 rfl) ?_
          refine lv_iconst (v := nI 5) hx hb dX1_branch_42 (by decide) ?_
          refine lv_iload_n hx hb dX1_branch_43 rfl (lv_at hl 3 rfl) ?_
          refine lv_iload hx hb dX1_branch_44 (lv_at hl 4 rfl) ?_
          refine lv_iconst (v := nI 0) hx hb dX1_branch_46 (by decide) ?_
          refine lv_iload_n hx hb dX1_branch_47 rfl (lv_at hl 1 rfl) ?_
          refine lv_iload_n hx hb dX1_branch_48 rfl (lv_at hl 2 rfl) ?_
          refine im_callM (rest := []) hx hb hml hl.1 hown ht hO hD hS hA (zmc_come l E n g hg 5 d a 0 f go (by omega) (by omega) (by omega) _) zgX1_70 zyX1_come rfl ⟨by decide, by decide⟩ ⟨Nat.zero_le _, Nat.zero_le _⟩ (Nat.le_of_ble_eq_true rfl) rfl dX1_branch_49 (fun H locs hO hD hS => ?_)
          exact im_miret hx hb hr hlk hO hD hS rfl (by rfl) dX1_branch_52
        · exact absurd (show False from by omega) id
set_option maxHeartbeats 4000000 in
set_option maxRecDepth 100000 in
/-- the reference: fail -/
theorem zmc_fail_no (l : Launch) (E : ia_E) (n : Nat) (g : Nat → Nat → Nat) (hg : zm_B g)  (hn : n = 0) (sz : Nat) : im_M l yX1_fail cX1_fail 1 .boolean 0 E n g sz [] (nI 0) (n) (g) := by
  refine im_Mof (by decide) rfl (Nat.le_of_ble_eq_true rfl) (fun p e s m args below meth c ls A hx hb hr hml hown ht hlk hA hO hD hS hl => ?_)
  have hl : lv_has ls 1 [(0, .ref (ia_h E 0))] := hl
  refine lv_aload_n hx hb dX1_fail_0 rfl (lv_at hl 0 rfl) ?_
  refine lv_iconst (v := nI 0) hx hb dX1_fail_1 (by decide) ?_
  refine im_putt hx hb ht hown hO hD hS zlX1_59 dX1_fail_2 (fun H locs hO hD hS => ?_)
  refine lv_aload_n hx hb dX1_fail_5 rfl (lv_at hl 0 rfl) ?_
  refine im_get 1 (v := .int (nI n)) hx hb ht hown hO (by decide) rfl zlX1_63 rfl dX1_fail_6 ?_
  refine zk_ifne (tgt := 14) hx hb dX1_fail_9 (by decide) (by omega) (fun c_1 => ?_) (fun c_1 => ?_)
  · exact absurd (show False from by omega) id
  · refine lv_iconst (v := nI 0) hx hb dX1_fail_12 (by decide) ?_
    exact im_mzret hx hb hr hlk hO hD hS (by omega) rfl (by rfl) dX1_fail_13
set_option maxHeartbeats 4000000 in
set_option maxRecDepth 100000 in
/-- the reference: fail -/
theorem zmc_fail (l : Launch) (E : ia_E) (n : Nat) (g : Nat → Nat → Nat) (hg : zm_B g)  (hn : 0 < n ∧ n ≤ 400) (sz : Nat) : im_M l yX1_fail cX1_fail 1 .boolean 0 E n g sz [] (nI 1) (n) (ia_up g 7 (n - 1) 1) := by
  refine im_Mof (by decide) rfl (Nat.le_of_ble_eq_true rfl) (fun p e s m args below meth c ls A hx hb hr hml hown ht hlk hA hO hD hS hl => ?_)
  have hl : lv_has ls 1 [(0, .ref (ia_h E 0))] := hl
  refine lv_aload_n hx hb dX1_fail_0 rfl (lv_at hl 0 rfl) ?_
  refine lv_iconst (v := nI 0) hx hb dX1_fail_1 (by decide) ?_
  refine im_putt hx hb ht hown hO hD hS zlX1_59 dX1_fail_2 (fun H locs hO hD hS => ?_)
  refine lv_aload_n hx hb dX1_fail_5 rfl (lv_at hl 0 rfl) ?_
  refine im_get 1 (v := .int (nI n)) hx hb ht hown hO (by decide) rfl zlX1_63 rfl dX1_fail_6 ?_
  refine zk_ifne (tgt := 14) hx hb dX1_fail_9 (by decide) (by omega) (fun c_1 => ?_) (fun c_1 => ?_)
  · refine lv_aload_n hx hb dX1_fail_14 rfl (lv_at hl 0 rfl) ?_
    refine im_get 8 (v := .ref (ia_h E 8)) hx hb ht hown hO (by decide) rfl zlX1_29 rfl dX1_fail_15 ?_
    refine lv_aload_n hx hb dX1_fail_18 rfl (lv_at hl 0 rfl) ?_
    refine im_get 1 (v := .int (nI n)) hx hb ht hown hO (by decide) rfl zlX1_63 rfl dX1_fail_19 ?_
    refine lv_iconst (v := nI 1) hx hb dX1_fail_22 (by decide) ?_
    refine zk_sub hx hb (by omega) dX1_fail_23 ?_
    refine lv_iconst (v := nI 1) hx hb dX1_fail_24 (by decide) ?_
    refine im_zst 7 8 7 (n - 1) 1 hx hb hO hD hS rfl (im_set8 E n g (n - 1) 1) (by omega) (by omega) dX1_fail_25 (fun H locs hO hD hS => ?_)
    have hg_2 : zm_B (ia_up g 7 (n - 1) 1) := zm_B_up hg (by decide) (by omega)
    obtain ⟨g_2, eg_2⟩ : ∃ z, z = ia_up g 7 (n - 1) 1 := ⟨_, rfl⟩
    rw [← eg_2] at hO hD hg_2
    have fg_2 : g_2 7 (n - 1) = 1 := by rw [eg_2]; exact zs_up_at _ _ _ _
    refine lv_iconst (v := nI 1) hx hb dX1_fail_26 (by decide) ?_
    exact im_mzret hx hb hr hlk hO hD hS (by omega) rfl (by subst eg_2; rfl) dX1_fail_27
  · exact absurd (show False from by omega) id
set_option maxHeartbeats 4000000 in
set_option maxRecDepth 100000 in
/-- the reference: drop -/
theorem zmc_drop_no (l : Launch) (E : ia_E) (n : Nat) (g : Nat → Nat → Nat) (hg : zm_B g) (x : Int32) (hn : n ≤ 400) (h0 : x.toInt < 0 ∨ n < x.toInt) (sz : Nat) : im_M l yX1_drop cX1_drop 2 .boolean 0 E n g sz [.int x] (nI 0) (n) (g) := by
  refine im_Mof (by decide) rfl (Nat.le_of_ble_eq_true rfl) (fun p e s m args below meth c ls A hx hb hr hml hown ht hlk hA hO hD hS hl => ?_)
  have hl : lv_has ls 2 [(0, .ref (ia_h E 0)), (1, .int x)] := hl
  refine lv_aload_n hx hb dX1_drop_0 rfl (lv_at hl 0 rfl) ?_
  refine lv_iconst (v := nI 0) hx hb dX1_drop_1 (by decide) ?_
  refine im_putt hx hb ht hown hO hD hS zlX1_59 dX1_drop_2 (fun H locs hO hD hS => ?_)
  refine lv_iload_n hx hb dX1_drop_5 rfl (lv_at hl 1 rfl) ?_
  refine zi_iflt (tgt := 17) hx hb dX1_drop_6 (by decide) (fun c_1 => ?_) (fun c_1 => ?_)
  · refine lv_iconst (v := nI 0) hx hb dX1_drop_17 (by decide) ?_
    exact im_mzret hx hb hr hlk hO hD hS (by omega) rfl (by rfl) dX1_drop_18
  · refine lv_iload_n hx hb dX1_drop_9 rfl (lv_at hl 1 rfl) ?_
    refine lv_aload_n hx hb dX1_drop_10 rfl (lv_at hl 0 rfl) ?_
    refine im_get 1 (v := .int (nI n)) hx hb ht hown hO (by decide) rfl zlX1_63 rfl dX1_drop_11 ?_
    have t_3 := nI_toInt (n := n) (by omega)
    refine zi_cle (tgt := 19) hx hb dX1_drop_14 (by decide) (fun c_2 => ?_) (fun c_2 => ?_)
    · exact absurd (show False from by omega) id
    · refine lv_iconst (v := nI 0) hx hb dX1_drop_17 (by decide) ?_
      exact im_mzret hx hb hr hlk hO hD hS (by omega) rfl (by rfl) dX1_drop_18
set_option maxHeartbeats 4000000 in
set_option maxRecDepth 100000 in
/-- the reference: drop -/
theorem zmc_drop (l : Launch) (E : ia_E) (n : Nat) (g : Nat → Nat → Nat) (hg : zm_B g) (x : Nat) (hn : n ≤ 400) (hx0 : x ≤ n) (sz : Nat) : im_M l yX1_drop cX1_drop 2 .boolean 0 E n g sz [.int (nI x)] (nI 1) (n - x) (g) := by
  refine im_Mof (by decide) rfl (Nat.le_of_ble_eq_true rfl) (fun p e s m args below meth c ls A hx hb hr hml hown ht hlk hA hO hD hS hl => ?_)
  have hl : lv_has ls 2 [(0, .ref (ia_h E 0)), (1, .int (nI x))] := hl
  refine lv_aload_n hx hb dX1_drop_0 rfl (lv_at hl 0 rfl) ?_
  refine lv_iconst (v := nI 0) hx hb dX1_drop_1 (by decide) ?_
  refine im_putt hx hb ht hown hO hD hS zlX1_59 dX1_drop_2 (fun H locs hO hD hS => ?_)
  refine lv_iload_n hx hb dX1_drop_5 rfl (lv_at hl 1 rfl) ?_
  refine zk_iflt (tgt := 17) hx hb dX1_drop_6 (by decide) (by omega) ?_
  refine lv_iload_n hx hb dX1_drop_9 rfl (lv_at hl 1 rfl) ?_
  refine lv_aload_n hx hb dX1_drop_10 rfl (lv_at hl 0 rfl) ?_
  refine im_get 1 (v := .int (nI n)) hx hb ht hown hO (by decide) rfl zlX1_63 rfl dX1_drop_11 ?_
  refine zk_cle (tgt := 19) hx hb dX1_drop_14 (by decide) (by omega) (by omega) (fun c_2 => ?_) (fun c_2 => ?_)
  · refine lv_aload_n hx hb dX1_drop_19 rfl (lv_at hl 0 rfl) ?_
    refine lv_dup hx hb dX1_drop_20 rfl ?_
    refine im_get 1 (v := .int (nI n)) hx hb ht hown hO (by decide) rfl zlX1_63 rfl dX1_drop_21 ?_
    refine lv_iload_n hx hb dX1_drop_24 rfl (lv_at hl 1 rfl) ?_
    refine zk_sub hx hb (by omega) dX1_drop_25 ?_
    refine im_putn (n - x) hx hb ht hown hO hD hS zlX1_63 dX1_drop_26 (fun H locs hO hD hS => ?_)
    refine lv_iconst (v := nI 1) hx hb dX1_drop_29 (by decide) ?_
    exact im_mzret hx hb hr hlk hO hD hS (by omega) rfl (by rfl) dX1_drop_30
  · exact absurd (show False from by omega) id
set_option maxHeartbeats 4000000 in
set_option maxRecDepth 100000 in
/-- the reference: clear -/
theorem zmc_clear (l : Launch) (E : ia_E) (n : Nat) (g : Nat → Nat → Nat) (hg : zm_B g)   (sz : Nat) : im_V l yX1_clear cX1_clear 1 0 E n g sz [] (0) (g) := by
  refine im_Vof (by decide) rfl (Nat.le_of_ble_eq_true rfl) (fun p e s m args below meth c ls A hx hb hr hml hown ht hlk hA hO hD hS hl => ?_)
  have hl : lv_has ls 1 [(0, .ref (ia_h E 0))] := hl
  refine lv_aload_n hx hb dX1_clear_0 rfl (lv_at hl 0 rfl) ?_
  refine lv_iconst (v := nI 0) hx hb dX1_clear_1 (by decide) ?_
  refine im_putt hx hb ht hown hO hD hS zlX1_59 dX1_clear_2 (fun H locs hO hD hS => ?_)
  refine lv_aload_n hx hb dX1_clear_5 rfl (lv_at hl 0 rfl) ?_
  refine lv_iconst (v := nI 0) hx hb dX1_clear_6 (by decide) ?_
  refine im_putn 0 hx hb ht hown hO hD hS zlX1_63 dX1_clear_7 (fun H locs hO hD hS => ?_)
  exact im_vret hx hb hr hlk hO hD hS (by rfl) dX1_clear_10
set_option maxHeartbeats 4000000 in
set_option maxRecDepth 100000 in
/-- the reference: again -/
theorem zmc_again_no1 (l : Launch) (E : ia_E) (n : Nat) (g : Nat → Nat → Nat) (hg : zm_B g) (x y : Int32) (hn : n ≤ 400) (h0 : x.toInt < 0 ∨ y.toInt < 1 ∨ ((400 - n : Nat) : Int) < y.toInt) (sz : Nat) : im_M l yX1_again cX1_again 5 .int 1 E n g sz [.int x, .int y] ((-1)) (n) (g) := by
  refine im_Mof (by decide) rfl (Nat.le_of_ble_eq_true rfl) (fun p e s m args below meth c ls A hx hb hr hml hown ht hlk hA hO hD hS hl => ?_)
  have hl : lv_has ls 5 [(0, .ref (ia_h E 0)), (1, .int x), (2, .int y)] := hl
  refine lv_aload_n hx hb dX1_again_0 rfl (lv_at hl 0 rfl) ?_
  refine lv_iconst (v := nI 0) hx hb dX1_again_1 (by decide) ?_
  refine im_putt hx hb ht hown hO hD hS zlX1_59 dX1_again_2 (fun H locs hO hD hS => ?_)
  refine lv_iload_n hx hb dX1_again_5 rfl (lv_at hl 1 rfl) ?_
  refine zi_iflt (tgt := 36) hx hb dX1_again_6 (by decide) (fun c_1 => ?_) (fun c_1 => ?_)
  · refine lv_iconst (v := (-1)) hx hb dX1_again_36 (by decide) ?_
    exact im_miret hx hb hr hlk hO hD hS rfl (by rfl) dX1_again_37
  · refine lv_iload_n hx hb dX1_again_9 rfl (lv_at hl 2 rfl) ?_
    refine lv_iconst (v := nI 1) hx hb dX1_again_10 (by decide) ?_
    have t_3 := nI_toInt (n := 1) (by omega)
    refine zi_clt (tgt := 36) hx hb dX1_again_11 (by decide) (fun c_2 => ?_) (fun c_2 => ?_)
    · refine lv_iconst (v := (-1)) hx hb dX1_again_36 (by decide) ?_
      exact im_miret hx hb hr hlk hO hD hS rfl (by rfl) dX1_again_37
    · refine lv_iload_n hx hb dX1_again_14 rfl (lv_at hl 2 rfl) ?_
      refine lv_sipush (v := nI 400) hx hb dX1_again_15 (by decide) ?_
      refine lv_aload_n hx hb dX1_again_18 rfl (lv_at hl 0 rfl) ?_
      refine im_get 1 (v := .int (nI n)) hx hb ht hown hO (by decide) rfl zlX1_63 rfl dX1_again_19 ?_
      refine zk_sub hx hb (by omega) dX1_again_22 ?_
      have t_5 := nI_toInt (n := 400 - n) (by omega)
      refine zi_cgt (tgt := 36) hx hb dX1_again_23 (by decide) (fun c_4 => ?_) (fun c_4 => ?_)
      · refine lv_iconst (v := (-1)) hx hb dX1_again_36 (by decide) ?_
        exact im_miret hx hb hr hlk hO hD hS rfl (by rfl) dX1_again_37
      · exact absurd (show False from by omega) id
set_option maxHeartbeats 4000000 in
set_option maxRecDepth 100000 in
/-- the reference: again -/
theorem zmc_again_no2 (l : Launch) (E : ia_E) (n : Nat) (g : Nat → Nat → Nat) (hg : zm_B g) (x : Int32) (y : Nat) (hn : n ≤ 400) (hy : 1 ≤ y ∧ y ≤ 400 - n) (h0 : 0 ≤ x.toInt ∧ (n : Int) - y < x.toInt) (sz : Nat) : im_M l yX1_again cX1_again 5 .int 1 E n g sz [.int x, .int (nI y)] ((-1)) (n) (g) := by
  refine im_Mof (by decide) rfl (Nat.le_of_ble_eq_true rfl) (fun p e s m args below meth c ls A hx hb hr hml hown ht hlk hA hO hD hS hl => ?_)
  have hl : lv_has ls 5 [(0, .ref (ia_h E 0)), (1, .int x), (2, .int (nI y))] := hl
  refine lv_aload_n hx hb dX1_again_0 rfl (lv_at hl 0 rfl) ?_
  refine lv_iconst (v := nI 0) hx hb dX1_again_1 (by decide) ?_
  refine im_putt hx hb ht hown hO hD hS zlX1_59 dX1_again_2 (fun H locs hO hD hS => ?_)
  refine lv_iload_n hx hb dX1_again_5 rfl (lv_at hl 1 rfl) ?_
  refine zi_iflt (tgt := 36) hx hb dX1_again_6 (by decide) (fun c_1 => ?_) (fun c_1 => ?_)
  · refine lv_iconst (v := (-1)) hx hb dX1_again_36 (by decide) ?_
    exact im_miret hx hb hr hlk hO hD hS rfl (by rfl) dX1_again_37
  · refine lv_iload_n hx hb dX1_again_9 rfl (lv_at hl 2 rfl) ?_
    refine lv_iconst (v := nI 1) hx hb dX1_again_10 (by decide) ?_
    refine zk_clt (tgt := 36) hx hb dX1_again_11 (by decide) (by omega) (by omega) (fun c_2 => ?_) (fun c_2 => ?_)
    · refine lv_iconst (v := (-1)) hx hb dX1_again_36 (by decide) ?_
      exact im_miret hx hb hr hlk hO hD hS rfl (by rfl) dX1_again_37
    · refine lv_iload_n hx hb dX1_again_14 rfl (lv_at hl 2 rfl) ?_
      refine lv_sipush (v := nI 400) hx hb dX1_again_15 (by decide) ?_
      refine lv_aload_n hx hb dX1_again_18 rfl (lv_at hl 0 rfl) ?_
      refine im_get 1 (v := .int (nI n)) hx hb ht hown hO (by decide) rfl zlX1_63 rfl dX1_again_19 ?_
      refine zk_sub hx hb (by omega) dX1_again_22 ?_
      refine zk_cgt (tgt := 36) hx hb dX1_again_23 (by decide) (by omega) (by omega) (fun c_3 => ?_) (fun c_3 => ?_)
      · refine lv_iconst (v := (-1)) hx hb dX1_again_36 (by decide) ?_
        exact im_miret hx hb hr hlk hO hD hS rfl (by rfl) dX1_again_37
      · refine lv_iload_n hx hb dX1_again_26 rfl (lv_at hl 1 rfl) ?_
        refine lv_aload_n hx hb dX1_again_27 rfl (lv_at hl 0 rfl) ?_
        refine im_get 1 (v := .int (nI n)) hx hb ht hown hO (by decide) rfl zlX1_63 rfl dX1_again_28 ?_
        refine lv_iload_n hx hb dX1_again_31 rfl (lv_at hl 2 rfl) ?_
        refine lv_isub hx hb dX1_again_32 ?_
        have t_4 := pk_sub_toInt (a := n) (b := y) (by omega) (by omega)
        refine zi_cle (tgt := 38) hx hb dX1_again_33 (by decide) (fun c_5 => ?_) (fun c_5 => ?_)
        · exact absurd (show False from by omega) id
        · refine lv_iconst (v := (-1)) hx hb dX1_again_36 (by decide) ?_
          exact im_miret hx hb hr hlk hO hD hS rfl (by rfl) dX1_again_37
set_option maxHeartbeats 4000000 in
set_option maxRecDepth 100000 in
/-- the reference: again -/
theorem zmc_again (l : Launch) (E : ia_E) (n : Nat) (g : Nat → Nat → Nat) (hg : zm_B g) (i y : Nat) (hV : zm_V g) (hn : n ≤ 400) (hy : 1 ≤ y ∧ i + y ≤ n ∧ y ≤ 400 - n) (sz : Nat) : im_M l yX1_again cX1_again 5 .int 1 E n g sz [.int (nI i), .int (nI y)] (nI (n + y)) (n + y) (zm_again g n i y) := by
  refine im_Mof (by decide) rfl (Nat.le_of_ble_eq_true rfl) (fun p e s m args below meth c ls A hx hb hr hml hown ht hlk hA hO hD hS hl => ?_)
  have hl : lv_has ls 5 [(0, .ref (ia_h E 0)), (1, .int (nI i)), (2, .int (nI y))] := hl
  refine lv_aload_n hx hb dX1_again_0 rfl (lv_at hl 0 rfl) ?_
  refine lv_iconst (v := nI 0) hx hb dX1_again_1 (by decide) ?_
  refine im_putt hx hb ht hown hO hD hS zlX1_59 dX1_again_2 (fun H locs hO hD hS => ?_)
  refine lv_iload_n hx hb dX1_again_5 rfl (lv_at hl 1 rfl) ?_
  refine zk_iflt (tgt := 36) hx hb dX1_again_6 (by decide) (by omega) ?_
  refine lv_iload_n hx hb dX1_again_9 rfl (lv_at hl 2 rfl) ?_
  refine lv_iconst (v := nI 1) hx hb dX1_again_10 (by decide) ?_
  refine zk_clt (tgt := 36) hx hb dX1_again_11 (by decide) (by omega) (by omega) (fun c_2 => ?_) (fun c_2 => ?_)
  · exact absurd (show False from by omega) id
  · refine lv_iload_n hx hb dX1_again_14 rfl (lv_at hl 2 rfl) ?_
    refine lv_sipush (v := nI 400) hx hb dX1_again_15 (by decide) ?_
    refine lv_aload_n hx hb dX1_again_18 rfl (lv_at hl 0 rfl) ?_
    refine im_get 1 (v := .int (nI n)) hx hb ht hown hO (by decide) rfl zlX1_63 rfl dX1_again_19 ?_
    refine zk_sub hx hb (by omega) dX1_again_22 ?_
    refine zk_cgt (tgt := 36) hx hb dX1_again_23 (by decide) (by omega) (by omega) (fun c_3 => ?_) (fun c_3 => ?_)
    · exact absurd (show False from by omega) id
    · refine lv_iload_n hx hb dX1_again_26 rfl (lv_at hl 1 rfl) ?_
      refine lv_aload_n hx hb dX1_again_27 rfl (lv_at hl 0 rfl) ?_
      refine im_get 1 (v := .int (nI n)) hx hb ht hown hO (by decide) rfl zlX1_63 rfl dX1_again_28 ?_
      refine lv_iload_n hx hb dX1_again_31 rfl (lv_at hl 2 rfl) ?_
      refine zk_sub hx hb (by omega) dX1_again_32 ?_
      refine zk_cle (tgt := 38) hx hb dX1_again_33 (by decide) (by omega) (by omega) (fun c_4 => ?_) (fun c_4 => ?_)
      · refine lv_iload_n hx hb dX1_again_38 rfl (lv_at hl 1 rfl) ?_
        refine lv_istore_n (lv' := [(3, .int (nI i)), (0, .ref (ia_h E 0)), (1, .int (nI i)), (2, .int (nI y))]) hx hb dX1_again_39 rfl hl (by decide) rfl (fun ls hl => ?_)
        refine zk_upH (nL := 5) (pcH := 40) y (fun k H locs => im_O E (n + k) (zm_again g n i k) s H ∧ va_D A (im_w E (n + k) (zm_again g n i k)) ∧ va_S A s.heap H locs) (fun k => [(3, .int (nI (i + k))), (0, .ref (ia_h E 0)), (1, .int (nI i)), (2, .int (nI y))]) ?_ ?_ y 0 (by omega) _ _ ⟨hO, hD, hS⟩ ls (lv_sub hl [0, 1, 2, 3] rfl)
        · intro H locs hI ls hl
          obtain ⟨hO, hD, hS⟩ := hI
          have hl : lv_has ls 5 [(3, .int (nI (i + y))), (0, .ref (ia_h E 0)), (1, .int (nI i)), (2, .int (nI y))] := hl
          refine lv_iload_n hx hb dX1_again_40 rfl (lv_at hl 0 rfl) ?_
          refine lv_iload_n hx hb dX1_again_41 rfl (lv_at hl 2 rfl) ?_
          refine lv_iload_n hx hb dX1_again_42 rfl (lv_at hl 3 rfl) ?_
          refine zk_add hx hb dX1_again_43 ?_
          refine zk_cge (tgt := 108) hx hb dX1_again_44 (by decide) (by omega) (by omega) (fun c_5 => ?_) (fun c_5 => ?_)
          · refine lv_aload_n hx hb dX1_again_108 rfl (lv_at hl 1 rfl) ?_
            refine im_get 1 (v := .int (nI (n + y))) hx hb ht hown hO (by decide) rfl zlX1_63 rfl dX1_again_109 ?_
            exact im_miret hx hb hr hlk hO hD hS rfl rfl dX1_again_112
          · exact absurd (show False from by omega) id
        · intro k hk ih H locs hI ls hl
          obtain ⟨hO, hD, hS⟩ := hI
          have hl : lv_has ls 5 [(3, .int (nI (i + k))), (0, .ref (ia_h E 0)), (1, .int (nI i)), (2, .int (nI y))] := hl
          have hVk := zm_V_again hV n i k
          have e1 : zm_again g n i (k + 1) = zm_cell (zm_again g n i k) (n + k) (i + k) := rfl
          rw [e1] at ih
          generalize zm_again g n i k = G at hO hD hVk ih
          have hvj := hVk.2.1 (i + k)
          refine lv_iload_n hx hb dX1_again_40 rfl (lv_at hl 0 rfl) ?_
          refine lv_iload_n hx hb dX1_again_41 rfl (lv_at hl 2 rfl) ?_
          refine lv_iload_n hx hb dX1_again_42 rfl (lv_at hl 3 rfl) ?_
          refine zk_add hx hb dX1_again_43 ?_
          refine zk_cge (tgt := 108) hx hb dX1_again_44 (by decide) (by omega) (by omega) (fun c_6 => ?_) (fun c_6 => ?_)
          · exact absurd (show False from by omega) id
          · refine lv_aload_n hx hb dX1_again_47 rfl (lv_at hl 1 rfl) ?_
            refine lv_aload_n hx hb dX1_again_48 rfl (lv_at hl 1 rfl) ?_
            refine im_get 2 (v := .ref (ia_h E 2)) hx hb ht hown hO (by decide) rfl zlX1_7 rfl dX1_again_49 ?_
            refine lv_iload_n hx hb dX1_again_52 rfl (lv_at hl 0 rfl) ?_
            refine im_ild 1 2 1 (i + k) hx hb hO rfl (by omega) dX1_again_53 ?_
            have b_7 := hVk.1.1 1 (i + k) (by decide)
            refine lv_aload_n hx hb dX1_again_54 rfl (lv_at hl 1 rfl) ?_
            refine im_get 3 (v := .ref (ia_h E 3)) hx hb ht hown hO (by decide) rfl zlX1_13 rfl dX1_again_55 ?_
            refine lv_iload_n hx hb dX1_again_58 rfl (lv_at hl 0 rfl) ?_
            refine im_ild 2 3 2 (i + k) hx hb hO rfl (by omega) dX1_again_59 ?_
            have b_8 := hVk.1.1 2 (i + k) (by decide)
            refine lv_aload_n hx hb dX1_again_60 rfl (lv_at hl 1 rfl) ?_
            refine im_get 4 (v := .ref (ia_h E 4)) hx hb ht hown hO (by decide) rfl zlX1_16 rfl dX1_again_61 ?_
            refine lv_iload_n hx hb dX1_again_64 rfl (lv_at hl 0 rfl) ?_
            refine im_ild 3 4 3 (i + k) hx hb hO rfl (by omega) dX1_again_65 ?_
            have b_9 := hVk.1.1 3 (i + k) (by decide)
            refine lv_aload_n hx hb dX1_again_66 rfl (lv_at hl 1 rfl) ?_
            refine im_get 5 (v := .ref (ia_h E 5)) hx hb ht hown hO (by decide) rfl zlX1_19 rfl dX1_again_67 ?_
            refine lv_iload_n hx hb dX1_again_70 rfl (lv_at hl 0 rfl) ?_
            refine im_ild 4 5 4 (i + k) hx hb hO rfl (by omega) dX1_again_71 ?_
            have b_10 := hVk.1.1 4 (i + k) (by decide)
            refine lv_aload_n hx hb dX1_again_72 rfl (lv_at hl 1 rfl) ?_
            refine im_get 6 (v := .ref (ia_h E 6)) hx hb ht hown hO (by decide) rfl zlX1_22 rfl dX1_again_73 ?_
            refine lv_iload_n hx hb dX1_again_76 rfl (lv_at hl 0 rfl) ?_
            refine im_ild 5 6 5 (i + k) hx hb hO rfl (by omega) dX1_again_77 ?_
            have b_11 := hVk.1.1 5 (i + k) (by decide)
            refine lv_aload_n hx hb dX1_again_78 rfl (lv_at hl 1 rfl) ?_
            refine im_get 7 (v := .ref (ia_h E 7)) hx hb ht hown hO (by decide) rfl zlX1_25 rfl dX1_again_79 ?_
            refine lv_iload_n hx hb dX1_again_82 rfl (lv_at hl 0 rfl) ?_
            refine im_zld 6 7 6 (i + k) hx hb hO rfl (by omega) dX1_again_83 ?_
            have b_12 := hVk.1.1 6 (i + k) (by decide)
            refine im_callM (rest := []) hx hb hml hl.1 hown ht hO hD hS hA (zmc_come l E (n + k) G hVk.1 (G 1 (i + k)) (G 2 (i + k)) (G 3 (i + k)) (G 4 (i + k)) (G 5 (i + k)) (G 6 (i + k)) (by omega) (by omega) (by omega) _) zgX1_70 zyX1_come rfl ⟨by decide, by decide⟩ ⟨Nat.zero_le _, Nat.zero_le _⟩ (Nat.le_of_ble_eq_true rfl) rfl dX1_again_84 (fun H locs hO hD hS => ?_)
            have hV1 : zm_V (zs_put G (n + k) (G 1 (i + k)) (G 2 (i + k)) (G 3 (i + k)) (G 4 (i + k)) (G 5 (i + k)) (G 6 (i + k))) := zm_V_put hVk (by omega) (by omega)
            obtain ⟨G1, eG1⟩ : ∃ z, z = zs_put G (n + k) (G 1 (i + k)) (G 2 (i + k)) (G 3 (i + k)) (G 4 (i + k)) (G 5 (i + k)) (G 6 (i + k)) := ⟨_, rfl⟩
            rw [← eG1] at hO hD hV1
            have h7 := hV1.2.2 (i + k)
            have e2 : zm_cell G (n + k) (i + k) = ia_up G1 7 (n + k) (G1 7 (i + k)) := by rw [eG1]; rfl
            rw [e2] at ih
            refine lv_istore (lv' := [(4, .int (nI (n + k))), (3, .int (nI (i + k))), (0, .ref (ia_h E 0)), (1, .int (nI i)), (2, .int (nI y))]) hx hb dX1_again_87 hl (by decide) rfl (fun ls hl => ?_)
            refine lv_aload_n hx hb dX1_again_89 rfl (lv_at hl 2 rfl) ?_
            refine im_get 8 (v := .ref (ia_h E 8)) hx hb ht hown hO (by decide) rfl zlX1_29 rfl dX1_again_90 ?_
            refine lv_iload hx hb dX1_again_93 (lv_at hl 0 rfl) ?_
            refine lv_aload_n hx hb dX1_again_95 rfl (lv_at hl 2 rfl) ?_
            refine im_get 8 (v := .ref (ia_h E 8)) hx hb ht hown hO (by decide) rfl zlX1_29 rfl dX1_again_96 ?_
            refine lv_iload_n hx hb dX1_again_99 rfl (lv_at hl 1 rfl) ?_
            refine im_zld 7 8 7 (i + k) hx hb hO rfl (by omega) dX1_again_100 ?_
            have b_13 := hV1.1.1 7 (i + k) (by decide)
            refine im_zst 7 8 7 (n + k) (G1 7 (i + k)) hx hb hO hD hS rfl (im_set8 E ((n + k) + 1) G1 (n + k) (G1 7 (i + k))) (by omega) (by omega) dX1_again_101 (fun H locs hO hD hS => ?_)
            have hg_14 : zm_B (ia_up G1 7 (n + k) (G1 7 (i + k))) := zm_B_up hV1.1 (by decide) (by omega)
            obtain ⟨g_14, eg_14⟩ : ∃ z, z = ia_up G1 7 (n + k) (G1 7 (i + k)) := ⟨_, rfl⟩
            rw [← eg_14] at hO hD hg_14
            have fg_14 : g_14 7 (n + k) = G1 7 (i + k) := by rw [eg_14]; exact zs_up_at _ _ _ _
            refine lv_iinc (v := nI (i + (k + 1))) (lv' := [(3, .int (nI (i + (k + 1)))), (4, .int (nI (n + k))), (0, .ref (ia_h E 0)), (1, .int (nI i)), (2, .int (nI y))]) hx hb dX1_again_102 hl (k := 1) rfl (zk_inc (i + k)) (by decide) rfl (fun ls hl => ?_)
            refine lv_goto (tgt := 40) hx hb dX1_again_105 (by decide) ?_
            rw [← eg_14] at ih
            exact ih H locs ⟨hO, hD, hS⟩ ls (lv_sub hl [0, 2, 3, 4] rfl)
      · exact absurd (show False from by omega) id
