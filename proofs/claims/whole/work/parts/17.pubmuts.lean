set_option maxHeartbeats 4000000 in
set_option maxRecDepth 100000 in
/-- put -/
theorem zc_put_no (l : Launch) (E : ia_E) (n : Nat) (g : Nat → Nat → Nat) (hg : zs_B g) (k d a b : Int32) (h0 : k.toInt < 0 ∨ 7 < k.toInt ∨ k.toInt = 5 ∨ ¬ (0 ≤ d.toInt ∧ d.toInt ≤ 31) ∨ ¬ (0 ≤ a.toInt ∧ a.toInt ≤ 31) ∨ ¬ (0 ≤ b.toInt ∧ b.toInt ≤ 31) ∨ (k.toInt = 7 ∧ ¬ (d.toInt = 0 ∧ a.toInt = 0 ∧ b.toInt = 0))) (sz : Nat) : ia_M l yX0_put cX0_put 5 .int 6 E n g sz [.int k, .int d, .int a, .int b] ((-1)) (n) (g) := by
  refine ia_Mof (by decide) rfl (Nat.le_of_ble_eq_true rfl) (fun p e s m args below meth c ls A hx hb hr hml hown ht hlk hA hO hD hS hl => ?_)
  have hl : lv_has ls 5 [(0, .ref (ia_h E 0)), (1, .int k), (2, .int d), (3, .int a), (4, .int b)] := hl
  refine lv_iload_n hx hb dX0_put_0 rfl (lv_at hl 1 rfl) ?_
  refine zi_iflt (tgt := 15) hx hb dX0_put_1 (by decide) (fun c_1 => ?_) (fun c_1 => ?_)
  · refine lv_iconst (v := (-1)) hx hb dX0_put_15 (by decide) ?_
    exact ia_miret hx hb hr hlk hO hD hS rfl (by rfl) dX0_put_16
  · refine lv_iload_n hx hb dX0_put_4 rfl (lv_at hl 1 rfl) ?_
    refine lv_bipush (v := nI 7) hx hb dX0_put_5 (by decide) ?_
    have t_3 := nI_toInt (n := 7) (by omega)
    refine zi_cgt (tgt := 15) hx hb dX0_put_7 (by decide) (fun c_2 => ?_) (fun c_2 => ?_)
    · refine lv_iconst (v := (-1)) hx hb dX0_put_15 (by decide) ?_
      exact ia_miret hx hb hr hlk hO hD hS rfl (by rfl) dX0_put_16
    · refine lv_iload_n hx hb dX0_put_10 rfl (lv_at hl 1 rfl) ?_
      refine lv_iconst (v := nI 5) hx hb dX0_put_11 (by decide) ?_
      have t_5 := nI_toInt (n := 5) (by omega)
      refine zi_cne (tgt := 17) hx hb dX0_put_12 (by decide) (fun c_4 => ?_) (fun c_4 => ?_)
      · refine lv_iload_n hx hb dX0_put_17 rfl (lv_at hl 2 rfl) ?_
        refine ia_callS (rest := []) hx hb hml hl.1 hown ht (zc_reg l d) zgX0_54 zyX0_isRegister rfl ⟨by decide, by decide⟩ ⟨Nat.zero_le _, Nat.zero_le _⟩ (Nat.le_of_ble_eq_true rfl) rfl dX0_put_18 ?_
        have b_6 := zb_reg d.toInt
        refine zk_ifeq (tgt := 39) hx hb dX0_put_21 (by decide) (by omega) (fun c_7 => ?_) (fun c_7 => ?_)
        · refine lv_iconst (v := (-1)) hx hb dX0_put_39 (by decide) ?_
          exact ia_miret hx hb hr hlk hO hD hS rfl (by rfl) dX0_put_40
        · refine lv_iload_n hx hb dX0_put_24 rfl (lv_at hl 3 rfl) ?_
          refine ia_callS (rest := []) hx hb hml hl.1 hown ht (zc_reg l a) zgX0_54 zyX0_isRegister rfl ⟨by decide, by decide⟩ ⟨Nat.zero_le _, Nat.zero_le _⟩ (Nat.le_of_ble_eq_true rfl) rfl dX0_put_25 ?_
          have b_8 := zb_reg a.toInt
          refine zk_ifeq (tgt := 39) hx hb dX0_put_28 (by decide) (by omega) (fun c_9 => ?_) (fun c_9 => ?_)
          · refine lv_iconst (v := (-1)) hx hb dX0_put_39 (by decide) ?_
            exact ia_miret hx hb hr hlk hO hD hS rfl (by rfl) dX0_put_40
          · refine lv_iload hx hb dX0_put_31 (lv_at hl 4 rfl) ?_
            refine ia_callS (rest := []) hx hb hml hl.1 hown ht (zc_reg l b) zgX0_54 zyX0_isRegister rfl ⟨by decide, by decide⟩ ⟨Nat.zero_le _, Nat.zero_le _⟩ (Nat.le_of_ble_eq_true rfl) rfl dX0_put_33 ?_
            have b_10 := zb_reg b.toInt
            refine zk_ifne (tgt := 41) hx hb dX0_put_36 (by decide) (by omega) (fun c_11 => ?_) (fun c_11 => ?_)
            · refine lv_iload_n hx hb dX0_put_41 rfl (lv_at hl 1 rfl) ?_
              refine lv_bipush (v := nI 7) hx hb dX0_put_42 (by decide) ?_
              have t_13 := nI_toInt (n := 7) (by omega)
              refine zi_cne (tgt := 62) hx hb dX0_put_44 (by decide) (fun c_12 => ?_) (fun c_12 => ?_)
              · exact absurd (show False from by omega) id
              · refine lv_iload_n hx hb dX0_put_47 rfl (lv_at hl 2 rfl) ?_
                refine zi_ifne (tgt := 60) hx hb dX0_put_48 (by decide) (fun c_14 => ?_) (fun c_14 => ?_)
                · refine lv_iconst (v := (-1)) hx hb dX0_put_60 (by decide) ?_
                  exact ia_miret hx hb hr hlk hO hD hS rfl (by rfl) dX0_put_61
                · refine lv_iload_n hx hb dX0_put_51 rfl (lv_at hl 3 rfl) ?_
                  refine zi_ifne (tgt := 60) hx hb dX0_put_52 (by decide) (fun c_15 => ?_) (fun c_15 => ?_)
                  · refine lv_iconst (v := (-1)) hx hb dX0_put_60 (by decide) ?_
                    exact ia_miret hx hb hr hlk hO hD hS rfl (by rfl) dX0_put_61
                  · refine lv_iload hx hb dX0_put_55 (lv_at hl 4 rfl) ?_
                    refine zi_ifeq (tgt := 62) hx hb dX0_put_57 (by decide) (fun c_16 => ?_) (fun c_16 => ?_)
                    · exact absurd (show False from by omega) id
                    · refine lv_iconst (v := (-1)) hx hb dX0_put_60 (by decide) ?_
                      exact ia_miret hx hb hr hlk hO hD hS rfl (by rfl) dX0_put_61
            · refine lv_iconst (v := (-1)) hx hb dX0_put_39 (by decide) ?_
              exact ia_miret hx hb hr hlk hO hD hS rfl (by rfl) dX0_put_40
      · refine lv_iconst (v := (-1)) hx hb dX0_put_15 (by decide) ?_
        exact ia_miret hx hb hr hlk hO hD hS rfl (by rfl) dX0_put_16
set_option maxHeartbeats 4000000 in
set_option maxRecDepth 100000 in
/-- put -/
theorem zc_put (l : Launch) (E : ia_E) (n : Nat) (g : Nat → Nat → Nat) (hg : zs_B g) (k d a b : Nat) (hn : n < 400) (hk : k ≤ 7 ∧ d ≤ 31 ∧ a ≤ 31 ∧ b ≤ 31) (h5 : k ≠ 5) (h7 : k = 7 → d = 0 ∧ a = 0 ∧ b = 0) (sz : Nat) : ia_M l yX0_put cX0_put 5 .int 6 E n g sz [.int (nI k), .int (nI d), .int (nI a), .int (nI b)] (nI n) (n + 1) (zs_append g n k d a b 0 0) := by
  refine ia_Mof (by decide) rfl (Nat.le_of_ble_eq_true rfl) (fun p e s m args below meth c ls A hx hb hr hml hown ht hlk hA hO hD hS hl => ?_)
  have hl : lv_has ls 5 [(0, .ref (ia_h E 0)), (1, .int (nI k)), (2, .int (nI d)), (3, .int (nI a)), (4, .int (nI b))] := hl
  refine lv_iload_n hx hb dX0_put_0 rfl (lv_at hl 1 rfl) ?_
  refine zk_iflt (tgt := 15) hx hb dX0_put_1 (by decide) (by omega) ?_
  refine lv_iload_n hx hb dX0_put_4 rfl (lv_at hl 1 rfl) ?_
  refine lv_bipush (v := nI 7) hx hb dX0_put_5 (by decide) ?_
  refine zk_cgt (tgt := 15) hx hb dX0_put_7 (by decide) (by omega) (by omega) (fun c_2 => ?_) (fun c_2 => ?_)
  · exact absurd (show False from by omega) id
  · refine lv_iload_n hx hb dX0_put_10 rfl (lv_at hl 1 rfl) ?_
    refine lv_iconst (v := nI 5) hx hb dX0_put_11 (by decide) ?_
    refine zk_cne (tgt := 17) hx hb dX0_put_12 (by decide) (by omega) (by omega) (fun c_3 => ?_) (fun c_3 => ?_)
    · refine lv_iload_n hx hb dX0_put_17 rfl (lv_at hl 2 rfl) ?_
      refine ia_callS (rest := []) hx hb hml hl.1 hown ht (zc_reg l (nI d)) zgX0_54 zyX0_isRegister rfl ⟨by decide, by decide⟩ ⟨Nat.zero_le _, Nat.zero_le _⟩ (Nat.le_of_ble_eq_true rfl) rfl dX0_put_18 ?_
      have t_4 := nI_toInt (n := d) (by omega)
      have b_5 := zb_reg (nI d).toInt
      refine zk_ifeq (tgt := 39) hx hb dX0_put_21 (by decide) (by omega) (fun c_6 => ?_) (fun c_6 => ?_)
      · exact absurd (show False from by omega) id
      · refine lv_iload_n hx hb dX0_put_24 rfl (lv_at hl 3 rfl) ?_
        refine ia_callS (rest := []) hx hb hml hl.1 hown ht (zc_reg l (nI a)) zgX0_54 zyX0_isRegister rfl ⟨by decide, by decide⟩ ⟨Nat.zero_le _, Nat.zero_le _⟩ (Nat.le_of_ble_eq_true rfl) rfl dX0_put_25 ?_
        have t_7 := nI_toInt (n := a) (by omega)
        have b_8 := zb_reg (nI a).toInt
        refine zk_ifeq (tgt := 39) hx hb dX0_put_28 (by decide) (by omega) (fun c_9 => ?_) (fun c_9 => ?_)
        · exact absurd (show False from by omega) id
        · refine lv_iload hx hb dX0_put_31 (lv_at hl 4 rfl) ?_
          refine ia_callS (rest := []) hx hb hml hl.1 hown ht (zc_reg l (nI b)) zgX0_54 zyX0_isRegister rfl ⟨by decide, by decide⟩ ⟨Nat.zero_le _, Nat.zero_le _⟩ (Nat.le_of_ble_eq_true rfl) rfl dX0_put_33 ?_
          have t_10 := nI_toInt (n := b) (by omega)
          have b_11 := zb_reg (nI b).toInt
          refine zk_ifne (tgt := 41) hx hb dX0_put_36 (by decide) (by omega) (fun c_12 => ?_) (fun c_12 => ?_)
          · refine lv_iload_n hx hb dX0_put_41 rfl (lv_at hl 1 rfl) ?_
            refine lv_bipush (v := nI 7) hx hb dX0_put_42 (by decide) ?_
            refine zk_cne (tgt := 62) hx hb dX0_put_44 (by decide) (by omega) (by omega) (fun c_13 => ?_) (fun c_13 => ?_)
            · refine lv_aload_n hx hb dX0_put_62 rfl (lv_at hl 0 rfl) ?_
              refine lv_iload_n hx hb dX0_put_63 rfl (lv_at hl 1 rfl) ?_
              refine lv_iload_n hx hb dX0_put_64 rfl (lv_at hl 2 rfl) ?_
              refine lv_iload_n hx hb dX0_put_65 rfl (lv_at hl 3 rfl) ?_
              refine lv_iload hx hb dX0_put_66 (lv_at hl 4 rfl) ?_
              refine lv_iconst (v := nI 0) hx hb dX0_put_68 (by decide) ?_
              refine lv_iconst (v := nI 0) hx hb dX0_put_69 (by decide) ?_
              refine ia_callM (rest := []) hx hb hml hl.1 hown ht hO hD hS hA (zc_append l E n g hg k d a b 0 0 (by omega) (by omega) (by omega) _) zgX0_58 zyX0_append rfl ⟨by decide, by decide⟩ ⟨Nat.zero_le _, Nat.zero_le _⟩ (Nat.le_of_ble_eq_true rfl) rfl dX0_put_70 (fun H locs hO hD hS => ?_)
              exact ia_miret hx hb hr hlk hO hD hS rfl (by rfl) dX0_put_73
            · refine lv_iload_n hx hb dX0_put_47 rfl (lv_at hl 2 rfl) ?_
              refine zk_ifne (tgt := 60) hx hb dX0_put_48 (by decide) (by omega) (fun c_14 => ?_) (fun c_14 => ?_)
              · exact absurd (show False from by omega) id
              · refine lv_iload_n hx hb dX0_put_51 rfl (lv_at hl 3 rfl) ?_
                refine zk_ifne (tgt := 60) hx hb dX0_put_52 (by decide) (by omega) (fun c_15 => ?_) (fun c_15 => ?_)
                · exact absurd (show False from by omega) id
                · refine lv_iload hx hb dX0_put_55 (lv_at hl 4 rfl) ?_
                  refine zk_ifeq (tgt := 62) hx hb dX0_put_57 (by decide) (by omega) (fun c_16 => ?_) (fun c_16 => ?_)
                  · refine lv_aload_n hx hb dX0_put_62 rfl (lv_at hl 0 rfl) ?_
                    refine lv_iload_n hx hb dX0_put_63 rfl (lv_at hl 1 rfl) ?_
                    refine lv_iload_n hx hb dX0_put_64 rfl (lv_at hl 2 rfl) ?_
                    refine lv_iload_n hx hb dX0_put_65 rfl (lv_at hl 3 rfl) ?_
                    refine lv_iload hx hb dX0_put_66 (lv_at hl 4 rfl) ?_
                    refine lv_iconst (v := nI 0) hx hb dX0_put_68 (by decide) ?_
                    refine lv_iconst (v := nI 0) hx hb dX0_put_69 (by decide) ?_
                    refine ia_callM (rest := []) hx hb hml hl.1 hown ht hO hD hS hA (zc_append l E n g hg k d a b 0 0 (by omega) (by omega) (by omega) _) zgX0_58 zyX0_append rfl ⟨by decide, by decide⟩ ⟨Nat.zero_le _, Nat.zero_le _⟩ (Nat.le_of_ble_eq_true rfl) rfl dX0_put_70 (fun H locs hO hD hS => ?_)
                    exact ia_miret hx hb hr hlk hO hD hS rfl (by rfl) dX0_put_73
                  · exact absurd (show False from by omega) id
          · exact absurd (show False from by omega) id
    · exact absurd (show False from by omega) id
set_option maxHeartbeats 4000000 in
set_option maxRecDepth 100000 in
/-- put -/
theorem zc_put_full (l : Launch) (E : ia_E) (n : Nat) (g : Nat → Nat → Nat) (hg : zs_B g) (k d a b : Nat) (hn : n = 400) (hk : k ≤ 7 ∧ d ≤ 31 ∧ a ≤ 31 ∧ b ≤ 31) (h5 : k ≠ 5) (h7 : k = 7 → d = 0 ∧ a = 0 ∧ b = 0) (sz : Nat) : ia_M l yX0_put cX0_put 5 .int 6 E n g sz [.int (nI k), .int (nI d), .int (nI a), .int (nI b)] ((-1)) (n) (g) := by
  refine ia_Mof (by decide) rfl (Nat.le_of_ble_eq_true rfl) (fun p e s m args below meth c ls A hx hb hr hml hown ht hlk hA hO hD hS hl => ?_)
  have hl : lv_has ls 5 [(0, .ref (ia_h E 0)), (1, .int (nI k)), (2, .int (nI d)), (3, .int (nI a)), (4, .int (nI b))] := hl
  refine lv_iload_n hx hb dX0_put_0 rfl (lv_at hl 1 rfl) ?_
  refine zk_iflt (tgt := 15) hx hb dX0_put_1 (by decide) (by omega) ?_
  refine lv_iload_n hx hb dX0_put_4 rfl (lv_at hl 1 rfl) ?_
  refine lv_bipush (v := nI 7) hx hb dX0_put_5 (by decide) ?_
  refine zk_cgt (tgt := 15) hx hb dX0_put_7 (by decide) (by omega) (by omega) (fun c_2 => ?_) (fun c_2 => ?_)
  · exact absurd (show False from by omega) id
  · refine lv_iload_n hx hb dX0_put_10 rfl (lv_at hl 1 rfl) ?_
    refine lv_iconst (v := nI 5) hx hb dX0_put_11 (by decide) ?_
    refine zk_cne (tgt := 17) hx hb dX0_put_12 (by decide) (by omega) (by omega) (fun c_3 => ?_) (fun c_3 => ?_)
    · refine lv_iload_n hx hb dX0_put_17 rfl (lv_at hl 2 rfl) ?_
      refine ia_callS (rest := []) hx hb hml hl.1 hown ht (zc_reg l (nI d)) zgX0_54 zyX0_isRegister rfl ⟨by decide, by decide⟩ ⟨Nat.zero_le _, Nat.zero_le _⟩ (Nat.le_of_ble_eq_true rfl) rfl dX0_put_18 ?_
      have t_4 := nI_toInt (n := d) (by omega)
      have b_5 := zb_reg (nI d).toInt
      refine zk_ifeq (tgt := 39) hx hb dX0_put_21 (by decide) (by omega) (fun c_6 => ?_) (fun c_6 => ?_)
      · exact absurd (show False from by omega) id
      · refine lv_iload_n hx hb dX0_put_24 rfl (lv_at hl 3 rfl) ?_
        refine ia_callS (rest := []) hx hb hml hl.1 hown ht (zc_reg l (nI a)) zgX0_54 zyX0_isRegister rfl ⟨by decide, by decide⟩ ⟨Nat.zero_le _, Nat.zero_le _⟩ (Nat.le_of_ble_eq_true rfl) rfl dX0_put_25 ?_
        have t_7 := nI_toInt (n := a) (by omega)
        have b_8 := zb_reg (nI a).toInt
        refine zk_ifeq (tgt := 39) hx hb dX0_put_28 (by decide) (by omega) (fun c_9 => ?_) (fun c_9 => ?_)
        · exact absurd (show False from by omega) id
        · refine lv_iload hx hb dX0_put_31 (lv_at hl 4 rfl) ?_
          refine ia_callS (rest := []) hx hb hml hl.1 hown ht (zc_reg l (nI b)) zgX0_54 zyX0_isRegister rfl ⟨by decide, by decide⟩ ⟨Nat.zero_le _, Nat.zero_le _⟩ (Nat.le_of_ble_eq_true rfl) rfl dX0_put_33 ?_
          have t_10 := nI_toInt (n := b) (by omega)
          have b_11 := zb_reg (nI b).toInt
          refine zk_ifne (tgt := 41) hx hb dX0_put_36 (by decide) (by omega) (fun c_12 => ?_) (fun c_12 => ?_)
          · refine lv_iload_n hx hb dX0_put_41 rfl (lv_at hl 1 rfl) ?_
            refine lv_bipush (v := nI 7) hx hb dX0_put_42 (by decide) ?_
            refine zk_cne (tgt := 62) hx hb dX0_put_44 (by decide) (by omega) (by omega) (fun c_13 => ?_) (fun c_13 => ?_)
            · refine lv_aload_n hx hb dX0_put_62 rfl (lv_at hl 0 rfl) ?_
              refine lv_iload_n hx hb dX0_put_63 rfl (lv_at hl 1 rfl) ?_
              refine lv_iload_n hx hb dX0_put_64 rfl (lv_at hl 2 rfl) ?_
              refine lv_iload_n hx hb dX0_put_65 rfl (lv_at hl 3 rfl) ?_
              refine lv_iload hx hb dX0_put_66 (lv_at hl 4 rfl) ?_
              refine lv_iconst (v := nI 0) hx hb dX0_put_68 (by decide) ?_
              refine lv_iconst (v := nI 0) hx hb dX0_put_69 (by decide) ?_
              refine ia_callM (rest := []) hx hb hml hl.1 hown ht hO hD hS hA (zc_append_full l E n g hg k d a b 0 0 (by omega) _) zgX0_58 zyX0_append rfl ⟨by decide, by decide⟩ ⟨Nat.zero_le _, Nat.zero_le _⟩ (Nat.le_of_ble_eq_true rfl) rfl dX0_put_70 (fun H locs hO hD hS => ?_)
              exact ia_miret hx hb hr hlk hO hD hS rfl (by rfl) dX0_put_73
            · refine lv_iload_n hx hb dX0_put_47 rfl (lv_at hl 2 rfl) ?_
              refine zk_ifne (tgt := 60) hx hb dX0_put_48 (by decide) (by omega) (fun c_14 => ?_) (fun c_14 => ?_)
              · exact absurd (show False from by omega) id
              · refine lv_iload_n hx hb dX0_put_51 rfl (lv_at hl 3 rfl) ?_
                refine zk_ifne (tgt := 60) hx hb dX0_put_52 (by decide) (by omega) (fun c_15 => ?_) (fun c_15 => ?_)
                · exact absurd (show False from by omega) id
                · refine lv_iload hx hb dX0_put_55 (lv_at hl 4 rfl) ?_
                  refine zk_ifeq (tgt := 62) hx hb dX0_put_57 (by decide) (by omega) (fun c_16 => ?_) (fun c_16 => ?_)
                  · refine lv_aload_n hx hb dX0_put_62 rfl (lv_at hl 0 rfl) ?_
                    refine lv_iload_n hx hb dX0_put_63 rfl (lv_at hl 1 rfl) ?_
                    refine lv_iload_n hx hb dX0_put_64 rfl (lv_at hl 2 rfl) ?_
                    refine lv_iload_n hx hb dX0_put_65 rfl (lv_at hl 3 rfl) ?_
                    refine lv_iload hx hb dX0_put_66 (lv_at hl 4 rfl) ?_
                    refine lv_iconst (v := nI 0) hx hb dX0_put_68 (by decide) ?_
                    refine lv_iconst (v := nI 0) hx hb dX0_put_69 (by decide) ?_
                    refine ia_callM (rest := []) hx hb hml hl.1 hown ht hO hD hS hA (zc_append_full l E n g hg k d a b 0 0 (by omega) _) zgX0_58 zyX0_append rfl ⟨by decide, by decide⟩ ⟨Nat.zero_le _, Nat.zero_le _⟩ (Nat.le_of_ble_eq_true rfl) rfl dX0_put_70 (fun H locs hO hD hS => ?_)
                    exact ia_miret hx hb hr hlk hO hD hS rfl (by rfl) dX0_put_73
                  · exact absurd (show False from by omega) id
          · exact absurd (show False from by omega) id
    · exact absurd (show False from by omega) id
set_option maxHeartbeats 4000000 in
set_option maxRecDepth 100000 in
/-- branch -/
theorem zc_branch_no (l : Launch) (E : ia_E) (n : Nat) (g : Nat → Nat → Nat) (hg : zs_B g) (f : Int32) (go : Nat) (d a : Int32) (h0 : f.toInt < 0 ∨ 2 < f.toInt ∨ ¬ (0 ≤ d.toInt ∧ d.toInt ≤ 31) ∨ ¬ (0 ≤ a.toInt ∧ a.toInt ≤ 31)) (sz : Nat) : ia_M l yX0_branch cX0_branch 5 .int 6 E n g sz [.int f, .int (nI go), .int d, .int a] ((-1)) (n) (g) := by
  refine ia_Mof (by decide) rfl (Nat.le_of_ble_eq_true rfl) (fun p e s m args below meth c ls A hx hb hr hml hown ht hlk hA hO hD hS hl => ?_)
  have hl : lv_has ls 5 [(0, .ref (ia_h E 0)), (1, .int f), (2, .int (nI go)), (3, .int d), (4, .int a)] := hl
  refine lv_iload_n hx hb dX0_branch_0 rfl (lv_at hl 1 rfl) ?_
  refine zi_iflt (tgt := 9) hx hb dX0_branch_1 (by decide) (fun c_1 => ?_) (fun c_1 => ?_)
  · refine lv_iconst (v := (-1)) hx hb dX0_branch_9 (by decide) ?_
    exact ia_miret hx hb hr hlk hO hD hS rfl (by rfl) dX0_branch_10
  · refine lv_iload_n hx hb dX0_branch_4 rfl (lv_at hl 1 rfl) ?_
    refine lv_iconst (v := nI 2) hx hb dX0_branch_5 (by decide) ?_
    have t_3 := nI_toInt (n := 2) (by omega)
    refine zi_cle (tgt := 11) hx hb dX0_branch_6 (by decide) (fun c_2 => ?_) (fun c_2 => ?_)
    · refine lv_iload_n hx hb dX0_branch_11 rfl (lv_at hl 3 rfl) ?_
      refine ia_callS (rest := []) hx hb hml hl.1 hown ht (zc_reg l d) zgX0_54 zyX0_isRegister rfl ⟨by decide, by decide⟩ ⟨Nat.zero_le _, Nat.zero_le _⟩ (Nat.le_of_ble_eq_true rfl) rfl dX0_branch_12 ?_
      have b_4 := zb_reg d.toInt
      refine zk_ifeq (tgt := 26) hx hb dX0_branch_15 (by decide) (by omega) (fun c_5 => ?_) (fun c_5 => ?_)
      · refine lv_iconst (v := (-1)) hx hb dX0_branch_26 (by decide) ?_
        exact ia_miret hx hb hr hlk hO hD hS rfl (by rfl) dX0_branch_27
      · refine lv_iload hx hb dX0_branch_18 (lv_at hl 4 rfl) ?_
        refine ia_callS (rest := []) hx hb hml hl.1 hown ht (zc_reg l a) zgX0_54 zyX0_isRegister rfl ⟨by decide, by decide⟩ ⟨Nat.zero_le _, Nat.zero_le _⟩ (Nat.le_of_ble_eq_true rfl) rfl dX0_branch_20 ?_
        have b_6 := zb_reg a.toInt
        refine zk_ifne (tgt := 28) hx hb dX0_branch_23 (by decide) (by omega) (fun c_7 => ?_) (fun c_7 => ?_)
        · exact absurd (show False from by omega) id
        · refine lv_iconst (v := (-1)) hx hb dX0_branch_26 (by decide) ?_
          exact ia_miret hx hb hr hlk hO hD hS rfl (by rfl) dX0_branch_27
    · refine lv_iconst (v := (-1)) hx hb dX0_branch_9 (by decide) ?_
      exact ia_miret hx hb hr hlk hO hD hS rfl (by rfl) dX0_branch_10
set_option maxHeartbeats 4000000 in
set_option maxRecDepth 100000 in
/-- branch -/
theorem zc_branch (l : Launch) (E : ia_E) (n : Nat) (g : Nat → Nat → Nat) (hg : zs_B g) (f go d a : Nat) (hn : n < 400) (hf : f ≤ 2 ∧ go ≤ 1) (hk : d ≤ 31 ∧ a ≤ 31) (sz : Nat) : ia_M l yX0_branch cX0_branch 5 .int 6 E n g sz [.int (nI f), .int (nI go), .int (nI d), .int (nI a)] (nI n) (n + 1) (zs_append g n 5 d a 0 f go) := by
  refine ia_Mof (by decide) rfl (Nat.le_of_ble_eq_true rfl) (fun p e s m args below meth c ls A hx hb hr hml hown ht hlk hA hO hD hS hl => ?_)
  have hl : lv_has ls 5 [(0, .ref (ia_h E 0)), (1, .int (nI f)), (2, .int (nI go)), (3, .int (nI d)), (4, .int (nI a))] := hl
  refine lv_iload_n hx hb dX0_branch_0 rfl (lv_at hl 1 rfl) ?_
  refine zk_iflt (tgt := 9) hx hb dX0_branch_1 (by decide) (by omega) ?_
  refine lv_iload_n hx hb dX0_branch_4 rfl (lv_at hl 1 rfl) ?_
  refine lv_iconst (v := nI 2) hx hb dX0_branch_5 (by decide) ?_
  refine zk_cle (tgt := 11) hx hb dX0_branch_6 (by decide) (by omega) (by omega) (fun c_2 => ?_) (fun c_2 => ?_)
  · refine lv_iload_n hx hb dX0_branch_11 rfl (lv_at hl 3 rfl) ?_
    refine ia_callS (rest := []) hx hb hml hl.1 hown ht (zc_reg l (nI d)) zgX0_54 zyX0_isRegister rfl ⟨by decide, by decide⟩ ⟨Nat.zero_le _, Nat.zero_le _⟩ (Nat.le_of_ble_eq_true rfl) rfl dX0_branch_12 ?_
    have t_3 := nI_toInt (n := d) (by omega)
    have b_4 := zb_reg (nI d).toInt
    refine zk_ifeq (tgt := 26) hx hb dX0_branch_15 (by decide) (by omega) (fun c_5 => ?_) (fun c_5 => ?_)
    · exact absurd (show False from by omega) id
    · refine lv_iload hx hb dX0_branch_18 (lv_at hl 4 rfl) ?_
      refine ia_callS (rest := []) hx hb hml hl.1 hown ht (zc_reg l (nI a)) zgX0_54 zyX0_isRegister rfl ⟨by decide, by decide⟩ ⟨Nat.zero_le _, Nat.zero_le _⟩ (Nat.le_of_ble_eq_true rfl) rfl dX0_branch_20 ?_
      have t_6 := nI_toInt (n := a) (by omega)
      have b_7 := zb_reg (nI a).toInt
      refine zk_ifne (tgt := 28) hx hb dX0_branch_23 (by decide) (by omega) (fun c_8 => ?_) (fun c_8 => ?_)
      · refine lv_aload_n hx hb dX0_branch_28 rfl (lv_at hl 0 rfl) ?_
        refine lv_iconst (v := nI 5) hx hb dX0_branch_29 (by decide) ?_
        refine lv_iload_n hx hb dX0_branch_30 rfl (lv_at hl 3 rfl) ?_
        refine lv_iload hx hb dX0_branch_31 (lv_at hl 4 rfl) ?_
        refine lv_iconst (v := nI 0) hx hb dX0_branch_33 (by decide) ?_
        refine lv_iload_n hx hb dX0_branch_34 rfl (lv_at hl 1 rfl) ?_
        refine lv_iload_n hx hb dX0_branch_35 rfl (lv_at hl 2 rfl) ?_
        refine ia_callM (rest := []) hx hb hml hl.1 hown ht hO hD hS hA (zc_append l E n g hg 5 d a 0 f go (by omega) (by omega) (by omega) _) zgX0_58 zyX0_append rfl ⟨by decide, by decide⟩ ⟨Nat.zero_le _, Nat.zero_le _⟩ (Nat.le_of_ble_eq_true rfl) rfl dX0_branch_36 (fun H locs hO hD hS => ?_)
        exact ia_miret hx hb hr hlk hO hD hS rfl (by rfl) dX0_branch_39
      · exact absurd (show False from by omega) id
  · exact absurd (show False from by omega) id
set_option maxHeartbeats 4000000 in
set_option maxRecDepth 100000 in
/-- branch -/
theorem zc_branch_full (l : Launch) (E : ia_E) (n : Nat) (g : Nat → Nat → Nat) (hg : zs_B g) (f go d a : Nat) (hn : n = 400) (hf : f ≤ 2 ∧ go ≤ 1) (hk : d ≤ 31 ∧ a ≤ 31) (sz : Nat) : ia_M l yX0_branch cX0_branch 5 .int 6 E n g sz [.int (nI f), .int (nI go), .int (nI d), .int (nI a)] ((-1)) (n) (g) := by
  refine ia_Mof (by decide) rfl (Nat.le_of_ble_eq_true rfl) (fun p e s m args below meth c ls A hx hb hr hml hown ht hlk hA hO hD hS hl => ?_)
  have hl : lv_has ls 5 [(0, .ref (ia_h E 0)), (1, .int (nI f)), (2, .int (nI go)), (3, .int (nI d)), (4, .int (nI a))] := hl
  refine lv_iload_n hx hb dX0_branch_0 rfl (lv_at hl 1 rfl) ?_
  refine zk_iflt (tgt := 9) hx hb dX0_branch_1 (by decide) (by omega) ?_
  refine lv_iload_n hx hb dX0_branch_4 rfl (lv_at hl 1 rfl) ?_
  refine lv_iconst (v := nI 2) hx hb dX0_branch_5 (by decide) ?_
  refine zk_cle (tgt := 11) hx hb dX0_branch_6 (by decide) (by omega) (by omega) (fun c_2 => ?_) (fun c_2 => ?_)
  · refine lv_iload_n hx hb dX0_branch_11 rfl (lv_at hl 3 rfl) ?_
    refine ia_callS (rest := []) hx hb hml hl.1 hown ht (zc_reg l (nI d)) zgX0_54 zyX0_isRegister rfl ⟨by decide, by decide⟩ ⟨Nat.zero_le _, Nat.zero_le _⟩ (Nat.le_of_ble_eq_true rfl) rfl dX0_branch_12 ?_
    have t_3 := nI_toInt (n := d) (by omega)
    have b_4 := zb_reg (nI d).toInt
    refine zk_ifeq (tgt := 26) hx hb dX0_branch_15 (by decide) (by omega) (fun c_5 => ?_) (fun c_5 => ?_)
    · exact absurd (show False from by omega) id
    · refine lv_iload hx hb dX0_branch_18 (lv_at hl 4 rfl) ?_
      refine ia_callS (rest := []) hx hb hml hl.1 hown ht (zc_reg l (nI a)) zgX0_54 zyX0_isRegister rfl ⟨by decide, by decide⟩ ⟨Nat.zero_le _, Nat.zero_le _⟩ (Nat.le_of_ble_eq_true rfl) rfl dX0_branch_20 ?_
      have t_6 := nI_toInt (n := a) (by omega)
      have b_7 := zb_reg (nI a).toInt
      refine zk_ifne (tgt := 28) hx hb dX0_branch_23 (by decide) (by omega) (fun c_8 => ?_) (fun c_8 => ?_)
      · refine lv_aload_n hx hb dX0_branch_28 rfl (lv_at hl 0 rfl) ?_
        refine lv_iconst (v := nI 5) hx hb dX0_branch_29 (by decide) ?_
        refine lv_iload_n hx hb dX0_branch_30 rfl (lv_at hl 3 rfl) ?_
        refine lv_iload hx hb dX0_branch_31 (lv_at hl 4 rfl) ?_
        refine lv_iconst (v := nI 0) hx hb dX0_branch_33 (by decide) ?_
        refine lv_iload_n hx hb dX0_branch_34 rfl (lv_at hl 1 rfl) ?_
        refine lv_iload_n hx hb dX0_branch_35 rfl (lv_at hl 2 rfl) ?_
        refine ia_callM (rest := []) hx hb hml hl.1 hown ht hO hD hS hA (zc_append_full l E n g hg 5 d a 0 f go (by omega) _) zgX0_58 zyX0_append rfl ⟨by decide, by decide⟩ ⟨Nat.zero_le _, Nat.zero_le _⟩ (Nat.le_of_ble_eq_true rfl) rfl dX0_branch_36 (fun H locs hO hD hS => ?_)
        exact ia_miret hx hb hr hlk hO hD hS rfl (by rfl) dX0_branch_39
      · exact absurd (show False from by omega) id
  · exact absurd (show False from by omega) id
set_option maxHeartbeats 4000000 in
set_option maxRecDepth 100000 in
/-- fail -/
theorem zc_fail_no (l : Launch) (E : ia_E) (n : Nat) (g : Nat → Nat → Nat) (hg : zs_B g)  (hn : n = 0) (sz : Nat) : ia_M l yX0_fail cX0_fail 1 .boolean 6 E n g sz [] (nI 0) (n) (g) := by
  refine ia_Mof (by decide) rfl (Nat.le_of_ble_eq_true rfl) (fun p e s m args below meth c ls A hx hb hr hml hown ht hlk hA hO hD hS hl => ?_)
  have hl : lv_has ls 1 [(0, .ref (ia_h E 0))] := hl
  refine lv_aload_n hx hb dX0_fail_0 rfl (lv_at hl 0 rfl) ?_
  refine ia_get 0 (v := .int (nI n)) hx hb ht hown hO (by decide) rfl zlX0_7 rfl dX0_fail_1 ?_
  refine zk_ifne (tgt := 9) hx hb dX0_fail_4 (by decide) (by omega) (fun c_1 => ?_) (fun c_1 => ?_)
  · exact absurd (show False from by omega) id
  · refine lv_iconst (v := nI 0) hx hb dX0_fail_7 (by decide) ?_
    exact ia_mzret hx hb hr hlk hO hD hS (by omega) rfl (by rfl) dX0_fail_8
set_option maxHeartbeats 4000000 in
set_option maxRecDepth 100000 in
/-- fail -/
theorem zc_fail (l : Launch) (E : ia_E) (n : Nat) (g : Nat → Nat → Nat) (hg : zs_B g)  (hn : 0 < n ∧ n ≤ 400) (sz : Nat) : ia_M l yX0_fail cX0_fail 1 .boolean 6 E n g sz [] (nI 1) (n) (zs_failLast g (n - 1)) := by
  refine ia_Mof (by decide) rfl (Nat.le_of_ble_eq_true rfl) (fun p e s m args below meth c ls A hx hb hr hml hown ht hlk hA hO hD hS hl => ?_)
  have hl : lv_has ls 1 [(0, .ref (ia_h E 0))] := hl
  refine lv_aload_n hx hb dX0_fail_0 rfl (lv_at hl 0 rfl) ?_
  refine ia_get 0 (v := .int (nI n)) hx hb ht hown hO (by decide) rfl zlX0_7 rfl dX0_fail_1 ?_
  refine zk_ifne (tgt := 9) hx hb dX0_fail_4 (by decide) (by omega) (fun c_1 => ?_) (fun c_1 => ?_)
  · refine lv_aload_n hx hb dX0_fail_9 rfl (lv_at hl 0 rfl) ?_
    refine ia_callV (rest := []) hx hb hml hl.1 hown ht hO hD hS hA (zc_failLast l E n g hg (by omega) _) zgX0_62 zyX0_failLast rfl ⟨by decide, by decide⟩ ⟨Nat.zero_le _, Nat.zero_le _⟩ (Nat.le_of_ble_eq_true rfl) rfl dX0_fail_10 (fun H locs hO hD hS => ?_)
    refine lv_iconst (v := nI 1) hx hb dX0_fail_13 (by decide) ?_
    exact ia_mzret hx hb hr hlk hO hD hS (by omega) rfl (by rfl) dX0_fail_14
  · exact absurd (show False from by omega) id
set_option maxHeartbeats 4000000 in
set_option maxRecDepth 100000 in
/-- drop -/
theorem zc_drop_no (l : Launch) (E : ia_E) (n : Nat) (g : Nat → Nat → Nat) (hg : zs_B g) (x : Int32) (hn : n ≤ 400) (h0 : x.toInt < 0 ∨ n < x.toInt) (sz : Nat) : ia_M l yX0_drop cX0_drop 2 .boolean 0 E n g sz [.int x] (nI 0) (n) (g) := by
  refine ia_Mof (by decide) rfl (Nat.le_of_ble_eq_true rfl) (fun p e s m args below meth c ls A hx hb hr hml hown ht hlk hA hO hD hS hl => ?_)
  have hl : lv_has ls 2 [(0, .ref (ia_h E 0)), (1, .int x)] := hl
  refine lv_iload_n hx hb dX0_drop_0 rfl (lv_at hl 1 rfl) ?_
  refine zi_iflt (tgt := 12) hx hb dX0_drop_1 (by decide) (fun c_1 => ?_) (fun c_1 => ?_)
  · refine lv_iconst (v := nI 0) hx hb dX0_drop_12 (by decide) ?_
    exact ia_mzret hx hb hr hlk hO hD hS (by omega) rfl (by rfl) dX0_drop_13
  · refine lv_iload_n hx hb dX0_drop_4 rfl (lv_at hl 1 rfl) ?_
    refine lv_aload_n hx hb dX0_drop_5 rfl (lv_at hl 0 rfl) ?_
    refine ia_get 0 (v := .int (nI n)) hx hb ht hown hO (by decide) rfl zlX0_7 rfl dX0_drop_6 ?_
    have t_3 := nI_toInt (n := n) (by omega)
    refine zi_cle (tgt := 14) hx hb dX0_drop_9 (by decide) (fun c_2 => ?_) (fun c_2 => ?_)
    · exact absurd (show False from by omega) id
    · refine lv_iconst (v := nI 0) hx hb dX0_drop_12 (by decide) ?_
      exact ia_mzret hx hb hr hlk hO hD hS (by omega) rfl (by rfl) dX0_drop_13
set_option maxHeartbeats 4000000 in
set_option maxRecDepth 100000 in
/-- drop -/
theorem zc_drop (l : Launch) (E : ia_E) (n : Nat) (g : Nat → Nat → Nat) (hg : zs_B g) (x : Nat) (hn : n ≤ 400) (hx0 : x ≤ n) (sz : Nat) : ia_M l yX0_drop cX0_drop 2 .boolean 0 E n g sz [.int (nI x)] (nI 1) (n - x) (g) := by
  refine ia_Mof (by decide) rfl (Nat.le_of_ble_eq_true rfl) (fun p e s m args below meth c ls A hx hb hr hml hown ht hlk hA hO hD hS hl => ?_)
  have hl : lv_has ls 2 [(0, .ref (ia_h E 0)), (1, .int (nI x))] := hl
  refine lv_iload_n hx hb dX0_drop_0 rfl (lv_at hl 1 rfl) ?_
  refine zk_iflt (tgt := 12) hx hb dX0_drop_1 (by decide) (by omega) ?_
  refine lv_iload_n hx hb dX0_drop_4 rfl (lv_at hl 1 rfl) ?_
  refine lv_aload_n hx hb dX0_drop_5 rfl (lv_at hl 0 rfl) ?_
  refine ia_get 0 (v := .int (nI n)) hx hb ht hown hO (by decide) rfl zlX0_7 rfl dX0_drop_6 ?_
  refine zk_cle (tgt := 14) hx hb dX0_drop_9 (by decide) (by omega) (by omega) (fun c_2 => ?_) (fun c_2 => ?_)
  · refine lv_aload_n hx hb dX0_drop_14 rfl (lv_at hl 0 rfl) ?_
    refine lv_dup hx hb dX0_drop_15 rfl ?_
    refine ia_get 0 (v := .int (nI n)) hx hb ht hown hO (by decide) rfl zlX0_7 rfl dX0_drop_16 ?_
    refine lv_iload_n hx hb dX0_drop_19 rfl (lv_at hl 1 rfl) ?_
    refine zk_sub hx hb (by omega) dX0_drop_20 ?_
    refine ia_putn (n - x) hx hb ht hown hO hD hS zlX0_7 dX0_drop_21 (fun H locs hO hD hS => ?_)
    refine lv_iconst (v := nI 1) hx hb dX0_drop_24 (by decide) ?_
    exact ia_mzret hx hb hr hlk hO hD hS (by omega) rfl (by rfl) dX0_drop_25
  · exact absurd (show False from by omega) id
set_option maxHeartbeats 4000000 in
set_option maxRecDepth 100000 in
/-- clear -/
theorem zc_clear (l : Launch) (E : ia_E) (n : Nat) (g : Nat → Nat → Nat) (hg : zs_B g)   (sz : Nat) : ia_V l yX0_clear cX0_clear 1 0 E n g sz [] (0) (g) := by
  refine ia_Vof (by decide) rfl (Nat.le_of_ble_eq_true rfl) (fun p e s m args below meth c ls A hx hb hr hml hown ht hlk hA hO hD hS hl => ?_)
  have hl : lv_has ls 1 [(0, .ref (ia_h E 0))] := hl
  refine lv_aload_n hx hb dX0_clear_0 rfl (lv_at hl 0 rfl) ?_
  refine lv_iconst (v := nI 0) hx hb dX0_clear_1 (by decide) ?_
  refine ia_putn 0 hx hb ht hown hO hD hS zlX0_7 dX0_clear_2 (fun H locs hO hD hS => ?_)
  exact ia_vret hx hb hr hlk hO hD hS (by rfl) dX0_clear_5
set_option maxHeartbeats 4000000 in
set_option maxRecDepth 100000 in
/-- again -/
theorem zc_again_no1 (l : Launch) (E : ia_E) (n : Nat) (g : Nat → Nat → Nat) (hg : zs_B g) (x y : Int32) (hn : n ≤ 400) (h0 : ¬ (0 ≤ x.toInt ∧ x.toInt < n)) (sz : Nat) : ia_M l yX0_again cX0_again 4 .int 6 E n g sz [.int x, .int y] ((-1)) (n) (g) := by
  refine ia_Mof (by decide) rfl (Nat.le_of_ble_eq_true rfl) (fun p e s m args below meth c ls A hx hb hr hml hown ht hlk hA hO hD hS hl => ?_)
  have hl : lv_has ls 4 [(0, .ref (ia_h E 0)), (1, .int x), (2, .int y)] := hl
  refine lv_aload_n hx hb dX0_again_0 rfl (lv_at hl 0 rfl) ?_
  refine lv_iload_n hx hb dX0_again_1 rfl (lv_at hl 1 rfl) ?_
  refine ia_call (rest := []) hx hb hml hl.1 hown ht hO (zc_ins l E n g x (by omega)) zgX0_65 zyX0_isInstruction rfl ⟨by decide, by decide⟩ ⟨Nat.zero_le _, Nat.zero_le _⟩ (Nat.le_of_ble_eq_true rfl) rfl dX0_again_2 ?_
  have b_1 := zb_ins n x.toInt
  refine zk_ifeq (tgt := 35) hx hb dX0_again_5 (by decide) (by omega) (fun c_2 => ?_) (fun c_2 => ?_)
  · refine lv_iconst (v := (-1)) hx hb dX0_again_35 (by decide) ?_
    exact ia_miret hx hb hr hlk hO hD hS rfl (by rfl) dX0_again_36
  · exact absurd (show False from by omega) id
set_option maxHeartbeats 4000000 in
set_option maxRecDepth 100000 in
/-- again -/
theorem zc_again_no2 (l : Launch) (E : ia_E) (n : Nat) (g : Nat → Nat → Nat) (hg : zs_B g) (i : Nat) (y : Int32) (hn : n ≤ 400) (hi : i < n) (h0 : y.toInt < 1 ∨ ((n - i : Nat) : Int) < y.toInt ∨ ((400 - n : Nat) : Int) < y.toInt) (sz : Nat) : ia_M l yX0_again cX0_again 4 .int 6 E n g sz [.int (nI i), .int y] ((-1)) (n) (g) := by
  refine ia_Mof (by decide) rfl (Nat.le_of_ble_eq_true rfl) (fun p e s m args below meth c ls A hx hb hr hml hown ht hlk hA hO hD hS hl => ?_)
  have hl : lv_has ls 4 [(0, .ref (ia_h E 0)), (1, .int (nI i)), (2, .int y)] := hl
  refine lv_aload_n hx hb dX0_again_0 rfl (lv_at hl 0 rfl) ?_
  refine lv_iload_n hx hb dX0_again_1 rfl (lv_at hl 1 rfl) ?_
  refine ia_call (rest := []) hx hb hml hl.1 hown ht hO (zc_ins l E n g (nI i) (by omega)) zgX0_65 zyX0_isInstruction rfl ⟨by decide, by decide⟩ ⟨Nat.zero_le _, Nat.zero_le _⟩ (Nat.le_of_ble_eq_true rfl) rfl dX0_again_2 ?_
  have t_1 := nI_toInt (n := i) (by omega)
  have b_2 := zb_ins n (nI i).toInt
  refine zk_ifeq (tgt := 35) hx hb dX0_again_5 (by decide) (by omega) (fun c_3 => ?_) (fun c_3 => ?_)
  · refine lv_iconst (v := (-1)) hx hb dX0_again_35 (by decide) ?_
    exact ia_miret hx hb hr hlk hO hD hS rfl (by rfl) dX0_again_36
  · refine lv_iload_n hx hb dX0_again_8 rfl (lv_at hl 2 rfl) ?_
    refine lv_iconst (v := nI 1) hx hb dX0_again_9 (by decide) ?_
    have t_5 := nI_toInt (n := 1) (by omega)
    refine zi_clt (tgt := 35) hx hb dX0_again_10 (by decide) (fun c_4 => ?_) (fun c_4 => ?_)
    · refine lv_iconst (v := (-1)) hx hb dX0_again_35 (by decide) ?_
      exact ia_miret hx hb hr hlk hO hD hS rfl (by rfl) dX0_again_36
    · refine lv_iload_n hx hb dX0_again_13 rfl (lv_at hl 2 rfl) ?_
      refine lv_aload_n hx hb dX0_again_14 rfl (lv_at hl 0 rfl) ?_
      refine ia_get 0 (v := .int (nI n)) hx hb ht hown hO (by decide) rfl zlX0_7 rfl dX0_again_15 ?_
      refine lv_iload_n hx hb dX0_again_18 rfl (lv_at hl 1 rfl) ?_
      refine zk_sub hx hb (by omega) dX0_again_19 ?_
      have t_7 := nI_toInt (n := n - i) (by omega)
      refine zi_cgt (tgt := 35) hx hb dX0_again_20 (by decide) (fun c_6 => ?_) (fun c_6 => ?_)
      · refine lv_iconst (v := (-1)) hx hb dX0_again_35 (by decide) ?_
        exact ia_miret hx hb hr hlk hO hD hS rfl (by rfl) dX0_again_36
      · refine lv_iload_n hx hb dX0_again_23 rfl (lv_at hl 2 rfl) ?_
        refine lv_sipush (v := nI 400) hx hb dX0_again_24 (by decide) ?_
        refine lv_aload_n hx hb dX0_again_27 rfl (lv_at hl 0 rfl) ?_
        refine ia_get 0 (v := .int (nI n)) hx hb ht hown hO (by decide) rfl zlX0_7 rfl dX0_again_28 ?_
        refine zk_sub hx hb (by omega) dX0_again_31 ?_
        have t_9 := nI_toInt (n := 400 - n) (by omega)
        refine zi_cle (tgt := 37) hx hb dX0_again_32 (by decide) (fun c_8 => ?_) (fun c_8 => ?_)
        · exact absurd (show False from by omega) id
        · refine lv_iconst (v := (-1)) hx hb dX0_again_35 (by decide) ?_
          exact ia_miret hx hb hr hlk hO hD hS rfl (by rfl) dX0_again_36
set_option maxHeartbeats 4000000 in
set_option maxRecDepth 100000 in
/-- again -/
theorem zc_again (l : Launch) (E : ia_E) (n : Nat) (g : Nat → Nat → Nat) (hg : zs_B g) (i y : Nat) (hv : zs_V g) (hn : n ≤ 400) (hi : i < n) (hy : 1 ≤ y ∧ y ≤ n - i ∧ y ≤ 400 - n) (sz : Nat) : ia_M l yX0_again cX0_again 4 .int 6 E n g sz [.int (nI i), .int (nI y)] (nI (n + y)) (n + y) (zs_again g n i y) := by
  refine ia_Mof (by decide) rfl (Nat.le_of_ble_eq_true rfl) (fun p e s m args below meth c ls A hx hb hr hml hown ht hlk hA hO hD hS hl => ?_)
  have hl : lv_has ls 4 [(0, .ref (ia_h E 0)), (1, .int (nI i)), (2, .int (nI y))] := hl
  refine lv_aload_n hx hb dX0_again_0 rfl (lv_at hl 0 rfl) ?_
  refine lv_iload_n hx hb dX0_again_1 rfl (lv_at hl 1 rfl) ?_
  refine ia_call (rest := []) hx hb hml hl.1 hown ht hO (zc_ins l E n g (nI i) (by omega)) zgX0_65 zyX0_isInstruction rfl ⟨by decide, by decide⟩ ⟨Nat.zero_le _, Nat.zero_le _⟩ (Nat.le_of_ble_eq_true rfl) rfl dX0_again_2 ?_
  have t_1 := nI_toInt (n := i) (by omega)
  have b_2 := zb_ins n (nI i).toInt
  refine zk_ifeq (tgt := 35) hx hb dX0_again_5 (by decide) (by omega) (fun c_3 => ?_) (fun c_3 => ?_)
  · exact absurd (show False from by omega) id
  · refine lv_iload_n hx hb dX0_again_8 rfl (lv_at hl 2 rfl) ?_
    refine lv_iconst (v := nI 1) hx hb dX0_again_9 (by decide) ?_
    refine zk_clt (tgt := 35) hx hb dX0_again_10 (by decide) (by omega) (by omega) (fun c_4 => ?_) (fun c_4 => ?_)
    · exact absurd (show False from by omega) id
    · refine lv_iload_n hx hb dX0_again_13 rfl (lv_at hl 2 rfl) ?_
      refine lv_aload_n hx hb dX0_again_14 rfl (lv_at hl 0 rfl) ?_
      refine ia_get 0 (v := .int (nI n)) hx hb ht hown hO (by decide) rfl zlX0_7 rfl dX0_again_15 ?_
      refine lv_iload_n hx hb dX0_again_18 rfl (lv_at hl 1 rfl) ?_
      refine zk_sub hx hb (by omega) dX0_again_19 ?_
      refine zk_cgt (tgt := 35) hx hb dX0_again_20 (by decide) (by omega) (by omega) (fun c_5 => ?_) (fun c_5 => ?_)
      · exact absurd (show False from by omega) id
      · refine lv_iload_n hx hb dX0_again_23 rfl (lv_at hl 2 rfl) ?_
        refine lv_sipush (v := nI 400) hx hb dX0_again_24 (by decide) ?_
        refine lv_aload_n hx hb dX0_again_27 rfl (lv_at hl 0 rfl) ?_
        refine ia_get 0 (v := .int (nI n)) hx hb ht hown hO (by decide) rfl zlX0_7 rfl dX0_again_28 ?_
        refine zk_sub hx hb (by omega) dX0_again_31 ?_
        refine zk_cle (tgt := 37) hx hb dX0_again_32 (by decide) (by omega) (by omega) (fun c_6 => ?_) (fun c_6 => ?_)
        · refine lv_iload_n hx hb dX0_again_37 rfl (lv_at hl 1 rfl) ?_
          refine lv_istore_n (lv' := [(3, .int (nI i)), (0, .ref (ia_h E 0)), (1, .int (nI i)), (2, .int (nI y))]) hx hb dX0_again_38 rfl hl (by decide) rfl (fun ls hl => ?_)
          refine zk_upH (nL := 4) (pcH := 39) y (fun k H locs => ia_O E (n + k) (zs_again g n i k) s H ∧ va_D A (ia_w E (n + k) (zs_again g n i k)) ∧ va_S A s.heap H locs) (fun k => [(3, .int (nI (i + k))), (0, .ref (ia_h E 0)), (1, .int (nI i)), (2, .int (nI y))]) ?_ ?_ y 0 (by omega) _ _ ⟨hO, hD, hS⟩ ls (lv_sub hl [0, 1, 2, 3] rfl)
          · intro H locs hI ls hl
            obtain ⟨hO, hD, hS⟩ := hI
            have hl : lv_has ls 4 [(3, .int (nI (i + y))), (0, .ref (ia_h E 0)), (1, .int (nI i)), (2, .int (nI y))] := hl
            refine lv_iload_n hx hb dX0_again_39 rfl (lv_at hl 0 rfl) ?_
            refine lv_iload_n hx hb dX0_again_40 rfl (lv_at hl 2 rfl) ?_
            refine lv_iload_n hx hb dX0_again_41 rfl (lv_at hl 3 rfl) ?_
            refine zk_add hx hb dX0_again_42 ?_
            refine zk_cge (tgt := 106) hx hb dX0_again_43 (by decide) (by omega) (by omega) (fun c_7 => ?_) (fun c_7 => ?_)
            · refine lv_aload_n hx hb dX0_again_106 rfl (lv_at hl 1 rfl) ?_
              refine ia_get 0 (v := .int (nI (n + y))) hx hb ht hown hO (by decide) rfl zlX0_7 rfl dX0_again_107 ?_
              exact ia_miret hx hb hr hlk hO hD hS rfl rfl dX0_again_110
            · exact absurd (show False from by omega) id
          · intro k hk ih H locs hI ls hl
            obtain ⟨hO, hD, hS⟩ := hI
            have hl : lv_has ls 4 [(3, .int (nI (i + k))), (0, .ref (ia_h E 0)), (1, .int (nI i)), (2, .int (nI y))] := hl
            obtain ⟨hga, hva⟩ := zs_BV_again hg hv n i k
            have e1 : zs_again g n i (k + 1) = zs_cell (zs_again g n i k) (n + k) (i + k) := rfl
            rw [e1] at ih
            generalize zs_again g n i k = G at hO hD hga hva ih
            have hvj := hva (i + k)
            refine lv_iload_n hx hb dX0_again_39 rfl (lv_at hl 0 rfl) ?_
            refine lv_iload_n hx hb dX0_again_40 rfl (lv_at hl 2 rfl) ?_
            refine lv_iload_n hx hb dX0_again_41 rfl (lv_at hl 3 rfl) ?_
            refine zk_add hx hb dX0_again_42 ?_
            refine zk_cge (tgt := 106) hx hb dX0_again_43 (by decide) (by omega) (by omega) (fun c_8 => ?_) (fun c_8 => ?_)
            · exact absurd (show False from by omega) id
            · refine lv_aload_n hx hb dX0_again_46 rfl (lv_at hl 1 rfl) ?_
              refine lv_aload_n hx hb dX0_again_47 rfl (lv_at hl 1 rfl) ?_
              refine ia_get 1 (v := .ref (ia_h E 1)) hx hb ht hown hO (by decide) rfl zlX0_13 rfl dX0_again_48 ?_
              refine lv_iload_n hx hb dX0_again_51 rfl (lv_at hl 0 rfl) ?_
              refine ia_ild 1 (i + k) hx hb hO rfl (by omega) dX0_again_52 ?_
              have b_9 := hga 1 (i + k)
              refine lv_aload_n hx hb dX0_again_53 rfl (lv_at hl 1 rfl) ?_
              refine ia_get 2 (v := .ref (ia_h E 2)) hx hb ht hown hO (by decide) rfl zlX0_17 rfl dX0_again_54 ?_
              refine lv_iload_n hx hb dX0_again_57 rfl (lv_at hl 0 rfl) ?_
              refine ia_ild 2 (i + k) hx hb hO rfl (by omega) dX0_again_58 ?_
              have b_10 := hga 2 (i + k)
              refine lv_aload_n hx hb dX0_again_59 rfl (lv_at hl 1 rfl) ?_
              refine ia_get 3 (v := .ref (ia_h E 3)) hx hb ht hown hO (by decide) rfl zlX0_20 rfl dX0_again_60 ?_
              refine lv_iload_n hx hb dX0_again_63 rfl (lv_at hl 0 rfl) ?_
              refine ia_ild 3 (i + k) hx hb hO rfl (by omega) dX0_again_64 ?_
              have b_11 := hga 3 (i + k)
              refine lv_aload_n hx hb dX0_again_65 rfl (lv_at hl 1 rfl) ?_
              refine ia_get 4 (v := .ref (ia_h E 4)) hx hb ht hown hO (by decide) rfl zlX0_23 rfl dX0_again_66 ?_
              refine lv_iload_n hx hb dX0_again_69 rfl (lv_at hl 0 rfl) ?_
              refine ia_ild 4 (i + k) hx hb hO rfl (by omega) dX0_again_70 ?_
              have b_12 := hga 4 (i + k)
              refine lv_aload_n hx hb dX0_again_71 rfl (lv_at hl 1 rfl) ?_
              refine ia_get 5 (v := .ref (ia_h E 5)) hx hb ht hown hO (by decide) rfl zlX0_26 rfl dX0_again_72 ?_
              refine lv_iload_n hx hb dX0_again_75 rfl (lv_at hl 0 rfl) ?_
              refine ia_ild 5 (i + k) hx hb hO rfl (by omega) dX0_again_76 ?_
              have b_13 := hga 5 (i + k)
              refine lv_aload_n hx hb dX0_again_77 rfl (lv_at hl 1 rfl) ?_
              refine ia_get 6 (v := .ref (ia_h E 6)) hx hb ht hown hO (by decide) rfl zlX0_29 rfl dX0_again_78 ?_
              refine lv_iload_n hx hb dX0_again_81 rfl (lv_at hl 0 rfl) ?_
              refine ia_zld 6 (i + k) hx hb hO rfl (by omega) dX0_again_82 ?_
              have b_14 := hga 6 (i + k)
              refine ia_callM (rest := []) hx hb hml hl.1 hown ht hO hD hS hA (zc_append l E (n + k) G hga (G 1 (i + k)) (G 2 (i + k)) (G 3 (i + k)) (G 4 (i + k)) (G 5 (i + k)) (G 6 (i + k)) (by omega) (by omega) (by omega) _) zgX0_58 zyX0_append rfl ⟨by decide, by decide⟩ ⟨Nat.zero_le _, Nat.zero_le _⟩ (Nat.le_of_ble_eq_true rfl) rfl dX0_again_83 (fun H locs hO hD hS => ?_)
              have hG1 : zs_B (zs_append G (n + k) (G 1 (i + k)) (G 2 (i + k)) (G 3 (i + k)) (G 4 (i + k)) (G 5 (i + k)) (G 6 (i + k))) := zs_B_append hga (by omega) (by omega)
              obtain ⟨G1, eG1⟩ : ∃ z, z = zs_append G (n + k) (G 1 (i + k)) (G 2 (i + k)) (G 3 (i + k)) (G 4 (i + k)) (G 5 (i + k)) (G 6 (i + k)) := ⟨_, rfl⟩
              rw [← eG1] at hO hD hG1
              have e2 : zs_cell G (n + k) (i + k) = (if G1 7 (i + k) = 0 then G1 else zs_failLast G1 (n + k)) := by rw [eG1]; rfl
              rw [e2] at ih
              refine lv_pop hx hb dX0_again_86 rfl ?_
              refine lv_aload_n hx hb dX0_again_87 rfl (lv_at hl 1 rfl) ?_
              refine ia_get 7 (v := .ref (ia_h E 7)) hx hb ht hown hO (by decide) rfl zlX0_33 rfl dX0_again_88 ?_
              refine lv_iload_n hx hb dX0_again_91 rfl (lv_at hl 0 rfl) ?_
              refine ia_zld 7 (i + k) hx hb hO rfl (by omega) dX0_again_92 ?_
              have b_15 := hG1 7 (i + k)
              refine zk_ifeq (tgt := 100) hx hb dX0_again_93 (by decide) (by omega) (fun c_16 => ?_) (fun c_16 => ?_)
              · refine lv_iinc (v := nI (i + (k + 1))) (lv' := [(3, .int (nI (i + (k + 1)))), (0, .ref (ia_h E 0)), (1, .int (nI i)), (2, .int (nI y))]) hx hb dX0_again_100 hl (k := 0) rfl (zk_inc (i + k)) (by decide) rfl (fun ls hl => ?_)
                refine lv_goto (tgt := 39) hx hb dX0_again_103 (by decide) ?_
                rw [if_pos c_16] at ih
                exact ih H locs ⟨hO, hD, hS⟩ ls (lv_sub hl [0, 1, 2, 3] rfl)
              · refine lv_aload_n hx hb dX0_again_96 rfl (lv_at hl 1 rfl) ?_
                refine ia_callV (rest := []) hx hb hml hl.1 hown ht hO hD hS hA (zc_failLast l E ((n + k) + 1) G1 hG1 (by omega) _) zgX0_62 zyX0_failLast rfl ⟨by decide, by decide⟩ ⟨Nat.zero_le _, Nat.zero_le _⟩ (Nat.le_of_ble_eq_true rfl) rfl dX0_again_97 (fun H locs hO hD hS => ?_)
                refine lv_iinc (v := nI (i + (k + 1))) (lv' := [(3, .int (nI (i + (k + 1)))), (0, .ref (ia_h E 0)), (1, .int (nI i)), (2, .int (nI y))]) hx hb dX0_again_100 hl (k := 0) rfl (zk_inc (i + k)) (by decide) rfl (fun ls hl => ?_)
                refine lv_goto (tgt := 39) hx hb dX0_again_103 (by decide) ?_
                rw [if_neg c_16] at ih
                have hO : ia_O E (n + (k + 1)) (zs_failLast G1 (n + k)) s H := hO
                have hD : va_D A (ia_w E (n + (k + 1)) (zs_failLast G1 (n + k))) := hD
                exact ih H locs ⟨hO, hD, hS⟩ ls (lv_sub hl [0, 1, 2, 3] rfl)
        · exact absurd (show False from by omega) id
