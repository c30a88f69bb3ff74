set_option maxHeartbeats 4000000 in
set_option maxRecDepth 100000 in
/-- the reference: reckon -/
theorem zmc_reckon (l : Launch) (E : ia_E) (n : Nat) (g : Nat → Nat → Nat) (hg : zm_B g)  (hv : zs_V g) (hn : n ≤ 400) (sz : Nat) : im_V l yX1_reckon cX1_reckon 5 2 E n g sz [] (n) (zm_loop g n) := by
  refine im_Vof (by decide) rfl (Nat.le_of_ble_eq_true rfl) (fun p e s m args below meth c ls A hx hb hr hml hown ht hlk hA hO hD hS hl => ?_)
  have hl : lv_has ls 5 [(0, .ref (ia_h E 0))] := hl
  refine lv_iconst (v := (-1)) hx hb dX1_reckon_0 (by decide) ?_
  refine lv_istore_n (lv' := [(1, .int (-1)), (0, .ref (ia_h E 0))]) hx hb dX1_reckon_1 rfl hl (by decide) rfl (fun ls hl => ?_)
  refine lv_iconst (v := nI 0) hx hb dX1_reckon_2 (by decide) ?_
  refine lv_istore_n (lv' := [(2, .int (nI 0)), (1, .int (-1)), (0, .ref (ia_h E 0))]) hx hb dX1_reckon_3 rfl hl (by decide) rfl (fun ls hl => ?_)
  refine zk_upH (nL := 5) (pcH := 4) 32 (fun r H locs => im_O E n (zm_clr g r) s H ∧ va_D A (im_w E n (zm_clr g r)) ∧ va_S A s.heap H locs) (fun r => [(2, .int (nI r)), (1, .int (-1)), (0, .ref (ia_h E 0))]) ?_ ?_ 32 0 (by omega) _ _ ⟨hO, hD, hS⟩ ls (lv_sub hl [0, 1, 2] rfl)
  · intro H locs hI ls hl
    obtain ⟨hO, hD, hS⟩ := hI
    have hl : lv_has ls 5 [(2, .int (nI 32)), (1, .int (-1)), (0, .ref (ia_h E 0))] := hl
    refine lv_iload_n hx hb dX1_reckon_4 rfl (lv_at hl 0 rfl) ?_
    refine lv_bipush (v := nI 32) hx hb dX1_reckon_5 (by decide) ?_
    refine zk_cge (tgt := 23) hx hb dX1_reckon_7 (by decide) (by omega) (by omega) (fun c_1 => ?_) (fun c_1 => ?_)
    · refine lv_iconst (v := nI 0) hx hb dX1_reckon_23 (by decide) ?_
      refine lv_istore_n (lv' := [(2, .int (nI 0)), (1, .int (-1)), (0, .ref (ia_h E 0))]) hx hb dX1_reckon_24 rfl hl (by decide) rfl (fun ls hl => ?_)
      refine zk_upX (nL := 5) (pcH := 25) n (fun k x H locs => x.toInt = (zm_dv g k : Int) - 1 ∧ im_O E n (zm_loop g k) s H ∧ va_D A (im_w E n (zm_loop g k)) ∧ va_S A s.heap H locs) (fun k x => [(2, .int (nI k)), (1, .int x), (0, .ref (ia_h E 0))]) ?_ ?_ n 0 (by omega) (-1) _ _ ⟨show (-1 : Int32).toInt = ((0 : Nat) : Int) - 1 from by decide, hO, hD, hS⟩ ls (lv_sub hl [0, 1, 2] rfl)
      · intro dx H locs hI ls hl
        obtain ⟨hdx, hO, hD, hS⟩ := hI
        have hl : lv_has ls 5 [(2, .int (nI n)), (1, .int dx), (0, .ref (ia_h E 0))] := hl
        refine lv_iload_n hx hb dX1_reckon_25 rfl (lv_at hl 0 rfl) ?_
        refine lv_aload_n hx hb dX1_reckon_26 rfl (lv_at hl 2 rfl) ?_
        refine im_get 1 (v := .int (nI n)) hx hb ht hown hO (by decide) rfl zlX1_63 rfl dX1_reckon_27 ?_
        refine zk_cge (tgt := 360) hx hb dX1_reckon_30 (by decide) (by omega) (by omega) (fun c_2 => ?_) (fun c_2 => ?_)
        · exact im_vret hx hb hr hlk hO hD hS rfl dX1_reckon_360
        · exact absurd (show False from by omega) id
      · intro i hi ih dx H locs hI ls hl
        obtain ⟨hdx, hO, hD, hS⟩ := hI
        have hl : lv_has ls 5 [(2, .int (nI i)), (1, .int dx), (0, .ref (ia_h E 0))] := hl
        have hL := zm_L_loop hg hv i (by omega)
        have e1 : zm_loop g (i + 1) = zm_wr (zm_c (zm_t (zm_fetch (zm_stand (zm_loop g i) i) i) (zm_dv g i) i) i) i := rfl
        have e2 : (g 1 i = 4 → zm_dv g (i + 1) = i + 1) ∧ (¬ g 1 i = 4 → zm_dv g (i + 1) = zm_dv g i) := ⟨fun h => if_pos h, fun h => if_neg h⟩
        have hdv := zm_dv_le g i
        have hk1 : zm_fetch (zm_stand (zm_loop g i) i) i 1 i = g 1 i := by rw [zm_fetch_ne (by omega), zm_stand_ne (by omega), zm_loop_lo (by omega)]
        obtain ⟨hL2, hF2⟩ := zm_L_sf hL
        rw [e1] at ih
        generalize zm_loop g i = G at hO hD hL hL2 hF2 hk1 ih
        obtain ⟨dv, edv⟩ : ∃ z, z = zm_dv g i := ⟨_, rfl⟩
        rw [← edv] at hdx hdv e2 ih
        refine lv_iload_n hx hb dX1_reckon_25 rfl (lv_at hl 0 rfl) ?_
        refine lv_aload_n hx hb dX1_reckon_26 rfl (lv_at hl 2 rfl) ?_
        refine im_get 1 (v := .int (nI n)) hx hb ht hown hO (by decide) rfl zlX1_63 rfl dX1_reckon_27 ?_
        refine zk_cge (tgt := 360) hx hb dX1_reckon_30 (by decide) (by omega) (by omega) (fun c_3 => ?_) (fun c_3 => ?_)
        · exact absurd (show False from by omega) id
        · refine lv_aload_n hx hb dX1_reckon_33 rfl (lv_at hl 2 rfl) ?_
          refine lv_iload_n hx hb dX1_reckon_34 rfl (lv_at hl 0 rfl) ?_
          refine im_callV (rest := []) hx hb hml hl.1 hown ht hO hD hS hA (zmc_stand l E n G hL.1 i (by omega) _) zgX1_91 zyX1_stand rfl ⟨by decide, by decide⟩ ⟨Nat.zero_le _, Nat.zero_le _⟩ (Nat.le_of_ble_eq_true rfl) rfl dX1_reckon_35 (fun H locs hO hD hS => ?_)
          refine lv_aload_n hx hb dX1_reckon_38 rfl (lv_at hl 2 rfl) ?_
          refine lv_iload_n hx hb dX1_reckon_39 rfl (lv_at hl 0 rfl) ?_
          refine im_callV (rest := []) hx hb hml hl.1 hown ht hO hD hS hA (zmc_fetch l E n (zm_stand G i) (zm_B_stand hL.1 i) i (by omega) (zm_stand_h _ _) _) zgX1_95 zyX1_fetch rfl ⟨by decide, by decide⟩ ⟨Nat.zero_le _, Nat.zero_le _⟩ (Nat.le_of_ble_eq_true rfl) rfl dX1_reckon_40 (fun H locs hO hD hS => ?_)
          obtain ⟨G2, eG2⟩ : ∃ z, z = zm_fetch (zm_stand G i) i := ⟨_, rfl⟩
          rw [← eG2] at hO hD hL2 hF2 hk1 ih
          have hw2 := hL2.2.1
          have hv2 := hL2.2.2 i
          have bTa := zbm_Ta hL2.1 hF2 (hw2 _ (by omega)) (hw2 _ (by omega))
          have bTb := zbm_Tb hL2.1 bTa
          have bTc := zbm_Tc hL2.1 hdv bTb
          have bT := zbm_T hL2.1 bTc
          refine lv_aload_n hx hb dX1_reckon_43 rfl (lv_at hl 2 rfl) ?_
          refine im_get 13 (v := .ref (ia_h E 13)) hx hb ht hown hO (by decide) rfl zlX1_44 rfl dX1_reckon_44 ?_
          refine lv_iload_n hx hb dX1_reckon_47 rfl (lv_at hl 0 rfl) ?_
          refine im_ild 12 13 11 i hx hb hO rfl (by omega) dX1_reckon_48 ?_
          have b_4 := hL2.1.1 11 i (by decide)
          refine lv_iconst (v := nI 2) hx hb dX1_reckon_49 (by decide) ?_
          refine zk_add hx hb dX1_reckon_50 ?_
          refine lv_aload_n hx hb dX1_reckon_51 rfl (lv_at hl 2 rfl) ?_
          refine lv_aload_n hx hb dX1_reckon_52 rfl (lv_at hl 2 rfl) ?_
          refine im_get 4 (v := .ref (ia_h E 4)) hx hb ht hown hO (by decide) rfl zlX1_16 rfl dX1_reckon_53 ?_
          refine lv_iload_n hx hb dX1_reckon_56 rfl (lv_at hl 0 rfl) ?_
          refine im_ild 3 4 3 i hx hb hO rfl (by omega) dX1_reckon_57 ?_
          have b_5 := hL2.1.1 3 i (by decide)
          refine im_call (rest := [.int (nI ((G2 11 i) + 2))]) hx hb hml hl.1 hown ht hO (zmc_ready l E n G2 hL2.1 (G2 3 i) (by omega)) zgX1_98 zyX1_ready rfl ⟨by decide, by decide⟩ ⟨Nat.zero_le _, Nat.zero_le _⟩ (Nat.le_of_ble_eq_true rfl) rfl dX1_reckon_58 ?_
          have b_6 := zbm_ready hL2.1 (r := (G2 3 i)) (i := i) (hw2 _ (by omega))
          refine im_callS (rest := []) hx hb hml hl.1 hown ht (zmc_later l ((G2 11 i) + 2) (zm_ready G2 (G2 3 i)) (by omega) (by omega)) zgX1_83 zyX1_later rfl ⟨by decide, by decide⟩ ⟨Nat.zero_le _, Nat.zero_le _⟩ (Nat.le_of_ble_eq_true rfl) rfl dX1_reckon_61 ?_
          refine lv_aload_n hx hb dX1_reckon_64 rfl (lv_at hl 2 rfl) ?_
          refine lv_aload_n hx hb dX1_reckon_65 rfl (lv_at hl 2 rfl) ?_
          refine im_get 5 (v := .ref (ia_h E 5)) hx hb ht hown hO (by decide) rfl zlX1_19 rfl dX1_reckon_66 ?_
          refine lv_iload_n hx hb dX1_reckon_69 rfl (lv_at hl 0 rfl) ?_
          refine im_ild 4 5 4 i hx hb hO rfl (by omega) dX1_reckon_70 ?_
          have b_7 := hL2.1.1 4 i (by decide)
          refine im_call (rest := [.int (nI (max ((G2 11 i) + 2) (zm_ready G2 (G2 3 i))))]) hx hb hml hl.1 hown ht hO (zmc_ready l E n G2 hL2.1 (G2 4 i) (by omega)) zgX1_98 zyX1_ready rfl ⟨by decide, by decide⟩ ⟨Nat.zero_le _, Nat.zero_le _⟩ (Nat.le_of_ble_eq_true rfl) rfl dX1_reckon_71 ?_
          have b_8 := zbm_ready hL2.1 (r := (G2 4 i)) (i := i) (hw2 _ (by omega))
          refine im_callS (rest := []) hx hb hml hl.1 hown ht (zmc_later l (max ((G2 11 i) + 2) (zm_ready G2 (G2 3 i))) (zm_ready G2 (G2 4 i)) (by omega) (by omega)) zgX1_83 zyX1_later rfl ⟨by decide, by decide⟩ ⟨Nat.zero_le _, Nat.zero_le _⟩ (Nat.le_of_ble_eq_true rfl) rfl dX1_reckon_74 ?_
          refine lv_istore_n (lv' := [(3, .int (nI (max (max ((G2 11 i) + 2) (zm_ready G2 (G2 3 i))) (zm_ready G2 (G2 4 i))))), (2, .int (nI i)), (1, .int dx), (0, .ref (ia_h E 0))]) hx hb dX1_reckon_77 rfl hl (by decide) rfl (fun ls hl => ?_)
          refine zk_cut (nL := 5) 145 (fun v_9 => v_9 = zm_Tb G2 i) (fun v_9 => [(3, .int (nI v_9)), (2, .int (nI i)), (1, .int dx), (0, .ref (ia_h E 0))]) (fun v_9 => []) (fun v_9 ls e_10 hl => ?_) (fun J_11 => ?_)
          · have e_10 : v_9 = zm_Tb G2 i := e_10
            have hl : lv_has ls 5 [(3, .int (nI v_9)), (2, .int (nI i)), (1, .int dx), (0, .ref (ia_h E 0))] := hl
            refine zk_cut2 (nL := 5) 179 (fun v_12 y_13 => v_12 = zm_Tc G2 dv i ∧ y_13.toInt = (zm_dv g (i + 1) : Int) - 1) (fun v_12 y_13 => [(3, .int (nI v_12)), (1, .int y_13), (2, .int (nI i)), (0, .ref (ia_h E 0))]) (fun _ _ => []) (fun v_12 y_13 ls e_14 hl => ?_) (fun J_15 => ?_)
            · obtain ⟨e_14a, e_14b⟩ := e_14
              have hl : lv_has ls 5 [(3, .int (nI v_12)), (1, .int y_13), (2, .int (nI i)), (0, .ref (ia_h E 0))] := hl
              refine zk_cut (nL := 5) 212 (fun v_16 => v_16 = zm_T G2 dv i) (fun v_16 => [(3, .int (nI v_12)), (1, .int y_13), (2, .int (nI i)), (0, .ref (ia_h E 0))]) (fun v_16 => [.int (nI v_16)]) (fun v_16 ls e_17 hl => ?_) (fun J_18 => ?_)
              · have e_17 : v_16 = zm_T G2 dv i := e_17
                have hl : lv_has ls 5 [(3, .int (nI v_12)), (1, .int y_13), (2, .int (nI i)), (0, .ref (ia_h E 0))] := hl
                refine lv_istore_n (lv' := [(3, .int (nI v_16)), (1, .int y_13), (2, .int (nI i)), (0, .ref (ia_h E 0))]) hx hb dX1_reckon_212 rfl hl (by decide) rfl (fun ls hl => ?_)
                refine lv_aload_n hx hb dX1_reckon_213 rfl (lv_at hl 3 rfl) ?_
                refine im_get 14 (v := .ref (ia_h E 14)) hx hb ht hown hO (by decide) rfl zlX1_47 rfl dX1_reckon_214 ?_
                refine lv_iload_n hx hb dX1_reckon_217 rfl (lv_at hl 2 rfl) ?_
                refine lv_iload_n hx hb dX1_reckon_218 rfl (lv_at hl 0 rfl) ?_
                refine im_ist 13 14 12 i v_16 hx hb hO hD hS rfl (im_set14 E n G2 i v_16) (by omega) dX1_reckon_219 (fun H locs hO hD hS => ?_)
                have hg_19 : zm_B (ia_up G2 12 i v_16) := zm_B_up hL2.1 (by decide) (by omega)
                obtain ⟨g_19, eg_19⟩ : ∃ z, z = ia_up G2 12 i v_16 := ⟨_, rfl⟩
                rw [← eg_19] at hO hD hg_19
                have fg_19 : g_19 12 i = v_16 := by rw [eg_19]; exact zs_up_at _ _ _ _
                refine lv_iload_n hx hb dX1_reckon_220 rfl (lv_at hl 0 rfl) ?_
                refine zk_cut (nL := 5) 251 (fun v_20 => v_20 = zs_work (g_19 1 i)) (fun v_20 => [(3, .int (nI v_16)), (1, .int y_13), (2, .int (nI i)), (0, .ref (ia_h E 0))]) (fun v_20 => [.int (nI v_20), .int (nI v_16)]) (fun v_20 ls e_21 hl => ?_) (fun J_22 => ?_)
                · have e_21 : v_20 = zs_work (g_19 1 i) := e_21
                  have hl : lv_has ls 5 [(3, .int (nI v_16)), (1, .int y_13), (2, .int (nI i)), (0, .ref (ia_h E 0))] := hl
                  have b_23 := zb_work (g_19 1 i)
                  have bCa := zbm_Ca hg_19 (i := i) (by omega)
                  have bC := zbm_C hg_19 bCa
                  refine zk_add hx hb dX1_reckon_251 ?_
                  refine lv_istore (lv' := [(4, .int (nI (v_16 + v_20))), (3, .int (nI v_16)), (1, .int y_13), (2, .int (nI i)), (0, .ref (ia_h E 0))]) hx hb dX1_reckon_252 hl (by decide) rfl (fun ls hl => ?_)
                  refine zk_cut (nL := 5) 291 (fun v_24 => v_24 = zm_Ca g_19 i) (fun v_24 => [(4, .int (nI (v_16 + v_20))), (3, .int (nI v_16)), (1, .int y_13), (2, .int (nI i)), (0, .ref (ia_h E 0))]) (fun v_24 => [.int (nI v_24)]) (fun v_24 ls e_25 hl => ?_) (fun J_26 => ?_)
                  · have e_25 : v_24 = zm_Ca g_19 i := e_25
                    have hl : lv_has ls 5 [(4, .int (nI (v_16 + v_20))), (3, .int (nI v_16)), (1, .int y_13), (2, .int (nI i)), (0, .ref (ia_h E 0))] := hl
                    refine lv_istore (lv' := [(4, .int (nI v_24)), (3, .int (nI v_16)), (1, .int y_13), (2, .int (nI i)), (0, .ref (ia_h E 0))]) hx hb dX1_reckon_291 hl (by decide) rfl (fun ls hl => ?_)
                    refine lv_aload_n hx hb dX1_reckon_293 rfl (lv_at hl 4 rfl) ?_
                    refine im_get 15 (v := .ref (ia_h E 15)) hx hb ht hown hO (by decide) rfl zlX1_50 rfl dX1_reckon_294 ?_
                    refine lv_iload_n hx hb dX1_reckon_297 rfl (lv_at hl 3 rfl) ?_
                    refine zk_cut (nL := 5) 323 (fun v_27 => v_27 = zm_C g_19 i) (fun v_27 => [(4, .int (nI v_24)), (3, .int (nI v_16)), (1, .int y_13), (2, .int (nI i)), (0, .ref (ia_h E 0))]) (fun v_27 => [.int (nI v_27), .int (nI i), .ref (ia_h E 15)]) (fun v_27 ls e_28 hl => ?_) (fun J_29 => ?_)
                    · have e_28 : v_27 = zm_C g_19 i := e_28
                      have hl : lv_has ls 5 [(4, .int (nI v_24)), (3, .int (nI v_16)), (1, .int y_13), (2, .int (nI i)), (0, .ref (ia_h E 0))] := hl
                      refine im_ist 14 15 13 i v_27 hx hb hO hD hS rfl (im_set15 E n g_19 i v_27) (by omega) dX1_reckon_323 (fun H locs hO hD hS => ?_)
                      have hg_30 : zm_B (ia_up g_19 13 i v_27) := zm_B_up hg_19 (by decide) (by omega)
                      obtain ⟨g_30, eg_30⟩ : ∃ z, z = ia_up g_19 13 i v_27 := ⟨_, rfl⟩
                      rw [← eg_30] at hO hD hg_30
                      have fg_30 : g_30 13 i = v_27 := by rw [eg_30]; exact zs_up_at _ _ _ _
                      refine lv_aload_n hx hb dX1_reckon_324 rfl (lv_at hl 4 rfl) ?_
                      refine im_get 3 (v := .ref (ia_h E 3)) hx hb ht hown hO (by decide) rfl zlX1_13 rfl dX1_reckon_325 ?_
                      refine lv_iload_n hx hb dX1_reckon_328 rfl (lv_at hl 3 rfl) ?_
                      refine im_ild 2 3 2 i hx hb hO rfl (by omega) dX1_reckon_329 ?_
                      have b_31 := hg_30.1 2 i (by decide)
                      have r_32 : g_30 2 i = g_19 2 i := by rw [eg_30]; exact zs_up_ne (Or.inl (by decide))
                      have r_33 : g_19 2 i = G2 2 i := by rw [eg_19]; exact zs_up_ne (Or.inl (by decide))
                      refine zk_ifle (tgt := 354) hx hb dX1_reckon_330 (by decide) (by omega) (fun c_34 => ?_) (fun c_34 => ?_)
                      · refine lv_iinc (v := nI (i + 1)) (lv' := [(2, .int (nI (i + 1))), (4, .int (nI v_24)), (3, .int (nI v_16)), (1, .int y_13), (0, .ref (ia_h E 0))]) hx hb dX1_reckon_354 hl (k := 3) rfl (zk_inc i) (by decide) rfl (fun ls hl => ?_)
                        refine lv_goto (tgt := 25) hx hb dX1_reckon_357 (by decide) ?_
                        have ec : zm_c (zm_t G2 dv i) i = g_30 := by
                          rw [eg_30, eg_19, show v_27 = zm_C g_19 i from by omega, show v_16 = zm_T G2 dv i from by omega, eg_19, show v_16 = zm_T G2 dv i from by omega]; rfl
                        rw [ec] at ih
                        have ew : zm_wr g_30 i = g_30 := if_neg (by omega)
                        rw [ew] at ih
                        exact ih y_13 H locs ⟨e_14b, hO, hD, hS⟩ ls (lv_sub hl [0, 3, 4] rfl)
                      · refine lv_aload_n hx hb dX1_reckon_333 rfl (lv_at hl 4 rfl) ?_
                        refine im_get 9 (v := .ref (ia_h E 9)) hx hb ht hown hO (by decide) rfl zlX1_32 rfl dX1_reckon_334 ?_
                        refine lv_iload_n hx hb dX1_reckon_337 rfl (lv_at hl 3 rfl) ?_
                        refine im_zld 8 9 9 i hx hb hO rfl (by omega) dX1_reckon_338 ?_
                        have b_35 := hg_30.1 9 i (by decide)
                        have r_36 : g_30 9 i = g_19 9 i := by rw [eg_30]; exact zs_up_ne (Or.inl (by decide))
                        have r_37 : g_19 9 i = G2 9 i := by rw [eg_19]; exact zs_up_ne (Or.inl (by decide))
                        refine zk_ifne (tgt := 354) hx hb dX1_reckon_339 (by decide) (by omega) (fun c_38 => ?_) (fun c_38 => ?_)
                        · refine lv_iinc (v := nI (i + 1)) (lv' := [(2, .int (nI (i + 1))), (4, .int (nI v_24)), (3, .int (nI v_16)), (1, .int y_13), (0, .ref (ia_h E 0))]) hx hb dX1_reckon_354 hl (k := 3) rfl (zk_inc i) (by decide) rfl (fun ls hl => ?_)
                          refine lv_goto (tgt := 25) hx hb dX1_reckon_357 (by decide) ?_
                          have ec : zm_c (zm_t G2 dv i) i = g_30 := by
                            rw [eg_30, eg_19, show v_27 = zm_C g_19 i from by omega, show v_16 = zm_T G2 dv i from by omega, eg_19, show v_16 = zm_T G2 dv i from by omega]; rfl
                          rw [ec] at ih
                          have ew : zm_wr g_30 i = g_30 := if_neg (by omega)
                          rw [ew] at ih
                          exact ih y_13 H locs ⟨e_14b, hO, hD, hS⟩ ls (lv_sub hl [0, 3, 4] rfl)
                        · refine lv_aload_n hx hb dX1_reckon_342 rfl (lv_at hl 4 rfl) ?_
                          refine im_get 17 (v := .ref (ia_h E 17)) hx hb ht hown hO (by decide) rfl zlX1_56 rfl dX1_reckon_343 ?_
                          refine lv_aload_n hx hb dX1_reckon_346 rfl (lv_at hl 4 rfl) ?_
                          refine im_get 3 (v := .ref (ia_h E 3)) hx hb ht hown hO (by decide) rfl zlX1_13 rfl dX1_reckon_347 ?_
                          refine lv_iload_n hx hb dX1_reckon_350 rfl (lv_at hl 3 rfl) ?_
                          refine im_ild 2 3 2 i hx hb hO rfl (by omega) dX1_reckon_351 ?_
                          have b_39 := hg_30.1 2 i (by decide)
                          have r_40 : g_30 2 i = g_19 2 i := by rw [eg_30]; exact zs_up_ne (Or.inl (by decide))
                          have r_41 : g_19 2 i = G2 2 i := by rw [eg_19]; exact zs_up_ne (Or.inl (by decide))
                          refine lv_iload_n hx hb dX1_reckon_352 rfl (lv_at hl 3 rfl) ?_
                          refine im_wst (g_30 2 i) (i + 1) (pk_m1 i).symm hx hb hO hD hS (by omega) dX1_reckon_353 (fun H locs hO hD hS => ?_)
                          have hg_42 : zm_B (ia_up g_30 16 (g_30 2 i) (i + 1)) := zm_B_upw hg_30 (by omega)
                          obtain ⟨g_42, eg_42⟩ : ∃ z, z = ia_up g_30 16 (g_30 2 i) (i + 1) := ⟨_, rfl⟩
                          rw [← eg_42] at hO hD hg_42
                          have fg_42 : g_42 16 (g_30 2 i) = i + 1 := by rw [eg_42]; exact zs_up_at _ _ _ _
                          refine lv_iinc (v := nI (i + 1)) (lv' := [(2, .int (nI (i + 1))), (4, .int (nI v_24)), (3, .int (nI v_16)), (1, .int y_13), (0, .ref (ia_h E 0))]) hx hb dX1_reckon_354 hl (k := 3) rfl (zk_inc i) (by decide) rfl (fun ls hl => ?_)
                          refine lv_goto (tgt := 25) hx hb dX1_reckon_357 (by decide) ?_
                          have ec : zm_c (zm_t G2 dv i) i = g_30 := by
                            rw [eg_30, eg_19, show v_27 = zm_C g_19 i from by omega, show v_16 = zm_T G2 dv i from by omega, eg_19, show v_16 = zm_T G2 dv i from by omega]; rfl
                          rw [ec] at ih
                          have ew : zm_wr g_30 i = g_42 := by rw [eg_42]; exact if_pos ⟨by omega, by omega⟩
                          rw [ew] at ih
                          exact ih y_13 H locs ⟨e_14b, hO, hD, hS⟩ ls (lv_sub hl [0, 3, 4] rfl)
                    · refine lv_iload_n hx hb dX1_reckon_298 rfl (lv_at hl 3 rfl) ?_
                      refine lv_iconst (v := nI 1) hx hb dX1_reckon_299 (by decide) ?_
                      refine zk_cle (tgt := 321) hx hb dX1_reckon_300 (by decide) (by omega) (by omega) (fun c_43 => ?_) (fun c_43 => ?_)
                      · refine lv_iload hx hb dX1_reckon_321 (lv_at hl 0 rfl) ?_
                        exact J_29 v_24 ls (show v_24 = zm_C g_19 i from by unfold zm_C; (repeat' split) <;> omega) (lv_sub hl [0, 1, 2, 3, 4] rfl)
                      · refine lv_iload hx hb dX1_reckon_303 (lv_at hl 0 rfl) ?_
                        refine lv_aload_n hx hb dX1_reckon_305 rfl (lv_at hl 4 rfl) ?_
                        refine im_get 15 (v := .ref (ia_h E 15)) hx hb ht hown hO (by decide) rfl zlX1_50 rfl dX1_reckon_306 ?_
                        refine lv_iload_n hx hb dX1_reckon_309 rfl (lv_at hl 3 rfl) ?_
                        refine lv_iconst (v := nI 2) hx hb dX1_reckon_310 (by decide) ?_
                        refine zk_sub hx hb (by omega) dX1_reckon_311 ?_
                        refine im_ild 14 15 13 (i - 2) hx hb hO rfl (by omega) dX1_reckon_312 ?_
                        have b_44 := hg_19.1 13 (i - 2) (by decide)
                        have r_45 : g_19 13 (i - 2) = G2 13 (i - 2) := by rw [eg_19]; exact zs_up_ne (Or.inl (by decide))
                        refine lv_iconst (v := nI 1) hx hb dX1_reckon_313 (by decide) ?_
                        refine zk_add hx hb dX1_reckon_314 ?_
                        refine im_callS (rest := [.int (nI i), .ref (ia_h E 15)]) hx hb hml hl.1 hown ht (zmc_later l v_24 ((g_19 13 (i - 2)) + 1) (by omega) (by omega)) zgX1_83 zyX1_later rfl ⟨by decide, by decide⟩ ⟨Nat.zero_le _, Nat.zero_le _⟩ (Nat.le_of_ble_eq_true rfl) rfl dX1_reckon_315 ?_
                        refine lv_goto (tgt := 323) hx hb dX1_reckon_318 (by decide) ?_
                        exact J_29 (max v_24 ((g_19 13 (i - 2)) + 1)) ls (show (max v_24 ((g_19 13 (i - 2)) + 1)) = zm_C g_19 i from by unfold zm_C; (repeat' split) <;> omega) (lv_sub hl [0, 1, 2, 3, 4] rfl)
                  · refine lv_iload_n hx hb dX1_reckon_254 rfl (lv_at hl 3 rfl) ?_
                    refine zk_ifle (tgt := 289) hx hb dX1_reckon_255 (by decide) (by omega) (fun c_46 => ?_) (fun c_46 => ?_)
                    · refine lv_iload hx hb dX1_reckon_289 (lv_at hl 0 rfl) ?_
                      exact J_26 (v_16 + v_20) ls (show (v_16 + v_20) = zm_Ca g_19 i from by unfold zm_Ca; (repeat' split) <;> omega) (lv_sub hl [0, 1, 2, 3, 4] rfl)
                    · refine lv_iload hx hb dX1_reckon_258 (lv_at hl 0 rfl) ?_
                      refine lv_aload_n hx hb dX1_reckon_260 rfl (lv_at hl 4 rfl) ?_
                      refine im_get 15 (v := .ref (ia_h E 15)) hx hb ht hown hO (by decide) rfl zlX1_50 rfl dX1_reckon_261 ?_
                      refine lv_iload_n hx hb dX1_reckon_264 rfl (lv_at hl 3 rfl) ?_
                      refine lv_iconst (v := nI 1) hx hb dX1_reckon_265 (by decide) ?_
                      refine zk_sub hx hb (by omega) dX1_reckon_266 ?_
                      refine im_ild 14 15 13 (i - 1) hx hb hO rfl (by omega) dX1_reckon_267 ?_
                      have b_47 := hg_19.1 13 (i - 1) (by decide)
                      have r_48 : g_19 13 (i - 1) = G2 13 (i - 1) := by rw [eg_19]; exact zs_up_ne (Or.inl (by decide))
                      refine lv_aload_n hx hb dX1_reckon_268 rfl (lv_at hl 4 rfl) ?_
                      refine im_get 9 (v := .ref (ia_h E 9)) hx hb ht hown hO (by decide) rfl zlX1_32 rfl dX1_reckon_269 ?_
                      refine lv_iload_n hx hb dX1_reckon_272 rfl (lv_at hl 3 rfl) ?_
                      refine im_zld 8 9 9 i hx hb hO rfl (by omega) dX1_reckon_273 ?_
                      have b_49 := hg_19.1 9 i (by decide)
                      have r_50 : g_19 9 i = G2 9 i := by rw [eg_19]; exact zs_up_ne (Or.inl (by decide))
                      refine zk_ifeq (tgt := 281) hx hb dX1_reckon_274 (by decide) (by omega) (fun c_51 => ?_) (fun c_51 => ?_)
                      · refine lv_iconst (v := nI 0) hx hb dX1_reckon_281 (by decide) ?_
                        refine zk_add hx hb dX1_reckon_282 ?_
                        refine im_callS (rest := []) hx hb hml hl.1 hown ht (zmc_later l (v_16 + v_20) ((g_19 13 (i - 1)) + 0) (by omega) (by omega)) zgX1_83 zyX1_later rfl ⟨by decide, by decide⟩ ⟨Nat.zero_le _, Nat.zero_le _⟩ (Nat.le_of_ble_eq_true rfl) rfl dX1_reckon_283 ?_
                        refine lv_goto (tgt := 291) hx hb dX1_reckon_286 (by decide) ?_
                        exact J_26 (max (v_16 + v_20) ((g_19 13 (i - 1)) + 0)) ls (show (max (v_16 + v_20) ((g_19 13 (i - 1)) + 0)) = zm_Ca g_19 i from by unfold zm_Ca; (repeat' split) <;> omega) (lv_sub hl [0, 1, 2, 3, 4] rfl)
                      · refine lv_iconst (v := nI 1) hx hb dX1_reckon_277 (by decide) ?_
                        refine lv_goto (tgt := 282) hx hb dX1_reckon_278 (by decide) ?_
                        refine zk_add hx hb dX1_reckon_282 ?_
                        refine im_callS (rest := []) hx hb hml hl.1 hown ht (zmc_later l (v_16 + v_20) ((g_19 13 (i - 1)) + 1) (by omega) (by omega)) zgX1_83 zyX1_later rfl ⟨by decide, by decide⟩ ⟨Nat.zero_le _, Nat.zero_le _⟩ (Nat.le_of_ble_eq_true rfl) rfl dX1_reckon_283 ?_
                        refine lv_goto (tgt := 291) hx hb dX1_reckon_286 (by decide) ?_
                        exact J_26 (max (v_16 + v_20) ((g_19 13 (i - 1)) + 1)) ls (show (max (v_16 + v_20) ((g_19 13 (i - 1)) + 1)) = zm_Ca g_19 i from by unfold zm_Ca; (repeat' split) <;> omega) (lv_sub hl [0, 1, 2, 3, 4] rfl)
                · refine lv_aload_n hx hb dX1_reckon_221 rfl (lv_at hl 3 rfl) ?_
                  refine im_get 2 (v := .ref (ia_h E 2)) hx hb ht hown hO (by decide) rfl zlX1_7 rfl dX1_reckon_222 ?_
                  refine lv_iload_n hx hb dX1_reckon_225 rfl (lv_at hl 2 rfl) ?_
                  refine im_ild 1 2 1 i hx hb hO rfl (by omega) dX1_reckon_226 ?_
                  have b_52 := hg_19.1 1 i (by decide)
                  have r_53 : g_19 1 i = G2 1 i := by rw [eg_19]; exact zs_up_ne (Or.inl (by decide))
                  refine lv_iconst (v := nI 3) hx hb dX1_reckon_227 (by decide) ?_
                  refine zk_cne (tgt := 235) hx hb dX1_reckon_228 (by decide) (by omega) (by omega) (fun c_54 => ?_) (fun c_54 => ?_)
                  · refine lv_aload_n hx hb dX1_reckon_235 rfl (lv_at hl 3 rfl) ?_
                    refine im_get 2 (v := .ref (ia_h E 2)) hx hb ht hown hO (by decide) rfl zlX1_7 rfl dX1_reckon_236 ?_
                    refine lv_iload_n hx hb dX1_reckon_239 rfl (lv_at hl 2 rfl) ?_
                    refine im_ild 1 2 1 i hx hb hO rfl (by omega) dX1_reckon_240 ?_
                    have b_55 := hg_19.1 1 i (by decide)
                    have r_56 : g_19 1 i = G2 1 i := by rw [eg_19]; exact zs_up_ne (Or.inl (by decide))
                    refine lv_iconst (v := nI 4) hx hb dX1_reckon_241 (by decide) ?_
                    refine zk_cne (tgt := 250) hx hb dX1_reckon_242 (by decide) (by omega) (by omega) (fun c_57 => ?_) (fun c_57 => ?_)
                    · refine lv_iconst (v := nI 3) hx hb dX1_reckon_250 (by decide) ?_
                      exact J_22 3 ls (show 3 = zs_work (g_19 1 i) from by unfold zs_work; (repeat' split) <;> omega) (lv_sub hl [0, 1, 2, 3] rfl)
                    · refine lv_bipush (v := nI 20) hx hb dX1_reckon_245 (by decide) ?_
                      refine lv_goto (tgt := 251) hx hb dX1_reckon_247 (by decide) ?_
                      exact J_22 20 ls (show 20 = zs_work (g_19 1 i) from by unfold zs_work; (repeat' split) <;> omega) (lv_sub hl [0, 1, 2, 3] rfl)
                  · refine lv_iconst (v := nI 5) hx hb dX1_reckon_231 (by decide) ?_
                    refine lv_goto (tgt := 251) hx hb dX1_reckon_232 (by decide) ?_
                    exact J_22 5 ls (show 5 = zs_work (g_19 1 i) from by unfold zs_work; (repeat' split) <;> omega) (lv_sub hl [0, 1, 2, 3] rfl)
              · refine lv_aload_n hx hb dX1_reckon_179 rfl (lv_at hl 3 rfl) ?_
                refine im_get 2 (v := .ref (ia_h E 2)) hx hb ht hown hO (by decide) rfl zlX1_7 rfl dX1_reckon_180 ?_
                refine lv_iload_n hx hb dX1_reckon_183 rfl (lv_at hl 2 rfl) ?_
                refine im_ild 1 2 1 i hx hb hO rfl (by omega) dX1_reckon_184 ?_
                have b_58 := hL2.1.1 1 i (by decide)
                refine lv_bipush (v := nI 6) hx hb dX1_reckon_185 (by decide) ?_
                refine zk_cne (tgt := 211) hx hb dX1_reckon_187 (by decide) (by omega) (by omega) (fun c_59 => ?_) (fun c_59 => ?_)
                · refine lv_iload_n hx hb dX1_reckon_211 rfl (lv_at hl 0 rfl) ?_
                  exact J_18 v_12 ls (show v_12 = zm_T G2 dv i from by unfold zm_T; (repeat' split) <;> omega) (lv_sub hl [0, 1, 2, 3] rfl)
                · refine lv_iload_n hx hb dX1_reckon_190 rfl (lv_at hl 2 rfl) ?_
                  refine zk_ifle (tgt := 211) hx hb dX1_reckon_191 (by decide) (by omega) (fun c_60 => ?_) (fun c_60 => ?_)
                  · refine lv_iload_n hx hb dX1_reckon_211 rfl (lv_at hl 0 rfl) ?_
                    exact J_18 v_12 ls (show v_12 = zm_T G2 dv i from by unfold zm_T; (repeat' split) <;> omega) (lv_sub hl [0, 1, 2, 3] rfl)
                  · refine lv_iload_n hx hb dX1_reckon_194 rfl (lv_at hl 0 rfl) ?_
                    refine lv_aload_n hx hb dX1_reckon_195 rfl (lv_at hl 3 rfl) ?_
                    refine im_get 15 (v := .ref (ia_h E 15)) hx hb ht hown hO (by decide) rfl zlX1_50 rfl dX1_reckon_196 ?_
                    refine lv_iload_n hx hb dX1_reckon_199 rfl (lv_at hl 2 rfl) ?_
                    refine lv_iconst (v := nI 1) hx hb dX1_reckon_200 (by decide) ?_
                    refine zk_sub hx hb (by omega) dX1_reckon_201 ?_
                    refine im_ild 14 15 13 (i - 1) hx hb hO rfl (by omega) dX1_reckon_202 ?_
                    have b_61 := hL2.1.1 13 (i - 1) (by decide)
                    refine lv_iconst (v := nI 1) hx hb dX1_reckon_203 (by decide) ?_
                    refine zk_add hx hb dX1_reckon_204 ?_
                    refine im_callS (rest := []) hx hb hml hl.1 hown ht (zmc_later l v_12 ((G2 13 (i - 1)) + 1) (by omega) (by omega)) zgX1_83 zyX1_later rfl ⟨by decide, by decide⟩ ⟨Nat.zero_le _, Nat.zero_le _⟩ (Nat.le_of_ble_eq_true rfl) rfl dX1_reckon_205 ?_
                    refine lv_goto (tgt := 212) hx hb dX1_reckon_208 (by decide) ?_
                    exact J_18 (max v_12 ((G2 13 (i - 1)) + 1)) ls (show (max v_12 ((G2 13 (i - 1)) + 1)) = zm_T G2 dv i from by unfold zm_T; (repeat' split) <;> omega) (lv_sub hl [0, 1, 2, 3] rfl)
            · refine lv_aload_n hx hb dX1_reckon_145 rfl (lv_at hl 3 rfl) ?_
              refine im_get 2 (v := .ref (ia_h E 2)) hx hb ht hown hO (by decide) rfl zlX1_7 rfl dX1_reckon_146 ?_
              refine lv_iload_n hx hb dX1_reckon_149 rfl (lv_at hl 1 rfl) ?_
              refine im_ild 1 2 1 i hx hb hO rfl (by omega) dX1_reckon_150 ?_
              have b_62 := hL2.1.1 1 i (by decide)
              refine lv_iconst (v := nI 4) hx hb dX1_reckon_151 (by decide) ?_
              refine zk_cne (tgt := 179) hx hb dX1_reckon_152 (by decide) (by omega) (by omega) (fun c_63 => ?_) (fun c_63 => ?_)
              · exact J_15 v_9 dx ls ⟨show v_9 = zm_Tc G2 dv i from by unfold zm_Tc; (repeat' split) <;> omega, show dx.toInt = (zm_dv g (i + 1) : Int) - 1 from by omega⟩ (lv_sub hl [0, 2, 1, 3] rfl)
              · refine lv_iload_n hx hb dX1_reckon_155 rfl (lv_at hl 2 rfl) ?_
                refine zi_ifge (tgt := 163) hx hb dX1_reckon_156 (by decide) (fun c_64 => ?_) (fun c_64 => ?_)
                · refine lv_iload_n hx hb dX1_reckon_163 rfl (lv_at hl 0 rfl) ?_
                  refine lv_aload_n hx hb dX1_reckon_164 rfl (lv_at hl 3 rfl) ?_
                  refine im_get 14 (v := .ref (ia_h E 14)) hx hb ht hown hO (by decide) rfl zlX1_47 rfl dX1_reckon_165 ?_
                  refine lv_iload_n hx hb dX1_reckon_168 rfl (lv_at hl 2 rfl) ?_
                  refine zk_top (y := nI (dv - 1)) (zi_nI (by omega) (by omega)) ?_
                  refine im_ild 13 14 12 (dv - 1) hx hb hO rfl (by omega) dX1_reckon_169 ?_
                  have b_65 := hL2.1.1 12 (dv - 1) (by decide)
                  refine lv_bipush (v := nI 18) hx hb dX1_reckon_170 (by decide) ?_
                  refine zk_add hx hb dX1_reckon_172 ?_
                  refine im_callS (rest := []) hx hb hml hl.1 hown ht (zmc_later l v_9 ((G2 12 (dv - 1)) + 18) (by omega) (by omega)) zgX1_83 zyX1_later rfl ⟨by decide, by decide⟩ ⟨Nat.zero_le _, Nat.zero_le _⟩ (Nat.le_of_ble_eq_true rfl) rfl dX1_reckon_173 ?_
                  refine lv_istore_n (lv' := [(3, .int (nI (max v_9 ((G2 12 (dv - 1)) + 18)))), (2, .int (nI i)), (1, .int dx), (0, .ref (ia_h E 0))]) hx hb dX1_reckon_176 rfl hl (by decide) rfl (fun ls hl => ?_)
                  refine lv_iload_n hx hb dX1_reckon_177 rfl (lv_at hl 1 rfl) ?_
                  refine lv_istore_n (lv' := [(1, .int (nI i)), (3, .int (nI (max v_9 ((G2 12 (dv - 1)) + 18)))), (2, .int (nI i)), (0, .ref (ia_h E 0))]) hx hb dX1_reckon_178 rfl hl (by decide) rfl (fun ls hl => ?_)
                  have t_66 := nI_toInt (n := i) (by omega)
                  exact J_15 (max v_9 ((G2 12 (dv - 1)) + 18)) (nI i) ls ⟨show max v_9 ((G2 12 (dv - 1)) + 18) = zm_Tc G2 dv i from by unfold zm_Tc; (repeat' split) <;> omega, show (nI i).toInt = (zm_dv g (i + 1) : Int) - 1 from by omega⟩ (lv_sub hl [1, 0, 2, 3] rfl)
                · refine lv_iload_n hx hb dX1_reckon_159 rfl (lv_at hl 0 rfl) ?_
                  refine lv_goto (tgt := 176) hx hb dX1_reckon_160 (by decide) ?_
                  refine lv_istore_n (lv' := [(3, .int (nI v_9)), (2, .int (nI i)), (1, .int dx), (0, .ref (ia_h E 0))]) hx hb dX1_reckon_176 rfl hl (by decide) rfl (fun ls hl => ?_)
                  refine lv_iload_n hx hb dX1_reckon_177 rfl (lv_at hl 1 rfl) ?_
                  refine lv_istore_n (lv' := [(1, .int (nI i)), (3, .int (nI v_9)), (2, .int (nI i)), (0, .ref (ia_h E 0))]) hx hb dX1_reckon_178 rfl hl (by decide) rfl (fun ls hl => ?_)
                  have t_67 := nI_toInt (n := i) (by omega)
                  exact J_15 v_9 (nI i) ls ⟨show v_9 = zm_Tc G2 dv i from by unfold zm_Tc; (repeat' split) <;> omega, show (nI i).toInt = (zm_dv g (i + 1) : Int) - 1 from by omega⟩ (lv_sub hl [1, 0, 2, 3] rfl)
          · refine lv_iload_n hx hb dX1_reckon_78 rfl (lv_at hl 1 rfl) ?_
            refine zk_ifle (tgt := 145) hx hb dX1_reckon_79 (by decide) (by omega) (fun c_68 => ?_) (fun c_68 => ?_)
            · exact J_11 (max (max ((G2 11 i) + 2) (zm_ready G2 (G2 3 i))) (zm_ready G2 (G2 4 i))) ls (show (max (max ((G2 11 i) + 2) (zm_ready G2 (G2 3 i))) (zm_ready G2 (G2 4 i))) = zm_Tb G2 i from by unfold zm_Tb zm_Ta; (repeat' split) <;> omega) (lv_sub hl [0, 1, 2, 3] rfl)
            · have p_72 := zbm_with G2 i
              refine zk_cut (nL := 5) 119 (fun v_69 => v_69 = zm_with G2 i) (fun v_69 => [(3, .int (nI (max (max ((G2 11 i) + 2) (zm_ready G2 (G2 3 i))) (zm_ready G2 (G2 4 i))))), (2, .int (nI i)), (1, .int dx), (0, .ref (ia_h E 0))]) (fun v_69 => [.int (nI v_69)]) (fun v_69 ls e_70 hl => ?_) (fun J_71 => ?_)
              · have e_70 : v_69 = zm_with G2 i := e_70
                have hl : lv_has ls 5 [(3, .int (nI (max (max ((G2 11 i) + 2) (zm_ready G2 (G2 3 i))) (zm_ready G2 (G2 4 i))))), (2, .int (nI i)), (1, .int dx), (0, .ref (ia_h E 0))] := hl
                refine lv_istore (lv' := [(4, .int (nI v_69)), (3, .int (nI (max (max ((G2 11 i) + 2) (zm_ready G2 (G2 3 i))) (zm_ready G2 (G2 4 i))))), (2, .int (nI i)), (1, .int dx), (0, .ref (ia_h E 0))]) hx hb dX1_reckon_119 hl (by decide) rfl (fun ls hl => ?_)
                refine lv_iload_n hx hb dX1_reckon_121 rfl (lv_at hl 1 rfl) ?_
                refine lv_aload_n hx hb dX1_reckon_122 rfl (lv_at hl 4 rfl) ?_
                refine im_get 14 (v := .ref (ia_h E 14)) hx hb ht hown hO (by decide) rfl zlX1_47 rfl dX1_reckon_123 ?_
                refine lv_iload_n hx hb dX1_reckon_126 rfl (lv_at hl 2 rfl) ?_
                refine lv_iconst (v := nI 1) hx hb dX1_reckon_127 (by decide) ?_
                refine zk_sub hx hb (by omega) dX1_reckon_128 ?_
                refine im_ild 13 14 12 (i - 1) hx hb hO rfl (by omega) dX1_reckon_129 ?_
                have b_73 := hL2.1.1 12 (i - 1) (by decide)
                refine lv_iload hx hb dX1_reckon_130 (lv_at hl 0 rfl) ?_
                refine zk_ifeq (tgt := 139) hx hb dX1_reckon_132 (by decide) (by omega) (fun c_74 => ?_) (fun c_74 => ?_)
                · refine lv_iconst (v := nI 1) hx hb dX1_reckon_139 (by decide) ?_
                  refine zk_add hx hb dX1_reckon_140 ?_
                  refine im_callS (rest := []) hx hb hml hl.1 hown ht (zmc_later l (max (max ((G2 11 i) + 2) (zm_ready G2 (G2 3 i))) (zm_ready G2 (G2 4 i))) ((G2 12 (i - 1)) + 1) (by omega) (by omega)) zgX1_83 zyX1_later rfl ⟨by decide, by decide⟩ ⟨Nat.zero_le _, Nat.zero_le _⟩ (Nat.le_of_ble_eq_true rfl) rfl dX1_reckon_141 ?_
                  refine lv_istore_n (lv' := [(3, .int (nI (max (max (max ((G2 11 i) + 2) (zm_ready G2 (G2 3 i))) (zm_ready G2 (G2 4 i))) ((G2 12 (i - 1)) + 1)))), (4, .int (nI v_69)), (2, .int (nI i)), (1, .int dx), (0, .ref (ia_h E 0))]) hx hb dX1_reckon_144 rfl hl (by decide) rfl (fun ls hl => ?_)
                  exact J_11 (max (max (max ((G2 11 i) + 2) (zm_ready G2 (G2 3 i))) (zm_ready G2 (G2 4 i))) ((G2 12 (i - 1)) + 1)) ls (show (max (max (max ((G2 11 i) + 2) (zm_ready G2 (G2 3 i))) (zm_ready G2 (G2 4 i))) ((G2 12 (i - 1)) + 1)) = zm_Tb G2 i from by unfold zm_Tb zm_Ta; (repeat' split) <;> omega) (lv_sub hl [0, 2, 3, 4] rfl)
                · refine lv_iconst (v := nI 0) hx hb dX1_reckon_135 (by decide) ?_
                  refine lv_goto (tgt := 140) hx hb dX1_reckon_136 (by decide) ?_
                  refine zk_add hx hb dX1_reckon_140 ?_
                  refine im_callS (rest := []) hx hb hml hl.1 hown ht (zmc_later l (max (max ((G2 11 i) + 2) (zm_ready G2 (G2 3 i))) (zm_ready G2 (G2 4 i))) ((G2 12 (i - 1)) + 0) (by omega) (by omega)) zgX1_83 zyX1_later rfl ⟨by decide, by decide⟩ ⟨Nat.zero_le _, Nat.zero_le _⟩ (Nat.le_of_ble_eq_true rfl) rfl dX1_reckon_141 ?_
                  refine lv_istore_n (lv' := [(3, .int (nI (max (max (max ((G2 11 i) + 2) (zm_ready G2 (G2 3 i))) (zm_ready G2 (G2 4 i))) ((G2 12 (i - 1)) + 0)))), (4, .int (nI v_69)), (2, .int (nI i)), (1, .int dx), (0, .ref (ia_h E 0))]) hx hb dX1_reckon_144 rfl hl (by decide) rfl (fun ls hl => ?_)
                  exact J_11 (max (max (max ((G2 11 i) + 2) (zm_ready G2 (G2 3 i))) (zm_ready G2 (G2 4 i))) ((G2 12 (i - 1)) + 0)) ls (show (max (max (max ((G2 11 i) + 2) (zm_ready G2 (G2 3 i))) (zm_ready G2 (G2 4 i))) ((G2 12 (i - 1)) + 0)) = zm_Tb G2 i from by unfold zm_Tb zm_Ta; (repeat' split) <;> omega) (lv_sub hl [0, 2, 3, 4] rfl)
              · refine lv_aload_n hx hb dX1_reckon_82 rfl (lv_at hl 3 rfl) ?_
                refine lv_iload_n hx hb dX1_reckon_83 rfl (lv_at hl 1 rfl) ?_
                refine im_call (rest := []) hx hb hml hl.1 hown ht hO (zmc_pairs l E n G2 hL2.1 i (by omega) (by omega)) zgX1_101 zyX1_pairs rfl ⟨by decide, by decide⟩ ⟨Nat.zero_le _, Nat.zero_le _⟩ (Nat.le_of_ble_eq_true rfl) rfl dX1_reckon_84 ?_
                have b_75 := zb_pair G2 i
                refine zk_ifeq (tgt := 118) hx hb dX1_reckon_87 (by decide) (by omega) (fun c_76 => ?_) (fun c_76 => ?_)
                · refine lv_iconst (v := nI 0) hx hb dX1_reckon_118 (by decide) ?_
                  exact J_71 0 ls (show 0 = zm_with G2 i from by unfold zm_with; (repeat' split) <;> omega) (lv_sub hl [0, 1, 2, 3] rfl)
                · refine lv_iload_n hx hb dX1_reckon_90 rfl (lv_at hl 1 rfl) ?_
                  refine lv_iconst (v := nI 1) hx hb dX1_reckon_91 (by decide) ?_
                  refine zk_ceq (tgt := 114) hx hb dX1_reckon_92 (by decide) (by omega) (by omega) (fun c_77 => ?_) (fun c_77 => ?_)
                  · refine lv_iconst (v := nI 1) hx hb dX1_reckon_114 (by decide) ?_
                    refine lv_goto (tgt := 119) hx hb dX1_reckon_115 (by decide) ?_
                    exact J_71 1 ls (show 1 = zm_with G2 i from by unfold zm_with; (repeat' split) <;> omega) (lv_sub hl [0, 1, 2, 3] rfl)
                  · refine lv_aload_n hx hb dX1_reckon_95 rfl (lv_at hl 3 rfl) ?_
                    refine im_get 14 (v := .ref (ia_h E 14)) hx hb ht hown hO (by decide) rfl zlX1_47 rfl dX1_reckon_96 ?_
                    refine lv_iload_n hx hb dX1_reckon_99 rfl (lv_at hl 1 rfl) ?_
                    refine lv_iconst (v := nI 2) hx hb dX1_reckon_100 (by decide) ?_
                    refine zk_sub hx hb (by omega) dX1_reckon_101 ?_
                    refine im_ild 13 14 12 (i - 2) hx hb hO rfl (by omega) dX1_reckon_102 ?_
                    have b_78 := hL2.1.1 12 (i - 2) (by decide)
                    refine lv_aload_n hx hb dX1_reckon_103 rfl (lv_at hl 3 rfl) ?_
                    refine im_get 14 (v := .ref (ia_h E 14)) hx hb ht hown hO (by decide) rfl zlX1_47 rfl dX1_reckon_104 ?_
                    refine lv_iload_n hx hb dX1_reckon_107 rfl (lv_at hl 1 rfl) ?_
                    refine lv_iconst (v := nI 1) hx hb dX1_reckon_108 (by decide) ?_
                    refine zk_sub hx hb (by omega) dX1_reckon_109 ?_
                    refine im_ild 13 14 12 (i - 1) hx hb hO rfl (by omega) dX1_reckon_110 ?_
                    have b_79 := hL2.1.1 12 (i - 1) (by decide)
                    refine zk_cge (tgt := 118) hx hb dX1_reckon_111 (by decide) (by omega) (by omega) (fun c_80 => ?_) (fun c_80 => ?_)
                    · refine lv_iconst (v := nI 0) hx hb dX1_reckon_118 (by decide) ?_
                      exact J_71 0 ls (show 0 = zm_with G2 i from by unfold zm_with; (repeat' split) <;> omega) (lv_sub hl [0, 1, 2, 3] rfl)
                    · refine lv_iconst (v := nI 1) hx hb dX1_reckon_114 (by decide) ?_
                      refine lv_goto (tgt := 119) hx hb dX1_reckon_115 (by decide) ?_
                      exact J_71 1 ls (show 1 = zm_with G2 i from by unfold zm_with; (repeat' split) <;> omega) (lv_sub hl [0, 1, 2, 3] rfl)
    · exact absurd (show False from by omega) id
  · intro r hr0 ih H locs hI ls hl
    obtain ⟨hO, hD, hS⟩ := hI
    have hl : lv_has ls 5 [(2, .int (nI r)), (1, .int (-1)), (0, .ref (ia_h E 0))] := hl
    refine lv_iload_n hx hb dX1_reckon_4 rfl (lv_at hl 0 rfl) ?_
    refine lv_bipush (v := nI 32) hx hb dX1_reckon_5 (by decide) ?_
    refine zk_cge (tgt := 23) hx hb dX1_reckon_7 (by decide) (by omega) (by omega) (fun c_81 => ?_) (fun c_81 => ?_)
    · exact absurd (show False from by omega) id
    · refine lv_aload_n hx hb dX1_reckon_10 rfl (lv_at hl 2 rfl) ?_
      refine im_get 17 (v := .ref (ia_h E 17)) hx hb ht hown hO (by decide) rfl zlX1_56 rfl dX1_reckon_11 ?_
      refine lv_iload_n hx hb dX1_reckon_14 rfl (lv_at hl 0 rfl) ?_
      refine lv_iconst (v := (-1)) hx hb dX1_reckon_15 (by decide) ?_
      refine im_wst r 0 rfl hx hb hO hD hS (by omega) dX1_reckon_16 (fun H locs hO hD hS => ?_)
      have hg_82 : zm_B (ia_up (zm_clr g r) 16 r 0) := zm_B_upw (zm_B_clr hg r) (by omega)
      obtain ⟨g_82, eg_82⟩ : ∃ z, z = ia_up (zm_clr g r) 16 r 0 := ⟨_, rfl⟩
      rw [← eg_82] at hO hD hg_82
      have fg_82 : g_82 16 r = 0 := by rw [eg_82]; exact zs_up_at _ _ _ _
      refine lv_iinc (v := nI (r + 1)) (lv' := [(2, .int (nI (r + 1))), (1, .int (-1)), (0, .ref (ia_h E 0))]) hx hb dX1_reckon_17 hl (k := 0) rfl (zk_inc r) (by decide) rfl (fun ls hl => ?_)
      refine lv_goto (tgt := 4) hx hb dX1_reckon_20 (by decide) ?_
      subst eg_82
      exact ih H locs ⟨hO, hD, hS⟩ ls (lv_sub hl [0, 1, 2] rfl)
