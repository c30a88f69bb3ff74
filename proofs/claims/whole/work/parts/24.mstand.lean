theorem zm_stand_h (g : Nat → Nat → Nat) (i : Nat) : (zm_stand g i 14 i ≠ 0 → 0 < i) ∧ (zm_stand g i 14 i ≠ 0 → zm_stand g i 9 (i - 1) = 0 → zm_stand g i 1 (i - 1) ≠ 6 → 1 < i) := by
  rw [zm_stand_14]
  have h0 := zb_redir0 (zs_s2 g i) i
  have h1 := zb_bsm (zs_s2 g i) i
  refine ⟨h0.2, fun hr h9 h6 => ?_⟩
  have hi := h0.2 hr
  rw [zm_stand_ne (Or.inr (by omega))] at h9 h6
  have e9 : zs_s2 g i 9 (i - 1) = g 9 (i - 1) := by rw [zs_s2_nn (Or.inr (by omega)), zs_s1_nn (Or.inr (by omega))]
  have e1 : zs_s2 g i 1 (i - 1) = g 1 (i - 1) := by rw [zs_s2_nn (Or.inr (by omega)), zs_s1_nn (Or.inr (by omega))]
  refine h1.2 (fun hb => hr ?_)
  unfold zs_redir zs_bfs
  rw [hb, e9, e1]
  (repeat' split) <;> omega
set_option maxHeartbeats 4000000 in
set_option maxRecDepth 100000 in
/-- the reference: stand -/
theorem zmc_stand (l : Launch) (E : ia_E) (n : Nat) (g : Nat → Nat → Nat) (hg : zm_B g) (i : Nat) (hi : i < 400) (sz : Nat) : im_V l yX1_stand cX1_stand 5 0 E n g sz [.int (nI i)] (n) (zm_stand g i) := by
  refine im_Vof (by decide) rfl (Nat.le_of_ble_eq_true rfl) (fun p e s m args below meth c ls A hx hb hr hml hown ht hlk hA hO hD hS hl => ?_)
  have hl : lv_has ls 5 [(0, .ref (ia_h E 0)), (1, .int (nI i))] := hl
  refine lv_aload_n hx hb dX1_stand_0 rfl (lv_at hl 0 rfl) ?_
  refine im_get 10 (v := .ref (ia_h E 10)) hx hb ht hown hO (by decide) rfl zlX1_35 rfl dX1_stand_1 ?_
  refine lv_iload_n hx hb dX1_stand_4 rfl (lv_at hl 1 rfl) ?_
  refine zk_cut (nL := 5) 37 (fun v_1 => v_1 = zs_slot g i) (fun v_1 => [(0, .ref (ia_h E 0)), (1, .int (nI i))]) (fun v_1 => [.int (nI v_1), .int (nI i), .ref (ia_h E 10)]) (fun v_1 ls e_2 hl => ?_) (fun J_3 => ?_)
  · have e_2 : v_1 = zs_slot g i := e_2
    have hl : lv_has ls 5 [(0, .ref (ia_h E 0)), (1, .int (nI i))] := hl
    have bz_1 := zb_slot g i
    refine im_zst 9 10 8 i v_1 hx hb hO hD hS rfl (im_set10 E n g i v_1) (by omega) (by omega) dX1_stand_37 (fun H locs hO hD hS => ?_)
    have hg_4 : zm_B (ia_up g 8 i v_1) := zm_B_up hg (by decide) (by omega)
    obtain ⟨g_4, eg_4⟩ : ∃ z, z = ia_up g 8 i v_1 := ⟨_, rfl⟩
    rw [← eg_4] at hO hD hg_4
    have fg_4 : g_4 8 i = v_1 := by rw [eg_4]; exact zs_up_at _ _ _ _
    refine lv_aload_n hx hb dX1_stand_38 rfl (lv_at hl 0 rfl) ?_
    refine im_get 9 (v := .ref (ia_h E 9)) hx hb ht hown hO (by decide) rfl zlX1_32 rfl dX1_stand_39 ?_
    refine lv_iload_n hx hb dX1_stand_42 rfl (lv_at hl 1 rfl) ?_
    refine zk_cut (nL := 5) 87 (fun v_5 => v_5 = zs_fail g_4 i) (fun v_5 => [(0, .ref (ia_h E 0)), (1, .int (nI i))]) (fun v_5 => [.int (nI v_5), .int (nI i), .ref (ia_h E 9)]) (fun v_5 ls e_6 hl => ?_) (fun J_7 => ?_)
    · have e_6 : v_5 = zs_fail g_4 i := e_6
      have hl : lv_has ls 5 [(0, .ref (ia_h E 0)), (1, .int (nI i))] := hl
      have bz_2 := zb_fail g_4 i
      refine im_zst 8 9 9 i v_5 hx hb hO hD hS rfl (im_set9 E n g_4 i v_5) (by omega) (by omega) dX1_stand_87 (fun H locs hO hD hS => ?_)
      have hg_8 : zm_B (ia_up g_4 9 i v_5) := zm_B_up hg_4 (by decide) (by omega)
      obtain ⟨g_8, eg_8⟩ : ∃ z, z = ia_up g_4 9 i v_5 := ⟨_, rfl⟩
      rw [← eg_8] at hO hD hg_8
      have fg_8 : g_8 9 i = v_5 := by rw [eg_8]; exact zs_up_at _ _ _ _
      have bz_4 := zb_bslot g_8 i
      refine zk_cut (nL := 5) 109 (fun v_9 => v_9 = zs_bslot g_8 i) (fun v_9 => [(0, .ref (ia_h E 0)), (1, .int (nI i))]) (fun v_9 => [.int (nI v_9)]) (fun v_9 ls e_10 hl => ?_) (fun J_11 => ?_)
      · have e_10 : v_9 = zs_bslot g_8 i := e_10
        have hl : lv_has ls 5 [(0, .ref (ia_h E 0)), (1, .int (nI i))] := hl
        refine lv_istore_n (lv' := [(2, .int (nI v_9)), (0, .ref (ia_h E 0)), (1, .int (nI i))]) hx hb dX1_stand_109 rfl hl (by decide) rfl (fun ls hl => ?_)
        refine zk_cut (nL := 5) 122 (fun v_12 => v_12 = i - 2) (fun v_12 => [(2, .int (nI v_9)), (0, .ref (ia_h E 0)), (1, .int (nI i))]) (fun v_12 => [.int (nI v_12)]) (fun v_12 ls e_13 hl => ?_) (fun J_14 => ?_)
        · have e_13 : v_12 = i - 2 := e_13
          have hl : lv_has ls 5 [(2, .int (nI v_9)), (0, .ref (ia_h E 0)), (1, .int (nI i))] := hl
          subst e_13
          refine lv_istore_n (lv' := [(3, .int (nI (i - 2))), (2, .int (nI v_9)), (0, .ref (ia_h E 0)), (1, .int (nI i))]) hx hb dX1_stand_122 rfl hl (by decide) rfl (fun ls hl => ?_)
          refine lv_aload_n hx hb dX1_stand_123 rfl (lv_at hl 2 rfl) ?_
          refine im_get 12 (v := .ref (ia_h E 12)) hx hb ht hown hO (by decide) rfl zlX1_41 rfl dX1_stand_124 ?_
          refine lv_iload_n hx hb dX1_stand_127 rfl (lv_at hl 3 rfl) ?_
          refine zk_cut (nL := 5) 161 (fun v_15 => v_15 = zs_lies g_8 i) (fun v_15 => [(3, .int (nI (i - 2))), (2, .int (nI v_9)), (0, .ref (ia_h E 0)), (1, .int (nI i))]) (fun v_15 => [.int (nI v_15), .int (nI i), .ref (ia_h E 12)]) (fun v_15 ls e_16 hl => ?_) (fun J_17 => ?_)
          · have e_16 : v_15 = zs_lies g_8 i := e_16
            have hl : lv_has ls 5 [(3, .int (nI (i - 2))), (2, .int (nI v_9)), (0, .ref (ia_h E 0)), (1, .int (nI i))] := hl
            have bz_5 := zb_lies g_8 i
            refine im_zst 11 12 15 i v_15 hx hb hO hD hS rfl (im_set12 E n g_8 i v_15) (by omega) (by omega) dX1_stand_161 (fun H locs hO hD hS => ?_)
            have hg_18 : zm_B (ia_up g_8 15 i v_15) := zm_B_up hg_8 (by decide) (by omega)
            obtain ⟨g_18, eg_18⟩ : ∃ z, z = ia_up g_8 15 i v_15 := ⟨_, rfl⟩
            rw [← eg_18] at hO hD hg_18
            have fg_18 : g_18 15 i = v_15 := by rw [eg_18]; exact zs_up_at _ _ _ _
            refine zk_cut (nL := 5) 204 (fun v_19 => (zs_bslot g_8 i ≠ 0 ∧ zs_missed g_8 (i - 2) ≠ 0 → v_19 = 1) ∧ (¬ (zs_bslot g_8 i ≠ 0 ∧ zs_missed g_8 (i - 2) ≠ 0) → v_19 = 0)) (fun v_19 => [(3, .int (nI (i - 2))), (2, .int (nI v_9)), (0, .ref (ia_h E 0)), (1, .int (nI i))]) (fun v_19 => [.int (nI v_19)]) (fun v_19 ls e_20 hl => ?_) (fun J_21 => ?_)
            · have e_20 : (zs_bslot g_8 i ≠ 0 ∧ zs_missed g_8 (i - 2) ≠ 0 → v_19 = 1) ∧ (¬ (zs_bslot g_8 i ≠ 0 ∧ zs_missed g_8 (i - 2) ≠ 0) → v_19 = 0) := e_20
              have hl : lv_has ls 5 [(3, .int (nI (i - 2))), (2, .int (nI v_9)), (0, .ref (ia_h E 0)), (1, .int (nI i))] := hl
              refine lv_istore (lv' := [(4, .int (nI v_19)), (3, .int (nI (i - 2))), (2, .int (nI v_9)), (0, .ref (ia_h E 0)), (1, .int (nI i))]) hx hb dX1_stand_204 hl (by decide) rfl (fun ls hl => ?_)
              refine lv_aload_n hx hb dX1_stand_206 rfl (lv_at hl 3 rfl) ?_
              refine im_get 11 (v := .ref (ia_h E 11)) hx hb ht hown hO (by decide) rfl zlX1_38 rfl dX1_stand_207 ?_
              refine lv_iload_n hx hb dX1_stand_210 rfl (lv_at hl 4 rfl) ?_
              refine zk_cut (nL := 5) 249 (fun v_22 => v_22 = zs_redir g_8 i) (fun v_22 => [(4, .int (nI v_19)), (3, .int (nI (i - 2))), (2, .int (nI v_9)), (0, .ref (ia_h E 0)), (1, .int (nI i))]) (fun v_22 => [.int (nI v_22), .int (nI i), .ref (ia_h E 11)]) (fun v_22 ls e_23 hl => ?_) (fun J_24 => ?_)
              · have e_23 : v_22 = zs_redir g_8 i := e_23
                have hl : lv_has ls 5 [(4, .int (nI v_19)), (3, .int (nI (i - 2))), (2, .int (nI v_9)), (0, .ref (ia_h E 0)), (1, .int (nI i))] := hl
                have bz_6 := zb_redir g_8 i
                refine im_zst 10 11 14 i v_22 hx hb hO hD hS rfl (im_set11 E n g_18 i v_22) (by omega) (by omega) dX1_stand_249 (fun H locs hO hD hS => ?_)
                have hg_25 : zm_B (ia_up g_18 14 i v_22) := zm_B_up hg_18 (by decide) (by omega)
                obtain ⟨g_25, eg_25⟩ : ∃ z, z = ia_up g_18 14 i v_22 := ⟨_, rfl⟩
                rw [← eg_25] at hO hD hg_25
                have fg_25 : g_25 14 i = v_22 := by rw [eg_25]; exact zs_up_at _ _ _ _
                exact im_vret hx hb hr hlk hO hD hS (by subst eg_25 eg_18 eg_8 eg_4; subst e_2 e_6 e_10 e_16 e_23; rfl) dX1_stand_250
              · refine lv_iload_n hx hb dX1_stand_211 rfl (lv_at hl 4 rfl) ?_
                refine zk_ifle (tgt := 248) hx hb dX1_stand_212 (by decide) (by omega) (fun c_26 => ?_) (fun c_26 => ?_)
                · refine lv_iconst (v := nI 0) hx hb dX1_stand_248 (by decide) ?_
                  exact J_24 0 ls (show 0 = zs_redir g_8 i from by unfold zs_redir zs_bfs zs_bsm; (repeat' split) <;> omega) (lv_sub hl [0, 1, 2, 3, 4] rfl)
                · refine lv_aload_n hx hb dX1_stand_215 rfl (lv_at hl 3 rfl) ?_
                  refine im_get 9 (v := .ref (ia_h E 9)) hx hb ht hown hO (by decide) rfl zlX1_32 rfl dX1_stand_216 ?_
                  refine lv_iload_n hx hb dX1_stand_219 rfl (lv_at hl 4 rfl) ?_
                  refine lv_iconst (v := nI 1) hx hb dX1_stand_220 (by decide) ?_
                  refine zk_sub hx hb (by omega) dX1_stand_221 ?_
                  refine im_zld 8 9 9 (i - 1) hx hb hO rfl (by omega) dX1_stand_222 ?_
                  have b_27 := hg_18.1 9 (i - 1) (by decide)
                  have r_28 : g_18 9 (i - 1) = g_8 9 (i - 1) := by rw [eg_18]; exact zs_up_ne (Or.inl (by decide))
                  have r_29 : g_8 9 (i - 1) = g_4 9 (i - 1) := by rw [eg_8]; exact zs_up_ne (Or.inr (by omega))
                  have r_30 : g_4 9 (i - 1) = g 9 (i - 1) := by rw [eg_4]; exact zs_up_ne (Or.inl (by decide))
                  refine zk_ifne (tgt := 244) hx hb dX1_stand_223 (by decide) (by omega) (fun c_31 => ?_) (fun c_31 => ?_)
                  · refine lv_iconst (v := nI 1) hx hb dX1_stand_244 (by decide) ?_
                    refine lv_goto (tgt := 249) hx hb dX1_stand_245 (by decide) ?_
                    exact J_24 1 ls (show 1 = zs_redir g_8 i from by unfold zs_redir zs_bfs zs_bsm; (repeat' split) <;> omega) (lv_sub hl [0, 1, 2, 3, 4] rfl)
                  · refine lv_aload_n hx hb dX1_stand_226 rfl (lv_at hl 3 rfl) ?_
                    refine im_get 2 (v := .ref (ia_h E 2)) hx hb ht hown hO (by decide) rfl zlX1_7 rfl dX1_stand_227 ?_
                    refine lv_iload_n hx hb dX1_stand_230 rfl (lv_at hl 4 rfl) ?_
                    refine lv_iconst (v := nI 1) hx hb dX1_stand_231 (by decide) ?_
                    refine zk_sub hx hb (by omega) dX1_stand_232 ?_
                    refine im_ild 1 2 1 (i - 1) hx hb hO rfl (by omega) dX1_stand_233 ?_
                    have b_32 := hg_18.1 1 (i - 1) (by decide)
                    have r_33 : g_18 1 (i - 1) = g_8 1 (i - 1) := by rw [eg_18]; exact zs_up_ne (Or.inl (by decide))
                    have r_34 : g_8 1 (i - 1) = g_4 1 (i - 1) := by rw [eg_8]; exact zs_up_ne (Or.inl (by decide))
                    have r_35 : g_4 1 (i - 1) = g 1 (i - 1) := by rw [eg_4]; exact zs_up_ne (Or.inl (by decide))
                    refine lv_bipush (v := nI 6) hx hb dX1_stand_234 (by decide) ?_
                    refine zk_ceq (tgt := 244) hx hb dX1_stand_236 (by decide) (by omega) (by omega) (fun c_36 => ?_) (fun c_36 => ?_)
                    · refine lv_iconst (v := nI 1) hx hb dX1_stand_244 (by decide) ?_
                      refine lv_goto (tgt := 249) hx hb dX1_stand_245 (by decide) ?_
                      exact J_24 1 ls (show 1 = zs_redir g_8 i from by unfold zs_redir zs_bfs zs_bsm; (repeat' split) <;> omega) (lv_sub hl [0, 1, 2, 3, 4] rfl)
                    · refine lv_iload hx hb dX1_stand_239 (lv_at hl 0 rfl) ?_
                      refine zk_ifeq (tgt := 248) hx hb dX1_stand_241 (by decide) (by omega) (fun c_37 => ?_) (fun c_37 => ?_)
                      · refine lv_iconst (v := nI 0) hx hb dX1_stand_248 (by decide) ?_
                        exact J_24 0 ls (show 0 = zs_redir g_8 i from by unfold zs_redir zs_bfs zs_bsm; (repeat' split) <;> omega) (lv_sub hl [0, 1, 2, 3, 4] rfl)
                      · refine lv_iconst (v := nI 1) hx hb dX1_stand_244 (by decide) ?_
                        refine lv_goto (tgt := 249) hx hb dX1_stand_245 (by decide) ?_
                        exact J_24 1 ls (show 1 = zs_redir g_8 i from by unfold zs_redir zs_bfs zs_bsm; (repeat' split) <;> omega) (lv_sub hl [0, 1, 2, 3, 4] rfl)
            · refine lv_iload_n hx hb dX1_stand_162 rfl (lv_at hl 1 rfl) ?_
              refine zk_ifeq (tgt := 203) hx hb dX1_stand_163 (by decide) (by omega) (fun c_38 => ?_) (fun c_38 => ?_)
              · refine lv_iconst (v := nI 0) hx hb dX1_stand_203 (by decide) ?_
                exact J_21 0 ls (show (zs_bslot g_8 i ≠ 0 ∧ zs_missed g_8 (i - 2) ≠ 0 → 0 = 1) ∧ (¬ (zs_bslot g_8 i ≠ 0 ∧ zs_missed g_8 (i - 2) ≠ 0) → 0 = 0) from by unfold zs_missed; (repeat' split) <;> omega) (lv_sub hl [0, 1, 2, 3] rfl)
              · refine lv_aload_n hx hb dX1_stand_166 rfl (lv_at hl 2 rfl) ?_
                refine im_get 6 (v := .ref (ia_h E 6)) hx hb ht hown hO (by decide) rfl zlX1_22 rfl dX1_stand_167 ?_
                refine lv_iload_n hx hb dX1_stand_170 rfl (lv_at hl 0 rfl) ?_
                refine im_ild 5 6 5 (i - 2) hx hb hO rfl (by omega) dX1_stand_171 ?_
                have b_39 := hg_18.1 5 (i - 2) (by decide)
                have r_40 : g_18 5 (i - 2) = g_8 5 (i - 2) := by rw [eg_18]; exact zs_up_ne (Or.inl (by decide))
                have r_41 : g_8 5 (i - 2) = g_4 5 (i - 2) := by rw [eg_8]; exact zs_up_ne (Or.inl (by decide))
                have r_42 : g_4 5 (i - 2) = g 5 (i - 2) := by rw [eg_4]; exact zs_up_ne (Or.inl (by decide))
                refine zk_ifeq (tgt := 199) hx hb dX1_stand_172 (by decide) (by omega) (fun c_43 => ?_) (fun c_43 => ?_)
                · refine lv_iconst (v := nI 1) hx hb dX1_stand_199 (by decide) ?_
                  refine lv_goto (tgt := 204) hx hb dX1_stand_200 (by decide) ?_
                  exact J_21 1 ls (show (zs_bslot g_8 i ≠ 0 ∧ zs_missed g_8 (i - 2) ≠ 0 → 1 = 1) ∧ (¬ (zs_bslot g_8 i ≠ 0 ∧ zs_missed g_8 (i - 2) ≠ 0) → 1 = 0) from by unfold zs_missed; (repeat' split) <;> omega) (lv_sub hl [0, 1, 2, 3] rfl)
                · refine lv_aload_n hx hb dX1_stand_175 rfl (lv_at hl 2 rfl) ?_
                  refine im_get 6 (v := .ref (ia_h E 6)) hx hb ht hown hO (by decide) rfl zlX1_22 rfl dX1_stand_176 ?_
                  refine lv_iload_n hx hb dX1_stand_179 rfl (lv_at hl 0 rfl) ?_
                  refine im_ild 5 6 5 (i - 2) hx hb hO rfl (by omega) dX1_stand_180 ?_
                  have b_44 := hg_18.1 5 (i - 2) (by decide)
                  have r_45 : g_18 5 (i - 2) = g_8 5 (i - 2) := by rw [eg_18]; exact zs_up_ne (Or.inl (by decide))
                  have r_46 : g_8 5 (i - 2) = g_4 5 (i - 2) := by rw [eg_8]; exact zs_up_ne (Or.inl (by decide))
                  have r_47 : g_4 5 (i - 2) = g 5 (i - 2) := by rw [eg_4]; exact zs_up_ne (Or.inl (by decide))
                  refine lv_iconst (v := nI 1) hx hb dX1_stand_181 (by decide) ?_
                  refine zk_cne (tgt := 189) hx hb dX1_stand_182 (by decide) (by omega) (by omega) (fun c_48 => ?_) (fun c_48 => ?_)
                  · refine lv_iconst (v := nI 0) hx hb dX1_stand_189 (by decide) ?_
                    refine lv_aload_n hx hb dX1_stand_190 rfl (lv_at hl 2 rfl) ?_
                    refine im_get 7 (v := .ref (ia_h E 7)) hx hb ht hown hO (by decide) rfl zlX1_25 rfl dX1_stand_191 ?_
                    refine lv_iload_n hx hb dX1_stand_194 rfl (lv_at hl 0 rfl) ?_
                    refine im_zld 6 7 6 (i - 2) hx hb hO rfl (by omega) dX1_stand_195 ?_
                    have b_49 := hg_18.1 6 (i - 2) (by decide)
                    have r_50 : g_18 6 (i - 2) = g_8 6 (i - 2) := by rw [eg_18]; exact zs_up_ne (Or.inl (by decide))
                    have r_51 : g_8 6 (i - 2) = g_4 6 (i - 2) := by rw [eg_8]; exact zs_up_ne (Or.inl (by decide))
                    have r_52 : g_4 6 (i - 2) = g 6 (i - 2) := by rw [eg_4]; exact zs_up_ne (Or.inl (by decide))
                    refine zk_ceq (tgt := 203) hx hb dX1_stand_196 (by decide) (by omega) (by omega) (fun c_53 => ?_) (fun c_53 => ?_)
                    · refine lv_iconst (v := nI 0) hx hb dX1_stand_203 (by decide) ?_
                      exact J_21 0 ls (show (zs_bslot g_8 i ≠ 0 ∧ zs_missed g_8 (i - 2) ≠ 0 → 0 = 1) ∧ (¬ (zs_bslot g_8 i ≠ 0 ∧ zs_missed g_8 (i - 2) ≠ 0) → 0 = 0) from by unfold zs_missed; (repeat' split) <;> omega) (lv_sub hl [0, 1, 2, 3] rfl)
                    · refine lv_iconst (v := nI 1) hx hb dX1_stand_199 (by decide) ?_
                      refine lv_goto (tgt := 204) hx hb dX1_stand_200 (by decide) ?_
                      exact J_21 1 ls (show (zs_bslot g_8 i ≠ 0 ∧ zs_missed g_8 (i - 2) ≠ 0 → 1 = 1) ∧ (¬ (zs_bslot g_8 i ≠ 0 ∧ zs_missed g_8 (i - 2) ≠ 0) → 1 = 0) from by unfold zs_missed; (repeat' split) <;> omega) (lv_sub hl [0, 1, 2, 3] rfl)
                  · refine lv_iconst (v := nI 1) hx hb dX1_stand_185 (by decide) ?_
                    refine lv_goto (tgt := 190) hx hb dX1_stand_186 (by decide) ?_
                    refine lv_aload_n hx hb dX1_stand_190 rfl (lv_at hl 2 rfl) ?_
                    refine im_get 7 (v := .ref (ia_h E 7)) hx hb ht hown hO (by decide) rfl zlX1_25 rfl dX1_stand_191 ?_
                    refine lv_iload_n hx hb dX1_stand_194 rfl (lv_at hl 0 rfl) ?_
                    refine im_zld 6 7 6 (i - 2) hx hb hO rfl (by omega) dX1_stand_195 ?_
                    have b_54 := hg_18.1 6 (i - 2) (by decide)
                    have r_55 : g_18 6 (i - 2) = g_8 6 (i - 2) := by rw [eg_18]; exact zs_up_ne (Or.inl (by decide))
                    have r_56 : g_8 6 (i - 2) = g_4 6 (i - 2) := by rw [eg_8]; exact zs_up_ne (Or.inl (by decide))
                    have r_57 : g_4 6 (i - 2) = g 6 (i - 2) := by rw [eg_4]; exact zs_up_ne (Or.inl (by decide))
                    refine zk_ceq (tgt := 203) hx hb dX1_stand_196 (by decide) (by omega) (by omega) (fun c_58 => ?_) (fun c_58 => ?_)
                    · refine lv_iconst (v := nI 0) hx hb dX1_stand_203 (by decide) ?_
                      exact J_21 0 ls (show (zs_bslot g_8 i ≠ 0 ∧ zs_missed g_8 (i - 2) ≠ 0 → 0 = 1) ∧ (¬ (zs_bslot g_8 i ≠ 0 ∧ zs_missed g_8 (i - 2) ≠ 0) → 0 = 0) from by unfold zs_missed; (repeat' split) <;> omega) (lv_sub hl [0, 1, 2, 3] rfl)
                    · refine lv_iconst (v := nI 1) hx hb dX1_stand_199 (by decide) ?_
                      refine lv_goto (tgt := 204) hx hb dX1_stand_200 (by decide) ?_
                      exact J_21 1 ls (show (zs_bslot g_8 i ≠ 0 ∧ zs_missed g_8 (i - 2) ≠ 0 → 1 = 1) ∧ (¬ (zs_bslot g_8 i ≠ 0 ∧ zs_missed g_8 (i - 2) ≠ 0) → 1 = 0) from by unfold zs_missed; (repeat' split) <;> omega) (lv_sub hl [0, 1, 2, 3] rfl)
          · refine lv_iload_n hx hb dX1_stand_128 rfl (lv_at hl 3 rfl) ?_
            refine zk_ifle (tgt := 160) hx hb dX1_stand_129 (by decide) (by omega) (fun c_59 => ?_) (fun c_59 => ?_)
            · refine lv_iconst (v := nI 0) hx hb dX1_stand_160 (by decide) ?_
              exact J_17 0 ls (show 0 = zs_lies g_8 i from by unfold zs_lies; (repeat' split) <;> omega) (lv_sub hl [0, 1, 2, 3] rfl)
            · refine lv_aload_n hx hb dX1_stand_132 rfl (lv_at hl 2 rfl) ?_
              refine im_get 9 (v := .ref (ia_h E 9)) hx hb ht hown hO (by decide) rfl zlX1_32 rfl dX1_stand_133 ?_
              refine lv_iload_n hx hb dX1_stand_136 rfl (lv_at hl 3 rfl) ?_
              refine lv_iconst (v := nI 1) hx hb dX1_stand_137 (by decide) ?_
              refine zk_sub hx hb (by omega) dX1_stand_138 ?_
              refine im_zld 8 9 9 (i - 1) hx hb hO rfl (by omega) dX1_stand_139 ?_
              have b_60 := hg_8.1 9 (i - 1) (by decide)
              have r_61 : g_8 9 (i - 1) = g_4 9 (i - 1) := by rw [eg_8]; exact zs_up_ne (Or.inr (by omega))
              have r_62 : g_4 9 (i - 1) = g 9 (i - 1) := by rw [eg_4]; exact zs_up_ne (Or.inl (by decide))
              refine zk_ifne (tgt := 160) hx hb dX1_stand_140 (by decide) (by omega) (fun c_63 => ?_) (fun c_63 => ?_)
              · refine lv_iconst (v := nI 0) hx hb dX1_stand_160 (by decide) ?_
                exact J_17 0 ls (show 0 = zs_lies g_8 i from by unfold zs_lies; (repeat' split) <;> omega) (lv_sub hl [0, 1, 2, 3] rfl)
              · refine lv_iload_n hx hb dX1_stand_143 rfl (lv_at hl 1 rfl) ?_
                refine zk_ifeq (tgt := 156) hx hb dX1_stand_144 (by decide) (by omega) (fun c_64 => ?_) (fun c_64 => ?_)
                · refine lv_iconst (v := nI 1) hx hb dX1_stand_156 (by decide) ?_
                  refine lv_goto (tgt := 161) hx hb dX1_stand_157 (by decide) ?_
                  exact J_17 1 ls (show 1 = zs_lies g_8 i from by unfold zs_lies; (repeat' split) <;> omega) (lv_sub hl [0, 1, 2, 3] rfl)
                · refine lv_aload_n hx hb dX1_stand_147 rfl (lv_at hl 2 rfl) ?_
                  refine im_get 7 (v := .ref (ia_h E 7)) hx hb ht hown hO (by decide) rfl zlX1_25 rfl dX1_stand_148 ?_
                  refine lv_iload_n hx hb dX1_stand_151 rfl (lv_at hl 0 rfl) ?_
                  refine im_zld 6 7 6 (i - 2) hx hb hO rfl (by omega) dX1_stand_152 ?_
                  have b_65 := hg_8.1 6 (i - 2) (by decide)
                  have r_66 : g_8 6 (i - 2) = g_4 6 (i - 2) := by rw [eg_8]; exact zs_up_ne (Or.inl (by decide))
                  have r_67 : g_4 6 (i - 2) = g 6 (i - 2) := by rw [eg_4]; exact zs_up_ne (Or.inl (by decide))
                  refine zk_ifne (tgt := 160) hx hb dX1_stand_153 (by decide) (by omega) (fun c_68 => ?_) (fun c_68 => ?_)
                  · refine lv_iconst (v := nI 0) hx hb dX1_stand_160 (by decide) ?_
                    exact J_17 0 ls (show 0 = zs_lies g_8 i from by unfold zs_lies; (repeat' split) <;> omega) (lv_sub hl [0, 1, 2, 3] rfl)
                  · refine lv_iconst (v := nI 1) hx hb dX1_stand_156 (by decide) ?_
                    refine lv_goto (tgt := 161) hx hb dX1_stand_157 (by decide) ?_
                    exact J_17 1 ls (show 1 = zs_lies g_8 i from by unfold zs_lies; (repeat' split) <;> omega) (lv_sub hl [0, 1, 2, 3] rfl)
        · refine lv_iload_n hx hb dX1_stand_110 rfl (lv_at hl 2 rfl) ?_
          refine lv_iconst (v := nI 1) hx hb dX1_stand_111 (by decide) ?_
          refine zk_cle (tgt := 121) hx hb dX1_stand_112 (by decide) (by omega) (by omega) (fun c_69 => ?_) (fun c_69 => ?_)
          · refine lv_iconst (v := nI 0) hx hb dX1_stand_121 (by decide) ?_
            exact J_14 0 ls (show 0 = i - 2 from by omega) (lv_sub hl [0, 1, 2] rfl)
          · refine lv_iload_n hx hb dX1_stand_115 rfl (lv_at hl 2 rfl) ?_
            refine lv_iconst (v := nI 2) hx hb dX1_stand_116 (by decide) ?_
            refine zk_sub hx hb (by omega) dX1_stand_117 ?_
            refine lv_goto (tgt := 122) hx hb dX1_stand_118 (by decide) ?_
            exact J_14 (i - 2) ls (show (i - 2) = i - 2 from by omega) (lv_sub hl [0, 1, 2] rfl)
      · refine lv_iload_n hx hb dX1_stand_88 rfl (lv_at hl 1 rfl) ?_
        refine lv_iconst (v := nI 1) hx hb dX1_stand_89 (by decide) ?_
        refine zk_cle (tgt := 108) hx hb dX1_stand_90 (by decide) (by omega) (by omega) (fun c_70 => ?_) (fun c_70 => ?_)
        · refine lv_iconst (v := nI 0) hx hb dX1_stand_108 (by decide) ?_
          exact J_11 0 ls (show 0 = zs_bslot g_8 i from by unfold zs_bslot; (repeat' split) <;> omega) (lv_sub hl [0, 1] rfl)
        · refine lv_aload_n hx hb dX1_stand_93 rfl (lv_at hl 0 rfl) ?_
          refine im_get 10 (v := .ref (ia_h E 10)) hx hb ht hown hO (by decide) rfl zlX1_35 rfl dX1_stand_94 ?_
          refine lv_iload_n hx hb dX1_stand_97 rfl (lv_at hl 1 rfl) ?_
          refine lv_iconst (v := nI 1) hx hb dX1_stand_98 (by decide) ?_
          refine zk_sub hx hb (by omega) dX1_stand_99 ?_
          refine im_zld 9 10 8 (i - 1) hx hb hO rfl (by omega) dX1_stand_100 ?_
          have b_71 := hg_8.1 8 (i - 1) (by decide)
          have r_72 : g_8 8 (i - 1) = g_4 8 (i - 1) := by rw [eg_8]; exact zs_up_ne (Or.inl (by decide))
          have r_73 : g_4 8 (i - 1) = g 8 (i - 1) := by rw [eg_4]; exact zs_up_ne (Or.inr (by omega))
          refine zk_ifeq (tgt := 108) hx hb dX1_stand_101 (by decide) (by omega) (fun c_74 => ?_) (fun c_74 => ?_)
          · refine lv_iconst (v := nI 0) hx hb dX1_stand_108 (by decide) ?_
            exact J_11 0 ls (show 0 = zs_bslot g_8 i from by unfold zs_bslot; (repeat' split) <;> omega) (lv_sub hl [0, 1] rfl)
          · refine lv_iconst (v := nI 1) hx hb dX1_stand_104 (by decide) ?_
            refine lv_goto (tgt := 109) hx hb dX1_stand_105 (by decide) ?_
            exact J_11 1 ls (show 1 = zs_bslot g_8 i from by unfold zs_bslot; (repeat' split) <;> omega) (lv_sub hl [0, 1] rfl)
    · refine lv_aload_n hx hb dX1_stand_43 rfl (lv_at hl 0 rfl) ?_
      refine im_get 8 (v := .ref (ia_h E 8)) hx hb ht hown hO (by decide) rfl zlX1_29 rfl dX1_stand_44 ?_
      refine lv_iload_n hx hb dX1_stand_47 rfl (lv_at hl 1 rfl) ?_
      refine im_zld 7 8 7 i hx hb hO rfl (by omega) dX1_stand_48 ?_
      have b_75 := hg_4.1 7 i (by decide)
      have r_76 : g_4 7 i = g 7 i := by rw [eg_4]; exact zs_up_ne (Or.inl (by decide))
      refine zk_ifne (tgt := 82) hx hb dX1_stand_49 (by decide) (by omega) (fun c_77 => ?_) (fun c_77 => ?_)
      · refine lv_iconst (v := nI 1) hx hb dX1_stand_82 (by decide) ?_
        refine lv_goto (tgt := 87) hx hb dX1_stand_83 (by decide) ?_
        exact J_7 1 ls (show 1 = zs_fail g_4 i from by unfold zs_fail; (repeat' split) <;> omega) (lv_sub hl [0, 1] rfl)
      · refine lv_aload_n hx hb dX1_stand_52 rfl (lv_at hl 0 rfl) ?_
        refine im_get 2 (v := .ref (ia_h E 2)) hx hb ht hown hO (by decide) rfl zlX1_7 rfl dX1_stand_53 ?_
        refine lv_iload_n hx hb dX1_stand_56 rfl (lv_at hl 1 rfl) ?_
        refine im_ild 1 2 1 i hx hb hO rfl (by omega) dX1_stand_57 ?_
        have b_78 := hg_4.1 1 i (by decide)
        have r_79 : g_4 1 i = g 1 i := by rw [eg_4]; exact zs_up_ne (Or.inl (by decide))
        refine lv_bipush (v := nI 7) hx hb dX1_stand_58 (by decide) ?_
        refine zk_ceq (tgt := 82) hx hb dX1_stand_60 (by decide) (by omega) (by omega) (fun c_80 => ?_) (fun c_80 => ?_)
        · refine lv_iconst (v := nI 1) hx hb dX1_stand_82 (by decide) ?_
          refine lv_goto (tgt := 87) hx hb dX1_stand_83 (by decide) ?_
          exact J_7 1 ls (show 1 = zs_fail g_4 i from by unfold zs_fail; (repeat' split) <;> omega) (lv_sub hl [0, 1] rfl)
        · refine lv_aload_n hx hb dX1_stand_63 rfl (lv_at hl 0 rfl) ?_
          refine im_get 2 (v := .ref (ia_h E 2)) hx hb ht hown hO (by decide) rfl zlX1_7 rfl dX1_stand_64 ?_
          refine lv_iload_n hx hb dX1_stand_67 rfl (lv_at hl 1 rfl) ?_
          refine im_ild 1 2 1 i hx hb hO rfl (by omega) dX1_stand_68 ?_
          have b_81 := hg_4.1 1 i (by decide)
          have r_82 : g_4 1 i = g 1 i := by rw [eg_4]; exact zs_up_ne (Or.inl (by decide))
          refine lv_iconst (v := nI 5) hx hb dX1_stand_69 (by decide) ?_
          refine zk_cne (tgt := 86) hx hb dX1_stand_70 (by decide) (by omega) (by omega) (fun c_83 => ?_) (fun c_83 => ?_)
          · refine lv_iconst (v := nI 0) hx hb dX1_stand_86 (by decide) ?_
            exact J_7 0 ls (show 0 = zs_fail g_4 i from by unfold zs_fail; (repeat' split) <;> omega) (lv_sub hl [0, 1] rfl)
          · refine lv_aload_n hx hb dX1_stand_73 rfl (lv_at hl 0 rfl) ?_
            refine im_get 10 (v := .ref (ia_h E 10)) hx hb ht hown hO (by decide) rfl zlX1_35 rfl dX1_stand_74 ?_
            refine lv_iload_n hx hb dX1_stand_77 rfl (lv_at hl 1 rfl) ?_
            refine im_zld 9 10 8 i hx hb hO rfl (by omega) dX1_stand_78 ?_
            have b_84 := hg_4.1 8 i (by decide)
            refine zk_ifeq (tgt := 86) hx hb dX1_stand_79 (by decide) (by omega) (fun c_85 => ?_) (fun c_85 => ?_)
            · refine lv_iconst (v := nI 0) hx hb dX1_stand_86 (by decide) ?_
              exact J_7 0 ls (show 0 = zs_fail g_4 i from by unfold zs_fail; (repeat' split) <;> omega) (lv_sub hl [0, 1] rfl)
            · refine lv_iconst (v := nI 1) hx hb dX1_stand_82 (by decide) ?_
              refine lv_goto (tgt := 87) hx hb dX1_stand_83 (by decide) ?_
              exact J_7 1 ls (show 1 = zs_fail g_4 i from by unfold zs_fail; (repeat' split) <;> omega) (lv_sub hl [0, 1] rfl)
  · refine lv_iload_n hx hb dX1_stand_5 rfl (lv_at hl 1 rfl) ?_
    refine zk_ifle (tgt := 36) hx hb dX1_stand_6 (by decide) (by omega) (fun c_86 => ?_) (fun c_86 => ?_)
    · refine lv_iconst (v := nI 0) hx hb dX1_stand_36 (by decide) ?_
      exact J_3 0 ls (show 0 = zs_slot g i from by unfold zs_slot; (repeat' split) <;> omega) (lv_sub hl [0, 1] rfl)
    · refine lv_aload_n hx hb dX1_stand_9 rfl (lv_at hl 0 rfl) ?_
      refine im_get 2 (v := .ref (ia_h E 2)) hx hb ht hown hO (by decide) rfl zlX1_7 rfl dX1_stand_10 ?_
      refine lv_iload_n hx hb dX1_stand_13 rfl (lv_at hl 1 rfl) ?_
      refine lv_iconst (v := nI 1) hx hb dX1_stand_14 (by decide) ?_
      refine zk_sub hx hb (by omega) dX1_stand_15 ?_
      refine im_ild 1 2 1 (i - 1) hx hb hO rfl (by omega) dX1_stand_16 ?_
      have b_87 := hg.1 1 (i - 1) (by decide)
      refine lv_iconst (v := nI 5) hx hb dX1_stand_17 (by decide) ?_
      refine zk_cne (tgt := 36) hx hb dX1_stand_18 (by decide) (by omega) (by omega) (fun c_88 => ?_) (fun c_88 => ?_)
      · refine lv_iconst (v := nI 0) hx hb dX1_stand_36 (by decide) ?_
        exact J_3 0 ls (show 0 = zs_slot g i from by unfold zs_slot; (repeat' split) <;> omega) (lv_sub hl [0, 1] rfl)
      · refine lv_aload_n hx hb dX1_stand_21 rfl (lv_at hl 0 rfl) ?_
        refine im_get 9 (v := .ref (ia_h E 9)) hx hb ht hown hO (by decide) rfl zlX1_32 rfl dX1_stand_22 ?_
        refine lv_iload_n hx hb dX1_stand_25 rfl (lv_at hl 1 rfl) ?_
        refine lv_iconst (v := nI 1) hx hb dX1_stand_26 (by decide) ?_
        refine zk_sub hx hb (by omega) dX1_stand_27 ?_
        refine im_zld 8 9 9 (i - 1) hx hb hO rfl (by omega) dX1_stand_28 ?_
        have b_89 := hg.1 9 (i - 1) (by decide)
        refine zk_ifne (tgt := 36) hx hb dX1_stand_29 (by decide) (by omega) (fun c_90 => ?_) (fun c_90 => ?_)
        · refine lv_iconst (v := nI 0) hx hb dX1_stand_36 (by decide) ?_
          exact J_3 0 ls (show 0 = zs_slot g i from by unfold zs_slot; (repeat' split) <;> omega) (lv_sub hl [0, 1] rfl)
        · refine lv_iconst (v := nI 1) hx hb dX1_stand_32 (by decide) ?_
          refine lv_goto (tgt := 37) hx hb dX1_stand_33 (by decide) ?_
          exact J_3 1 ls (show 1 = zs_slot g i from by unfold zs_slot; (repeat' split) <;> omega) (lv_sub hl [0, 1] rfl)
set_option maxHeartbeats 4000000 in
set_option maxRecDepth 100000 in
/-- the reference: fetch -/
theorem zmc_fetch (l : Launch) (E : ia_E) (n : Nat) (g : Nat → Nat → Nat) (hg : zm_B g) (i : Nat) (hi : i < 400) (h14 : (g 14 i ≠ 0 → 0 < i) ∧ (g 14 i ≠ 0 → g 9 (i - 1) = 0 → g 1 (i - 1) ≠ 6 → 1 < i)) (sz : Nat) : im_V l yX1_fetch cX1_fetch 2 1 E n g sz [.int (nI i)] (n) (zm_fetch g i) := by
  refine im_Vof (by decide) rfl (Nat.le_of_ble_eq_true rfl) (fun p e s m args below meth c ls A hx hb hr hml hown ht hlk hA hO hD hS hl => ?_)
  have hl : lv_has ls 2 [(0, .ref (ia_h E 0)), (1, .int (nI i))] := hl
  refine lv_aload_n hx hb dX1_fetch_0 rfl (lv_at hl 0 rfl) ?_
  refine im_get 16 (v := .ref (ia_h E 16)) hx hb ht hown hO (by decide) rfl zlX1_53 rfl dX1_fetch_1 ?_
  refine lv_iload_n hx hb dX1_fetch_4 rfl (lv_at hl 1 rfl) ?_
  refine zk_cut (nL := 2) 18 (fun v_1 => v_1 = zm_begin g i) (fun v_1 => [(0, .ref (ia_h E 0)), (1, .int (nI i))]) (fun v_1 => [.int (nI v_1), .int (nI i), .ref (ia_h E 16)]) (fun v_1 ls e_2 hl => ?_) (fun J_3 => ?_)
  · have e_2 : v_1 = zm_begin g i := e_2
    have hl : lv_has ls 2 [(0, .ref (ia_h E 0)), (1, .int (nI i))] := hl
    have bz_1 := zbm_begin0 g i
    refine im_zst 15 16 10 i v_1 hx hb hO hD hS rfl (im_set16 E n g i v_1) (by omega) (by omega) dX1_fetch_18 (fun H locs hO hD hS => ?_)
    have hg_4 : zm_B (ia_up g 10 i v_1) := zm_B_up hg (by decide) (by omega)
    obtain ⟨g_4, eg_4⟩ : ∃ z, z = ia_up g 10 i v_1 := ⟨_, rfl⟩
    rw [← eg_4] at hO hD hg_4
    have fg_4 : g_4 10 i = v_1 := by rw [eg_4]; exact zs_up_at _ _ _ _
    refine lv_aload_n hx hb dX1_fetch_19 rfl (lv_at hl 0 rfl) ?_
    refine im_get 16 (v := .ref (ia_h E 16)) hx hb ht hown hO (by decide) rfl zlX1_53 rfl dX1_fetch_20 ?_
    refine lv_iload_n hx hb dX1_fetch_23 rfl (lv_at hl 1 rfl) ?_
    refine im_zld 15 16 10 i hx hb hO rfl (by omega) dX1_fetch_24 ?_
    have b_5 := hg_4.1 10 i (by decide)
    refine zk_ifne (tgt := 43) hx hb dX1_fetch_25 (by decide) (by omega) (fun c_6 => ?_) (fun c_6 => ?_)
    · refine lv_aload_n hx hb dX1_fetch_43 rfl (lv_at hl 0 rfl) ?_
      refine im_get 13 (v := .ref (ia_h E 13)) hx hb ht hown hO (by decide) rfl zlX1_44 rfl dX1_fetch_44 ?_
      refine lv_iload_n hx hb dX1_fetch_47 rfl (lv_at hl 1 rfl) ?_
      refine zk_cut (nL := 2) 66 (fun v_7 => v_7 = zm_Fa g_4 i) (fun v_7 => [(0, .ref (ia_h E 0)), (1, .int (nI i))]) (fun v_7 => [.int (nI v_7), .int (nI i), .ref (ia_h E 13)]) (fun v_7 ls e_8 hl => ?_) (fun J_9 => ?_)
      · have e_8 : v_7 = zm_Fa g_4 i := e_8
        have hl : lv_has ls 2 [(0, .ref (ia_h E 0)), (1, .int (nI i))] := hl
        have bz_2 := zbm_Fa hg_4 i
        refine im_ist 12 13 11 i v_7 hx hb hO hD hS rfl (im_set13 E n g_4 i v_7) (by omega) dX1_fetch_66 (fun H locs hO hD hS => ?_)
        have hg_10 : zm_B (ia_up g_4 11 i v_7) := zm_B_up hg_4 (by decide) (by omega)
        obtain ⟨g_10, eg_10⟩ : ∃ z, z = ia_up g_4 11 i v_7 := ⟨_, rfl⟩
        rw [← eg_10] at hO hD hg_10
        have fg_10 : g_10 11 i = v_7 := by rw [eg_10]; exact zs_up_at _ _ _ _
        refine zk_cutH (nL := 2) 97 (fun v_11 H locs => v_11 = zm_Fb g_4 i ∧ im_O E n (ia_up g_4 11 i v_11) s H ∧ va_D A (im_w E n (ia_up g_4 11 i v_11)) ∧ va_S A s.heap H locs) [(0, .ref (ia_h E 0)), (1, .int (nI i))] (fun v_11 H locs ls hI hl => ?_) (fun J_12 => ?_)
        · obtain ⟨e_13, hO, hD, hS⟩ := hI
          have hl : lv_has ls 2 [(0, .ref (ia_h E 0)), (1, .int (nI i))] := hl
          have b_15 := zbm_Fb hg_4 i
          have hg_14 : zm_B (ia_up g_4 11 i v_11) := zm_B_up hg_4 (by decide) (by omega)
          obtain ⟨g_14, eg_14⟩ : ∃ z, z = ia_up g_4 11 i v_11 := ⟨_, rfl⟩
          rw [← eg_14] at hO hD hg_14
          have fg_14 : g_14 11 i = v_11 := by rw [eg_14]; exact zs_up_at _ _ _ _
          refine lv_aload_n hx hb dX1_fetch_97 rfl (lv_at hl 0 rfl) ?_
          refine im_get 11 (v := .ref (ia_h E 11)) hx hb ht hown hO (by decide) rfl zlX1_38 rfl dX1_fetch_98 ?_
          refine lv_iload_n hx hb dX1_fetch_101 rfl (lv_at hl 1 rfl) ?_
          refine im_zld 10 11 14 i hx hb hO rfl (by omega) dX1_fetch_102 ?_
          have b_16 := hg_14.1 14 i (by decide)
          have r_17 : g_14 14 i = g_4 14 i := by rw [eg_14]; exact zs_up_ne (Or.inl (by decide))
          have r_18 : g_4 14 i = g 14 i := by rw [eg_4]; exact zs_up_ne (Or.inl (by decide))
          refine zk_ifeq (tgt := 158) hx hb dX1_fetch_103 (by decide) (by omega) (fun c_19 => ?_) (fun c_19 => ?_)
          · refine lv_aload_n hx hb dX1_fetch_158 rfl (lv_at hl 0 rfl) ?_
            refine im_get 11 (v := .ref (ia_h E 11)) hx hb ht hown hO (by decide) rfl zlX1_38 rfl dX1_fetch_159 ?_
            refine lv_iload_n hx hb dX1_fetch_162 rfl (lv_at hl 1 rfl) ?_
            refine im_zld 10 11 14 i hx hb hO rfl (by omega) dX1_fetch_163 ?_
            have b_20 := hg_14.1 14 i (by decide)
            have r_21 : g_14 14 i = g_4 14 i := by rw [eg_14]; exact zs_up_ne (Or.inl (by decide))
            have r_22 : g_4 14 i = g 14 i := by rw [eg_4]; exact zs_up_ne (Or.inl (by decide))
            refine zk_ifeq (tgt := 192) hx hb dX1_fetch_164 (by decide) (by omega) (fun c_23 => ?_) (fun c_23 => ?_)
            · exact im_vret hx hb hr hlk hO hD hS (by rw [eg_14, show v_11 = zm_F g_4 i from by unfold zm_F; (repeat' split) <;> omega]; subst eg_4; subst e_2; rfl) dX1_fetch_192
            · refine lv_aload_n hx hb dX1_fetch_167 rfl (lv_at hl 0 rfl) ?_
              refine im_get 13 (v := .ref (ia_h E 13)) hx hb ht hown hO (by decide) rfl zlX1_44 rfl dX1_fetch_168 ?_
              refine lv_iload_n hx hb dX1_fetch_171 rfl (lv_at hl 1 rfl) ?_
              refine lv_aload_n hx hb dX1_fetch_172 rfl (lv_at hl 0 rfl) ?_
              refine im_get 13 (v := .ref (ia_h E 13)) hx hb ht hown hO (by decide) rfl zlX1_44 rfl dX1_fetch_173 ?_
              refine lv_iload_n hx hb dX1_fetch_176 rfl (lv_at hl 1 rfl) ?_
              refine im_ild 12 13 11 i hx hb hO rfl (by omega) dX1_fetch_177 ?_
              have b_24 := hg_14.1 11 i (by decide)
              refine lv_aload_n hx hb dX1_fetch_178 rfl (lv_at hl 0 rfl) ?_
              refine im_get 14 (v := .ref (ia_h E 14)) hx hb ht hown hO (by decide) rfl zlX1_47 rfl dX1_fetch_179 ?_
              refine lv_iload_n hx hb dX1_fetch_182 rfl (lv_at hl 1 rfl) ?_
              refine lv_iconst (v := nI 2) hx hb dX1_fetch_183 (by decide) ?_
              refine zk_sub hx hb (by omega) dX1_fetch_184 ?_
              refine im_ild 13 14 12 (i - 2) hx hb hO rfl (by omega) dX1_fetch_185 ?_
              have b_25 := hg_14.1 12 (i - 2) (by decide)
              have r_26 : g_14 12 (i - 2) = g_4 12 (i - 2) := by rw [eg_14]; exact zs_up_ne (Or.inl (by decide))
              have r_27 : g_4 12 (i - 2) = g 12 (i - 2) := by rw [eg_4]; exact zs_up_ne (Or.inl (by decide))
              refine lv_iconst (v := nI 2) hx hb dX1_fetch_186 (by decide) ?_
              refine zk_add hx hb dX1_fetch_187 ?_
              refine im_callS (rest := [.int (nI i), .ref (ia_h E 13)]) hx hb hml hl.1 hown ht (zmc_later l (g_14 11 i) ((g_14 12 (i - 2)) + 2) (by omega) (by omega)) zgX1_83 zyX1_later rfl ⟨by decide, by decide⟩ ⟨Nat.zero_le _, Nat.zero_le _⟩ (Nat.le_of_ble_eq_true rfl) rfl dX1_fetch_188 ?_
              refine zk_topn (fun x_28 ex_28 => ?_)
              refine im_ist 12 13 11 i x_28 hx hb hO hD hS rfl (im_set13 E n g_14 i x_28) (by omega) dX1_fetch_191 (fun H locs hO hD hS => ?_)
              rw [eg_14, zm_upup] at hO hD
              have hg_29 : zm_B (ia_up g_4 11 i x_28) := zm_B_up hg_4 (by decide) (by omega)
              obtain ⟨g_29, eg_29⟩ : ∃ z, z = ia_up g_4 11 i x_28 := ⟨_, rfl⟩
              rw [← eg_29] at hO hD hg_29
              have fg_29 : g_29 11 i = x_28 := by rw [eg_29]; exact zs_up_at _ _ _ _
              exact im_vret hx hb hr hlk hO hD hS (by rw [eg_29, show x_28 = zm_F g_4 i from by unfold zm_F; (repeat' split) <;> omega]; subst eg_4; subst e_2; rfl) dX1_fetch_192
          · refine lv_aload_n hx hb dX1_fetch_106 rfl (lv_at hl 0 rfl) ?_
            refine im_get 9 (v := .ref (ia_h E 9)) hx hb ht hown hO (by decide) rfl zlX1_32 rfl dX1_fetch_107 ?_
            refine lv_iload_n hx hb dX1_fetch_110 rfl (lv_at hl 1 rfl) ?_
            refine lv_iconst (v := nI 1) hx hb dX1_fetch_111 (by decide) ?_
            refine zk_sub hx hb (by omega) dX1_fetch_112 ?_
            refine im_zld 8 9 9 (i - 1) hx hb hO rfl (by omega) dX1_fetch_113 ?_
            have b_30 := hg_14.1 9 (i - 1) (by decide)
            have r_31 : g_14 9 (i - 1) = g_4 9 (i - 1) := by rw [eg_14]; exact zs_up_ne (Or.inl (by decide))
            have r_32 : g_4 9 (i - 1) = g 9 (i - 1) := by rw [eg_4]; exact zs_up_ne (Or.inl (by decide))
            refine zk_ifne (tgt := 130) hx hb dX1_fetch_114 (by decide) (by omega) (fun c_33 => ?_) (fun c_33 => ?_)
            · refine lv_aload_n hx hb dX1_fetch_130 rfl (lv_at hl 0 rfl) ?_
              refine im_get 13 (v := .ref (ia_h E 13)) hx hb ht hown hO (by decide) rfl zlX1_44 rfl dX1_fetch_131 ?_
              refine lv_iload_n hx hb dX1_fetch_134 rfl (lv_at hl 1 rfl) ?_
              refine lv_aload_n hx hb dX1_fetch_135 rfl (lv_at hl 0 rfl) ?_
              refine im_get 13 (v := .ref (ia_h E 13)) hx hb ht hown hO (by decide) rfl zlX1_44 rfl dX1_fetch_136 ?_
              refine lv_iload_n hx hb dX1_fetch_139 rfl (lv_at hl 1 rfl) ?_
              refine im_ild 12 13 11 i hx hb hO rfl (by omega) dX1_fetch_140 ?_
              have b_34 := hg_14.1 11 i (by decide)
              refine lv_aload_n hx hb dX1_fetch_141 rfl (lv_at hl 0 rfl) ?_
              refine im_get 15 (v := .ref (ia_h E 15)) hx hb ht hown hO (by decide) rfl zlX1_50 rfl dX1_fetch_142 ?_
              refine lv_iload_n hx hb dX1_fetch_145 rfl (lv_at hl 1 rfl) ?_
              refine lv_iconst (v := nI 1) hx hb dX1_fetch_146 (by decide) ?_
              refine zk_sub hx hb (by omega) dX1_fetch_147 ?_
              refine im_ild 14 15 13 (i - 1) hx hb hO rfl (by omega) dX1_fetch_148 ?_
              have b_35 := hg_14.1 13 (i - 1) (by decide)
              have r_36 : g_14 13 (i - 1) = g_4 13 (i - 1) := by rw [eg_14]; exact zs_up_ne (Or.inl (by decide))
              have r_37 : g_4 13 (i - 1) = g 13 (i - 1) := by rw [eg_4]; exact zs_up_ne (Or.inl (by decide))
              refine lv_iconst (v := nI 1) hx hb dX1_fetch_149 (by decide) ?_
              refine zk_add hx hb dX1_fetch_150 ?_
              refine im_callS (rest := [.int (nI i), .ref (ia_h E 13)]) hx hb hml hl.1 hown ht (zmc_later l (g_14 11 i) ((g_14 13 (i - 1)) + 1) (by omega) (by omega)) zgX1_83 zyX1_later rfl ⟨by decide, by decide⟩ ⟨Nat.zero_le _, Nat.zero_le _⟩ (Nat.le_of_ble_eq_true rfl) rfl dX1_fetch_151 ?_
              refine zk_topn (fun x_38 ex_38 => ?_)
              refine im_ist 12 13 11 i x_38 hx hb hO hD hS rfl (im_set13 E n g_14 i x_38) (by omega) dX1_fetch_154 (fun H locs hO hD hS => ?_)
              rw [eg_14, zm_upup] at hO hD
              have hg_39 : zm_B (ia_up g_4 11 i x_38) := zm_B_up hg_4 (by decide) (by omega)
              obtain ⟨g_39, eg_39⟩ : ∃ z, z = ia_up g_4 11 i x_38 := ⟨_, rfl⟩
              rw [← eg_39] at hO hD hg_39
              have fg_39 : g_39 11 i = x_38 := by rw [eg_39]; exact zs_up_at _ _ _ _
              refine lv_goto (tgt := 192) hx hb dX1_fetch_155 (by decide) ?_
              exact im_vret hx hb hr hlk hO hD hS (by rw [eg_39, show x_38 = zm_F g_4 i from by unfold zm_F; (repeat' split) <;> omega]; subst eg_4; subst e_2; rfl) dX1_fetch_192
            · refine lv_aload_n hx hb dX1_fetch_117 rfl (lv_at hl 0 rfl) ?_
              refine im_get 2 (v := .ref (ia_h E 2)) hx hb ht hown hO (by decide) rfl zlX1_7 rfl dX1_fetch_118 ?_
              refine lv_iload_n hx hb dX1_fetch_121 rfl (lv_at hl 1 rfl) ?_
              refine lv_iconst (v := nI 1) hx hb dX1_fetch_122 (by decide) ?_
              refine zk_sub hx hb (by omega) dX1_fetch_123 ?_
              refine im_ild 1 2 1 (i - 1) hx hb hO rfl (by omega) dX1_fetch_124 ?_
              have b_40 := hg_14.1 1 (i - 1) (by decide)
              have r_41 : g_14 1 (i - 1) = g_4 1 (i - 1) := by rw [eg_14]; exact zs_up_ne (Or.inl (by decide))
              have r_42 : g_4 1 (i - 1) = g 1 (i - 1) := by rw [eg_4]; exact zs_up_ne (Or.inl (by decide))
              refine lv_bipush (v := nI 6) hx hb dX1_fetch_125 (by decide) ?_
              refine zk_cne (tgt := 158) hx hb dX1_fetch_127 (by decide) (by omega) (by omega) (fun c_43 => ?_) (fun c_43 => ?_)
              · refine lv_aload_n hx hb dX1_fetch_158 rfl (lv_at hl 0 rfl) ?_
                refine im_get 11 (v := .ref (ia_h E 11)) hx hb ht hown hO (by decide) rfl zlX1_38 rfl dX1_fetch_159 ?_
                refine lv_iload_n hx hb dX1_fetch_162 rfl (lv_at hl 1 rfl) ?_
                refine im_zld 10 11 14 i hx hb hO rfl (by omega) dX1_fetch_163 ?_
                have b_44 := hg_14.1 14 i (by decide)
                have r_45 : g_14 14 i = g_4 14 i := by rw [eg_14]; exact zs_up_ne (Or.inl (by decide))
                have r_46 : g_4 14 i = g 14 i := by rw [eg_4]; exact zs_up_ne (Or.inl (by decide))
                refine zk_ifeq (tgt := 192) hx hb dX1_fetch_164 (by decide) (by omega) (fun c_47 => ?_) (fun c_47 => ?_)
                · exact im_vret hx hb hr hlk hO hD hS (by rw [eg_14, show v_11 = zm_F g_4 i from by unfold zm_F; (repeat' split) <;> omega]; subst eg_4; subst e_2; rfl) dX1_fetch_192
                · refine lv_aload_n hx hb dX1_fetch_167 rfl (lv_at hl 0 rfl) ?_
                  refine im_get 13 (v := .ref (ia_h E 13)) hx hb ht hown hO (by decide) rfl zlX1_44 rfl dX1_fetch_168 ?_
                  refine lv_iload_n hx hb dX1_fetch_171 rfl (lv_at hl 1 rfl) ?_
                  refine lv_aload_n hx hb dX1_fetch_172 rfl (lv_at hl 0 rfl) ?_
                  refine im_get 13 (v := .ref (ia_h E 13)) hx hb ht hown hO (by decide) rfl zlX1_44 rfl dX1_fetch_173 ?_
                  refine lv_iload_n hx hb dX1_fetch_176 rfl (lv_at hl 1 rfl) ?_
                  refine im_ild 12 13 11 i hx hb hO rfl (by omega) dX1_fetch_177 ?_
                  have b_48 := hg_14.1 11 i (by decide)
                  refine lv_aload_n hx hb dX1_fetch_178 rfl (lv_at hl 0 rfl) ?_
                  refine im_get 14 (v := .ref (ia_h E 14)) hx hb ht hown hO (by decide) rfl zlX1_47 rfl dX1_fetch_179 ?_
                  refine lv_iload_n hx hb dX1_fetch_182 rfl (lv_at hl 1 rfl) ?_
                  refine lv_iconst (v := nI 2) hx hb dX1_fetch_183 (by decide) ?_
                  refine zk_sub hx hb (by omega) dX1_fetch_184 ?_
                  refine im_ild 13 14 12 (i - 2) hx hb hO rfl (by omega) dX1_fetch_185 ?_
                  have b_49 := hg_14.1 12 (i - 2) (by decide)
                  have r_50 : g_14 12 (i - 2) = g_4 12 (i - 2) := by rw [eg_14]; exact zs_up_ne (Or.inl (by decide))
                  have r_51 : g_4 12 (i - 2) = g 12 (i - 2) := by rw [eg_4]; exact zs_up_ne (Or.inl (by decide))
                  refine lv_iconst (v := nI 2) hx hb dX1_fetch_186 (by decide) ?_
                  refine zk_add hx hb dX1_fetch_187 ?_
                  refine im_callS (rest := [.int (nI i), .ref (ia_h E 13)]) hx hb hml hl.1 hown ht (zmc_later l (g_14 11 i) ((g_14 12 (i - 2)) + 2) (by omega) (by omega)) zgX1_83 zyX1_later rfl ⟨by decide, by decide⟩ ⟨Nat.zero_le _, Nat.zero_le _⟩ (Nat.le_of_ble_eq_true rfl) rfl dX1_fetch_188 ?_
                  refine zk_topn (fun x_52 ex_52 => ?_)
                  refine im_ist 12 13 11 i x_52 hx hb hO hD hS rfl (im_set13 E n g_14 i x_52) (by omega) dX1_fetch_191 (fun H locs hO hD hS => ?_)
                  rw [eg_14, zm_upup] at hO hD
                  have hg_53 : zm_B (ia_up g_4 11 i x_52) := zm_B_up hg_4 (by decide) (by omega)
                  obtain ⟨g_53, eg_53⟩ : ∃ z, z = ia_up g_4 11 i x_52 := ⟨_, rfl⟩
                  rw [← eg_53] at hO hD hg_53
                  have fg_53 : g_53 11 i = x_52 := by rw [eg_53]; exact zs_up_at _ _ _ _
                  exact im_vret hx hb hr hlk hO hD hS (by rw [eg_53, show x_52 = zm_F g_4 i from by unfold zm_F; (repeat' split) <;> omega]; subst eg_4; subst e_2; rfl) dX1_fetch_192
              · refine lv_aload_n hx hb dX1_fetch_130 rfl (lv_at hl 0 rfl) ?_
                refine im_get 13 (v := .ref (ia_h E 13)) hx hb ht hown hO (by decide) rfl zlX1_44 rfl dX1_fetch_131 ?_
                refine lv_iload_n hx hb dX1_fetch_134 rfl (lv_at hl 1 rfl) ?_
                refine lv_aload_n hx hb dX1_fetch_135 rfl (lv_at hl 0 rfl) ?_
                refine im_get 13 (v := .ref (ia_h E 13)) hx hb ht hown hO (by decide) rfl zlX1_44 rfl dX1_fetch_136 ?_
                refine lv_iload_n hx hb dX1_fetch_139 rfl (lv_at hl 1 rfl) ?_
                refine im_ild 12 13 11 i hx hb hO rfl (by omega) dX1_fetch_140 ?_
                have b_54 := hg_14.1 11 i (by decide)
                refine lv_aload_n hx hb dX1_fetch_141 rfl (lv_at hl 0 rfl) ?_
                refine im_get 15 (v := .ref (ia_h E 15)) hx hb ht hown hO (by decide) rfl zlX1_50 rfl dX1_fetch_142 ?_
                refine lv_iload_n hx hb dX1_fetch_145 rfl (lv_at hl 1 rfl) ?_
                refine lv_iconst (v := nI 1) hx hb dX1_fetch_146 (by decide) ?_
                refine zk_sub hx hb (by omega) dX1_fetch_147 ?_
                refine im_ild 14 15 13 (i - 1) hx hb hO rfl (by omega) dX1_fetch_148 ?_
                have b_55 := hg_14.1 13 (i - 1) (by decide)
                have r_56 : g_14 13 (i - 1) = g_4 13 (i - 1) := by rw [eg_14]; exact zs_up_ne (Or.inl (by decide))
                have r_57 : g_4 13 (i - 1) = g 13 (i - 1) := by rw [eg_4]; exact zs_up_ne (Or.inl (by decide))
                refine lv_iconst (v := nI 1) hx hb dX1_fetch_149 (by decide) ?_
                refine zk_add hx hb dX1_fetch_150 ?_
                refine im_callS (rest := [.int (nI i), .ref (ia_h E 13)]) hx hb hml hl.1 hown ht (zmc_later l (g_14 11 i) ((g_14 13 (i - 1)) + 1) (by omega) (by omega)) zgX1_83 zyX1_later rfl ⟨by decide, by decide⟩ ⟨Nat.zero_le _, Nat.zero_le _⟩ (Nat.le_of_ble_eq_true rfl) rfl dX1_fetch_151 ?_
                refine zk_topn (fun x_58 ex_58 => ?_)
                refine im_ist 12 13 11 i x_58 hx hb hO hD hS rfl (im_set13 E n g_14 i x_58) (by omega) dX1_fetch_154 (fun H locs hO hD hS => ?_)
                rw [eg_14, zm_upup] at hO hD
                have hg_59 : zm_B (ia_up g_4 11 i x_58) := zm_B_up hg_4 (by decide) (by omega)
                obtain ⟨g_59, eg_59⟩ : ∃ z, z = ia_up g_4 11 i x_58 := ⟨_, rfl⟩
                rw [← eg_59] at hO hD hg_59
                have fg_59 : g_59 11 i = x_58 := by rw [eg_59]; exact zs_up_at _ _ _ _
                refine lv_goto (tgt := 192) hx hb dX1_fetch_155 (by decide) ?_
                exact im_vret hx hb hr hlk hO hD hS (by rw [eg_59, show x_58 = zm_F g_4 i from by unfold zm_F; (repeat' split) <;> omega]; subst eg_4; subst e_2; rfl) dX1_fetch_192
        · refine lv_iload_n hx hb dX1_fetch_67 rfl (lv_at hl 1 rfl) ?_
          refine lv_iconst (v := nI 4) hx hb dX1_fetch_68 (by decide) ?_
          refine zk_cle (tgt := 97) hx hb dX1_fetch_69 (by decide) (by omega) (by omega) (fun c_60 => ?_) (fun c_60 => ?_)
          · exact J_12 v_7 H locs ls ⟨show v_7 = zm_Fb g_4 i from by unfold zm_Fb; (repeat' split) <;> omega, by rw [← eg_10]; exact hO, by rw [← eg_10]; exact hD, hS⟩ (lv_sub hl [0, 1] rfl)
          · refine lv_aload_n hx hb dX1_fetch_72 rfl (lv_at hl 0 rfl) ?_
            refine im_get 13 (v := .ref (ia_h E 13)) hx hb ht hown hO (by decide) rfl zlX1_44 rfl dX1_fetch_73 ?_
            refine lv_iload_n hx hb dX1_fetch_76 rfl (lv_at hl 1 rfl) ?_
            refine lv_aload_n hx hb dX1_fetch_77 rfl (lv_at hl 0 rfl) ?_
            refine im_get 13 (v := .ref (ia_h E 13)) hx hb ht hown hO (by decide) rfl zlX1_44 rfl dX1_fetch_78 ?_
            refine lv_iload_n hx hb dX1_fetch_81 rfl (lv_at hl 1 rfl) ?_
            refine im_ild 12 13 11 i hx hb hO rfl (by omega) dX1_fetch_82 ?_
            have b_61 := hg_10.1 11 i (by decide)
            refine lv_aload_n hx hb dX1_fetch_83 rfl (lv_at hl 0 rfl) ?_
            refine im_get 14 (v := .ref (ia_h E 14)) hx hb ht hown hO (by decide) rfl zlX1_47 rfl dX1_fetch_84 ?_
            refine lv_iload_n hx hb dX1_fetch_87 rfl (lv_at hl 1 rfl) ?_
            refine lv_iconst (v := nI 5) hx hb dX1_fetch_88 (by decide) ?_
            refine zk_sub hx hb (by omega) dX1_fetch_89 ?_
            refine im_ild 13 14 12 (i - 5) hx hb hO rfl (by omega) dX1_fetch_90 ?_
            have b_62 := hg_10.1 12 (i - 5) (by decide)
            have r_63 : g_10 12 (i - 5) = g_4 12 (i - 5) := by rw [eg_10]; exact zs_up_ne (Or.inl (by decide))
            have r_64 : g_4 12 (i - 5) = g 12 (i - 5) := by rw [eg_4]; exact zs_up_ne (Or.inl (by decide))
            refine lv_iconst (v := nI 1) hx hb dX1_fetch_91 (by decide) ?_
            refine zk_add hx hb dX1_fetch_92 ?_
            refine im_callS (rest := [.int (nI i), .ref (ia_h E 13)]) hx hb hml hl.1 hown ht (zmc_later l (g_10 11 i) ((g_10 12 (i - 5)) + 1) (by omega) (by omega)) zgX1_83 zyX1_later rfl ⟨by decide, by decide⟩ ⟨Nat.zero_le _, Nat.zero_le _⟩ (Nat.le_of_ble_eq_true rfl) rfl dX1_fetch_93 ?_
            refine zk_topn (fun x_65 ex_65 => ?_)
            refine im_ist 12 13 11 i x_65 hx hb hO hD hS rfl (im_set13 E n g_10 i x_65) (by omega) dX1_fetch_96 (fun H locs hO hD hS => ?_)
            rw [eg_10, zm_upup] at hO hD
            have hg_66 : zm_B (ia_up g_4 11 i x_65) := zm_B_up hg_4 (by decide) (by omega)
            obtain ⟨g_66, eg_66⟩ : ∃ z, z = ia_up g_4 11 i x_65 := ⟨_, rfl⟩
            rw [← eg_66] at hO hD hg_66
            have fg_66 : g_66 11 i = x_65 := by rw [eg_66]; exact zs_up_at _ _ _ _
            exact J_12 x_65 H locs ls ⟨show x_65 = zm_Fb g_4 i from by unfold zm_Fb; (repeat' split) <;> omega, by rw [← eg_66]; exact hO, by rw [← eg_66]; exact hD, hS⟩ (lv_sub hl [0, 1] rfl)
      · refine lv_iload_n hx hb dX1_fetch_48 rfl (lv_at hl 1 rfl) ?_
        refine zk_ifle (tgt := 65) hx hb dX1_fetch_49 (by decide) (by omega) (fun c_67 => ?_) (fun c_67 => ?_)
        · refine lv_iconst (v := nI 1) hx hb dX1_fetch_65 (by decide) ?_
          exact J_9 1 ls (show 1 = zm_Fa g_4 i from by unfold zm_Fa; (repeat' split) <;> omega) (lv_sub hl [0, 1] rfl)
        · refine lv_aload_n hx hb dX1_fetch_52 rfl (lv_at hl 0 rfl) ?_
          refine im_get 13 (v := .ref (ia_h E 13)) hx hb ht hown hO (by decide) rfl zlX1_44 rfl dX1_fetch_53 ?_
          refine lv_iload_n hx hb dX1_fetch_56 rfl (lv_at hl 1 rfl) ?_
          refine lv_iconst (v := nI 1) hx hb dX1_fetch_57 (by decide) ?_
          refine zk_sub hx hb (by omega) dX1_fetch_58 ?_
          refine im_ild 12 13 11 (i - 1) hx hb hO rfl (by omega) dX1_fetch_59 ?_
          have b_68 := hg_4.1 11 (i - 1) (by decide)
          have r_69 : g_4 11 (i - 1) = g 11 (i - 1) := by rw [eg_4]; exact zs_up_ne (Or.inl (by decide))
          refine lv_iconst (v := nI 1) hx hb dX1_fetch_60 (by decide) ?_
          refine zk_add hx hb dX1_fetch_61 ?_
          refine lv_goto (tgt := 66) hx hb dX1_fetch_62 (by decide) ?_
          exact J_9 ((g_4 11 (i - 1)) + 1) ls (show ((g_4 11 (i - 1)) + 1) = zm_Fa g_4 i from by unfold zm_Fa; (repeat' split) <;> omega) (lv_sub hl [0, 1] rfl)
    · refine lv_aload_n hx hb dX1_fetch_28 rfl (lv_at hl 0 rfl) ?_
      refine im_get 13 (v := .ref (ia_h E 13)) hx hb ht hown hO (by decide) rfl zlX1_44 rfl dX1_fetch_29 ?_
      refine lv_iload_n hx hb dX1_fetch_32 rfl (lv_at hl 1 rfl) ?_
      refine lv_aload_n hx hb dX1_fetch_33 rfl (lv_at hl 0 rfl) ?_
      refine im_get 13 (v := .ref (ia_h E 13)) hx hb ht hown hO (by decide) rfl zlX1_44 rfl dX1_fetch_34 ?_
      refine lv_iload_n hx hb dX1_fetch_37 rfl (lv_at hl 1 rfl) ?_
      refine lv_iconst (v := nI 1) hx hb dX1_fetch_38 (by decide) ?_
      refine zk_sub hx hb (by omega) dX1_fetch_39 ?_
      refine im_ild 12 13 11 (i - 1) hx hb hO rfl (by omega) dX1_fetch_40 ?_
      have b_70 := hg_4.1 11 (i - 1) (by decide)
      have r_71 : g_4 11 (i - 1) = g 11 (i - 1) := by rw [eg_4]; exact zs_up_ne (Or.inl (by decide))
      refine im_ist 12 13 11 i (g_4 11 (i - 1)) hx hb hO hD hS rfl (im_set13 E n g_4 i (g_4 11 (i - 1))) (by omega) dX1_fetch_41 (fun H locs hO hD hS => ?_)
      have hg_72 : zm_B (ia_up g_4 11 i (g_4 11 (i - 1))) := zm_B_up hg_4 (by decide) (by omega)
      obtain ⟨g_72, eg_72⟩ : ∃ z, z = ia_up g_4 11 i (g_4 11 (i - 1)) := ⟨_, rfl⟩
      rw [← eg_72] at hO hD hg_72
      have fg_72 : g_72 11 i = g_4 11 (i - 1) := by rw [eg_72]; exact zs_up_at _ _ _ _
      exact im_vret hx hb hr hlk hO hD hS (by rw [eg_72, show g_4 11 (i - 1) = zm_F g_4 i from by unfold zm_F; (repeat' split) <;> omega]; subst eg_4; subst e_2; rfl) dX1_fetch_42
  · refine lv_aload_n hx hb dX1_fetch_5 rfl (lv_at hl 0 rfl) ?_
    refine lv_iload_n hx hb dX1_fetch_6 rfl (lv_at hl 1 rfl) ?_
    refine im_call (rest := [.int (nI i), .ref (ia_h E 16)]) hx hb hml hl.1 hown ht hO (zmc_joins l E n g hg i (by omega)) zgX1_80 zyX1_joins rfl ⟨by decide, by decide⟩ ⟨Nat.zero_le _, Nat.zero_le _⟩ (Nat.le_of_ble_eq_true rfl) rfl dX1_fetch_7 ?_
    have b_73 := zbm_joins g i
    refine zk_ifne (tgt := 17) hx hb dX1_fetch_10 (by decide) (by omega) (fun c_74 => ?_) (fun c_74 => ?_)
    · refine lv_iconst (v := nI 0) hx hb dX1_fetch_17 (by decide) ?_
      exact J_3 0 ls (show 0 = zm_begin g i from by unfold zm_begin; (repeat' split) <;> omega) (lv_sub hl [0, 1] rfl)
    · refine lv_iconst (v := nI 1) hx hb dX1_fetch_13 (by decide) ?_
      refine lv_goto (tgt := 18) hx hb dX1_fetch_14 (by decide) ?_
      exact J_3 1 ls (show 1 = zm_begin g i from by unfold zm_begin; (repeat' split) <;> omega) (lv_sub hl [0, 1] rfl)
