set_option maxHeartbeats 8000000 in
set_option maxRecDepth 100000 in
/-- the law: put -/
theorem law_put {p : Program} {l : Launch} {e : Env} {s : State} {m : MethodId} {below : List Frame} {meth : Method} {c : Code} {b L : Nat} {xs : Nat → Int32} (hL : L ≤ 2560) (C0 : lw_At p s m meth c b L xs) (Ex Em : ia_E) (i : Nat) (hi : i + 5 ≤ L) (ih : ∀ (n : Nat) (g G : Nat → Nat → Nat) (H : Heap) (locs : List Loc) (ls : Array Slot), zx_R n g G → ia_O Ex n g s H → im_O Em n G s H → va_D (fun q : Nat => s.heap.size ≤ q) (ia_w Ex n g) → va_D (fun q : Nat => s.heap.size ≤ q) (im_w Em n G) → zz_X (ia_w Ex n g) (im_w Em n G) → va_S (fun q : Nat => s.heap.size ≤ q) s.heap H locs → lv_has ls 4 [(3, .int (nI (i + 5))), (0, .ref b), (1, .ref (ia_h Ex 0)), (2, .ref (ia_h Em 0))] → W p l e room_1 s m #[Value.ref b] below meth c H locs 31 11264 (lw_Z below #[Value.ref b] s) (F0 m 18 ls [])) (n : Nat) (g G : Nat → Nat → Nat) (H : Heap) (locs : List Loc) (ls : Array Slot) (r : zx_R n g G) (hOx : ia_O Ex n g s H) (hOm : im_O Em n G s H) (hDx : va_D (fun q : Nat => s.heap.size ≤ q) (ia_w Ex n g)) (hDm : va_D (fun q : Nat => s.heap.size ≤ q) (im_w Em n G)) (hXx : zz_X (ia_w Ex n g) (im_w Em n G)) (hS : va_S (fun q : Nat => s.heap.size ≤ q) s.heap H locs) (hl : lv_has ls 4 [(3, .int (nI i)), (0, .ref b), (1, .ref (ia_h Ex 0)), (2, .ref (ia_h Em 0))]) : W p l e room_1 s m #[Value.ref b] below meth c H locs 31 11264 (lw_Z below #[Value.ref b] s) (F0 m 92 ls []) := by
  obtain ⟨hx, hb, hr, hml, hown, hts, hX, hbl, hlocks, hgv⟩ := C0
  have ht := tb_of hts
  have hown : s.vm.findClass RL = some m.cls := hown
  have hA : ∀ q : Nat, s.heap.size ≤ q → (fun q : Nat => s.heap.size ≤ q) q := fun _ h => h
  have hbA : ¬ (fun q : Nat => s.heap.size ≤ q) b := Nat.not_le.mpr hbl
  have hV := r.2.2.2.2.1
  refine lv_aload_n hx hb dL_law_92 rfl (lv_at hl 2 rfl) ?_
  refine lv_aload_n hx hb dL_law_93 rfl (lv_at hl 1 rfl) ?_
  refine lv_iload_n hx hb dL_law_94 rfl (lv_at hl 0 rfl) ?_
  refine lv_iconst (v := nI 1) hx hb dL_law_95 (by decide) ?_
  refine zk_add hx hb dL_law_96 ?_
  refine il_sld hx hb hX hbl hbA hS (by omega) (by omega) dL_law_97 ?_
  refine lv_aload_n hx hb dL_law_98 rfl (lv_at hl 1 rfl) ?_
  refine lv_iload_n hx hb dL_law_99 rfl (lv_at hl 0 rfl) ?_
  refine lv_iconst (v := nI 2) hx hb dL_law_100 (by decide) ?_
  refine zk_add hx hb dL_law_101 ?_
  refine il_sld hx hb hX hbl hbA hS (by omega) (by omega) dL_law_102 ?_
  refine lv_aload_n hx hb dL_law_103 rfl (lv_at hl 1 rfl) ?_
  refine lv_iload_n hx hb dL_law_104 rfl (lv_at hl 0 rfl) ?_
  refine lv_iconst (v := nI 3) hx hb dL_law_105 (by decide) ?_
  refine zk_add hx hb dL_law_106 ?_
  refine il_sld hx hb hX hbl hbA hS (by omega) (by omega) dL_law_107 ?_
  refine lv_aload_n hx hb dL_law_108 rfl (lv_at hl 1 rfl) ?_
  refine lv_iload_n hx hb dL_law_109 rfl (lv_at hl 0 rfl) ?_
  refine lv_iconst (v := nI 4) hx hb dL_law_110 (by decide) ?_
  refine zk_add hx hb dL_law_111 ?_
  refine il_sld hx hb hX hbl hbA hS (by omega) (by omega) dL_law_112 ?_
  refine il_callM (rest := []) hx hb hml hl.1 hown ht hOx hDx hS hA (zf_put l Ex n g r.2.1 r.1 (xs (i + 1)) (xs (i + 2)) (xs (i + 3)) (xs (i + 4)) _) zgL_13 zyX0_put rfl ⟨by decide, by decide⟩ ⟨by decide, by decide⟩ (Nat.le_of_ble_eq_true rfl) rfl dL_law_113 (fun H locs hOx hDx hS hk1 hD1 => ?_)
  have hXx1 := zz_apart hOm.2 hXx hD1
  have hOm1 : im_O Em n G s H := ⟨hOm.1, zz_frame hOm.2 hXx hk1⟩
  refine lv_aload_n hx hb dL_law_116 rfl (lv_at hl 3 rfl) ?_
  refine lv_aload_n hx hb dL_law_117 rfl (lv_at hl 1 rfl) ?_
  refine lv_iload_n hx hb dL_law_118 rfl (lv_at hl 0 rfl) ?_
  refine lv_iconst (v := nI 1) hx hb dL_law_119 (by decide) ?_
  refine zk_add hx hb dL_law_120 ?_
  refine il_sld hx hb hX hbl hbA hS (by omega) (by omega) dL_law_121 ?_
  refine lv_aload_n hx hb dL_law_122 rfl (lv_at hl 1 rfl) ?_
  refine lv_iload_n hx hb dL_law_123 rfl (lv_at hl 0 rfl) ?_
  refine lv_iconst (v := nI 2) hx hb dL_law_124 (by decide) ?_
  refine zk_add hx hb dL_law_125 ?_
  refine il_sld hx hb hX hbl hbA hS (by omega) (by omega) dL_law_126 ?_
  refine lv_aload_n hx hb dL_law_127 rfl (lv_at hl 1 rfl) ?_
  refine lv_iload_n hx hb dL_law_128 rfl (lv_at hl 0 rfl) ?_
  refine lv_iconst (v := nI 3) hx hb dL_law_129 (by decide) ?_
  refine zk_add hx hb dL_law_130 ?_
  refine il_sld hx hb hX hbl hbA hS (by omega) (by omega) dL_law_131 ?_
  refine lv_aload_n hx hb dL_law_132 rfl (lv_at hl 1 rfl) ?_
  refine lv_iload_n hx hb dL_law_133 rfl (lv_at hl 0 rfl) ?_
  refine lv_iconst (v := nI 4) hx hb dL_law_134 (by decide) ?_
  refine zk_add hx hb dL_law_135 ?_
  refine il_sld hx hb hX hbl hbA hS (by omega) (by omega) dL_law_136 ?_
  refine jm_callM (rest := [.int ((zp_put n g (xs (i + 1)) (xs (i + 2)) (xs (i + 3)) (xs (i + 4))).1)]) hx hb hml hl.1 hown ht hOm1 hDm hS hA (zfm_put l Em n G hV r.1 (xs (i + 1)) (xs (i + 2)) (xs (i + 3)) (xs (i + 4)) _) zgL_17 zyX1_put rfl ⟨by decide, by decide⟩ ⟨by decide, by decide⟩ (Nat.le_of_ble_eq_true rfl) rfl dL_law_137 (fun H locs hOm2 hDm2 hS hk2 hD2 => ?_)
  have hXx2 := (zz_apart hOx.2 hXx1.symm hD2).symm
  have hOx2 : ia_O Ex (zp_put n g (xs (i + 1)) (xs (i + 2)) (xs (i + 3)) (xs (i + 4))).2.1 (zp_put n g (xs (i + 1)) (xs (i + 2)) (xs (i + 3)) (xs (i + 4))).2.2 s H := ⟨hOx.1, zz_frame hOx.2 hXx1.symm hk2⟩
  obtain ⟨e1, e2, r2⟩ := zx_put r (xs (i + 1)) (xs (i + 2)) (xs (i + 3)) (xs (i + 4))
  refine lv_icmp_eq (tgt := 449) hx hb dL_law_140 (by decide) (fun h_9 => ?_) (fun h_9 => absurd e1 h_9)
  rw [← e2] at hOm2 hDm2 hXx2
  refine lv_iinc (v := nI (i + 5)) (lv' := [(3, .int (nI (i + 5))), (0, .ref b), (1, .ref (ia_h Ex 0)), (2, .ref (ia_h Em 0))]) hx hb dL_law_449 hl (k := 0) rfl (nI_add i 5) (by decide) rfl (fun ls hl => ?_)
  refine lv_goto (tgt := 18) hx hb dL_law_452 (by decide) ?_
  exact ih _ _ _ H locs ls r2 hOx2 hOm2 hDx hDm2 hXx2 hS hl
set_option maxHeartbeats 8000000 in
set_option maxRecDepth 100000 in
/-- the law: branch -/
theorem law_branch {p : Program} {l : Launch} {e : Env} {s : State} {m : MethodId} {below : List Frame} {meth : Method} {c : Code} {b L : Nat} {xs : Nat → Int32} (hL : L ≤ 2560) (C0 : lw_At p s m meth c b L xs) (Ex Em : ia_E) (i : Nat) (hi : i + 5 ≤ L) (ih : ∀ (n : Nat) (g G : Nat → Nat → Nat) (H : Heap) (locs : List Loc) (ls : Array Slot), zx_R n g G → ia_O Ex n g s H → im_O Em n G s H → va_D (fun q : Nat => s.heap.size ≤ q) (ia_w Ex n g) → va_D (fun q : Nat => s.heap.size ≤ q) (im_w Em n G) → zz_X (ia_w Ex n g) (im_w Em n G) → va_S (fun q : Nat => s.heap.size ≤ q) s.heap H locs → lv_has ls 4 [(3, .int (nI (i + 5))), (0, .ref b), (1, .ref (ia_h Ex 0)), (2, .ref (ia_h Em 0))] → W p l e room_1 s m #[Value.ref b] below meth c H locs 31 11264 (lw_Z below #[Value.ref b] s) (F0 m 18 ls [])) (n : Nat) (g G : Nat → Nat → Nat) (H : Heap) (locs : List Loc) (ls : Array Slot) (r : zx_R n g G) (hOx : ia_O Ex n g s H) (hOm : im_O Em n G s H) (hDx : va_D (fun q : Nat => s.heap.size ≤ q) (ia_w Ex n g)) (hDm : va_D (fun q : Nat => s.heap.size ≤ q) (im_w Em n G)) (hXx : zz_X (ia_w Ex n g) (im_w Em n G)) (hS : va_S (fun q : Nat => s.heap.size ≤ q) s.heap H locs) (hl : lv_has ls 4 [(3, .int (nI i)), (0, .ref b), (1, .ref (ia_h Ex 0)), (2, .ref (ia_h Em 0))]) : W p l e room_1 s m #[Value.ref b] below meth c H locs 31 11264 (lw_Z below #[Value.ref b] s) (F0 m 145 ls []) := by
  obtain ⟨hx, hb, hr, hml, hown, hts, hX, hbl, hlocks, hgv⟩ := C0
  have ht := tb_of hts
  have hown : s.vm.findClass RL = some m.cls := hown
  have hA : ∀ q : Nat, s.heap.size ≤ q → (fun q : Nat => s.heap.size ≤ q) q := fun _ h => h
  have hbA : ¬ (fun q : Nat => s.heap.size ≤ q) b := Nat.not_le.mpr hbl
  have hV := r.2.2.2.2.1
  refine lv_aload_n hx hb dL_law_145 rfl (lv_at hl 2 rfl) ?_
  refine lv_aload_n hx hb dL_law_146 rfl (lv_at hl 1 rfl) ?_
  refine lv_iload_n hx hb dL_law_147 rfl (lv_at hl 0 rfl) ?_
  refine lv_iconst (v := nI 1) hx hb dL_law_148 (by decide) ?_
  refine zk_add hx hb dL_law_149 ?_
  refine il_sld hx hb hX hbl hbA hS (by omega) (by omega) dL_law_150 ?_
  refine lv_aload_n hx hb dL_law_151 rfl (lv_at hl 1 rfl) ?_
  refine lv_iload_n hx hb dL_law_152 rfl (lv_at hl 0 rfl) ?_
  refine lv_iconst (v := nI 2) hx hb dL_law_153 (by decide) ?_
  refine zk_add hx hb dL_law_154 ?_
  refine il_sld hx hb hX hbl hbA hS (by omega) (by omega) dL_law_155 ?_
  refine zi_ifeq (tgt := 163) hx hb dL_law_156 (by decide) (fun h_0 => ?_) (fun h_0 => ?_)
  · refine lv_iconst (v := nI 0) hx hb dL_law_163 (by decide) ?_
    refine lv_aload_n hx hb dL_law_164 rfl (lv_at hl 1 rfl) ?_
    refine lv_iload_n hx hb dL_law_165 rfl (lv_at hl 0 rfl) ?_
    refine lv_iconst (v := nI 3) hx hb dL_law_166 (by decide) ?_
    refine zk_add hx hb dL_law_167 ?_
    refine il_sld hx hb hX hbl hbA hS (by omega) (by omega) dL_law_168 ?_
    refine lv_aload_n hx hb dL_law_169 rfl (lv_at hl 1 rfl) ?_
    refine lv_iload_n hx hb dL_law_170 rfl (lv_at hl 0 rfl) ?_
    refine lv_iconst (v := nI 4) hx hb dL_law_171 (by decide) ?_
    refine zk_add hx hb dL_law_172 ?_
    refine il_sld hx hb hX hbl hbA hS (by omega) (by omega) dL_law_173 ?_
    refine il_callM (rest := []) hx hb hml hl.1 hown ht hOx hDx hS hA (zf_branch l Ex n g r.2.1 r.1 (xs (i + 1)) 0 (by omega) (xs (i + 3)) (xs (i + 4)) _) zgL_18 zyX0_branch rfl ⟨by decide, by decide⟩ ⟨by decide, by decide⟩ (Nat.le_of_ble_eq_true rfl) rfl dL_law_174 (fun H locs hOx hDx hS hk1 hD1 => ?_)
    have hXx1 := zz_apart hOm.2 hXx hD1
    have hOm1 : im_O Em n G s H := ⟨hOm.1, zz_frame hOm.2 hXx hk1⟩
    refine lv_aload_n hx hb dL_law_177 rfl (lv_at hl 3 rfl) ?_
    refine lv_aload_n hx hb dL_law_178 rfl (lv_at hl 1 rfl) ?_
    refine lv_iload_n hx hb dL_law_179 rfl (lv_at hl 0 rfl) ?_
    refine lv_iconst (v := nI 1) hx hb dL_law_180 (by decide) ?_
    refine zk_add hx hb dL_law_181 ?_
    refine il_sld hx hb hX hbl hbA hS (by omega) (by omega) dL_law_182 ?_
    refine lv_aload_n hx hb dL_law_183 rfl (lv_at hl 1 rfl) ?_
    refine lv_iload_n hx hb dL_law_184 rfl (lv_at hl 0 rfl) ?_
    refine lv_iconst (v := nI 2) hx hb dL_law_185 (by decide) ?_
    refine zk_add hx hb dL_law_186 ?_
    refine il_sld hx hb hX hbl hbA hS (by omega) (by omega) dL_law_187 ?_
    refine zi_ifeq (tgt := 195) hx hb dL_law_188 (by decide) (fun h_1 => ?_) (fun h_1 => ?_)
    · refine lv_iconst (v := nI 0) hx hb dL_law_195 (by decide) ?_
      refine lv_aload_n hx hb dL_law_196 rfl (lv_at hl 1 rfl) ?_
      refine lv_iload_n hx hb dL_law_197 rfl (lv_at hl 0 rfl) ?_
      refine lv_iconst (v := nI 3) hx hb dL_law_198 (by decide) ?_
      refine zk_add hx hb dL_law_199 ?_
      refine il_sld hx hb hX hbl hbA hS (by omega) (by omega) dL_law_200 ?_
      refine lv_aload_n hx hb dL_law_201 rfl (lv_at hl 1 rfl) ?_
      refine lv_iload_n hx hb dL_law_202 rfl (lv_at hl 0 rfl) ?_
      refine lv_iconst (v := nI 4) hx hb dL_law_203 (by decide) ?_
      refine zk_add hx hb dL_law_204 ?_
      refine il_sld hx hb hX hbl hbA hS (by omega) (by omega) dL_law_205 ?_
      refine jm_callM (rest := [.int ((zp_branch n g (xs (i + 1)) 0 (xs (i + 3)) (xs (i + 4))).1)]) hx hb hml hl.1 hown ht hOm1 hDm hS hA (zfm_branch l Em n G hV r.1 (xs (i + 1)) 0 (by omega) (xs (i + 3)) (xs (i + 4)) _) zgL_22 zyX1_branch rfl ⟨by decide, by decide⟩ ⟨by decide, by decide⟩ (Nat.le_of_ble_eq_true rfl) rfl dL_law_206 (fun H locs hOm2 hDm2 hS hk2 hD2 => ?_)
      have hXx2 := (zz_apart hOx.2 hXx1.symm hD2).symm
      have hOx2 : ia_O Ex (zp_branch n g (xs (i + 1)) 0 (xs (i + 3)) (xs (i + 4))).2.1 (zp_branch n g (xs (i + 1)) 0 (xs (i + 3)) (xs (i + 4))).2.2 s H := ⟨hOx.1, zz_frame hOx.2 hXx1.symm hk2⟩
      obtain ⟨e1, e2, r2⟩ := zx_branch r (xs (i + 1)) (go := 0) (by omega) (xs (i + 3)) (xs (i + 4))
      refine lv_icmp_eq (tgt := 449) hx hb dL_law_209 (by decide) (fun h_9 => ?_) (fun h_9 => absurd e1 h_9)
      rw [← e2] at hOm2 hDm2 hXx2
      refine lv_iinc (v := nI (i + 5)) (lv' := [(3, .int (nI (i + 5))), (0, .ref b), (1, .ref (ia_h Ex 0)), (2, .ref (ia_h Em 0))]) hx hb dL_law_449 hl (k := 0) rfl (nI_add i 5) (by decide) rfl (fun ls hl => ?_)
      refine lv_goto (tgt := 18) hx hb dL_law_452 (by decide) ?_
      exact ih _ _ _ H locs ls r2 hOx2 hOm2 hDx hDm2 hXx2 hS hl
    · exact absurd h_0 h_1
  · refine lv_iconst (v := nI 1) hx hb dL_law_159 (by decide) ?_
    refine lv_goto (tgt := 164) hx hb dL_law_160 (by decide) ?_
    refine lv_aload_n hx hb dL_law_164 rfl (lv_at hl 1 rfl) ?_
    refine lv_iload_n hx hb dL_law_165 rfl (lv_at hl 0 rfl) ?_
    refine lv_iconst (v := nI 3) hx hb dL_law_166 (by decide) ?_
    refine zk_add hx hb dL_law_167 ?_
    refine il_sld hx hb hX hbl hbA hS (by omega) (by omega) dL_law_168 ?_
    refine lv_aload_n hx hb dL_law_169 rfl (lv_at hl 1 rfl) ?_
    refine lv_iload_n hx hb dL_law_170 rfl (lv_at hl 0 rfl) ?_
    refine lv_iconst (v := nI 4) hx hb dL_law_171 (by decide) ?_
    refine zk_add hx hb dL_law_172 ?_
    refine il_sld hx hb hX hbl hbA hS (by omega) (by omega) dL_law_173 ?_
    refine il_callM (rest := []) hx hb hml hl.1 hown ht hOx hDx hS hA (zf_branch l Ex n g r.2.1 r.1 (xs (i + 1)) 1 (by omega) (xs (i + 3)) (xs (i + 4)) _) zgL_18 zyX0_branch rfl ⟨by decide, by decide⟩ ⟨by decide, by decide⟩ (Nat.le_of_ble_eq_true rfl) rfl dL_law_174 (fun H locs hOx hDx hS hk1 hD1 => ?_)
    have hXx1 := zz_apart hOm.2 hXx hD1
    have hOm1 : im_O Em n G s H := ⟨hOm.1, zz_frame hOm.2 hXx hk1⟩
    refine lv_aload_n hx hb dL_law_177 rfl (lv_at hl 3 rfl) ?_
    refine lv_aload_n hx hb dL_law_178 rfl (lv_at hl 1 rfl) ?_
    refine lv_iload_n hx hb dL_law_179 rfl (lv_at hl 0 rfl) ?_
    refine lv_iconst (v := nI 1) hx hb dL_law_180 (by decide) ?_
    refine zk_add hx hb dL_law_181 ?_
    refine il_sld hx hb hX hbl hbA hS (by omega) (by omega) dL_law_182 ?_
    refine lv_aload_n hx hb dL_law_183 rfl (lv_at hl 1 rfl) ?_
    refine lv_iload_n hx hb dL_law_184 rfl (lv_at hl 0 rfl) ?_
    refine lv_iconst (v := nI 2) hx hb dL_law_185 (by decide) ?_
    refine zk_add hx hb dL_law_186 ?_
    refine il_sld hx hb hX hbl hbA hS (by omega) (by omega) dL_law_187 ?_
    refine zi_ifeq (tgt := 195) hx hb dL_law_188 (by decide) (fun h_1 => ?_) (fun h_1 => ?_)
    · exact absurd h_1 h_0
    · refine lv_iconst (v := nI 1) hx hb dL_law_191 (by decide) ?_
      refine lv_goto (tgt := 196) hx hb dL_law_192 (by decide) ?_
      refine lv_aload_n hx hb dL_law_196 rfl (lv_at hl 1 rfl) ?_
      refine lv_iload_n hx hb dL_law_197 rfl (lv_at hl 0 rfl) ?_
      refine lv_iconst (v := nI 3) hx hb dL_law_198 (by decide) ?_
      refine zk_add hx hb dL_law_199 ?_
      refine il_sld hx hb hX hbl hbA hS (by omega) (by omega) dL_law_200 ?_
      refine lv_aload_n hx hb dL_law_201 rfl (lv_at hl 1 rfl) ?_
      refine lv_iload_n hx hb dL_law_202 rfl (lv_at hl 0 rfl) ?_
      refine lv_iconst (v := nI 4) hx hb dL_law_203 (by decide) ?_
      refine zk_add hx hb dL_law_204 ?_
      refine il_sld hx hb hX hbl hbA hS (by omega) (by omega) dL_law_205 ?_
      refine jm_callM (rest := [.int ((zp_branch n g (xs (i + 1)) 1 (xs (i + 3)) (xs (i + 4))).1)]) hx hb hml hl.1 hown ht hOm1 hDm hS hA (zfm_branch l Em n G hV r.1 (xs (i + 1)) 1 (by omega) (xs (i + 3)) (xs (i + 4)) _) zgL_22 zyX1_branch rfl ⟨by decide, by decide⟩ ⟨by decide, by decide⟩ (Nat.le_of_ble_eq_true rfl) rfl dL_law_206 (fun H locs hOm2 hDm2 hS hk2 hD2 => ?_)
      have hXx2 := (zz_apart hOx.2 hXx1.symm hD2).symm
      have hOx2 : ia_O Ex (zp_branch n g (xs (i + 1)) 1 (xs (i + 3)) (xs (i + 4))).2.1 (zp_branch n g (xs (i + 1)) 1 (xs (i + 3)) (xs (i + 4))).2.2 s H := ⟨hOx.1, zz_frame hOx.2 hXx1.symm hk2⟩
      obtain ⟨e1, e2, r2⟩ := zx_branch r (xs (i + 1)) (go := 1) (by omega) (xs (i + 3)) (xs (i + 4))
      refine lv_icmp_eq (tgt := 449) hx hb dL_law_209 (by decide) (fun h_9 => ?_) (fun h_9 => absurd e1 h_9)
      rw [← e2] at hOm2 hDm2 hXx2
      refine lv_iinc (v := nI (i + 5)) (lv' := [(3, .int (nI (i + 5))), (0, .ref b), (1, .ref (ia_h Ex 0)), (2, .ref (ia_h Em 0))]) hx hb dL_law_449 hl (k := 0) rfl (nI_add i 5) (by decide) rfl (fun ls hl => ?_)
      refine lv_goto (tgt := 18) hx hb dL_law_452 (by decide) ?_
      exact ih _ _ _ H locs ls r2 hOx2 hOm2 hDx hDm2 hXx2 hS hl
set_option maxHeartbeats 8000000 in
set_option maxRecDepth 100000 in
/-- the law: fail -/
theorem law_fail {p : Program} {l : Launch} {e : Env} {s : State} {m : MethodId} {below : List Frame} {meth : Method} {c : Code} {b L : Nat} {xs : Nat → Int32} (hL : L ≤ 2560) (C0 : lw_At p s m meth c b L xs) (Ex Em : ia_E) (i : Nat) (hi : i + 5 ≤ L) (ih : ∀ (n : Nat) (g G : Nat → Nat → Nat) (H : Heap) (locs : List Loc) (ls : Array Slot), zx_R n g G → ia_O Ex n g s H → im_O Em n G s H → va_D (fun q : Nat => s.heap.size ≤ q) (ia_w Ex n g) → va_D (fun q : Nat => s.heap.size ≤ q) (im_w Em n G) → zz_X (ia_w Ex n g) (im_w Em n G) → va_S (fun q : Nat => s.heap.size ≤ q) s.heap H locs → lv_has ls 4 [(3, .int (nI (i + 5))), (0, .ref b), (1, .ref (ia_h Ex 0)), (2, .ref (ia_h Em 0))] → W p l e room_1 s m #[Value.ref b] below meth c H locs 31 11264 (lw_Z below #[Value.ref b] s) (F0 m 18 ls [])) (n : Nat) (g G : Nat → Nat → Nat) (H : Heap) (locs : List Loc) (ls : Array Slot) (r : zx_R n g G) (hOx : ia_O Ex n g s H) (hOm : im_O Em n G s H) (hDx : va_D (fun q : Nat => s.heap.size ≤ q) (ia_w Ex n g)) (hDm : va_D (fun q : Nat => s.heap.size ≤ q) (im_w Em n G)) (hXx : zz_X (ia_w Ex n g) (im_w Em n G)) (hS : va_S (fun q : Nat => s.heap.size ≤ q) s.heap H locs) (hl : lv_has ls 4 [(3, .int (nI i)), (0, .ref b), (1, .ref (ia_h Ex 0)), (2, .ref (ia_h Em 0))]) : W p l e room_1 s m #[Value.ref b] below meth c H locs 31 11264 (lw_Z below #[Value.ref b] s) (F0 m 214 ls []) := by
  obtain ⟨hx, hb, hr, hml, hown, hts, hX, hbl, hlocks, hgv⟩ := C0
  have ht := tb_of hts
  have hown : s.vm.findClass RL = some m.cls := hown
  have hA : ∀ q : Nat, s.heap.size ≤ q → (fun q : Nat => s.heap.size ≤ q) q := fun _ h => h
  have hbA : ¬ (fun q : Nat => s.heap.size ≤ q) b := Nat.not_le.mpr hbl
  have hV := r.2.2.2.2.1
  refine lv_aload_n hx hb dL_law_214 rfl (lv_at hl 2 rfl) ?_
  refine il_callM (rest := []) hx hb hml hl.1 hown ht hOx hDx hS hA (zf_fail l Ex n g r.2.1 r.1  _) zgL_23 zyX0_fail rfl ⟨by decide, by decide⟩ ⟨by decide, by decide⟩ (Nat.le_of_ble_eq_true rfl) rfl dL_law_215 (fun H locs hOx hDx hS hk1 hD1 => ?_)
  have hXx1 := zz_apart hOm.2 hXx hD1
  have hOm1 : im_O Em n G s H := ⟨hOm.1, zz_frame hOm.2 hXx hk1⟩
  refine lv_aload_n hx hb dL_law_218 rfl (lv_at hl 3 rfl) ?_
  refine jm_callM (rest := [.int ((zp_fail n g).1)]) hx hb hml hl.1 hown ht hOm1 hDm hS hA (zfm_fail l Em n G hV r.1  _) zgL_27 zyX1_fail rfl ⟨by decide, by decide⟩ ⟨by decide, by decide⟩ (Nat.le_of_ble_eq_true rfl) rfl dL_law_219 (fun H locs hOm2 hDm2 hS hk2 hD2 => ?_)
  have hXx2 := (zz_apart hOx.2 hXx1.symm hD2).symm
  have hOx2 : ia_O Ex (zp_fail n g).2.1 (zp_fail n g).2.2 s H := ⟨hOx.1, zz_frame hOx.2 hXx1.symm hk2⟩
  obtain ⟨e1, e2, r2⟩ := zx_fail r 
  refine lv_icmp_eq (tgt := 449) hx hb dL_law_222 (by decide) (fun h_9 => ?_) (fun h_9 => absurd e1 h_9)
  rw [← e2] at hOm2 hDm2 hXx2
  refine lv_iinc (v := nI (i + 5)) (lv' := [(3, .int (nI (i + 5))), (0, .ref b), (1, .ref (ia_h Ex 0)), (2, .ref (ia_h Em 0))]) hx hb dL_law_449 hl (k := 0) rfl (nI_add i 5) (by decide) rfl (fun ls hl => ?_)
  refine lv_goto (tgt := 18) hx hb dL_law_452 (by decide) ?_
  exact ih _ _ _ H locs ls r2 hOx2 hOm2 hDx hDm2 hXx2 hS hl
set_option maxHeartbeats 8000000 in
set_option maxRecDepth 100000 in
/-- the law: drop -/
theorem law_drop {p : Program} {l : Launch} {e : Env} {s : State} {m : MethodId} {below : List Frame} {meth : Method} {c : Code} {b L : Nat} {xs : Nat → Int32} (hL : L ≤ 2560) (C0 : lw_At p s m meth c b L xs) (Ex Em : ia_E) (i : Nat) (hi : i + 5 ≤ L) (ih : ∀ (n : Nat) (g G : Nat → Nat → Nat) (H : Heap) (locs : List Loc) (ls : Array Slot), zx_R n g G → ia_O Ex n g s H → im_O Em n G s H → va_D (fun q : Nat => s.heap.size ≤ q) (ia_w Ex n g) → va_D (fun q : Nat => s.heap.size ≤ q) (im_w Em n G) → zz_X (ia_w Ex n g) (im_w Em n G) → va_S (fun q : Nat => s.heap.size ≤ q) s.heap H locs → lv_has ls 4 [(3, .int (nI (i + 5))), (0, .ref b), (1, .ref (ia_h Ex 0)), (2, .ref (ia_h Em 0))] → W p l e room_1 s m #[Value.ref b] below meth c H locs 31 11264 (lw_Z below #[Value.ref b] s) (F0 m 18 ls [])) (n : Nat) (g G : Nat → Nat → Nat) (H : Heap) (locs : List Loc) (ls : Array Slot) (r : zx_R n g G) (hOx : ia_O Ex n g s H) (hOm : im_O Em n G s H) (hDx : va_D (fun q : Nat => s.heap.size ≤ q) (ia_w Ex n g)) (hDm : va_D (fun q : Nat => s.heap.size ≤ q) (im_w Em n G)) (hXx : zz_X (ia_w Ex n g) (im_w Em n G)) (hS : va_S (fun q : Nat => s.heap.size ≤ q) s.heap H locs) (hl : lv_has ls 4 [(3, .int (nI i)), (0, .ref b), (1, .ref (ia_h Ex 0)), (2, .ref (ia_h Em 0))]) : W p l e room_1 s m #[Value.ref b] below meth c H locs 31 11264 (lw_Z below #[Value.ref b] s) (F0 m 227 ls []) := by
  obtain ⟨hx, hb, hr, hml, hown, hts, hX, hbl, hlocks, hgv⟩ := C0
  have ht := tb_of hts
  have hown : s.vm.findClass RL = some m.cls := hown
  have hA : ∀ q : Nat, s.heap.size ≤ q → (fun q : Nat => s.heap.size ≤ q) q := fun _ h => h
  have hbA : ¬ (fun q : Nat => s.heap.size ≤ q) b := Nat.not_le.mpr hbl
  have hV := r.2.2.2.2.1
  refine lv_aload_n hx hb dL_law_227 rfl (lv_at hl 2 rfl) ?_
  refine lv_aload_n hx hb dL_law_228 rfl (lv_at hl 1 rfl) ?_
  refine lv_iload_n hx hb dL_law_229 rfl (lv_at hl 0 rfl) ?_
  refine lv_iconst (v := nI 1) hx hb dL_law_230 (by decide) ?_
  refine zk_add hx hb dL_law_231 ?_
  refine il_sld hx hb hX hbl hbA hS (by omega) (by omega) dL_law_232 ?_
  refine il_callM (rest := []) hx hb hml hl.1 hown ht hOx hDx hS hA (zf_drop l Ex n g r.2.1 r.1 (xs (i + 1)) _) zgL_28 zyX0_drop rfl ⟨by decide, by decide⟩ ⟨by decide, by decide⟩ (Nat.le_of_ble_eq_true rfl) rfl dL_law_233 (fun H locs hOx hDx hS hk1 hD1 => ?_)
  have hXx1 := zz_apart hOm.2 hXx hD1
  have hOm1 : im_O Em n G s H := ⟨hOm.1, zz_frame hOm.2 hXx hk1⟩
  refine lv_aload_n hx hb dL_law_236 rfl (lv_at hl 3 rfl) ?_
  refine lv_aload_n hx hb dL_law_237 rfl (lv_at hl 1 rfl) ?_
  refine lv_iload_n hx hb dL_law_238 rfl (lv_at hl 0 rfl) ?_
  refine lv_iconst (v := nI 1) hx hb dL_law_239 (by decide) ?_
  refine zk_add hx hb dL_law_240 ?_
  refine il_sld hx hb hX hbl hbA hS (by omega) (by omega) dL_law_241 ?_
  refine jm_callM (rest := [.int ((zp_drop n g (xs (i + 1))).1)]) hx hb hml hl.1 hown ht hOm1 hDm hS hA (zfm_drop l Em n G hV r.1 (xs (i + 1)) _) zgL_32 zyX1_drop rfl ⟨by decide, by decide⟩ ⟨by decide, by decide⟩ (Nat.le_of_ble_eq_true rfl) rfl dL_law_242 (fun H locs hOm2 hDm2 hS hk2 hD2 => ?_)
  have hXx2 := (zz_apart hOx.2 hXx1.symm hD2).symm
  have hOx2 : ia_O Ex (zp_drop n g (xs (i + 1))).2.1 (zp_drop n g (xs (i + 1))).2.2 s H := ⟨hOx.1, zz_frame hOx.2 hXx1.symm hk2⟩
  obtain ⟨e1, e2, r2⟩ := zx_drop r (xs (i + 1))
  refine lv_icmp_eq (tgt := 449) hx hb dL_law_245 (by decide) (fun h_9 => ?_) (fun h_9 => absurd e1 h_9)
  rw [← e2] at hOm2 hDm2 hXx2
  refine lv_iinc (v := nI (i + 5)) (lv' := [(3, .int (nI (i + 5))), (0, .ref b), (1, .ref (ia_h Ex 0)), (2, .ref (ia_h Em 0))]) hx hb dL_law_449 hl (k := 0) rfl (nI_add i 5) (by decide) rfl (fun ls hl => ?_)
  refine lv_goto (tgt := 18) hx hb dL_law_452 (by decide) ?_
  exact ih _ _ _ H locs ls r2 hOx2 hOm2 hDx hDm2 hXx2 hS hl
set_option maxHeartbeats 8000000 in
set_option maxRecDepth 100000 in
/-- the law: clear -/
theorem law_clear {p : Program} {l : Launch} {e : Env} {s : State} {m : MethodId} {below : List Frame} {meth : Method} {c : Code} {b L : Nat} {xs : Nat → Int32} (hL : L ≤ 2560) (C0 : lw_At p s m meth c b L xs) (Ex Em : ia_E) (i : Nat) (hi : i + 5 ≤ L) (ih : ∀ (n : Nat) (g G : Nat → Nat → Nat) (H : Heap) (locs : List Loc) (ls : Array Slot), zx_R n g G → ia_O Ex n g s H → im_O Em n G s H → va_D (fun q : Nat => s.heap.size ≤ q) (ia_w Ex n g) → va_D (fun q : Nat => s.heap.size ≤ q) (im_w Em n G) → zz_X (ia_w Ex n g) (im_w Em n G) → va_S (fun q : Nat => s.heap.size ≤ q) s.heap H locs → lv_has ls 4 [(3, .int (nI (i + 5))), (0, .ref b), (1, .ref (ia_h Ex 0)), (2, .ref (ia_h Em 0))] → W p l e room_1 s m #[Value.ref b] below meth c H locs 31 11264 (lw_Z below #[Value.ref b] s) (F0 m 18 ls [])) (n : Nat) (g G : Nat → Nat → Nat) (H : Heap) (locs : List Loc) (ls : Array Slot) (r : zx_R n g G) (hOx : ia_O Ex n g s H) (hOm : im_O Em n G s H) (hDx : va_D (fun q : Nat => s.heap.size ≤ q) (ia_w Ex n g)) (hDm : va_D (fun q : Nat => s.heap.size ≤ q) (im_w Em n G)) (hXx : zz_X (ia_w Ex n g) (im_w Em n G)) (hS : va_S (fun q : Nat => s.heap.size ≤ q) s.heap H locs) (hl : lv_has ls 4 [(3, .int (nI i)), (0, .ref b), (1, .ref (ia_h Ex 0)), (2, .ref (ia_h Em 0))]) : W p l e room_1 s m #[Value.ref b] below meth c H locs 31 11264 (lw_Z below #[Value.ref b] s) (F0 m 250 ls []) := by
  obtain ⟨hx, hb, hr, hml, hown, hts, hX, hbl, hlocks, hgv⟩ := C0
  have ht := tb_of hts
  have hown : s.vm.findClass RL = some m.cls := hown
  have hA : ∀ q : Nat, s.heap.size ≤ q → (fun q : Nat => s.heap.size ≤ q) q := fun _ h => h
  have hbA : ¬ (fun q : Nat => s.heap.size ≤ q) b := Nat.not_le.mpr hbl
  have hV := r.2.2.2.2.1
  refine lv_aload_n hx hb dL_law_250 rfl (lv_at hl 2 rfl) ?_
  refine il_callV (rest := []) hx hb hml hl.1 hown ht hOx hDx hS hA (zc_clear l Ex n g r.2.1 _) zgL_33 zyX0_clear rfl ⟨by decide, by decide⟩ ⟨by decide, by decide⟩ (Nat.le_of_ble_eq_true rfl) rfl dL_law_251 (fun H locs hOx hDx hS hk1 hD1 => ?_)
  have hXx1 := zz_apart hOm.2 hXx hD1
  have hOm1 : im_O Em n G s H := ⟨hOm.1, zz_frame hOm.2 hXx hk1⟩
  refine lv_aload_n hx hb dL_law_254 rfl (lv_at hl 3 rfl) ?_
  refine jm_callV (rest := []) hx hb hml hl.1 hown ht hOm1 hDm hS hA (zmc_clear l Em n G hV.1 _) zgL_36 zyX1_clear rfl ⟨by decide, by decide⟩ ⟨by decide, by decide⟩ (Nat.le_of_ble_eq_true rfl) rfl dL_law_255 (fun H locs hOm2 hDm2 hS hk2 hD2 => ?_)
  have hXx2 := (zz_apart hOx.2 hXx1.symm hD2).symm
  have hOx2 : ia_O Ex 0 g s H := ⟨hOx.1, zz_frame hOx.2 hXx1.symm hk2⟩
  refine lv_goto (tgt := 449) hx hb dL_law_258 (by decide) ?_
  have r2 := zx_less r (Nat.zero_le n)
  refine lv_iinc (v := nI (i + 5)) (lv' := [(3, .int (nI (i + 5))), (0, .ref b), (1, .ref (ia_h Ex 0)), (2, .ref (ia_h Em 0))]) hx hb dL_law_449 hl (k := 0) rfl (nI_add i 5) (by decide) rfl (fun ls hl => ?_)
  refine lv_goto (tgt := 18) hx hb dL_law_452 (by decide) ?_
  exact ih _ _ _ H locs ls r2 hOx2 hOm2 hDx hDm2 hXx2 hS hl
set_option maxHeartbeats 8000000 in
set_option maxRecDepth 100000 in
/-- the law: again -/
theorem law_again {p : Program} {l : Launch} {e : Env} {s : State} {m : MethodId} {below : List Frame} {meth : Method} {c : Code} {b L : Nat} {xs : Nat → Int32} (hL : L ≤ 2560) (C0 : lw_At p s m meth c b L xs) (Ex Em : ia_E) (i : Nat) (hi : i + 5 ≤ L) (ih : ∀ (n : Nat) (g G : Nat → Nat → Nat) (H : Heap) (locs : List Loc) (ls : Array Slot), zx_R n g G → ia_O Ex n g s H → im_O Em n G s H → va_D (fun q : Nat => s.heap.size ≤ q) (ia_w Ex n g) → va_D (fun q : Nat => s.heap.size ≤ q) (im_w Em n G) → zz_X (ia_w Ex n g) (im_w Em n G) → va_S (fun q : Nat => s.heap.size ≤ q) s.heap H locs → lv_has ls 4 [(3, .int (nI (i + 5))), (0, .ref b), (1, .ref (ia_h Ex 0)), (2, .ref (ia_h Em 0))] → W p l e room_1 s m #[Value.ref b] below meth c H locs 31 11264 (lw_Z below #[Value.ref b] s) (F0 m 18 ls [])) (n : Nat) (g G : Nat → Nat → Nat) (H : Heap) (locs : List Loc) (ls : Array Slot) (r : zx_R n g G) (hOx : ia_O Ex n g s H) (hOm : im_O Em n G s H) (hDx : va_D (fun q : Nat => s.heap.size ≤ q) (ia_w Ex n g)) (hDm : va_D (fun q : Nat => s.heap.size ≤ q) (im_w Em n G)) (hXx : zz_X (ia_w Ex n g) (im_w Em n G)) (hS : va_S (fun q : Nat => s.heap.size ≤ q) s.heap H locs) (hl : lv_has ls 4 [(3, .int (nI i)), (0, .ref b), (1, .ref (ia_h Ex 0)), (2, .ref (ia_h Em 0))]) : W p l e room_1 s m #[Value.ref b] below meth c H locs 31 11264 (lw_Z below #[Value.ref b] s) (F0 m 261 ls []) := by
  obtain ⟨hx, hb, hr, hml, hown, hts, hX, hbl, hlocks, hgv⟩ := C0
  have ht := tb_of hts
  have hown : s.vm.findClass RL = some m.cls := hown
  have hA : ∀ q : Nat, s.heap.size ≤ q → (fun q : Nat => s.heap.size ≤ q) q := fun _ h => h
  have hbA : ¬ (fun q : Nat => s.heap.size ≤ q) b := Nat.not_le.mpr hbl
  have hV := r.2.2.2.2.1
  refine lv_aload_n hx hb dL_law_261 rfl (lv_at hl 2 rfl) ?_
  refine lv_aload_n hx hb dL_law_262 rfl (lv_at hl 1 rfl) ?_
  refine lv_iload_n hx hb dL_law_263 rfl (lv_at hl 0 rfl) ?_
  refine lv_iconst (v := nI 1) hx hb dL_law_264 (by decide) ?_
  refine zk_add hx hb dL_law_265 ?_
  refine il_sld hx hb hX hbl hbA hS (by omega) (by omega) dL_law_266 ?_
  refine lv_aload_n hx hb dL_law_267 rfl (lv_at hl 1 rfl) ?_
  refine lv_iload_n hx hb dL_law_268 rfl (lv_at hl 0 rfl) ?_
  refine lv_iconst (v := nI 2) hx hb dL_law_269 (by decide) ?_
  refine zk_add hx hb dL_law_270 ?_
  refine il_sld hx hb hX hbl hbA hS (by omega) (by omega) dL_law_271 ?_
  refine il_callM (rest := []) hx hb hml hl.1 hown ht hOx hDx hS hA (zf_again l Ex n g r.2.1 r.1 r.2.2.1 (xs (i + 1)) (xs (i + 2)) _) zgL_37 zyX0_again rfl ⟨by decide, by decide⟩ ⟨by decide, by decide⟩ (Nat.le_of_ble_eq_true rfl) rfl dL_law_272 (fun H locs hOx hDx hS hk1 hD1 => ?_)
  have hXx1 := zz_apart hOm.2 hXx hD1
  have hOm1 : im_O Em n G s H := ⟨hOm.1, zz_frame hOm.2 hXx hk1⟩
  refine lv_aload_n hx hb dL_law_275 rfl (lv_at hl 3 rfl) ?_
  refine lv_aload_n hx hb dL_law_276 rfl (lv_at hl 1 rfl) ?_
  refine lv_iload_n hx hb dL_law_277 rfl (lv_at hl 0 rfl) ?_
  refine lv_iconst (v := nI 1) hx hb dL_law_278 (by decide) ?_
  refine zk_add hx hb dL_law_279 ?_
  refine il_sld hx hb hX hbl hbA hS (by omega) (by omega) dL_law_280 ?_
  refine lv_aload_n hx hb dL_law_281 rfl (lv_at hl 1 rfl) ?_
  refine lv_iload_n hx hb dL_law_282 rfl (lv_at hl 0 rfl) ?_
  refine lv_iconst (v := nI 2) hx hb dL_law_283 (by decide) ?_
  refine zk_add hx hb dL_law_284 ?_
  refine il_sld hx hb hX hbl hbA hS (by omega) (by omega) dL_law_285 ?_
  refine jm_callM (rest := [.int ((zp_again n g (xs (i + 1)) (xs (i + 2))).1)]) hx hb hml hl.1 hown ht hOm1 hDm hS hA (zfm_again l Em n G hV r.1 (xs (i + 1)) (xs (i + 2)) _) zgL_41 zyX1_again rfl ⟨by decide, by decide⟩ ⟨by decide, by decide⟩ (Nat.le_of_ble_eq_true rfl) rfl dL_law_286 (fun H locs hOm2 hDm2 hS hk2 hD2 => ?_)
  have hXx2 := (zz_apart hOx.2 hXx1.symm hD2).symm
  have hOx2 : ia_O Ex (zp_again n g (xs (i + 1)) (xs (i + 2))).2.1 (zp_again n g (xs (i + 1)) (xs (i + 2))).2.2 s H := ⟨hOx.1, zz_frame hOx.2 hXx1.symm hk2⟩
  obtain ⟨e1, e2, r2⟩ := zx_again r (xs (i + 1)) (xs (i + 2))
  refine lv_icmp_eq (tgt := 449) hx hb dL_law_289 (by decide) (fun h_9 => ?_) (fun h_9 => absurd e1 h_9)
  rw [← e2] at hOm2 hDm2 hXx2
  refine lv_iinc (v := nI (i + 5)) (lv' := [(3, .int (nI (i + 5))), (0, .ref b), (1, .ref (ia_h Ex 0)), (2, .ref (ia_h Em 0))]) hx hb dL_law_449 hl (k := 0) rfl (nI_add i 5) (by decide) rfl (fun ls hl => ?_)
  refine lv_goto (tgt := 18) hx hb dL_law_452 (by decide) ?_
  exact ih _ _ _ H locs ls r2 hOx2 hOm2 hDx hDm2 hXx2 hS hl
set_option maxHeartbeats 8000000 in
set_option maxRecDepth 100000 in
/-- the law: time -/
theorem law_time {p : Program} {l : Launch} {e : Env} {s : State} {m : MethodId} {below : List Frame} {meth : Method} {c : Code} {b L : Nat} {xs : Nat → Int32} (hL : L ≤ 2560) (C0 : lw_At p s m meth c b L xs) (Ex Em : ia_E) (i : Nat) (hi : i + 5 ≤ L) (ih : ∀ (n : Nat) (g G : Nat → Nat → Nat) (H : Heap) (locs : List Loc) (ls : Array Slot), zx_R n g G → ia_O Ex n g s H → im_O Em n G s H → va_D (fun q : Nat => s.heap.size ≤ q) (ia_w Ex n g) → va_D (fun q : Nat => s.heap.size ≤ q) (im_w Em n G) → zz_X (ia_w Ex n g) (im_w Em n G) → va_S (fun q : Nat => s.heap.size ≤ q) s.heap H locs → lv_has ls 4 [(3, .int (nI (i + 5))), (0, .ref b), (1, .ref (ia_h Ex 0)), (2, .ref (ia_h Em 0))] → W p l e room_1 s m #[Value.ref b] below meth c H locs 31 11264 (lw_Z below #[Value.ref b] s) (F0 m 18 ls [])) (n : Nat) (g G : Nat → Nat → Nat) (H : Heap) (locs : List Loc) (ls : Array Slot) (r : zx_R n g G) (hOx : ia_O Ex n g s H) (hOm : im_O Em n G s H) (hDx : va_D (fun q : Nat => s.heap.size ≤ q) (ia_w Ex n g)) (hDm : va_D (fun q : Nat => s.heap.size ≤ q) (im_w Em n G)) (hXx : zz_X (ia_w Ex n g) (im_w Em n G)) (hS : va_S (fun q : Nat => s.heap.size ≤ q) s.heap H locs) (hl : lv_has ls 4 [(3, .int (nI i)), (0, .ref b), (1, .ref (ia_h Ex 0)), (2, .ref (ia_h Em 0))]) : W p l e room_1 s m #[Value.ref b] below meth c H locs 31 11264 (lw_Z below #[Value.ref b] s) (F0 m 294 ls []) := by
  obtain ⟨hx, hb, hr, hml, hown, hts, hX, hbl, hlocks, hgv⟩ := C0
  have ht := tb_of hts
  have hown : s.vm.findClass RL = some m.cls := hown
  have hA : ∀ q : Nat, s.heap.size ≤ q → (fun q : Nat => s.heap.size ≤ q) q := fun _ h => h
  have hbA : ¬ (fun q : Nat => s.heap.size ≤ q) b := Nat.not_le.mpr hbl
  have hV := r.2.2.2.2.1
  refine lv_aload_n hx hb dL_law_294 rfl (lv_at hl 2 rfl) ?_
  refine lv_aload_n hx hb dL_law_295 rfl (lv_at hl 1 rfl) ?_
  refine lv_iload_n hx hb dL_law_296 rfl (lv_at hl 0 rfl) ?_
  refine lv_iconst (v := nI 1) hx hb dL_law_297 (by decide) ?_
  refine zk_add hx hb dL_law_298 ?_
  refine il_sld hx hb hX hbl hbA hS (by omega) (by omega) dL_law_299 ?_
  refine lv_aload_n hx hb dL_law_300 rfl (lv_at hl 1 rfl) ?_
  refine lv_iload_n hx hb dL_law_301 rfl (lv_at hl 0 rfl) ?_
  refine lv_iconst (v := nI 2) hx hb dL_law_302 (by decide) ?_
  refine zk_add hx hb dL_law_303 ?_
  refine il_sld hx hb hX hbl hbA hS (by omega) (by omega) dL_law_304 ?_
  refine ia_call (rest := []) hx hb hml hl.1 hown ht hOx (zf_time l Ex n g r.2.1 r.1 (xs (i + 1)) (xs (i + 2))) zgL_42 zyX0_time rfl ⟨by decide, by decide⟩ ⟨by decide, by decide⟩ (Nat.le_of_ble_eq_true rfl) rfl dL_law_305 ?_
  refine lv_aload_n hx hb dL_law_308 rfl (lv_at hl 3 rfl) ?_
  refine lv_aload_n hx hb dL_law_309 rfl (lv_at hl 1 rfl) ?_
  refine lv_iload_n hx hb dL_law_310 rfl (lv_at hl 0 rfl) ?_
  refine lv_iconst (v := nI 1) hx hb dL_law_311 (by decide) ?_
  refine zk_add hx hb dL_law_312 ?_
  refine il_sld hx hb hX hbl hbA hS (by omega) (by omega) dL_law_313 ?_
  refine lv_aload_n hx hb dL_law_314 rfl (lv_at hl 1 rfl) ?_
  refine lv_iload_n hx hb dL_law_315 rfl (lv_at hl 0 rfl) ?_
  refine lv_iconst (v := nI 2) hx hb dL_law_316 (by decide) ?_
  refine zk_add hx hb dL_law_317 ?_
  refine il_sld hx hb hX hbl hbA hS (by omega) (by omega) dL_law_318 ?_
  refine jm_callM (rest := [.int (zr_time n g (xs (i + 1)) (xs (i + 2)))]) hx hb hml hl.1 hown ht hOm hDm hS hA (zfm_time l Em n G hV r.1 (xs (i + 1)) (xs (i + 2)) _) zgL_45 zyX1_time rfl ⟨by decide, by decide⟩ ⟨by decide, by decide⟩ (Nat.le_of_ble_eq_true rfl) rfl dL_law_319 (fun H locs hOm2 hDm2 hS hk2 hD2 => ?_)
  have hXx2 := (zz_apart hOx.2 hXx.symm hD2).symm
  have hOx2 : ia_O Ex n g s H := ⟨hOx.1, zz_frame hOx.2 hXx.symm hk2⟩
  obtain ⟨e1, e2, r2⟩ := zx_time r (xs (i + 1)) (xs (i + 2))
  refine lv_icmp_eq (tgt := 449) hx hb dL_law_322 (by decide) (fun h_9 => ?_) (fun h_9 => absurd e1 h_9)
  rw [← e2] at hOm2 hDm2 hXx2
  refine lv_iinc (v := nI (i + 5)) (lv' := [(3, .int (nI (i + 5))), (0, .ref b), (1, .ref (ia_h Ex 0)), (2, .ref (ia_h Em 0))]) hx hb dL_law_449 hl (k := 0) rfl (nI_add i 5) (by decide) rfl (fun ls hl => ?_)
  refine lv_goto (tgt := 18) hx hb dL_law_452 (by decide) ?_
  exact ih _ _ _ H locs ls r2 hOx2 hOm2 hDx hDm2 hXx2 hS hl
set_option maxHeartbeats 8000000 in
set_option maxRecDepth 100000 in
/-- the law: of -/
theorem law_of {p : Program} {l : Launch} {e : Env} {s : State} {m : MethodId} {below : List Frame} {meth : Method} {c : Code} {b L : Nat} {xs : Nat → Int32} (hL : L ≤ 2560) (C0 : lw_At p s m meth c b L xs) (Ex Em : ia_E) (i : Nat) (hi : i + 5 ≤ L) (ih : ∀ (n : Nat) (g G : Nat → Nat → Nat) (H : Heap) (locs : List Loc) (ls : Array Slot), zx_R n g G → ia_O Ex n g s H → im_O Em n G s H → va_D (fun q : Nat => s.heap.size ≤ q) (ia_w Ex n g) → va_D (fun q : Nat => s.heap.size ≤ q) (im_w Em n G) → zz_X (ia_w Ex n g) (im_w Em n G) → va_S (fun q : Nat => s.heap.size ≤ q) s.heap H locs → lv_has ls 4 [(3, .int (nI (i + 5))), (0, .ref b), (1, .ref (ia_h Ex 0)), (2, .ref (ia_h Em 0))] → W p l e room_1 s m #[Value.ref b] below meth c H locs 31 11264 (lw_Z below #[Value.ref b] s) (F0 m 18 ls [])) (n : Nat) (g G : Nat → Nat → Nat) (H : Heap) (locs : List Loc) (ls : Array Slot) (r : zx_R n g G) (hOx : ia_O Ex n g s H) (hOm : im_O Em n G s H) (hDx : va_D (fun q : Nat => s.heap.size ≤ q) (ia_w Ex n g)) (hDm : va_D (fun q : Nat => s.heap.size ≤ q) (im_w Em n G)) (hXx : zz_X (ia_w Ex n g) (im_w Em n G)) (hS : va_S (fun q : Nat => s.heap.size ≤ q) s.heap H locs) (hl : lv_has ls 4 [(3, .int (nI i)), (0, .ref b), (1, .ref (ia_h Ex 0)), (2, .ref (ia_h Em 0))]) : W p l e room_1 s m #[Value.ref b] below meth c H locs 31 11264 (lw_Z below #[Value.ref b] s) (F0 m 327 ls []) := by
  obtain ⟨hx, hb, hr, hml, hown, hts, hX, hbl, hlocks, hgv⟩ := C0
  have ht := tb_of hts
  have hown : s.vm.findClass RL = some m.cls := hown
  have hA : ∀ q : Nat, s.heap.size ≤ q → (fun q : Nat => s.heap.size ≤ q) q := fun _ h => h
  have hbA : ¬ (fun q : Nat => s.heap.size ≤ q) b := Nat.not_le.mpr hbl
  have hV := r.2.2.2.2.1
  refine lv_aload_n hx hb dL_law_327 rfl (lv_at hl 2 rfl) ?_
  refine lv_aload_n hx hb dL_law_328 rfl (lv_at hl 1 rfl) ?_
  refine lv_iload_n hx hb dL_law_329 rfl (lv_at hl 0 rfl) ?_
  refine lv_iconst (v := nI 1) hx hb dL_law_330 (by decide) ?_
  refine zk_add hx hb dL_law_331 ?_
  refine il_sld hx hb hX hbl hbA hS (by omega) (by omega) dL_law_332 ?_
  refine lv_aload_n hx hb dL_law_333 rfl (lv_at hl 1 rfl) ?_
  refine lv_iload_n hx hb dL_law_334 rfl (lv_at hl 0 rfl) ?_
  refine lv_iconst (v := nI 2) hx hb dL_law_335 (by decide) ?_
  refine zk_add hx hb dL_law_336 ?_
  refine il_sld hx hb hX hbl hbA hS (by omega) (by omega) dL_law_337 ?_
  refine ia_call (rest := []) hx hb hml hl.1 hown ht hOx (zf_of l Ex n g r.2.1 r.1 (xs (i + 1)) (xs (i + 2))) zgL_46 zyX0_of rfl ⟨by decide, by decide⟩ ⟨by decide, by decide⟩ (Nat.le_of_ble_eq_true rfl) rfl dL_law_338 ?_
  refine lv_aload_n hx hb dL_law_341 rfl (lv_at hl 3 rfl) ?_
  refine lv_aload_n hx hb dL_law_342 rfl (lv_at hl 1 rfl) ?_
  refine lv_iload_n hx hb dL_law_343 rfl (lv_at hl 0 rfl) ?_
  refine lv_iconst (v := nI 1) hx hb dL_law_344 (by decide) ?_
  refine zk_add hx hb dL_law_345 ?_
  refine il_sld hx hb hX hbl hbA hS (by omega) (by omega) dL_law_346 ?_
  refine lv_aload_n hx hb dL_law_347 rfl (lv_at hl 1 rfl) ?_
  refine lv_iload_n hx hb dL_law_348 rfl (lv_at hl 0 rfl) ?_
  refine lv_iconst (v := nI 2) hx hb dL_law_349 (by decide) ?_
  refine zk_add hx hb dL_law_350 ?_
  refine il_sld hx hb hX hbl hbA hS (by omega) (by omega) dL_law_351 ?_
  refine jm_callM (rest := [.int (zr_of n g (xs (i + 1)) (xs (i + 2)))]) hx hb hml hl.1 hown ht hOm hDm hS hA (zfm_of l Em n G hV r.1 (xs (i + 1)) (xs (i + 2)) _) zgL_49 zyX1_of rfl ⟨by decide, by decide⟩ ⟨by decide, by decide⟩ (Nat.le_of_ble_eq_true rfl) rfl dL_law_352 (fun H locs hOm2 hDm2 hS hk2 hD2 => ?_)
  have hXx2 := (zz_apart hOx.2 hXx.symm hD2).symm
  have hOx2 : ia_O Ex n g s H := ⟨hOx.1, zz_frame hOx.2 hXx.symm hk2⟩
  obtain ⟨e1, e2, r2⟩ := zx_of r (xs (i + 1)) (xs (i + 2))
  refine lv_icmp_eq (tgt := 449) hx hb dL_law_355 (by decide) (fun h_9 => ?_) (fun h_9 => absurd e1 h_9)
  rw [← e2] at hOm2 hDm2 hXx2
  refine lv_iinc (v := nI (i + 5)) (lv' := [(3, .int (nI (i + 5))), (0, .ref b), (1, .ref (ia_h Ex 0)), (2, .ref (ia_h Em 0))]) hx hb dL_law_449 hl (k := 0) rfl (nI_add i 5) (by decide) rfl (fun ls hl => ?_)
  refine lv_goto (tgt := 18) hx hb dL_law_452 (by decide) ?_
  exact ih _ _ _ H locs ls r2 hOx2 hOm2 hDx hDm2 hXx2 hS hl
set_option maxHeartbeats 8000000 in
set_option maxRecDepth 100000 in
/-- the law: stage -/
theorem law_stage {p : Program} {l : Launch} {e : Env} {s : State} {m : MethodId} {below : List Frame} {meth : Method} {c : Code} {b L : Nat} {xs : Nat → Int32} (hL : L ≤ 2560) (C0 : lw_At p s m meth c b L xs) (Ex Em : ia_E) (i : Nat) (hi : i + 5 ≤ L) (ih : ∀ (n : Nat) (g G : Nat → Nat → Nat) (H : Heap) (locs : List Loc) (ls : Array Slot), zx_R n g G → ia_O Ex n g s H → im_O Em n G s H → va_D (fun q : Nat => s.heap.size ≤ q) (ia_w Ex n g) → va_D (fun q : Nat => s.heap.size ≤ q) (im_w Em n G) → zz_X (ia_w Ex n g) (im_w Em n G) → va_S (fun q : Nat => s.heap.size ≤ q) s.heap H locs → lv_has ls 4 [(3, .int (nI (i + 5))), (0, .ref b), (1, .ref (ia_h Ex 0)), (2, .ref (ia_h Em 0))] → W p l e room_1 s m #[Value.ref b] below meth c H locs 31 11264 (lw_Z below #[Value.ref b] s) (F0 m 18 ls [])) (n : Nat) (g G : Nat → Nat → Nat) (H : Heap) (locs : List Loc) (ls : Array Slot) (r : zx_R n g G) (hOx : ia_O Ex n g s H) (hOm : im_O Em n G s H) (hDx : va_D (fun q : Nat => s.heap.size ≤ q) (ia_w Ex n g)) (hDm : va_D (fun q : Nat => s.heap.size ≤ q) (im_w Em n G)) (hXx : zz_X (ia_w Ex n g) (im_w Em n G)) (hS : va_S (fun q : Nat => s.heap.size ≤ q) s.heap H locs) (hl : lv_has ls 4 [(3, .int (nI i)), (0, .ref b), (1, .ref (ia_h Ex 0)), (2, .ref (ia_h Em 0))]) : W p l e room_1 s m #[Value.ref b] below meth c H locs 31 11264 (lw_Z below #[Value.ref b] s) (F0 m 360 ls []) := by
  obtain ⟨hx, hb, hr, hml, hown, hts, hX, hbl, hlocks, hgv⟩ := C0
  have ht := tb_of hts
  have hown : s.vm.findClass RL = some m.cls := hown
  have hA : ∀ q : Nat, s.heap.size ≤ q → (fun q : Nat => s.heap.size ≤ q) q := fun _ h => h
  have hbA : ¬ (fun q : Nat => s.heap.size ≤ q) b := Nat.not_le.mpr hbl
  have hV := r.2.2.2.2.1
  refine lv_aload_n hx hb dL_law_360 rfl (lv_at hl 2 rfl) ?_
  refine lv_aload_n hx hb dL_law_361 rfl (lv_at hl 1 rfl) ?_
  refine lv_iload_n hx hb dL_law_362 rfl (lv_at hl 0 rfl) ?_
  refine lv_iconst (v := nI 1) hx hb dL_law_363 (by decide) ?_
  refine zk_add hx hb dL_law_364 ?_
  refine il_sld hx hb hX hbl hbA hS (by omega) (by omega) dL_law_365 ?_
  refine lv_aload_n hx hb dL_law_366 rfl (lv_at hl 1 rfl) ?_
  refine lv_iload_n hx hb dL_law_367 rfl (lv_at hl 0 rfl) ?_
  refine lv_iconst (v := nI 2) hx hb dL_law_368 (by decide) ?_
  refine zk_add hx hb dL_law_369 ?_
  refine il_sld hx hb hX hbl hbA hS (by omega) (by omega) dL_law_370 ?_
  refine ia_call (rest := []) hx hb hml hl.1 hown ht hOx (zf_stage l Ex n g r.2.1 r.1 (xs (i + 1)) (xs (i + 2))) zgL_50 zyX0_stage rfl ⟨by decide, by decide⟩ ⟨by decide, by decide⟩ (Nat.le_of_ble_eq_true rfl) rfl dL_law_371 ?_
  refine lv_aload_n hx hb dL_law_374 rfl (lv_at hl 3 rfl) ?_
  refine lv_aload_n hx hb dL_law_375 rfl (lv_at hl 1 rfl) ?_
  refine lv_iload_n hx hb dL_law_376 rfl (lv_at hl 0 rfl) ?_
  refine lv_iconst (v := nI 1) hx hb dL_law_377 (by decide) ?_
  refine zk_add hx hb dL_law_378 ?_
  refine il_sld hx hb hX hbl hbA hS (by omega) (by omega) dL_law_379 ?_
  refine lv_aload_n hx hb dL_law_380 rfl (lv_at hl 1 rfl) ?_
  refine lv_iload_n hx hb dL_law_381 rfl (lv_at hl 0 rfl) ?_
  refine lv_iconst (v := nI 2) hx hb dL_law_382 (by decide) ?_
  refine zk_add hx hb dL_law_383 ?_
  refine il_sld hx hb hX hbl hbA hS (by omega) (by omega) dL_law_384 ?_
  refine jm_callM (rest := [.int (zr_stage n g (xs (i + 1)) (xs (i + 2)))]) hx hb hml hl.1 hown ht hOm hDm hS hA (zfm_stage l Em n G hV r.1 (xs (i + 1)) (xs (i + 2)) _) zgL_53 zyX1_stage rfl ⟨by decide, by decide⟩ ⟨by decide, by decide⟩ (Nat.le_of_ble_eq_true rfl) rfl dL_law_385 (fun H locs hOm2 hDm2 hS hk2 hD2 => ?_)
  have hXx2 := (zz_apart hOx.2 hXx.symm hD2).symm
  have hOx2 : ia_O Ex n g s H := ⟨hOx.1, zz_frame hOx.2 hXx.symm hk2⟩
  obtain ⟨e1, e2, r2⟩ := zx_stage r (xs (i + 1)) (xs (i + 2))
  refine lv_icmp_eq (tgt := 449) hx hb dL_law_388 (by decide) (fun h_9 => ?_) (fun h_9 => absurd e1 h_9)
  rw [← e2] at hOm2 hDm2 hXx2
  refine lv_iinc (v := nI (i + 5)) (lv' := [(3, .int (nI (i + 5))), (0, .ref b), (1, .ref (ia_h Ex 0)), (2, .ref (ia_h Em 0))]) hx hb dL_law_449 hl (k := 0) rfl (nI_add i 5) (by decide) rfl (fun ls hl => ?_)
  refine lv_goto (tgt := 18) hx hb dL_law_452 (by decide) ?_
  exact ih _ _ _ H locs ls r2 hOx2 hOm2 hDx hDm2 hXx2 hS hl
set_option maxHeartbeats 8000000 in
set_option maxRecDepth 100000 in
/-- the law: many -/
theorem law_many {p : Program} {l : Launch} {e : Env} {s : State} {m : MethodId} {below : List Frame} {meth : Method} {c : Code} {b L : Nat} {xs : Nat → Int32} (hL : L ≤ 2560) (C0 : lw_At p s m meth c b L xs) (Ex Em : ia_E) (i : Nat) (hi : i + 5 ≤ L) (ih : ∀ (n : Nat) (g G : Nat → Nat → Nat) (H : Heap) (locs : List Loc) (ls : Array Slot), zx_R n g G → ia_O Ex n g s H → im_O Em n G s H → va_D (fun q : Nat => s.heap.size ≤ q) (ia_w Ex n g) → va_D (fun q : Nat => s.heap.size ≤ q) (im_w Em n G) → zz_X (ia_w Ex n g) (im_w Em n G) → va_S (fun q : Nat => s.heap.size ≤ q) s.heap H locs → lv_has ls 4 [(3, .int (nI (i + 5))), (0, .ref b), (1, .ref (ia_h Ex 0)), (2, .ref (ia_h Em 0))] → W p l e room_1 s m #[Value.ref b] below meth c H locs 31 11264 (lw_Z below #[Value.ref b] s) (F0 m 18 ls [])) (n : Nat) (g G : Nat → Nat → Nat) (H : Heap) (locs : List Loc) (ls : Array Slot) (r : zx_R n g G) (hOx : ia_O Ex n g s H) (hOm : im_O Em n G s H) (hDx : va_D (fun q : Nat => s.heap.size ≤ q) (ia_w Ex n g)) (hDm : va_D (fun q : Nat => s.heap.size ≤ q) (im_w Em n G)) (hXx : zz_X (ia_w Ex n g) (im_w Em n G)) (hS : va_S (fun q : Nat => s.heap.size ≤ q) s.heap H locs) (hl : lv_has ls 4 [(3, .int (nI i)), (0, .ref b), (1, .ref (ia_h Ex 0)), (2, .ref (ia_h Em 0))]) : W p l e room_1 s m #[Value.ref b] below meth c H locs 31 11264 (lw_Z below #[Value.ref b] s) (F0 m 393 ls []) := by
  obtain ⟨hx, hb, hr, hml, hown, hts, hX, hbl, hlocks, hgv⟩ := C0
  have ht := tb_of hts
  have hown : s.vm.findClass RL = some m.cls := hown
  have hA : ∀ q : Nat, s.heap.size ≤ q → (fun q : Nat => s.heap.size ≤ q) q := fun _ h => h
  have hbA : ¬ (fun q : Nat => s.heap.size ≤ q) b := Nat.not_le.mpr hbl
  have hV := r.2.2.2.2.1
  refine lv_aload_n hx hb dL_law_393 rfl (lv_at hl 2 rfl) ?_
  refine lv_aload_n hx hb dL_law_394 rfl (lv_at hl 1 rfl) ?_
  refine lv_iload_n hx hb dL_law_395 rfl (lv_at hl 0 rfl) ?_
  refine lv_iconst (v := nI 1) hx hb dL_law_396 (by decide) ?_
  refine zk_add hx hb dL_law_397 ?_
  refine il_sld hx hb hX hbl hbA hS (by omega) (by omega) dL_law_398 ?_
  refine lv_aload_n hx hb dL_law_399 rfl (lv_at hl 1 rfl) ?_
  refine lv_iload_n hx hb dL_law_400 rfl (lv_at hl 0 rfl) ?_
  refine lv_iconst (v := nI 2) hx hb dL_law_401 (by decide) ?_
  refine zk_add hx hb dL_law_402 ?_
  refine il_sld hx hb hX hbl hbA hS (by omega) (by omega) dL_law_403 ?_
  refine ia_call (rest := []) hx hb hml hl.1 hown ht hOx (zf_many l Ex n g r.2.1 r.1 (xs (i + 1)) (xs (i + 2))) zgL_54 zyX0_many rfl ⟨by decide, by decide⟩ ⟨by decide, by decide⟩ (Nat.le_of_ble_eq_true rfl) rfl dL_law_404 ?_
  refine lv_aload_n hx hb dL_law_407 rfl (lv_at hl 3 rfl) ?_
  refine lv_aload_n hx hb dL_law_408 rfl (lv_at hl 1 rfl) ?_
  refine lv_iload_n hx hb dL_law_409 rfl (lv_at hl 0 rfl) ?_
  refine lv_iconst (v := nI 1) hx hb dL_law_410 (by decide) ?_
  refine zk_add hx hb dL_law_411 ?_
  refine il_sld hx hb hX hbl hbA hS (by omega) (by omega) dL_law_412 ?_
  refine lv_aload_n hx hb dL_law_413 rfl (lv_at hl 1 rfl) ?_
  refine lv_iload_n hx hb dL_law_414 rfl (lv_at hl 0 rfl) ?_
  refine lv_iconst (v := nI 2) hx hb dL_law_415 (by decide) ?_
  refine zk_add hx hb dL_law_416 ?_
  refine il_sld hx hb hX hbl hbA hS (by omega) (by omega) dL_law_417 ?_
  refine jm_callM (rest := [.int (zr_many n g (xs (i + 1)) (xs (i + 2)))]) hx hb hml hl.1 hown ht hOm hDm hS hA (zfm_many l Em n G hV r.1 (xs (i + 1)) (xs (i + 2)) _) zgL_57 zyX1_many rfl ⟨by decide, by decide⟩ ⟨by decide, by decide⟩ (Nat.le_of_ble_eq_true rfl) rfl dL_law_418 (fun H locs hOm2 hDm2 hS hk2 hD2 => ?_)
  have hXx2 := (zz_apart hOx.2 hXx.symm hD2).symm
  have hOx2 : ia_O Ex n g s H := ⟨hOx.1, zz_frame hOx.2 hXx.symm hk2⟩
  obtain ⟨e1, e2, r2⟩ := zx_many r (xs (i + 1)) (xs (i + 2))
  refine lv_icmp_eq (tgt := 449) hx hb dL_law_421 (by decide) (fun h_9 => ?_) (fun h_9 => absurd e1 h_9)
  rw [← e2] at hOm2 hDm2 hXx2
  refine lv_iinc (v := nI (i + 5)) (lv' := [(3, .int (nI (i + 5))), (0, .ref b), (1, .ref (ia_h Ex 0)), (2, .ref (ia_h Em 0))]) hx hb dL_law_449 hl (k := 0) rfl (nI_add i 5) (by decide) rfl (fun ls hl => ?_)
  refine lv_goto (tgt := 18) hx hb dL_law_452 (by decide) ?_
  exact ih _ _ _ H locs ls r2 hOx2 hOm2 hDx hDm2 hXx2 hS hl
set_option maxHeartbeats 8000000 in
set_option maxRecDepth 100000 in
/-- the law: look -/
theorem law_look {p : Program} {l : Launch} {e : Env} {s : State} {m : MethodId} {below : List Frame} {meth : Method} {c : Code} {b L : Nat} {xs : Nat → Int32} (hL : L ≤ 2560) (C0 : lw_At p s m meth c b L xs) (Ex Em : ia_E) (i : Nat) (hi : i + 5 ≤ L) (ih : ∀ (n : Nat) (g G : Nat → Nat → Nat) (H : Heap) (locs : List Loc) (ls : Array Slot), zx_R n g G → ia_O Ex n g s H → im_O Em n G s H → va_D (fun q : Nat => s.heap.size ≤ q) (ia_w Ex n g) → va_D (fun q : Nat => s.heap.size ≤ q) (im_w Em n G) → zz_X (ia_w Ex n g) (im_w Em n G) → va_S (fun q : Nat => s.heap.size ≤ q) s.heap H locs → lv_has ls 4 [(3, .int (nI (i + 5))), (0, .ref b), (1, .ref (ia_h Ex 0)), (2, .ref (ia_h Em 0))] → W p l e room_1 s m #[Value.ref b] below meth c H locs 31 11264 (lw_Z below #[Value.ref b] s) (F0 m 18 ls [])) (n : Nat) (g G : Nat → Nat → Nat) (H : Heap) (locs : List Loc) (ls : Array Slot) (r : zx_R n g G) (hOx : ia_O Ex n g s H) (hOm : im_O Em n G s H) (hDx : va_D (fun q : Nat => s.heap.size ≤ q) (ia_w Ex n g)) (hDm : va_D (fun q : Nat => s.heap.size ≤ q) (im_w Em n G)) (hXx : zz_X (ia_w Ex n g) (im_w Em n G)) (hS : va_S (fun q : Nat => s.heap.size ≤ q) s.heap H locs) (hl : lv_has ls 4 [(3, .int (nI i)), (0, .ref b), (1, .ref (ia_h Ex 0)), (2, .ref (ia_h Em 0))]) : W p l e room_1 s m #[Value.ref b] below meth c H locs 31 11264 (lw_Z below #[Value.ref b] s) (F0 m 426 ls []) := by
  obtain ⟨hx, hb, hr, hml, hown, hts, hX, hbl, hlocks, hgv⟩ := C0
  have ht := tb_of hts
  have hown : s.vm.findClass RL = some m.cls := hown
  have hA : ∀ q : Nat, s.heap.size ≤ q → (fun q : Nat => s.heap.size ≤ q) q := fun _ h => h
  have hbA : ¬ (fun q : Nat => s.heap.size ≤ q) b := Nat.not_le.mpr hbl
  have hV := r.2.2.2.2.1
  refine lv_aload_n hx hb dL_law_426 rfl (lv_at hl 2 rfl) ?_
  refine lv_aload_n hx hb dL_law_427 rfl (lv_at hl 1 rfl) ?_
  refine lv_iload_n hx hb dL_law_428 rfl (lv_at hl 0 rfl) ?_
  refine lv_iconst (v := nI 1) hx hb dL_law_429 (by decide) ?_
  refine zk_add hx hb dL_law_430 ?_
  refine il_sld hx hb hX hbl hbA hS (by omega) (by omega) dL_law_431 ?_
  refine ia_call (rest := []) hx hb hml hl.1 hown ht hOx (zf_look l Ex n r (xs (i + 1))) zgL_58 zyX0_look rfl ⟨by decide, by decide⟩ ⟨by decide, by decide⟩ (Nat.le_of_ble_eq_true rfl) rfl dL_law_432 ?_
  refine lv_aload_n hx hb dL_law_435 rfl (lv_at hl 3 rfl) ?_
  refine lv_aload_n hx hb dL_law_436 rfl (lv_at hl 1 rfl) ?_
  refine lv_iload_n hx hb dL_law_437 rfl (lv_at hl 0 rfl) ?_
  refine lv_iconst (v := nI 1) hx hb dL_law_438 (by decide) ?_
  refine zk_add hx hb dL_law_439 ?_
  refine il_sld hx hb hX hbl hbA hS (by omega) (by omega) dL_law_440 ?_
  refine jm_callM (rest := [.int (zp_look g n (xs (i + 1)).toInt)]) hx hb hml hl.1 hown ht hOm hDm hS hA (zfm_look l Em n G r (xs (i + 1)) _) zgL_62 zyX1_look rfl ⟨by decide, by decide⟩ ⟨by decide, by decide⟩ (Nat.le_of_ble_eq_true rfl) rfl dL_law_441 (fun H locs hOm2 hDm2 hS hk2 hD2 => ?_)
  have hXx2 := (zz_apart hOx.2 hXx.symm hD2).symm
  have hOx2 : ia_O Ex n g s H := ⟨hOx.1, zz_frame hOx.2 hXx.symm hk2⟩
  obtain ⟨e1, e2, r2⟩ := zx_look r (xs (i + 1))
  refine lv_icmp_eq (tgt := 449) hx hb dL_law_444 (by decide) (fun h_9 => ?_) (fun h_9 => absurd e1 h_9)
  rw [← e2] at hOm2 hDm2 hXx2
  refine lv_iinc (v := nI (i + 5)) (lv' := [(3, .int (nI (i + 5))), (0, .ref b), (1, .ref (ia_h Ex 0)), (2, .ref (ia_h Em 0))]) hx hb dL_law_449 hl (k := 0) rfl (nI_add i 5) (by decide) rfl (fun ls hl => ?_)
  refine lv_goto (tgt := 18) hx hb dL_law_452 (by decide) ?_
  exact ih _ _ _ H locs ls r2 hOx2 hOm2 hDx hDm2 hXx2 hS hl
set_option maxHeartbeats 8000000 in
set_option maxRecDepth 100000 in
/-- the law's loop -/
theorem law_loop {p : Program} {l : Launch} {e : Env} {s : State} {m : MethodId} {below : List Frame} {meth : Method} {c : Code} {b L : Nat} {xs : Nat → Int32} (hL : L ≤ 2560) (C0 : lw_At p s m meth c b L xs) (Ex Em : ia_E) : ∀ (d i : Nat), i ≤ L + 5 → L + 5 < i + 5 * d → ∀ (n : Nat) (g G : Nat → Nat → Nat) (H : Heap) (locs : List Loc) (ls : Array Slot), zx_R n g G → ia_O Ex n g s H → im_O Em n G s H → va_D (fun q : Nat => s.heap.size ≤ q) (ia_w Ex n g) → va_D (fun q : Nat => s.heap.size ≤ q) (im_w Em n G) → zz_X (ia_w Ex n g) (im_w Em n G) → va_S (fun q : Nat => s.heap.size ≤ q) s.heap H locs → lv_has ls 4 [(3, .int (nI i)), (0, .ref b), (1, .ref (ia_h Ex 0)), (2, .ref (ia_h Em 0))] → W p l e room_1 s m #[Value.ref b] below meth c H locs 31 11264 (lw_Z below #[Value.ref b] s) (F0 m 18 ls []) := by
  intro d
  induction d with
  | zero => intro i hi hd; exact absurd hd (by omega)
  | succ d ihd =>
    intro i hi hd n g G H locs ls r hOx hOm hDx hDm hXx hS hl
    have C1 := C0
    obtain ⟨hx, hb, hr, hml, hown, hts, hX, hbl, hlocks, hgv⟩ := C0
    have hbA : ¬ (fun q : Nat => s.heap.size ≤ q) b := Nat.not_le.mpr hbl
    refine lv_iload_n hx hb dL_law_18 rfl (lv_at hl 0 rfl) ?_
    refine lv_aload_n hx hb dL_law_19 rfl (lv_at hl 1 rfl) ?_
    refine va_slen hx hb hX hbl hbA hS dL_law_20 ?_
    refine lv_iconst (v := nI 5) hx hb dL_law_21 (by decide) ?_
    refine lv_isub hx hb dL_law_22 ?_
    have t1 : (Int32.ofNat L - nI 5).toInt = (L : Int) - (5 : Nat) := pk_sub_toInt (a := L) (b := 5) (by omega) (by omega)
    have t2 := nI_toInt (n := i) (by omega)
    refine zi_cgt (tgt := 455) hx hb dL_law_23 (by decide) (fun h_1 => ?_) (fun h_1 => ?_)
    · refine lv_iconst (v := 1) hx hb dL_law_455 (by decide) ?_
      refine va_forget (fun q hq => hS.2.2 q hq) ?_
      exact lw_ret hx hb hr hlocks dL_law_456
    · have hi5 : i + 5 ≤ L := by omega
      have ih := ihd (i + 5) (by omega) (by omega)
      refine lv_aload_n hx hb dL_law_26 rfl (lv_at hl 1 rfl) ?_
      refine lv_iload_n hx hb dL_law_27 rfl (lv_at hl 0 rfl) ?_
      refine il_sld hx hb hX hbl hbA hS (by omega) (by omega) dL_law_28 ?_
      refine lv_bipush (v := nI 15) hx hb dL_law_29 (by decide) ?_
      refine lv_iand hx hb dL_law_31 ?_
      obtain ⟨j, hj, ej⟩ := il_and (xs i)
      refine zk_top ej ?_
      rcases (show j = 0 ∨ j = 1 ∨ j = 2 ∨ j = 3 ∨ j = 4 ∨ j = 5 ∨ j = 6 ∨ j = 7 ∨ j = 8 ∨ j = 9 ∨ j = 10 ∨ 10 < j by omega) with rfl | rfl | rfl | rfl | rfl | rfl | rfl | rfl | rfl | rfl | rfl | hj2
      · refine lv_tableIn (tgt := 92) (off := 60) hx hb dL_law_32 (by decide) (by decide) (by decide) (by decide) ?_
        exact law_put hL C1 Ex Em i hi5 ih n g G H locs ls r hOx hOm hDx hDm hXx hS hl
      · refine lv_tableIn (tgt := 145) (off := 113) hx hb dL_law_32 (by decide) (by decide) (by decide) (by decide) ?_
        exact law_branch hL C1 Ex Em i hi5 ih n g G H locs ls r hOx hOm hDx hDm hXx hS hl
      · refine lv_tableIn (tgt := 214) (off := 182) hx hb dL_law_32 (by decide) (by decide) (by decide) (by decide) ?_
        exact law_fail hL C1 Ex Em i hi5 ih n g G H locs ls r hOx hOm hDx hDm hXx hS hl
      · refine lv_tableIn (tgt := 227) (off := 195) hx hb dL_law_32 (by decide) (by decide) (by decide) (by decide) ?_
        exact law_drop hL C1 Ex Em i hi5 ih n g G H locs ls r hOx hOm hDx hDm hXx hS hl
      · refine lv_tableIn (tgt := 250) (off := 218) hx hb dL_law_32 (by decide) (by decide) (by decide) (by decide) ?_
        exact law_clear hL C1 Ex Em i hi5 ih n g G H locs ls r hOx hOm hDx hDm hXx hS hl
      · refine lv_tableIn (tgt := 261) (off := 229) hx hb dL_law_32 (by decide) (by decide) (by decide) (by decide) ?_
        exact law_again hL C1 Ex Em i hi5 ih n g G H locs ls r hOx hOm hDx hDm hXx hS hl
      · refine lv_tableIn (tgt := 294) (off := 262) hx hb dL_law_32 (by decide) (by decide) (by decide) (by decide) ?_
        exact law_time hL C1 Ex Em i hi5 ih n g G H locs ls r hOx hOm hDx hDm hXx hS hl
      · refine lv_tableIn (tgt := 327) (off := 295) hx hb dL_law_32 (by decide) (by decide) (by decide) (by decide) ?_
        exact law_of hL C1 Ex Em i hi5 ih n g G H locs ls r hOx hOm hDx hDm hXx hS hl
      · refine lv_tableIn (tgt := 360) (off := 328) hx hb dL_law_32 (by decide) (by decide) (by decide) (by decide) ?_
        exact law_stage hL C1 Ex Em i hi5 ih n g G H locs ls r hOx hOm hDx hDm hXx hS hl
      · refine lv_tableIn (tgt := 393) (off := 361) hx hb dL_law_32 (by decide) (by decide) (by decide) (by decide) ?_
        exact law_many hL C1 Ex Em i hi5 ih n g G H locs ls r hOx hOm hDx hDm hXx hS hl
      · refine lv_tableIn (tgt := 426) (off := 394) hx hb dL_law_32 (by decide) (by decide) (by decide) (by decide) ?_
        exact law_look hL C1 Ex Em i hi5 ih n g G H locs ls r hOx hOm hDx hDm hXx hS hl
      · refine lv_tableOut (tgt := 449) hx hb dL_law_32 (by rw [nI_toInt (by omega)]; omega) (by decide) ?_
        refine lv_iinc (v := nI (i + 5)) (lv' := [(3, .int (nI (i + 5))), (0, .ref b), (1, .ref (ia_h Ex 0)), (2, .ref (ia_h Em 0))]) hx hb dL_law_449 hl (k := 0) rfl (nI_add i 5) (by decide) rfl (fun ls hl => ?_)
        refine lv_goto (tgt := 18) hx hb dL_law_452 (by decide) ?_
        exact ih n g G H locs ls r hOx hOm hDx hDm hXx hS hl
