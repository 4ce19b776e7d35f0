section LWK
variable {p : Program} {l : Launch} {e : Env} {s : State} {m : MethodId} {below : List Frame} {meth : Method} {cd : Code} {H : Heap} {locs : List Loc} {cells slots : Nat} {QZ : State → Prop}
variable {bs L i : Nat} {xs : Nat → Int32} {G : zC} {ws ws' wl wr : va_W} {ls : Array Slot} {st : List Value}
set_option maxHeartbeats 4000000 in
set_option maxRecDepth 100000 in
theorem lw_c0 (C : lwC p l s m cd bs L xs G) (hiL : i + 5 ≤ L) (oa : Nat) (o9 : Nat) (t9 : Nat) (z9 : Nat) (d9 : Nat) (s9 : Nat) (b9 : Nat) (r9 : Nat) (mq : Nat) (mz : Nat) (sa : zBA) (a : zGA) (ta : zGA) (ga : Nat → zGA) (sg : Nat → zGA) (q : Nat) (y1 : Nat) (y3 : Nat) (y4 : Nat) (y5 : Nat) (y6 : Nat) (y8 : Nat) (y9 : Nat) (hW : lwJ G oa o9 t9 z9 d9 s9 b9 r9 mq mz sa a ta ga sg q y1 y3 y4 y5 y6 y8 y9 ws) (hM : zM G (lwA s) s H locs ws) (hl : lv_has ls 7 [(0, .ref bs), (1, .ref o9), (2, .ref q), (3, .ref oa), (4, .int (nI i))]) (hf : cells + 1 ≤ room_1.cells ∧ slots + 6 ≤ room_1.slots) (kk : ∀ (H1 : Heap) (locs1 : List Loc) (w1 : va_W) (ls1 : Array Slot), lwJ G oa o9 t9 z9 d9 s9 b9 r9 mq mz sa a ta ga sg q y1 y3 y4 y5 y6 y8 y9 w1 → zM G (lwA s) s H1 locs1 w1 → lv_has ls1 7 [(0, .ref bs), (1, .ref o9), (2, .ref q), (3, .ref oa), (4, .int (nI i))] → W p l e room_1 s m #[Value.ref bs] below meth cd H1 locs1 (cells + 1) (slots + 6) QZ (F0 m 1653 ls1 [])) : W p l e room_1 s m #[Value.ref bs] below meth cd H locs cells slots QZ (F0 m 148 ls []) := by
  have C0 := C
  obtain ⟨hx, hb, hml, hown, hts, hX, hbl, hL, hK, hE, hN, hTh, hl0⟩ := C0
  obtain ⟨og, k0, n, v, h, b, th, tb, u, x0, mk, mx, mh, mb, sh, sb, K, c, f4, f5, D, Q, x1, i10, i11, i12, i14, i15, hJ, rfl⟩ := hW
  obtain ⟨k, og', r, n', v', h', b', th', tb', u', x0', mk', mx', mh', mb', sh', sb', K', c', f4', f5', D', Q', x1', i10', i11', i12', i14', i15', hJ', hZ, hog, hCN, hCR⟩ := j_append l G hl0 oa o9 t9 z9 d9 s9 b9 r9 mq mz sa a ta ga sg q y1 y3 y4 y5 y6 y8 y9 og k0 n v h b th tb u x0 mk mx mh mb sh sb K c f4 f5 D Q x1 i10 i11 i12 i14 i15 hJ (xs (i + 1))
  refine lv_aload_n hx hb dL_law_148 rfl (lv_at hl 1 rfl) ?_
  refine lg_arg (j := 1) C hM (by decide) (by omega) (lv_at hl 0 rfl) (lv_at hl 4 rfl) dL_law_149 dL_law_150 dL_law_152 dL_law_153 dL_law_154 ?_
  refine lv_aload_n hx hb dL_law_155 rfl (lv_at hl 3 rfl) ?_
  refine lw_call1 C hM hCN (vx_cwSW 3 hts gL_law_L_append rfl rfl rfl (by decide +kernel) ⟨Nat.le_of_ble_eq_true rfl, Nat.le_of_ble_eq_true rfl⟩) rfl hl.1 rfl dL_law_156 hf (fun H locs hM => ?_)
  refine W.widen (k := cells + 1) (n := slots + 6) (Nat.le_refl _) (Nat.le_refl _) ?_
  refine lv_istore (lv' := [(5, .int k), (0, .ref bs), (1, .ref o9), (2, .ref q), (3, .ref oa), (4, .int (nI i))]) hx hb dL_law_159 hl (by decide) rfl (fun ls hl => ?_)
  refine lv_aload_n hx hb dL_law_161 rfl (lv_at hl 3 rfl) ?_
  refine lg_arg (j := 1) C hM (by decide) (by omega) (lv_at hl 1 rfl) (lv_at hl 5 rfl) dL_law_162 dL_law_163 dL_law_165 dL_law_166 dL_law_167 ?_
  refine lw_call2 (CN := RX7) (ci := 7) (rest := []) (As := [.int (xs (i + 1))]) C hM hCR List.mem_cons_self rfl rfl (cwV 1 hts gL_law_X7_append rfl rfl rfl (by decide +kernel) ⟨Nat.le_of_ble_eq_true rfl, Nat.le_of_ble_eq_true rfl⟩) rfl hl.1 rfl (Nat.le_of_ble_eq_true rfl) dL_law_168 hf (fun H locs hM => ?_)
  refine W.widen (k := cells + 1) (n := slots + 6) (Nat.le_refl _) (Nat.le_refl _) ?_
  refine lv_istore (lv' := [(6, .int r), (5, .int k), (0, .ref bs), (1, .ref o9), (2, .ref q), (3, .ref oa), (4, .int (nI i))]) hx hb dL_law_171 hl (by decide) rfl (fun ls hl => ?_)
  refine lw_tail C oa o9 t9 z9 d9 s9 b9 r9 mq mz sa a ta ga sg q y1 y3 y4 y5 y6 y8 y9 og' k r n' v' h' b' th' tb' u' x0' mk' mx' mh' mb' sh' sb' K' c' f4' f5' D' Q' x1' i10' i11' i12' i14' i15' hM hl.1 (lv_at hl 4 rfl) (lv_at hl 5 rfl) (lv_at hl 1 rfl) (lv_at hl 0 rfl) hog dL_law_173 dL_law_174 dL_law_177 dL_law_179 dL_law_184 dL_law_186 dL_law_189 dL_law_190 dL_law_191 dL_law_192 dL_law_194 dL_law_195 dL_law_196 dL_law_201 (by decide) hf (fun H locs hM => ?_)
  exact kk H locs _ ls ⟨og', k, n', v', h', b', th', tb', u', x0', mk', mx', mh', mb', sh', sb', K', c', f4', f5', D', Q', x1', i10', i11', i12', i14', i15', hJ', rfl⟩ hM (lv_sub hl [2, 3, 4, 5, 6] rfl)
set_option maxHeartbeats 4000000 in
set_option maxRecDepth 100000 in
theorem lw_c1 (C : lwC p l s m cd bs L xs G) (hiL : i + 5 ≤ L) (oa : Nat) (o9 : Nat) (t9 : Nat) (z9 : Nat) (d9 : Nat) (s9 : Nat) (b9 : Nat) (r9 : Nat) (mq : Nat) (mz : Nat) (sa : zBA) (a : zGA) (ta : zGA) (ga : Nat → zGA) (sg : Nat → zGA) (q : Nat) (y1 : Nat) (y3 : Nat) (y4 : Nat) (y5 : Nat) (y6 : Nat) (y8 : Nat) (y9 : Nat) (hW : lwJ G oa o9 t9 z9 d9 s9 b9 r9 mq mz sa a ta ga sg q y1 y3 y4 y5 y6 y8 y9 ws) (hM : zM G (lwA s) s H locs ws) (hl : lv_has ls 7 [(0, .ref bs), (1, .ref o9), (2, .ref q), (3, .ref oa), (4, .int (nI i))]) (hf : cells + 1 ≤ room_1.cells ∧ slots + 6 ≤ room_1.slots) (kk : ∀ (H1 : Heap) (locs1 : List Loc) (w1 : va_W) (ls1 : Array Slot), lwJ G oa o9 t9 z9 d9 s9 b9 r9 mq mz sa a ta ga sg q y1 y3 y4 y5 y6 y8 y9 w1 → zM G (lwA s) s H1 locs1 w1 → lv_has ls1 7 [(0, .ref bs), (1, .ref o9), (2, .ref q), (3, .ref oa), (4, .int (nI i))] → W p l e room_1 s m #[Value.ref bs] below meth cd H1 locs1 (cells + 1) (slots + 6) QZ (F0 m 1653 ls1 [])) : W p l e room_1 s m #[Value.ref bs] below meth cd H locs cells slots QZ (F0 m 204 ls []) := by
  have C0 := C
  obtain ⟨hx, hb, hml, hown, hts, hX, hbl, hL, hK, hE, hN, hTh, hl0⟩ := C0
  obtain ⟨og, k0, n, v, h, b, th, tb, u, x0, mk, mx, mh, mb, sh, sb, K, c, f4, f5, D, Q, x1, i10, i11, i12, i14, i15, hJ, rfl⟩ := hW
  obtain ⟨r, n', v', h', b', th', tb', u', x0', mk', mx', mh', mb', sh', sb', K', c', f4', f5', D', Q', x1', i10', i11', i12', i14', i15', hJ', hCM, hCR⟩ := j_clearText l G oa o9 t9 z9 d9 s9 b9 r9 mq mz sa a ta ga sg q y1 y3 y4 y5 y6 y8 y9 og k0 n v h b th tb u x0 mk mx mh mb sh sb K c f4 f5 D Q x1 i10 i11 i12 i14 i15 hJ
  refine lv_aload_n hx hb dL_law_204 rfl (lv_at hl 1 rfl) ?_
  have hMc := zM_perm List.perm_append_comm hM
  refine lw_call2 (CN := RX6) (ci := 6) (rest := []) (As := []) C hMc (zCM_CR hCM) (List.mem_cons_of_mem _ List.mem_cons_self) rfl rfl (cwV 0 hts gL_law_X6_clearText rfl rfl rfl (by decide +kernel) ⟨Nat.le_of_ble_eq_true rfl, Nat.le_of_ble_eq_true rfl⟩) rfl hl.1 rfl (Nat.le_of_ble_eq_true rfl) dL_law_205 ⟨Nat.le_of_succ_le hf.1, Nat.le_trans (Nat.le_add_right slots 6) hf.2⟩ (fun H locs hM => ?_)
  refine W.widen (k := cells) (n := slots) (Nat.le_refl _) (Nat.le_refl _) ?_
  have hM := zM_perm List.perm_append_comm hM
  refine lv_aload_n hx hb dL_law_208 rfl (lv_at hl 2 rfl) ?_
  refine lw_call2 (CN := RX7) (ci := 7) (rest := [.int r]) (As := []) C hM hCR List.mem_cons_self rfl rfl (cwV 0 hts gL_law_X7_clearText rfl rfl rfl (by decide +kernel) ⟨Nat.le_of_ble_eq_true rfl, Nat.le_of_ble_eq_true rfl⟩) rfl hl.1 rfl (Nat.le_of_ble_eq_true rfl) dL_law_209 ⟨Nat.le_of_succ_le hf.1, Nat.le_trans (Nat.le_add_right slots 6) hf.2⟩ (fun H locs hM => ?_)
  refine W.widen (k := cells + 1) (n := slots + 6) (Nat.le_add_right cells 1) (Nat.le_add_right slots 6) ?_
  refine lv_icmp_eq (tgt := 1653) hx hb dL_law_212 (by decide) (fun _ => ?_) (fun z => absurd rfl z)
  exact kk H locs _ ls ⟨og, 0, n', v', h', b', th', tb', u', x0', mk', mx', mh', mb', sh', sb', K', c', f4', f5', D', Q', x1', i10', i11', i12', i14', i15', hJ', rfl⟩ hM hl
set_option maxHeartbeats 4000000 in
set_option maxRecDepth 100000 in
theorem lw_c2 (C : lwC p l s m cd bs L xs G) (hiL : i + 5 ≤ L) (oa : Nat) (o9 : Nat) (t9 : Nat) (z9 : Nat) (d9 : Nat) (s9 : Nat) (b9 : Nat) (r9 : Nat) (mq : Nat) (mz : Nat) (sa : zBA) (a : zGA) (ta : zGA) (ga : Nat → zGA) (sg : Nat → zGA) (q : Nat) (y1 : Nat) (y3 : Nat) (y4 : Nat) (y5 : Nat) (y6 : Nat) (y8 : Nat) (y9 : Nat) (hW : lwJ G oa o9 t9 z9 d9 s9 b9 r9 mq mz sa a ta ga sg q y1 y3 y4 y5 y6 y8 y9 ws) (hM : zM G (lwA s) s H locs ws) (hl : lv_has ls 7 [(0, .ref bs), (1, .ref o9), (2, .ref q), (3, .ref oa), (4, .int (nI i))]) (hf : cells + 1 ≤ room_1.cells ∧ slots + 6 ≤ room_1.slots) (kk : ∀ (H1 : Heap) (locs1 : List Loc) (w1 : va_W) (ls1 : Array Slot), lwJ G oa o9 t9 z9 d9 s9 b9 r9 mq mz sa a ta ga sg q y1 y3 y4 y5 y6 y8 y9 w1 → zM G (lwA s) s H1 locs1 w1 → lv_has ls1 7 [(0, .ref bs), (1, .ref o9), (2, .ref q), (3, .ref oa), (4, .int (nI i))] → W p l e room_1 s m #[Value.ref bs] below meth cd H1 locs1 (cells + 1) (slots + 6) QZ (F0 m 1653 ls1 [])) : W p l e room_1 s m #[Value.ref bs] below meth cd H locs cells slots QZ (F0 m 217 ls []) := by
  have C0 := C
  obtain ⟨hx, hb, hml, hown, hts, hX, hbl, hL, hK, hE, hN, hTh, hl0⟩ := C0
  obtain ⟨og, k0, n, v, h, b, th, tb, u, x0, mk, mx, mh, mb, sh, sb, K, c, f4, f5, D, Q, x1, i10, i11, i12, i14, i15, hJ, rfl⟩ := hW
  obtain ⟨r, n', v', h', b', th', tb', u', x0', mk', mx', mh', mb', sh', sb', K', c', f4', f5', D', Q', x1', i10', i11', i12', i14', i15', hJ', hCM, hCR⟩ := j_errorPosition l G oa o9 t9 z9 d9 s9 b9 r9 mq mz sa a ta ga sg q y1 y3 y4 y5 y6 y8 y9 og k0 n v h b th tb u x0 mk mx mh mb sh sb K c f4 f5 D Q x1 i10 i11 i12 i14 i15 hJ
  refine lv_aload_n hx hb dL_law_217 rfl (lv_at hl 1 rfl) ?_
  have hMc := zM_perm List.perm_append_comm hM
  refine lw_call2 (CN := RX6) (ci := 6) (rest := []) (As := []) C hMc (zCM_CR hCM) (List.mem_cons_of_mem _ List.mem_cons_self) rfl rfl (cwV 0 hts gL_law_X6_errorPosition rfl rfl rfl (by decide +kernel) ⟨Nat.le_of_ble_eq_true rfl, Nat.le_of_ble_eq_true rfl⟩) rfl hl.1 rfl (Nat.le_of_ble_eq_true rfl) dL_law_218 ⟨Nat.le_of_succ_le hf.1, Nat.le_trans (Nat.le_add_right slots 6) hf.2⟩ (fun H locs hM => ?_)
  refine W.widen (k := cells) (n := slots) (Nat.le_refl _) (Nat.le_refl _) ?_
  have hM := zM_perm List.perm_append_comm hM
  refine lv_aload_n hx hb dL_law_221 rfl (lv_at hl 2 rfl) ?_
  refine lw_call2 (CN := RX7) (ci := 7) (rest := [.int r]) (As := []) C hM hCR List.mem_cons_self rfl rfl (cwV 0 hts gL_law_X7_errorPosition rfl rfl rfl (by decide +kernel) ⟨Nat.le_of_ble_eq_true rfl, Nat.le_of_ble_eq_true rfl⟩) rfl hl.1 rfl (Nat.le_of_ble_eq_true rfl) dL_law_222 ⟨Nat.le_of_succ_le hf.1, Nat.le_trans (Nat.le_add_right slots 6) hf.2⟩ (fun H locs hM => ?_)
  refine W.widen (k := cells + 1) (n := slots + 6) (Nat.le_add_right cells 1) (Nat.le_add_right slots 6) ?_
  refine lv_icmp_eq (tgt := 1653) hx hb dL_law_225 (by decide) (fun _ => ?_) (fun z => absurd rfl z)
  exact kk H locs _ ls ⟨og, 0, n', v', h', b', th', tb', u', x0', mk', mx', mh', mb', sh', sb', K', c', f4', f5', D', Q', x1', i10', i11', i12', i14', i15', hJ', rfl⟩ hM hl
set_option maxHeartbeats 4000000 in
set_option maxRecDepth 100000 in
theorem lw_c3 (C : lwC p l s m cd bs L xs G) (hiL : i + 5 ≤ L) (oa : Nat) (o9 : Nat) (t9 : Nat) (z9 : Nat) (d9 : Nat) (s9 : Nat) (b9 : Nat) (r9 : Nat) (mq : Nat) (mz : Nat) (sa : zBA) (a : zGA) (ta : zGA) (ga : Nat → zGA) (sg : Nat → zGA) (q : Nat) (y1 : Nat) (y3 : Nat) (y4 : Nat) (y5 : Nat) (y6 : Nat) (y8 : Nat) (y9 : Nat) (hW : lwJ G oa o9 t9 z9 d9 s9 b9 r9 mq mz sa a ta ga sg q y1 y3 y4 y5 y6 y8 y9 ws) (hM : zM G (lwA s) s H locs ws) (hl : lv_has ls 7 [(0, .ref bs), (1, .ref o9), (2, .ref q), (3, .ref oa), (4, .int (nI i))]) (hf : cells + 1 ≤ room_1.cells ∧ slots + 6 ≤ room_1.slots) (kk : ∀ (H1 : Heap) (locs1 : List Loc) (w1 : va_W) (ls1 : Array Slot), lwJ G oa o9 t9 z9 d9 s9 b9 r9 mq mz sa a ta ga sg q y1 y3 y4 y5 y6 y8 y9 w1 → zM G (lwA s) s H1 locs1 w1 → lv_has ls1 7 [(0, .ref bs), (1, .ref o9), (2, .ref q), (3, .ref oa), (4, .int (nI i))] → W p l e room_1 s m #[Value.ref bs] below meth cd H1 locs1 (cells + 1) (slots + 6) QZ (F0 m 1653 ls1 [])) : W p l e room_1 s m #[Value.ref bs] below meth cd H locs cells slots QZ (F0 m 230 ls []) := by
  have C0 := C
  obtain ⟨hx, hb, hml, hown, hts, hX, hbl, hL, hK, hE, hN, hTh, hl0⟩ := C0
  obtain ⟨og, k0, n, v, h, b, th, tb, u, x0, mk, mx, mh, mb, sh, sb, K, c, f4, f5, D, Q, x1, i10, i11, i12, i14, i15, hJ, rfl⟩ := hW
  obtain ⟨k, og', r, n', v', h', b', th', tb', u', x0', mk', mx', mh', mb', sh', sb', K', c', f4', f5', D', Q', x1', i10', i11', i12', i14', i15', hJ', hZ, hog, hCN, hCR⟩ := j_load l G hl0 oa o9 t9 z9 d9 s9 b9 r9 mq mz sa a ta ga sg q y1 y3 y4 y5 y6 y8 y9 og k0 n v h b th tb u x0 mk mx mh mb sh sb K c f4 f5 D Q x1 i10 i11 i12 i14 i15 hJ
  refine lv_aload_n hx hb dL_law_230 rfl (lv_at hl 1 rfl) ?_
  refine lv_aload_n hx hb dL_law_231 rfl (lv_at hl 3 rfl) ?_
  refine lw_call1 C hM hCN (vx_cwSW 2 hts gL_law_L_load rfl rfl rfl (by decide +kernel) ⟨Nat.le_of_ble_eq_true rfl, Nat.le_of_ble_eq_true rfl⟩) rfl hl.1 rfl dL_law_232 hf (fun H locs hM => ?_)
  refine W.widen (k := cells + 1) (n := slots + 6) (Nat.le_refl _) (Nat.le_refl _) ?_
  refine lv_istore (lv' := [(5, .int k), (0, .ref bs), (1, .ref o9), (2, .ref q), (3, .ref oa), (4, .int (nI i))]) hx hb dL_law_235 hl (by decide) rfl (fun ls hl => ?_)
  refine lv_aload_n hx hb dL_law_237 rfl (lv_at hl 3 rfl) ?_
  refine lw_call2 (CN := RX7) (ci := 7) (rest := []) (As := []) C hM hCR List.mem_cons_self rfl rfl (cwV 0 hts gL_law_X7_load rfl rfl rfl (by decide +kernel) ⟨Nat.le_of_ble_eq_true rfl, Nat.le_of_ble_eq_true rfl⟩) rfl hl.1 rfl (Nat.le_of_ble_eq_true rfl) dL_law_238 hf (fun H locs hM => ?_)
  refine W.widen (k := cells + 1) (n := slots + 6) (Nat.le_refl _) (Nat.le_refl _) ?_
  refine lv_istore (lv' := [(6, .int r), (5, .int k), (0, .ref bs), (1, .ref o9), (2, .ref q), (3, .ref oa), (4, .int (nI i))]) hx hb dL_law_241 hl (by decide) rfl (fun ls hl => ?_)
  refine lw_tail C oa o9 t9 z9 d9 s9 b9 r9 mq mz sa a ta ga sg q y1 y3 y4 y5 y6 y8 y9 og' k r n' v' h' b' th' tb' u' x0' mk' mx' mh' mb' sh' sb' K' c' f4' f5' D' Q' x1' i10' i11' i12' i14' i15' hM hl.1 (lv_at hl 4 rfl) (lv_at hl 5 rfl) (lv_at hl 1 rfl) (lv_at hl 0 rfl) hog dL_law_243 dL_law_244 dL_law_247 dL_law_249 dL_law_254 dL_law_256 dL_law_259 dL_law_260 dL_law_261 dL_law_262 dL_law_264 dL_law_265 dL_law_266 dL_law_271 (by decide) hf (fun H locs hM => ?_)
  exact kk H locs _ ls ⟨og', k, n', v', h', b', th', tb', u', x0', mk', mx', mh', mb', sh', sb', K', c', f4', f5', D', Q', x1', i10', i11', i12', i14', i15', hJ', rfl⟩ hM (lv_sub hl [2, 3, 4, 5, 6] rfl)
set_option maxHeartbeats 4000000 in
set_option maxRecDepth 100000 in
theorem lw_c4 (C : lwC p l s m cd bs L xs G) (hiL : i + 5 ≤ L) (oa : Nat) (o9 : Nat) (t9 : Nat) (z9 : Nat) (d9 : Nat) (s9 : Nat) (b9 : Nat) (r9 : Nat) (mq : Nat) (mz : Nat) (sa : zBA) (a : zGA) (ta : zGA) (ga : Nat → zGA) (sg : Nat → zGA) (q : Nat) (y1 : Nat) (y3 : Nat) (y4 : Nat) (y5 : Nat) (y6 : Nat) (y8 : Nat) (y9 : Nat) (hW : lwJ G oa o9 t9 z9 d9 s9 b9 r9 mq mz sa a ta ga sg q y1 y3 y4 y5 y6 y8 y9 ws) (hM : zM G (lwA s) s H locs ws) (hl : lv_has ls 7 [(0, .ref bs), (1, .ref o9), (2, .ref q), (3, .ref oa), (4, .int (nI i))]) (hf : cells + 1 ≤ room_1.cells ∧ slots + 6 ≤ room_1.slots) (kk : ∀ (H1 : Heap) (locs1 : List Loc) (w1 : va_W) (ls1 : Array Slot), lwJ G oa o9 t9 z9 d9 s9 b9 r9 mq mz sa a ta ga sg q y1 y3 y4 y5 y6 y8 y9 w1 → zM G (lwA s) s H1 locs1 w1 → lv_has ls1 7 [(0, .ref bs), (1, .ref o9), (2, .ref q), (3, .ref oa), (4, .int (nI i))] → W p l e room_1 s m #[Value.ref bs] below meth cd H1 locs1 (cells + 1) (slots + 6) QZ (F0 m 1653 ls1 [])) : W p l e room_1 s m #[Value.ref bs] below meth cd H locs cells slots QZ (F0 m 274 ls []) := by
  have C0 := C
  obtain ⟨hx, hb, hml, hown, hts, hX, hbl, hL, hK, hE, hN, hTh, hl0⟩ := C0
  obtain ⟨og, k0, n, v, h, b, th, tb, u, x0, mk, mx, mh, mb, sh, sb, K, c, f4, f5, D, Q, x1, i10, i11, i12, i14, i15, hJ, rfl⟩ := hW
  obtain ⟨k, og', r, n', v', h', b', th', tb', u', x0', mk', mx', mh', mb', sh', sb', K', c', f4', f5', D', Q', x1', i10', i11', i12', i14', i15', hJ', hZ, hog, hCN, hCR⟩ := j_about l G hl0 oa o9 t9 z9 d9 s9 b9 r9 mq mz sa a ta ga sg q y1 y3 y4 y5 y6 y8 y9 og k0 n v h b th tb u x0 mk mx mh mb sh sb K c f4 f5 D Q x1 i10 i11 i12 i14 i15 hJ (xs (i + 1))
  refine lv_aload_n hx hb dL_law_274 rfl (lv_at hl 1 rfl) ?_
  refine lg_arg (j := 1) C hM (by decide) (by omega) (lv_at hl 0 rfl) (lv_at hl 4 rfl) dL_law_275 dL_law_276 dL_law_278 dL_law_279 dL_law_280 ?_
  refine lv_aload_n hx hb dL_law_281 rfl (lv_at hl 3 rfl) ?_
  refine lw_call1 C hM hCN (vx_cwSW 3 hts gL_law_L_about rfl rfl rfl (by decide +kernel) ⟨Nat.le_of_ble_eq_true rfl, Nat.le_of_ble_eq_true rfl⟩) rfl hl.1 rfl dL_law_282 hf (fun H locs hM => ?_)
  refine W.widen (k := cells + 1) (n := slots + 6) (Nat.le_refl _) (Nat.le_refl _) ?_
  refine lv_istore (lv' := [(5, .int k), (0, .ref bs), (1, .ref o9), (2, .ref q), (3, .ref oa), (4, .int (nI i))]) hx hb dL_law_285 hl (by decide) rfl (fun ls hl => ?_)
  refine lv_aload_n hx hb dL_law_287 rfl (lv_at hl 3 rfl) ?_
  refine lg_arg (j := 1) C hM (by decide) (by omega) (lv_at hl 1 rfl) (lv_at hl 5 rfl) dL_law_288 dL_law_289 dL_law_291 dL_law_292 dL_law_293 ?_
  refine lw_call2 (CN := RX7) (ci := 7) (rest := []) (As := [.int (xs (i + 1))]) C hM hCR List.mem_cons_self rfl rfl (cwV 1 hts gL_law_X7_about rfl rfl rfl (by decide +kernel) ⟨Nat.le_of_ble_eq_true rfl, Nat.le_of_ble_eq_true rfl⟩) rfl hl.1 rfl (Nat.le_of_ble_eq_true rfl) dL_law_294 hf (fun H locs hM => ?_)
  refine W.widen (k := cells + 1) (n := slots + 6) (Nat.le_refl _) (Nat.le_refl _) ?_
  refine lv_istore (lv' := [(6, .int r), (5, .int k), (0, .ref bs), (1, .ref o9), (2, .ref q), (3, .ref oa), (4, .int (nI i))]) hx hb dL_law_297 hl (by decide) rfl (fun ls hl => ?_)
  refine lw_tail C oa o9 t9 z9 d9 s9 b9 r9 mq mz sa a ta ga sg q y1 y3 y4 y5 y6 y8 y9 og' k r n' v' h' b' th' tb' u' x0' mk' mx' mh' mb' sh' sb' K' c' f4' f5' D' Q' x1' i10' i11' i12' i14' i15' hM hl.1 (lv_at hl 4 rfl) (lv_at hl 5 rfl) (lv_at hl 1 rfl) (lv_at hl 0 rfl) hog dL_law_299 dL_law_300 dL_law_303 dL_law_305 dL_law_310 dL_law_312 dL_law_315 dL_law_316 dL_law_317 dL_law_318 dL_law_320 dL_law_321 dL_law_322 dL_law_327 (by decide) hf (fun H locs hM => ?_)
  exact kk H locs _ ls ⟨og', k, n', v', h', b', th', tb', u', x0', mk', mx', mh', mb', sh', sb', K', c', f4', f5', D', Q', x1', i10', i11', i12', i14', i15', hJ', rfl⟩ hM (lv_sub hl [2, 3, 4, 5, 6] rfl)
set_option maxHeartbeats 4000000 in
set_option maxRecDepth 100000 in
theorem lw_c5 (C : lwC p l s m cd bs L xs G) (hiL : i + 5 ≤ L) (oa : Nat) (o9 : Nat) (t9 : Nat) (z9 : Nat) (d9 : Nat) (s9 : Nat) (b9 : Nat) (r9 : Nat) (mq : Nat) (mz : Nat) (sa : zBA) (a : zGA) (ta : zGA) (ga : Nat → zGA) (sg : Nat → zGA) (q : Nat) (y1 : Nat) (y3 : Nat) (y4 : Nat) (y5 : Nat) (y6 : Nat) (y8 : Nat) (y9 : Nat) (hW : lwJ G oa o9 t9 z9 d9 s9 b9 r9 mq mz sa a ta ga sg q y1 y3 y4 y5 y6 y8 y9 ws) (hM : zM G (lwA s) s H locs ws) (hl : lv_has ls 7 [(0, .ref bs), (1, .ref o9), (2, .ref q), (3, .ref oa), (4, .int (nI i))]) (hf : cells + 1 ≤ room_1.cells ∧ slots + 6 ≤ room_1.slots) (kk : ∀ (H1 : Heap) (locs1 : List Loc) (w1 : va_W) (ls1 : Array Slot), lwJ G oa o9 t9 z9 d9 s9 b9 r9 mq mz sa a ta ga sg q y1 y3 y4 y5 y6 y8 y9 w1 → zM G (lwA s) s H1 locs1 w1 → lv_has ls1 7 [(0, .ref bs), (1, .ref o9), (2, .ref q), (3, .ref oa), (4, .int (nI i))] → W p l e room_1 s m #[Value.ref bs] below meth cd H1 locs1 (cells + 1) (slots + 6) QZ (F0 m 1653 ls1 [])) : W p l e room_1 s m #[Value.ref bs] below meth cd H locs cells slots QZ (F0 m 330 ls []) := by
  have C0 := C
  obtain ⟨hx, hb, hml, hown, hts, hX, hbl, hL, hK, hE, hN, hTh, hl0⟩ := C0
  obtain ⟨og, k0, n, v, h, b, th, tb, u, x0, mk, mx, mh, mb, sh, sb, K, c, f4, f5, D, Q, x1, i10, i11, i12, i14, i15, hJ, rfl⟩ := hW
  obtain ⟨k, og', r, n', v', h', b', th', tb', u', x0', mk', mx', mh', mb', sh', sb', K', c', f4', f5', D', Q', x1', i10', i11', i12', i14', i15', hJ', hZ, hog, hCN, hCR⟩ := j_tile l G hl0 oa o9 t9 z9 d9 s9 b9 r9 mq mz sa a ta ga sg q y1 y3 y4 y5 y6 y8 y9 og k0 n v h b th tb u x0 mk mx mh mb sh sb K c f4 f5 D Q x1 i10 i11 i12 i14 i15 hJ (xs (i + 1)) (xs (i + 2)) (xs (i + 3))
  refine lv_aload_n hx hb dL_law_330 rfl (lv_at hl 1 rfl) ?_
  refine lg_arg (j := 1) C hM (by decide) (by omega) (lv_at hl 0 rfl) (lv_at hl 4 rfl) dL_law_331 dL_law_332 dL_law_334 dL_law_335 dL_law_336 ?_
  refine lg_arg (j := 2) C hM (by decide) (by omega) (lv_at hl 0 rfl) (lv_at hl 4 rfl) dL_law_337 dL_law_338 dL_law_340 dL_law_341 dL_law_342 ?_
  refine lg_arg (j := 3) C hM (by decide) (by omega) (lv_at hl 0 rfl) (lv_at hl 4 rfl) dL_law_343 dL_law_344 dL_law_346 dL_law_347 dL_law_348 ?_
  refine lv_aload_n hx hb dL_law_349 rfl (lv_at hl 3 rfl) ?_
  refine lw_call1 C hM hCN (vx_cwSW 5 hts gL_law_L_tile rfl rfl rfl (by decide +kernel) ⟨Nat.le_of_ble_eq_true rfl, Nat.le_of_ble_eq_true rfl⟩) rfl hl.1 rfl dL_law_350 hf (fun H locs hM => ?_)
  refine W.widen (k := cells + 1) (n := slots + 6) (Nat.le_refl _) (Nat.le_refl _) ?_
  refine lv_istore (lv' := [(5, .int k), (0, .ref bs), (1, .ref o9), (2, .ref q), (3, .ref oa), (4, .int (nI i))]) hx hb dL_law_353 hl (by decide) rfl (fun ls hl => ?_)
  refine lv_aload_n hx hb dL_law_355 rfl (lv_at hl 3 rfl) ?_
  refine lg_arg (j := 1) C hM (by decide) (by omega) (lv_at hl 1 rfl) (lv_at hl 5 rfl) dL_law_356 dL_law_357 dL_law_359 dL_law_360 dL_law_361 ?_
  refine lg_arg (j := 2) C hM (by decide) (by omega) (lv_at hl 1 rfl) (lv_at hl 5 rfl) dL_law_362 dL_law_363 dL_law_365 dL_law_366 dL_law_367 ?_
  refine lg_arg (j := 3) C hM (by decide) (by omega) (lv_at hl 1 rfl) (lv_at hl 5 rfl) dL_law_368 dL_law_369 dL_law_371 dL_law_372 dL_law_373 ?_
  refine lw_call2 (CN := RX7) (ci := 7) (rest := []) (As := [.int (xs (i + 1)), .int (xs (i + 2)), .int (xs (i + 3))]) C hM hCR List.mem_cons_self rfl rfl (cwV 3 hts gL_law_X7_tile rfl rfl rfl (by decide +kernel) ⟨Nat.le_of_ble_eq_true rfl, Nat.le_of_ble_eq_true rfl⟩) rfl hl.1 rfl (Nat.le_of_ble_eq_true rfl) dL_law_374 hf (fun H locs hM => ?_)
  refine W.widen (k := cells + 1) (n := slots + 6) (Nat.le_refl _) (Nat.le_refl _) ?_
  refine lv_istore (lv' := [(6, .int r), (5, .int k), (0, .ref bs), (1, .ref o9), (2, .ref q), (3, .ref oa), (4, .int (nI i))]) hx hb dL_law_377 hl (by decide) rfl (fun ls hl => ?_)
  refine lw_tail C oa o9 t9 z9 d9 s9 b9 r9 mq mz sa a ta ga sg q y1 y3 y4 y5 y6 y8 y9 og' k r n' v' h' b' th' tb' u' x0' mk' mx' mh' mb' sh' sb' K' c' f4' f5' D' Q' x1' i10' i11' i12' i14' i15' hM hl.1 (lv_at hl 4 rfl) (lv_at hl 5 rfl) (lv_at hl 1 rfl) (lv_at hl 0 rfl) hog dL_law_379 dL_law_380 dL_law_383 dL_law_385 dL_law_390 dL_law_392 dL_law_395 dL_law_396 dL_law_397 dL_law_398 dL_law_400 dL_law_401 dL_law_402 dL_law_407 (by decide) hf (fun H locs hM => ?_)
  exact kk H locs _ ls ⟨og', k, n', v', h', b', th', tb', u', x0', mk', mx', mh', mb', sh', sb', K', c', f4', f5', D', Q', x1', i10', i11', i12', i14', i15', hJ', rfl⟩ hM (lv_sub hl [2, 3, 4, 5, 6] rfl)
set_option maxHeartbeats 4000000 in
set_option maxRecDepth 100000 in
theorem lw_c6 (C : lwC p l s m cd bs L xs G) (hiL : i + 5 ≤ L) (oa : Nat) (o9 : Nat) (t9 : Nat) (z9 : Nat) (d9 : Nat) (s9 : Nat) (b9 : Nat) (r9 : Nat) (mq : Nat) (mz : Nat) (sa : zBA) (a : zGA) (ta : zGA) (ga : Nat → zGA) (sg : Nat → zGA) (q : Nat) (y1 : Nat) (y3 : Nat) (y4 : Nat) (y5 : Nat) (y6 : Nat) (y8 : Nat) (y9 : Nat) (hW : lwJ G oa o9 t9 z9 d9 s9 b9 r9 mq mz sa a ta ga sg q y1 y3 y4 y5 y6 y8 y9 ws) (hM : zM G (lwA s) s H locs ws) (hl : lv_has ls 7 [(0, .ref bs), (1, .ref o9), (2, .ref q), (3, .ref oa), (4, .int (nI i))]) (hf : cells + 1 ≤ room_1.cells ∧ slots + 6 ≤ room_1.slots) (kk : ∀ (H1 : Heap) (locs1 : List Loc) (w1 : va_W) (ls1 : Array Slot), lwJ G oa o9 t9 z9 d9 s9 b9 r9 mq mz sa a ta ga sg q y1 y3 y4 y5 y6 y8 y9 w1 → zM G (lwA s) s H1 locs1 w1 → lv_has ls1 7 [(0, .ref bs), (1, .ref o9), (2, .ref q), (3, .ref oa), (4, .int (nI i))] → W p l e room_1 s m #[Value.ref bs] below meth cd H1 locs1 (cells + 1) (slots + 6) QZ (F0 m 1653 ls1 [])) : W p l e room_1 s m #[Value.ref bs] below meth cd H locs cells slots QZ (F0 m 410 ls []) := by
  have C0 := C
  obtain ⟨hx, hb, hml, hown, hts, hX, hbl, hL, hK, hE, hN, hTh, hl0⟩ := C0
  obtain ⟨og, k0, n, v, h, b, th, tb, u, x0, mk, mx, mh, mb, sh, sb, K, c, f4, f5, D, Q, x1, i10, i11, i12, i14, i15, hJ, rfl⟩ := hW
  obtain ⟨k, og', r, n', v', h', b', th', tb', u', x0', mk', mx', mh', mb', sh', sb', K', c', f4', f5', D', Q', x1', i10', i11', i12', i14', i15', hJ', hZ, hog, hCN, hCR⟩ := j_player l G hl0 oa o9 t9 z9 d9 s9 b9 r9 mq mz sa a ta ga sg q y1 y3 y4 y5 y6 y8 y9 og k0 n v h b th tb u x0 mk mx mh mb sh sb K c f4 f5 D Q x1 i10 i11 i12 i14 i15 hJ (xs (i + 1)) (xs (i + 2))
  refine lv_aload_n hx hb dL_law_410 rfl (lv_at hl 1 rfl) ?_
  refine lg_arg (j := 1) C hM (by decide) (by omega) (lv_at hl 0 rfl) (lv_at hl 4 rfl) dL_law_411 dL_law_412 dL_law_414 dL_law_415 dL_law_416 ?_
  refine lg_arg (j := 2) C hM (by decide) (by omega) (lv_at hl 0 rfl) (lv_at hl 4 rfl) dL_law_417 dL_law_418 dL_law_420 dL_law_421 dL_law_422 ?_
  refine lv_aload_n hx hb dL_law_423 rfl (lv_at hl 3 rfl) ?_
  refine lw_call1 C hM hCN (vx_cwSW 4 hts gL_law_L_player rfl rfl rfl (by decide +kernel) ⟨Nat.le_of_ble_eq_true rfl, Nat.le_of_ble_eq_true rfl⟩) rfl hl.1 rfl dL_law_424 hf (fun H locs hM => ?_)
  refine W.widen (k := cells + 1) (n := slots + 6) (Nat.le_refl _) (Nat.le_refl _) ?_
  refine lv_istore (lv' := [(5, .int k), (0, .ref bs), (1, .ref o9), (2, .ref q), (3, .ref oa), (4, .int (nI i))]) hx hb dL_law_427 hl (by decide) rfl (fun ls hl => ?_)
  refine lv_aload_n hx hb dL_law_429 rfl (lv_at hl 3 rfl) ?_
  refine lg_arg (j := 1) C hM (by decide) (by omega) (lv_at hl 1 rfl) (lv_at hl 5 rfl) dL_law_430 dL_law_431 dL_law_433 dL_law_434 dL_law_435 ?_
  refine lg_arg (j := 2) C hM (by decide) (by omega) (lv_at hl 1 rfl) (lv_at hl 5 rfl) dL_law_436 dL_law_437 dL_law_439 dL_law_440 dL_law_441 ?_
  refine lw_call2 (CN := RX7) (ci := 7) (rest := []) (As := [.int (xs (i + 1)), .int (xs (i + 2))]) C hM hCR List.mem_cons_self rfl rfl (cwV 2 hts gL_law_X7_player rfl rfl rfl (by decide +kernel) ⟨Nat.le_of_ble_eq_true rfl, Nat.le_of_ble_eq_true rfl⟩) rfl hl.1 rfl (Nat.le_of_ble_eq_true rfl) dL_law_442 hf (fun H locs hM => ?_)
  refine W.widen (k := cells + 1) (n := slots + 6) (Nat.le_refl _) (Nat.le_refl _) ?_
  refine lv_istore (lv' := [(6, .int r), (5, .int k), (0, .ref bs), (1, .ref o9), (2, .ref q), (3, .ref oa), (4, .int (nI i))]) hx hb dL_law_445 hl (by decide) rfl (fun ls hl => ?_)
  refine lw_tail C oa o9 t9 z9 d9 s9 b9 r9 mq mz sa a ta ga sg q y1 y3 y4 y5 y6 y8 y9 og' k r n' v' h' b' th' tb' u' x0' mk' mx' mh' mb' sh' sb' K' c' f4' f5' D' Q' x1' i10' i11' i12' i14' i15' hM hl.1 (lv_at hl 4 rfl) (lv_at hl 5 rfl) (lv_at hl 1 rfl) (lv_at hl 0 rfl) hog dL_law_447 dL_law_448 dL_law_451 dL_law_453 dL_law_458 dL_law_460 dL_law_463 dL_law_464 dL_law_465 dL_law_466 dL_law_468 dL_law_469 dL_law_470 dL_law_475 (by decide) hf (fun H locs hM => ?_)
  exact kk H locs _ ls ⟨og', k, n', v', h', b', th', tb', u', x0', mk', mx', mh', mb', sh', sb', K', c', f4', f5', D', Q', x1', i10', i11', i12', i14', i15', hJ', rfl⟩ hM (lv_sub hl [2, 3, 4, 5, 6] rfl)
set_option maxHeartbeats 4000000 in
set_option maxRecDepth 100000 in
theorem lw_c7 (C : lwC p l s m cd bs L xs G) (hiL : i + 5 ≤ L) (oa : Nat) (o9 : Nat) (t9 : Nat) (z9 : Nat) (d9 : Nat) (s9 : Nat) (b9 : Nat) (r9 : Nat) (mq : Nat) (mz : Nat) (sa : zBA) (a : zGA) (ta : zGA) (ga : Nat → zGA) (sg : Nat → zGA) (q : Nat) (y1 : Nat) (y3 : Nat) (y4 : Nat) (y5 : Nat) (y6 : Nat) (y8 : Nat) (y9 : Nat) (hW : lwJ G oa o9 t9 z9 d9 s9 b9 r9 mq mz sa a ta ga sg q y1 y3 y4 y5 y6 y8 y9 ws) (hM : zM G (lwA s) s H locs ws) (hl : lv_has ls 7 [(0, .ref bs), (1, .ref o9), (2, .ref q), (3, .ref oa), (4, .int (nI i))]) (hf : cells + 1 ≤ room_1.cells ∧ slots + 6 ≤ room_1.slots) (kk : ∀ (H1 : Heap) (locs1 : List Loc) (w1 : va_W) (ls1 : Array Slot), lwJ G oa o9 t9 z9 d9 s9 b9 r9 mq mz sa a ta ga sg q y1 y3 y4 y5 y6 y8 y9 w1 → zM G (lwA s) s H1 locs1 w1 → lv_has ls1 7 [(0, .ref bs), (1, .ref o9), (2, .ref q), (3, .ref oa), (4, .int (nI i))] → W p l e room_1 s m #[Value.ref bs] below meth cd H1 locs1 (cells + 1) (slots + 6) QZ (F0 m 1653 ls1 [])) : W p l e room_1 s m #[Value.ref bs] below meth cd H locs cells slots QZ (F0 m 478 ls []) := by
  have C0 := C
  obtain ⟨hx, hb, hml, hown, hts, hX, hbl, hL, hK, hE, hN, hTh, hl0⟩ := C0
  obtain ⟨og, k0, n, v, h, b, th, tb, u, x0, mk, mx, mh, mb, sh, sb, K, c, f4, f5, D, Q, x1, i10, i11, i12, i14, i15, hJ, rfl⟩ := hW
  obtain ⟨k, og', r, n', v', h', b', th', tb', u', x0', mk', mx', mh', mb', sh', sb', K', c', f4', f5', D', Q', x1', i10', i11', i12', i14', i15', hJ', hZ, hog, hCN, hCR⟩ := j_setting l G hl0 oa o9 t9 z9 d9 s9 b9 r9 mq mz sa a ta ga sg q y1 y3 y4 y5 y6 y8 y9 og k0 n v h b th tb u x0 mk mx mh mb sh sb K c f4 f5 D Q x1 i10 i11 i12 i14 i15 hJ (xs (i + 1))
  refine lv_aload_n hx hb dL_law_478 rfl (lv_at hl 1 rfl) ?_
  refine lg_arg (j := 1) C hM (by decide) (by omega) (lv_at hl 0 rfl) (lv_at hl 4 rfl) dL_law_479 dL_law_480 dL_law_482 dL_law_483 dL_law_484 ?_
  refine lv_aload_n hx hb dL_law_485 rfl (lv_at hl 3 rfl) ?_
  refine lw_call1 C hM hCN (vx_cwSW 3 hts gL_law_L_setting rfl rfl rfl (by decide +kernel) ⟨Nat.le_of_ble_eq_true rfl, Nat.le_of_ble_eq_true rfl⟩) rfl hl.1 rfl dL_law_486 hf (fun H locs hM => ?_)
  refine W.widen (k := cells + 1) (n := slots + 6) (Nat.le_refl _) (Nat.le_refl _) ?_
  refine lv_istore (lv' := [(5, .int k), (0, .ref bs), (1, .ref o9), (2, .ref q), (3, .ref oa), (4, .int (nI i))]) hx hb dL_law_489 hl (by decide) rfl (fun ls hl => ?_)
  refine lv_aload_n hx hb dL_law_491 rfl (lv_at hl 3 rfl) ?_
  refine lg_arg (j := 1) C hM (by decide) (by omega) (lv_at hl 1 rfl) (lv_at hl 5 rfl) dL_law_492 dL_law_493 dL_law_495 dL_law_496 dL_law_497 ?_
  refine lw_call2 (CN := RX7) (ci := 7) (rest := []) (As := [.int (xs (i + 1))]) C hM hCR List.mem_cons_self rfl rfl (cwV 1 hts gL_law_X7_setting rfl rfl rfl (by decide +kernel) ⟨Nat.le_of_ble_eq_true rfl, Nat.le_of_ble_eq_true rfl⟩) rfl hl.1 rfl (Nat.le_of_ble_eq_true rfl) dL_law_498 hf (fun H locs hM => ?_)
  refine W.widen (k := cells + 1) (n := slots + 6) (Nat.le_refl _) (Nat.le_refl _) ?_
  refine lv_istore (lv' := [(6, .int r), (5, .int k), (0, .ref bs), (1, .ref o9), (2, .ref q), (3, .ref oa), (4, .int (nI i))]) hx hb dL_law_501 hl (by decide) rfl (fun ls hl => ?_)
  refine lw_tail C oa o9 t9 z9 d9 s9 b9 r9 mq mz sa a ta ga sg q y1 y3 y4 y5 y6 y8 y9 og' k r n' v' h' b' th' tb' u' x0' mk' mx' mh' mb' sh' sb' K' c' f4' f5' D' Q' x1' i10' i11' i12' i14' i15' hM hl.1 (lv_at hl 4 rfl) (lv_at hl 5 rfl) (lv_at hl 1 rfl) (lv_at hl 0 rfl) hog dL_law_503 dL_law_504 dL_law_507 dL_law_509 dL_law_514 dL_law_516 dL_law_519 dL_law_520 dL_law_521 dL_law_522 dL_law_524 dL_law_525 dL_law_526 dL_law_531 (by decide) hf (fun H locs hM => ?_)
  exact kk H locs _ ls ⟨og', k, n', v', h', b', th', tb', u', x0', mk', mx', mh', mb', sh', sb', K', c', f4', f5', D', Q', x1', i10', i11', i12', i14', i15', hJ', rfl⟩ hM (lv_sub hl [2, 3, 4, 5, 6] rfl)
end LWK
