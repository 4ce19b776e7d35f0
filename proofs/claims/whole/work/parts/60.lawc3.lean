section LWK
variable {p : Program} {l : Launch} {e : Env} {s : State} {m : MethodId} {below : List Frame} {meth : Method} {cd : Code} {H : Heap} {locs : List Loc} {cells slots : Nat} {QZ : State → Prop}
variable {bs L i : Nat} {xs : Nat → Int32} {G : zC} {ws ws' wl wr : va_W} {ls : Array Slot} {st : List Value}
set_option maxHeartbeats 4000000 in
set_option maxRecDepth 100000 in
theorem lw_c16 (C : lwC p l s m cd bs L xs G) (hiL : i + 5 ≤ L) (oa : Nat) (o9 : Nat) (t9 : Nat) (z9 : Nat) (d9 : Nat) (s9 : Nat) (b9 : Nat) (r9 : Nat) (mq : Nat) (mz : Nat) (sa : zBA) (a : zGA) (ta : zGA) (ga : Nat → zGA) (sg : Nat → zGA) (q : Nat) (y1 : Nat) (y3 : Nat) (y4 : Nat) (y5 : Nat) (y6 : Nat) (y8 : Nat) (y9 : Nat) (hW : lwJ G oa o9 t9 z9 d9 s9 b9 r9 mq mz sa a ta ga sg q y1 y3 y4 y5 y6 y8 y9 ws) (hM : zM G (lwA s) s H locs ws) (hl : lv_has ls 7 [(0, .ref bs), (1, .ref o9), (2, .ref q), (3, .ref oa), (4, .int (nI i))]) (hf : cells + 1 ≤ room_1.cells ∧ slots + 6 ≤ room_1.slots) (kk : ∀ (H1 : Heap) (locs1 : List Loc) (w1 : va_W) (ls1 : Array Slot), lwJ G oa o9 t9 z9 d9 s9 b9 r9 mq mz sa a ta ga sg q y1 y3 y4 y5 y6 y8 y9 w1 → zM G (lwA s) s H1 locs1 w1 → lv_has ls1 7 [(0, .ref bs), (1, .ref o9), (2, .ref q), (3, .ref oa), (4, .int (nI i))] → W p l e room_1 s m #[Value.ref bs] below meth cd H1 locs1 (cells + 1) (slots + 6) QZ (F0 m 1653 ls1 [])) : W p l e room_1 s m #[Value.ref bs] below meth cd H locs cells slots QZ (F0 m 1069 ls []) := by
  have C0 := C
  obtain ⟨hx, hb, hml, hown, hts, hX, hbl, hL, hK, hE, hN, hTh, hl0⟩ := C0
  obtain ⟨og, k0, n, v, h, b, th, tb, u, x0, mk, mx, mh, mb, sh, sb, K, c, f4, f5, D, Q, x1, i10, i11, i12, i14, i15, hJ, rfl⟩ := hW
  obtain ⟨k, og', r, n', v', h', b', th', tb', u', x0', mk', mx', mh', mb', sh', sb', K', c', f4', f5', D', Q', x1', i10', i11', i12', i14', i15', hJ', hZ, hog, hCN, hCR⟩ := j_ifShifted l G hl0 oa o9 t9 z9 d9 s9 b9 r9 mq mz sa a ta ga sg q y1 y3 y4 y5 y6 y8 y9 og k0 n v h b th tb u x0 mk mx mh mb sh sb K c f4 f5 D Q x1 i10 i11 i12 i14 i15 hJ (xs (i + 1)) (xs (i + 2)) (xs (i + 3)) (xs (i + 4))
  refine lv_aload_n hx hb dL_law_1069 rfl (lv_at hl 1 rfl) ?_
  refine lg_arg (j := 1) C hM (by decide) (by omega) (lv_at hl 0 rfl) (lv_at hl 4 rfl) dL_law_1070 dL_law_1071 dL_law_1073 dL_law_1074 dL_law_1075 ?_
  refine lg_arg (j := 2) C hM (by decide) (by omega) (lv_at hl 0 rfl) (lv_at hl 4 rfl) dL_law_1076 dL_law_1077 dL_law_1079 dL_law_1080 dL_law_1081 ?_
  refine lg_arg (j := 3) C hM (by decide) (by omega) (lv_at hl 0 rfl) (lv_at hl 4 rfl) dL_law_1082 dL_law_1083 dL_law_1085 dL_law_1086 dL_law_1087 ?_
  refine lg_arg (j := 4) C hM (by decide) (by omega) (lv_at hl 0 rfl) (lv_at hl 4 rfl) dL_law_1088 dL_law_1089 dL_law_1091 dL_law_1092 dL_law_1093 ?_
  refine lv_aload_n hx hb dL_law_1094 rfl (lv_at hl 3 rfl) ?_
  refine lw_call1 C hM hCN (vx_cwSW 6 hts gL_law_L_ifShifted rfl rfl rfl (by decide +kernel) ⟨Nat.le_of_ble_eq_true rfl, Nat.le_of_ble_eq_true rfl⟩) rfl hl.1 rfl dL_law_1095 hf (fun H locs hM => ?_)
  refine W.widen (k := cells + 1) (n := slots + 6) (Nat.le_refl _) (Nat.le_refl _) ?_
  refine lv_istore (lv' := [(5, .int k), (0, .ref bs), (1, .ref o9), (2, .ref q), (3, .ref oa), (4, .int (nI i))]) hx hb dL_law_1098 hl (by decide) rfl (fun ls hl => ?_)
  refine lv_aload_n hx hb dL_law_1100 rfl (lv_at hl 3 rfl) ?_
  refine lg_arg (j := 1) C hM (by decide) (by omega) (lv_at hl 1 rfl) (lv_at hl 5 rfl) dL_law_1101 dL_law_1102 dL_law_1104 dL_law_1105 dL_law_1106 ?_
  refine lg_arg (j := 2) C hM (by decide) (by omega) (lv_at hl 1 rfl) (lv_at hl 5 rfl) dL_law_1107 dL_law_1108 dL_law_1110 dL_law_1111 dL_law_1112 ?_
  refine lg_arg (j := 3) C hM (by decide) (by omega) (lv_at hl 1 rfl) (lv_at hl 5 rfl) dL_law_1113 dL_law_1114 dL_law_1116 dL_law_1117 dL_law_1118 ?_
  refine lg_arg (j := 4) C hM (by decide) (by omega) (lv_at hl 1 rfl) (lv_at hl 5 rfl) dL_law_1119 dL_law_1120 dL_law_1122 dL_law_1123 dL_law_1124 ?_
  refine lw_call2 (CN := RX7) (ci := 7) (rest := []) (As := [.int (xs (i + 1)), .int (xs (i + 2)), .int (xs (i + 3)), .int (xs (i + 4))]) C hM hCR List.mem_cons_self rfl rfl (cwV 4 hts gL_law_X7_ifShifted rfl rfl rfl (by decide +kernel) ⟨Nat.le_of_ble_eq_true rfl, Nat.le_of_ble_eq_true rfl⟩) rfl hl.1 rfl (Nat.le_of_ble_eq_true rfl) dL_law_1125 hf (fun H locs hM => ?_)
  refine W.widen (k := cells + 1) (n := slots + 6) (Nat.le_refl _) (Nat.le_refl _) ?_
  refine lv_istore (lv' := [(6, .int r), (5, .int k), (0, .ref bs), (1, .ref o9), (2, .ref q), (3, .ref oa), (4, .int (nI i))]) hx hb dL_law_1128 hl (by decide) rfl (fun ls hl => ?_)
  refine lw_tail C oa o9 t9 z9 d9 s9 b9 r9 mq mz sa a ta ga sg q y1 y3 y4 y5 y6 y8 y9 og' k r n' v' h' b' th' tb' u' x0' mk' mx' mh' mb' sh' sb' K' c' f4' f5' D' Q' x1' i10' i11' i12' i14' i15' hM hl.1 (lv_at hl 4 rfl) (lv_at hl 5 rfl) (lv_at hl 1 rfl) (lv_at hl 0 rfl) hog dL_law_1130 dL_law_1131 dL_law_1134 dL_law_1136 dL_law_1141 dL_law_1143 dL_law_1146 dL_law_1147 dL_law_1148 dL_law_1149 dL_law_1151 dL_law_1152 dL_law_1153 dL_law_1158 (by decide) hf (fun H locs hM => ?_)
  exact kk H locs _ ls ⟨og', k, n', v', h', b', th', tb', u', x0', mk', mx', mh', mb', sh', sb', K', c', f4', f5', D', Q', x1', i10', i11', i12', i14', i15', hJ', rfl⟩ hM (lv_sub hl [2, 3, 4, 5, 6] rfl)
set_option maxHeartbeats 4000000 in
set_option maxRecDepth 100000 in
theorem lw_c17 (C : lwC p l s m cd bs L xs G) (hiL : i + 5 ≤ L) (oa : Nat) (o9 : Nat) (t9 : Nat) (z9 : Nat) (d9 : Nat) (s9 : Nat) (b9 : Nat) (r9 : Nat) (mq : Nat) (mz : Nat) (sa : zBA) (a : zGA) (ta : zGA) (ga : Nat → zGA) (sg : Nat → zGA) (q : Nat) (y1 : Nat) (y3 : Nat) (y4 : Nat) (y5 : Nat) (y6 : Nat) (y8 : Nat) (y9 : Nat) (hW : lwJ G oa o9 t9 z9 d9 s9 b9 r9 mq mz sa a ta ga sg q y1 y3 y4 y5 y6 y8 y9 ws) (hM : zM G (lwA s) s H locs ws) (hl : lv_has ls 7 [(0, .ref bs), (1, .ref o9), (2, .ref q), (3, .ref oa), (4, .int (nI i))]) (hf : cells + 1 ≤ room_1.cells ∧ slots + 6 ≤ room_1.slots) (kk : ∀ (H1 : Heap) (locs1 : List Loc) (w1 : va_W) (ls1 : Array Slot), lwJ G oa o9 t9 z9 d9 s9 b9 r9 mq mz sa a ta ga sg q y1 y3 y4 y5 y6 y8 y9 w1 → zM G (lwA s) s H1 locs1 w1 → lv_has ls1 7 [(0, .ref bs), (1, .ref o9), (2, .ref q), (3, .ref oa), (4, .int (nI i))] → W p l e room_1 s m #[Value.ref bs] below meth cd H1 locs1 (cells + 1) (slots + 6) QZ (F0 m 1653 ls1 [])) : W p l e room_1 s m #[Value.ref bs] below meth cd H locs cells slots QZ (F0 m 1161 ls []) := by
  have C0 := C
  obtain ⟨hx, hb, hml, hown, hts, hX, hbl, hL, hK, hE, hN, hTh, hl0⟩ := C0
  obtain ⟨og, k0, n, v, h, b, th, tb, u, x0, mk, mx, mh, mb, sh, sb, K, c, f4, f5, D, Q, x1, i10, i11, i12, i14, i15, hJ, rfl⟩ := hW
  obtain ⟨k, og', r, n', v', h', b', th', tb', u', x0', mk', mx', mh', mb', sh', sb', K', c', f4', f5', D', Q', x1', i10', i11', i12', i14', i15', hJ', hZ, hog, hCN, hCR⟩ := j_worstShift l G hl0 oa o9 t9 z9 d9 s9 b9 r9 mq mz sa a ta ga sg q y1 y3 y4 y5 y6 y8 y9 og k0 n v h b th tb u x0 mk mx mh mb sh sb K c f4 f5 D Q x1 i10 i11 i12 i14 i15 hJ (xs (i + 1))
  refine lv_aload_n hx hb dL_law_1161 rfl (lv_at hl 1 rfl) ?_
  refine lg_arg (j := 1) C hM (by decide) (by omega) (lv_at hl 0 rfl) (lv_at hl 4 rfl) dL_law_1162 dL_law_1163 dL_law_1165 dL_law_1166 dL_law_1167 ?_
  refine lv_aload_n hx hb dL_law_1168 rfl (lv_at hl 3 rfl) ?_
  refine lw_call1 C hM hCN (vx_cwSW 3 hts gL_law_L_worstShift rfl rfl rfl (by decide +kernel) ⟨Nat.le_of_ble_eq_true rfl, Nat.le_of_ble_eq_true rfl⟩) rfl hl.1 rfl dL_law_1169 hf (fun H locs hM => ?_)
  refine W.widen (k := cells + 1) (n := slots + 6) (Nat.le_refl _) (Nat.le_refl _) ?_
  refine lv_istore (lv' := [(5, .int k), (0, .ref bs), (1, .ref o9), (2, .ref q), (3, .ref oa), (4, .int (nI i))]) hx hb dL_law_1172 hl (by decide) rfl (fun ls hl => ?_)
  refine lv_aload_n hx hb dL_law_1174 rfl (lv_at hl 3 rfl) ?_
  refine lg_arg (j := 1) C hM (by decide) (by omega) (lv_at hl 1 rfl) (lv_at hl 5 rfl) dL_law_1175 dL_law_1176 dL_law_1178 dL_law_1179 dL_law_1180 ?_
  refine lw_call2 (CN := RX7) (ci := 7) (rest := []) (As := [.int (xs (i + 1))]) C hM hCR List.mem_cons_self rfl rfl (cwV 1 hts gL_law_X7_worstShift rfl rfl rfl (by decide +kernel) ⟨Nat.le_of_ble_eq_true rfl, Nat.le_of_ble_eq_true rfl⟩) rfl hl.1 rfl (Nat.le_of_ble_eq_true rfl) dL_law_1181 hf (fun H locs hM => ?_)
  refine W.widen (k := cells + 1) (n := slots + 6) (Nat.le_refl _) (Nat.le_refl _) ?_
  refine lv_istore (lv' := [(6, .int r), (5, .int k), (0, .ref bs), (1, .ref o9), (2, .ref q), (3, .ref oa), (4, .int (nI i))]) hx hb dL_law_1184 hl (by decide) rfl (fun ls hl => ?_)
  refine lw_tail C oa o9 t9 z9 d9 s9 b9 r9 mq mz sa a ta ga sg q y1 y3 y4 y5 y6 y8 y9 og' k r n' v' h' b' th' tb' u' x0' mk' mx' mh' mb' sh' sb' K' c' f4' f5' D' Q' x1' i10' i11' i12' i14' i15' hM hl.1 (lv_at hl 4 rfl) (lv_at hl 5 rfl) (lv_at hl 1 rfl) (lv_at hl 0 rfl) hog dL_law_1186 dL_law_1187 dL_law_1190 dL_law_1192 dL_law_1197 dL_law_1199 dL_law_1202 dL_law_1203 dL_law_1204 dL_law_1205 dL_law_1207 dL_law_1208 dL_law_1209 dL_law_1214 (by decide) hf (fun H locs hM => ?_)
  exact kk H locs _ ls ⟨og', k, n', v', h', b', th', tb', u', x0', mk', mx', mh', mb', sh', sb', K', c', f4', f5', D', Q', x1', i10', i11', i12', i14', i15', hJ', rfl⟩ hM (lv_sub hl [2, 3, 4, 5, 6] rfl)
set_option maxHeartbeats 4000000 in
set_option maxRecDepth 100000 in
theorem lw_c18 (C : lwC p l s m cd bs L xs G) (hiL : i + 5 ≤ L) (oa : Nat) (o9 : Nat) (t9 : Nat) (z9 : Nat) (d9 : Nat) (s9 : Nat) (b9 : Nat) (r9 : Nat) (mq : Nat) (mz : Nat) (sa : zBA) (a : zGA) (ta : zGA) (ga : Nat → zGA) (sg : Nat → zGA) (q : Nat) (y1 : Nat) (y3 : Nat) (y4 : Nat) (y5 : Nat) (y6 : Nat) (y8 : Nat) (y9 : Nat) (hW : lwJ G oa o9 t9 z9 d9 s9 b9 r9 mq mz sa a ta ga sg q y1 y3 y4 y5 y6 y8 y9 ws) (hM : zM G (lwA s) s H locs ws) (hl : lv_has ls 7 [(0, .ref bs), (1, .ref o9), (2, .ref q), (3, .ref oa), (4, .int (nI i))]) (hf : cells + 1 ≤ room_1.cells ∧ slots + 6 ≤ room_1.slots) (kk : ∀ (H1 : Heap) (locs1 : List Loc) (w1 : va_W) (ls1 : Array Slot), lwJ G oa o9 t9 z9 d9 s9 b9 r9 mq mz sa a ta ga sg q y1 y3 y4 y5 y6 y8 y9 w1 → zM G (lwA s) s H1 locs1 w1 → lv_has ls1 7 [(0, .ref bs), (1, .ref o9), (2, .ref q), (3, .ref oa), (4, .int (nI i))] → W p l e room_1 s m #[Value.ref bs] below meth cd H1 locs1 (cells + 1) (slots + 6) QZ (F0 m 1653 ls1 [])) : W p l e room_1 s m #[Value.ref bs] below meth cd H locs cells slots QZ (F0 m 1217 ls []) := by
  have C0 := C
  obtain ⟨hx, hb, hml, hown, hts, hX, hbl, hL, hK, hE, hN, hTh, hl0⟩ := C0
  obtain ⟨og, k0, n, v, h, b, th, tb, u, x0, mk, mx, mh, mb, sh, sb, K, c, f4, f5, D, Q, x1, i10, i11, i12, i14, i15, hJ, rfl⟩ := hW
  obtain ⟨k, og', r, n', v', h', b', th', tb', u', x0', mk', mx', mh', mb', sh', sb', K', c', f4', f5', D', Q', x1', i10', i11', i12', i14', i15', hJ', hZ, hog, hCN, hCR⟩ := j_steps l G hl0 oa o9 t9 z9 d9 s9 b9 r9 mq mz sa a ta ga sg q y1 y3 y4 y5 y6 y8 y9 og k0 n v h b th tb u x0 mk mx mh mb sh sb K c f4 f5 D Q x1 i10 i11 i12 i14 i15 hJ (xs (i + 1)) (xs (i + 2))
  refine lv_aload_n hx hb dL_law_1217 rfl (lv_at hl 1 rfl) ?_
  refine lg_arg (j := 1) C hM (by decide) (by omega) (lv_at hl 0 rfl) (lv_at hl 4 rfl) dL_law_1218 dL_law_1219 dL_law_1221 dL_law_1222 dL_law_1223 ?_
  refine lg_arg (j := 2) C hM (by decide) (by omega) (lv_at hl 0 rfl) (lv_at hl 4 rfl) dL_law_1224 dL_law_1225 dL_law_1227 dL_law_1228 dL_law_1229 ?_
  refine lv_aload_n hx hb dL_law_1230 rfl (lv_at hl 3 rfl) ?_
  refine lw_call1 C hM hCN (vx_cwSW 4 hts gL_law_L_steps rfl rfl rfl (by decide +kernel) ⟨Nat.le_of_ble_eq_true rfl, Nat.le_of_ble_eq_true rfl⟩) rfl hl.1 rfl dL_law_1231 hf (fun H locs hM => ?_)
  refine W.widen (k := cells + 1) (n := slots + 6) (Nat.le_refl _) (Nat.le_refl _) ?_
  refine lv_istore (lv' := [(5, .int k), (0, .ref bs), (1, .ref o9), (2, .ref q), (3, .ref oa), (4, .int (nI i))]) hx hb dL_law_1234 hl (by decide) rfl (fun ls hl => ?_)
  refine lv_aload_n hx hb dL_law_1236 rfl (lv_at hl 3 rfl) ?_
  refine lg_arg (j := 1) C hM (by decide) (by omega) (lv_at hl 1 rfl) (lv_at hl 5 rfl) dL_law_1237 dL_law_1238 dL_law_1240 dL_law_1241 dL_law_1242 ?_
  refine lg_arg (j := 2) C hM (by decide) (by omega) (lv_at hl 1 rfl) (lv_at hl 5 rfl) dL_law_1243 dL_law_1244 dL_law_1246 dL_law_1247 dL_law_1248 ?_
  refine lw_call2 (CN := RX7) (ci := 7) (rest := []) (As := [.int (xs (i + 1)), .int (xs (i + 2))]) C hM hCR List.mem_cons_self rfl rfl (cwV 2 hts gL_law_X7_steps rfl rfl rfl (by decide +kernel) ⟨Nat.le_of_ble_eq_true rfl, Nat.le_of_ble_eq_true rfl⟩) rfl hl.1 rfl (Nat.le_of_ble_eq_true rfl) dL_law_1249 hf (fun H locs hM => ?_)
  refine W.widen (k := cells + 1) (n := slots + 6) (Nat.le_refl _) (Nat.le_refl _) ?_
  refine lv_istore (lv' := [(6, .int r), (5, .int k), (0, .ref bs), (1, .ref o9), (2, .ref q), (3, .ref oa), (4, .int (nI i))]) hx hb dL_law_1252 hl (by decide) rfl (fun ls hl => ?_)
  refine lw_tail C oa o9 t9 z9 d9 s9 b9 r9 mq mz sa a ta ga sg q y1 y3 y4 y5 y6 y8 y9 og' k r n' v' h' b' th' tb' u' x0' mk' mx' mh' mb' sh' sb' K' c' f4' f5' D' Q' x1' i10' i11' i12' i14' i15' hM hl.1 (lv_at hl 4 rfl) (lv_at hl 5 rfl) (lv_at hl 1 rfl) (lv_at hl 0 rfl) hog dL_law_1254 dL_law_1255 dL_law_1258 dL_law_1260 dL_law_1265 dL_law_1267 dL_law_1270 dL_law_1271 dL_law_1272 dL_law_1273 dL_law_1275 dL_law_1276 dL_law_1277 dL_law_1282 (by decide) hf (fun H locs hM => ?_)
  exact kk H locs _ ls ⟨og', k, n', v', h', b', th', tb', u', x0', mk', mx', mh', mb', sh', sb', K', c', f4', f5', D', Q', x1', i10', i11', i12', i14', i15', hJ', rfl⟩ hM (lv_sub hl [2, 3, 4, 5, 6] rfl)
set_option maxHeartbeats 4000000 in
set_option maxRecDepth 100000 in
theorem lw_c19 (C : lwC p l s m cd bs L xs G) (hiL : i + 5 ≤ L) (oa : Nat) (o9 : Nat) (t9 : Nat) (z9 : Nat) (d9 : Nat) (s9 : Nat) (b9 : Nat) (r9 : Nat) (mq : Nat) (mz : Nat) (sa : zBA) (a : zGA) (ta : zGA) (ga : Nat → zGA) (sg : Nat → zGA) (q : Nat) (y1 : Nat) (y3 : Nat) (y4 : Nat) (y5 : Nat) (y6 : Nat) (y8 : Nat) (y9 : Nat) (hW : lwJ G oa o9 t9 z9 d9 s9 b9 r9 mq mz sa a ta ga sg q y1 y3 y4 y5 y6 y8 y9 ws) (hM : zM G (lwA s) s H locs ws) (hl : lv_has ls 7 [(0, .ref bs), (1, .ref o9), (2, .ref q), (3, .ref oa), (4, .int (nI i))]) (hf : cells + 1 ≤ room_1.cells ∧ slots + 6 ≤ room_1.slots) (kk : ∀ (H1 : Heap) (locs1 : List Loc) (w1 : va_W) (ls1 : Array Slot), lwJ G oa o9 t9 z9 d9 s9 b9 r9 mq mz sa a ta ga sg q y1 y3 y4 y5 y6 y8 y9 w1 → zM G (lwA s) s H1 locs1 w1 → lv_has ls1 7 [(0, .ref bs), (1, .ref o9), (2, .ref q), (3, .ref oa), (4, .int (nI i))] → W p l e room_1 s m #[Value.ref bs] below meth cd H1 locs1 (cells + 1) (slots + 6) QZ (F0 m 1653 ls1 [])) : W p l e room_1 s m #[Value.ref bs] below meth cd H locs cells slots QZ (F0 m 1285 ls []) := by
  have C0 := C
  obtain ⟨hx, hb, hml, hown, hts, hX, hbl, hL, hK, hE, hN, hTh, hl0⟩ := C0
  obtain ⟨og, k0, n, v, h, b, th, tb, u, x0, mk, mx, mh, mb, sh, sb, K, c, f4, f5, D, Q, x1, i10, i11, i12, i14, i15, hJ, rfl⟩ := hW
  obtain ⟨k, og', r, n', v', h', b', th', tb', u', x0', mk', mx', mh', mb', sh', sb', K', c', f4', f5', D', Q', x1', i10', i11', i12', i14', i15', hJ', hZ, hog, hCN, hCR⟩ := j_goesOn l G hl0 oa o9 t9 z9 d9 s9 b9 r9 mq mz sa a ta ga sg q y1 y3 y4 y5 y6 y8 y9 og k0 n v h b th tb u x0 mk mx mh mb sh sb K c f4 f5 D Q x1 i10 i11 i12 i14 i15 hJ (xs (i + 1))
  refine lv_aload_n hx hb dL_law_1285 rfl (lv_at hl 1 rfl) ?_
  refine lg_arg (j := 1) C hM (by decide) (by omega) (lv_at hl 0 rfl) (lv_at hl 4 rfl) dL_law_1286 dL_law_1287 dL_law_1289 dL_law_1290 dL_law_1291 ?_
  refine lv_aload_n hx hb dL_law_1292 rfl (lv_at hl 3 rfl) ?_
  refine lw_call1 C hM hCN (vx_cwSW 3 hts gL_law_L_goesOn rfl rfl rfl (by decide +kernel) ⟨Nat.le_of_ble_eq_true rfl, Nat.le_of_ble_eq_true rfl⟩) rfl hl.1 rfl dL_law_1293 hf (fun H locs hM => ?_)
  refine W.widen (k := cells + 1) (n := slots + 6) (Nat.le_refl _) (Nat.le_refl _) ?_
  refine lv_istore (lv' := [(5, .int k), (0, .ref bs), (1, .ref o9), (2, .ref q), (3, .ref oa), (4, .int (nI i))]) hx hb dL_law_1296 hl (by decide) rfl (fun ls hl => ?_)
  refine lv_aload_n hx hb dL_law_1298 rfl (lv_at hl 3 rfl) ?_
  refine lg_arg (j := 1) C hM (by decide) (by omega) (lv_at hl 1 rfl) (lv_at hl 5 rfl) dL_law_1299 dL_law_1300 dL_law_1302 dL_law_1303 dL_law_1304 ?_
  refine lw_call2 (CN := RX7) (ci := 7) (rest := []) (As := [.int (xs (i + 1))]) C hM hCR List.mem_cons_self rfl rfl (cwV 1 hts gL_law_X7_goesOn rfl rfl rfl (by decide +kernel) ⟨Nat.le_of_ble_eq_true rfl, Nat.le_of_ble_eq_true rfl⟩) rfl hl.1 rfl (Nat.le_of_ble_eq_true rfl) dL_law_1305 hf (fun H locs hM => ?_)
  refine W.widen (k := cells + 1) (n := slots + 6) (Nat.le_refl _) (Nat.le_refl _) ?_
  refine lv_istore (lv' := [(6, .int r), (5, .int k), (0, .ref bs), (1, .ref o9), (2, .ref q), (3, .ref oa), (4, .int (nI i))]) hx hb dL_law_1308 hl (by decide) rfl (fun ls hl => ?_)
  refine lw_tail C oa o9 t9 z9 d9 s9 b9 r9 mq mz sa a ta ga sg q y1 y3 y4 y5 y6 y8 y9 og' k r n' v' h' b' th' tb' u' x0' mk' mx' mh' mb' sh' sb' K' c' f4' f5' D' Q' x1' i10' i11' i12' i14' i15' hM hl.1 (lv_at hl 4 rfl) (lv_at hl 5 rfl) (lv_at hl 1 rfl) (lv_at hl 0 rfl) hog dL_law_1310 dL_law_1311 dL_law_1314 dL_law_1316 dL_law_1321 dL_law_1323 dL_law_1326 dL_law_1327 dL_law_1328 dL_law_1329 dL_law_1331 dL_law_1332 dL_law_1333 dL_law_1338 (by decide) hf (fun H locs hM => ?_)
  exact kk H locs _ ls ⟨og', k, n', v', h', b', th', tb', u', x0', mk', mx', mh', mb', sh', sb', K', c', f4', f5', D', Q', x1', i10', i11', i12', i14', i15', hJ', rfl⟩ hM (lv_sub hl [2, 3, 4, 5, 6] rfl)
set_option maxHeartbeats 4000000 in
set_option maxRecDepth 100000 in
theorem lw_c20 (C : lwC p l s m cd bs L xs G) (hiL : i + 5 ≤ L) (oa : Nat) (o9 : Nat) (t9 : Nat) (z9 : Nat) (d9 : Nat) (s9 : Nat) (b9 : Nat) (r9 : Nat) (mq : Nat) (mz : Nat) (sa : zBA) (a : zGA) (ta : zGA) (ga : Nat → zGA) (sg : Nat → zGA) (q : Nat) (y1 : Nat) (y3 : Nat) (y4 : Nat) (y5 : Nat) (y6 : Nat) (y8 : Nat) (y9 : Nat) (hW : lwJ G oa o9 t9 z9 d9 s9 b9 r9 mq mz sa a ta ga sg q y1 y3 y4 y5 y6 y8 y9 ws) (hM : zM G (lwA s) s H locs ws) (hl : lv_has ls 7 [(0, .ref bs), (1, .ref o9), (2, .ref q), (3, .ref oa), (4, .int (nI i))]) (hf : cells + 1 ≤ room_1.cells ∧ slots + 6 ≤ room_1.slots) (kk : ∀ (H1 : Heap) (locs1 : List Loc) (w1 : va_W) (ls1 : Array Slot), lwJ G oa o9 t9 z9 d9 s9 b9 r9 mq mz sa a ta ga sg q y1 y3 y4 y5 y6 y8 y9 w1 → zM G (lwA s) s H1 locs1 w1 → lv_has ls1 7 [(0, .ref bs), (1, .ref o9), (2, .ref q), (3, .ref oa), (4, .int (nI i))] → W p l e room_1 s m #[Value.ref bs] below meth cd H1 locs1 (cells + 1) (slots + 6) QZ (F0 m 1653 ls1 [])) : W p l e room_1 s m #[Value.ref bs] below meth cd H locs cells slots QZ (F0 m 1341 ls []) := by
  have C0 := C
  obtain ⟨hx, hb, hml, hown, hts, hX, hbl, hL, hK, hE, hN, hTh, hl0⟩ := C0
  obtain ⟨og, k0, n, v, h, b, th, tb, u, x0, mk, mx, mh, mb, sh, sb, K, c, f4, f5, D, Q, x1, i10, i11, i12, i14, i15, hJ, rfl⟩ := hW
  obtain ⟨k, og', r, n', v', h', b', th', tb', u', x0', mk', mx', mh', mb', sh', sb', K', c', f4', f5', D', Q', x1', i10', i11', i12', i14', i15', hJ', hZ, hog, hCN, hCR⟩ := j_runScript l G hl0 oa o9 t9 z9 d9 s9 b9 r9 mq mz sa a ta ga sg q y1 y3 y4 y5 y6 y8 y9 og k0 n v h b th tb u x0 mk mx mh mb sh sb K c f4 f5 D Q x1 i10 i11 i12 i14 i15 hJ (xs (i + 1)) (lg_J (xs (i + 2)) (xs (i + (2 + 1))))
  refine lv_aload_n hx hb dL_law_1341 rfl (lv_at hl 1 rfl) ?_
  refine lg_arg (j := 1) C hM (by decide) (by omega) (lv_at hl 0 rfl) (lv_at hl 4 rfl) dL_law_1342 dL_law_1343 dL_law_1345 dL_law_1346 dL_law_1347 ?_
  refine lg_long (j := 2) C hM (by decide) (by decide) (by omega) (lv_at hl 0 rfl) (lv_at hl 4 rfl) dL_law_1348 dL_law_1349 dL_law_1351 dL_law_1352 dL_law_1353 dL_law_1354 dL_law_1355 dL_law_1357 dL_law_1358 dL_law_1359 dL_law_1361 dL_law_1362 dL_law_1363 dL_law_1364 dL_law_1365 dL_law_1368 dL_law_1369 ?_
  refine lv_aload_n hx hb dL_law_1370 rfl (lv_at hl 3 rfl) ?_
  refine lw_call1 C hM hCN (vx_cwSW 4 hts gL_law_L_runScript rfl rfl rfl (by decide +kernel) ⟨Nat.le_of_ble_eq_true rfl, Nat.le_of_ble_eq_true rfl⟩) rfl hl.1 rfl dL_law_1371 hf (fun H locs hM => ?_)
  refine W.widen (k := cells + 1) (n := slots + 6) (Nat.le_refl _) (Nat.le_refl _) ?_
  refine lv_istore (lv' := [(5, .int k), (0, .ref bs), (1, .ref o9), (2, .ref q), (3, .ref oa), (4, .int (nI i))]) hx hb dL_law_1374 hl (by decide) rfl (fun ls hl => ?_)
  refine lv_aload_n hx hb dL_law_1376 rfl (lv_at hl 3 rfl) ?_
  refine lg_arg (j := 1) C hM (by decide) (by omega) (lv_at hl 1 rfl) (lv_at hl 5 rfl) dL_law_1377 dL_law_1378 dL_law_1380 dL_law_1381 dL_law_1382 ?_
  refine lg_long (j := 2) C hM (by decide) (by decide) (by omega) (lv_at hl 1 rfl) (lv_at hl 5 rfl) dL_law_1383 dL_law_1384 dL_law_1386 dL_law_1387 dL_law_1388 dL_law_1389 dL_law_1390 dL_law_1392 dL_law_1393 dL_law_1394 dL_law_1396 dL_law_1397 dL_law_1398 dL_law_1399 dL_law_1400 dL_law_1403 dL_law_1404 ?_
  refine lw_call2 (CN := RX7) (ci := 7) (rest := []) (As := [.int (xs (i + 1)), .long (lg_J (xs (i + 2)) (xs (i + (2 + 1))))]) C hM hCR List.mem_cons_self rfl rfl (cwV 2 hts gL_law_X7_runScript rfl rfl rfl (by decide +kernel) ⟨Nat.le_of_ble_eq_true rfl, Nat.le_of_ble_eq_true rfl⟩) rfl hl.1 rfl (Nat.le_of_ble_eq_true rfl) dL_law_1405 hf (fun H locs hM => ?_)
  refine W.widen (k := cells + 1) (n := slots + 6) (Nat.le_refl _) (Nat.le_refl _) ?_
  refine lv_istore (lv' := [(6, .int r), (5, .int k), (0, .ref bs), (1, .ref o9), (2, .ref q), (3, .ref oa), (4, .int (nI i))]) hx hb dL_law_1408 hl (by decide) rfl (fun ls hl => ?_)
  refine lw_tail C oa o9 t9 z9 d9 s9 b9 r9 mq mz sa a ta ga sg q y1 y3 y4 y5 y6 y8 y9 og' k r n' v' h' b' th' tb' u' x0' mk' mx' mh' mb' sh' sb' K' c' f4' f5' D' Q' x1' i10' i11' i12' i14' i15' hM hl.1 (lv_at hl 4 rfl) (lv_at hl 5 rfl) (lv_at hl 1 rfl) (lv_at hl 0 rfl) hog dL_law_1410 dL_law_1411 dL_law_1414 dL_law_1416 dL_law_1421 dL_law_1423 dL_law_1426 dL_law_1427 dL_law_1428 dL_law_1429 dL_law_1431 dL_law_1432 dL_law_1433 dL_law_1438 (by decide) hf (fun H locs hM => ?_)
  exact kk H locs _ ls ⟨og', k, n', v', h', b', th', tb', u', x0', mk', mx', mh', mb', sh', sb', K', c', f4', f5', D', Q', x1', i10', i11', i12', i14', i15', hJ', rfl⟩ hM (lv_sub hl [2, 3, 4, 5, 6] rfl)
set_option maxHeartbeats 4000000 in
set_option maxRecDepth 100000 in
theorem lw_c21 (C : lwC p l s m cd bs L xs G) (hiL : i + 5 ≤ L) (oa : Nat) (o9 : Nat) (t9 : Nat) (z9 : Nat) (d9 : Nat) (s9 : Nat) (b9 : Nat) (r9 : Nat) (mq : Nat) (mz : Nat) (sa : zBA) (a : zGA) (ta : zGA) (ga : Nat → zGA) (sg : Nat → zGA) (q : Nat) (y1 : Nat) (y3 : Nat) (y4 : Nat) (y5 : Nat) (y6 : Nat) (y8 : Nat) (y9 : Nat) (hW : lwJ G oa o9 t9 z9 d9 s9 b9 r9 mq mz sa a ta ga sg q y1 y3 y4 y5 y6 y8 y9 ws) (hM : zM G (lwA s) s H locs ws) (hl : lv_has ls 7 [(0, .ref bs), (1, .ref o9), (2, .ref q), (3, .ref oa), (4, .int (nI i))]) (hf : cells + 1 ≤ room_1.cells ∧ slots + 6 ≤ room_1.slots) (kk : ∀ (H1 : Heap) (locs1 : List Loc) (w1 : va_W) (ls1 : Array Slot), lwJ G oa o9 t9 z9 d9 s9 b9 r9 mq mz sa a ta ga sg q y1 y3 y4 y5 y6 y8 y9 w1 → zM G (lwA s) s H1 locs1 w1 → lv_has ls1 7 [(0, .ref bs), (1, .ref o9), (2, .ref q), (3, .ref oa), (4, .int (nI i))] → W p l e room_1 s m #[Value.ref bs] below meth cd H1 locs1 (cells + 1) (slots + 6) QZ (F0 m 1653 ls1 [])) : W p l e room_1 s m #[Value.ref bs] below meth cd H locs cells slots QZ (F0 m 1441 ls []) := by
  have C0 := C
  obtain ⟨hx, hb, hml, hown, hts, hX, hbl, hL, hK, hE, hN, hTh, hl0⟩ := C0
  obtain ⟨og, k0, n, v, h, b, th, tb, u, x0, mk, mx, mh, mb, sh, sb, K, c, f4, f5, D, Q, x1, i10, i11, i12, i14, i15, hJ, rfl⟩ := hW
  obtain ⟨k, og', r, n', v', h', b', th', tb', u', x0', mk', mx', mh', mb', sh', sb', K', c', f4', f5', D', Q', x1', i10', i11', i12', i14', i15', hJ', hZ, hog, hCN, hCR⟩ := j_simulate l G hl0 oa o9 t9 z9 d9 s9 b9 r9 mq mz sa a ta ga sg q y1 y3 y4 y5 y6 y8 y9 og k0 n v h b th tb u x0 mk mx mh mb sh sb K c f4 f5 D Q x1 i10 i11 i12 i14 i15 hJ (lg_J (xs (i + 1)) (xs (i + (1 + 1)))) (xs (i + 3))
  refine lv_aload_n hx hb dL_law_1441 rfl (lv_at hl 1 rfl) ?_
  refine lg_long (j := 1) C hM (by decide) (by decide) (by omega) (lv_at hl 0 rfl) (lv_at hl 4 rfl) dL_law_1442 dL_law_1443 dL_law_1445 dL_law_1446 dL_law_1447 dL_law_1448 dL_law_1449 dL_law_1451 dL_law_1452 dL_law_1453 dL_law_1455 dL_law_1456 dL_law_1457 dL_law_1458 dL_law_1459 dL_law_1462 dL_law_1463 ?_
  refine lg_arg (j := 3) C hM (by decide) (by omega) (lv_at hl 0 rfl) (lv_at hl 4 rfl) dL_law_1464 dL_law_1465 dL_law_1467 dL_law_1468 dL_law_1469 ?_
  refine lv_aload_n hx hb dL_law_1470 rfl (lv_at hl 3 rfl) ?_
  refine lw_call1 C hM hCN (vx_cwSW 4 hts gL_law_L_simulate rfl rfl rfl (by decide +kernel) ⟨Nat.le_of_ble_eq_true rfl, Nat.le_of_ble_eq_true rfl⟩) rfl hl.1 rfl dL_law_1471 hf (fun H locs hM => ?_)
  refine W.widen (k := cells + 1) (n := slots + 6) (Nat.le_refl _) (Nat.le_refl _) ?_
  refine lv_istore (lv' := [(5, .int k), (0, .ref bs), (1, .ref o9), (2, .ref q), (3, .ref oa), (4, .int (nI i))]) hx hb dL_law_1474 hl (by decide) rfl (fun ls hl => ?_)
  refine lv_aload_n hx hb dL_law_1476 rfl (lv_at hl 3 rfl) ?_
  refine lg_long (j := 1) C hM (by decide) (by decide) (by omega) (lv_at hl 1 rfl) (lv_at hl 5 rfl) dL_law_1477 dL_law_1478 dL_law_1480 dL_law_1481 dL_law_1482 dL_law_1483 dL_law_1484 dL_law_1486 dL_law_1487 dL_law_1488 dL_law_1490 dL_law_1491 dL_law_1492 dL_law_1493 dL_law_1494 dL_law_1497 dL_law_1498 ?_
  refine lg_arg (j := 3) C hM (by decide) (by omega) (lv_at hl 1 rfl) (lv_at hl 5 rfl) dL_law_1499 dL_law_1500 dL_law_1502 dL_law_1503 dL_law_1504 ?_
  refine lw_call2 (CN := RX7) (ci := 7) (rest := []) (As := [.long (lg_J (xs (i + 1)) (xs (i + (1 + 1)))), .int (xs (i + 3))]) C hM hCR List.mem_cons_self rfl rfl (cwV 2 hts gL_law_X7_simulate rfl rfl rfl (by decide +kernel) ⟨Nat.le_of_ble_eq_true rfl, Nat.le_of_ble_eq_true rfl⟩) rfl hl.1 rfl (Nat.le_of_ble_eq_true rfl) dL_law_1505 hf (fun H locs hM => ?_)
  refine W.widen (k := cells + 1) (n := slots + 6) (Nat.le_refl _) (Nat.le_refl _) ?_
  refine lv_istore (lv' := [(6, .int r), (5, .int k), (0, .ref bs), (1, .ref o9), (2, .ref q), (3, .ref oa), (4, .int (nI i))]) hx hb dL_law_1508 hl (by decide) rfl (fun ls hl => ?_)
  refine lw_tail C oa o9 t9 z9 d9 s9 b9 r9 mq mz sa a ta ga sg q y1 y3 y4 y5 y6 y8 y9 og' k r n' v' h' b' th' tb' u' x0' mk' mx' mh' mb' sh' sb' K' c' f4' f5' D' Q' x1' i10' i11' i12' i14' i15' hM hl.1 (lv_at hl 4 rfl) (lv_at hl 5 rfl) (lv_at hl 1 rfl) (lv_at hl 0 rfl) hog dL_law_1510 dL_law_1511 dL_law_1514 dL_law_1516 dL_law_1521 dL_law_1523 dL_law_1526 dL_law_1527 dL_law_1528 dL_law_1529 dL_law_1531 dL_law_1532 dL_law_1533 dL_law_1538 (by decide) hf (fun H locs hM => ?_)
  exact kk H locs _ ls ⟨og', k, n', v', h', b', th', tb', u', x0', mk', mx', mh', mb', sh', sb', K', c', f4', f5', D', Q', x1', i10', i11', i12', i14', i15', hJ', rfl⟩ hM (lv_sub hl [2, 3, 4, 5, 6] rfl)
set_option maxHeartbeats 4000000 in
set_option maxRecDepth 100000 in
theorem lw_c22 (C : lwC p l s m cd bs L xs G) (hiL : i + 5 ≤ L) (oa : Nat) (o9 : Nat) (t9 : Nat) (z9 : Nat) (d9 : Nat) (s9 : Nat) (b9 : Nat) (r9 : Nat) (mq : Nat) (mz : Nat) (sa : zBA) (a : zGA) (ta : zGA) (ga : Nat → zGA) (sg : Nat → zGA) (q : Nat) (y1 : Nat) (y3 : Nat) (y4 : Nat) (y5 : Nat) (y6 : Nat) (y8 : Nat) (y9 : Nat) (hW : lwJ G oa o9 t9 z9 d9 s9 b9 r9 mq mz sa a ta ga sg q y1 y3 y4 y5 y6 y8 y9 ws) (hM : zM G (lwA s) s H locs ws) (hl : lv_has ls 7 [(0, .ref bs), (1, .ref o9), (2, .ref q), (3, .ref oa), (4, .int (nI i))]) (hf : cells + 1 ≤ room_1.cells ∧ slots + 6 ≤ room_1.slots) (kk : ∀ (H1 : Heap) (locs1 : List Loc) (w1 : va_W) (ls1 : Array Slot), lwJ G oa o9 t9 z9 d9 s9 b9 r9 mq mz sa a ta ga sg q y1 y3 y4 y5 y6 y8 y9 w1 → zM G (lwA s) s H1 locs1 w1 → lv_has ls1 7 [(0, .ref bs), (1, .ref o9), (2, .ref q), (3, .ref oa), (4, .int (nI i))] → W p l e room_1 s m #[Value.ref bs] below meth cd H1 locs1 (cells + 1) (slots + 6) QZ (F0 m 1653 ls1 [])) : W p l e room_1 s m #[Value.ref bs] below meth cd H locs cells slots QZ (F0 m 1541 ls []) := by
  have C0 := C
  obtain ⟨hx, hb, hml, hown, hts, hX, hbl, hL, hK, hE, hN, hTh, hl0⟩ := C0
  obtain ⟨og, k0, n, v, h, b, th, tb, u, x0, mk, mx, mh, mb, sh, sb, K, c, f4, f5, D, Q, x1, i10, i11, i12, i14, i15, hJ, rfl⟩ := hW
  obtain ⟨k, og', r, n', v', h', b', th', tb', u', x0', mk', mx', mh', mb', sh', sb', K', c', f4', f5', D', Q', x1', i10', i11', i12', i14', i15', hJ', hZ, hog, hCN, hCR⟩ := j_save l G hl0 oa o9 t9 z9 d9 s9 b9 r9 mq mz sa a ta ga sg q y1 y3 y4 y5 y6 y8 y9 og k0 n v h b th tb u x0 mk mx mh mb sh sb K c f4 f5 D Q x1 i10 i11 i12 i14 i15 hJ (xs (i + 1))
  refine lv_aload_n hx hb dL_law_1541 rfl (lv_at hl 1 rfl) ?_
  refine lg_arg (j := 1) C hM (by decide) (by omega) (lv_at hl 0 rfl) (lv_at hl 4 rfl) dL_law_1542 dL_law_1543 dL_law_1545 dL_law_1546 dL_law_1547 ?_
  refine lv_aload_n hx hb dL_law_1548 rfl (lv_at hl 3 rfl) ?_
  refine lw_call1 C hM hCN (vx_cwSW 3 hts gL_law_L_save rfl rfl rfl (by decide +kernel) ⟨Nat.le_of_ble_eq_true rfl, Nat.le_of_ble_eq_true rfl⟩) rfl hl.1 rfl dL_law_1549 hf (fun H locs hM => ?_)
  refine W.widen (k := cells + 1) (n := slots + 6) (Nat.le_refl _) (Nat.le_refl _) ?_
  refine lv_istore (lv' := [(5, .int k), (0, .ref bs), (1, .ref o9), (2, .ref q), (3, .ref oa), (4, .int (nI i))]) hx hb dL_law_1552 hl (by decide) rfl (fun ls hl => ?_)
  refine lv_aload_n hx hb dL_law_1554 rfl (lv_at hl 3 rfl) ?_
  refine lg_arg (j := 1) C hM (by decide) (by omega) (lv_at hl 1 rfl) (lv_at hl 5 rfl) dL_law_1555 dL_law_1556 dL_law_1558 dL_law_1559 dL_law_1560 ?_
  refine lw_call2 (CN := RX7) (ci := 7) (rest := []) (As := [.int (xs (i + 1))]) C hM hCR List.mem_cons_self rfl rfl (cwV 1 hts gL_law_X7_save rfl rfl rfl (by decide +kernel) ⟨Nat.le_of_ble_eq_true rfl, Nat.le_of_ble_eq_true rfl⟩) rfl hl.1 rfl (Nat.le_of_ble_eq_true rfl) dL_law_1561 hf (fun H locs hM => ?_)
  refine W.widen (k := cells + 1) (n := slots + 6) (Nat.le_refl _) (Nat.le_refl _) ?_
  refine lv_istore (lv' := [(6, .int r), (5, .int k), (0, .ref bs), (1, .ref o9), (2, .ref q), (3, .ref oa), (4, .int (nI i))]) hx hb dL_law_1564 hl (by decide) rfl (fun ls hl => ?_)
  refine lw_tail C oa o9 t9 z9 d9 s9 b9 r9 mq mz sa a ta ga sg q y1 y3 y4 y5 y6 y8 y9 og' k r n' v' h' b' th' tb' u' x0' mk' mx' mh' mb' sh' sb' K' c' f4' f5' D' Q' x1' i10' i11' i12' i14' i15' hM hl.1 (lv_at hl 4 rfl) (lv_at hl 5 rfl) (lv_at hl 1 rfl) (lv_at hl 0 rfl) hog dL_law_1566 dL_law_1567 dL_law_1570 dL_law_1572 dL_law_1577 dL_law_1579 dL_law_1582 dL_law_1583 dL_law_1584 dL_law_1585 dL_law_1587 dL_law_1588 dL_law_1589 dL_law_1594 (by decide) hf (fun H locs hM => ?_)
  exact kk H locs _ ls ⟨og', k, n', v', h', b', th', tb', u', x0', mk', mx', mh', mb', sh', sb', K', c', f4', f5', D', Q', x1', i10', i11', i12', i14', i15', hJ', rfl⟩ hM (lv_sub hl [2, 3, 4, 5, 6] rfl)
set_option maxHeartbeats 4000000 in
set_option maxRecDepth 100000 in
theorem lw_c23 (C : lwC p l s m cd bs L xs G) (hiL : i + 5 ≤ L) (oa : Nat) (o9 : Nat) (t9 : Nat) (z9 : Nat) (d9 : Nat) (s9 : Nat) (b9 : Nat) (r9 : Nat) (mq : Nat) (mz : Nat) (sa : zBA) (a : zGA) (ta : zGA) (ga : Nat → zGA) (sg : Nat → zGA) (q : Nat) (y1 : Nat) (y3 : Nat) (y4 : Nat) (y5 : Nat) (y6 : Nat) (y8 : Nat) (y9 : Nat) (hW : lwJ G oa o9 t9 z9 d9 s9 b9 r9 mq mz sa a ta ga sg q y1 y3 y4 y5 y6 y8 y9 ws) (hM : zM G (lwA s) s H locs ws) (hl : lv_has ls 7 [(0, .ref bs), (1, .ref o9), (2, .ref q), (3, .ref oa), (4, .int (nI i))]) (hf : cells + 1 ≤ room_1.cells ∧ slots + 6 ≤ room_1.slots) (kk : ∀ (H1 : Heap) (locs1 : List Loc) (w1 : va_W) (ls1 : Array Slot), lwJ G oa o9 t9 z9 d9 s9 b9 r9 mq mz sa a ta ga sg q y1 y3 y4 y5 y6 y8 y9 w1 → zM G (lwA s) s H1 locs1 w1 → lv_has ls1 7 [(0, .ref bs), (1, .ref o9), (2, .ref q), (3, .ref oa), (4, .int (nI i))] → W p l e room_1 s m #[Value.ref bs] below meth cd H1 locs1 (cells + 1) (slots + 6) QZ (F0 m 1653 ls1 [])) : W p l e room_1 s m #[Value.ref bs] below meth cd H locs cells slots QZ (F0 m 1597 ls []) := by
  have C0 := C
  obtain ⟨hx, hb, hml, hown, hts, hX, hbl, hL, hK, hE, hN, hTh, hl0⟩ := C0
  obtain ⟨og, k0, n, v, h, b, th, tb, u, x0, mk, mx, mh, mb, sh, sb, K, c, f4, f5, D, Q, x1, i10, i11, i12, i14, i15, hJ, rfl⟩ := hW
  obtain ⟨k, og', r, n', v', h', b', th', tb', u', x0', mk', mx', mh', mb', sh', sb', K', c', f4', f5', D', Q', x1', i10', i11', i12', i14', i15', hJ', hZ, hog, hCN, hCR⟩ := j_restore l G hl0 oa o9 t9 z9 d9 s9 b9 r9 mq mz sa a ta ga sg q y1 y3 y4 y5 y6 y8 y9 og k0 n v h b th tb u x0 mk mx mh mb sh sb K c f4 f5 D Q x1 i10 i11 i12 i14 i15 hJ (xs (i + 1))
  refine lv_aload_n hx hb dL_law_1597 rfl (lv_at hl 1 rfl) ?_
  refine lg_arg (j := 1) C hM (by decide) (by omega) (lv_at hl 0 rfl) (lv_at hl 4 rfl) dL_law_1598 dL_law_1599 dL_law_1601 dL_law_1602 dL_law_1603 ?_
  refine lv_aload_n hx hb dL_law_1604 rfl (lv_at hl 3 rfl) ?_
  refine lw_call1 C hM hCN (vx_cwSW 3 hts gL_law_L_restore rfl rfl rfl (by decide +kernel) ⟨Nat.le_of_ble_eq_true rfl, Nat.le_of_ble_eq_true rfl⟩) rfl hl.1 rfl dL_law_1605 hf (fun H locs hM => ?_)
  refine W.widen (k := cells + 1) (n := slots + 6) (Nat.le_refl _) (Nat.le_refl _) ?_
  refine lv_istore (lv' := [(5, .int k), (0, .ref bs), (1, .ref o9), (2, .ref q), (3, .ref oa), (4, .int (nI i))]) hx hb dL_law_1608 hl (by decide) rfl (fun ls hl => ?_)
  refine lv_aload_n hx hb dL_law_1610 rfl (lv_at hl 3 rfl) ?_
  refine lg_arg (j := 1) C hM (by decide) (by omega) (lv_at hl 1 rfl) (lv_at hl 5 rfl) dL_law_1611 dL_law_1612 dL_law_1614 dL_law_1615 dL_law_1616 ?_
  refine lw_call2 (CN := RX7) (ci := 7) (rest := []) (As := [.int (xs (i + 1))]) C hM hCR List.mem_cons_self rfl rfl (cwV 1 hts gL_law_X7_restore rfl rfl rfl (by decide +kernel) ⟨Nat.le_of_ble_eq_true rfl, Nat.le_of_ble_eq_true rfl⟩) rfl hl.1 rfl (Nat.le_of_ble_eq_true rfl) dL_law_1617 hf (fun H locs hM => ?_)
  refine W.widen (k := cells + 1) (n := slots + 6) (Nat.le_refl _) (Nat.le_refl _) ?_
  refine lv_istore (lv' := [(6, .int r), (5, .int k), (0, .ref bs), (1, .ref o9), (2, .ref q), (3, .ref oa), (4, .int (nI i))]) hx hb dL_law_1620 hl (by decide) rfl (fun ls hl => ?_)
  refine lw_tail C oa o9 t9 z9 d9 s9 b9 r9 mq mz sa a ta ga sg q y1 y3 y4 y5 y6 y8 y9 og' k r n' v' h' b' th' tb' u' x0' mk' mx' mh' mb' sh' sb' K' c' f4' f5' D' Q' x1' i10' i11' i12' i14' i15' hM hl.1 (lv_at hl 4 rfl) (lv_at hl 5 rfl) (lv_at hl 1 rfl) (lv_at hl 0 rfl) hog dL_law_1622 dL_law_1623 dL_law_1626 dL_law_1628 dL_law_1633 dL_law_1635 dL_law_1638 dL_law_1639 dL_law_1640 dL_law_1641 dL_law_1643 dL_law_1644 dL_law_1645 dL_law_1650 (by decide) hf (fun H locs hM => ?_)
  exact kk H locs _ ls ⟨og', k, n', v', h', b', th', tb', u', x0', mk', mx', mh', mb', sh', sb', K', c', f4', f5', D', Q', x1', i10', i11', i12', i14', i15', hJ', rfl⟩ hM (lv_sub hl [2, 3, 4, 5, 6] rfl)
end LWK
