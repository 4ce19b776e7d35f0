section LWK
variable {p : Program} {l : Launch} {e : Env} {s : State} {m : MethodId} {below : List Frame} {meth : Method} {cd : Code} {H : Heap} {locs : List Loc} {cells slots : Nat} {QZ : State → Prop}
variable {bs L i : Nat} {xs : Nat → Int32} {G : zC} {ws ws' wl wr : va_W} {ls : Array Slot} {st : List Value}
set_option maxHeartbeats 4000000 in
set_option maxRecDepth 100000 in
theorem lw_c8 (C : lwC p l s m cd bs L xs G) (hiL : i + 5 ≤ L) (oa : Nat) (o9 : Nat) (t9 : Nat) (z9 : Nat) (d9 : Nat) (s9 : Nat) (b9 : Nat) (r9 : Nat) (mq : Nat) (mz : Nat) (sa : zBA) (a : zGA) (ta : zGA) (ga : Nat → zGA) (sg : Nat → zGA) (q : Nat) (y1 : Nat) (y3 : Nat) (y4 : Nat) (y5 : Nat) (y6 : Nat) (y8 : Nat) (y9 : Nat) (hW : lwJ G oa o9 t9 z9 d9 s9 b9 r9 mq mz sa a ta ga sg q y1 y3 y4 y5 y6 y8 y9 ws) (hM : zM G (lwA s) s H locs ws) (hl : lv_has ls 7 [(0, .ref bs), (1, .ref o9), (2, .ref q), (3, .ref oa), (4, .int (nI i))]) (hf : cells + 1 ≤ room_1.cells ∧ slots + 6 ≤ room_1.slots) (kk : ∀ (H1 : Heap) (locs1 : List Loc) (w1 : va_W) (ls1 : Array Slot), lwJ G oa o9 t9 z9 d9 s9 b9 r9 mq mz sa a ta ga sg q y1 y3 y4 y5 y6 y8 y9 w1 → zM G (lwA s) s H1 locs1 w1 → lv_has ls1 7 [(0, .ref bs), (1, .ref o9), (2, .ref q), (3, .ref oa), (4, .int (nI i))] → W p l e room_1 s m #[Value.ref bs] below meth cd H1 locs1 (cells + 1) (slots + 6) QZ (F0 m 1653 ls1 [])) : W p l e room_1 s m #[Value.ref bs] below meth cd H locs cells slots QZ (F0 m 534 ls []) := by
  have C0 := C
  obtain ⟨hx, hb, hml, hown, hts, hX, hbl, hL, hK, hE, hN, hTh, hl0⟩ := C0
  obtain ⟨og, k0, n, v, h, b, th, tb, u, x0, mk, mx, mh, mb, sh, sb, K, c, f4, f5, D, Q, x1, i10, i11, i12, i14, i15, hJ, rfl⟩ := hW
  obtain ⟨k, og', r, n', v', h', b', th', tb', u', x0', mk', mx', mh', mb', sh', sb', K', c', f4', f5', D', Q', x1', i10', i11', i12', i14', i15', hJ', hZ, hog, hCN, hCR⟩ := j_begin l G hl0 oa o9 t9 z9 d9 s9 b9 r9 mq mz sa a ta ga sg q y1 y3 y4 y5 y6 y8 y9 og k0 n v h b th tb u x0 mk mx mh mb sh sb K c f4 f5 D Q x1 i10 i11 i12 i14 i15 hJ (xs (i + 1)) (lg_J (xs (i + 2)) (xs (i + (2 + 1))))
  refine lv_aload_n hx hb dL_law_534 rfl (lv_at hl 1 rfl) ?_
  refine lg_arg (j := 1) C hM (by decide) (by omega) (lv_at hl 0 rfl) (lv_at hl 4 rfl) dL_law_535 dL_law_536 dL_law_538 dL_law_539 dL_law_540 ?_
  refine lg_long (j := 2) C hM (by decide) (by decide) (by omega) (lv_at hl 0 rfl) (lv_at hl 4 rfl) dL_law_541 dL_law_542 dL_law_544 dL_law_545 dL_law_546 dL_law_547 dL_law_548 dL_law_550 dL_law_551 dL_law_552 dL_law_554 dL_law_555 dL_law_556 dL_law_557 dL_law_558 dL_law_561 dL_law_562 ?_
  refine lv_aload_n hx hb dL_law_563 rfl (lv_at hl 3 rfl) ?_
  refine lw_call1 C hM hCN (vx_cwSW 4 hts gL_law_L_begin rfl rfl rfl (by decide +kernel) ⟨Nat.le_of_ble_eq_true rfl, Nat.le_of_ble_eq_true rfl⟩) rfl hl.1 rfl dL_law_564 hf (fun H locs hM => ?_)
  refine W.widen (k := cells + 1) (n := slots + 6) (Nat.le_refl _) (Nat.le_refl _) ?_
  refine lv_istore (lv' := [(5, .int k), (0, .ref bs), (1, .ref o9), (2, .ref q), (3, .ref oa), (4, .int (nI i))]) hx hb dL_law_567 hl (by decide) rfl (fun ls hl => ?_)
  refine lv_aload_n hx hb dL_law_569 rfl (lv_at hl 3 rfl) ?_
  refine lg_arg (j := 1) C hM (by decide) (by omega) (lv_at hl 1 rfl) (lv_at hl 5 rfl) dL_law_570 dL_law_571 dL_law_573 dL_law_574 dL_law_575 ?_
  refine lg_long (j := 2) C hM (by decide) (by decide) (by omega) (lv_at hl 1 rfl) (lv_at hl 5 rfl) dL_law_576 dL_law_577 dL_law_579 dL_law_580 dL_law_581 dL_law_582 dL_law_583 dL_law_585 dL_law_586 dL_law_587 dL_law_589 dL_law_590 dL_law_591 dL_law_592 dL_law_593 dL_law_596 dL_law_597 ?_
  refine lw_call2 (CN := RX7) (ci := 7) (rest := []) (As := [.int (xs (i + 1)), .long (lg_J (xs (i + 2)) (xs (i + (2 + 1))))]) C hM hCR List.mem_cons_self rfl rfl (cwV 2 hts gL_law_X7_begin rfl rfl rfl (by decide +kernel) ⟨Nat.le_of_ble_eq_true rfl, Nat.le_of_ble_eq_true rfl⟩) rfl hl.1 rfl (Nat.le_of_ble_eq_true rfl) dL_law_598 hf (fun H locs hM => ?_)
  refine W.widen (k := cells + 1) (n := slots + 6) (Nat.le_refl _) (Nat.le_refl _) ?_
  refine lv_istore (lv' := [(6, .int r), (5, .int k), (0, .ref bs), (1, .ref o9), (2, .ref q), (3, .ref oa), (4, .int (nI i))]) hx hb dL_law_601 hl (by decide) rfl (fun ls hl => ?_)
  refine lw_tail C oa o9 t9 z9 d9 s9 b9 r9 mq mz sa a ta ga sg q y1 y3 y4 y5 y6 y8 y9 og' k r n' v' h' b' th' tb' u' x0' mk' mx' mh' mb' sh' sb' K' c' f4' f5' D' Q' x1' i10' i11' i12' i14' i15' hM hl.1 (lv_at hl 4 rfl) (lv_at hl 5 rfl) (lv_at hl 1 rfl) (lv_at hl 0 rfl) hog dL_law_603 dL_law_604 dL_law_607 dL_law_609 dL_law_614 dL_law_616 dL_law_619 dL_law_620 dL_law_621 dL_law_622 dL_law_624 dL_law_625 dL_law_626 dL_law_631 (by decide) hf (fun H locs hM => ?_)
  exact kk H locs _ ls ⟨og', k, n', v', h', b', th', tb', u', x0', mk', mx', mh', mb', sh', sb', K', c', f4', f5', D', Q', x1', i10', i11', i12', i14', i15', hJ', rfl⟩ hM (lv_sub hl [2, 3, 4, 5, 6] rfl)
set_option maxHeartbeats 4000000 in
set_option maxRecDepth 100000 in
theorem lw_c9 (C : lwC p l s m cd bs L xs G) (hiL : i + 5 ≤ L) (oa : Nat) (o9 : Nat) (t9 : Nat) (z9 : Nat) (d9 : Nat) (s9 : Nat) (b9 : Nat) (r9 : Nat) (mq : Nat) (mz : Nat) (sa : zBA) (a : zGA) (ta : zGA) (ga : Nat → zGA) (sg : Nat → zGA) (q : Nat) (y1 : Nat) (y3 : Nat) (y4 : Nat) (y5 : Nat) (y6 : Nat) (y8 : Nat) (y9 : Nat) (hW : lwJ G oa o9 t9 z9 d9 s9 b9 r9 mq mz sa a ta ga sg q y1 y3 y4 y5 y6 y8 y9 ws) (hM : zM G (lwA s) s H locs ws) (hl : lv_has ls 7 [(0, .ref bs), (1, .ref o9), (2, .ref q), (3, .ref oa), (4, .int (nI i))]) (hf : cells + 1 ≤ room_1.cells ∧ slots + 6 ≤ room_1.slots) (kk : ∀ (H1 : Heap) (locs1 : List Loc) (w1 : va_W) (ls1 : Array Slot), lwJ G oa o9 t9 z9 d9 s9 b9 r9 mq mz sa a ta ga sg q y1 y3 y4 y5 y6 y8 y9 w1 → zM G (lwA s) s H1 locs1 w1 → lv_has ls1 7 [(0, .ref bs), (1, .ref o9), (2, .ref q), (3, .ref oa), (4, .int (nI i))] → W p l e room_1 s m #[Value.ref bs] below meth cd H1 locs1 (cells + 1) (slots + 6) QZ (F0 m 1653 ls1 [])) : W p l e room_1 s m #[Value.ref bs] below meth cd H locs cells slots QZ (F0 m 634 ls []) := by
  have C0 := C
  obtain ⟨hx, hb, hml, hown, hts, hX, hbl, hL, hK, hE, hN, hTh, hl0⟩ := C0
  obtain ⟨og, k0, n, v, h, b, th, tb, u, x0, mk, mx, mh, mb, sh, sb, K, c, f4, f5, D, Q, x1, i10, i11, i12, i14, i15, hJ, rfl⟩ := hW
  obtain ⟨k, og', r, n', v', h', b', th', tb', u', x0', mk', mx', mh', mb', sh', sb', K', c', f4', f5', D', Q', x1', i10', i11', i12', i14', i15', hJ', hZ, hog, hCN, hCR⟩ := j_shift l G hl0 oa o9 t9 z9 d9 s9 b9 r9 mq mz sa a ta ga sg q y1 y3 y4 y5 y6 y8 y9 og k0 n v h b th tb u x0 mk mx mh mb sh sb K c f4 f5 D Q x1 i10 i11 i12 i14 i15 hJ (xs (i + 1)) (xs (i + 2)) (xs (i + 3))
  refine lv_aload_n hx hb dL_law_634 rfl (lv_at hl 1 rfl) ?_
  refine lg_arg (j := 1) C hM (by decide) (by omega) (lv_at hl 0 rfl) (lv_at hl 4 rfl) dL_law_635 dL_law_636 dL_law_638 dL_law_639 dL_law_640 ?_
  refine lg_arg (j := 2) C hM (by decide) (by omega) (lv_at hl 0 rfl) (lv_at hl 4 rfl) dL_law_641 dL_law_642 dL_law_644 dL_law_645 dL_law_646 ?_
  refine lg_arg (j := 3) C hM (by decide) (by omega) (lv_at hl 0 rfl) (lv_at hl 4 rfl) dL_law_647 dL_law_648 dL_law_650 dL_law_651 dL_law_652 ?_
  refine lv_aload_n hx hb dL_law_653 rfl (lv_at hl 3 rfl) ?_
  refine lw_call1 C hM hCN (vx_cwSW 5 hts gL_law_L_shift rfl rfl rfl (by decide +kernel) ⟨Nat.le_of_ble_eq_true rfl, Nat.le_of_ble_eq_true rfl⟩) rfl hl.1 rfl dL_law_654 hf (fun H locs hM => ?_)
  refine W.widen (k := cells + 1) (n := slots + 6) (Nat.le_refl _) (Nat.le_refl _) ?_
  refine lv_istore (lv' := [(5, .int k), (0, .ref bs), (1, .ref o9), (2, .ref q), (3, .ref oa), (4, .int (nI i))]) hx hb dL_law_657 hl (by decide) rfl (fun ls hl => ?_)
  refine lv_aload_n hx hb dL_law_659 rfl (lv_at hl 3 rfl) ?_
  refine lg_arg (j := 1) C hM (by decide) (by omega) (lv_at hl 1 rfl) (lv_at hl 5 rfl) dL_law_660 dL_law_661 dL_law_663 dL_law_664 dL_law_665 ?_
  refine lg_arg (j := 2) C hM (by decide) (by omega) (lv_at hl 1 rfl) (lv_at hl 5 rfl) dL_law_666 dL_law_667 dL_law_669 dL_law_670 dL_law_671 ?_
  refine lg_arg (j := 3) C hM (by decide) (by omega) (lv_at hl 1 rfl) (lv_at hl 5 rfl) dL_law_672 dL_law_673 dL_law_675 dL_law_676 dL_law_677 ?_
  refine lw_call2 (CN := RX7) (ci := 7) (rest := []) (As := [.int (xs (i + 1)), .int (xs (i + 2)), .int (xs (i + 3))]) C hM hCR List.mem_cons_self rfl rfl (cwV 3 hts gL_law_X7_shift rfl rfl rfl (by decide +kernel) ⟨Nat.le_of_ble_eq_true rfl, Nat.le_of_ble_eq_true rfl⟩) rfl hl.1 rfl (Nat.le_of_ble_eq_true rfl) dL_law_678 hf (fun H locs hM => ?_)
  refine W.widen (k := cells + 1) (n := slots + 6) (Nat.le_refl _) (Nat.le_refl _) ?_
  refine lv_istore (lv' := [(6, .int r), (5, .int k), (0, .ref bs), (1, .ref o9), (2, .ref q), (3, .ref oa), (4, .int (nI i))]) hx hb dL_law_681 hl (by decide) rfl (fun ls hl => ?_)
  refine lw_tail C oa o9 t9 z9 d9 s9 b9 r9 mq mz sa a ta ga sg q y1 y3 y4 y5 y6 y8 y9 og' k r n' v' h' b' th' tb' u' x0' mk' mx' mh' mb' sh' sb' K' c' f4' f5' D' Q' x1' i10' i11' i12' i14' i15' hM hl.1 (lv_at hl 4 rfl) (lv_at hl 5 rfl) (lv_at hl 1 rfl) (lv_at hl 0 rfl) hog dL_law_683 dL_law_684 dL_law_687 dL_law_689 dL_law_694 dL_law_696 dL_law_699 dL_law_700 dL_law_701 dL_law_702 dL_law_704 dL_law_705 dL_law_706 dL_law_711 (by decide) hf (fun H locs hM => ?_)
  exact kk H locs _ ls ⟨og', k, n', v', h', b', th', tb', u', x0', mk', mx', mh', mb', sh', sb', K', c', f4', f5', D', Q', x1', i10', i11', i12', i14', i15', hJ', rfl⟩ hM (lv_sub hl [2, 3, 4, 5, 6] rfl)
set_option maxHeartbeats 4000000 in
set_option maxRecDepth 100000 in
theorem lw_c10 (C : lwC p l s m cd bs L xs G) (hiL : i + 5 ≤ L) (oa : Nat) (o9 : Nat) (t9 : Nat) (z9 : Nat) (d9 : Nat) (s9 : Nat) (b9 : Nat) (r9 : Nat) (mq : Nat) (mz : Nat) (sa : zBA) (a : zGA) (ta : zGA) (ga : Nat → zGA) (sg : Nat → zGA) (q : Nat) (y1 : Nat) (y3 : Nat) (y4 : Nat) (y5 : Nat) (y6 : Nat) (y8 : Nat) (y9 : Nat) (hW : lwJ G oa o9 t9 z9 d9 s9 b9 r9 mq mz sa a ta ga sg q y1 y3 y4 y5 y6 y8 y9 ws) (hM : zM G (lwA s) s H locs ws) (hl : lv_has ls 7 [(0, .ref bs), (1, .ref o9), (2, .ref q), (3, .ref oa), (4, .int (nI i))]) (hf : cells + 1 ≤ room_1.cells ∧ slots + 6 ≤ room_1.slots) (kk : ∀ (H1 : Heap) (locs1 : List Loc) (w1 : va_W) (ls1 : Array Slot), lwJ G oa o9 t9 z9 d9 s9 b9 r9 mq mz sa a ta ga sg q y1 y3 y4 y5 y6 y8 y9 w1 → zM G (lwA s) s H1 locs1 w1 → lv_has ls1 7 [(0, .ref bs), (1, .ref o9), (2, .ref q), (3, .ref oa), (4, .int (nI i))] → W p l e room_1 s m #[Value.ref bs] below meth cd H1 locs1 (cells + 1) (slots + 6) QZ (F0 m 1653 ls1 [])) : W p l e room_1 s m #[Value.ref bs] below meth cd H locs cells slots QZ (F0 m 714 ls []) := by
  have C0 := C
  obtain ⟨hx, hb, hml, hown, hts, hX, hbl, hL, hK, hE, hN, hTh, hl0⟩ := C0
  obtain ⟨og, k0, n, v, h, b, th, tb, u, x0, mk, mx, mh, mb, sh, sb, K, c, f4, f5, D, Q, x1, i10, i11, i12, i14, i15, hJ, rfl⟩ := hW
  obtain ⟨k, og', r, n', v', h', b', th', tb', u', x0', mk', mx', mh', mb', sh', sb', K', c', f4', f5', D', Q', x1', i10', i11', i12', i14', i15', hJ', hZ, hog, hCN, hCR⟩ := j_go l G hl0 oa o9 t9 z9 d9 s9 b9 r9 mq mz sa a ta ga sg q y1 y3 y4 y5 y6 y8 y9 og k0 n v h b th tb u x0 mk mx mh mb sh sb K c f4 f5 D Q x1 i10 i11 i12 i14 i15 hJ (xs (i + 1))
  refine lv_aload_n hx hb dL_law_714 rfl (lv_at hl 1 rfl) ?_
  refine lg_arg (j := 1) C hM (by decide) (by omega) (lv_at hl 0 rfl) (lv_at hl 4 rfl) dL_law_715 dL_law_716 dL_law_718 dL_law_719 dL_law_720 ?_
  refine lv_aload_n hx hb dL_law_721 rfl (lv_at hl 3 rfl) ?_
  refine lw_call1 C hM hCN (vx_cwSW 3 hts gL_law_L_go rfl rfl rfl (by decide +kernel) ⟨Nat.le_of_ble_eq_true rfl, Nat.le_of_ble_eq_true rfl⟩) rfl hl.1 rfl dL_law_722 hf (fun H locs hM => ?_)
  refine W.widen (k := cells + 1) (n := slots + 6) (Nat.le_refl _) (Nat.le_refl _) ?_
  refine lv_istore (lv' := [(5, .int k), (0, .ref bs), (1, .ref o9), (2, .ref q), (3, .ref oa), (4, .int (nI i))]) hx hb dL_law_725 hl (by decide) rfl (fun ls hl => ?_)
  refine lv_aload_n hx hb dL_law_727 rfl (lv_at hl 3 rfl) ?_
  refine lg_arg (j := 1) C hM (by decide) (by omega) (lv_at hl 1 rfl) (lv_at hl 5 rfl) dL_law_728 dL_law_729 dL_law_731 dL_law_732 dL_law_733 ?_
  refine lw_call2 (CN := RX7) (ci := 7) (rest := []) (As := [.int (xs (i + 1))]) C hM hCR List.mem_cons_self rfl rfl (cwV 1 hts gL_law_X7_go rfl rfl rfl (by decide +kernel) ⟨Nat.le_of_ble_eq_true rfl, Nat.le_of_ble_eq_true rfl⟩) rfl hl.1 rfl (Nat.le_of_ble_eq_true rfl) dL_law_734 hf (fun H locs hM => ?_)
  refine W.widen (k := cells + 1) (n := slots + 6) (Nat.le_refl _) (Nat.le_refl _) ?_
  refine lv_istore (lv' := [(6, .int r), (5, .int k), (0, .ref bs), (1, .ref o9), (2, .ref q), (3, .ref oa), (4, .int (nI i))]) hx hb dL_law_737 hl (by decide) rfl (fun ls hl => ?_)
  refine lw_tail C oa o9 t9 z9 d9 s9 b9 r9 mq mz sa a ta ga sg q y1 y3 y4 y5 y6 y8 y9 og' k r n' v' h' b' th' tb' u' x0' mk' mx' mh' mb' sh' sb' K' c' f4' f5' D' Q' x1' i10' i11' i12' i14' i15' hM hl.1 (lv_at hl 4 rfl) (lv_at hl 5 rfl) (lv_at hl 1 rfl) (lv_at hl 0 rfl) hog dL_law_739 dL_law_740 dL_law_743 dL_law_745 dL_law_750 dL_law_752 dL_law_755 dL_law_756 dL_law_757 dL_law_758 dL_law_760 dL_law_761 dL_law_762 dL_law_767 (by decide) hf (fun H locs hM => ?_)
  exact kk H locs _ ls ⟨og', k, n', v', h', b', th', tb', u', x0', mk', mx', mh', mb', sh', sb', K', c', f4', f5', D', Q', x1', i10', i11', i12', i14', i15', hJ', rfl⟩ hM (lv_sub hl [2, 3, 4, 5, 6] rfl)
set_option maxHeartbeats 4000000 in
set_option maxRecDepth 100000 in
theorem lw_c11 (C : lwC p l s m cd bs L xs G) (hiL : i + 5 ≤ L) (oa : Nat) (o9 : Nat) (t9 : Nat) (z9 : Nat) (d9 : Nat) (s9 : Nat) (b9 : Nat) (r9 : Nat) (mq : Nat) (mz : Nat) (sa : zBA) (a : zGA) (ta : zGA) (ga : Nat → zGA) (sg : Nat → zGA) (q : Nat) (y1 : Nat) (y3 : Nat) (y4 : Nat) (y5 : Nat) (y6 : Nat) (y8 : Nat) (y9 : Nat) (hW : lwJ G oa o9 t9 z9 d9 s9 b9 r9 mq mz sa a ta ga sg q y1 y3 y4 y5 y6 y8 y9 ws) (hM : zM G (lwA s) s H locs ws) (hl : lv_has ls 7 [(0, .ref bs), (1, .ref o9), (2, .ref q), (3, .ref oa), (4, .int (nI i))]) (hf : cells + 1 ≤ room_1.cells ∧ slots + 6 ≤ room_1.slots) (kk : ∀ (H1 : Heap) (locs1 : List Loc) (w1 : va_W) (ls1 : Array Slot), lwJ G oa o9 t9 z9 d9 s9 b9 r9 mq mz sa a ta ga sg q y1 y3 y4 y5 y6 y8 y9 w1 → zM G (lwA s) s H1 locs1 w1 → lv_has ls1 7 [(0, .ref bs), (1, .ref o9), (2, .ref q), (3, .ref oa), (4, .int (nI i))] → W p l e room_1 s m #[Value.ref bs] below meth cd H1 locs1 (cells + 1) (slots + 6) QZ (F0 m 1653 ls1 [])) : W p l e room_1 s m #[Value.ref bs] below meth cd H locs cells slots QZ (F0 m 770 ls []) := by
  have C0 := C
  obtain ⟨hx, hb, hml, hown, hts, hX, hbl, hL, hK, hE, hN, hTh, hl0⟩ := C0
  obtain ⟨og, k0, n, v, h, b, th, tb, u, x0, mk, mx, mh, mb, sh, sb, K, c, f4, f5, D, Q, x1, i10, i11, i12, i14, i15, hJ, rfl⟩ := hW
  obtain ⟨k, og', r, n', v', h', b', th', tb', u', x0', mk', mx', mh', mb', sh', sb', K', c', f4', f5', D', Q', x1', i10', i11', i12', i14', i15', hJ', hZ, hog, hCN, hCR⟩ := j_lock l G hl0 oa o9 t9 z9 d9 s9 b9 r9 mq mz sa a ta ga sg q y1 y3 y4 y5 y6 y8 y9 og k0 n v h b th tb u x0 mk mx mh mb sh sb K c f4 f5 D Q x1 i10 i11 i12 i14 i15 hJ (xs (i + 1))
  refine lv_aload_n hx hb dL_law_770 rfl (lv_at hl 1 rfl) ?_
  refine lg_arg (j := 1) C hM (by decide) (by omega) (lv_at hl 0 rfl) (lv_at hl 4 rfl) dL_law_771 dL_law_772 dL_law_774 dL_law_775 dL_law_776 ?_
  refine lv_aload_n hx hb dL_law_777 rfl (lv_at hl 3 rfl) ?_
  refine lw_call1 C hM hCN (vx_cwSW 3 hts gL_law_L_lock rfl rfl rfl (by decide +kernel) ⟨Nat.le_of_ble_eq_true rfl, Nat.le_of_ble_eq_true rfl⟩) rfl hl.1 rfl dL_law_778 hf (fun H locs hM => ?_)
  refine W.widen (k := cells + 1) (n := slots + 6) (Nat.le_refl _) (Nat.le_refl _) ?_
  refine lv_istore (lv' := [(5, .int k), (0, .ref bs), (1, .ref o9), (2, .ref q), (3, .ref oa), (4, .int (nI i))]) hx hb dL_law_781 hl (by decide) rfl (fun ls hl => ?_)
  refine lv_aload_n hx hb dL_law_783 rfl (lv_at hl 3 rfl) ?_
  refine lg_arg (j := 1) C hM (by decide) (by omega) (lv_at hl 1 rfl) (lv_at hl 5 rfl) dL_law_784 dL_law_785 dL_law_787 dL_law_788 dL_law_789 ?_
  refine lw_call2 (CN := RX7) (ci := 7) (rest := []) (As := [.int (xs (i + 1))]) C hM hCR List.mem_cons_self rfl rfl (cwV 1 hts gL_law_X7_lock rfl rfl rfl (by decide +kernel) ⟨Nat.le_of_ble_eq_true rfl, Nat.le_of_ble_eq_true rfl⟩) rfl hl.1 rfl (Nat.le_of_ble_eq_true rfl) dL_law_790 hf (fun H locs hM => ?_)
  refine W.widen (k := cells + 1) (n := slots + 6) (Nat.le_refl _) (Nat.le_refl _) ?_
  refine lv_istore (lv' := [(6, .int r), (5, .int k), (0, .ref bs), (1, .ref o9), (2, .ref q), (3, .ref oa), (4, .int (nI i))]) hx hb dL_law_793 hl (by decide) rfl (fun ls hl => ?_)
  refine lw_tail C oa o9 t9 z9 d9 s9 b9 r9 mq mz sa a ta ga sg q y1 y3 y4 y5 y6 y8 y9 og' k r n' v' h' b' th' tb' u' x0' mk' mx' mh' mb' sh' sb' K' c' f4' f5' D' Q' x1' i10' i11' i12' i14' i15' hM hl.1 (lv_at hl 4 rfl) (lv_at hl 5 rfl) (lv_at hl 1 rfl) (lv_at hl 0 rfl) hog dL_law_795 dL_law_796 dL_law_799 dL_law_801 dL_law_806 dL_law_808 dL_law_811 dL_law_812 dL_law_813 dL_law_814 dL_law_816 dL_law_817 dL_law_818 dL_law_823 (by decide) hf (fun H locs hM => ?_)
  exact kk H locs _ ls ⟨og', k, n', v', h', b', th', tb', u', x0', mk', mx', mh', mb', sh', sb', K', c', f4', f5', D', Q', x1', i10', i11', i12', i14', i15', hJ', rfl⟩ hM (lv_sub hl [2, 3, 4, 5, 6] rfl)
set_option maxHeartbeats 4000000 in
set_option maxRecDepth 100000 in
theorem lw_c12 (C : lwC p l s m cd bs L xs G) (hiL : i + 5 ≤ L) (oa : Nat) (o9 : Nat) (t9 : Nat) (z9 : Nat) (d9 : Nat) (s9 : Nat) (b9 : Nat) (r9 : Nat) (mq : Nat) (mz : Nat) (sa : zBA) (a : zGA) (ta : zGA) (ga : Nat → zGA) (sg : Nat → zGA) (q : Nat) (y1 : Nat) (y3 : Nat) (y4 : Nat) (y5 : Nat) (y6 : Nat) (y8 : Nat) (y9 : Nat) (hW : lwJ G oa o9 t9 z9 d9 s9 b9 r9 mq mz sa a ta ga sg q y1 y3 y4 y5 y6 y8 y9 ws) (hM : zM G (lwA s) s H locs ws) (hl : lv_has ls 7 [(0, .ref bs), (1, .ref o9), (2, .ref q), (3, .ref oa), (4, .int (nI i))]) (hf : cells + 1 ≤ room_1.cells ∧ slots + 6 ≤ room_1.slots) (kk : ∀ (H1 : Heap) (locs1 : List Loc) (w1 : va_W) (ls1 : Array Slot), lwJ G oa o9 t9 z9 d9 s9 b9 r9 mq mz sa a ta ga sg q y1 y3 y4 y5 y6 y8 y9 w1 → zM G (lwA s) s H1 locs1 w1 → lv_has ls1 7 [(0, .ref bs), (1, .ref o9), (2, .ref q), (3, .ref oa), (4, .int (nI i))] → W p l e room_1 s m #[Value.ref bs] below meth cd H1 locs1 (cells + 1) (slots + 6) QZ (F0 m 1653 ls1 [])) : W p l e room_1 s m #[Value.ref bs] below meth cd H locs cells slots QZ (F0 m 826 ls []) := by
  have C0 := C
  obtain ⟨hx, hb, hml, hown, hts, hX, hbl, hL, hK, hE, hN, hTh, hl0⟩ := C0
  obtain ⟨og, k0, n, v, h, b, th, tb, u, x0, mk, mx, mh, mb, sh, sb, K, c, f4, f5, D, Q, x1, i10, i11, i12, i14, i15, hJ, rfl⟩ := hW
  obtain ⟨k, og', r, n', v', h', b', th', tb', u', x0', mk', mx', mh', mb', sh', sb', K', c', f4', f5', D', Q', x1', i10', i11', i12', i14', i15', hJ', hZ, hog, hCN, hCR⟩ := j_play l G hl0 oa o9 t9 z9 d9 s9 b9 r9 mq mz sa a ta ga sg q y1 y3 y4 y5 y6 y8 y9 og k0 n v h b th tb u x0 mk mx mh mb sh sb K c f4 f5 D Q x1 i10 i11 i12 i14 i15 hJ
  refine lv_aload_n hx hb dL_law_826 rfl (lv_at hl 1 rfl) ?_
  refine lv_aload_n hx hb dL_law_827 rfl (lv_at hl 3 rfl) ?_
  refine lw_call1 C hM hCN (vx_cwSW 2 hts gL_law_L_play rfl rfl rfl (by decide +kernel) ⟨Nat.le_of_ble_eq_true rfl, Nat.le_of_ble_eq_true rfl⟩) rfl hl.1 rfl dL_law_828 hf (fun H locs hM => ?_)
  refine W.widen (k := cells + 1) (n := slots + 6) (Nat.le_refl _) (Nat.le_refl _) ?_
  refine lv_istore (lv' := [(5, .int k), (0, .ref bs), (1, .ref o9), (2, .ref q), (3, .ref oa), (4, .int (nI i))]) hx hb dL_law_831 hl (by decide) rfl (fun ls hl => ?_)
  refine lv_aload_n hx hb dL_law_833 rfl (lv_at hl 3 rfl) ?_
  refine lw_call2 (CN := RX7) (ci := 7) (rest := []) (As := []) C hM hCR List.mem_cons_self rfl rfl (cwV 0 hts gL_law_X7_play rfl rfl rfl (by decide +kernel) ⟨Nat.le_of_ble_eq_true rfl, Nat.le_of_ble_eq_true rfl⟩) rfl hl.1 rfl (Nat.le_of_ble_eq_true rfl) dL_law_834 hf (fun H locs hM => ?_)
  refine W.widen (k := cells + 1) (n := slots + 6) (Nat.le_refl _) (Nat.le_refl _) ?_
  refine lv_istore (lv' := [(6, .int r), (5, .int k), (0, .ref bs), (1, .ref o9), (2, .ref q), (3, .ref oa), (4, .int (nI i))]) hx hb dL_law_837 hl (by decide) rfl (fun ls hl => ?_)
  refine lw_tail C oa o9 t9 z9 d9 s9 b9 r9 mq mz sa a ta ga sg q y1 y3 y4 y5 y6 y8 y9 og' k r n' v' h' b' th' tb' u' x0' mk' mx' mh' mb' sh' sb' K' c' f4' f5' D' Q' x1' i10' i11' i12' i14' i15' hM hl.1 (lv_at hl 4 rfl) (lv_at hl 5 rfl) (lv_at hl 1 rfl) (lv_at hl 0 rfl) hog dL_law_839 dL_law_840 dL_law_843 dL_law_845 dL_law_850 dL_law_852 dL_law_855 dL_law_856 dL_law_857 dL_law_858 dL_law_860 dL_law_861 dL_law_862 dL_law_867 (by decide) hf (fun H locs hM => ?_)
  exact kk H locs _ ls ⟨og', k, n', v', h', b', th', tb', u', x0', mk', mx', mh', mb', sh', sb', K', c', f4', f5', D', Q', x1', i10', i11', i12', i14', i15', hJ', rfl⟩ hM (lv_sub hl [2, 3, 4, 5, 6] rfl)
set_option maxHeartbeats 4000000 in
set_option maxRecDepth 100000 in
theorem lw_c13 (C : lwC p l s m cd bs L xs G) (hiL : i + 5 ≤ L) (oa : Nat) (o9 : Nat) (t9 : Nat) (z9 : Nat) (d9 : Nat) (s9 : Nat) (b9 : Nat) (r9 : Nat) (mq : Nat) (mz : Nat) (sa : zBA) (a : zGA) (ta : zGA) (ga : Nat → zGA) (sg : Nat → zGA) (q : Nat) (y1 : Nat) (y3 : Nat) (y4 : Nat) (y5 : Nat) (y6 : Nat) (y8 : Nat) (y9 : Nat) (hW : lwJ G oa o9 t9 z9 d9 s9 b9 r9 mq mz sa a ta ga sg q y1 y3 y4 y5 y6 y8 y9 ws) (hM : zM G (lwA s) s H locs ws) (hl : lv_has ls 7 [(0, .ref bs), (1, .ref o9), (2, .ref q), (3, .ref oa), (4, .int (nI i))]) (hf : cells + 1 ≤ room_1.cells ∧ slots + 6 ≤ room_1.slots) (kk : ∀ (H1 : Heap) (locs1 : List Loc) (w1 : va_W) (ls1 : Array Slot), lwJ G oa o9 t9 z9 d9 s9 b9 r9 mq mz sa a ta ga sg q y1 y3 y4 y5 y6 y8 y9 w1 → zM G (lwA s) s H1 locs1 w1 → lv_has ls1 7 [(0, .ref bs), (1, .ref o9), (2, .ref q), (3, .ref oa), (4, .int (nI i))] → W p l e room_1 s m #[Value.ref bs] below meth cd H1 locs1 (cells + 1) (slots + 6) QZ (F0 m 1653 ls1 [])) : W p l e room_1 s m #[Value.ref bs] below meth cd H locs cells slots QZ (F0 m 870 ls []) := by
  have C0 := C
  obtain ⟨hx, hb, hml, hown, hts, hX, hbl, hL, hK, hE, hN, hTh, hl0⟩ := C0
  obtain ⟨og, k0, n, v, h, b, th, tb, u, x0, mk, mx, mh, mb, sh, sb, K, c, f4, f5, D, Q, x1, i10, i11, i12, i14, i15, hJ, rfl⟩ := hW
  obtain ⟨k, og', r, n', v', h', b', th', tb', u', x0', mk', mx', mh', mb', sh', sb', K', c', f4', f5', D', Q', x1', i10', i11', i12', i14', i15', hJ', hZ, hog, hCN, hCR⟩ := j_set l G hl0 oa o9 t9 z9 d9 s9 b9 r9 mq mz sa a ta ga sg q y1 y3 y4 y5 y6 y8 y9 og k0 n v h b th tb u x0 mk mx mh mb sh sb K c f4 f5 D Q x1 i10 i11 i12 i14 i15 hJ (xs (i + 1)) (xs (i + 2))
  refine lv_aload_n hx hb dL_law_870 rfl (lv_at hl 1 rfl) ?_
  refine lg_arg (j := 1) C hM (by decide) (by omega) (lv_at hl 0 rfl) (lv_at hl 4 rfl) dL_law_871 dL_law_872 dL_law_874 dL_law_875 dL_law_876 ?_
  refine lg_arg (j := 2) C hM (by decide) (by omega) (lv_at hl 0 rfl) (lv_at hl 4 rfl) dL_law_877 dL_law_878 dL_law_880 dL_law_881 dL_law_882 ?_
  refine lv_aload_n hx hb dL_law_883 rfl (lv_at hl 3 rfl) ?_
  refine lw_call1 C hM hCN (vx_cwSW 4 hts gL_law_L_set rfl rfl rfl (by decide +kernel) ⟨Nat.le_of_ble_eq_true rfl, Nat.le_of_ble_eq_true rfl⟩) rfl hl.1 rfl dL_law_884 hf (fun H locs hM => ?_)
  refine W.widen (k := cells + 1) (n := slots + 6) (Nat.le_refl _) (Nat.le_refl _) ?_
  refine lv_istore (lv' := [(5, .int k), (0, .ref bs), (1, .ref o9), (2, .ref q), (3, .ref oa), (4, .int (nI i))]) hx hb dL_law_887 hl (by decide) rfl (fun ls hl => ?_)
  refine lv_aload_n hx hb dL_law_889 rfl (lv_at hl 3 rfl) ?_
  refine lg_arg (j := 1) C hM (by decide) (by omega) (lv_at hl 1 rfl) (lv_at hl 5 rfl) dL_law_890 dL_law_891 dL_law_893 dL_law_894 dL_law_895 ?_
  refine lg_arg (j := 2) C hM (by decide) (by omega) (lv_at hl 1 rfl) (lv_at hl 5 rfl) dL_law_896 dL_law_897 dL_law_899 dL_law_900 dL_law_901 ?_
  refine lw_call2 (CN := RX7) (ci := 7) (rest := []) (As := [.int (xs (i + 1)), .int (xs (i + 2))]) C hM hCR List.mem_cons_self rfl rfl (cwV 2 hts gL_law_X7_set rfl rfl rfl (by decide +kernel) ⟨Nat.le_of_ble_eq_true rfl, Nat.le_of_ble_eq_true rfl⟩) rfl hl.1 rfl (Nat.le_of_ble_eq_true rfl) dL_law_902 hf (fun H locs hM => ?_)
  refine W.widen (k := cells + 1) (n := slots + 6) (Nat.le_refl _) (Nat.le_refl _) ?_
  refine lv_istore (lv' := [(6, .int r), (5, .int k), (0, .ref bs), (1, .ref o9), (2, .ref q), (3, .ref oa), (4, .int (nI i))]) hx hb dL_law_905 hl (by decide) rfl (fun ls hl => ?_)
  refine lw_tail C oa o9 t9 z9 d9 s9 b9 r9 mq mz sa a ta ga sg q y1 y3 y4 y5 y6 y8 y9 og' k r n' v' h' b' th' tb' u' x0' mk' mx' mh' mb' sh' sb' K' c' f4' f5' D' Q' x1' i10' i11' i12' i14' i15' hM hl.1 (lv_at hl 4 rfl) (lv_at hl 5 rfl) (lv_at hl 1 rfl) (lv_at hl 0 rfl) hog dL_law_907 dL_law_908 dL_law_911 dL_law_913 dL_law_918 dL_law_920 dL_law_923 dL_law_924 dL_law_925 dL_law_926 dL_law_928 dL_law_929 dL_law_930 dL_law_935 (by decide) hf (fun H locs hM => ?_)
  exact kk H locs _ ls ⟨og', k, n', v', h', b', th', tb', u', x0', mk', mx', mh', mb', sh', sb', K', c', f4', f5', D', Q', x1', i10', i11', i12', i14', i15', hJ', rfl⟩ hM (lv_sub hl [2, 3, 4, 5, 6] rfl)
set_option maxHeartbeats 4000000 in
set_option maxRecDepth 100000 in
theorem lw_c14 (C : lwC p l s m cd bs L xs G) (hiL : i + 5 ≤ L) (oa : Nat) (o9 : Nat) (t9 : Nat) (z9 : Nat) (d9 : Nat) (s9 : Nat) (b9 : Nat) (r9 : Nat) (mq : Nat) (mz : Nat) (sa : zBA) (a : zGA) (ta : zGA) (ga : Nat → zGA) (sg : Nat → zGA) (q : Nat) (y1 : Nat) (y3 : Nat) (y4 : Nat) (y5 : Nat) (y6 : Nat) (y8 : Nat) (y9 : Nat) (hW : lwJ G oa o9 t9 z9 d9 s9 b9 r9 mq mz sa a ta ga sg q y1 y3 y4 y5 y6 y8 y9 ws) (hM : zM G (lwA s) s H locs ws) (hl : lv_has ls 7 [(0, .ref bs), (1, .ref o9), (2, .ref q), (3, .ref oa), (4, .int (nI i))]) (hf : cells + 1 ≤ room_1.cells ∧ slots + 6 ≤ room_1.slots) (kk : ∀ (H1 : Heap) (locs1 : List Loc) (w1 : va_W) (ls1 : Array Slot), lwJ G oa o9 t9 z9 d9 s9 b9 r9 mq mz sa a ta ga sg q y1 y3 y4 y5 y6 y8 y9 w1 → zM G (lwA s) s H1 locs1 w1 → lv_has ls1 7 [(0, .ref bs), (1, .ref o9), (2, .ref q), (3, .ref oa), (4, .int (nI i))] → W p l e room_1 s m #[Value.ref bs] below meth cd H1 locs1 (cells + 1) (slots + 6) QZ (F0 m 1653 ls1 [])) : W p l e room_1 s m #[Value.ref bs] below meth cd H locs cells slots QZ (F0 m 938 ls []) := by
  have C0 := C
  obtain ⟨hx, hb, hml, hown, hts, hX, hbl, hL, hK, hE, hN, hTh, hl0⟩ := C0
  obtain ⟨og, k0, n, v, h, b, th, tb, u, x0, mk, mx, mh, mb, sh, sb, K, c, f4, f5, D, Q, x1, i10, i11, i12, i14, i15, hJ, rfl⟩ := hW
  obtain ⟨k, og', r, n', v', h', b', th', tb', u', x0', mk', mx', mh', mb', sh', sb', K', c', f4', f5', D', Q', x1', i10', i11', i12', i14', i15', hJ', hZ, hog, hCN, hCR⟩ := j_undo l G hl0 oa o9 t9 z9 d9 s9 b9 r9 mq mz sa a ta ga sg q y1 y3 y4 y5 y6 y8 y9 og k0 n v h b th tb u x0 mk mx mh mb sh sb K c f4 f5 D Q x1 i10 i11 i12 i14 i15 hJ
  refine lv_aload_n hx hb dL_law_938 rfl (lv_at hl 1 rfl) ?_
  refine lv_aload_n hx hb dL_law_939 rfl (lv_at hl 3 rfl) ?_
  refine lw_call1 C hM hCN (vx_cwSW 2 hts gL_law_L_undo rfl rfl rfl (by decide +kernel) ⟨Nat.le_of_ble_eq_true rfl, Nat.le_of_ble_eq_true rfl⟩) rfl hl.1 rfl dL_law_940 hf (fun H locs hM => ?_)
  refine W.widen (k := cells + 1) (n := slots + 6) (Nat.le_refl _) (Nat.le_refl _) ?_
  refine lv_istore (lv' := [(5, .int k), (0, .ref bs), (1, .ref o9), (2, .ref q), (3, .ref oa), (4, .int (nI i))]) hx hb dL_law_943 hl (by decide) rfl (fun ls hl => ?_)
  refine lv_aload_n hx hb dL_law_945 rfl (lv_at hl 3 rfl) ?_
  refine lw_call2 (CN := RX7) (ci := 7) (rest := []) (As := []) C hM hCR List.mem_cons_self rfl rfl (cwV 0 hts gL_law_X7_undo rfl rfl rfl (by decide +kernel) ⟨Nat.le_of_ble_eq_true rfl, Nat.le_of_ble_eq_true rfl⟩) rfl hl.1 rfl (Nat.le_of_ble_eq_true rfl) dL_law_946 hf (fun H locs hM => ?_)
  refine W.widen (k := cells + 1) (n := slots + 6) (Nat.le_refl _) (Nat.le_refl _) ?_
  refine lv_istore (lv' := [(6, .int r), (5, .int k), (0, .ref bs), (1, .ref o9), (2, .ref q), (3, .ref oa), (4, .int (nI i))]) hx hb dL_law_949 hl (by decide) rfl (fun ls hl => ?_)
  refine lw_tail C oa o9 t9 z9 d9 s9 b9 r9 mq mz sa a ta ga sg q y1 y3 y4 y5 y6 y8 y9 og' k r n' v' h' b' th' tb' u' x0' mk' mx' mh' mb' sh' sb' K' c' f4' f5' D' Q' x1' i10' i11' i12' i14' i15' hM hl.1 (lv_at hl 4 rfl) (lv_at hl 5 rfl) (lv_at hl 1 rfl) (lv_at hl 0 rfl) hog dL_law_951 dL_law_952 dL_law_955 dL_law_957 dL_law_962 dL_law_964 dL_law_967 dL_law_968 dL_law_969 dL_law_970 dL_law_972 dL_law_973 dL_law_974 dL_law_979 (by decide) hf (fun H locs hM => ?_)
  exact kk H locs _ ls ⟨og', k, n', v', h', b', th', tb', u', x0', mk', mx', mh', mb', sh', sb', K', c', f4', f5', D', Q', x1', i10', i11', i12', i14', i15', hJ', rfl⟩ hM (lv_sub hl [2, 3, 4, 5, 6] rfl)
set_option maxHeartbeats 4000000 in
set_option maxRecDepth 100000 in
theorem lw_c15 (C : lwC p l s m cd bs L xs G) (hiL : i + 5 ≤ L) (oa : Nat) (o9 : Nat) (t9 : Nat) (z9 : Nat) (d9 : Nat) (s9 : Nat) (b9 : Nat) (r9 : Nat) (mq : Nat) (mz : Nat) (sa : zBA) (a : zGA) (ta : zGA) (ga : Nat → zGA) (sg : Nat → zGA) (q : Nat) (y1 : Nat) (y3 : Nat) (y4 : Nat) (y5 : Nat) (y6 : Nat) (y8 : Nat) (y9 : Nat) (hW : lwJ G oa o9 t9 z9 d9 s9 b9 r9 mq mz sa a ta ga sg q y1 y3 y4 y5 y6 y8 y9 ws) (hM : zM G (lwA s) s H locs ws) (hl : lv_has ls 7 [(0, .ref bs), (1, .ref o9), (2, .ref q), (3, .ref oa), (4, .int (nI i))]) (hf : cells + 1 ≤ room_1.cells ∧ slots + 6 ≤ room_1.slots) (kk : ∀ (H1 : Heap) (locs1 : List Loc) (w1 : va_W) (ls1 : Array Slot), lwJ G oa o9 t9 z9 d9 s9 b9 r9 mq mz sa a ta ga sg q y1 y3 y4 y5 y6 y8 y9 w1 → zM G (lwA s) s H1 locs1 w1 → lv_has ls1 7 [(0, .ref bs), (1, .ref o9), (2, .ref q), (3, .ref oa), (4, .int (nI i))] → W p l e room_1 s m #[Value.ref bs] below meth cd H1 locs1 (cells + 1) (slots + 6) QZ (F0 m 1653 ls1 [])) : W p l e room_1 s m #[Value.ref bs] below meth cd H locs cells slots QZ (F0 m 982 ls []) := by
  have C0 := C
  obtain ⟨hx, hb, hml, hown, hts, hX, hbl, hL, hK, hE, hN, hTh, hl0⟩ := C0
  obtain ⟨og, k0, n, v, h, b, th, tb, u, x0, mk, mx, mh, mb, sh, sb, K, c, f4, f5, D, Q, x1, i10, i11, i12, i14, i15, hJ, rfl⟩ := hW
  obtain ⟨k, og', r, n', v', h', b', th', tb', u', x0', mk', mx', mh', mb', sh', sb', K', c', f4', f5', D', Q', x1', i10', i11', i12', i14', i15', hJ', hZ, hog, hCN, hCR⟩ := j_canShift l G hl0 oa o9 t9 z9 d9 s9 b9 r9 mq mz sa a ta ga sg q y1 y3 y4 y5 y6 y8 y9 og k0 n v h b th tb u x0 mk mx mh mb sh sb K c f4 f5 D Q x1 i10 i11 i12 i14 i15 hJ (xs (i + 1)) (xs (i + 2)) (xs (i + 3))
  refine lv_aload_n hx hb dL_law_982 rfl (lv_at hl 1 rfl) ?_
  refine lg_arg (j := 1) C hM (by decide) (by omega) (lv_at hl 0 rfl) (lv_at hl 4 rfl) dL_law_983 dL_law_984 dL_law_986 dL_law_987 dL_law_988 ?_
  refine lg_arg (j := 2) C hM (by decide) (by omega) (lv_at hl 0 rfl) (lv_at hl 4 rfl) dL_law_989 dL_law_990 dL_law_992 dL_law_993 dL_law_994 ?_
  refine lg_arg (j := 3) C hM (by decide) (by omega) (lv_at hl 0 rfl) (lv_at hl 4 rfl) dL_law_995 dL_law_996 dL_law_998 dL_law_999 dL_law_1000 ?_
  refine lv_aload_n hx hb dL_law_1001 rfl (lv_at hl 3 rfl) ?_
  refine lw_call1 C hM hCN (vx_cwSW 5 hts gL_law_L_canShift rfl rfl rfl (by decide +kernel) ⟨Nat.le_of_ble_eq_true rfl, Nat.le_of_ble_eq_true rfl⟩) rfl hl.1 rfl dL_law_1002 hf (fun H locs hM => ?_)
  refine W.widen (k := cells + 1) (n := slots + 6) (Nat.le_refl _) (Nat.le_refl _) ?_
  refine lv_istore (lv' := [(5, .int k), (0, .ref bs), (1, .ref o9), (2, .ref q), (3, .ref oa), (4, .int (nI i))]) hx hb dL_law_1005 hl (by decide) rfl (fun ls hl => ?_)
  refine lv_aload_n hx hb dL_law_1007 rfl (lv_at hl 3 rfl) ?_
  refine lg_arg (j := 1) C hM (by decide) (by omega) (lv_at hl 1 rfl) (lv_at hl 5 rfl) dL_law_1008 dL_law_1009 dL_law_1011 dL_law_1012 dL_law_1013 ?_
  refine lg_arg (j := 2) C hM (by decide) (by omega) (lv_at hl 1 rfl) (lv_at hl 5 rfl) dL_law_1014 dL_law_1015 dL_law_1017 dL_law_1018 dL_law_1019 ?_
  refine lg_arg (j := 3) C hM (by decide) (by omega) (lv_at hl 1 rfl) (lv_at hl 5 rfl) dL_law_1020 dL_law_1021 dL_law_1023 dL_law_1024 dL_law_1025 ?_
  refine lw_call2 (CN := RX7) (ci := 7) (rest := []) (As := [.int (xs (i + 1)), .int (xs (i + 2)), .int (xs (i + 3))]) C hM hCR List.mem_cons_self rfl rfl (cwV 3 hts gL_law_X7_canShift rfl rfl rfl (by decide +kernel) ⟨Nat.le_of_ble_eq_true rfl, Nat.le_of_ble_eq_true rfl⟩) rfl hl.1 rfl (Nat.le_of_ble_eq_true rfl) dL_law_1026 hf (fun H locs hM => ?_)
  refine W.widen (k := cells + 1) (n := slots + 6) (Nat.le_refl _) (Nat.le_refl _) ?_
  refine lv_istore (lv' := [(6, .int r), (5, .int k), (0, .ref bs), (1, .ref o9), (2, .ref q), (3, .ref oa), (4, .int (nI i))]) hx hb dL_law_1029 hl (by decide) rfl (fun ls hl => ?_)
  refine lw_tailZ C oa o9 t9 z9 d9 s9 b9 r9 mq mz sa a ta ga sg q y1 y3 y4 y5 y6 y8 y9 og' k r n' v' h' b' th' tb' u' x0' mk' mx' mh' mb' sh' sb' K' c' f4' f5' D' Q' x1' i10' i11' i12' i14' i15' hM hl.1 (lv_at hl 4 rfl) (lv_at hl 5 rfl) (lv_at hl 1 rfl) (lv_at hl 0 rfl) hog hZ dL_law_1031 dL_law_1032 dL_law_1035 dL_law_1037 dL_law_1042 dL_law_1044 dL_law_1047 dL_law_1048 dL_law_1049 dL_law_1050 dL_law_1052 dL_law_1055 dL_law_1056 dL_law_1059 dL_law_1060 dL_law_1061 dL_law_1066 (by decide) hf (fun H locs hM => ?_)
  exact kk H locs _ ls ⟨og', k, n', v', h', b', th', tb', u', x0', mk', mx', mh', mb', sh', sb', K', c', f4', f5', D', Q', x1', i10', i11', i12', i14', i15', hJ', rfl⟩ hM (lv_sub hl [2, 3, 4, 5, 6] rfl)
end LWK
