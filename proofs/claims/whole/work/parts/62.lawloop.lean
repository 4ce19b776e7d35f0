section LWL
variable {p : Program} {l : Launch} {e : Env} {s : State} {m : MethodId} {below : List Frame} {meth : Method} {cd : Code} {bs L : Nat} {xs : Nat → Int32} {G : zC}
set_option maxHeartbeats 4000000 in
set_option maxRecDepth 100000 in
/-- THE LAW'S LOOP -/
theorem lw_loop (C : lwC p l s m cd bs L xs G) (hr : meth.sig.returnType = ret) (hlocks : meth.locks = false) (oa : Nat) (o9 : Nat) (t9 : Nat) (z9 : Nat) (d9 : Nat) (s9 : Nat) (b9 : Nat) (r9 : Nat) (mq : Nat) (mz : Nat) (sa : zBA) (a : zGA) (ta : zGA) (ga : Nat → zGA) (sg : Nat → zGA) (q : Nat) (y1 : Nat) (y3 : Nat) (y4 : Nat) (y5 : Nat) (y6 : Nat) (y8 : Nat) (y9 : Nat) : ∀ (n i : Nat), i ≤ L → L + 1 ≤ i + n → ∀ (H : Heap) (locs : List Loc) (ws : va_W) (ls : Array Slot), lwJ G oa o9 t9 z9 d9 s9 b9 r9 mq mz sa a ta ga sg q y1 y3 y4 y5 y6 y8 y9 ws → zM G (lwA s) s H locs ws → lv_has ls 7 [(0, .ref bs), (1, .ref o9), (2, .ref q), (3, .ref oa), (4, .int (nI i))] → W p l e room_1 s m #[Value.ref bs] below meth cd H locs (400 + i) (6000 + 6 * i) (lw_Z below #[Value.ref bs] s) (F0 m 23 ls []) := by
  have C0 := C
  obtain ⟨hx, hb, hml, hown, hts, hX, hbl, hL, hK, hE, hN, hTh, hl0⟩ := C0
  have hbA : ¬ lwA s bs := Nat.not_le.mpr hbl
  intro n
  induction n with
  | zero =>
    intro i h1 h2
    exact absurd h2 (by omega)
  | succ n ih =>
    intro i hi hin H locs ws ls hW hM hl
    refine lv_iload hx hb dL_law_23 (lv_at hl 4 rfl) ?_
    refine lv_aload_n hx hb dL_law_25 rfl (lv_at hl 0 rfl) ?_
    refine va_slen hx hb hX hbl hbA hM.2.2 dL_law_26 ?_
    refine lv_iconst (v := nI 5) hx hb dL_law_27 (by decide) ?_
    refine lv_isub hx hb dL_law_28 ?_
    refine lv_icmp_gt (tgt := 1659) hx hb dL_law_29 (by decide) (fun c1 => ?_) (fun c1 => ?_)
    · refine lv_iconst (v := 1) hx hb dL_law_1659 (by decide) ?_
      refine va_forget (fun q hq => hM.2.2.2.2 q hq) ?_
      refine W.widen (k := 601024) (n := 7293033) (by omega) (by omega) ?_
      exact lw_ret hx hb hr hlocks dL_law_1660
    · have hiL : i + 5 ≤ L := by
        refine Nat.not_lt.mp (fun z => c1 ?_)
        rw [Int32.lt_iff_toInt_lt, show (Int32.ofNat L) = nI L from rfl, pk_sub_toInt (by omega) (by omega), nI_toInt (by omega)]
        omega
      refine lv_aload_n hx hb dL_law_32 rfl (lv_at hl 0 rfl) ?_
      refine lv_iload hx hb dL_law_33 (lv_at hl 4 rfl) ?_
      refine va_sld hx hb hX hbl hbA hM.2.2 (vp_in_nI (N := L) (by omega) (by omega)) dL_law_35 ?_
      rw [nI_clamp (by omega)]
      refine lv_bipush (v := 31) hx hb dL_law_36 (by decide) ?_
      refine lv_iand hx hb dL_law_38 ?_
      obtain ⟨j, hj32, ej⟩ := pk_andE (xs i) (m := 31) 5 (by decide)
      have hj32 : j < 32 := hj32
      rw [ej]
      have kk : ∀ (H1 : Heap) (locs1 : List Loc) (w1 : va_W) (ls1 : Array Slot), lwJ G oa o9 t9 z9 d9 s9 b9 r9 mq mz sa a ta ga sg q y1 y3 y4 y5 y6 y8 y9 w1 → zM G (lwA s) s H1 locs1 w1 → lv_has ls1 7 [(0, .ref bs), (1, .ref o9), (2, .ref q), (3, .ref oa), (4, .int (nI i))] → W p l e room_1 s m #[Value.ref bs] below meth cd H1 locs1 (400 + i + 1) (6000 + 6 * i + 6) (lw_Z below #[Value.ref bs] s) (F0 m 1653 ls1 []) := by
        intro H1 locs1 w1 ls1 hW1 hM1 hl1
        refine lv_iinc (v := nI (i + 5)) (lv' := [(4, .int (nI (i + 5))), (0, .ref bs), (1, .ref o9), (2, .ref q), (3, .ref oa)]) hx hb dL_law_1653 hl1 (k := 4) rfl (by rw [show Int32.ofInt 5 = nI 5 by decide]; exact nI_add i 5) (by decide) rfl (fun ls2 hl2 => ?_)
        refine lv_goto (tgt := 23) hx hb dL_law_1656 (by decide) ?_
        refine W.widen (k := 400 + (i + 5)) (n := 6000 + 6 * (i + 5)) (by omega) (by omega) ?_
        exact ih (i + 5) hiL (by omega) H1 locs1 w1 ls2 hW1 hM1 (lv_sub hl2 [1, 2, 3, 4, 0] rfl)
      have hf : 400 + i + 1 ≤ room_1.cells ∧ 6000 + 6 * i + 6 ≤ room_1.slots := ⟨by show 400 + i + 1 ≤ 601024; omega, by show 6000 + 6 * i + 6 ≤ 7293033; omega⟩
      have hj9 : j = 0 ∨ j = 1 ∨ j = 2 ∨ j = 3 ∨ j = 4 ∨ j = 5 ∨ j = 6 ∨ j = 7 ∨ j = 8 ∨ j = 9 ∨ j = 10 ∨ j = 11 ∨ j = 12 ∨ j = 13 ∨ j = 14 ∨ j = 15 ∨ j = 16 ∨ j = 17 ∨ j = 18 ∨ j = 19 ∨ j = 20 ∨ j = 21 ∨ j = 22 ∨ j = 23 ∨ 24 ≤ j := by omega
      rcases hj9 with rfl | rfl | rfl | rfl | rfl | rfl | rfl | rfl | rfl | rfl | rfl | rfl | rfl | rfl | rfl | rfl | rfl | rfl | rfl | rfl | rfl | rfl | rfl | rfl | hj9
      · refine lv_tableIn (off := 109) (tgt := 148) hx hb dL_law_39 (by rw [nI_toInt (by decide)]; decide) (by rw [nI_toInt (by decide)]; decide) (by rw [nI_toInt (by decide)]; rfl) (by decide) ?_
        exact lw_c0 C hiL oa o9 t9 z9 d9 s9 b9 r9 mq mz sa a ta ga sg q y1 y3 y4 y5 y6 y8 y9 hW hM hl hf kk
      · refine lv_tableIn (off := 165) (tgt := 204) hx hb dL_law_39 (by rw [nI_toInt (by decide)]; decide) (by rw [nI_toInt (by decide)]; decide) (by rw [nI_toInt (by decide)]; rfl) (by decide) ?_
        exact lw_c1 C hiL oa o9 t9 z9 d9 s9 b9 r9 mq mz sa a ta ga sg q y1 y3 y4 y5 y6 y8 y9 hW hM hl hf kk
      · refine lv_tableIn (off := 178) (tgt := 217) hx hb dL_law_39 (by rw [nI_toInt (by decide)]; decide) (by rw [nI_toInt (by decide)]; decide) (by rw [nI_toInt (by decide)]; rfl) (by decide) ?_
        exact lw_c2 C hiL oa o9 t9 z9 d9 s9 b9 r9 mq mz sa a ta ga sg q y1 y3 y4 y5 y6 y8 y9 hW hM hl hf kk
      · refine lv_tableIn (off := 191) (tgt := 230) hx hb dL_law_39 (by rw [nI_toInt (by decide)]; decide) (by rw [nI_toInt (by decide)]; decide) (by rw [nI_toInt (by decide)]; rfl) (by decide) ?_
        exact lw_c3 C hiL oa o9 t9 z9 d9 s9 b9 r9 mq mz sa a ta ga sg q y1 y3 y4 y5 y6 y8 y9 hW hM hl hf kk
      · refine lv_tableIn (off := 235) (tgt := 274) hx hb dL_law_39 (by rw [nI_toInt (by decide)]; decide) (by rw [nI_toInt (by decide)]; decide) (by rw [nI_toInt (by decide)]; rfl) (by decide) ?_
        exact lw_c4 C hiL oa o9 t9 z9 d9 s9 b9 r9 mq mz sa a ta ga sg q y1 y3 y4 y5 y6 y8 y9 hW hM hl hf kk
      · refine lv_tableIn (off := 291) (tgt := 330) hx hb dL_law_39 (by rw [nI_toInt (by decide)]; decide) (by rw [nI_toInt (by decide)]; decide) (by rw [nI_toInt (by decide)]; rfl) (by decide) ?_
        exact lw_c5 C hiL oa o9 t9 z9 d9 s9 b9 r9 mq mz sa a ta ga sg q y1 y3 y4 y5 y6 y8 y9 hW hM hl hf kk
      · refine lv_tableIn (off := 371) (tgt := 410) hx hb dL_law_39 (by rw [nI_toInt (by decide)]; decide) (by rw [nI_toInt (by decide)]; decide) (by rw [nI_toInt (by decide)]; rfl) (by decide) ?_
        exact lw_c6 C hiL oa o9 t9 z9 d9 s9 b9 r9 mq mz sa a ta ga sg q y1 y3 y4 y5 y6 y8 y9 hW hM hl hf kk
      · refine lv_tableIn (off := 439) (tgt := 478) hx hb dL_law_39 (by rw [nI_toInt (by decide)]; decide) (by rw [nI_toInt (by decide)]; decide) (by rw [nI_toInt (by decide)]; rfl) (by decide) ?_
        exact lw_c7 C hiL oa o9 t9 z9 d9 s9 b9 r9 mq mz sa a ta ga sg q y1 y3 y4 y5 y6 y8 y9 hW hM hl hf kk
      · refine lv_tableIn (off := 495) (tgt := 534) hx hb dL_law_39 (by rw [nI_toInt (by decide)]; decide) (by rw [nI_toInt (by decide)]; decide) (by rw [nI_toInt (by decide)]; rfl) (by decide) ?_
        exact lw_c8 C hiL oa o9 t9 z9 d9 s9 b9 r9 mq mz sa a ta ga sg q y1 y3 y4 y5 y6 y8 y9 hW hM hl hf kk
      · refine lv_tableIn (off := 595) (tgt := 634) hx hb dL_law_39 (by rw [nI_toInt (by decide)]; decide) (by rw [nI_toInt (by decide)]; decide) (by rw [nI_toInt (by decide)]; rfl) (by decide) ?_
        exact lw_c9 C hiL oa o9 t9 z9 d9 s9 b9 r9 mq mz sa a ta ga sg q y1 y3 y4 y5 y6 y8 y9 hW hM hl hf kk
      · refine lv_tableIn (off := 675) (tgt := 714) hx hb dL_law_39 (by rw [nI_toInt (by decide)]; decide) (by rw [nI_toInt (by decide)]; decide) (by rw [nI_toInt (by decide)]; rfl) (by decide) ?_
        exact lw_c10 C hiL oa o9 t9 z9 d9 s9 b9 r9 mq mz sa a ta ga sg q y1 y3 y4 y5 y6 y8 y9 hW hM hl hf kk
      · refine lv_tableIn (off := 731) (tgt := 770) hx hb dL_law_39 (by rw [nI_toInt (by decide)]; decide) (by rw [nI_toInt (by decide)]; decide) (by rw [nI_toInt (by decide)]; rfl) (by decide) ?_
        exact lw_c11 C hiL oa o9 t9 z9 d9 s9 b9 r9 mq mz sa a ta ga sg q y1 y3 y4 y5 y6 y8 y9 hW hM hl hf kk
      · refine lv_tableIn (off := 787) (tgt := 826) hx hb dL_law_39 (by rw [nI_toInt (by decide)]; decide) (by rw [nI_toInt (by decide)]; decide) (by rw [nI_toInt (by decide)]; rfl) (by decide) ?_
        exact lw_c12 C hiL oa o9 t9 z9 d9 s9 b9 r9 mq mz sa a ta ga sg q y1 y3 y4 y5 y6 y8 y9 hW hM hl hf kk
      · refine lv_tableIn (off := 831) (tgt := 870) hx hb dL_law_39 (by rw [nI_toInt (by decide)]; decide) (by rw [nI_toInt (by decide)]; decide) (by rw [nI_toInt (by decide)]; rfl) (by decide) ?_
        exact lw_c13 C hiL oa o9 t9 z9 d9 s9 b9 r9 mq mz sa a ta ga sg q y1 y3 y4 y5 y6 y8 y9 hW hM hl hf kk
      · refine lv_tableIn (off := 899) (tgt := 938) hx hb dL_law_39 (by rw [nI_toInt (by decide)]; decide) (by rw [nI_toInt (by decide)]; decide) (by rw [nI_toInt (by decide)]; rfl) (by decide) ?_
        exact lw_c14 C hiL oa o9 t9 z9 d9 s9 b9 r9 mq mz sa a ta ga sg q y1 y3 y4 y5 y6 y8 y9 hW hM hl hf kk
      · refine lv_tableIn (off := 943) (tgt := 982) hx hb dL_law_39 (by rw [nI_toInt (by decide)]; decide) (by rw [nI_toInt (by decide)]; decide) (by rw [nI_toInt (by decide)]; rfl) (by decide) ?_
        exact lw_c15 C hiL oa o9 t9 z9 d9 s9 b9 r9 mq mz sa a ta ga sg q y1 y3 y4 y5 y6 y8 y9 hW hM hl hf kk
      · refine lv_tableIn (off := 1030) (tgt := 1069) hx hb dL_law_39 (by rw [nI_toInt (by decide)]; decide) (by rw [nI_toInt (by decide)]; decide) (by rw [nI_toInt (by decide)]; rfl) (by decide) ?_
        exact lw_c16 C hiL oa o9 t9 z9 d9 s9 b9 r9 mq mz sa a ta ga sg q y1 y3 y4 y5 y6 y8 y9 hW hM hl hf kk
      · refine lv_tableIn (off := 1122) (tgt := 1161) hx hb dL_law_39 (by rw [nI_toInt (by decide)]; decide) (by rw [nI_toInt (by decide)]; decide) (by rw [nI_toInt (by decide)]; rfl) (by decide) ?_
        exact lw_c17 C hiL oa o9 t9 z9 d9 s9 b9 r9 mq mz sa a ta ga sg q y1 y3 y4 y5 y6 y8 y9 hW hM hl hf kk
      · refine lv_tableIn (off := 1178) (tgt := 1217) hx hb dL_law_39 (by rw [nI_toInt (by decide)]; decide) (by rw [nI_toInt (by decide)]; decide) (by rw [nI_toInt (by decide)]; rfl) (by decide) ?_
        exact lw_c18 C hiL oa o9 t9 z9 d9 s9 b9 r9 mq mz sa a ta ga sg q y1 y3 y4 y5 y6 y8 y9 hW hM hl hf kk
      · refine lv_tableIn (off := 1246) (tgt := 1285) hx hb dL_law_39 (by rw [nI_toInt (by decide)]; decide) (by rw [nI_toInt (by decide)]; decide) (by rw [nI_toInt (by decide)]; rfl) (by decide) ?_
        exact lw_c19 C hiL oa o9 t9 z9 d9 s9 b9 r9 mq mz sa a ta ga sg q y1 y3 y4 y5 y6 y8 y9 hW hM hl hf kk
      · refine lv_tableIn (off := 1302) (tgt := 1341) hx hb dL_law_39 (by rw [nI_toInt (by decide)]; decide) (by rw [nI_toInt (by decide)]; decide) (by rw [nI_toInt (by decide)]; rfl) (by decide) ?_
        exact lw_c20 C hiL oa o9 t9 z9 d9 s9 b9 r9 mq mz sa a ta ga sg q y1 y3 y4 y5 y6 y8 y9 hW hM hl hf kk
      · refine lv_tableIn (off := 1402) (tgt := 1441) hx hb dL_law_39 (by rw [nI_toInt (by decide)]; decide) (by rw [nI_toInt (by decide)]; decide) (by rw [nI_toInt (by decide)]; rfl) (by decide) ?_
        exact lw_c21 C hiL oa o9 t9 z9 d9 s9 b9 r9 mq mz sa a ta ga sg q y1 y3 y4 y5 y6 y8 y9 hW hM hl hf kk
      · refine lv_tableIn (off := 1502) (tgt := 1541) hx hb dL_law_39 (by rw [nI_toInt (by decide)]; decide) (by rw [nI_toInt (by decide)]; decide) (by rw [nI_toInt (by decide)]; rfl) (by decide) ?_
        exact lw_c22 C hiL oa o9 t9 z9 d9 s9 b9 r9 mq mz sa a ta ga sg q y1 y3 y4 y5 y6 y8 y9 hW hM hl hf kk
      · refine lv_tableIn (off := 1558) (tgt := 1597) hx hb dL_law_39 (by rw [nI_toInt (by decide)]; decide) (by rw [nI_toInt (by decide)]; decide) (by rw [nI_toInt (by decide)]; rfl) (by decide) ?_
        exact lw_c23 C hiL oa o9 t9 z9 d9 s9 b9 r9 mq mz sa a ta ga sg q y1 y3 y4 y5 y6 y8 y9 hW hM hl hf kk
      · refine lv_tableOut (tgt := 1653) hx hb dL_law_39 (Or.inr (by rw [nI_toInt (by omega)]; omega)) (by decide) ?_
        exact W.widen (k := 400 + i + 1) (n := 6000 + 6 * i + 6) (by omega) (by omega) (kk H locs ws ls hW hM hl)
end LWL
