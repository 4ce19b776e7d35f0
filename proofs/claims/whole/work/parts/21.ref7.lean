/-! REFERENCE, fifth part: its small methods -/
def zPos (w : Int32) : Bool := !decide (w ≤ 0)
def zDg (v : Nat → Int32) (n j : Nat) : Int32 := if j < n then v j - 48 else -1
set_option maxHeartbeats 4000000 in
set_option maxRecDepth 100000 in
theorem c_thrown (l : Launch) (G : zC) (q : Nat) (v1 v2 v3 v4 v5 v6 v7 v8 v9 v10 v11 v12 v13 v14 v15 : Value) (w : Int32) : zMet l G yX7_thrown wsX7_thrown rmX7_thrown [.ref q] ([(q, .inr (7, [.int w, v1, v2, v3, v4, v5, v6, v7, v8, v9, v10, v11, v12, v13, v14, v15]))]) (some (.int w)) ([(q, .inr (7, [.int w, v1, v2, v3, v4, v5, v6, v7, v8, v9, v10, v11, v12, v13, v14, v15]))]) := by
  refine zMet_of (cc := cX7_thrown) (maxL := 1) (ret := (some .int)) (by decide) rfl (Nat.le_of_ble_eq_true rfl) ?_
  intro p e s m below meth c A ls hx hb hr hml hown hts hK hA hE hlocks hin hM hl
  have hown : s.vm.findClass RX7 = some m.cls := hown
  have hM : zM G A s s.heap [] ([(q, .inr (7, [.int w, v1, v2, v3, v4, v5, v6, v7, v8, v9, v10, v11, v12, v13, v14, v15]))]) := hM
  have hl : lv_has ls 1 [(0, .ref q)] := hl
  refine lv_aload_n hx hb dX7_thrown_0 rfl (lv_at hl 0 rfl) ?_
  refine z_get (ci := 7) (v := .int w) (C := RX7) (T := TX7) (N := 16) hx hb hts (by decide +kernel) hown hK hM 0 rfl rfl 0 (by decide) (hts (.fieldLink RX7 36 "ShiftIslesModel" "refusal" "I") (by decide +kernel)) (fun _ h9 => h9) rfl dX7_thrown_1 ?_
  exact z_iret hx hb hr hlocks dX7_thrown_4 hM (Nat.le_of_ble_eq_true rfl) (Nat.le_of_ble_eq_true rfl) rfl

set_option maxHeartbeats 4000000 in
set_option maxRecDepth 100000 in
theorem c_refused (l : Launch) (G : zC) (q : Nat) (v0 v1 v2 v3 v4 v5 v6 v7 v8 v9 v10 v11 v12 v13 v14 v15 : Value) (w : Int32) : zMet l G yX7_refused wsX7_refused rmX7_refused [.ref q, .int w] ([(q, .inr (7, [v0, v1, v2, v3, v4, v5, v6, v7, v8, v9, v10, v11, v12, v13, v14, v15]))]) (some (.int (zb (zPos w)))) ([(q, .inr (7, [.int w, v1, v2, v3, v4, v5, v6, v7, v8, v9, v10, v11, v12, v13, v14, v15]))]) := by
  refine zMet_of (cc := cX7_refused) (maxL := 2) (ret := (some .boolean)) (by decide) rfl (Nat.le_of_ble_eq_true rfl) ?_
  intro p e s m below meth c A ls hx hb hr hml hown hts hK hA hE hlocks hin hM hl
  have hown : s.vm.findClass RX7 = some m.cls := hown
  have hM : zM G A s s.heap [] ([(q, .inr (7, [v0, v1, v2, v3, v4, v5, v6, v7, v8, v9, v10, v11, v12, v13, v14, v15]))]) := hM
  have hl : lv_has ls 2 [(0, .ref q), (1, .int w)] := hl
  refine lv_aload_n hx hb dX7_refused_0 rfl (lv_at hl 0 rfl) ?_
  refine lv_iload_n hx hb dX7_refused_1 rfl (lv_at hl 1 rfl) ?_
  refine z_put (ci := 7) (ty := .int) (v := .int w) (C := RX7) (T := TX7) (N := 16) (ws' := [(q, .inr (7, [.int w, v1, v2, v3, v4, v5, v6, v7, v8, v9, v10, v11, v12, v13, v14, v15]))]) hx hb hts (by decide +kernel) tyX7 tyX7_ok nmX7 hown hK hM 0 rfl rfl 0 (by decide) (hts (.fieldLink RX7 36 "ShiftIslesModel" "refusal" "I") (by decide +kernel)) (fun _ h9 => h9) rfl (by decide +kernel) rfl rfl (Nat.le_of_ble_eq_true rfl) dX7_refused_2 rfl (fun H locs hM => ?_)
  refine lv_iload_n hx hb dX7_refused_5 rfl (lv_at hl 1 rfl) ?_
  refine lv_if_le (tgt := 13) hx hb dX7_refused_6 (by decide) (fun c_1 => ?_) (fun c_1 => ?_)
  · skip
    refine lv_iconst (v := 0) hx hb dX7_refused_13 (by decide) ?_
    exact z_zret hx hb hr hlocks dX7_refused_14 hM (Nat.le_of_ble_eq_true rfl) (Nat.le_of_ble_eq_true rfl) (by first | exact Or.inl rfl | exact Or.inr rfl | exact zb_01 _) (by rw [zPos, decide_eq_true c_1]; rfl)
  · skip
    refine lv_iconst (v := 1) hx hb dX7_refused_9 (by decide) ?_
    refine lv_goto (tgt := 14) hx hb dX7_refused_10 (by decide) ?_
    exact z_zret hx hb hr hlocks dX7_refused_14 hM (Nat.le_of_ble_eq_true rfl) (Nat.le_of_ble_eq_true rfl) (by first | exact Or.inl rfl | exact Or.inr rfl | exact zb_01 _) (by rw [zPos, decide_eq_false c_1]; rfl)

set_option maxHeartbeats 4000000 in
set_option maxRecDepth 100000 in
theorem c_drawn (l : Launch) (G : zC) (q : Nat) (v0 v1 v2 v3 v4 v5 v6 v7 v8 v9 v10 v11 v12 v14 v15 : Value) (x : Int64) (n : Nat) (h0 : 0 < n) (hn : n < 100) : zMet l G yX7_drawn wsX7_drawn rmX7_drawn [.ref q, .int (nI n)] ([(q, .inr (7, [v0, v1, v2, v3, v4, v5, v6, v7, v8, v9, v10, v11, v12, .long x, v14, v15]))]) (some (.int (nI (zRk x % n)))) ([(q, .inr (7, [v0, v1, v2, v3, v4, v5, v6, v7, v8, v9, v10, v11, v12, .long (zNx x), v14, v15]))]) := by
  refine zMet_of (cc := cX7_drawn) (maxL := 2) (ret := (some .int)) (by decide) rfl (Nat.le_of_ble_eq_true rfl) ?_
  intro p e s m below meth c A ls hx hb hr hml hown hts hK hA hE hlocks hin hM hl
  have hown : s.vm.findClass RX7 = some m.cls := hown
  have hM : zM G A s s.heap [] ([(q, .inr (7, [v0, v1, v2, v3, v4, v5, v6, v7, v8, v9, v10, v11, v12, .long x, v14, v15]))]) := hM
  have hl : lv_has ls 2 [(0, .ref q), (1, .int (nI n))] := hl
  refine lv_aload_n hx hb dX7_drawn_0 rfl (lv_at hl 0 rfl) ?_
  refine lv_aload_n hx hb dX7_drawn_1 rfl (lv_at hl 0 rfl) ?_
  refine z_get (ci := 7) (v := .long x) (C := RX7) (T := TX7) (N := 16) hx hb hts (by decide +kernel) hown hK hM 0 rfl rfl 13 (by decide) (hts (.fieldLink RX7 48 "ShiftIslesModel" "x" "J") (by decide +kernel)) (fun _ h9 => h9) rfl dX7_drawn_2 ?_
  refine lv_ldc2 (v := 6364136223846793005) hx hb hown (hts (.constantLong RX7 52 6364136223846793005) (by decide +kernel)) dX7_drawn_5 ?_
  refine lv_lmul hx hb dX7_drawn_8 ?_
  refine lv_ldc2 (v := 1442695040888963407) hx hb hown (hts (.constantLong RX7 54 1442695040888963407) (by decide +kernel)) dX7_drawn_9 ?_
  refine lv_ladd hx hb dX7_drawn_12 ?_
  refine z_put (ci := 7) (ty := .long) (v := .long ((x * 6364136223846793005) + 1442695040888963407)) (C := RX7) (T := TX7) (N := 16) (ws' := [(q, .inr (7, [v0, v1, v2, v3, v4, v5, v6, v7, v8, v9, v10, v11, v12, .long ((x * 6364136223846793005) + 1442695040888963407), v14, v15]))]) hx hb hts (by decide +kernel) tyX7 tyX7_ok nmX7 hown hK hM 0 rfl rfl 13 (by decide) (hts (.fieldLink RX7 48 "ShiftIslesModel" "x" "J") (by decide +kernel)) (fun _ h9 => h9) rfl (by decide +kernel) rfl rfl (Nat.le_of_ble_eq_true rfl) dX7_drawn_13 rfl (fun H locs hM => ?_)
  refine lv_aload_n hx hb dX7_drawn_16 rfl (lv_at hl 0 rfl) ?_
  refine z_get (ci := 7) (v := .long ((x * 6364136223846793005) + 1442695040888963407)) (C := RX7) (T := TX7) (N := 16) hx hb hts (by decide +kernel) hown hK hM 0 rfl rfl 13 (by decide) (hts (.fieldLink RX7 48 "ShiftIslesModel" "x" "J") (by decide +kernel)) (fun _ h9 => h9) rfl dX7_drawn_17 ?_
  refine lv_bipush (v := (33 : Int32)) hx hb dX7_drawn_20 (by decide) ?_
  refine lv_lushr (v := (((x * 6364136223846793005) + 1442695040888963407).toUInt64 >>> ((33 : Int32).toInt64.toUInt64 &&& Int64.toUInt64 63)).toInt64) hx hb dX7_drawn_22 rfl ?_
  refine lv_l2i (v := ((((x * 6364136223846793005) + 1442695040888963407).toUInt64 >>> ((33 : Int32).toInt64.toUInt64 &&& Int64.toUInt64 63)).toInt64).toInt32) hx hb dX7_drawn_23 rfl ?_
  refine lv_iload_n hx hb dX7_drawn_24 rfl (lv_at hl 1 rfl) ?_
  refine lv_irem hx hb dX7_drawn_25 (nI_ne0 h0 (by omega)) ?_
  exact z_iret hx hb hr hlocks dX7_drawn_26 hM (Nat.le_of_ble_eq_true rfl) (Nat.le_of_ble_eq_true rfl) (by rw [← pk_rem (zRk_lt x) h0 (by omega), ← zRn_eq]; rfl)

set_option maxHeartbeats 4000000 in
set_option maxRecDepth 100000 in
theorem c_r_clearText (l : Launch) (G : zC) (q : Nat) (v0 v1 v3 v4 v5 v6 v7 v8 v9 v10 v11 v12 v13 v14 v15 : Value) (n : Nat) : zMet l G yX7_clearText wsX7_clearText rmX7_clearText [.ref q] ([(q, .inr (7, [v0, v1, .int (nI n), v3, v4, v5, v6, v7, v8, v9, v10, v11, v12, v13, v14, v15]))]) (some (.int (nI n))) ([(q, .inr (7, [.int 0, v1, .int (nI 0), v3, v4, v5, v6, v7, v8, v9, v10, v11, v12, v13, v14, v15]))]) := by
  refine zMet_of (cc := cX7_clearText) (maxL := 2) (ret := (some .int)) (by decide) rfl (Nat.le_of_ble_eq_true rfl) ?_
  intro p e s m below meth c A ls hx hb hr hml hown hts hK hA hE hlocks hin hM hl
  have hown : s.vm.findClass RX7 = some m.cls := hown
  have hM : zM G A s s.heap [] ([(q, .inr (7, [v0, v1, .int (nI n), v3, v4, v5, v6, v7, v8, v9, v10, v11, v12, v13, v14, v15]))]) := hM
  have hl : lv_has ls 2 [(0, .ref q)] := hl
  refine lv_aload_n hx hb dX7_clearText_0 rfl (lv_at hl 0 rfl) ?_
  refine lv_iconst (v := 0) hx hb dX7_clearText_1 (by decide) ?_
  refine z_put (ci := 7) (ty := .int) (v := .int 0) (C := RX7) (T := TX7) (N := 16) (ws' := [(q, .inr (7, [.int 0, v1, .int (nI n), v3, v4, v5, v6, v7, v8, v9, v10, v11, v12, v13, v14, v15]))]) hx hb hts (by decide +kernel) tyX7 tyX7_ok nmX7 hown hK hM 0 rfl rfl 0 (by decide) (hts (.fieldLink RX7 36 "ShiftIslesModel" "refusal" "I") (by decide +kernel)) (fun _ h9 => h9) rfl (by decide +kernel) rfl rfl (Nat.le_of_ble_eq_true rfl) dX7_clearText_2 rfl (fun H locs hM => ?_)
  refine lv_aload_n hx hb dX7_clearText_5 rfl (lv_at hl 0 rfl) ?_
  refine z_get (ci := 7) (v := .int (nI n)) (C := RX7) (T := TX7) (N := 16) hx hb hts (by decide +kernel) hown hK hM 0 rfl rfl 2 (by decide) (hts (.fieldLink RX7 160 "ShiftIslesModel" "size" "I") (by decide +kernel)) (fun _ h9 => h9) rfl dX7_clearText_6 ?_
  refine lv_istore_n (lv' := [(1, .int (nI n)), (0, .ref q)]) hx hb dX7_clearText_9 rfl hl (by decide) rfl (fun ls hl => ?_)
  refine lv_aload_n hx hb dX7_clearText_10 rfl (lv_at hl 1 rfl) ?_
  refine lv_iconst (v := nI 0) hx hb dX7_clearText_11 (by decide) ?_
  refine z_put (ci := 7) (ty := .int) (v := .int (nI 0)) (C := RX7) (T := TX7) (N := 16) (ws' := [(q, .inr (7, [.int 0, v1, .int (nI 0), v3, v4, v5, v6, v7, v8, v9, v10, v11, v12, v13, v14, v15]))]) hx hb hts (by decide +kernel) tyX7 tyX7_ok nmX7 hown hK hM 0 rfl rfl 2 (by decide) (hts (.fieldLink RX7 160 "ShiftIslesModel" "size" "I") (by decide +kernel)) (fun _ h9 => h9) rfl (by decide +kernel) rfl rfl (Nat.le_of_ble_eq_true rfl) dX7_clearText_12 rfl (fun H locs hM => ?_)
  refine lv_iload_n hx hb dX7_clearText_15 rfl (lv_at hl 0 rfl) ?_
  exact z_iret hx hb hr hlocks dX7_clearText_16 hM (Nat.le_of_ble_eq_true rfl) (Nat.le_of_ble_eq_true rfl) rfl

set_option maxHeartbeats 4000000 in
set_option maxRecDepth 100000 in
theorem c_rap1 (l : Launch) (G : zC) (q : Nat) (v0 v3 v4 v5 v6 v7 v8 v9 v10 v11 v12 v13 v14 v15 : Value) (z n : Nat) (v : Nat → Int32) (k : Int32) (hc : zI0 k.toInt64 0 255 = false) : zMet l G yX7_append wsX7_append rmX7_append [.ref q, .int k] ([(q, .inr (7, [v0, .ref z, .int (nI n), v3, v4, v5, v6, v7, v8, v9, v10, v11, v12, v13, v14, v15])), (z, .inl (G.2 1, 120, .inl v))]) (some (.int 0)) ([(q, .inr (7, [.int 1, .ref z, .int (nI n), v3, v4, v5, v6, v7, v8, v9, v10, v11, v12, v13, v14, v15])), (z, .inl (G.2 1, 120, .inl v))]) := by
  refine zMet_of (cc := cX7_append) (maxL := 2) (ret := (some .int)) (by decide) rfl (Nat.le_of_ble_eq_true rfl) ?_
  intro p e s m below meth c A ls hx hb hr hml hown hts hK hA hE hlocks hin hM hl
  have hown : s.vm.findClass RX7 = some m.cls := hown
  have hM : zM G A s s.heap [] ([(q, .inr (7, [v0, .ref z, .int (nI n), v3, v4, v5, v6, v7, v8, v9, v10, v11, v12, v13, v14, v15])), (z, .inl (G.2 1, 120, .inl v))]) := hM
  have hl : lv_has ls 2 [(0, .ref q), (1, .int k)] := hl
  refine lv_aload_n hx hb dX7_append_0 rfl (lv_at hl 0 rfl) ?_
  refine lv_iload_n hx hb dX7_append_1 rfl (lv_at hl 1 rfl) ?_
  refine lv_i2l (v := k.toInt64) hx hb dX7_append_2 rfl ?_
  refine lv_lconst (v := 0) hx hb dX7_append_3 (by decide) ?_
  refine lv_ldc2 (v := 255) hx hb hown (hts (.constantLong RX7 158 255) (by decide +kernel)) dX7_append_4 ?_
  refine z_callS (As := [.long k.toInt64, .long 0, .long 255]) (rest := [.ref q]) (wc := []) (wr := [(q, .inr (7, [v0, .ref z, .int (nI n), v3, v4, v5, v6, v7, v8, v9, v10, v11, v12, v13, v14, v15])), (z, .inl (G.2 1, 120, .inl v))]) (w1 := []) (ws' := [(q, .inr (7, [v0, .ref z, .int (nI n), v3, v4, v5, v6, v7, v8, v9, v10, v11, v12, v13, v14, v15])), (z, .inl (G.2 1, 120, .inl v))]) ⟨hx, hb, hml, hown, hts⟩ (c_in l G k.toInt64 0 255) (va_cwS 3 hts gX7_append_X7_in rfl rfl rfl (by decide +kernel) ⟨Nat.le_of_ble_eq_true rfl, Nat.le_of_ble_eq_true rfl⟩) rfl hl.1 rfl (Nat.le_of_ble_eq_true rfl) dX7_append_7 ⟨Nat.le_of_ble_eq_true rfl, Nat.le_of_ble_eq_true rfl⟩ hK hE hA hM (List.Perm.refl _) (List.Perm.refl _) (fun H locs hM hz => ?_)
  refine z_ifne (tgt := 17) hx hb dX7_append_10 (by decide) (fun c_1 => Bool.noConfusion (c_1.symm.trans hc)) (fun c_1 => ?_)
  refine lv_iconst (v := 1) hx hb dX7_append_13 (by decide) ?_
  refine lv_goto (tgt := 31) hx hb dX7_append_14 (by decide) ?_
  refine z_callV (As := [.int 1]) (rest := []) (wc := [(q, .inr (7, [v0, .ref z, .int (nI n), v3, v4, v5, v6, v7, v8, v9, v10, v11, v12, v13, v14, v15]))]) (wr := [(z, .inl (G.2 1, 120, .inl v))]) (w1 := [(q, .inr (7, [.int 1, .ref z, .int (nI n), v3, v4, v5, v6, v7, v8, v9, v10, v11, v12, v13, v14, v15]))]) (ws' := [(q, .inr (7, [.int 1, .ref z, .int (nI n), v3, v4, v5, v6, v7, v8, v9, v10, v11, v12, v13, v14, v15])), (z, .inl (G.2 1, 120, .inl v))]) ⟨hx, hb, hml, hown, hts⟩ (c_refused l G q v0 (.ref z) (.int (nI n)) v3 v4 v5 v6 v7 v8 v9 v10 v11 v12 v13 v14 v15 1) (cwV 1 hts gX7_append_X7_refused rfl rfl rfl (by decide +kernel) ⟨Nat.le_of_ble_eq_true rfl, Nat.le_of_ble_eq_true rfl⟩) 7 rfl rfl rfl rfl hl.1 rfl (Nat.le_of_ble_eq_true rfl) dX7_append_31 ⟨Nat.le_of_ble_eq_true rfl, Nat.le_of_ble_eq_true rfl⟩ hK hE hA hM (pm_at 2 [0] [1] rfl rfl rfl (by decide)) ((pm_at 2 [0] [1] rfl rfl rfl (by decide))).symm (fun H locs hM hz => ?_)
  refine z_ifeq (tgt := 39) hx hb dX7_append_34 (by decide) (fun c_2 => absurd c_2 (by decide)) (fun c_2 => ?_)
  refine lv_iconst (v := 0) hx hb dX7_append_37 (by decide) ?_
  exact z_iret hx hb hr hlocks dX7_append_38 hM (Nat.le_of_ble_eq_true rfl) (Nat.le_of_ble_eq_true rfl) rfl

set_option maxHeartbeats 4000000 in
set_option maxRecDepth 100000 in
theorem c_rap2 (l : Launch) (G : zC) (q : Nat) (v0 v3 v4 v5 v6 v7 v8 v9 v10 v11 v12 v13 v14 v15 : Value) (z n : Nat) (v : Nat → Int32) (k : Int32) (hc : zI0 k.toInt64 0 255 = true) (hn : n = 120) : zMet l G yX7_append wsX7_append rmX7_append [.ref q, .int k] ([(q, .inr (7, [v0, .ref z, .int (nI n), v3, v4, v5, v6, v7, v8, v9, v10, v11, v12, v13, v14, v15])), (z, .inl (G.2 1, 120, .inl v))]) (some (.int 0)) ([(q, .inr (7, [.int 2, .ref z, .int (nI n), v3, v4, v5, v6, v7, v8, v9, v10, v11, v12, v13, v14, v15])), (z, .inl (G.2 1, 120, .inl v))]) := by
  refine zMet_of (cc := cX7_append) (maxL := 2) (ret := (some .int)) (by decide) rfl (Nat.le_of_ble_eq_true rfl) ?_
  intro p e s m below meth c A ls hx hb hr hml hown hts hK hA hE hlocks hin hM hl
  have hown : s.vm.findClass RX7 = some m.cls := hown
  have hM : zM G A s s.heap [] ([(q, .inr (7, [v0, .ref z, .int (nI n), v3, v4, v5, v6, v7, v8, v9, v10, v11, v12, v13, v14, v15])), (z, .inl (G.2 1, 120, .inl v))]) := hM
  have hl : lv_has ls 2 [(0, .ref q), (1, .int k)] := hl
  refine lv_aload_n hx hb dX7_append_0 rfl (lv_at hl 0 rfl) ?_
  refine lv_iload_n hx hb dX7_append_1 rfl (lv_at hl 1 rfl) ?_
  refine lv_i2l (v := k.toInt64) hx hb dX7_append_2 rfl ?_
  refine lv_lconst (v := 0) hx hb dX7_append_3 (by decide) ?_
  refine lv_ldc2 (v := 255) hx hb hown (hts (.constantLong RX7 158 255) (by decide +kernel)) dX7_append_4 ?_
  refine z_callS (As := [.long k.toInt64, .long 0, .long 255]) (rest := [.ref q]) (wc := []) (wr := [(q, .inr (7, [v0, .ref z, .int (nI n), v3, v4, v5, v6, v7, v8, v9, v10, v11, v12, v13, v14, v15])), (z, .inl (G.2 1, 120, .inl v))]) (w1 := []) (ws' := [(q, .inr (7, [v0, .ref z, .int (nI n), v3, v4, v5, v6, v7, v8, v9, v10, v11, v12, v13, v14, v15])), (z, .inl (G.2 1, 120, .inl v))]) ⟨hx, hb, hml, hown, hts⟩ (c_in l G k.toInt64 0 255) (va_cwS 3 hts gX7_append_X7_in rfl rfl rfl (by decide +kernel) ⟨Nat.le_of_ble_eq_true rfl, Nat.le_of_ble_eq_true rfl⟩) rfl hl.1 rfl (Nat.le_of_ble_eq_true rfl) dX7_append_7 ⟨Nat.le_of_ble_eq_true rfl, Nat.le_of_ble_eq_true rfl⟩ hK hE hA hM (List.Perm.refl _) (List.Perm.refl _) (fun H locs hM hz => ?_)
  refine z_ifne (tgt := 17) hx hb dX7_append_10 (by decide) (fun c_1 => ?_) (fun c_1 => Bool.noConfusion (hc.symm.trans c_1))
  refine lv_aload_n hx hb dX7_append_17 rfl (lv_at hl 0 rfl) ?_
  refine z_get (ci := 7) (v := .int (nI n)) (C := RX7) (T := TX7) (N := 16) hx hb hts (by decide +kernel) hown hK hM 0 rfl rfl 2 (by decide) (hts (.fieldLink RX7 160 "ShiftIslesModel" "size" "I") (by decide +kernel)) (fun _ h9 => h9) rfl dX7_append_18 ?_
  refine lv_bipush (v := 120) hx hb dX7_append_21 (by decide) ?_
  refine z_topi (y := nI 120) rfl ?_
  refine lv_icmp_ne (tgt := 30) hx hb dX7_append_23 (by decide) (fun c_2 => absurd (by rw [hn]) c_2) (fun c_2 => ?_)
  refine lv_iconst (v := 2) hx hb dX7_append_26 (by decide) ?_
  refine lv_goto (tgt := 31) hx hb dX7_append_27 (by decide) ?_
  refine z_callV (As := [.int 2]) (rest := []) (wc := [(q, .inr (7, [v0, .ref z, .int (nI n), v3, v4, v5, v6, v7, v8, v9, v10, v11, v12, v13, v14, v15]))]) (wr := [(z, .inl (G.2 1, 120, .inl v))]) (w1 := [(q, .inr (7, [.int 2, .ref z, .int (nI n), v3, v4, v5, v6, v7, v8, v9, v10, v11, v12, v13, v14, v15]))]) (ws' := [(q, .inr (7, [.int 2, .ref z, .int (nI n), v3, v4, v5, v6, v7, v8, v9, v10, v11, v12, v13, v14, v15])), (z, .inl (G.2 1, 120, .inl v))]) ⟨hx, hb, hml, hown, hts⟩ (c_refused l G q v0 (.ref z) (.int (nI n)) v3 v4 v5 v6 v7 v8 v9 v10 v11 v12 v13 v14 v15 2) (cwV 1 hts gX7_append_X7_refused rfl rfl rfl (by decide +kernel) ⟨Nat.le_of_ble_eq_true rfl, Nat.le_of_ble_eq_true rfl⟩) 7 rfl rfl rfl rfl hl.1 rfl (Nat.le_of_ble_eq_true rfl) dX7_append_31 ⟨Nat.le_of_ble_eq_true rfl, Nat.le_of_ble_eq_true rfl⟩ hK hE hA hM (pm_at 2 [0] [1] rfl rfl rfl (by decide)) ((pm_at 2 [0] [1] rfl rfl rfl (by decide))).symm (fun H locs hM hz => ?_)
  refine z_ifeq (tgt := 39) hx hb dX7_append_34 (by decide) (fun c_3 => absurd c_3 (by decide)) (fun c_3 => ?_)
  refine lv_iconst (v := 0) hx hb dX7_append_37 (by decide) ?_
  exact z_iret hx hb hr hlocks dX7_append_38 hM (Nat.le_of_ble_eq_true rfl) (Nat.le_of_ble_eq_true rfl) rfl

set_option maxHeartbeats 4000000 in
set_option maxRecDepth 100000 in
theorem c_rap0 (l : Launch) (G : zC) (q : Nat) (v0 v3 v4 v5 v6 v7 v8 v9 v10 v11 v12 v13 v14 v15 : Value) (z n : Nat) (v : Nat → Int32) (k : Int32) (hc : zI0 k.toInt64 0 255 = true) (hn : n < 120) : zMet l G yX7_append wsX7_append rmX7_append [.ref q, .int k] ([(q, .inr (7, [v0, .ref z, .int (nI n), v3, v4, v5, v6, v7, v8, v9, v10, v11, v12, v13, v14, v15])), (z, .inl (G.2 1, 120, .inl v))]) (some (.int (nI (n + 1)))) ([(q, .inr (7, [.int 0, .ref z, .int (nI (n + 1)), v3, v4, v5, v6, v7, v8, v9, v10, v11, v12, v13, v14, v15])), (z, .inl (G.2 1, 120, .inl (upd v n k)))]) := by
  refine zMet_of (cc := cX7_append) (maxL := 2) (ret := (some .int)) (by decide) rfl (Nat.le_of_ble_eq_true rfl) ?_
  intro p e s m below meth c A ls hx hb hr hml hown hts hK hA hE hlocks hin hM hl
  have hown : s.vm.findClass RX7 = some m.cls := hown
  have hM : zM G A s s.heap [] ([(q, .inr (7, [v0, .ref z, .int (nI n), v3, v4, v5, v6, v7, v8, v9, v10, v11, v12, v13, v14, v15])), (z, .inl (G.2 1, 120, .inl v))]) := hM
  have hl : lv_has ls 2 [(0, .ref q), (1, .int k)] := hl
  refine lv_aload_n hx hb dX7_append_0 rfl (lv_at hl 0 rfl) ?_
  refine lv_iload_n hx hb dX7_append_1 rfl (lv_at hl 1 rfl) ?_
  refine lv_i2l (v := k.toInt64) hx hb dX7_append_2 rfl ?_
  refine lv_lconst (v := 0) hx hb dX7_append_3 (by decide) ?_
  refine lv_ldc2 (v := 255) hx hb hown (hts (.constantLong RX7 158 255) (by decide +kernel)) dX7_append_4 ?_
  refine z_callS (As := [.long k.toInt64, .long 0, .long 255]) (rest := [.ref q]) (wc := []) (wr := [(q, .inr (7, [v0, .ref z, .int (nI n), v3, v4, v5, v6, v7, v8, v9, v10, v11, v12, v13, v14, v15])), (z, .inl (G.2 1, 120, .inl v))]) (w1 := []) (ws' := [(q, .inr (7, [v0, .ref z, .int (nI n), v3, v4, v5, v6, v7, v8, v9, v10, v11, v12, v13, v14, v15])), (z, .inl (G.2 1, 120, .inl v))]) ⟨hx, hb, hml, hown, hts⟩ (c_in l G k.toInt64 0 255) (va_cwS 3 hts gX7_append_X7_in rfl rfl rfl (by decide +kernel) ⟨Nat.le_of_ble_eq_true rfl, Nat.le_of_ble_eq_true rfl⟩) rfl hl.1 rfl (Nat.le_of_ble_eq_true rfl) dX7_append_7 ⟨Nat.le_of_ble_eq_true rfl, Nat.le_of_ble_eq_true rfl⟩ hK hE hA hM (List.Perm.refl _) (List.Perm.refl _) (fun H locs hM hz => ?_)
  refine z_ifne (tgt := 17) hx hb dX7_append_10 (by decide) (fun c_1 => ?_) (fun c_1 => Bool.noConfusion (hc.symm.trans c_1))
  refine lv_aload_n hx hb dX7_append_17 rfl (lv_at hl 0 rfl) ?_
  refine z_get (ci := 7) (v := .int (nI n)) (C := RX7) (T := TX7) (N := 16) hx hb hts (by decide +kernel) hown hK hM 0 rfl rfl 2 (by decide) (hts (.fieldLink RX7 160 "ShiftIslesModel" "size" "I") (by decide +kernel)) (fun _ h9 => h9) rfl dX7_append_18 ?_
  refine lv_bipush (v := 120) hx hb dX7_append_21 (by decide) ?_
  refine z_topi (y := nI 120) rfl ?_
  refine lv_icmp_ne (tgt := 30) hx hb dX7_append_23 (by decide) (fun c_2 => ?_) (fun c_2 => absurd ((nI_eq (a := n) (b := 120) (by omega) (by decide)).mp c_2) (by omega))
  refine lv_iconst (v := 0) hx hb dX7_append_30 (by decide) ?_
  refine z_callV (As := [.int 0]) (rest := []) (wc := [(q, .inr (7, [v0, .ref z, .int (nI n), v3, v4, v5, v6, v7, v8, v9, v10, v11, v12, v13, v14, v15]))]) (wr := [(z, .inl (G.2 1, 120, .inl v))]) (w1 := [(q, .inr (7, [.int 0, .ref z, .int (nI n), v3, v4, v5, v6, v7, v8, v9, v10, v11, v12, v13, v14, v15]))]) (ws' := [(q, .inr (7, [.int 0, .ref z, .int (nI n), v3, v4, v5, v6, v7, v8, v9, v10, v11, v12, v13, v14, v15])), (z, .inl (G.2 1, 120, .inl v))]) ⟨hx, hb, hml, hown, hts⟩ (c_refused l G q v0 (.ref z) (.int (nI n)) v3 v4 v5 v6 v7 v8 v9 v10 v11 v12 v13 v14 v15 0) (cwV 1 hts gX7_append_X7_refused rfl rfl rfl (by decide +kernel) ⟨Nat.le_of_ble_eq_true rfl, Nat.le_of_ble_eq_true rfl⟩) 7 rfl rfl rfl rfl hl.1 rfl (Nat.le_of_ble_eq_true rfl) dX7_append_31 ⟨Nat.le_of_ble_eq_true rfl, Nat.le_of_ble_eq_true rfl⟩ hK hE hA hM (pm_at 2 [0] [1] rfl rfl rfl (by decide)) ((pm_at 2 [0] [1] rfl rfl rfl (by decide))).symm (fun H locs hM hz => ?_)
  refine z_ifeq (tgt := 39) hx hb dX7_append_34 (by decide) (fun c_3 => ?_) (fun c_3 => absurd c_3 (by decide))
  refine lv_aload_n hx hb dX7_append_39 rfl (lv_at hl 0 rfl) ?_
  refine z_get (ci := 7) (v := .ref z) (C := RX7) (T := TX7) (N := 16) hx hb hts (by decide +kernel) hown hK hM 0 rfl rfl 1 (by decide) (hts (.fieldLink RX7 7 "ShiftIslesModel" "text" "[I") (by decide +kernel)) (fun _ h9 => h9) rfl dX7_append_40 ?_
  refine lv_aload_n hx hb dX7_append_43 rfl (lv_at hl 0 rfl) ?_
  refine z_get (ci := 7) (v := .int (nI n)) (C := RX7) (T := TX7) (N := 16) hx hb hts (by decide +kernel) hown hK hM 0 rfl rfl 2 (by decide) (hts (.fieldLink RX7 160 "ShiftIslesModel" "size" "I") (by decide +kernel)) (fun _ h9 => h9) rfl dX7_append_44 ?_
  refine lv_iload_n hx hb dX7_append_47 rfl (lv_at hl 1 rfl) ?_
  refine z_iast (ws' := [(q, .inr (7, [.int 0, .ref z, .int (nI n), v3, v4, v5, v6, v7, v8, v9, v10, v11, v12, v13, v14, v15])), (z, .inl (G.2 1, 120, .inl (upd v n k)))]) hx hb hK hM 1 rfl (vp_in_nI (by omega) (by decide)) dX7_append_48 (by rw [nI_clamp (by omega)]; rfl) (fun H locs hM => ?_)
  refine lv_aload_n hx hb dX7_append_49 rfl (lv_at hl 0 rfl) ?_
  refine lv_dup hx hb dX7_append_50 rfl ?_
  refine z_get (ci := 7) (v := .int (nI n)) (C := RX7) (T := TX7) (N := 16) hx hb hts (by decide +kernel) hown hK hM 0 rfl rfl 2 (by decide) (hts (.fieldLink RX7 160 "ShiftIslesModel" "size" "I") (by decide +kernel)) (fun _ h9 => h9) rfl dX7_append_51 ?_
  refine lv_iconst (v := 1) hx hb dX7_append_54 (by decide) ?_
  refine lv_iadd hx hb dX7_append_55 ?_
  refine z_topi (y := nI (n + 1)) (nI_add n 1) ?_
  refine z_put (ci := 7) (ty := .int) (v := .int (nI (n + 1))) (C := RX7) (T := TX7) (N := 16) (ws' := [(q, .inr (7, [.int 0, .ref z, .int (nI (n + 1)), v3, v4, v5, v6, v7, v8, v9, v10, v11, v12, v13, v14, v15])), (z, .inl (G.2 1, 120, .inl (upd v n k)))]) hx hb hts (by decide +kernel) tyX7 tyX7_ok nmX7 hown hK hM 0 rfl rfl 2 (by decide) (hts (.fieldLink RX7 160 "ShiftIslesModel" "size" "I") (by decide +kernel)) (fun _ h9 => h9) rfl (by decide +kernel) rfl rfl (Nat.le_of_ble_eq_true rfl) dX7_append_56 rfl (fun H locs hM => ?_)
  refine lv_aload_n hx hb dX7_append_59 rfl (lv_at hl 0 rfl) ?_
  refine z_get (ci := 7) (v := .int (nI (n + 1))) (C := RX7) (T := TX7) (N := 16) hx hb hts (by decide +kernel) hown hK hM 0 rfl rfl 2 (by decide) (hts (.fieldLink RX7 160 "ShiftIslesModel" "size" "I") (by decide +kernel)) (fun _ h9 => h9) rfl dX7_append_60 ?_
  exact z_iret hx hb hr hlocks dX7_append_63 hM (Nat.le_of_ble_eq_true rfl) (Nat.le_of_ble_eq_true rfl) rfl

set_option maxHeartbeats 4000000 in
set_option maxRecDepth 100000 in
theorem c_dig0 (l : Launch) (G : zC) (q : Nat) (v0 v3 v4 v5 v6 v7 v8 v9 v10 v11 v12 v13 v15 : Value) (z n j : Nat) (v : Nat → Int32) (lo hi : Int32) (hn : n ≤ 120) (hj : j < 1000) (hd : zI0 (zDg v n j).toInt64 lo.toInt64 hi.toInt64 = false) : zMet l G yX7_digit wsX7_digit rmX7_digit [.ref q, .int lo, .int hi] ([(q, .inr (7, [v0, .ref z, .int (nI n), v3, v4, v5, v6, v7, v8, v9, v10, v11, v12, v13, .int (nI j), v15])), (z, .inl (G.2 1, 120, .inl v))]) (some (.int (-1))) ([(q, .inr (7, [v0, .ref z, .int (nI n), v3, v4, v5, v6, v7, v8, v9, v10, v11, v12, v13, .int (nI j), v15])), (z, .inl (G.2 1, 120, .inl v))]) := by
  refine zMet_of (cc := cX7_digit) (maxL := 4) (ret := (some .int)) (by decide) rfl (Nat.le_of_ble_eq_true rfl) ?_
  intro p e s m below meth c A ls hx hb hr hml hown hts hK hA hE hlocks hin hM hl
  have hown : s.vm.findClass RX7 = some m.cls := hown
  have hM : zM G A s s.heap [] ([(q, .inr (7, [v0, .ref z, .int (nI n), v3, v4, v5, v6, v7, v8, v9, v10, v11, v12, v13, .int (nI j), v15])), (z, .inl (G.2 1, 120, .inl v))]) := hM
  have hl : lv_has ls 4 [(0, .ref q), (1, .int lo), (2, .int hi)] := hl
  refine lv_aload_n hx hb dX7_digit_0 rfl (lv_at hl 0 rfl) ?_
  refine z_get (ci := 7) (v := .int (nI j)) (C := RX7) (T := TX7) (N := 16) hx hb hts (by decide +kernel) hown hK hM 0 rfl rfl 14 (by decide) (hts (.fieldLink RX7 167 "ShiftIslesModel" "spot" "I") (by decide +kernel)) (fun _ h9 => h9) rfl dX7_digit_1 ?_
  refine lv_aload_n hx hb dX7_digit_4 rfl (lv_at hl 0 rfl) ?_
  refine z_get (ci := 7) (v := .int (nI n)) (C := RX7) (T := TX7) (N := 16) hx hb hts (by decide +kernel) hown hK hM 0 rfl rfl 2 (by decide) (hts (.fieldLink RX7 160 "ShiftIslesModel" "size" "I") (by decide +kernel)) (fun _ h9 => h9) rfl dX7_digit_5 ?_
  refine lv_icmp_ge (tgt := 26) hx hb dX7_digit_8 (by decide) (fun c_1 => ?_) (fun c_1 => ?_)
  · have ej : zDg v n j = -1 := by rw [zDg, if_neg (fun q => absurd c_1 (nI_ge q (by omega)))]
    refine lv_iconst (v := (-1)) hx hb dX7_digit_26 (by decide) ?_
    refine z_topi (y := zDg v n j) ej.symm ?_
    refine lv_istore_n (lv' := [(3, .int (zDg v n j)), (0, .ref q), (1, .int lo), (2, .int hi)]) hx hb dX7_digit_27 rfl hl (by decide) rfl (fun ls hl => ?_)
    refine lv_iload_n hx hb dX7_digit_28 rfl (lv_at hl 0 rfl) ?_
    refine lv_i2l (v := (zDg v n j).toInt64) hx hb dX7_digit_29 rfl ?_
    refine lv_iload_n hx hb dX7_digit_30 rfl (lv_at hl 2 rfl) ?_
    refine lv_i2l (v := lo.toInt64) hx hb dX7_digit_31 rfl ?_
    refine lv_iload_n hx hb dX7_digit_32 rfl (lv_at hl 3 rfl) ?_
    refine lv_i2l (v := hi.toInt64) hx hb dX7_digit_33 rfl ?_
    refine z_callS (As := [.long ((zDg v n j).toInt64), .long lo.toInt64, .long hi.toInt64]) (rest := []) (wc := []) (wr := [(q, .inr (7, [v0, .ref z, .int (nI n), v3, v4, v5, v6, v7, v8, v9, v10, v11, v12, v13, .int (nI j), v15])), (z, .inl (G.2 1, 120, .inl v))]) (w1 := []) (ws' := [(q, .inr (7, [v0, .ref z, .int (nI n), v3, v4, v5, v6, v7, v8, v9, v10, v11, v12, v13, .int (nI j), v15])), (z, .inl (G.2 1, 120, .inl v))]) ⟨hx, hb, hml, hown, hts⟩ (c_in l G ((zDg v n j).toInt64) lo.toInt64 hi.toInt64) (va_cwS 3 hts gX7_digit_X7_in rfl rfl rfl (by decide +kernel) ⟨Nat.le_of_ble_eq_true rfl, Nat.le_of_ble_eq_true rfl⟩) rfl hl.1 rfl (Nat.le_of_ble_eq_true rfl) dX7_digit_34 ⟨Nat.le_of_ble_eq_true rfl, Nat.le_of_ble_eq_true rfl⟩ hK hE hA hM (List.Perm.refl _) (List.Perm.refl _) (fun H locs hM hz => ?_)
    refine z_ifne (tgt := 42) hx hb dX7_digit_37 (by decide) (fun c_2 => Bool.noConfusion (c_2.symm.trans hd)) (fun c_2 => ?_)
    refine lv_iconst (v := (-1)) hx hb dX7_digit_40 (by decide) ?_
    exact z_iret hx hb hr hlocks dX7_digit_41 hM (Nat.le_of_ble_eq_true rfl) (Nat.le_of_ble_eq_true rfl) rfl
  · have hjn : j < n := Nat.not_le.mp (fun q => c_1 ((nI_leI (by omega) (by omega)).mpr q))
    have ej : zDg v n j = v j - 48 := by rw [zDg, if_pos hjn]
    refine lv_aload_n hx hb dX7_digit_11 rfl (lv_at hl 0 rfl) ?_
    refine z_get (ci := 7) (v := .ref z) (C := RX7) (T := TX7) (N := 16) hx hb hts (by decide +kernel) hown hK hM 0 rfl rfl 1 (by decide) (hts (.fieldLink RX7 7 "ShiftIslesModel" "text" "[I") (by decide +kernel)) (fun _ h9 => h9) rfl dX7_digit_12 ?_
    refine lv_aload_n hx hb dX7_digit_15 rfl (lv_at hl 0 rfl) ?_
    refine z_get (ci := 7) (v := .int (nI j)) (C := RX7) (T := TX7) (N := 16) hx hb hts (by decide +kernel) hown hK hM 0 rfl rfl 14 (by decide) (hts (.fieldLink RX7 167 "ShiftIslesModel" "spot" "I") (by decide +kernel)) (fun _ h9 => h9) rfl dX7_digit_16 ?_
    refine z_iald hx hb hK hM 1 rfl (v := v j) (vp_in_nI (by omega) (by decide)) (by rw [nI_clamp (by omega)]) dX7_digit_19 ?_
    refine lv_bipush (v := 48) hx hb dX7_digit_20 (by decide) ?_
    refine lv_isub hx hb dX7_digit_22 ?_
    refine lv_goto (tgt := 27) hx hb dX7_digit_23 (by decide) ?_
    refine z_topi (y := zDg v n j) ej.symm ?_
    refine lv_istore_n (lv' := [(3, .int (zDg v n j)), (0, .ref q), (1, .int lo), (2, .int hi)]) hx hb dX7_digit_27 rfl hl (by decide) rfl (fun ls hl => ?_)
    refine lv_iload_n hx hb dX7_digit_28 rfl (lv_at hl 0 rfl) ?_
    refine lv_i2l (v := (zDg v n j).toInt64) hx hb dX7_digit_29 rfl ?_
    refine lv_iload_n hx hb dX7_digit_30 rfl (lv_at hl 2 rfl) ?_
    refine lv_i2l (v := lo.toInt64) hx hb dX7_digit_31 rfl ?_
    refine lv_iload_n hx hb dX7_digit_32 rfl (lv_at hl 3 rfl) ?_
    refine lv_i2l (v := hi.toInt64) hx hb dX7_digit_33 rfl ?_
    refine z_callS (As := [.long ((zDg v n j).toInt64), .long lo.toInt64, .long hi.toInt64]) (rest := []) (wc := []) (wr := [(q, .inr (7, [v0, .ref z, .int (nI n), v3, v4, v5, v6, v7, v8, v9, v10, v11, v12, v13, .int (nI j), v15])), (z, .inl (G.2 1, 120, .inl v))]) (w1 := []) (ws' := [(q, .inr (7, [v0, .ref z, .int (nI n), v3, v4, v5, v6, v7, v8, v9, v10, v11, v12, v13, .int (nI j), v15])), (z, .inl (G.2 1, 120, .inl v))]) ⟨hx, hb, hml, hown, hts⟩ (c_in l G ((zDg v n j).toInt64) lo.toInt64 hi.toInt64) (va_cwS 3 hts gX7_digit_X7_in rfl rfl rfl (by decide +kernel) ⟨Nat.le_of_ble_eq_true rfl, Nat.le_of_ble_eq_true rfl⟩) rfl hl.1 rfl (Nat.le_of_ble_eq_true rfl) dX7_digit_34 ⟨Nat.le_of_ble_eq_true rfl, Nat.le_of_ble_eq_true rfl⟩ hK hE hA hM (List.Perm.refl _) (List.Perm.refl _) (fun H locs hM hz => ?_)
    refine z_ifne (tgt := 42) hx hb dX7_digit_37 (by decide) (fun c_3 => Bool.noConfusion (c_3.symm.trans hd)) (fun c_3 => ?_)
    refine lv_iconst (v := (-1)) hx hb dX7_digit_40 (by decide) ?_
    exact z_iret hx hb hr hlocks dX7_digit_41 hM (Nat.le_of_ble_eq_true rfl) (Nat.le_of_ble_eq_true rfl) rfl

set_option maxHeartbeats 4000000 in
set_option maxRecDepth 100000 in
theorem c_dig1 (l : Launch) (G : zC) (q : Nat) (v0 v3 v4 v5 v6 v7 v8 v9 v10 v11 v12 v13 v15 : Value) (z n j : Nat) (v : Nat → Int32) (lo hi : Int32) (hn : n ≤ 120) (hj : j < 1000) (hd : zI0 (zDg v n j).toInt64 lo.toInt64 hi.toInt64 = true) : zMet l G yX7_digit wsX7_digit rmX7_digit [.ref q, .int lo, .int hi] ([(q, .inr (7, [v0, .ref z, .int (nI n), v3, v4, v5, v6, v7, v8, v9, v10, v11, v12, v13, .int (nI j), v15])), (z, .inl (G.2 1, 120, .inl v))]) (some (.int (zDg v n j))) ([(q, .inr (7, [v0, .ref z, .int (nI n), v3, v4, v5, v6, v7, v8, v9, v10, v11, v12, v13, .int (nI (j + 1)), v15])), (z, .inl (G.2 1, 120, .inl v))]) := by
  refine zMet_of (cc := cX7_digit) (maxL := 4) (ret := (some .int)) (by decide) rfl (Nat.le_of_ble_eq_true rfl) ?_
  intro p e s m below meth c A ls hx hb hr hml hown hts hK hA hE hlocks hin hM hl
  have hown : s.vm.findClass RX7 = some m.cls := hown
  have hM : zM G A s s.heap [] ([(q, .inr (7, [v0, .ref z, .int (nI n), v3, v4, v5, v6, v7, v8, v9, v10, v11, v12, v13, .int (nI j), v15])), (z, .inl (G.2 1, 120, .inl v))]) := hM
  have hl : lv_has ls 4 [(0, .ref q), (1, .int lo), (2, .int hi)] := hl
  refine lv_aload_n hx hb dX7_digit_0 rfl (lv_at hl 0 rfl) ?_
  refine z_get (ci := 7) (v := .int (nI j)) (C := RX7) (T := TX7) (N := 16) hx hb hts (by decide +kernel) hown hK hM 0 rfl rfl 14 (by decide) (hts (.fieldLink RX7 167 "ShiftIslesModel" "spot" "I") (by decide +kernel)) (fun _ h9 => h9) rfl dX7_digit_1 ?_
  refine lv_aload_n hx hb dX7_digit_4 rfl (lv_at hl 0 rfl) ?_
  refine z_get (ci := 7) (v := .int (nI n)) (C := RX7) (T := TX7) (N := 16) hx hb hts (by decide +kernel) hown hK hM 0 rfl rfl 2 (by decide) (hts (.fieldLink RX7 160 "ShiftIslesModel" "size" "I") (by decide +kernel)) (fun _ h9 => h9) rfl dX7_digit_5 ?_
  refine lv_icmp_ge (tgt := 26) hx hb dX7_digit_8 (by decide) (fun c_1 => ?_) (fun c_1 => ?_)
  · have ej : zDg v n j = -1 := by rw [zDg, if_neg (fun q => absurd c_1 (nI_ge q (by omega)))]
    refine lv_iconst (v := (-1)) hx hb dX7_digit_26 (by decide) ?_
    refine z_topi (y := zDg v n j) ej.symm ?_
    refine lv_istore_n (lv' := [(3, .int (zDg v n j)), (0, .ref q), (1, .int lo), (2, .int hi)]) hx hb dX7_digit_27 rfl hl (by decide) rfl (fun ls hl => ?_)
    refine lv_iload_n hx hb dX7_digit_28 rfl (lv_at hl 0 rfl) ?_
    refine lv_i2l (v := (zDg v n j).toInt64) hx hb dX7_digit_29 rfl ?_
    refine lv_iload_n hx hb dX7_digit_30 rfl (lv_at hl 2 rfl) ?_
    refine lv_i2l (v := lo.toInt64) hx hb dX7_digit_31 rfl ?_
    refine lv_iload_n hx hb dX7_digit_32 rfl (lv_at hl 3 rfl) ?_
    refine lv_i2l (v := hi.toInt64) hx hb dX7_digit_33 rfl ?_
    refine z_callS (As := [.long ((zDg v n j).toInt64), .long lo.toInt64, .long hi.toInt64]) (rest := []) (wc := []) (wr := [(q, .inr (7, [v0, .ref z, .int (nI n), v3, v4, v5, v6, v7, v8, v9, v10, v11, v12, v13, .int (nI j), v15])), (z, .inl (G.2 1, 120, .inl v))]) (w1 := []) (ws' := [(q, .inr (7, [v0, .ref z, .int (nI n), v3, v4, v5, v6, v7, v8, v9, v10, v11, v12, v13, .int (nI j), v15])), (z, .inl (G.2 1, 120, .inl v))]) ⟨hx, hb, hml, hown, hts⟩ (c_in l G ((zDg v n j).toInt64) lo.toInt64 hi.toInt64) (va_cwS 3 hts gX7_digit_X7_in rfl rfl rfl (by decide +kernel) ⟨Nat.le_of_ble_eq_true rfl, Nat.le_of_ble_eq_true rfl⟩) rfl hl.1 rfl (Nat.le_of_ble_eq_true rfl) dX7_digit_34 ⟨Nat.le_of_ble_eq_true rfl, Nat.le_of_ble_eq_true rfl⟩ hK hE hA hM (List.Perm.refl _) (List.Perm.refl _) (fun H locs hM hz => ?_)
    refine z_ifne (tgt := 42) hx hb dX7_digit_37 (by decide) (fun c_2 => ?_) (fun c_2 => Bool.noConfusion (hd.symm.trans c_2))
    refine lv_aload_n hx hb dX7_digit_42 rfl (lv_at hl 1 rfl) ?_
    refine lv_dup hx hb dX7_digit_43 rfl ?_
    refine z_get (ci := 7) (v := .int (nI j)) (C := RX7) (T := TX7) (N := 16) hx hb hts (by decide +kernel) hown hK hM 0 rfl rfl 14 (by decide) (hts (.fieldLink RX7 167 "ShiftIslesModel" "spot" "I") (by decide +kernel)) (fun _ h9 => h9) rfl dX7_digit_44 ?_
    refine lv_iconst (v := 1) hx hb dX7_digit_47 (by decide) ?_
    refine lv_iadd hx hb dX7_digit_48 ?_
    refine z_topi (y := nI (j + 1)) (nI_add j 1) ?_
    refine z_put (ci := 7) (ty := .int) (v := .int (nI (j + 1))) (C := RX7) (T := TX7) (N := 16) (ws' := [(q, .inr (7, [v0, .ref z, .int (nI n), v3, v4, v5, v6, v7, v8, v9, v10, v11, v12, v13, .int (nI (j + 1)), v15])), (z, .inl (G.2 1, 120, .inl v))]) hx hb hts (by decide +kernel) tyX7 tyX7_ok nmX7 hown hK hM 0 rfl rfl 14 (by decide) (hts (.fieldLink RX7 167 "ShiftIslesModel" "spot" "I") (by decide +kernel)) (fun _ h9 => h9) rfl (by decide +kernel) rfl rfl (Nat.le_of_ble_eq_true rfl) dX7_digit_49 rfl (fun H locs hM => ?_)
    refine lv_iload_n hx hb dX7_digit_52 rfl (lv_at hl 0 rfl) ?_
    exact z_iret hx hb hr hlocks dX7_digit_53 hM (Nat.le_of_ble_eq_true rfl) (Nat.le_of_ble_eq_true rfl) rfl
  · have hjn : j < n := Nat.not_le.mp (fun q => c_1 ((nI_leI (by omega) (by omega)).mpr q))
    have ej : zDg v n j = v j - 48 := by rw [zDg, if_pos hjn]
    refine lv_aload_n hx hb dX7_digit_11 rfl (lv_at hl 0 rfl) ?_
    refine z_get (ci := 7) (v := .ref z) (C := RX7) (T := TX7) (N := 16) hx hb hts (by decide +kernel) hown hK hM 0 rfl rfl 1 (by decide) (hts (.fieldLink RX7 7 "ShiftIslesModel" "text" "[I") (by decide +kernel)) (fun _ h9 => h9) rfl dX7_digit_12 ?_
    refine lv_aload_n hx hb dX7_digit_15 rfl (lv_at hl 0 rfl) ?_
    refine z_get (ci := 7) (v := .int (nI j)) (C := RX7) (T := TX7) (N := 16) hx hb hts (by decide +kernel) hown hK hM 0 rfl rfl 14 (by decide) (hts (.fieldLink RX7 167 "ShiftIslesModel" "spot" "I") (by decide +kernel)) (fun _ h9 => h9) rfl dX7_digit_16 ?_
    refine z_iald hx hb hK hM 1 rfl (v := v j) (vp_in_nI (by omega) (by decide)) (by rw [nI_clamp (by omega)]) dX7_digit_19 ?_
    refine lv_bipush (v := 48) hx hb dX7_digit_20 (by decide) ?_
    refine lv_isub hx hb dX7_digit_22 ?_
    refine lv_goto (tgt := 27) hx hb dX7_digit_23 (by decide) ?_
    refine z_topi (y := zDg v n j) ej.symm ?_
    refine lv_istore_n (lv' := [(3, .int (zDg v n j)), (0, .ref q), (1, .int lo), (2, .int hi)]) hx hb dX7_digit_27 rfl hl (by decide) rfl (fun ls hl => ?_)
    refine lv_iload_n hx hb dX7_digit_28 rfl (lv_at hl 0 rfl) ?_
    refine lv_i2l (v := (zDg v n j).toInt64) hx hb dX7_digit_29 rfl ?_
    refine lv_iload_n hx hb dX7_digit_30 rfl (lv_at hl 2 rfl) ?_
    refine lv_i2l (v := lo.toInt64) hx hb dX7_digit_31 rfl ?_
    refine lv_iload_n hx hb dX7_digit_32 rfl (lv_at hl 3 rfl) ?_
    refine lv_i2l (v := hi.toInt64) hx hb dX7_digit_33 rfl ?_
    refine z_callS (As := [.long ((zDg v n j).toInt64), .long lo.toInt64, .long hi.toInt64]) (rest := []) (wc := []) (wr := [(q, .inr (7, [v0, .ref z, .int (nI n), v3, v4, v5, v6, v7, v8, v9, v10, v11, v12, v13, .int (nI j), v15])), (z, .inl (G.2 1, 120, .inl v))]) (w1 := []) (ws' := [(q, .inr (7, [v0, .ref z, .int (nI n), v3, v4, v5, v6, v7, v8, v9, v10, v11, v12, v13, .int (nI j), v15])), (z, .inl (G.2 1, 120, .inl v))]) ⟨hx, hb, hml, hown, hts⟩ (c_in l G ((zDg v n j).toInt64) lo.toInt64 hi.toInt64) (va_cwS 3 hts gX7_digit_X7_in rfl rfl rfl (by decide +kernel) ⟨Nat.le_of_ble_eq_true rfl, Nat.le_of_ble_eq_true rfl⟩) rfl hl.1 rfl (Nat.le_of_ble_eq_true rfl) dX7_digit_34 ⟨Nat.le_of_ble_eq_true rfl, Nat.le_of_ble_eq_true rfl⟩ hK hE hA hM (List.Perm.refl _) (List.Perm.refl _) (fun H locs hM hz => ?_)
    refine z_ifne (tgt := 42) hx hb dX7_digit_37 (by decide) (fun c_3 => ?_) (fun c_3 => Bool.noConfusion (hd.symm.trans c_3))
    refine lv_aload_n hx hb dX7_digit_42 rfl (lv_at hl 1 rfl) ?_
    refine lv_dup hx hb dX7_digit_43 rfl ?_
    refine z_get (ci := 7) (v := .int (nI j)) (C := RX7) (T := TX7) (N := 16) hx hb hts (by decide +kernel) hown hK hM 0 rfl rfl 14 (by decide) (hts (.fieldLink RX7 167 "ShiftIslesModel" "spot" "I") (by decide +kernel)) (fun _ h9 => h9) rfl dX7_digit_44 ?_
    refine lv_iconst (v := 1) hx hb dX7_digit_47 (by decide) ?_
    refine lv_iadd hx hb dX7_digit_48 ?_
    refine z_topi (y := nI (j + 1)) (nI_add j 1) ?_
    refine z_put (ci := 7) (ty := .int) (v := .int (nI (j + 1))) (C := RX7) (T := TX7) (N := 16) (ws' := [(q, .inr (7, [v0, .ref z, .int (nI n), v3, v4, v5, v6, v7, v8, v9, v10, v11, v12, v13, .int (nI (j + 1)), v15])), (z, .inl (G.2 1, 120, .inl v))]) hx hb hts (by decide +kernel) tyX7 tyX7_ok nmX7 hown hK hM 0 rfl rfl 14 (by decide) (hts (.fieldLink RX7 167 "ShiftIslesModel" "spot" "I") (by decide +kernel)) (fun _ h9 => h9) rfl (by decide +kernel) rfl rfl (Nat.le_of_ble_eq_true rfl) dX7_digit_49 rfl (fun H locs hM => ?_)
    refine lv_iload_n hx hb dX7_digit_52 rfl (lv_at hl 0 rfl) ?_
    exact z_iret hx hb hr hlocks dX7_digit_53 hM (Nat.le_of_ble_eq_true rfl) (Nat.le_of_ble_eq_true rfl) rfl
/-! REFERENCE, sixth part: dealing -/
def zZ : Nat → Int32 := fun _ => 0
theorem upd_zZ (i : Nat) : upd zZ i 0 = zZ := by
  funext k
  by_cases e : k = i
  · subst e
    rw [pk_us]
    rfl
  · rw [pk_un e]
def bk (o t r : Nat → Int32) : Nat → Int32 := fun j => if j < 9 then o j else if j < 18 then t (j - 9) else if j < 23 then r (j - 18) else 0
theorem bk_o {o t r : Nat → Int32} {i : Nat} {v : Int32} (hi : i < 9) : upd (bk o t r) i v = bk (upd o i v) t r := by
  funext j
  by_cases e : j = i
  · subst e
    rw [pk_us]
    unfold bk
    rw [if_pos hi, pk_us]
  · rw [pk_un e]
    unfold bk
    rw [pk_un e]
theorem bk_t {o t r : Nat → Int32} {i : Nat} {v : Int32} (hi : i < 9) : upd (bk o t r) (9 + i) v = bk o (upd t i v) r := by
  funext j
  by_cases e : j = 9 + i
  · subst e
    rw [pk_us]
    unfold bk
    rw [if_neg (by omega), if_pos (by omega), show 9 + i - 9 = i by omega, pk_us]
  · rw [pk_un e]
    unfold bk
    by_cases h9 : j < 9
    · rw [if_pos h9, if_pos h9]
    · rw [if_neg h9, if_neg h9, pk_un (by omega)]
theorem bk_r {o t r : Nat → Int32} {i : Nat} {v : Int32} (hi : i < 5) : upd (bk o t r) (18 + i) v = bk o t (upd r i v) := by
  funext j
  by_cases e : j = 18 + i
  · subst e
    rw [pk_us]
    unfold bk
    rw [if_neg (by omega), if_neg (by omega), if_pos (by omega), show 18 + i - 18 = i by omega, pk_us]
  · rw [pk_un e]
    unfold bk
    by_cases h18 : j < 18
    · rw [if_pos h18, if_pos h18]
    · rw [if_neg h18, if_neg h18, pk_un (by omega)]
theorem bk_ta {o t r : Nat → Int32} {i : Nat} (hi : i < 9) : bk o t r (9 + i) = t i := by
  unfold bk
  rw [if_neg (by omega), if_pos (by omega), show 9 + i - 9 = i by omega]
theorem bk_ra {o t r : Nat → Int32} {i : Nat} (hi : i < 5) : bk o t r (18 + i) = r i := by
  unfold bk
  rw [if_neg (by omega), if_neg (by omega), if_pos (by omega), show 18 + i - 18 = i by omega]
theorem clr_bk (f : Nat → Int32) : ∀ j, j < 28 → clr f 28 j = bk zZ zZ zZ j := by
  intro j hj
  unfold clr bk zZ
  rw [if_pos hj]
  split
  · rfl
  · split
    · rfl
    · split <;> rfl
theorem dl_bk {f : Nat → Int32} {x y1 y2 y : Int64} {o t t0 r : Nat → Int32} (e1 : zDa f x = (y1, o, t0)) (e2 : zDb f x = (y2, t)) (e4 : zDc f x = (y, r)) : ∀ j, j < 28 → upd (upd (upd (upd (bk o t r) 24 4) 25 (-1)) 26 (-1)) 27 (-1) j = zDl f x j := by
  intro j hj
  unfold zDl
  rw [e1, e2, e4]
  by_cases h27 : j = 27
  · subst h27
    rw [pk_us]
    rfl
  rw [pk_un h27]
  by_cases h26 : j = 26
  · subst h26
    rw [pk_us]
    rfl
  rw [pk_un h26]
  by_cases h25 : j = 25
  · subst h25
    rw [pk_us]
    rfl
  rw [pk_un h25]
  by_cases h24 : j = 24
  · subst h24
    rw [pk_us]
    rfl
  rw [pk_un h24]
  unfold bk
  by_cases h9 : j < 9
  · rw [if_pos h9, if_pos h9]
  rw [if_neg h9, if_neg h9]
  by_cases h18 : j < 18
  · rw [if_pos h18, if_pos h18]
  rw [if_neg h18, if_neg h18]
  by_cases h23 : j < 23
  · rw [if_pos h23, if_pos h23]
  rw [if_neg h23, if_neg h23, if_pos (by omega)]
def nzo (x : Int32) : Nat := if x = 0 then 0 else 1
theorem nzo_le (x : Int32) : nzo x ≤ 1 := by
  unfold nzo
  split <;> decide
theorem nzo_ne {x : Int32} (h : ¬ x = 0) : nzo x = 1 := by
  unfold nzo
  rw [if_neg h]
def nzc (t : Nat → Int32) : Nat := nzo (t 0) + nzo (t 1) + nzo (t 2) + nzo (t 3) + nzo (t 4) + nzo (t 5) + nzo (t 6) + nzo (t 7) + nzo (t 8)
theorem nzc_z : nzc zZ = 0 := rfl
theorem nzc_upd (t : Nat → Int32) {i : Nat} (hi : i < 9) (v : Int32) : nzc (upd t i v) ≤ nzc t + 1 := by
  have h := nzo_le v
  have hi9 : i = 0 ∨ i = 1 ∨ i = 2 ∨ i = 3 ∨ i = 4 ∨ i = 5 ∨ i = 6 ∨ i = 7 ∨ i = 8 := by omega
  unfold nzc
  rcases hi9 with rfl | rfl | rfl | rfl | rfl | rfl | rfl | rfl | rfl <;> simp only [pk_us, pk_un (f := t) (x := v) (show ¬ (0 : Nat) = 1 by decide), upd] <;> simp <;> omega
theorem nzc_all {t : Nat → Int32} (h : ∀ j, j < 9 → ¬ t j = 0) : nzc t = 9 := by
  unfold nzc
  rw [nzo_ne (h 0 (by decide)), nzo_ne (h 1 (by decide)), nzo_ne (h 2 (by decide)), nzo_ne (h 3 (by decide)), nzo_ne (h 4 (by decide)), nzo_ne (h 5 (by decide)), nzo_ne (h 6 (by decide)), nzo_ne (h 7 (by decide)), nzo_ne (h 8 (by decide))]
theorem ring_all {t : Nat → Int32} {a : Nat} (h : ∀ j, j < 9 → ¬ t ((a + j) % 9) = 0) : ∀ j, j < 9 → ¬ t j = 0 := by
  intro j hj
  have h1 := h ((j + 9 - a % 9) % 9) (by omega)
  rw [show (a + (j + 9 - a % 9) % 9) % 9 = j by omega] at h1
  exact h1
def zTv (t : Nat → Int32) : Prop := ∀ j, j < 9 → ∃ k, k ≤ 5 ∧ t j = nI k
theorem zTv_upd {t : Nat → Int32} (h : zTv t) {i v : Nat} (hv : v ≤ 5) : zTv (upd t i (nI v)) := by
  intro j hj
  by_cases e : j = i
  · subst e
    exact ⟨v, hv, pk_us⟩
  · rw [pk_un e]
    exact h j hj
set_option maxHeartbeats 4000000 in
set_option maxRecDepth 100000 in
theorem c_r_deal (l : Launch) (G : zC) (q : Nat) (v0 v1 v2 v3 v4 v5 v6 v7 v8 v9 v10 v11 v12 v14 v15 : Value) (x : Int64) (r o : Nat) (h : Nat → Int32) (b : Nat → Nat → Int32) (ho : o < 4) : zMet l G yX7_deal wsX7_deal rmX7_deal [.ref q, .ref r, .int (nI o)] ([(q, .inr (7, [v0, v1, v2, v3, v4, v5, v6, v7, v8, v9, v10, v11, v12, .long x, v14, v15])), (r, .inl (G.2 1, 121, .inl (flt h b)))]) none ([(q, .inr (7, [v0, v1, v2, v3, v4, v5, v6, v7, v8, v9, v10, v11, v12, .long (zDx zZ x), v14, v15])), (r, .inl (G.2 1, 121, .inl (flt h (va_up b o (zDl zZ x)))))]) := by
  refine zMet_of (cc := cX7_deal) (maxL := 7) (ret := none) (by decide) rfl (Nat.le_of_ble_eq_true rfl) ?_
  intro p e s m below meth c A ls hx hb hr hml hown hts hK hA hE hlocks hin hM hl
  have hown : s.vm.findClass RX7 = some m.cls := hown
  have hM : zM G A s s.heap [] ([(q, .inr (7, [v0, v1, v2, v3, v4, v5, v6, v7, v8, v9, v10, v11, v12, .long x, v14, v15])), (r, .inl (G.2 1, 121, .inl (flt h b)))]) := hM
  have hl : lv_has ls 7 [(0, .ref q), (1, .ref r), (2, .int (nI o))] := hl
  refine lv_iload_n hx hb dX7_deal_0 rfl (lv_at hl 2 rfl) ?_
  refine z_callS (As := [.int (nI o)]) (rest := []) (wc := []) (wr := [(q, .inr (7, [v0, v1, v2, v3, v4, v5, v6, v7, v8, v9, v10, v11, v12, .long x, v14, v15])), (r, .inl (G.2 1, 121, .inl (flt h b)))]) (w1 := []) (ws' := [(q, .inr (7, [v0, v1, v2, v3, v4, v5, v6, v7, v8, v9, v10, v11, v12, .long x, v14, v15])), (r, .inl (G.2 1, 121, .inl (flt h b)))]) ⟨hx, hb, hml, hown, hts⟩ (c_at l G o (by omega)) (va_cwS 1 hts gX7_deal_X7_at rfl rfl rfl (by decide +kernel) ⟨Nat.le_of_ble_eq_true rfl, Nat.le_of_ble_eq_true rfl⟩) rfl hl.1 rfl (Nat.le_of_ble_eq_true rfl) dX7_deal_1 ⟨Nat.le_of_ble_eq_true rfl, Nat.le_of_ble_eq_true rfl⟩ hK hE hA hM (List.Perm.refl _) (List.Perm.refl _) (fun H locs hM hz => ?_)
  refine lv_istore_n (lv' := [(3, .int (nI (9 + (28 * o)))), (0, .ref q), (1, .ref r), (2, .int (nI o))]) hx hb dX7_deal_4 rfl hl (by decide) rfl (fun ls hl => ?_)
  refine lv_iconst (v := nI 0) hx hb dX7_deal_5 (by decide) ?_
  refine lv_istore (lv' := [(4, .int (nI 0)), (3, .int (nI (9 + (28 * o)))), (0, .ref q), (1, .ref r), (2, .int (nI o))]) hx hb dX7_deal_6 hl (by decide) rfl (fun ls hl => ?_)
  have lp8 : ∀ (k1 : Nat) (w0 : Nat), (w0 + k1 = 28) → ∀ (H : Heap) (locs : List Loc), zM G A s H locs ([(q, .inr (7, [v0, v1, v2, v3, v4, v5, v6, v7, v8, v9, v10, v11, v12, .long x, v14, v15])), (r, .inl (G.2 1, 121, .inl (flt h (va_up b o (clr (b o) w0)))))]) → ∀ ls : Array Slot, lv_has ls 7 [(0, .ref q), (1, .ref r), (2, .int (nI o)), (3, .int (nI (9 + (28 * o)))), (4, .int (nI w0))] → W p l e rmX7_deal s m ([.ref q, .ref r, .int (nI o)] : List Value).toArray below meth c H locs 0 0 (zEnd G below ([.ref q, .ref r, .int (nI o)] : List Value).toArray s rmX7_deal A none ([(q, .inr (7, [v0, v1, v2, v3, v4, v5, v6, v7, v8, v9, v10, v11, v12, .long (zDx zZ x), v14, v15])), (r, .inl (G.2 1, 121, .inl (flt h (va_up b o (zDl zZ x)))))])) (F0 m 8 ls []) := by
    intro k1
    induction k1 with
    | zero =>
      intro w0 hik H locs hM ls hl
      obtain rfl : w0 = 28 := by omega
      refine lv_iload hx hb dX7_deal_8 (lv_at hl 4 rfl) ?_
      refine lv_bipush (v := 28) hx hb dX7_deal_10 (by decide) ?_
      refine z_topi (y := nI 28) rfl ?_
      refine lv_icmp_ge (tgt := 28) hx hb dX7_deal_12 (by decide) (fun c_1 => ?_) (fun c_1 => absurd (nI_le (by omega) (by omega)) c_1)
      have hs8 := flt_sim (G := G) (r := r) (h := h) (b := b) (k := o) (clr_bk (b o))
      have hs8b : zSim ([(q, .inr (7, [v0, v1, v2, v3, v4, v5, v6, v7, v8, v9, v10, v11, v12, .long x, v14, v15])), (r, .inl (G.2 1, 121, .inl (flt h (va_up b o (clr (b o) 28)))))]) ([(q, .inr (7, [v0, v1, v2, v3, v4, v5, v6, v7, v8, v9, v10, v11, v12, .long x, v14, v15])), (r, .inl (G.2 1, 121, .inl (flt h (va_up b o (bk zZ zZ zZ)))))]) := ⟨zSame_rf _, hs8.1, trivial⟩
      have hM : zM G A s H locs ([(q, .inr (7, [v0, v1, v2, v3, v4, v5, v6, v7, v8, v9, v10, v11, v12, .long x, v14, v15])), (r, .inl (G.2 1, 121, .inl (flt h (va_up b o (bk zZ zZ zZ)))))]) := zM_sim hs8b hM
      refine lv_iconst (v := nI 0) hx hb dX7_deal_28 (by decide) ?_
      refine lv_istore (lv' := [(4, .int (nI 0)), (0, .ref q), (1, .ref r), (2, .int (nI o)), (3, .int (nI (9 + (28 * o))))]) hx hb dX7_deal_29 hl (by decide) rfl (fun ls hl => ?_)
      have lp31 : ∀ (k1 : Nat) (i : Nat) (y : Int64) (o9 : Nat → Int32), (i + k1 = 9) → (zDa zZ x = zIt zS1 k1 i (y, o9, zZ)) → ∀ (H : Heap) (locs : List Loc), zM G A s H locs ([(q, .inr (7, [v0, v1, v2, v3, v4, v5, v6, v7, v8, v9, v10, v11, v12, .long y, v14, v15])), (r, .inl (G.2 1, 121, .inl (flt h (va_up b o (bk o9 zZ zZ)))))]) → ∀ ls : Array Slot, lv_has ls 7 [(0, .ref q), (1, .ref r), (2, .int (nI o)), (3, .int (nI (9 + (28 * o)))), (4, .int (nI i))] → W p l e rmX7_deal s m ([.ref q, .ref r, .int (nI o)] : List Value).toArray below meth c H locs 0 0 (zEnd G below ([.ref q, .ref r, .int (nI o)] : List Value).toArray s rmX7_deal A none ([(q, .inr (7, [v0, v1, v2, v3, v4, v5, v6, v7, v8, v9, v10, v11, v12, .long (zDx zZ x), v14, v15])), (r, .inl (G.2 1, 121, .inl (flt h (va_up b o (zDl zZ x)))))])) (F0 m 31 ls []) := by
        intro k1
        induction k1 with
        | zero =>
          intro i y o9 hik h1 H locs hM ls hl
          have e1 : zDa zZ x = (y, o9, zZ) := by rw [h1, zIt_0]
          refine lv_iload hx hb dX7_deal_31 (lv_at hl 4 rfl) ?_
          refine lv_bipush (v := 9) hx hb dX7_deal_33 (by decide) ?_
          refine z_topi (y := nI 9) rfl ?_
          refine lv_icmp_ge (tgt := 60) hx hb dX7_deal_35 (by decide) (fun c_2 => ?_) (fun c_2 => absurd (nI_le (by omega) (by omega)) c_2)
          refine lv_iconst (v := nI 1) hx hb dX7_deal_60 (by decide) ?_
          refine lv_istore (lv' := [(4, .int (nI 1)), (0, .ref q), (1, .ref r), (2, .int (nI o)), (3, .int (nI (9 + (28 * o))))]) hx hb dX7_deal_61 hl (by decide) rfl (fun ls hl => ?_)
          have lp63 : ∀ (k2 : Nat) (i : Nat) (y : Int64) (t9 r5 : Nat → Int32), (i + k2 = 6) → (1 ≤ i) → (zDb zZ x = zIt zS2 k2 i (y, t9)) → (zDo3 zZ = zIt zS3 k2 (i - 1) r5) → (nzc t9 < i) → (zTv t9) → ∀ (H : Heap) (locs : List Loc), zM G A s H locs ([(q, .inr (7, [v0, v1, v2, v3, v4, v5, v6, v7, v8, v9, v10, v11, v12, .long y, v14, v15])), (r, .inl (G.2 1, 121, .inl (flt h (va_up b o (bk o9 t9 r5)))))]) → ∀ ls : Array Slot, lv_has ls 7 [(0, .ref q), (1, .ref r), (2, .int (nI o)), (3, .int (nI (9 + (28 * o)))), (4, .int (nI i))] → W p l e rmX7_deal s m ([.ref q, .ref r, .int (nI o)] : List Value).toArray below meth c H locs 0 0 (zEnd G below ([.ref q, .ref r, .int (nI o)] : List Value).toArray s rmX7_deal A none ([(q, .inr (7, [v0, v1, v2, v3, v4, v5, v6, v7, v8, v9, v10, v11, v12, .long (zDx zZ x), v14, v15])), (r, .inl (G.2 1, 121, .inl (flt h (va_up b o (zDl zZ x)))))])) (F0 m 63 ls []) := by
            intro k2
            induction k2 with
            | zero =>
              intro i y t9 r5 hik hi1 h2 h3 hz9 htv H locs hM ls hl
              have e2 : zDb zZ x = (y, t9) := by rw [h2, zIt_0]
              have e3 : zDo3 zZ = r5 := by rw [h3, zIt_0]
              refine lv_iload hx hb dX7_deal_63 (lv_at hl 4 rfl) ?_
              refine lv_iconst (v := 5) hx hb dX7_deal_65 (by decide) ?_
              refine z_topi (y := nI 5) rfl ?_
              refine lv_icmp_gt (tgt := 131) hx hb dX7_deal_66 (by decide) (fun c_3 => ?_) (fun c_3 => absurd (nI_lt (by omega) (by omega)) c_3)
              refine lv_iconst (v := nI 4) hx hb dX7_deal_131 (by decide) ?_
              refine lv_istore (lv' := [(4, .int (nI 4)), (0, .ref q), (1, .ref r), (2, .int (nI o)), (3, .int (nI (9 + (28 * o))))]) hx hb dX7_deal_132 hl (by decide) rfl (fun ls hl => ?_)
              have lp134 : ∀ (k : Nat) (i : Nat) (y : Int64) (r5 : Nat → Int32), (i = k) → (zDc zZ x = zItd zS4 k (y, r5)) → (i ≤ 4) → ∀ (H : Heap) (locs : List Loc), zM G A s H locs ([(q, .inr (7, [v0, v1, v2, v3, v4, v5, v6, v7, v8, v9, v10, v11, v12, .long y, v14, v15])), (r, .inl (G.2 1, 121, .inl (flt h (va_up b o (bk o9 t9 r5)))))]) → ∀ ls : Array Slot, lv_has ls 7 [(0, .ref q), (1, .ref r), (2, .int (nI o)), (3, .int (nI (9 + (28 * o)))), (4, .int (nI i))] → W p l e rmX7_deal s m ([.ref q, .ref r, .int (nI o)] : List Value).toArray below meth c H locs 0 0 (zEnd G below ([.ref q, .ref r, .int (nI o)] : List Value).toArray s rmX7_deal A none ([(q, .inr (7, [v0, v1, v2, v3, v4, v5, v6, v7, v8, v9, v10, v11, v12, .long (zDx zZ x), v14, v15])), (r, .inl (G.2 1, 121, .inl (flt h (va_up b o (zDl zZ x)))))])) (F0 m 134 ls []) := by
                intro k
                induction k with
                | zero =>
                  intro i y r5 hik h4 hi4 H locs hM ls hl
                  subst hik
                  have e4 : zDc zZ x = (y, r5) := by rw [h4, zItd_0]
                  refine lv_iload hx hb dX7_deal_134 (lv_at hl 4 rfl) ?_
                  refine lv_if_le (tgt := 195) hx hb dX7_deal_136 (by decide) (fun c_4 => ?_) (fun c_4 => absurd (Int32.le_refl 0) c_4)
                  refine lv_aload_n hx hb dX7_deal_195 rfl (lv_at hl 1 rfl) ?_
                  refine lv_iload_n hx hb dX7_deal_196 rfl (lv_at hl 3 rfl) ?_
                  refine lv_bipush (v := 24) hx hb dX7_deal_197 (by decide) ?_
                  refine lv_iadd hx hb dX7_deal_199 ?_
                  refine z_topi (y := nI ((9 + (28 * o)) + 24)) (nI_add (9 + (28 * o)) 24) ?_
                  refine lv_iconst (v := 4) hx hb dX7_deal_200 (by decide) ?_
                  refine z_iast (ws' := [(q, .inr (7, [v0, v1, v2, v3, v4, v5, v6, v7, v8, v9, v10, v11, v12, .long y, v14, v15])), (r, .inl (G.2 1, 121, .inl (flt h (va_up (va_up b o (bk o9 t9 r5)) o (upd ((va_up b o (bk o9 t9 r5)) o) 24 4)))))]) hx hb hK hM 1 rfl (vp_in_nI (by omega) (by decide)) dX7_deal_201 (by rw [nI_clamp (by omega), flt_ub o 24 (by omega) (by omega)]; rfl) (fun H locs hM => ?_)
                  rw [va_upup, va_ups] at hM
                  have hM : zM G A s H locs ([(q, .inr (7, [v0, v1, v2, v3, v4, v5, v6, v7, v8, v9, v10, v11, v12, .long y, v14, v15])), (r, .inl (G.2 1, 121, .inl (flt h (va_up b o (upd (bk o9 t9 r5) 24 4)))))]) := hM
                  refine lv_aload_n hx hb dX7_deal_202 rfl (lv_at hl 1 rfl) ?_
                  refine lv_iload_n hx hb dX7_deal_203 rfl (lv_at hl 3 rfl) ?_
                  refine lv_bipush (v := 25) hx hb dX7_deal_204 (by decide) ?_
                  refine lv_iadd hx hb dX7_deal_206 ?_
                  refine z_topi (y := nI ((9 + (28 * o)) + 25)) (nI_add (9 + (28 * o)) 25) ?_
                  refine lv_iconst (v := (-1)) hx hb dX7_deal_207 (by decide) ?_
                  refine z_iast (ws' := [(q, .inr (7, [v0, v1, v2, v3, v4, v5, v6, v7, v8, v9, v10, v11, v12, .long y, v14, v15])), (r, .inl (G.2 1, 121, .inl (flt h (va_up (va_up b o (upd (bk o9 t9 r5) 24 4)) o (upd ((va_up b o (upd (bk o9 t9 r5) 24 4)) o) 25 (-1))))))]) hx hb hK hM 1 rfl (vp_in_nI (by omega) (by decide)) dX7_deal_208 (by rw [nI_clamp (by omega), flt_ub o 25 (by omega) (by omega)]; rfl) (fun H locs hM => ?_)
                  rw [va_upup, va_ups] at hM
                  have hM : zM G A s H locs ([(q, .inr (7, [v0, v1, v2, v3, v4, v5, v6, v7, v8, v9, v10, v11, v12, .long y, v14, v15])), (r, .inl (G.2 1, 121, .inl (flt h (va_up b o (upd (upd (bk o9 t9 r5) 24 4) 25 (-1))))))]) := hM
                  refine lv_aload_n hx hb dX7_deal_209 rfl (lv_at hl 1 rfl) ?_
                  refine lv_iload_n hx hb dX7_deal_210 rfl (lv_at hl 3 rfl) ?_
                  refine lv_bipush (v := 26) hx hb dX7_deal_211 (by decide) ?_
                  refine lv_iadd hx hb dX7_deal_213 ?_
                  refine z_topi (y := nI ((9 + (28 * o)) + 26)) (nI_add (9 + (28 * o)) 26) ?_
                  refine lv_iconst (v := (-1)) hx hb dX7_deal_214 (by decide) ?_
                  refine z_iast (ws' := [(q, .inr (7, [v0, v1, v2, v3, v4, v5, v6, v7, v8, v9, v10, v11, v12, .long y, v14, v15])), (r, .inl (G.2 1, 121, .inl (flt h (va_up (va_up b o (upd (upd (bk o9 t9 r5) 24 4) 25 (-1))) o (upd ((va_up b o (upd (upd (bk o9 t9 r5) 24 4) 25 (-1))) o) 26 (-1))))))]) hx hb hK hM 1 rfl (vp_in_nI (by omega) (by decide)) dX7_deal_215 (by rw [nI_clamp (by omega), flt_ub o 26 (by omega) (by omega)]; rfl) (fun H locs hM => ?_)
                  rw [va_upup, va_ups] at hM
                  have hM : zM G A s H locs ([(q, .inr (7, [v0, v1, v2, v3, v4, v5, v6, v7, v8, v9, v10, v11, v12, .long y, v14, v15])), (r, .inl (G.2 1, 121, .inl (flt h (va_up b o (upd (upd (upd (bk o9 t9 r5) 24 4) 25 (-1)) 26 (-1))))))]) := hM
                  refine lv_aload_n hx hb dX7_deal_216 rfl (lv_at hl 1 rfl) ?_
                  refine lv_iload_n hx hb dX7_deal_217 rfl (lv_at hl 3 rfl) ?_
                  refine lv_bipush (v := 27) hx hb dX7_deal_218 (by decide) ?_
                  refine lv_iadd hx hb dX7_deal_220 ?_
                  refine z_topi (y := nI ((9 + (28 * o)) + 27)) (nI_add (9 + (28 * o)) 27) ?_
                  refine lv_iconst (v := (-1)) hx hb dX7_deal_221 (by decide) ?_
                  refine z_iast (ws' := [(q, .inr (7, [v0, v1, v2, v3, v4, v5, v6, v7, v8, v9, v10, v11, v12, .long y, v14, v15])), (r, .inl (G.2 1, 121, .inl (flt h (va_up (va_up b o (upd (upd (upd (bk o9 t9 r5) 24 4) 25 (-1)) 26 (-1))) o (upd ((va_up b o (upd (upd (upd (bk o9 t9 r5) 24 4) 25 (-1)) 26 (-1))) o) 27 (-1))))))]) hx hb hK hM 1 rfl (vp_in_nI (by omega) (by decide)) dX7_deal_222 (by rw [nI_clamp (by omega), flt_ub o 27 (by omega) (by omega)]; rfl) (fun H locs hM => ?_)
                  rw [va_upup, va_ups] at hM
                  have hM : zM G A s H locs ([(q, .inr (7, [v0, v1, v2, v3, v4, v5, v6, v7, v8, v9, v10, v11, v12, .long y, v14, v15])), (r, .inl (G.2 1, 121, .inl (flt h (va_up b o (upd (upd (upd (upd (bk o9 t9 r5) 24 4) 25 (-1)) 26 (-1)) 27 (-1))))))]) := hM
                  have hs9 := flt_sim (G := G) (r := r) (h := h) (b := b) (k := o) (dl_bk e1 e2 e4)
                  have hs9b : zSim ([(q, .inr (7, [v0, v1, v2, v3, v4, v5, v6, v7, v8, v9, v10, v11, v12, .long y, v14, v15])), (r, .inl (G.2 1, 121, .inl (flt h (va_up b o (upd (upd (upd (upd (bk o9 t9 r5) 24 4) 25 (-1)) 26 (-1)) 27 (-1))))))]) ([(q, .inr (7, [v0, v1, v2, v3, v4, v5, v6, v7, v8, v9, v10, v11, v12, .long y, v14, v15])), (r, .inl (G.2 1, 121, .inl (flt h (va_up b o (zDl zZ x)))))]) := ⟨zSame_rf _, hs9.1, trivial⟩
                  have hM : zM G A s H locs ([(q, .inr (7, [v0, v1, v2, v3, v4, v5, v6, v7, v8, v9, v10, v11, v12, .long y, v14, v15])), (r, .inl (G.2 1, 121, .inl (flt h (va_up b o (zDl zZ x)))))]) := zM_sim hs9b hM
                  have ex : zDx zZ x = y := by rw [zDx_e, e4]
                  exact z_vret hx hb hr hlocks dX7_deal_223 (by rw [ex]; exact hM) (Nat.le_of_ble_eq_true rfl) (Nat.le_of_ble_eq_true rfl)
                | succ k ih =>
                  intro i y r5 hik h4 hi4 H locs hM ls hl
                  subst hik
                  refine lv_iload hx hb dX7_deal_134 (lv_at hl 4 rfl) ?_
                  refine lv_if_le (tgt := 195) hx hb dX7_deal_136 (by decide) (fun c_5 => absurd ((nI_le0 (by omega)).mp c_5) (by omega)) (fun c_5 => ?_)
                  refine lv_aload_n hx hb dX7_deal_139 rfl (lv_at hl 0 rfl) ?_
                  refine lv_iload hx hb dX7_deal_140 (lv_at hl 4 rfl) ?_
                  refine lv_iconst (v := 1) hx hb dX7_deal_142 (by decide) ?_
                  refine lv_iadd hx hb dX7_deal_143 ?_
                  refine z_topi (y := nI ((k + 1) + 1)) (nI_add (k + 1) 1) ?_
                  refine z_callV (As := [.int (nI ((k + 1) + 1))]) (rest := []) (wc := [(q, .inr (7, [v0, v1, v2, v3, v4, v5, v6, v7, v8, v9, v10, v11, v12, .long y, v14, v15]))]) (wr := [(r, .inl (G.2 1, 121, .inl (flt h (va_up b o (bk o9 t9 r5)))))]) (w1 := [(q, .inr (7, [v0, v1, v2, v3, v4, v5, v6, v7, v8, v9, v10, v11, v12, .long (zNx y), v14, v15]))]) (ws' := [(q, .inr (7, [v0, v1, v2, v3, v4, v5, v6, v7, v8, v9, v10, v11, v12, .long (zNx y), v14, v15])), (r, .inl (G.2 1, 121, .inl (flt h (va_up b o (bk o9 t9 r5)))))]) ⟨hx, hb, hml, hown, hts⟩ (c_drawn l G q v0 v1 v2 v3 v4 v5 v6 v7 v8 v9 v10 v11 v12 v14 v15 y ((k + 1) + 1) (by omega) (by omega)) (cwV 1 hts gX7_deal_X7_drawn rfl rfl rfl (by decide +kernel) ⟨Nat.le_of_ble_eq_true rfl, Nat.le_of_ble_eq_true rfl⟩) 7 rfl rfl rfl rfl hl.1 rfl (Nat.le_of_ble_eq_true rfl) dX7_deal_144 ⟨Nat.le_of_ble_eq_true rfl, Nat.le_of_ble_eq_true rfl⟩ hK hE hA hM (pm_at 2 [0] [1] rfl rfl rfl (by decide)) ((pm_at 2 [0] [1] rfl rfl rfl (by decide))).symm (fun H locs hM hz => ?_)
                  have hm5 : (zRk y % (k + 1 + 1)) < 5 := Nat.lt_of_lt_of_le (Nat.mod_lt _ (by omega)) (by omega)
                  refine lv_istore (lv' := [(5, .int (nI (zRk y % ((k + 1) + 1)))), (0, .ref q), (1, .ref r), (2, .int (nI o)), (3, .int (nI (9 + (28 * o)))), (4, .int (nI (k + 1)))]) hx hb dX7_deal_147 hl (by decide) rfl (fun ls hl => ?_)
                  refine lv_aload_n hx hb dX7_deal_149 rfl (lv_at hl 2 rfl) ?_
                  refine lv_iload_n hx hb dX7_deal_150 rfl (lv_at hl 4 rfl) ?_
                  refine lv_bipush (v := 18) hx hb dX7_deal_151 (by decide) ?_
                  refine lv_iadd hx hb dX7_deal_153 ?_
                  refine z_topi (y := nI ((9 + (28 * o)) + 18)) (nI_add (9 + (28 * o)) 18) ?_
                  refine lv_iload hx hb dX7_deal_154 (lv_at hl 5 rfl) ?_
                  refine lv_iadd hx hb dX7_deal_156 ?_
                  refine z_topi (y := nI (((9 + (28 * o)) + 18) + (k + 1))) (nI_add ((9 + (28 * o)) + 18) (k + 1)) ?_
                  refine z_iald hx hb hK hM 1 rfl (v := r5 (k + 1)) (vp_in_nI (by omega) (by decide)) (by rw [nI_clamp (by omega), flt_b o (18 + (k + 1)) (by omega) (by omega), va_ups, bk_ra (by omega)]) dX7_deal_157 ?_
                  refine lv_istore (lv' := [(6, .int (r5 (k + 1))), (5, .int (nI (zRk y % ((k + 1) + 1)))), (0, .ref q), (1, .ref r), (2, .int (nI o)), (3, .int (nI (9 + (28 * o)))), (4, .int (nI (k + 1)))]) hx hb dX7_deal_158 hl (by decide) rfl (fun ls hl => ?_)
                  refine lv_aload_n hx hb dX7_deal_160 rfl (lv_at hl 3 rfl) ?_
                  refine lv_iload_n hx hb dX7_deal_161 rfl (lv_at hl 5 rfl) ?_
                  refine lv_bipush (v := 18) hx hb dX7_deal_162 (by decide) ?_
                  refine lv_iadd hx hb dX7_deal_164 ?_
                  refine z_topi (y := nI ((9 + (28 * o)) + 18)) (nI_add (9 + (28 * o)) 18) ?_
                  refine lv_iload hx hb dX7_deal_165 (lv_at hl 6 rfl) ?_
                  refine lv_iadd hx hb dX7_deal_167 ?_
                  refine z_topi (y := nI (((9 + (28 * o)) + 18) + (k + 1))) (nI_add ((9 + (28 * o)) + 18) (k + 1)) ?_
                  refine lv_aload_n hx hb dX7_deal_168 rfl (lv_at hl 3 rfl) ?_
                  refine lv_iload_n hx hb dX7_deal_169 rfl (lv_at hl 5 rfl) ?_
                  refine lv_bipush (v := 18) hx hb dX7_deal_170 (by decide) ?_
                  refine lv_iadd hx hb dX7_deal_172 ?_
                  refine z_topi (y := nI ((9 + (28 * o)) + 18)) (nI_add (9 + (28 * o)) 18) ?_
                  refine lv_iload hx hb dX7_deal_173 (lv_at hl 1 rfl) ?_
                  refine lv_iadd hx hb dX7_deal_175 ?_
                  refine z_topi (y := nI (((9 + (28 * o)) + 18) + (zRk y % ((k + 1) + 1)))) (nI_add ((9 + (28 * o)) + 18) (zRk y % ((k + 1) + 1))) ?_
                  refine z_iald hx hb hK hM 1 rfl (v := r5 (zRk y % (k + 1 + 1))) (vp_in_nI (by omega) (by decide)) (by rw [nI_clamp (by omega), flt_b o (18 + (zRk y % (k + 1 + 1))) (by omega) (by omega), va_ups, bk_ra hm5]) dX7_deal_176 ?_
                  refine z_iast (ws' := [(q, .inr (7, [v0, v1, v2, v3, v4, v5, v6, v7, v8, v9, v10, v11, v12, .long (zNx y), v14, v15])), (r, .inl (G.2 1, 121, .inl (flt h (va_up (va_up b o (bk o9 t9 r5)) o (upd ((va_up b o (bk o9 t9 r5)) o) (18 + (k + 1)) (r5 (zRk y % (k + 1 + 1))))))))]) hx hb hK hM 1 rfl (vp_in_nI (by omega) (by decide)) dX7_deal_177 (by rw [nI_clamp (by omega), flt_ub o (18 + (k + 1)) (by omega) (by omega)]; rfl) (fun H locs hM => ?_)
                  rw [va_upup, va_ups, bk_r (by omega)] at hM
                  have hM : zM G A s H locs ([(q, .inr (7, [v0, v1, v2, v3, v4, v5, v6, v7, v8, v9, v10, v11, v12, .long (zNx y), v14, v15])), (r, .inl (G.2 1, 121, .inl (flt h (va_up b o (bk o9 t9 (upd r5 (k + 1) (r5 (zRk y % (k + 1 + 1)))))))))]) := hM
                  refine lv_aload_n hx hb dX7_deal_178 rfl (lv_at hl 3 rfl) ?_
                  refine lv_iload_n hx hb dX7_deal_179 rfl (lv_at hl 5 rfl) ?_
                  refine lv_bipush (v := 18) hx hb dX7_deal_180 (by decide) ?_
                  refine lv_iadd hx hb dX7_deal_182 ?_
                  refine z_topi (y := nI ((9 + (28 * o)) + 18)) (nI_add (9 + (28 * o)) 18) ?_
                  refine lv_iload hx hb dX7_deal_183 (lv_at hl 1 rfl) ?_
                  refine lv_iadd hx hb dX7_deal_185 ?_
                  refine z_topi (y := nI (((9 + (28 * o)) + 18) + (zRk y % ((k + 1) + 1)))) (nI_add ((9 + (28 * o)) + 18) (zRk y % ((k + 1) + 1))) ?_
                  refine lv_iload hx hb dX7_deal_186 (lv_at hl 0 rfl) ?_
                  refine z_iast (ws' := [(q, .inr (7, [v0, v1, v2, v3, v4, v5, v6, v7, v8, v9, v10, v11, v12, .long (zNx y), v14, v15])), (r, .inl (G.2 1, 121, .inl (flt h (va_up (va_up b o (bk o9 t9 (upd r5 (k + 1) (r5 (zRk y % (k + 1 + 1)))))) o (upd ((va_up b o (bk o9 t9 (upd r5 (k + 1) (r5 (zRk y % (k + 1 + 1)))))) o) (18 + (zRk y % (k + 1 + 1))) (r5 (k + 1)))))))]) hx hb hK hM 1 rfl (vp_in_nI (by omega) (by decide)) dX7_deal_188 (by rw [nI_clamp (by omega), flt_ub o (18 + (zRk y % (k + 1 + 1))) (by omega) (by omega)]; rfl) (fun H locs hM => ?_)
                  rw [va_upup, va_ups, bk_r hm5] at hM
                  have hM : zM G A s H locs ([(q, .inr (7, [v0, v1, v2, v3, v4, v5, v6, v7, v8, v9, v10, v11, v12, .long (zNx y), v14, v15])), (r, .inl (G.2 1, 121, .inl (flt h (va_up b o (bk o9 t9 (upd (upd r5 (k + 1) (r5 (zRk y % (k + 1 + 1)))) (zRk y % (k + 1 + 1)) (r5 (k + 1))))))))]) := hM
                  refine lv_iinc (v := nI k) (lv' := [(4, .int (nI k)), (6, .int (r5 (k + 1))), (5, .int (nI (zRk y % ((k + 1) + 1)))), (0, .ref q), (1, .ref r), (2, .int (nI o)), (3, .int (nI (9 + (28 * o))))]) hx hb dX7_deal_189 hl (k := 6) rfl (pk_m1 k) (by decide) rfl (fun ls hl => ?_)
                  refine lv_goto (tgt := 134) hx hb dX7_deal_192 (by decide) ?_
                  exact ih k (zNx y) _ rfl (by rw [h4, zItd_s, zS4_e]; rfl) (by omega) _ _ hM _ (lv_sub hl [3, 4, 5, 6, 0] rfl)
              exact lp134 4 4 y r5 rfl (by rw [zDc_e, e2, e3]) (by decide) _ _ hM _ (lv_sub hl [1, 2, 3, 4, 0] rfl)
            | succ k2 ihk2 =>
              intro i y t9 r5 hik hi1 h2 h3 hz9 htv H locs hM ls hl
              refine lv_iload hx hb dX7_deal_63 (lv_at hl 4 rfl) ?_
              refine lv_iconst (v := 5) hx hb dX7_deal_65 (by decide) ?_
              refine z_topi (y := nI 5) rfl ?_
              refine lv_icmp_gt (tgt := 131) hx hb dX7_deal_66 (by decide) (fun c_6 => absurd c_6 (nI_nlt (by omega) (by omega))) (fun c_6 => ?_)
              refine lv_aload_n hx hb dX7_deal_69 rfl (lv_at hl 0 rfl) ?_
              refine lv_bipush (v := nI 9) hx hb dX7_deal_70 (by decide) ?_
              refine z_callV (As := [.int (nI 9)]) (rest := []) (wc := [(q, .inr (7, [v0, v1, v2, v3, v4, v5, v6, v7, v8, v9, v10, v11, v12, .long y, v14, v15]))]) (wr := [(r, .inl (G.2 1, 121, .inl (flt h (va_up b o (bk o9 t9 r5)))))]) (w1 := [(q, .inr (7, [v0, v1, v2, v3, v4, v5, v6, v7, v8, v9, v10, v11, v12, .long (zNx y), v14, v15]))]) (ws' := [(q, .inr (7, [v0, v1, v2, v3, v4, v5, v6, v7, v8, v9, v10, v11, v12, .long (zNx y), v14, v15])), (r, .inl (G.2 1, 121, .inl (flt h (va_up b o (bk o9 t9 r5)))))]) ⟨hx, hb, hml, hown, hts⟩ (c_drawn l G q v0 v1 v2 v3 v4 v5 v6 v7 v8 v9 v10 v11 v12 v14 v15 y 9 (by omega) (by omega)) (cwV 1 hts gX7_deal_X7_drawn rfl rfl rfl (by decide +kernel) ⟨Nat.le_of_ble_eq_true rfl, Nat.le_of_ble_eq_true rfl⟩) 7 rfl rfl rfl rfl hl.1 rfl (Nat.le_of_ble_eq_true rfl) dX7_deal_72 ⟨Nat.le_of_ble_eq_true rfl, Nat.le_of_ble_eq_true rfl⟩ hK hE hA hM (pm_at 2 [0] [1] rfl rfl rfl (by decide)) ((pm_at 2 [0] [1] rfl rfl rfl (by decide))).symm (fun H locs hM hz => ?_)
              refine z_topi (y := nI ((zRk y % 9 + 0) % 9)) (by rw [Nat.add_zero, Nat.mod_mod]) ?_
              refine lv_istore (lv' := [(5, .int (nI ((zRk y % 9 + 0) % 9))), (0, .ref q), (1, .ref r), (2, .int (nI o)), (3, .int (nI (9 + (28 * o)))), (4, .int (nI i))]) hx hb dX7_deal_75 hl (by decide) rfl (fun ls hl => ?_)
              have lp77 : ∀ (k3 : Nat) (j : Nat), (j + k3 = 9) → (zHd (nI i) (zRk y % 9) t9 9 0 = zHd (nI i) (zRk y % 9) t9 k3 j) → (∀ z, z < j → ¬ t9 ((zRk y % 9 + z) % 9) = 0) → ∀ (H : Heap) (locs : List Loc), zM G A s H locs ([(q, .inr (7, [v0, v1, v2, v3, v4, v5, v6, v7, v8, v9, v10, v11, v12, .long (zNx y), v14, v15])), (r, .inl (G.2 1, 121, .inl (flt h (va_up b o (bk o9 t9 r5)))))]) → ∀ ls : Array Slot, lv_has ls 7 [(0, .ref q), (1, .ref r), (2, .int (nI o)), (3, .int (nI (9 + (28 * o)))), (4, .int (nI i)), (5, .int (nI ((zRk y % 9 + j) % 9)))] → W p l e rmX7_deal s m ([.ref q, .ref r, .int (nI o)] : List Value).toArray below meth c H locs 0 0 (zEnd G below ([.ref q, .ref r, .int (nI o)] : List Value).toArray s rmX7_deal A none ([(q, .inr (7, [v0, v1, v2, v3, v4, v5, v6, v7, v8, v9, v10, v11, v12, .long (zDx zZ x), v14, v15])), (r, .inl (G.2 1, 121, .inl (flt h (va_up b o (zDl zZ x)))))])) (F0 m 77 ls []) := by
                intro k3
                induction k3 with
                | zero =>
                  intro j hjk hH hoc H locs hM ls hl
                  exact absurd (nzc_all (ring_all (a := zRk y % 9) (fun z hz8 => hoc z (by omega)))) (by omega)
                | succ k3 ihk3 =>
                  intro j hjk hH hoc H locs hM ls hl
                  have hm9 : ((zRk y % 9 + j) % 9) < 9 := Nat.mod_lt _ (by decide)
                  refine lv_aload_n hx hb dX7_deal_77 rfl (lv_at hl 1 rfl) ?_
                  refine lv_iload_n hx hb dX7_deal_78 rfl (lv_at hl 3 rfl) ?_
                  refine lv_bipush (v := 9) hx hb dX7_deal_79 (by decide) ?_
                  refine lv_iadd hx hb dX7_deal_81 ?_
                  refine z_topi (y := nI ((9 + (28 * o)) + 9)) (nI_add (9 + (28 * o)) 9) ?_
                  refine lv_iload hx hb dX7_deal_82 (lv_at hl 5 rfl) ?_
                  refine lv_iadd hx hb dX7_deal_84 ?_
                  refine z_topi (y := nI (((9 + (28 * o)) + 9) + ((zRk y % 9 + j) % 9))) (nI_add ((9 + (28 * o)) + 9) ((zRk y % 9 + j) % 9)) ?_
                  refine z_iald hx hb hK hM 1 rfl (v := t9 ((zRk y % 9 + j) % 9)) (vp_in_nI (by omega) (by decide)) (by rw [nI_clamp (by omega), flt_b o (9 + ((zRk y % 9 + j) % 9)) (by omega) (by omega), va_ups, bk_ta hm9]) dX7_deal_85 ?_
                  refine lv_if_le (tgt := 101) hx hb dX7_deal_86 (by decide) (fun c_g => ?_) (fun c_g => ?_)
                  · have e0 : t9 ((zRk y % 9 + j) % 9) = 0 := by obtain ⟨z8, hz8, ez8⟩ := htv _ hm9; rw [ez8] at c_g ⊢; rw [(nI_le0 (by omega)).mp c_g]; rfl
                    refine lv_aload_n hx hb dX7_deal_101 rfl (lv_at hl 1 rfl) ?_
                    refine lv_iload_n hx hb dX7_deal_102 rfl (lv_at hl 3 rfl) ?_
                    refine lv_bipush (v := 9) hx hb dX7_deal_103 (by decide) ?_
                    refine lv_iadd hx hb dX7_deal_105 ?_
                    refine z_topi (y := nI ((9 + (28 * o)) + 9)) (nI_add (9 + (28 * o)) 9) ?_
                    refine lv_iload hx hb dX7_deal_106 (lv_at hl 5 rfl) ?_
                    refine lv_iadd hx hb dX7_deal_108 ?_
                    refine z_topi (y := nI (((9 + (28 * o)) + 9) + ((zRk y % 9 + j) % 9))) (nI_add ((9 + (28 * o)) + 9) ((zRk y % 9 + j) % 9)) ?_
                    refine lv_iload hx hb dX7_deal_109 (lv_at hl 4 rfl) ?_
                    refine z_iast (ws' := [(q, .inr (7, [v0, v1, v2, v3, v4, v5, v6, v7, v8, v9, v10, v11, v12, .long (zNx y), v14, v15])), (r, .inl (G.2 1, 121, .inl (flt h (va_up (va_up b o (bk o9 t9 r5)) o (upd ((va_up b o (bk o9 t9 r5)) o) (9 + ((zRk y % 9 + j) % 9)) (nI i))))))]) hx hb hK hM 1 rfl (vp_in_nI (by omega) (by decide)) dX7_deal_111 (by rw [nI_clamp (by omega), flt_ub o (9 + ((zRk y % 9 + j) % 9)) (by omega) (by omega)]; rfl) (fun H locs hM => ?_)
                    rw [va_upup, va_ups, bk_t hm9] at hM
                    have hM : zM G A s H locs ([(q, .inr (7, [v0, v1, v2, v3, v4, v5, v6, v7, v8, v9, v10, v11, v12, .long (zNx y), v14, v15])), (r, .inl (G.2 1, 121, .inl (flt h (va_up b o (bk o9 (upd t9 ((zRk y % 9 + j) % 9) (nI i)) r5)))))]) := hM
                    refine lv_aload_n hx hb dX7_deal_112 rfl (lv_at hl 1 rfl) ?_
                    refine lv_iload_n hx hb dX7_deal_113 rfl (lv_at hl 3 rfl) ?_
                    refine lv_bipush (v := 18) hx hb dX7_deal_114 (by decide) ?_
                    refine lv_iadd hx hb dX7_deal_116 ?_
                    refine z_topi (y := nI ((9 + (28 * o)) + 18)) (nI_add (9 + (28 * o)) 18) ?_
                    refine lv_iload hx hb dX7_deal_117 (lv_at hl 4 rfl) ?_
                    refine lv_iadd hx hb dX7_deal_119 ?_
                    refine z_topi (y := nI (((9 + (28 * o)) + 18) + i)) (nI_add ((9 + (28 * o)) + 18) i) ?_
                    refine lv_iconst (v := 1) hx hb dX7_deal_120 (by decide) ?_
                    refine lv_isub hx hb dX7_deal_121 ?_
                    refine z_topi (y := nI ((((9 + (28 * o)) + 18) + i) - 1)) (pk_sub (a := (((9 + (28 * o)) + 18) + i)) (b := 1) (by omega)) ?_
                    refine lv_iload hx hb dX7_deal_122 (lv_at hl 4 rfl) ?_
                    refine z_iast (ws' := [(q, .inr (7, [v0, v1, v2, v3, v4, v5, v6, v7, v8, v9, v10, v11, v12, .long (zNx y), v14, v15])), (r, .inl (G.2 1, 121, .inl (flt h (va_up (va_up b o (bk o9 (upd t9 ((zRk y % 9 + j) % 9) (nI i)) r5)) o (upd ((va_up b o (bk o9 (upd t9 ((zRk y % 9 + j) % 9) (nI i)) r5)) o) (18 + (i - 1)) (nI i))))))]) hx hb hK hM 1 rfl (vp_in_nI (by omega) (by decide)) dX7_deal_124 (by rw [nI_clamp (by omega), flt_ub o (18 + (i - 1)) (by omega) (by omega)]; rfl) (fun H locs hM => ?_)
                    rw [va_upup, va_ups, bk_r (by omega)] at hM
                    have hM : zM G A s H locs ([(q, .inr (7, [v0, v1, v2, v3, v4, v5, v6, v7, v8, v9, v10, v11, v12, .long (zNx y), v14, v15])), (r, .inl (G.2 1, 121, .inl (flt h (va_up b o (bk o9 (upd t9 ((zRk y % 9 + j) % 9) (nI i)) (upd r5 (i - 1) (nI i)))))))]) := hM
                    refine lv_iinc (v := nI (i + 1)) (lv' := [(4, .int (nI (i + 1))), (0, .ref q), (1, .ref r), (2, .int (nI o)), (3, .int (nI (9 + (28 * o)))), (5, .int (nI ((zRk y % 9 + j) % 9)))]) hx hb dX7_deal_125 hl (k := 4) rfl (nI_1 i) (by decide) rfl (fun ls hl => ?_)
                    refine lv_goto (tgt := 63) hx hb dX7_deal_128 (by decide) ?_
                    exact ihk2 (i + 1) (zNx y) _ _ (by omega) (by omega) (by rw [h2, zIt_s, zS2_e, hH, zHd, if_pos e0]) (by rw [h3, zIt_s, zS3_e, show i - 1 + 1 = i by omega, show i + 1 - 1 = i by omega]) (Nat.lt_of_le_of_lt (nzc_upd t9 hm9 (nI i)) (by omega)) (zTv_upd htv (by omega)) _ _ hM _ (lv_sub hl [1, 2, 3, 4, 0] rfl)
                  · have e0 : ¬ t9 ((zRk y % 9 + j) % 9) = 0 := fun q => c_g (by rw [q]; exact Int32.le_refl 0)
                    refine lv_iload hx hb dX7_deal_89 (lv_at hl 5 rfl) ?_
                    refine lv_iconst (v := 1) hx hb dX7_deal_91 (by decide) ?_
                    refine lv_iadd hx hb dX7_deal_92 ?_
                    refine z_topi (y := nI (((zRk y % 9 + j) % 9) + 1)) (nI_add ((zRk y % 9 + j) % 9) 1) ?_
                    refine lv_bipush (v := 9) hx hb dX7_deal_93 (by decide) ?_
                    refine lv_irem hx hb dX7_deal_95 (by decide) ?_
                    refine z_topi (y := nI ((((zRk y % 9 + j) % 9) + 1) % 9)) (pk_rem (a := (((zRk y % 9 + j) % 9) + 1)) (d := 9) (by omega) (by decide) (by decide)) ?_
                    refine z_topi (y := nI ((zRk y % 9 + (j + 1)) % 9)) (by rw [show ((zRk y % 9 + j) % 9 + 1) % 9 = (zRk y % 9 + (j + 1)) % 9 by omega]) ?_
                    refine lv_istore (lv' := [(5, .int (nI ((zRk y % 9 + (j + 1)) % 9))), (0, .ref q), (1, .ref r), (2, .int (nI o)), (3, .int (nI (9 + (28 * o)))), (4, .int (nI i))]) hx hb dX7_deal_96 hl (by decide) rfl (fun ls hl => ?_)
                    refine lv_goto (tgt := 77) hx hb dX7_deal_98 (by decide) ?_
                    exact ihk3 (j + 1) (by omega) (by rw [hH, zHd, if_neg e0]) (fun z hz8 => (by by_cases ez : z = j; exact (by rw [ez]; exact e0); exact hoc z (by omega))) _ _ hM _ (lv_sub hl [1, 2, 3, 4, 5, 0] rfl)
              exact lp77 9 0 rfl rfl (fun z hz8 => absurd hz8 (Nat.not_lt_zero z)) _ _ hM _ (lv_sub hl [1, 2, 3, 4, 5, 0] rfl)
          exact lp63 5 1 y zZ zZ rfl (by decide) (by rw [zDb_e, e1]) (zDo3_e zZ) (by rw [nzc_z]; decide) (fun j _ => ⟨0, by decide, rfl⟩) _ _ hM _ (lv_sub hl [1, 2, 3, 4, 0] rfl)
        | succ k1 ihk1 =>
          intro i y o9 hik h1 H locs hM ls hl
          refine lv_iload hx hb dX7_deal_31 (lv_at hl 4 rfl) ?_
          refine lv_bipush (v := 9) hx hb dX7_deal_33 (by decide) ?_
          refine z_topi (y := nI 9) rfl ?_
          refine lv_icmp_ge (tgt := 60) hx hb dX7_deal_35 (by decide) (fun c_7 => absurd c_7 (nI_ge (by omega) (by omega))) (fun c_7 => ?_)
          refine lv_aload_n hx hb dX7_deal_38 rfl (lv_at hl 1 rfl) ?_
          refine lv_iload_n hx hb dX7_deal_39 rfl (lv_at hl 3 rfl) ?_
          refine lv_iconst (v := 0) hx hb dX7_deal_40 (by decide) ?_
          refine lv_iadd hx hb dX7_deal_41 ?_
          refine z_topi (y := nI ((9 + (28 * o)) + 0)) (nI_add (9 + (28 * o)) 0) ?_
          refine lv_iload hx hb dX7_deal_42 (lv_at hl 4 rfl) ?_
          refine lv_iadd hx hb dX7_deal_44 ?_
          refine z_topi (y := nI (((9 + (28 * o)) + 0) + i)) (nI_add ((9 + (28 * o)) + 0) i) ?_
          refine lv_iconst (v := 1) hx hb dX7_deal_45 (by decide) ?_
          refine lv_aload_n hx hb dX7_deal_46 rfl (lv_at hl 0 rfl) ?_
          refine lv_bipush (v := nI 15) hx hb dX7_deal_47 (by decide) ?_
          refine z_callV (As := [.int (nI 15)]) (rest := [.int 1, .int (nI (((9 + (28 * o)) + 0) + i)), .ref r]) (wc := [(q, .inr (7, [v0, v1, v2, v3, v4, v5, v6, v7, v8, v9, v10, v11, v12, .long y, v14, v15]))]) (wr := [(r, .inl (G.2 1, 121, .inl (flt h (va_up b o (bk o9 zZ zZ)))))]) (w1 := [(q, .inr (7, [v0, v1, v2, v3, v4, v5, v6, v7, v8, v9, v10, v11, v12, .long (zNx y), v14, v15]))]) (ws' := [(q, .inr (7, [v0, v1, v2, v3, v4, v5, v6, v7, v8, v9, v10, v11, v12, .long (zNx y), v14, v15])), (r, .inl (G.2 1, 121, .inl (flt h (va_up b o (bk o9 zZ zZ)))))]) ⟨hx, hb, hml, hown, hts⟩ (c_drawn l G q v0 v1 v2 v3 v4 v5 v6 v7 v8 v9 v10 v11 v12 v14 v15 y 15 (by omega) (by omega)) (cwV 1 hts gX7_deal_X7_drawn rfl rfl rfl (by decide +kernel) ⟨Nat.le_of_ble_eq_true rfl, Nat.le_of_ble_eq_true rfl⟩) 7 rfl rfl rfl rfl hl.1 rfl (Nat.le_of_ble_eq_true rfl) dX7_deal_49 ⟨Nat.le_of_ble_eq_true rfl, Nat.le_of_ble_eq_true rfl⟩ hK hE hA hM (pm_at 2 [0] [1] rfl rfl rfl (by decide)) ((pm_at 2 [0] [1] rfl rfl rfl (by decide))).symm (fun H locs hM hz => ?_)
          refine lv_iadd hx hb dX7_deal_52 ?_
          refine z_topi (y := nI (1 + (zRk y % 15))) (nI_add 1 (zRk y % 15)) ?_
          refine z_iast (ws' := [(q, .inr (7, [v0, v1, v2, v3, v4, v5, v6, v7, v8, v9, v10, v11, v12, .long (zNx y), v14, v15])), (r, .inl (G.2 1, 121, .inl (flt h (va_up (va_up b o (bk o9 zZ zZ)) o (upd ((va_up b o (bk o9 zZ zZ)) o) i (nI (1 + (zRk y % 15))))))))]) hx hb hK hM 1 rfl (vp_in_nI (by omega) (by decide)) dX7_deal_53 (by rw [nI_clamp (by omega), flt_ub o i (by omega) (by omega)]; rfl) (fun H locs hM => ?_)
          rw [va_upup, va_ups, bk_o (by omega)] at hM
          have hM : zM G A s H locs ([(q, .inr (7, [v0, v1, v2, v3, v4, v5, v6, v7, v8, v9, v10, v11, v12, .long (zNx y), v14, v15])), (r, .inl (G.2 1, 121, .inl (flt h (va_up b o (bk (upd o9 i (nI (1 + (zRk y % 15)))) zZ zZ)))))]) := hM
          refine lv_iinc (v := nI (i + 1)) (lv' := [(4, .int (nI (i + 1))), (0, .ref q), (1, .ref r), (2, .int (nI o)), (3, .int (nI (9 + (28 * o))))]) hx hb dX7_deal_54 hl (k := 4) rfl (nI_1 i) (by decide) rfl (fun ls hl => ?_)
          refine lv_goto (tgt := 31) hx hb dX7_deal_57 (by decide) ?_
          exact ihk1 (i + 1) (zNx y) _ (by omega) (by rw [h1, zIt_s, zS1_e, upd_zZ]) _ _ hM _ (lv_sub hl [1, 2, 3, 4, 0] rfl)
      exact lp31 9 0 x zZ rfl (zDa_e zZ x) _ _ hM _ (lv_sub hl [1, 2, 3, 4, 0] rfl)
    | succ k1 ihk1 =>
      intro w0 hik H locs hM ls hl
      refine lv_iload hx hb dX7_deal_8 (lv_at hl 4 rfl) ?_
      refine lv_bipush (v := 28) hx hb dX7_deal_10 (by decide) ?_
      refine z_topi (y := nI 28) rfl ?_
      refine lv_icmp_ge (tgt := 28) hx hb dX7_deal_12 (by decide) (fun c_8 => absurd c_8 (nI_ge (by omega) (by omega))) (fun c_8 => ?_)
      refine lv_aload_n hx hb dX7_deal_15 rfl (lv_at hl 1 rfl) ?_
      refine lv_iload_n hx hb dX7_deal_16 rfl (lv_at hl 3 rfl) ?_
      refine lv_iload hx hb dX7_deal_17 (lv_at hl 4 rfl) ?_
      refine lv_iadd hx hb dX7_deal_19 ?_
      refine z_topi (y := nI ((9 + (28 * o)) + w0)) (nI_add (9 + (28 * o)) w0) ?_
      refine lv_iconst (v := 0) hx hb dX7_deal_20 (by decide) ?_
      refine z_iast (ws' := [(q, .inr (7, [v0, v1, v2, v3, v4, v5, v6, v7, v8, v9, v10, v11, v12, .long x, v14, v15])), (r, .inl (G.2 1, 121, .inl (flt h (va_up (va_up b o (clr (b o) w0)) o (upd ((va_up b o (clr (b o) w0)) o) w0 0)))))]) hx hb hK hM 1 rfl (vp_in_nI (by omega) (by decide)) dX7_deal_21 (by rw [nI_clamp (by omega), flt_ub o w0 (by omega) (by omega)]; rfl) (fun H locs hM => ?_)
      rw [va_upup, va_ups, clr_s] at hM
      have hM : zM G A s H locs ([(q, .inr (7, [v0, v1, v2, v3, v4, v5, v6, v7, v8, v9, v10, v11, v12, .long x, v14, v15])), (r, .inl (G.2 1, 121, .inl (flt h (va_up b o (clr (b o) (w0 + 1))))))]) := hM
      refine lv_iinc (v := nI (w0 + 1)) (lv' := [(4, .int (nI (w0 + 1))), (0, .ref q), (1, .ref r), (2, .int (nI o)), (3, .int (nI (9 + (28 * o))))]) hx hb dX7_deal_22 hl (k := 4) rfl (nI_1 w0) (by decide) rfl (fun ls hl => ?_)
      refine lv_goto (tgt := 8) hx hb dX7_deal_25 (by decide) ?_
      exact ihk1 (w0 + 1) (by omega) _ _ hM _ (lv_sub hl [1, 2, 3, 4, 0] rfl)
  exact lp8 28 0 rfl _ _ (by rw [clr_0, va_upe]; exact hM) _ (lv_sub hl [2, 3, 4, 1, 0] rfl)
/-! REFERENCE, seventh part: a game begun -/
theorem zHd_r (v : Int32) (a : Nat) (u : Nat → Int32) : ∀ (k i : Nat), zHd v a u k i = u ∨ ∃ j, j < 9 ∧ zHd v a u k i = upd u j v
  | 0, _ => Or.inl rfl
  | k + 1, i => by
    rw [zHd]
    split
    · exact Or.inr ⟨(a + i) % 9, Nat.mod_lt _ (by decide), rfl⟩
    · exact zHd_r v a u k (i + 1)
def zOv (t : Nat → Int32) : Prop := ∀ j, j < 5 → ∃ k, k ≤ 5 ∧ t j = nI k
theorem zOv_upd {t : Nat → Int32} (h : zOv t) {i : Nat} {v : Int32} (hv : ∃ k, k ≤ 5 ∧ v = nI k) : zOv (upd t i v) := by
  intro j hj
  by_cases e : j = i
  · subst e
    rw [pk_us]
    exact hv
  · rw [pk_un e]
    exact h j hj
theorem zItd_inv {α : Type} {F : Nat → α → α} {I : α → Prop} : ∀ (k : Nat) (s : α), (∀ j s, 1 ≤ j → j ≤ k → I s → I (F j s)) → I s → I (zItd F k s)
  | 0, _, _, h => h
  | k + 1, s, hs, h => by
    rw [zItd_s]
    exact zItd_inv k (F (k + 1) s) (fun j s h1 h2 => hs j s h1 (by omega)) (hs (k + 1) s (by omega) (Nat.le_refl _) h)
theorem zDb_tv (x : Int64) : zTv (zDb zZ x).2 := by
  have ha : (zDa zZ x).2.2 = zZ := by
    rw [zDa_e]
    exact zIt_inv (I := fun s : Int64 × (Nat → Int32) × (Nat → Int32) => s.2.2 = zZ) 9 0 _ (fun j s _ _ hs => by
      show upd s.2.2 j 0 = zZ
      rw [hs, upd_zZ]) rfl
  rw [zDb_e, ha]
  refine zIt_inv (I := fun s : Int64 × (Nat → Int32) => zTv s.2) 5 1 _ (fun j s h1 h2 hs => ?_) (fun j _ => ⟨0, by decide, rfl⟩)
  show zTv (zHd (nI j) (zRk s.1 % 9) s.2 9 0)
  rcases zHd_r (nI j) (zRk s.1 % 9) s.2 9 0 with e | ⟨i, _, e⟩
  · rw [e]
    exact hs
  · rw [e]
    exact zTv_upd hs (by omega)
theorem zDc_ov (x : Int64) : zOv (zDc zZ x).2 := by
  rw [zDc_e]
  refine zItd_inv (I := fun s : Int64 × (Nat → Int32) => zOv s.2) 4 _ (fun j s h1 h2 hs => ?_) ?_
  · show zOv (zEx s.2 j (zRk s.1 % (j + 1)))
    have hm : zRk s.1 % (j + 1) < 5 := Nat.lt_of_lt_of_le (Nat.mod_lt _ (by omega)) (by omega)
    unfold zEx
    exact zOv_upd (zOv_upd hs (hs _ hm)) (hs j (by omega))
  · show zOv (zDo3 zZ)
    rw [zDo3_e]
    refine zIt_inv (I := fun s : Nat → Int32 => zOv s) 5 0 _ (fun j s h1 h2 hs => ?_) (fun j _ => ⟨0, by decide, rfl⟩)
    rw [zS3_e]
    exact zOv_upd hs ⟨j + 1, by omega, rfl⟩
theorem zBw_dl (x : Int64) : zBw (zDl zZ x) := by
  refine ⟨⟨0, by decide, rfl⟩, ⟨4, by decide, rfl⟩, fun i hi => ?_, fun i hi => ?_⟩
  · unfold zDl
    rw [if_neg (by omega), if_pos (by omega), show 9 + i - 9 = i by omega]
    exact zDb_tv x i hi
  · unfold zDl
    rw [if_neg (by omega), if_neg (by omega), if_pos (by omega), show 18 + i - 18 = i by omega]
    exact zDc_ov x i hi
def zBs (i : Nat) (s : Int64 × (Nat → Nat → Int32)) : Int64 × (Nat → Nat → Int32) := (zDx zZ s.1, va_up s.2 i (zDl zZ s.1))
theorem zBs_e (i : Nat) (y : Int64) (d : Nat → Nat → Int32) : zBs i (y, d) = (zDx zZ y, va_up d i (zDl zZ y)) := rfl
def zBg (n : Nat) (x : Int64) (b : Nat → Nat → Int32) : Int64 × (Nat → Nat → Int32) := zIt zBs n 0 (x, b)
theorem zBg_e (n : Nat) (x : Int64) (b : Nat → Nat → Int32) : zBg n x b = zIt zBs n 0 (x, b) := rfl
theorem zBg_ok : ∀ (k i : Nat) (y : Int64) (d : Nat → Nat → Int32), (∀ p, p < i → zBw (d p)) → ∀ p, p < i + k → zBw ((zIt zBs k i (y, d)).2 p)
  | 0, _, _, _, h, p, hp => h p hp
  | k + 1, i, y, d, h, p, hp => by
    rw [zIt_s, zBs_e]
    refine zBg_ok k (i + 1) _ _ (fun q hq => ?_) p (by omega)
    by_cases e : q = i
    · subst e
      rw [va_ups]
      exact zBw_dl y
    · rw [va_upn _ _ e]
      exact h q (by omega)
def zBb (n : Nat) (d : Nat → Nat → Int32) : Nat → Nat → Int32 := fun p => if p < n then d p else zZ
def zrr (F : Nat → Int32) (a i : Nat) : Nat → Int32 := fun k => if a ≤ k ∧ k < i then 0 else F k
theorem zrr_0 (F : Nat → Int32) (a : Nat) : zrr F a a = F := by
  funext k
  unfold zrr
  rw [if_neg (by omega)]
theorem zrr_s (F : Nat → Int32) {a i : Nat} (h : a ≤ i) : upd (zrr F a i) i 0 = zrr F a (i + 1) := by
  funext k
  by_cases e : k = i
  · subst e
    rw [pk_us]
    unfold zrr
    rw [if_pos (by omega)]
  · rw [pk_un e]
    unfold zrr
    by_cases h2 : a ≤ k ∧ k < i
    · rw [if_pos h2, if_pos (by omega)]
    · rw [if_neg h2, if_neg (by omega)]
theorem zrr_e (h : Nat → Int32) (d : Nat → Nat → Int32) (n : Nat) : ∀ k, k < 121 → zrr (flt h d) (9 + (28 * n)) 121 k = flt h (zBb n d) k := by
  intro k hk
  by_cases h9 : k < 9
  · unfold zrr
    rw [if_neg (by omega), flt_h h9, flt_h h9]
  · have e2 : k = 9 + 28 * ((k - 9) / 28) + (k - 9) % 28 := by omega
    rw [flt_b (h := h) (b := zBb n d) _ _ (Nat.mod_lt _ (by decide)) e2]
    unfold zrr zBb
    by_cases hn : (k - 9) / 28 < n
    · rw [if_neg (by omega), if_pos hn, flt_b _ _ (Nat.mod_lt _ (by decide)) e2]
    · rw [if_pos (by omega), if_neg hn]
      rfl
theorem zBb_ok {n : Nat} (x : Int64) (b : Nat → Nat → Int32) : ∀ p, p < n → zBw (zBb n (zBg n x b).2 p) := by
  intro p hp
  unfold zBb
  rw [if_pos hp, zBg_e]
  exact zBg_ok n 0 x b (fun q hq => absurd hq (Nat.not_lt_zero q)) p (by omega)
set_option maxHeartbeats 4000000 in
set_option maxRecDepth 100000 in
theorem c_beginOn (l : Launch) (G : zC) (q : Nat) (v0 v1 v2 v3 v4 v5 v6 v7 v8 v9 v10 v11 v12 v14 v15 : Value) (x0 x : Int64) (r n : Nat) (h : Nat → Int32) (b : Nat → Nat → Int32) (hn0 : 0 < n) (hn4 : n ≤ 4) : zMet l G yX7_beginOn wsX7_beginOn rmX7_beginOn [.ref q, .ref r, .int (nI n), .long x] ([(q, .inr (7, [v0, v1, v2, v3, v4, v5, v6, v7, v8, v9, v10, v11, v12, .long x0, v14, v15])), (r, .inl (G.2 1, 121, .inl (flt h b)))]) (some (.int (zSo (zBb n (zBg n x b).2 0)))) ([(q, .inr (7, [v0, v1, v2, v3, v4, v5, v6, v7, v8, v9, v10, v11, v12, .long ((zBg n x b).1), v14, v15])), (r, .inl (G.2 1, 121, .inl (flt (zGdH h n) (zBb n (zBg n x b).2))))]) := by
  refine zMet_of (cc := cX7_beginOn) (maxL := 6) (ret := (some .int)) (by decide) rfl (Nat.le_of_ble_eq_true rfl) ?_
  intro p e s m below meth c A ls hx hb hr hml hown hts hK hA hE hlocks hin hM hl
  have hown : s.vm.findClass RX7 = some m.cls := hown
  have hM : zM G A s s.heap [] ([(q, .inr (7, [v0, v1, v2, v3, v4, v5, v6, v7, v8, v9, v10, v11, v12, .long x0, v14, v15])), (r, .inl (G.2 1, 121, .inl (flt h b)))]) := hM
  have hl : lv_has ls 6 [(0, .ref q), (1, .ref r), (2, .int (nI n)), (3, .long x)] := hl
  refine lv_aload_n hx hb dX7_beginOn_0 rfl (lv_at hl 0 rfl) ?_
  refine lv_lload_n hx hb dX7_beginOn_1 rfl (lv_at hl 3 rfl) ?_
  refine z_put (ci := 7) (ty := .long) (v := .long x) (C := RX7) (T := TX7) (N := 16) (ws' := [(q, .inr (7, [v0, v1, v2, v3, v4, v5, v6, v7, v8, v9, v10, v11, v12, .long x, v14, v15])), (r, .inl (G.2 1, 121, .inl (flt h b)))]) hx hb hts (by decide +kernel) tyX7 tyX7_ok nmX7 hown hK hM 0 rfl rfl 13 (by decide) (hts (.fieldLink RX7 48 "ShiftIslesModel" "x" "J") (by decide +kernel)) (fun _ h9 => h9) rfl (by decide +kernel) rfl rfl (Nat.le_of_ble_eq_true rfl) dX7_beginOn_2 rfl (fun H locs hM => ?_)
  refine lv_aload_n hx hb dX7_beginOn_5 rfl (lv_at hl 1 rfl) ?_
  refine lv_iconst (v := 0) hx hb dX7_beginOn_6 (by decide) ?_
  refine lv_iload_n hx hb dX7_beginOn_7 rfl (lv_at hl 2 rfl) ?_
  refine z_iast (ws' := [(q, .inr (7, [v0, v1, v2, v3, v4, v5, v6, v7, v8, v9, v10, v11, v12, .long x, v14, v15])), (r, .inl (G.2 1, 121, .inl (flt (upd h 0 (nI n)) b)))]) hx hb hK hM 1 rfl (vp_in_nI (n := 0) (by decide) (by decide)) dX7_beginOn_8 (by rw [show (0 : Int32).toNatClampNeg = 0 from rfl, flt_uh (by decide)]; rfl) (fun H locs hM => ?_)
  refine lv_aload_n hx hb dX7_beginOn_9 rfl (lv_at hl 1 rfl) ?_
  refine lv_iconst (v := 1) hx hb dX7_beginOn_10 (by decide) ?_
  refine lv_iconst (v := 0) hx hb dX7_beginOn_11 (by decide) ?_
  refine z_iast (ws' := [(q, .inr (7, [v0, v1, v2, v3, v4, v5, v6, v7, v8, v9, v10, v11, v12, .long x, v14, v15])), (r, .inl (G.2 1, 121, .inl (flt (upd (upd h 0 (nI n)) 1 0) b)))]) hx hb hK hM 1 rfl (vp_in_nI (n := 1) (by decide) (by decide)) dX7_beginOn_12 (by rw [show (1 : Int32).toNatClampNeg = 1 from rfl, flt_uh (by decide)]; rfl) (fun H locs hM => ?_)
  refine lv_aload_n hx hb dX7_beginOn_13 rfl (lv_at hl 1 rfl) ?_
  refine lv_iconst (v := 2) hx hb dX7_beginOn_14 (by decide) ?_
  refine lv_iconst (v := 0) hx hb dX7_beginOn_15 (by decide) ?_
  refine z_iast (ws' := [(q, .inr (7, [v0, v1, v2, v3, v4, v5, v6, v7, v8, v9, v10, v11, v12, .long x, v14, v15])), (r, .inl (G.2 1, 121, .inl (flt (upd (upd (upd h 0 (nI n)) 1 0) 2 0) b)))]) hx hb hK hM 1 rfl (vp_in_nI (n := 2) (by decide) (by decide)) dX7_beginOn_16 (by rw [show (2 : Int32).toNatClampNeg = 2 from rfl, flt_uh (by decide)]; rfl) (fun H locs hM => ?_)
  refine lv_aload_n hx hb dX7_beginOn_17 rfl (lv_at hl 1 rfl) ?_
  refine lv_iconst (v := 3) hx hb dX7_beginOn_18 (by decide) ?_
  refine lv_iconst (v := 0) hx hb dX7_beginOn_19 (by decide) ?_
  refine z_iast (ws' := [(q, .inr (7, [v0, v1, v2, v3, v4, v5, v6, v7, v8, v9, v10, v11, v12, .long x, v14, v15])), (r, .inl (G.2 1, 121, .inl (flt (upd (upd (upd (upd h 0 (nI n)) 1 0) 2 0) 3 0) b)))]) hx hb hK hM 1 rfl (vp_in_nI (n := 3) (by decide) (by decide)) dX7_beginOn_20 (by rw [show (3 : Int32).toNatClampNeg = 3 from rfl, flt_uh (by decide)]; rfl) (fun H locs hM => ?_)
  refine lv_aload_n hx hb dX7_beginOn_21 rfl (lv_at hl 1 rfl) ?_
  refine lv_iconst (v := 4) hx hb dX7_beginOn_22 (by decide) ?_
  refine lv_iconst (v := 0) hx hb dX7_beginOn_23 (by decide) ?_
  refine z_iast (ws' := [(q, .inr (7, [v0, v1, v2, v3, v4, v5, v6, v7, v8, v9, v10, v11, v12, .long x, v14, v15])), (r, .inl (G.2 1, 121, .inl (flt (upd (upd (upd (upd (upd h 0 (nI n)) 1 0) 2 0) 3 0) 4 0) b)))]) hx hb hK hM 1 rfl (vp_in_nI (n := 4) (by decide) (by decide)) dX7_beginOn_24 (by rw [show (4 : Int32).toNatClampNeg = 4 from rfl, flt_uh (by decide)]; rfl) (fun H locs hM => ?_)
  refine lv_aload_n hx hb dX7_beginOn_25 rfl (lv_at hl 1 rfl) ?_
  refine lv_iconst (v := 5) hx hb dX7_beginOn_26 (by decide) ?_
  refine lv_iconst (v := (-1)) hx hb dX7_beginOn_27 (by decide) ?_
  refine z_iast (ws' := [(q, .inr (7, [v0, v1, v2, v3, v4, v5, v6, v7, v8, v9, v10, v11, v12, .long x, v14, v15])), (r, .inl (G.2 1, 121, .inl (flt (upd (upd (upd (upd (upd (upd h 0 (nI n)) 1 0) 2 0) 3 0) 4 0) 5 (-1)) b)))]) hx hb hK hM 1 rfl (vp_in_nI (n := 5) (by decide) (by decide)) dX7_beginOn_28 (by rw [show (5 : Int32).toNatClampNeg = 5 from rfl, flt_uh (by decide)]; rfl) (fun H locs hM => ?_)
  have hM : zM G A s H locs ([(q, .inr (7, [v0, v1, v2, v3, v4, v5, v6, v7, v8, v9, v10, v11, v12, .long x, v14, v15])), (r, .inl (G.2 1, 121, .inl (flt (zGdH h n) b)))]) := hM
  refine lv_iconst (v := nI 0) hx hb dX7_beginOn_29 (by decide) ?_
  refine lv_istore (lv' := [(5, .int (nI 0)), (0, .ref q), (1, .ref r), (2, .int (nI n)), (3, .long x)]) hx hb dX7_beginOn_30 hl (by decide) rfl (fun ls hl => ?_)
  have lp32 : ∀ (k1 : Nat) (i : Nat) (y : Int64) (d : Nat → Nat → Int32), (i + k1 = n) → (zBg n x b = zIt zBs k1 i (y, d)) → ∀ (H : Heap) (locs : List Loc), zM G A s H locs ([(q, .inr (7, [v0, v1, v2, v3, v4, v5, v6, v7, v8, v9, v10, v11, v12, .long y, v14, v15])), (r, .inl (G.2 1, 121, .inl (flt (zGdH h n) d)))]) → ∀ ls : Array Slot, lv_has ls 6 [(0, .ref q), (1, .ref r), (2, .int (nI n)), (3, .long x), (5, .int (nI i))] → W p l e rmX7_beginOn s m ([.ref q, .ref r, .int (nI n), .long x] : List Value).toArray below meth c H locs 0 0 (zEnd G below ([.ref q, .ref r, .int (nI n), .long x] : List Value).toArray s rmX7_beginOn A (some (.int (zSo (zBb n (zBg n x b).2 0)))) ([(q, .inr (7, [v0, v1, v2, v3, v4, v5, v6, v7, v8, v9, v10, v11, v12, .long ((zBg n x b).1), v14, v15])), (r, .inl (G.2 1, 121, .inl (flt (zGdH h n) (zBb n (zBg n x b).2))))])) (F0 m 32 ls []) := by
    intro k1
    induction k1 with
    | zero =>
      intro i y d hik hR H locs hM ls hl
      have e9 : zBg n x b = (y, d) := by rw [hR, zIt_0]
      refine lv_iload hx hb dX7_beginOn_32 (lv_at hl 4 rfl) ?_
      refine lv_iload_n hx hb dX7_beginOn_34 rfl (lv_at hl 2 rfl) ?_
      refine lv_icmp_ge (tgt := 51) hx hb dX7_beginOn_35 (by decide) (fun c_1 => ?_) (fun c_1 => absurd (nI_le (by omega) (by omega)) c_1)
      refine lv_iload_n hx hb dX7_beginOn_51 rfl (lv_at hl 2 rfl) ?_
      refine z_callS (As := [.int (nI n)]) (rest := []) (wc := []) (wr := [(q, .inr (7, [v0, v1, v2, v3, v4, v5, v6, v7, v8, v9, v10, v11, v12, .long y, v14, v15])), (r, .inl (G.2 1, 121, .inl (flt (zGdH h n) d)))]) (w1 := []) (ws' := [(q, .inr (7, [v0, v1, v2, v3, v4, v5, v6, v7, v8, v9, v10, v11, v12, .long y, v14, v15])), (r, .inl (G.2 1, 121, .inl (flt (zGdH h n) d)))]) ⟨hx, hb, hml, hown, hts⟩ (c_at l G n (by omega)) (va_cwS 1 hts gX7_beginOn_X7_at rfl rfl rfl (by decide +kernel) ⟨Nat.le_of_ble_eq_true rfl, Nat.le_of_ble_eq_true rfl⟩) rfl hl.1 rfl (Nat.le_of_ble_eq_true rfl) dX7_beginOn_52 ⟨Nat.le_of_ble_eq_true rfl, Nat.le_of_ble_eq_true rfl⟩ hK hE hA hM (List.Perm.refl _) (List.Perm.refl _) (fun H locs hM hz => ?_)
      refine lv_istore (lv' := [(5, .int (nI (9 + (28 * n)))), (0, .ref q), (1, .ref r), (2, .int (nI n)), (3, .long x)]) hx hb dX7_beginOn_55 hl (by decide) rfl (fun ls hl => ?_)
      have lp57 : ∀ (k : Nat) (w0 : Nat), (w0 + k = 121) → (9 + (28 * n) ≤ w0) → ∀ (H : Heap) (locs : List Loc), zM G A s H locs ([(q, .inr (7, [v0, v1, v2, v3, v4, v5, v6, v7, v8, v9, v10, v11, v12, .long y, v14, v15])), (r, .inl (G.2 1, 121, .inl (zrr (flt (zGdH h n) d) (9 + (28 * n)) w0)))]) → ∀ ls : Array Slot, lv_has ls 6 [(0, .ref q), (1, .ref r), (2, .int (nI n)), (3, .long x), (5, .int (nI w0))] → W p l e rmX7_beginOn s m ([.ref q, .ref r, .int (nI n), .long x] : List Value).toArray below meth c H locs 0 0 (zEnd G below ([.ref q, .ref r, .int (nI n), .long x] : List Value).toArray s rmX7_beginOn A (some (.int (zSo (zBb n (zBg n x b).2 0)))) ([(q, .inr (7, [v0, v1, v2, v3, v4, v5, v6, v7, v8, v9, v10, v11, v12, .long ((zBg n x b).1), v14, v15])), (r, .inl (G.2 1, 121, .inl (flt (zGdH h n) (zBb n (zBg n x b).2))))])) (F0 m 57 ls []) := by
        intro k
        induction k with
        | zero =>
          intro w0 hwk hw9 H locs hM ls hl
          obtain rfl : w0 = 121 := by omega
          refine lv_iload hx hb dX7_beginOn_57 (lv_at hl 4 rfl) ?_
          refine lv_bipush (v := 121) hx hb dX7_beginOn_59 (by decide) ?_
          refine z_topi (y := nI 121) rfl ?_
          refine lv_icmp_ge (tgt := 75) hx hb dX7_beginOn_61 (by decide) (fun c_2 => ?_) (fun c_2 => absurd (nI_le (by omega) (by omega)) c_2)
          have hs9 : zSim ([(q, .inr (7, [v0, v1, v2, v3, v4, v5, v6, v7, v8, v9, v10, v11, v12, .long y, v14, v15])), (r, .inl (G.2 1, 121, .inl (zrr (flt (zGdH h n) d) (9 + (28 * n)) 121)))]) ([(q, .inr (7, [v0, v1, v2, v3, v4, v5, v6, v7, v8, v9, v10, v11, v12, .long y, v14, v15])), (r, .inl (G.2 1, 121, .inl (flt (zGdH h n) (zBb n d))))]) := ⟨zSame_rf _, zSame_arr (zrr_e (zGdH h n) d n), trivial⟩
          have hM : zM G A s H locs ([(q, .inr (7, [v0, v1, v2, v3, v4, v5, v6, v7, v8, v9, v10, v11, v12, .long y, v14, v15])), (r, .inl (G.2 1, 121, .inl (flt (zGdH h n) (zBb n d))))]) := zM_sim hs9 hM
          have hb0 : zBw (zBb n d 0) := by have h8 := zBb_ok (n := n) x b 0 (by omega); rw [e9] at h8; exact h8
          refine lv_aload_n hx hb dX7_beginOn_75 rfl (lv_at hl 1 rfl) ?_
          refine lv_iconst (v := nI 0) hx hb dX7_beginOn_76 (by decide) ?_
          refine z_callS (As := [.ref r, .int (nI 0)]) (rest := []) (wc := rfW G r (zGdH h n) (zBb n d)) (wr := [(q, .inr (7, [v0, v1, v2, v3, v4, v5, v6, v7, v8, v9, v10, v11, v12, .long y, v14, v15]))]) (w1 := rfW G r (zGdH h n) (zBb n d)) (ws' := [(q, .inr (7, [v0, v1, v2, v3, v4, v5, v6, v7, v8, v9, v10, v11, v12, .long y, v14, v15])), (r, .inl (G.2 1, 121, .inl (flt (zGdH h n) (zBb n d))))]) ⟨hx, hb, hml, hown, hts⟩ (c_r_sought l G r (zGdH h n) (zBb n d) 0 (by omega) hb0) (va_cwS 2 hts gX7_beginOn_X7_sought rfl rfl rfl (by decide +kernel) ⟨Nat.le_of_ble_eq_true rfl, Nat.le_of_ble_eq_true rfl⟩) rfl hl.1 rfl (Nat.le_of_ble_eq_true rfl) dX7_beginOn_77 ⟨Nat.le_of_ble_eq_true rfl, Nat.le_of_ble_eq_true rfl⟩ hK hE hA hM (pm_at 2 [1] [0] rfl rfl rfl (by decide)) ((pm_at 2 [1] [0] rfl rfl rfl (by decide))).symm (fun H locs hM hz => ?_)
          exact z_iret hx hb hr hlocks dX7_beginOn_80 (by rw [e9]; exact hM) (Nat.le_of_ble_eq_true rfl) (Nat.le_of_ble_eq_true rfl) (by rw [e9])
        | succ k ih =>
          intro w0 hwk hw9 H locs hM ls hl
          refine lv_iload hx hb dX7_beginOn_57 (lv_at hl 4 rfl) ?_
          refine lv_bipush (v := 121) hx hb dX7_beginOn_59 (by decide) ?_
          refine z_topi (y := nI 121) rfl ?_
          refine lv_icmp_ge (tgt := 75) hx hb dX7_beginOn_61 (by decide) (fun c_3 => absurd c_3 (nI_ge (by omega) (by omega))) (fun c_3 => ?_)
          refine lv_aload_n hx hb dX7_beginOn_64 rfl (lv_at hl 1 rfl) ?_
          refine lv_iload hx hb dX7_beginOn_65 (lv_at hl 4 rfl) ?_
          refine lv_iconst (v := 0) hx hb dX7_beginOn_67 (by decide) ?_
          refine z_iast (ws' := [(q, .inr (7, [v0, v1, v2, v3, v4, v5, v6, v7, v8, v9, v10, v11, v12, .long y, v14, v15])), (r, .inl (G.2 1, 121, .inl (upd (zrr (flt (zGdH h n) d) (9 + (28 * n)) w0) w0 0)))]) hx hb hK hM 1 rfl (vp_in_nI (by omega) (by decide)) dX7_beginOn_68 (by rw [nI_clamp (by omega)]; rfl) (fun H locs hM => ?_)
          have hM : zM G A s H locs ([(q, .inr (7, [v0, v1, v2, v3, v4, v5, v6, v7, v8, v9, v10, v11, v12, .long y, v14, v15])), (r, .inl (G.2 1, 121, .inl (zrr (flt (zGdH h n) d) (9 + (28 * n)) (w0 + 1))))]) := by rw [← zrr_s _ hw9]; exact hM
          refine lv_iinc (v := nI (w0 + 1)) (lv' := [(5, .int (nI (w0 + 1))), (0, .ref q), (1, .ref r), (2, .int (nI n)), (3, .long x)]) hx hb dX7_beginOn_69 hl (k := 4) rfl (nI_1 w0) (by decide) rfl (fun ls hl => ?_)
          refine lv_goto (tgt := 57) hx hb dX7_beginOn_72 (by decide) ?_
          exact ih (w0 + 1) (by omega) (by omega) _ _ hM _ (lv_sub hl [1, 2, 3, 4, 0] rfl)
      exact lp57 (121 - (9 + (28 * n))) (9 + (28 * n)) (by omega) (Nat.le_refl _) _ _ (by rw [zrr_0]; exact hM) _ (lv_sub hl [1, 2, 3, 4, 0] rfl)
    | succ k1 ihk1 =>
      intro i y d hik hR H locs hM ls hl
      refine lv_iload hx hb dX7_beginOn_32 (lv_at hl 4 rfl) ?_
      refine lv_iload_n hx hb dX7_beginOn_34 rfl (lv_at hl 2 rfl) ?_
      refine lv_icmp_ge (tgt := 51) hx hb dX7_beginOn_35 (by decide) (fun c_4 => absurd c_4 (nI_ge (by omega) (by omega))) (fun c_4 => ?_)
      refine lv_aload_n hx hb dX7_beginOn_38 rfl (lv_at hl 0 rfl) ?_
      refine lv_aload_n hx hb dX7_beginOn_39 rfl (lv_at hl 1 rfl) ?_
      refine lv_iload hx hb dX7_beginOn_40 (lv_at hl 4 rfl) ?_
      refine z_callV (As := [.ref r, .int (nI i)]) (rest := []) (wc := [(q, .inr (7, [v0, v1, v2, v3, v4, v5, v6, v7, v8, v9, v10, v11, v12, .long y, v14, v15])), (r, .inl (G.2 1, 121, .inl (flt (zGdH h n) d)))]) (wr := []) (w1 := [(q, .inr (7, [v0, v1, v2, v3, v4, v5, v6, v7, v8, v9, v10, v11, v12, .long (zDx zZ y), v14, v15])), (r, .inl (G.2 1, 121, .inl (flt (zGdH h n) (va_up d i (zDl zZ y)))))]) (ws' := [(q, .inr (7, [v0, v1, v2, v3, v4, v5, v6, v7, v8, v9, v10, v11, v12, .long (zDx zZ y), v14, v15])), (r, .inl (G.2 1, 121, .inl (flt (zGdH h n) (va_up d i (zDl zZ y)))))]) ⟨hx, hb, hml, hown, hts⟩ (c_r_deal l G q v0 v1 v2 v3 v4 v5 v6 v7 v8 v9 v10 v11 v12 v14 v15 y r i (zGdH h n) d (by omega)) (cwV 2 hts gX7_beginOn_X7_deal rfl rfl rfl (by decide +kernel) ⟨Nat.le_of_ble_eq_true rfl, Nat.le_of_ble_eq_true rfl⟩) 7 rfl rfl rfl rfl hl.1 rfl (Nat.le_of_ble_eq_true rfl) dX7_beginOn_42 ⟨Nat.le_of_ble_eq_true rfl, Nat.le_of_ble_eq_true rfl⟩ hK hE hA hM (pm_at 2 [0, 1] [] rfl rfl rfl (by decide)) ((pm_at 2 [0, 1] [] rfl rfl rfl (by decide))).symm (fun H locs hM hz => ?_)
      refine lv_iinc (v := nI (i + 1)) (lv' := [(5, .int (nI (i + 1))), (0, .ref q), (1, .ref r), (2, .int (nI n)), (3, .long x)]) hx hb dX7_beginOn_45 hl (k := 4) rfl (nI_1 i) (by decide) rfl (fun ls hl => ?_)
      refine lv_goto (tgt := 32) hx hb dX7_beginOn_48 (by decide) ?_
      exact ihk1 (i + 1) _ _ (by omega) (by rw [hR, zIt_s, zBs_e]) _ _ hM _ (lv_sub hl [1, 2, 3, 4, 0] rfl)
  exact lp32 n 0 x b (by omega) (zBg_e n x b) _ _ hM _ (lv_sub hl [1, 2, 3, 4, 0] rfl)
