/-! REFERENCE, fifth part: its small methods -/
def zPos (w : Int32) : Bool := !decide (w ≤ 0)
def zDg (v : Nat → Int32) (n j : Nat) : Int32 := if j < n then v j - 48 else -1
set_option maxHeartbeats 4000000 in
set_option maxRecDepth 100000 in
theorem c_thrown (l : Launch) (G : zC) (q : Nat) (v1 v2 v3 v4 v5 v6 v7 v8 v9 v10 v11 v12 v13 v14 v15 : Value) (w : Int32) : zMet l G yX7_thrown wsX7_thrown rmX7_thrown [.ref q] ([(q, .inr (7, [.int w, v1, v2, v3, v4, v5, v6, v7, v8, v9, v10, v11, v12, v13, v14, v15]))]) (some (.int w)) ([(q, .inr (7, [.int w, v1, v2, v3, v4, v5, v6, v7, v8, v9, v10, v11, v12, v13, v14, v15]))]) := by
  refine zMet_of (cc := cX7_thrown) (maxL := 1) (ret := (some .int)) (by decide) rfl (Nat.le_of_ble_eq_true rfl) ?_
  intro p e s m below meth c A ls hx hb hr hml hown hts hK hA hE hlocks hin hM hl
  have hown : s.vm.findClass RX7 = some m.cls := hown
  have hM : zM G A s s.heap [] ([(q, .inr (7, [.int w, v1, v2, v3, v4, v5, v6, v7, v8, v9, v10, v11, v12, v13, v14, v15]))]) := hM
  have hl : lv_has ls 1 [(0, .ref q)] := hl
  refine lv_aload_n hx hb dX7_thrown_0 rfl (lv_at hl 0 rfl) ?_
  refine z_get (ci := 7) (v := .int w) (C := RX7) (T := TX7) (N := 16) hx hb hts (by decide +kernel) hown hK hM 0 rfl rfl 0 (by decide) (hts (.fieldLink RX7 36 "ShiftIslesModel" "refusal" "I") (by decide +kernel)) (fun _ h9 => h9) rfl dX7_thrown_1 ?_
  exact z_iret hx hb hr hlocks dX7_thrown_4 hM (Nat.le_of_ble_eq_true rfl) (Nat.le_of_ble_eq_true rfl) rfl

set_option maxHeartbeats 4000000 in
set_option maxRecDepth 100000 in
theorem c_refused (l : Launch) (G : zC) (q : Nat) (v0 v1 v2 v3 v4 v5 v6 v7 v8 v9 v10 v11 v12 v13 v14 v15 : Value) (w : Int32) : zMet l G yX7_refused wsX7_refused rmX7_refused [.ref q, .int w] ([(q, .inr (7, [v0, v1, v2, v3, v4, v5, v6, v7, v8, v9, v10, v11, v12, v13, v14, v15]))]) (some (.int (zb (zPos w)))) ([(q, .inr (7, [.int w, v1, v2, v3, v4, v5, v6, v7, v8, v9, v10, v11, v12, v13, v14, v15]))]) := by
  refine zMet_of (cc := cX7_refused) (maxL := 2) (ret := (some .boolean)) (by decide) rfl (Nat.le_of_ble_eq_true rfl) ?_
  intro p e s m below meth c A ls hx hb hr hml hown hts hK hA hE hlocks hin hM hl
  have hown : s.vm.findClass RX7 = some m.cls := hown
  have hM : zM G A s s.heap [] ([(q, .inr (7, [v0, v1, v2, v3, v4, v5, v6, v7, v8, v9, v10, v11, v12, v13, v14, v15]))]) := hM
  have hl : lv_has ls 2 [(0, .ref q), (1, .int w)] := hl
  refine lv_aload_n hx hb dX7_refused_0 rfl (lv_at hl 0 rfl) ?_
  refine lv_iload_n hx hb dX7_refused_1 rfl (lv_at hl 1 rfl) ?_
  refine z_put (ci := 7) (ty := .int) (v := .int w) (C := RX7) (T := TX7) (N := 16) (ws' := [(q, .inr (7, [.int w, v1, v2, v3, v4, v5, v6, v7, v8, v9, v10, v11, v12, v13, v14, v15]))]) hx hb hts (by decide +kernel) tyX7 tyX7_ok nmX7 hown hK hM 0 rfl rfl 0 (by decide) (hts (.fieldLink RX7 36 "ShiftIslesModel" "refusal" "I") (by decide +kernel)) (fun _ h9 => h9) rfl (by decide +kernel) rfl rfl (Nat.le_of_ble_eq_true rfl) dX7_refused_2 rfl (fun H locs hM => ?_)
  refine lv_iload_n hx hb dX7_refused_5 rfl (lv_at hl 1 rfl) ?_
  refine lv_if_le (tgt := 13) hx hb dX7_refused_6 (by decide) (fun c_1 => ?_) (fun c_1 => ?_)
  · skip
    refine lv_iconst (v := 0) hx hb dX7_refused_13 (by decide) ?_
    exact z_zret hx hb hr hlocks dX7_refused_14 hM (Nat.le_of_ble_eq_true rfl) (Nat.le_of_ble_eq_true rfl) (by first | exact Or.inl rfl | exact Or.inr rfl | exact zb_01 _) (by rw [zPos, decide_eq_true c_1]; rfl)
  · skip
    refine lv_iconst (v := 1) hx hb dX7_refused_9 (by decide) ?_
    refine lv_goto (tgt := 14) hx hb dX7_refused_10 (by decide) ?_
    exact z_zret hx hb hr hlocks dX7_refused_14 hM (Nat.le_of_ble_eq_true rfl) (Nat.le_of_ble_eq_true rfl) (by first | exact Or.inl rfl | exact Or.inr rfl | exact zb_01 _) (by rw [zPos, decide_eq_false c_1]; rfl)

set_option maxHeartbeats 4000000 in
set_option maxRecDepth 100000 in
theorem c_drawn (l : Launch) (G : zC) (q : Nat) (v0 v1 v2 v3 v4 v5 v6 v7 v8 v9 v10 v11 v12 v14 v15 : Value) (x : Int64) (n : Nat) (h0 : 0 < n) (hn : n < 100) : zMet l G yX7_drawn wsX7_drawn rmX7_drawn [.ref q, .int (nI n)] ([(q, .inr (7, [v0, v1, v2, v3, v4, v5, v6, v7, v8, v9, v10, v11, v12, .long x, v14, v15]))]) (some (.int (nI (zRk x % n)))) ([(q, .inr (7, [v0, v1, v2, v3, v4, v5, v6, v7, v8, v9, v10, v11, v12, .long (zNx x), v14, v15]))]) := by
  refine zMet_of (cc := cX7_drawn) (maxL := 2) (ret := (some .int)) (by decide) rfl (Nat.le_of_ble_eq_true rfl) ?_
  intro p e s m below meth c A ls hx hb hr hml hown hts hK hA hE hlocks hin hM hl
  have hown : s.vm.findClass RX7 = some m.cls := hown
  have hM : zM G A s s.heap [] ([(q, .inr (7, [v0, v1, v2, v3, v4, v5, v6, v7, v8, v9, v10, v11, v12, .long x, v14, v15]))]) := hM
  have hl : lv_has ls 2 [(0, .ref q), (1, .int (nI n))] := hl
  refine lv_aload_n hx hb dX7_drawn_0 rfl (lv_at hl 0 rfl) ?_
  refine lv_aload_n hx hb dX7_drawn_1 rfl (lv_at hl 0 rfl) ?_
  refine z_get (ci := 7) (v := .long x) (C := RX7) (T := TX7) (N := 16) hx hb hts (by decide +kernel) hown hK hM 0 rfl rfl 13 (by decide) (hts (.fieldLink RX7 48 "ShiftIslesModel" "x" "J") (by decide +kernel)) (fun _ h9 => h9) rfl dX7_drawn_2 ?_
  refine lv_ldc2 (v := 6364136223846793005) hx hb hown (hts (.constantLong RX7 52 6364136223846793005) (by decide +kernel)) dX7_drawn_5 ?_
  refine lv_lmul hx hb dX7_drawn_8 ?_
  refine lv_ldc2 (v := 1442695040888963407) hx hb hown (hts (.constantLong RX7 54 1442695040888963407) (by decide +kernel)) dX7_drawn_9 ?_
  refine lv_ladd hx hb dX7_drawn_12 ?_
  refine z_put (ci := 7) (ty := .long) (v := .long ((x * 6364136223846793005) + 1442695040888963407)) (C := RX7) (T := TX7) (N := 16) (ws' := [(q, .inr (7, [v0, v1, v2, v3, v4, v5, v6, v7, v8, v9, v10, v11, v12, .long ((x * 6364136223846793005) + 1442695040888963407), v14, v15]))]) hx hb hts (by decide +kernel) tyX7 tyX7_ok nmX7 hown hK hM 0 rfl rfl 13 (by decide) (hts (.fieldLink RX7 48 "ShiftIslesModel" "x" "J") (by decide +kernel)) (fun _ h9 => h9) rfl (by decide +kernel) rfl rfl (Nat.le_of_ble_eq_true rfl) dX7_drawn_13 rfl (fun H locs hM => ?_)
  refine lv_aload_n hx hb dX7_drawn_16 rfl (lv_at hl 0 rfl) ?_
  refine z_get (ci := 7) (v := .long ((x * 6364136223846793005) + 1442695040888963407)) (C := RX7) (T := TX7) (N := 16) hx hb hts (by decide +kernel) hown hK hM 0 rfl rfl 13 (by decide) (hts (.fieldLink RX7 48 "ShiftIslesModel" "x" "J") (by decide +kernel)) (fun _ h9 => h9) rfl dX7_drawn_17 ?_
  refine lv_bipush (v := (33 : Int32)) hx hb dX7_drawn_20 (by decide) ?_
  refine lv_lushr (v := (((x * 6364136223846793005) + 1442695040888963407).toUInt64 >>> ((33 : Int32).toInt64.toUInt64 &&& Int64.toUInt64 63)).toInt64) hx hb dX7_drawn_22 rfl ?_
  refine lv_l2i (v := ((((x * 6364136223846793005) + 1442695040888963407).toUInt64 >>> ((33 : Int32).toInt64.toUInt64 &&& Int64.toUInt64 63)).toInt64).toInt32) hx hb dX7_drawn_23 rfl ?_
  refine lv_iload_n hx hb dX7_drawn_24 rfl (lv_at hl 1 rfl) ?_
  refine lv_irem hx hb dX7_drawn_25 (nI_ne0 h0 (by omega)) ?_
  exact z_iret hx hb hr hlocks dX7_drawn_26 hM (Nat.le_of_ble_eq_true rfl) (Nat.le_of_ble_eq_true rfl) (by rw [← pk_rem (zRk_lt x) h0 (by omega), ← zRn_eq]; rfl)

set_option maxHeartbeats 4000000 in
set_option maxRecDepth 100000 in
theorem c_r_clearText (l : Launch) (G : zC) (q : Nat) (v0 v1 v3 v4 v5 v6 v7 v8 v9 v10 v11 v12 v13 v14 v15 : Value) (n : Nat) : zMet l G yX7_clearText wsX7_clearText rmX7_clearText [.ref q] ([(q, .inr (7, [v0, v1, .int (nI n), v3, v4, v5, v6, v7, v8, v9, v10, v11, v12, v13, v14, v15]))]) (some (.int (nI n))) ([(q, .inr (7, [.int 0, v1, .int (nI 0), v3, v4, v5, v6, v7, v8, v9, v10, v11, v12, v13, v14, v15]))]) := by
  refine zMet_of (cc := cX7_clearText) (maxL := 2) (ret := (some .int)) (by decide) rfl (Nat.le_of_ble_eq_true rfl) ?_
  intro p e s m below meth c A ls hx hb hr hml hown hts hK hA hE hlocks hin hM hl
  have hown : s.vm.findClass RX7 = some m.cls := hown
  have hM : zM G A s s.heap [] ([(q, .inr (7, [v0, v1, .int (nI n), v3, v4, v5, v6, v7, v8, v9, v10, v11, v12, v13, v14, v15]))]) := hM
  have hl : lv_has ls 2 [(0, .ref q)] := hl
  refine lv_aload_n hx hb dX7_clearText_0 rfl (lv_at hl 0 rfl) ?_
  refine lv_iconst (v := 0) hx hb dX7_clearText_1 (by decide) ?_
  refine z_put (ci := 7) (ty := .int) (v := .int 0) (C := RX7) (T := TX7) (N := 16) (ws' := [(q, .inr (7, [.int 0, v1, .int (nI n), v3, v4, v5, v6, v7, v8, v9, v10, v11, v12, v13, v14, v15]))]) hx hb hts (by decide +kernel) tyX7 tyX7_ok nmX7 hown hK hM 0 rfl rfl 0 (by decide) (hts (.fieldLink RX7 36 "ShiftIslesModel" "refusal" "I") (by decide +kernel)) (fun _ h9 => h9) rfl (by decide +kernel) rfl rfl (Nat.le_of_ble_eq_true rfl) dX7_clearText_2 rfl (fun H locs hM => ?_)
  refine lv_aload_n hx hb dX7_clearText_5 rfl (lv_at hl 0 rfl) ?_
  refine z_get (ci := 7) (v := .int (nI n)) (C := RX7) (T := TX7) (N := 16) hx hb hts (by decide +kernel) hown hK hM 0 rfl rfl 2 (by decide) (hts (.fieldLink RX7 160 "ShiftIslesModel" "size" "I") (by decide +kernel)) (fun _ h9 => h9) rfl dX7_clearText_6 ?_
  refine lv_istore_n (lv' := [(1, .int (nI n)), (0, .ref q)]) hx hb dX7_clearText_9 rfl hl (by decide) rfl (fun ls hl => ?_)
  refine lv_aload_n hx hb dX7_clearText_10 rfl (lv_at hl 1 rfl) ?_
  refine lv_iconst (v := nI 0) hx hb dX7_clearText_11 (by decide) ?_
  refine z_put (ci := 7) (ty := .int) (v := .int (nI 0)) (C := RX7) (T := TX7) (N := 16) (ws' := [(q, .inr (7, [.int 0, v1, .int (nI 0), v3, v4, v5, v6, v7, v8, v9, v10, v11, v12, v13, v14, v15]))]) hx hb hts (by decide +kernel) tyX7 tyX7_ok nmX7 hown hK hM 0 rfl rfl 2 (by decide) (hts (.fieldLink RX7 160 "ShiftIslesModel" "size" "I") (by decide +kernel)) (fun _ h9 => h9) rfl (by decide +kernel) rfl rfl (Nat.le_of_ble_eq_true rfl) dX7_clearText_12 rfl (fun H locs hM => ?_)
  refine lv_iload_n hx hb dX7_clearText_15 rfl (lv_at hl 0 rfl) ?_
  exact z_iret hx hb hr hlocks dX7_clearText_16 hM (Nat.le_of_ble_eq_true rfl) (Nat.le_of_ble_eq_true rfl) rfl

set_option maxHeartbeats 4000000 in
set_option maxRecDepth 100000 in
theorem c_rap1 (l : Launch) (G : zC) (q : Nat) (v0 v3 v4 v5 v6 v7 v8 v9 v10 v11 v12 v13 v14 v15 : Value) (z n : Nat) (v : Nat → Int32) (k : Int32) (hc : zI0 k.toInt64 0 255 = false) : zMet l G yX7_append wsX7_append rmX7_append [.ref q, .int k] ([(q, .inr (7, [v0, .ref z, .int (nI n), v3, v4, v5, v6, v7, v8, v9, v10, v11, v12, v13, v14, v15])), (z, .inl (G.2 1, 120, .inl v))]) (some (.int 0)) ([(q, .inr (7, [.int 1, .ref z, .int (nI n), v3, v4, v5, v6, v7, v8, v9, v10, v11, v12, v13, v14, v15])), (z, .inl (G.2 1, 120, .inl v))]) := by
  refine zMet_of (cc := cX7_append) (maxL := 2) (ret := (some .int)) (by decide) rfl (Nat.le_of_ble_eq_true rfl) ?_
  intro p e s m below meth c A ls hx hb hr hml hown hts hK hA hE hlocks hin hM hl
  have hown : s.vm.findClass RX7 = some m.cls := hown
  have hM : zM G A s s.heap [] ([(q, .inr (7, [v0, .ref z, .int (nI n), v3, v4, v5, v6, v7, v8, v9, v10, v11, v12, v13, v14, v15])), (z, .inl (G.2 1, 120, .inl v))]) := hM
  have hl : lv_has ls 2 [(0, .ref q), (1, .int k)] := hl
  refine lv_aload_n hx hb dX7_append_0 rfl (lv_at hl 0 rfl) ?_
  refine lv_iload_n hx hb dX7_append_1 rfl (lv_at hl 1 rfl) ?_
  refine lv_i2l (v := k.toInt64) hx hb dX7_append_2 rfl ?_
  refine lv_lconst (v := 0) hx hb dX7_append_3 (by decide) ?_
  refine lv_ldc2 (v := 255) hx hb hown (hts (.constantLong RX7 158 255) (by decide +kernel)) dX7_append_4 ?_
  refine z_callS (As := [.long k.toInt64, .long 0, .long 255]) (rest := [.ref q]) (wc := []) (wr := [(q, .inr (7, [v0, .ref z, .int (nI n), v3, v4, v5, v6, v7, v8, v9, v10, v11, v12, v13, v14, v15])), (z, .inl (G.2 1, 120, .inl v))]) (w1 := []) (ws' := [(q, .inr (7, [v0, .ref z, .int (nI n), v3, v4, v5, v6, v7, v8, v9, v10, v11, v12, v13, v14, v15])), (z, .inl (G.2 1, 120, .inl v))]) ⟨hx, hb, hml, hown, hts⟩ (c_in l G k.toInt64 0 255) (va_cwS 3 hts gX7_append_X7_in rfl rfl rfl (by decide +kernel) ⟨Nat.le_of_ble_eq_true rfl, Nat.le_of_ble_eq_true rfl⟩) rfl hl.1 rfl (Nat.le_of_ble_eq_true rfl) dX7_append_7 ⟨Nat.le_of_ble_eq_true rfl, Nat.le_of_ble_eq_true rfl⟩ hK hE hA hM (List.Perm.refl _) (List.Perm.refl _) (fun H locs hM hz => ?_)
  refine z_ifne (tgt := 17) hx hb dX7_append_10 (by decide) (fun c_1 => Bool.noConfusion (c_1.symm.trans hc)) (fun c_1 => ?_)
  refine lv_iconst (v := 1) hx hb dX7_append_13 (by decide) ?_
  refine lv_goto (tgt := 31) hx hb dX7_append_14 (by decide) ?_
  refine z_callV (As := [.int 1]) (rest := []) (wc := [(q, .inr (7, [v0, .ref z, .int (nI n), v3, v4, v5, v6, v7, v8, v9, v10, v11, v12, v13, v14, v15]))]) (wr := [(z, .inl (G.2 1, 120, .inl v))]) (w1 := [(q, .inr (7, [.int 1, .ref z, .int (nI n), v3, v4, v5, v6, v7, v8, v9, v10, v11, v12, v13, v14, v15]))]) (ws' := [(q, .inr (7, [.int 1, .ref z, .int (nI n), v3, v4, v5, v6, v7, v8, v9, v10, v11, v12, v13, v14, v15])), (z, .inl (G.2 1, 120, .inl v))]) ⟨hx, hb, hml, hown, hts⟩ (c_refused l G q v0 (.ref z) (.int (nI n)) v3 v4 v5 v6 v7 v8 v9 v10 v11 v12 v13 v14 v15 1) (cwV 1 hts gX7_append_X7_refused rfl rfl rfl (by decide +kernel) ⟨Nat.le_of_ble_eq_true rfl, Nat.le_of_ble_eq_true rfl⟩) 7 rfl rfl rfl rfl hl.1 rfl (Nat.le_of_ble_eq_true rfl) dX7_append_31 ⟨Nat.le_of_ble_eq_true rfl, Nat.le_of_ble_eq_true rfl⟩ hK hE hA hM (pm_at 2 [0] [1] rfl rfl rfl (by decide)) ((pm_at 2 [0] [1] rfl rfl rfl (by decide))).symm (fun H locs hM hz => ?_)
  refine z_ifeq (tgt := 39) hx hb dX7_append_34 (by decide) (fun c_2 => absurd c_2 (by decide)) (fun c_2 => ?_)
  refine lv_iconst (v := 0) hx hb dX7_append_37 (by decide) ?_
  exact z_iret hx hb hr hlocks dX7_append_38 hM (Nat.le_of_ble_eq_true rfl) (Nat.le_of_ble_eq_true rfl) rfl

set_option maxHeartbeats 4000000 in
set_option maxRecDepth 100000 in
theorem c_rap2 (l : Launch) (G : zC) (q : Nat) (v0 v3 v4 v5 v6 v7 v8 v9 v10 v11 v12 v13 v14 v15 : Value) (z n : Nat) (v : Nat → Int32) (k : Int32) (hc : zI0 k.toInt64 0 255 = true) (hn : n = 120) : zMet l G yX7_append wsX7_append rmX7_append [.ref q, .int k] ([(q, .inr (7, [v0, .ref z, .int (nI n), v3, v4, v5, v6, v7, v8, v9, v10, v11, v12, v13, v14, v15])), (z, .inl (G.2 1, 120, .inl v))]) (some (.int 0)) ([(q, .inr (7, [.int 2, .ref z, .int (nI n), v3, v4, v5, v6, v7, v8, v9, v10, v11, v12, v13, v14, v15])), (z, .inl (G.2 1, 120, .inl v))]) := by
  refine zMet_of (cc := cX7_append) (maxL := 2) (ret := (some .int)) (by decide) rfl (Nat.le_of_ble_eq_true rfl) ?_
  intro p e s m below meth c A ls hx hb hr hml hown hts hK hA hE hlocks hin hM hl
  have hown : s.vm.findClass RX7 = some m.cls := hown
  have hM : zM G A s s.heap [] ([(q, .inr (7, [v0, .ref z, .int (nI n), v3, v4, v5, v6, v7, v8, v9, v10, v11, v12, v13, v14, v15])), (z, .inl (G.2 1, 120, .inl v))]) := hM
  have hl : lv_has ls 2 [(0, .ref q), (1, .int k)] := hl
  refine lv_aload_n hx hb dX7_append_0 rfl (lv_at hl 0 rfl) ?_
  refine lv_iload_n hx hb dX7_append_1 rfl (lv_at hl 1 rfl) ?_
  refine lv_i2l (v := k.toInt64) hx hb dX7_append_2 rfl ?_
  refine lv_lconst (v := 0) hx hb dX7_append_3 (by decide) ?_
  refine lv_ldc2 (v := 255) hx hb hown (hts (.constantLong RX7 158 255) (by decide +kernel)) dX7_append_4 ?_
  refine z_callS (As := [.long k.toInt64, .long 0, .long 255]) (rest := [.ref q]) (wc := []) (wr := [(q, .inr (7, [v0, .ref z, .int (nI n), v3, v4, v5, v6, v7, v8, v9, v10, v11, v12, v13, v14, v15])), (z, .inl (G.2 1, 120, .inl v))]) (w1 := []) (ws' := [(q, .inr (7, [v0, .ref z, .int (nI n), v3, v4, v5, v6, v7, v8, v9, v10, v11, v12, v13, v14, v15])), (z, .inl (G.2 1, 120, .inl v))]) ⟨hx, hb, hml, hown, hts⟩ (c_in l G k.toInt64 0 255) (va_cwS 3 hts gX7_append_X7_in rfl rfl rfl (by decide +kernel) ⟨Nat.le_of_ble_eq_true rfl, Nat.le_of_ble_eq_true rfl⟩) rfl hl.1 rfl (Nat.le_of_ble_eq_true rfl) dX7_append_7 ⟨Nat.le_of_ble_eq_true rfl, Nat.le_of_ble_eq_true rfl⟩ hK hE hA hM (List.Perm.refl _) (List.Perm.refl _) (fun H locs hM hz => ?_)
  refine z_ifne (tgt := 17) hx hb dX7_append_10 (by decide) (fun c_1 => ?_) (fun c_1 => Bool.noConfusion (hc.symm.trans c_1))
  refine lv_aload_n hx hb dX7_append_17 rfl (lv_at hl 0 rfl) ?_
  refine z_get (ci := 7) (v := .int (nI n)) (C := RX7) (T := TX7) (N := 16) hx hb hts (by decide +kernel) hown hK hM 0 rfl rfl 2 (by decide) (hts (.fieldLink RX7 160 "ShiftIslesModel" "size" "I") (by decide +kernel)) (fun _ h9 => h9) rfl dX7_append_18 ?_
  refine lv_bipush (v := 120) hx hb dX7_append_21 (by decide) ?_
  refine z_topi (y := nI 120) rfl ?_
  refine lv_icmp_ne (tgt := 30) hx hb dX7_append_23 (by decide) (fun c_2 => absurd (by rw [hn]) c_2) (fun c_2 => ?_)
  refine lv_iconst (v := 2) hx hb dX7_append_26 (by decide) ?_
  refine lv_goto (tgt := 31) hx hb dX7_append_27 (by decide) ?_
  refine z_callV (As := [.int 2]) (rest := []) (wc := [(q, .inr (7, [v0, .ref z, .int (nI n), v3, v4, v5, v6, v7, v8, v9, v10, v11, v12, v13, v14, v15]))]) (wr := [(z, .inl (G.2 1, 120, .inl v))]) (w1 := [(q, .inr (7, [.int 2, .ref z, .int (nI n), v3, v4, v5, v6, v7, v8, v9, v10, v11, v12, v13, v14, v15]))]) (ws' := [(q, .inr (7, [.int 2, .ref z, .int (nI n), v3, v4, v5, v6, v7, v8, v9, v10, v11, v12, v13, v14, v15])), (z, .inl (G.2 1, 120, .inl v))]) ⟨hx, hb, hml, hown, hts⟩ (c_refused l G q v0 (.ref z) (.int (nI n)) v3 v4 v5 v6 v7 v8 v9 v10 v11 v12 v13 v14 v15 2) (cwV 1 hts gX7_append_X7_refused rfl rfl rfl (by decide +kernel) ⟨Nat.le_of_ble_eq_true rfl, Nat.le_of_ble_eq_true rfl⟩) 7 rfl rfl rfl rfl hl.1 rfl (Nat.le_of_ble_eq_true rfl) dX7_append_31 ⟨Nat.le_of_ble_eq_true rfl, Nat.le_of_ble_eq_true rfl⟩ hK hE hA hM (pm_at 2 [0] [1] rfl rfl rfl (by decide)) ((pm_at 2 [0] [1] rfl rfl rfl (by decide))).symm (fun H locs hM hz => ?_)
  refine z_ifeq (tgt := 39) hx hb dX7_append_34 (by decide) (fun c_3 => absurd c_3 (by decide)) (fun c_3 => ?_)
  refine lv_iconst (v := 0) hx hb dX7_append_37 (by decide) ?_
  exact z_iret hx hb hr hlocks dX7_append_38 hM (Nat.le_of_ble_eq_true rfl) (Nat.le_of_ble_eq_true rfl) rfl

set_option maxHeartbeats 4000000 in
set_option maxRecDepth 100000 in
theorem c_rap0 (l : Launch) (G : zC) (q : Nat) (v0 v3 v4 v5 v6 v7 v8 v9 v10 v11 v12 v13 v14 v15 : Value) (z n : Nat) (v : Nat → Int32) (k : Int32) (hc : zI0 k.toInt64 0 255 = true) (hn : n < 120) : zMet l G yX7_append wsX7_append rmX7_append [.ref q, .int k] ([(q, .inr (7, [v0, .ref z, .int (nI n), v3, v4, v5, v6, v7, v8, v9, v10, v11, v12, v13, v14, v15])), (z, .inl (G.2 1, 120, .inl v))]) (some (.int (nI (n + 1)))) ([(q, .inr (7, [.int 0, .ref z, .int (nI (n + 1)), v3, v4, v5, v6, v7, v8, v9, v10, v11, v12, v13, v14, v15])), (z, .inl (G.2 1, 120, .inl (upd v n k)))]) := by
  refine zMet_of (cc := cX7_append) (maxL := 2) (ret := (some .int)) (by decide) rfl (Nat.le_of_ble_eq_true rfl) ?_
  intro p e s m below meth c A ls hx hb hr hml hown hts hK hA hE hlocks hin hM hl
  have hown : s.vm.findClass RX7 = some m.cls := hown
  have hM : zM G A s s.heap [] ([(q, .inr (7, [v0, .ref z, .int (nI n), v3, v4, v5, v6, v7, v8, v9, v10, v11, v12, v13, v14, v15])), (z, .inl (G.2 1, 120, .inl v))]) := hM
  have hl : lv_has ls 2 [(0, .ref q), (1, .int k)] := hl
  refine lv_aload_n hx hb dX7_append_0 rfl (lv_at hl 0 rfl) ?_
  refine lv_iload_n hx hb dX7_append_1 rfl (lv_at hl 1 rfl) ?_
  refine lv_i2l (v := k.toInt64) hx hb dX7_append_2 rfl ?_
  refine lv_lconst (v := 0) hx hb dX7_append_3 (by decide) ?_
  refine lv_ldc2 (v := 255) hx hb hown (hts (.constantLong RX7 158 255) (by decide +kernel)) dX7_append_4 ?_
  refine z_callS (As := [.long k.toInt64, .long 0, .long 255]) (rest := [.ref q]) (wc := []) (wr := [(q, .inr (7, [v0, .ref z, .int (nI n), v3, v4, v5, v6, v7, v8, v9, v10, v11, v12, v13, v14, v15])), (z, .inl (G.2 1, 120, .inl v))]) (w1 := []) (ws' := [(q, .inr (7, [v0, .ref z, .int (nI n), v3, v4, v5, v6, v7, v8, v9, v10, v11, v12, v13, v14, v15])), (z, .inl (G.2 1, 120, .inl v))]) ⟨hx, hb, hml, hown, hts⟩ (c_in l G k.toInt64 0 255) (va_cwS 3 hts gX7_append_X7_in rfl rfl rfl (by decide +kernel) ⟨Nat.le_of_ble_eq_true rfl, Nat.le_of_ble_eq_true rfl⟩) rfl hl.1 rfl (Nat.le_of_ble_eq_true rfl) dX7_append_7 ⟨Nat.le_of_ble_eq_true rfl, Nat.le_of_ble_eq_true rfl⟩ hK hE hA hM (List.Perm.refl _) (List.Perm.refl _) (fun H locs hM hz => ?_)
  refine z_ifne (tgt := 17) hx hb dX7_append_10 (by decide) (fun c_1 => ?_) (fun c_1 => Bool.noConfusion (hc.symm.trans c_1))
  refine lv_aload_n hx hb dX7_append_17 rfl (lv_at hl 0 rfl) ?_
  refine z_get (ci := 7) (v := .int (nI n)) (C := RX7) (T := TX7) (N := 16) hx hb hts (by decide +kernel) hown hK hM 0 rfl rfl 2 (by decide) (hts (.fieldLink RX7 160 "ShiftIslesModel" "size" "I") (by decide +kernel)) (fun _ h9 => h9) rfl dX7_append_18 ?_
  refine lv_bipush (v := 120) hx hb dX7_append_21 (by decide) ?_
  refine z_topi (y := nI 120) rfl ?_
  refine lv_icmp_ne (tgt := 30) hx hb dX7_append_23 (by decide) (fun c_2 => ?_) (fun c_2 => absurd ((nI_eq (a := n) (b := 120) (by omega) (by decide)).mp c_2) (by omega))
  refine lv_iconst (v := 0) hx hb dX7_append_30 (by decide) ?_
  refine z_callV (As := [.int 0]) (rest := []) (wc := [(q, .inr (7, [v0, .ref z, .int (nI n), v3, v4, v5, v6, v7, v8, v9, v10, v11, v12, v13, v14, v15]))]) (wr := [(z, .inl (G.2 1, 120, .inl v))]) (w1 := [(q, .inr (7, [.int 0, .ref z, .int (nI n), v3, v4, v5, v6, v7, v8, v9, v10, v11, v12, v13, v14, v15]))]) (ws' := [(q, .inr (7, [.int 0, .ref z, .int (nI n), v3, v4, v5, v6, v7, v8, v9, v10, v11, v12, v13, v14, v15])), (z, .inl (G.2 1, 120, .inl v))]) ⟨hx, hb, hml, hown, hts⟩ (c_refused l G q v0 (.ref z) (.int (nI n)) v3 v4 v5 v6 v7 v8 v9 v10 v11 v12 v13 v14 v15 0) (cwV 1 hts gX7_append_X7_refused rfl rfl rfl (by decide +kernel) ⟨Nat.le_of_ble_eq_true rfl, Nat.le_of_ble_eq_true rfl⟩) 7 rfl rfl rfl rfl hl.1 rfl (Nat.le_of_ble_eq_true rfl) dX7_append_31 ⟨Nat.le_of_ble_eq_true rfl, Nat.le_of_ble_eq_true rfl⟩ hK hE hA hM (pm_at 2 [0] [1] rfl rfl rfl (by decide)) ((pm_at 2 [0] [1] rfl rfl rfl (by decide))).symm (fun H locs hM hz => ?_)
  refine z_ifeq (tgt := 39) hx hb dX7_append_34 (by decide) (fun c_3 => ?_) (fun c_3 => absurd c_3 (by decide))
  refine lv_aload_n hx hb dX7_append_39 rfl (lv_at hl 0 rfl) ?_
  refine z_get (ci := 7) (v := .ref z) (C := RX7) (T := TX7) (N := 16) hx hb hts (by decide +kernel) hown hK hM 0 rfl rfl 1 (by decide) (hts (.fieldLink RX7 7 "ShiftIslesModel" "text" "[I") (by decide +kernel)) (fun _ h9 => h9) rfl dX7_append_40 ?_
  refine lv_aload_n hx hb dX7_append_43 rfl (lv_at hl 0 rfl) ?_
  refine z_get (ci := 7) (v := .int (nI n)) (C := RX7) (T := TX7) (N := 16) hx hb hts (by decide +kernel) hown hK hM 0 rfl rfl 2 (by decide) (hts (.fieldLink RX7 160 "ShiftIslesModel" "size" "I") (by decide +kernel)) (fun _ h9 => h9) rfl dX7_append_44 ?_
  refine lv_iload_n hx hb dX7_append_47 rfl (lv_at hl 1 rfl) ?_
  refine z_iast (ws' := [(q, .inr (7, [.int 0, .ref z, .int (nI n), v3, v4, v5, v6, v7, v8, v9, v10, v11, v12, v13, v14, v15])), (z, .inl (G.2 1, 120, .inl (upd v n k)))]) hx hb hK hM 1 rfl (vp_in_nI (by omega) (by decide)) dX7_append_48 (by rw [nI_clamp (by omega)]; rfl) (fun H locs hM => ?_)
  refine lv_aload_n hx hb dX7_append_49 rfl (lv_at hl 0 rfl) ?_
  refine lv_dup hx hb dX7_append_50 rfl ?_
  refine z_get (ci := 7) (v := .int (nI n)) (C := RX7) (T := TX7) (N := 16) hx hb hts (by decide +kernel) hown hK hM 0 rfl rfl 2 (by decide) (hts (.fieldLink RX7 160 "ShiftIslesModel" "size" "I") (by decide +kernel)) (fun _ h9 => h9) rfl dX7_append_51 ?_
  refine lv_iconst (v := 1) hx hb dX7_append_54 (by decide) ?_
  refine lv_iadd hx hb dX7_append_55 ?_
  refine z_topi (y := nI (n + 1)) (nI_add n 1) ?_
  refine z_put (ci := 7) (ty := .int) (v := .int (nI (n + 1))) (C := RX7) (T := TX7) (N := 16) (ws' := [(q, .inr (7, [.int 0, .ref z, .int (nI (n + 1)), v3, v4, v5, v6, v7, v8, v9, v10, v11, v12, v13, v14, v15])), (z, .inl (G.2 1, 120, .inl (upd v n k)))]) hx hb hts (by decide +kernel) tyX7 tyX7_ok nmX7 hown hK hM 0 rfl rfl 2 (by decide) (hts (.fieldLink RX7 160 "ShiftIslesModel" "size" "I") (by decide +kernel)) (fun _ h9 => h9) rfl (by decide +kernel) rfl rfl (Nat.le_of_ble_eq_true rfl) dX7_append_56 rfl (fun H locs hM => ?_)
  refine lv_aload_n hx hb dX7_append_59 rfl (lv_at hl 0 rfl) ?_
  refine z_get (ci := 7) (v := .int (nI (n + 1))) (C := RX7) (T := TX7) (N := 16) hx hb hts (by decide +kernel) hown hK hM 0 rfl rfl 2 (by decide) (hts (.fieldLink RX7 160 "ShiftIslesModel" "size" "I") (by decide +kernel)) (fun _ h9 => h9) rfl dX7_append_60 ?_
  exact z_iret hx hb hr hlocks dX7_append_63 hM (Nat.le_of_ble_eq_true rfl) (Nat.le_of_ble_eq_true rfl) rfl

set_option maxHeartbeats 4000000 in
set_option maxRecDepth 100000 in
theorem c_dig0 (l : Launch) (G : zC) (q : Nat) (v0 v3 v4 v5 v6 v7 v8 v9 v10 v11 v12 v13 v15 : Value) (z n j : Nat) (v : Nat → Int32) (lo hi : Int32) (hn : n ≤ 120) (hj : j < 1000) (hd : zI0 (zDg v n j).toInt64 lo.toInt64 hi.toInt64 = false) : zMet l G yX7_digit wsX7_digit rmX7_digit [.ref q, .int lo, .int hi] ([(q, .inr (7, [v0, .ref z, .int (nI n), v3, v4, v5, v6, v7, v8, v9, v10, v11, v12, v13, .int (nI j), v15])), (z, .inl (G.2 1, 120, .inl v))]) (some (.int (-1))) ([(q, .inr (7, [v0, .ref z, .int (nI n), v3, v4, v5, v6, v7, v8, v9, v10, v11, v12, v13, .int (nI j), v15])), (z, .inl (G.2 1, 120, .inl v))]) := by
  refine zMet_of (cc := cX7_digit) (maxL := 4) (ret := (some .int)) (by decide) rfl (Nat.le_of_ble_eq_true rfl) ?_
  intro p e s m below meth c A ls hx hb hr hml hown hts hK hA hE hlocks hin hM hl
  have hown : s.vm.findClass RX7 = some m.cls := hown
  have hM : zM G A s s.heap [] ([(q, .inr (7, [v0, .ref z, .int (nI n), v3, v4, v5, v6, v7, v8, v9, v10, v11, v12, v13, .int (nI j), v15])), (z, .inl (G.2 1, 120, .inl v))]) := hM
  have hl : lv_has ls 4 [(0, .ref q), (1, .int lo), (2, .int hi)] := hl
  refine lv_aload_n hx hb dX7_digit_0 rfl (lv_at hl 0 rfl) ?_
  refine z_get (ci := 7) (v := .int (nI j)) (C := RX7) (T := TX7) (N := 16) hx hb hts (by decide +kernel) hown hK hM 0 rfl rfl 14 (by decide) (hts (.fieldLink RX7 167 "ShiftIslesModel" "spot" "I") (by decide +kernel)) (fun _ h9 => h9) rfl dX7_digit_1 ?_
  refine lv_aload_n hx hb dX7_digit_4 rfl (lv_at hl 0 rfl) ?_
  refine z_get (ci := 7) (v := .int (nI n)) (C := RX7) (T := TX7) (N := 16) hx hb hts (by decide +kernel) hown hK hM 0 rfl rfl 2 (by decide) (hts (.fieldLink RX7 160 "ShiftIslesModel" "size" "I") (by decide +kernel)) (fun _ h9 => h9) rfl dX7_digit_5 ?_
  refine lv_icmp_ge (tgt := 26) hx hb dX7_digit_8 (by decide) (fun c_1 => ?_) (fun c_1 => ?_)
  · have ej : zDg v n j = -1 := by rw [zDg, if_neg (fun q => absurd c_1 (nI_ge q (by omega)))]
    refine lv_iconst (v := (-1)) hx hb dX7_digit_26 (by decide) ?_
    refine z_topi (y := zDg v n j) ej.symm ?_
    refine lv_istore_n (lv' := [(3, .int (zDg v n j)), (0, .ref q), (1, .int lo), (2, .int hi)]) hx hb dX7_digit_27 rfl hl (by decide) rfl (fun ls hl => ?_)
    refine lv_iload_n hx hb dX7_digit_28 rfl (lv_at hl 0 rfl) ?_
    refine lv_i2l (v := (zDg v n j).toInt64) hx hb dX7_digit_29 rfl ?_
    refine lv_iload_n hx hb dX7_digit_30 rfl (lv_at hl 2 rfl) ?_
    refine lv_i2l (v := lo.toInt64) hx hb dX7_digit_31 rfl ?_
    refine lv_iload_n hx hb dX7_digit_32 rfl (lv_at hl 3 rfl) ?_
    refine lv_i2l (v := hi.toInt64) hx hb dX7_digit_33 rfl ?_
    refine z_callS (As := [.long ((zDg v n j).toInt64), .long lo.toInt64, .long hi.toInt64]) (rest := []) (wc := []) (wr := [(q, .inr (7, [v0, .ref z, .int (nI n), v3, v4, v5, v6, v7, v8, v9, v10, v11, v12, v13, .int (nI j), v15])), (z, .inl (G.2 1, 120, .inl v))]) (w1 := []) (ws' := [(q, .inr (7, [v0, .ref z, .int (nI n), v3, v4, v5, v6, v7, v8, v9, v10, v11, v12, v13, .int (nI j), v15])), (z, .inl (G.2 1, 120, .inl v))]) ⟨hx, hb, hml, hown, hts⟩ (c_in l G ((zDg v n j).toInt64) lo.toInt64 hi.toInt64) (va_cwS 3 hts gX7_digit_X7_in rfl rfl rfl (by decide +kernel) ⟨Nat.le_of_ble_eq_true rfl, Nat.le_of_ble_eq_true rfl⟩) rfl hl.1 rfl (Nat.le_of_ble_eq_true rfl) dX7_digit_34 ⟨Nat.le_of_ble_eq_true rfl, Nat.le_of_ble_eq_true rfl⟩ hK hE hA hM (List.Perm.refl _) (List.Perm.refl _) (fun H locs hM hz => ?_)
    refine z_ifne (tgt := 42) hx hb dX7_digit_37 (by decide) (fun c_2 => Bool.noConfusion (c_2.symm.trans hd)) (fun c_2 => ?_)
    refine lv_iconst (v := (-1)) hx hb dX7_digit_40 (by decide) ?_
    exact z_iret hx hb hr hlocks dX7_digit_41 hM (Nat.le_of_ble_eq_true rfl) (Nat.le_of_ble_eq_true rfl) rfl
  · have hjn : j < n := Nat.not_le.mp (fun q => c_1 ((nI_leI (by omega) (by omega)).mpr q))
    have ej : zDg v n j = v j - 48 := by rw [zDg, if_pos hjn]
    refine lv_aload_n hx hb dX7_digit_11 rfl (lv_at hl 0 rfl) ?_
    refine z_get (ci := 7) (v := .ref z) (C := RX7) (T := TX7) (N := 16) hx hb hts (by decide +kernel) hown hK hM 0 rfl rfl 1 (by decide) (hts (.fieldLink RX7 7 "ShiftIslesModel" "text" "[I") (by decide +kernel)) (fun _ h9 => h9) rfl dX7_digit_12 ?_
    refine lv_aload_n hx hb dX7_digit_15 rfl (lv_at hl 0 rfl) ?_
    refine z_get (ci := 7) (v := .int (nI j)) (C := RX7) (T := TX7) (N := 16) hx hb hts (by decide +kernel) hown hK hM 0 rfl rfl 14 (by decide) (hts (.fieldLink RX7 167 "ShiftIslesModel" "spot" "I") (by decide +kernel)) (fun _ h9 => h9) rfl dX7_digit_16 ?_
    refine z_iald hx hb hK hM 1 rfl (v := v j) (vp_in_nI (by omega) (by decide)) (by rw [nI_clamp (by omega)]) dX7_digit_19 ?_
    refine lv_bipush (v := 48) hx hb dX7_digit_20 (by decide) ?_
    refine lv_isub hx hb dX7_digit_22 ?_
    refine lv_goto (tgt := 27) hx hb dX7_digit_23 (by decide) ?_
    refine z_topi (y := zDg v n j) ej.symm ?_
    refine lv_istore_n (lv' := [(3, .int (zDg v n j)), (0, .ref q), (1, .int lo), (2, .int hi)]) hx hb dX7_digit_27 rfl hl (by decide) rfl (fun ls hl => ?_)
    refine lv_iload_n hx hb dX7_digit_28 rfl (lv_at hl 0 rfl) ?_
    refine lv_i2l (v := (zDg v n j).toInt64) hx hb dX7_digit_29 rfl ?_
    refine lv_iload_n hx hb dX7_digit_30 rfl (lv_at hl 2 rfl) ?_
    refine lv_i2l (v := lo.toInt64) hx hb dX7_digit_31 rfl ?_
    refine lv_iload_n hx hb dX7_digit_32 rfl (lv_at hl 3 rfl) ?_
    refine lv_i2l (v := hi.toInt64) hx hb dX7_digit_33 rfl ?_
    refine z_callS (As := [.long ((zDg v n j).toInt64), .long lo.toInt64, .long hi.toInt64]) (rest := []) (wc := []) (wr := [(q, .inr (7, [v0, .ref z, .int (nI n), v3, v4, v5, v6, v7, v8, v9, v10, v11, v12, v13, .int (nI j), v15])), (z, .inl (G.2 1, 120, .inl v))]) (w1 := []) (ws' := [(q, .inr (7, [v0, .ref z, .int (nI n), v3, v4, v5, v6, v7, v8, v9, v10, v11, v12, v13, .int (nI j), v15])), (z, .inl (G.2 1, 120, .inl v))]) ⟨hx, hb, hml, hown, hts⟩ (c_in l G ((zDg v n j).toInt64) lo.toInt64 hi.toInt64) (va_cwS 3 hts gX7_digit_X7_in rfl rfl rfl (by decide +kernel) ⟨Nat.le_of_ble_eq_true rfl, Nat.le_of_ble_eq_true rfl⟩) rfl hl.1 rfl (Nat.le_of_ble_eq_true rfl) dX7_digit_34 ⟨Nat.le_of_ble_eq_true rfl, Nat.le_of_ble_eq_true rfl⟩ hK hE hA hM (List.Perm.refl _) (List.Perm.refl _) (fun H locs hM hz => ?_)
    refine z_ifne (tgt := 42) hx hb dX7_digit_37 (by decide) (fun c_3 => Bool.noConfusion (c_3.symm.trans hd)) (fun c_3 => ?_)
    refine lv_iconst (v := (-1)) hx hb dX7_digit_40 (by decide) ?_
    exact z_iret hx hb hr hlocks dX7_digit_41 hM (Nat.le_of_ble_eq_true rfl) (Nat.le_of_ble_eq_true rfl) rfl

set_option maxHeartbeats 4000000 in
set_option maxRecDepth 100000 in
theorem c_dig1 (l : Launch) (G : zC) (q : Nat) (v0 v3 v4 v5 v6 v7 v8 v9 v10 v11 v12 v13 v15 : Value) (z n j : Nat) (v : Nat → Int32) (lo hi : Int32) (hn : n ≤ 120) (hj : j < 1000) (hd : zI0 (zDg v n j).toInt64 lo.toInt64 hi.toInt64 = true) : zMet l G yX7_digit wsX7_digit rmX7_digit [.ref q, .int lo, .int hi] ([(q, .inr (7, [v0, .ref z, .int (nI n), v3, v4, v5, v6, v7, v8, v9, v10, v11, v12, v13, .int (nI j), v15])), (z, .inl (G.2 1, 120, .inl v))]) (some (.int (zDg v n j))) ([(q, .inr (7, [v0, .ref z, .int (nI n), v3, v4, v5, v6, v7, v8, v9, v10, v11, v12, v13, .int (nI (j + 1)), v15])), (z, .inl (G.2 1, 120, .inl v))]) := by
  refine zMet_of (cc := cX7_digit) (maxL := 4) (ret := (some .int)) (by decide) rfl (Nat.le_of_ble_eq_true rfl) ?_
  intro p e s m below meth c A ls hx hb hr hml hown hts hK hA hE hlocks hin hM hl
  have hown : s.vm.findClass RX7 = some m.cls := hown
  have hM : zM G A s s.heap [] ([(q, .inr (7, [v0, .ref z, .int (nI n), v3, v4, v5, v6, v7, v8, v9, v10, v11, v12, v13, .int (nI j), v15])), (z, .inl (G.2 1, 120, .inl v))]) := hM
  have hl : lv_has ls 4 [(0, .ref q), (1, .int lo), (2, .int hi)] := hl
  refine lv_aload_n hx hb dX7_digit_0 rfl (lv_at hl 0 rfl) ?_
  refine z_get (ci := 7) (v := .int (nI j)) (C := RX7) (T := TX7) (N := 16) hx hb hts (by decide +kernel) hown hK hM 0 rfl rfl 14 (by decide) (hts (.fieldLink RX7 167 "ShiftIslesModel" "spot" "I") (by decide +kernel)) (fun _ h9 => h9) rfl dX7_digit_1 ?_
  refine lv_aload_n hx hb dX7_digit_4 rfl (lv_at hl 0 rfl) ?_
  refine z_get (ci := 7) (v := .int (nI n)) (C := RX7) (T := TX7) (N := 16) hx hb hts (by decide +kernel) hown hK hM 0 rfl rfl 2 (by decide) (hts (.fieldLink RX7 160 "ShiftIslesModel" "size" "I") (by decide +kernel)) (fun _ h9 => h9) rfl dX7_digit_5 ?_
  refine lv_icmp_ge (tgt := 26) hx hb dX7_digit_8 (by decide) (fun c_1 => ?_) (fun c_1 => ?_)
  · have ej : zDg v n j = -1 := by rw [zDg, if_neg (fun q => absurd c_1 (nI_ge q (by omega)))]
    refine lv_iconst (v := (-1)) hx hb dX7_digit_26 (by decide) ?_
    refine z_topi (y := zDg v n j) ej.symm ?_
    refine lv_istore_n (lv' := [(3, .int (zDg v n j)), (0, .ref q), (1, .int lo), (2, .int hi)]) hx hb dX7_digit_27 rfl hl (by decide) rfl (fun ls hl => ?_)
    refine lv_iload_n hx hb dX7_digit_28 rfl (lv_at hl 0 rfl) ?_
    refine lv_i2l (v := (zDg v n j).toInt64) hx hb dX7_digit_29 rfl ?_
    refine lv_iload_n hx hb dX7_digit_30 rfl (lv_at hl 2 rfl) ?_
    refine lv_i2l (v := lo.toInt64) hx hb dX7_digit_31 rfl ?_
    refine lv_iload_n hx hb dX7_digit_32 rfl (lv_at hl 3 rfl) ?_
    refine lv_i2l (v := hi.toInt64) hx hb dX7_digit_33 rfl ?_
    refine z_callS (As := [.long ((zDg v n j).toInt64), .long lo.toInt64, .long hi.toInt64]) (rest := []) (wc := []) (wr := [(q, .inr (7, [v0, .ref z, .int (nI n), v3, v4, v5, v6, v7, v8, v9, v10, v11, v12, v13, .int (nI j), v15])), (z, .inl (G.2 1, 120, .inl v))]) (w1 := []) (ws' := [(q, .inr (7, [v0, .ref z, .int (nI n), v3, v4, v5, v6, v7, v8, v9, v10, v11, v12, v13, .int (nI j), v15])), (z, .inl (G.2 1, 120, .inl v))]) ⟨hx, hb, hml, hown, hts⟩ (c_in l G ((zDg v n j).toInt64) lo.toInt64 hi.toInt64) (va_cwS 3 hts gX7_digit_X7_in rfl rfl rfl (by decide +kernel) ⟨Nat.le_of_ble_eq_true rfl, Nat.le_of_ble_eq_true rfl⟩) rfl hl.1 rfl (Nat.le_of_ble_eq_true rfl) dX7_digit_34 ⟨Nat.le_of_ble_eq_true rfl, Nat.le_of_ble_eq_true rfl⟩ hK hE hA hM (List.Perm.refl _) (List.Perm.refl _) (fun H locs hM hz => ?_)
    refine z_ifne (tgt := 42) hx hb dX7_digit_37 (by decide) (fun c_2 => ?_) (fun c_2 => Bool.noConfusion (hd.symm.trans c_2))
    refine lv_aload_n hx hb dX7_digit_42 rfl (lv_at hl 1 rfl) ?_
    refine lv_dup hx hb dX7_digit_43 rfl ?_
    refine z_get (ci := 7) (v := .int (nI j)) (C := RX7) (T := TX7) (N := 16) hx hb hts (by decide +kernel) hown hK hM 0 rfl rfl 14 (by decide) (hts (.fieldLink RX7 167 "ShiftIslesModel" "spot" "I") (by decide +kernel)) (fun _ h9 => h9) rfl dX7_digit_44 ?_
    refine lv_iconst (v := 1) hx hb dX7_digit_47 (by decide) ?_
    refine lv_iadd hx hb dX7_digit_48 ?_
    refine z_topi (y := nI (j + 1)) (nI_add j 1) ?_
    refine z_put (ci := 7) (ty := .int) (v := .int (nI (j + 1))) (C := RX7) (T := TX7) (N := 16) (ws' := [(q, .inr (7, [v0, .ref z, .int (nI n), v3, v4, v5, v6, v7, v8, v9, v10, v11, v12, v13, .int (nI (j + 1)), v15])), (z, .inl (G.2 1, 120, .inl v))]) hx hb hts (by decide +kernel) tyX7 tyX7_ok nmX7 hown hK hM 0 rfl rfl 14 (by decide) (hts (.fieldLink RX7 167 "ShiftIslesModel" "spot" "I") (by decide +kernel)) (fun _ h9 => h9) rfl (by decide +kernel) rfl rfl (Nat.le_of_ble_eq_true rfl) dX7_digit_49 rfl (fun H locs hM => ?_)
    refine lv_iload_n hx hb dX7_digit_52 rfl (lv_at hl 0 rfl) ?_
    exact z_iret hx hb hr hlocks dX7_digit_53 hM (Nat.le_of_ble_eq_true rfl) (Nat.le_of_ble_eq_true rfl) rfl
  · have hjn : j < n := Nat.not_le.mp (fun q => c_1 ((nI_leI (by omega) (by omega)).mpr q))
    have ej : zDg v n j = v j - 48 := by rw [zDg, if_pos hjn]
    refine lv_aload_n hx hb dX7_digit_11 rfl (lv_at hl 0 rfl) ?_
    refine z_get (ci := 7) (v := .ref z) (C := RX7) (T := TX7) (N := 16) hx hb hts (by decide +kernel) hown hK hM 0 rfl rfl 1 (by decide) (hts (.fieldLink RX7 7 "ShiftIslesModel" "text" "[I") (by decide +kernel)) (fun _ h9 => h9) rfl dX7_digit_12 ?_
    refine lv_aload_n hx hb dX7_digit_15 rfl (lv_at hl 0 rfl) ?_
    refine z_get (ci := 7) (v := .int (nI j)) (C := RX7) (T := TX7) (N := 16) hx hb hts (by decide +kernel) hown hK hM 0 rfl rfl 14 (by decide) (hts (.fieldLink RX7 167 "ShiftIslesModel" "spot" "I") (by decide +kernel)) (fun _ h9 => h9) rfl dX7_digit_16 ?_
    refine z_iald hx hb hK hM 1 rfl (v := v j) (vp_in_nI (by omega) (by decide)) (by rw [nI_clamp (by omega)]) dX7_digit_19 ?_
    refine lv_bipush (v := 48) hx hb dX7_digit_20 (by decide) ?_
    refine lv_isub hx hb dX7_digit_22 ?_
    refine lv_goto (tgt := 27) hx hb dX7_digit_23 (by decide) ?_
    refine z_topi (y := zDg v n j) ej.symm ?_
    refine lv_istore_n (lv' := [(3, .int (zDg v n j)), (0, .ref q), (1, .int lo), (2, .int hi)]) hx hb dX7_digit_27 rfl hl (by decide) rfl (fun ls hl => ?_)
    refine lv_iload_n hx hb dX7_digit_28 rfl (lv_at hl 0 rfl) ?_
    refine lv_i2l (v := (zDg v n j).toInt64) hx hb dX7_digit_29 rfl ?_
    refine lv_iload_n hx hb dX7_digit_30 rfl (lv_at hl 2 rfl) ?_
    refine lv_i2l (v := lo.toInt64) hx hb dX7_digit_31 rfl ?_
    refine lv_iload_n hx hb dX7_digit_32 rfl (lv_at hl 3 rfl) ?_
    refine lv_i2l (v := hi.toInt64) hx hb dX7_digit_33 rfl ?_
    refine z_callS (As := [.long ((zDg v n j).toInt64), .long lo.toInt64, .long hi.toInt64]) (rest := []) (wc := []) (wr := [(q, .inr (7, [v0, .ref z, .int (nI n), v3, v4, v5, v6, v7, v8, v9, v10, v11, v12, v13, .int (nI j), v15])), (z, .inl (G.2 1, 120, .inl v))]) (w1 := []) (ws' := [(q, .inr (7, [v0, .ref z, .int (nI n), v3, v4, v5, v6, v7, v8, v9, v10, v11, v12, v13, .int (nI j), v15])), (z, .inl (G.2 1, 120, .inl v))]) ⟨hx, hb, hml, hown, hts⟩ (c_in l G ((zDg v n j).toInt64) lo.toInt64 hi.toInt64) (va_cwS 3 hts gX7_digit_X7_in rfl rfl rfl (by decide +kernel) ⟨Nat.le_of_ble_eq_true rfl, Nat.le_of_ble_eq_true rfl⟩) rfl hl.1 rfl (Nat.le_of_ble_eq_true rfl) dX7_digit_34 ⟨Nat.le_of_ble_eq_true rfl, Nat.le_of_ble_eq_true rfl⟩ hK hE hA hM (List.Perm.refl _) (List.Perm.refl _) (fun H locs hM hz => ?_)
    refine z_ifne (tgt := 42) hx hb dX7_digit_37 (by decide) (fun c_3 => ?_) (fun c_3 => Bool.noConfusion (hd.symm.trans c_3))
    refine lv_aload_n hx hb dX7_digit_42 rfl (lv_at hl 1 rfl) ?_
    refine lv_dup hx hb dX7_digit_43 rfl ?_
    refine z_get (ci := 7) (v := .int (nI j)) (C := RX7) (T := TX7) (N := 16) hx hb hts (by decide +kernel) hown hK hM 0 rfl rfl 14 (by decide) (hts (.fieldLink RX7 167 "ShiftIslesModel" "spot" "I") (by decide +kernel)) (fun _ h9 => h9) rfl dX7_digit_44 ?_
    refine lv_iconst (v := 1) hx hb dX7_digit_47 (by decide) ?_
    refine lv_iadd hx hb dX7_digit_48 ?_
    refine z_topi (y := nI (j + 1)) (nI_add j 1) ?_
    refine z_put (ci := 7) (ty := .int) (v := .int (nI (j + 1))) (C := RX7) (T := TX7) (N := 16) (ws' := [(q, .inr (7, [v0, .ref z, .int (nI n), v3, v4, v5, v6, v7, v8, v9, v10, v11, v12, v13, .int (nI (j + 1)), v15])), (z, .inl (G.2 1, 120, .inl v))]) hx hb hts (by decide +kernel) tyX7 tyX7_ok nmX7 hown hK hM 0 rfl rfl 14 (by decide) (hts (.fieldLink RX7 167 "ShiftIslesModel" "spot" "I") (by decide +kernel)) (fun _ h9 => h9) rfl (by decide +kernel) rfl rfl (Nat.le_of_ble_eq_true rfl) dX7_digit_49 rfl (fun H locs hM => ?_)
    refine lv_iload_n hx hb dX7_digit_52 rfl (lv_at hl 0 rfl) ?_
    exact z_iret hx hb hr hlocks dX7_digit_53 hM (Nat.le_of_ble_eq_true rfl) (Nat.le_of_ble_eq_true rfl) rfl
