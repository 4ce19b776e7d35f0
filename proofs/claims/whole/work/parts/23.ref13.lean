/-! REFERENCE, tenth part: asking -/
theorem zRe_s (a d : Int32) : ∀ (k : Nat) (x : Int32), zWi (zRe a d k x) a d = zRe a d (k + 1) x
  | 0, _ => rfl
  | k + 1, x => by
    rw [zRe, zRe_s a d k, ← zRe]
theorem zRch_s (f : Nat → Int32) (k : Nat) : zWi (zRch f k) (zAcr f) (zDow f) = zRch f (k + 1) := by
  rw [zRch, zRch, zRe_s]
set_option maxHeartbeats 4000000 in
set_option maxRecDepth 100000 in
theorem c_r_tile1 (l : Launch) (G : zC) (q : Nat) (v0 v1 v2 v4 v5 v6 v7 v8 v9 v10 v11 v12 v13 v14 v15 : Value) (w3 : Nat) (h : Nat → Int32) (b : Nat → Nat → Int32) (P : Nat) (hP : h 0 = nI P) (hP4 : P ≤ 4) (i n d : Int32) (hc : (zHp h i && zPl n) = false) : zMet l G yX7_tile wsX7_tile rmX7_tile [.ref q, .int i, .int n, .int d] ([(q, .inr (7, [v0, v1, v2, .ref w3, v4, v5, v6, v7, v8, v9, v10, v11, v12, v13, v14, v15])), (w3, .inl (G.2 1, 121, .inl (flt h b)))]) (some (.int 0)) ([(q, .inr (7, [.int 1, v1, v2, .ref w3, v4, v5, v6, v7, v8, v9, v10, v11, v12, v13, v14, v15])), (w3, .inl (G.2 1, 121, .inl (flt h b)))]) := by
  refine zMet_of (cc := cX7_tile) (maxL := 4) (ret := (some .int)) (by decide) rfl (Nat.le_of_ble_eq_true rfl) ?_
  intro p e s m below meth c A ls hx hb hr hml hown hts hK hA hE hlocks hin hM hl
  have hown : s.vm.findClass RX7 = some m.cls := hown
  have hM : zM G A s s.heap [] ([(q, .inr (7, [v0, v1, v2, .ref w3, v4, v5, v6, v7, v8, v9, v10, v11, v12, v13, v14, v15])), (w3, .inl (G.2 1, 121, .inl (flt h b)))]) := hM
  have hl : lv_has ls 4 [(0, .ref q), (1, .int i), (2, .int n), (3, .int d)] := hl
  refine lv_aload_n hx hb dX7_tile_0 rfl (lv_at hl 0 rfl) ?_
  refine lv_aload_n hx hb dX7_tile_1 rfl (lv_at hl 0 rfl) ?_
  refine z_get (ci := 7) (v := .ref w3) (C := RX7) (T := TX7) (N := 16) hx hb hts (by decide +kernel) hown hK hM 0 rfl rfl 3 (by decide) (hts (.fieldLink RX7 13 "ShiftIslesModel" "now" "[I") (by decide +kernel)) (fun _ h9 => h9) rfl dX7_tile_2 ?_
  refine lv_iload_n hx hb dX7_tile_5 rfl (lv_at hl 1 rfl) ?_
  refine z_callS (As := [.ref w3, .int i]) (rest := [.ref q]) (wc := rfW G w3 h b) (wr := [(q, .inr (7, [v0, v1, v2, .ref w3, v4, v5, v6, v7, v8, v9, v10, v11, v12, v13, v14, v15]))]) (w1 := rfW G w3 h b) (ws' := [(q, .inr (7, [v0, v1, v2, .ref w3, v4, v5, v6, v7, v8, v9, v10, v11, v12, v13, v14, v15])), (w3, .inl (G.2 1, 121, .inl (flt h b)))]) ⟨hx, hb, hml, hown, hts⟩ (c_r_isPlayer l G w3 h b P hP hP4 i ) (va_cwS 2 hts gX7_tile_X7_isPlayer rfl rfl rfl (by decide +kernel) ⟨Nat.le_of_ble_eq_true rfl, Nat.le_of_ble_eq_true rfl⟩) rfl hl.1 rfl (Nat.le_of_ble_eq_true rfl) dX7_tile_6 ⟨Nat.le_of_ble_eq_true rfl, Nat.le_of_ble_eq_true rfl⟩ hK hE hA hM (pm_at 2 [1] [0] rfl rfl rfl (by decide)) ((pm_at 2 [1] [0] rfl rfl rfl (by decide))).symm (fun H locs hM hz => ?_)
  refine z_ifeq (tgt := 19) hx hb dX7_tile_9 (by decide) (fun c_1 => ?_) (fun c_1 => ?_)
  · skip
    refine lv_iconst (v := 1) hx hb dX7_tile_19 (by decide) ?_
    refine lv_goto (tgt := 40) hx hb dX7_tile_20 (by decide) ?_
    refine z_callV (As := [.int 1]) (rest := []) (wc := [(q, .inr (7, [v0, v1, v2, .ref w3, v4, v5, v6, v7, v8, v9, v10, v11, v12, v13, v14, v15]))]) (wr := [(w3, .inl (G.2 1, 121, .inl (flt h b)))]) (w1 := [(q, .inr (7, [.int 1, v1, v2, .ref w3, v4, v5, v6, v7, v8, v9, v10, v11, v12, v13, v14, v15]))]) (ws' := [(q, .inr (7, [.int 1, v1, v2, .ref w3, v4, v5, v6, v7, v8, v9, v10, v11, v12, v13, v14, v15])), (w3, .inl (G.2 1, 121, .inl (flt h b)))]) ⟨hx, hb, hml, hown, hts⟩ (c_refused l G q v0 v1 v2 (.ref w3) v4 v5 v6 v7 v8 v9 v10 v11 v12 v13 v14 v15 1) (cwV 1 hts gX7_tile_X7_refused rfl rfl rfl (by decide +kernel) ⟨Nat.le_of_ble_eq_true rfl, Nat.le_of_ble_eq_true rfl⟩) 7 rfl rfl rfl rfl hl.1 rfl (Nat.le_of_ble_eq_true rfl) dX7_tile_40 ⟨Nat.le_of_ble_eq_true rfl, Nat.le_of_ble_eq_true rfl⟩ hK hE hA hM (pm_at 2 [0] [1] rfl rfl rfl (by decide)) ((pm_at 2 [0] [1] rfl rfl rfl (by decide))).symm (fun H locs hM hz => ?_)
    refine z_ifeq (tgt := 48) hx hb dX7_tile_43 (by decide) (fun c_1 => absurd c_1 (by decide)) (fun c_1 => ?_)
    refine lv_iconst (v := 0) hx hb dX7_tile_46 (by decide) ?_
    exact z_iret hx hb hr hlocks dX7_tile_47 hM (Nat.le_of_ble_eq_true rfl) (Nat.le_of_ble_eq_true rfl) rfl
  · skip
    refine lv_iload_n hx hb dX7_tile_12 rfl (lv_at hl 2 rfl) ?_
    refine z_callS (As := [.int n]) (rest := [.ref q]) (wc := []) (wr := [(q, .inr (7, [v0, v1, v2, .ref w3, v4, v5, v6, v7, v8, v9, v10, v11, v12, v13, v14, v15])), (w3, .inl (G.2 1, 121, .inl (flt h b)))]) (w1 := []) (ws' := [(q, .inr (7, [v0, v1, v2, .ref w3, v4, v5, v6, v7, v8, v9, v10, v11, v12, v13, v14, v15])), (w3, .inl (G.2 1, 121, .inl (flt h b)))]) ⟨hx, hb, hml, hown, hts⟩ (c_r_isPlace l G n) (va_cwS 1 hts gX7_tile_X7_isPlace rfl rfl rfl (by decide +kernel) ⟨Nat.le_of_ble_eq_true rfl, Nat.le_of_ble_eq_true rfl⟩) rfl hl.1 rfl (Nat.le_of_ble_eq_true rfl) dX7_tile_13 ⟨Nat.le_of_ble_eq_true rfl, Nat.le_of_ble_eq_true rfl⟩ hK hE hA hM (List.Perm.refl _) (List.Perm.refl _) (fun H locs hM hz => ?_)
    refine z_ifne (tgt := 23) hx hb dX7_tile_16 (by decide) (fun c_2 => (by rw [c_1, c_2] at hc; exact Bool.noConfusion hc)) (fun c_2 => ?_)
    refine lv_iconst (v := 1) hx hb dX7_tile_19 (by decide) ?_
    refine lv_goto (tgt := 40) hx hb dX7_tile_20 (by decide) ?_
    refine z_callV (As := [.int 1]) (rest := []) (wc := [(q, .inr (7, [v0, v1, v2, .ref w3, v4, v5, v6, v7, v8, v9, v10, v11, v12, v13, v14, v15]))]) (wr := [(w3, .inl (G.2 1, 121, .inl (flt h b)))]) (w1 := [(q, .inr (7, [.int 1, v1, v2, .ref w3, v4, v5, v6, v7, v8, v9, v10, v11, v12, v13, v14, v15]))]) (ws' := [(q, .inr (7, [.int 1, v1, v2, .ref w3, v4, v5, v6, v7, v8, v9, v10, v11, v12, v13, v14, v15])), (w3, .inl (G.2 1, 121, .inl (flt h b)))]) ⟨hx, hb, hml, hown, hts⟩ (c_refused l G q v0 v1 v2 (.ref w3) v4 v5 v6 v7 v8 v9 v10 v11 v12 v13 v14 v15 1) (cwV 1 hts gX7_tile_X7_refused rfl rfl rfl (by decide +kernel) ⟨Nat.le_of_ble_eq_true rfl, Nat.le_of_ble_eq_true rfl⟩) 7 rfl rfl rfl rfl hl.1 rfl (Nat.le_of_ble_eq_true rfl) dX7_tile_40 ⟨Nat.le_of_ble_eq_true rfl, Nat.le_of_ble_eq_true rfl⟩ hK hE hA hM (pm_at 2 [0] [1] rfl rfl rfl (by decide)) ((pm_at 2 [0] [1] rfl rfl rfl (by decide))).symm (fun H locs hM hz => ?_)
    refine z_ifeq (tgt := 48) hx hb dX7_tile_43 (by decide) (fun c_3 => absurd c_3 (by decide)) (fun c_3 => ?_)
    refine lv_iconst (v := 0) hx hb dX7_tile_46 (by decide) ?_
    exact z_iret hx hb hr hlocks dX7_tile_47 hM (Nat.le_of_ble_eq_true rfl) (Nat.le_of_ble_eq_true rfl) rfl

set_option maxHeartbeats 4000000 in
set_option maxRecDepth 100000 in
theorem c_r_tile2 (l : Launch) (G : zC) (q : Nat) (v0 v1 v2 v4 v5 v6 v7 v8 v9 v10 v11 v12 v13 v14 v15 : Value) (w3 : Nat) (h : Nat → Int32) (b : Nat → Nat → Int32) (P : Nat) (hP : h 0 = nI P) (hP4 : P ≤ 4) (i n d : Int32) (hi : zHp h i = true) (hn : zPl n = true) (hc : zI0 d.toInt64 0 2 = false) : zMet l G yX7_tile wsX7_tile rmX7_tile [.ref q, .int i, .int n, .int d] ([(q, .inr (7, [v0, v1, v2, .ref w3, v4, v5, v6, v7, v8, v9, v10, v11, v12, v13, v14, v15])), (w3, .inl (G.2 1, 121, .inl (flt h b)))]) (some (.int 0)) ([(q, .inr (7, [.int 2, v1, v2, .ref w3, v4, v5, v6, v7, v8, v9, v10, v11, v12, v13, v14, v15])), (w3, .inl (G.2 1, 121, .inl (flt h b)))]) := by
  refine zMet_of (cc := cX7_tile) (maxL := 4) (ret := (some .int)) (by decide) rfl (Nat.le_of_ble_eq_true rfl) ?_
  intro p e s m below meth c A ls hx hb hr hml hown hts hK hA hE hlocks hin hM hl
  have hown : s.vm.findClass RX7 = some m.cls := hown
  have hM : zM G A s s.heap [] ([(q, .inr (7, [v0, v1, v2, .ref w3, v4, v5, v6, v7, v8, v9, v10, v11, v12, v13, v14, v15])), (w3, .inl (G.2 1, 121, .inl (flt h b)))]) := hM
  have hl : lv_has ls 4 [(0, .ref q), (1, .int i), (2, .int n), (3, .int d)] := hl
  refine lv_aload_n hx hb dX7_tile_0 rfl (lv_at hl 0 rfl) ?_
  refine lv_aload_n hx hb dX7_tile_1 rfl (lv_at hl 0 rfl) ?_
  refine z_get (ci := 7) (v := .ref w3) (C := RX7) (T := TX7) (N := 16) hx hb hts (by decide +kernel) hown hK hM 0 rfl rfl 3 (by decide) (hts (.fieldLink RX7 13 "ShiftIslesModel" "now" "[I") (by decide +kernel)) (fun _ h9 => h9) rfl dX7_tile_2 ?_
  refine lv_iload_n hx hb dX7_tile_5 rfl (lv_at hl 1 rfl) ?_
  refine z_callS (As := [.ref w3, .int i]) (rest := [.ref q]) (wc := rfW G w3 h b) (wr := [(q, .inr (7, [v0, v1, v2, .ref w3, v4, v5, v6, v7, v8, v9, v10, v11, v12, v13, v14, v15]))]) (w1 := rfW G w3 h b) (ws' := [(q, .inr (7, [v0, v1, v2, .ref w3, v4, v5, v6, v7, v8, v9, v10, v11, v12, v13, v14, v15])), (w3, .inl (G.2 1, 121, .inl (flt h b)))]) ⟨hx, hb, hml, hown, hts⟩ (c_r_isPlayer l G w3 h b P hP hP4 i ) (va_cwS 2 hts gX7_tile_X7_isPlayer rfl rfl rfl (by decide +kernel) ⟨Nat.le_of_ble_eq_true rfl, Nat.le_of_ble_eq_true rfl⟩) rfl hl.1 rfl (Nat.le_of_ble_eq_true rfl) dX7_tile_6 ⟨Nat.le_of_ble_eq_true rfl, Nat.le_of_ble_eq_true rfl⟩ hK hE hA hM (pm_at 2 [1] [0] rfl rfl rfl (by decide)) ((pm_at 2 [1] [0] rfl rfl rfl (by decide))).symm (fun H locs hM hz => ?_)
  refine z_ifeq (tgt := 19) hx hb dX7_tile_9 (by decide) (fun c_1 => Bool.noConfusion (hi.symm.trans c_1)) (fun c_1 => ?_)
  refine lv_iload_n hx hb dX7_tile_12 rfl (lv_at hl 2 rfl) ?_
  refine z_callS (As := [.int n]) (rest := [.ref q]) (wc := []) (wr := [(q, .inr (7, [v0, v1, v2, .ref w3, v4, v5, v6, v7, v8, v9, v10, v11, v12, v13, v14, v15])), (w3, .inl (G.2 1, 121, .inl (flt h b)))]) (w1 := []) (ws' := [(q, .inr (7, [v0, v1, v2, .ref w3, v4, v5, v6, v7, v8, v9, v10, v11, v12, v13, v14, v15])), (w3, .inl (G.2 1, 121, .inl (flt h b)))]) ⟨hx, hb, hml, hown, hts⟩ (c_r_isPlace l G n) (va_cwS 1 hts gX7_tile_X7_isPlace rfl rfl rfl (by decide +kernel) ⟨Nat.le_of_ble_eq_true rfl, Nat.le_of_ble_eq_true rfl⟩) rfl hl.1 rfl (Nat.le_of_ble_eq_true rfl) dX7_tile_13 ⟨Nat.le_of_ble_eq_true rfl, Nat.le_of_ble_eq_true rfl⟩ hK hE hA hM (List.Perm.refl _) (List.Perm.refl _) (fun H locs hM hz => ?_)
  refine z_ifne (tgt := 23) hx hb dX7_tile_16 (by decide) (fun c_2 => ?_) (fun c_2 => Bool.noConfusion (hn.symm.trans c_2))
  refine lv_iload_n hx hb dX7_tile_23 rfl (lv_at hl 3 rfl) ?_
  refine lv_i2l (v := d.toInt64) hx hb dX7_tile_24 rfl ?_
  refine lv_lconst (v := 0) hx hb dX7_tile_25 (by decide) ?_
  refine lv_ldc2 (v := 2) hx hb hown (hts (.constantLong RX7 152 2) (by decide +kernel)) dX7_tile_26 ?_
  refine z_callS (As := [.long d.toInt64, .long 0, .long 2]) (rest := [.ref q]) (wc := []) (wr := [(q, .inr (7, [v0, v1, v2, .ref w3, v4, v5, v6, v7, v8, v9, v10, v11, v12, v13, v14, v15])), (w3, .inl (G.2 1, 121, .inl (flt h b)))]) (w1 := []) (ws' := [(q, .inr (7, [v0, v1, v2, .ref w3, v4, v5, v6, v7, v8, v9, v10, v11, v12, v13, v14, v15])), (w3, .inl (G.2 1, 121, .inl (flt h b)))]) ⟨hx, hb, hml, hown, hts⟩ (c_in l G d.toInt64 0 2) (va_cwS 3 hts gX7_tile_X7_in rfl rfl rfl (by decide +kernel) ⟨Nat.le_of_ble_eq_true rfl, Nat.le_of_ble_eq_true rfl⟩) rfl hl.1 rfl (Nat.le_of_ble_eq_true rfl) dX7_tile_29 ⟨Nat.le_of_ble_eq_true rfl, Nat.le_of_ble_eq_true rfl⟩ hK hE hA hM (List.Perm.refl _) (List.Perm.refl _) (fun H locs hM hz => ?_)
  refine z_ifeq (tgt := 39) hx hb dX7_tile_32 (by decide) (fun c_3 => ?_) (fun c_3 => Bool.noConfusion (c_3.symm.trans hc))
  refine lv_iconst (v := 2) hx hb dX7_tile_39 (by decide) ?_
  refine z_callV (As := [.int 2]) (rest := []) (wc := [(q, .inr (7, [v0, v1, v2, .ref w3, v4, v5, v6, v7, v8, v9, v10, v11, v12, v13, v14, v15]))]) (wr := [(w3, .inl (G.2 1, 121, .inl (flt h b)))]) (w1 := [(q, .inr (7, [.int 2, v1, v2, .ref w3, v4, v5, v6, v7, v8, v9, v10, v11, v12, v13, v14, v15]))]) (ws' := [(q, .inr (7, [.int 2, v1, v2, .ref w3, v4, v5, v6, v7, v8, v9, v10, v11, v12, v13, v14, v15])), (w3, .inl (G.2 1, 121, .inl (flt h b)))]) ⟨hx, hb, hml, hown, hts⟩ (c_refused l G q v0 v1 v2 (.ref w3) v4 v5 v6 v7 v8 v9 v10 v11 v12 v13 v14 v15 2) (cwV 1 hts gX7_tile_X7_refused rfl rfl rfl (by decide +kernel) ⟨Nat.le_of_ble_eq_true rfl, Nat.le_of_ble_eq_true rfl⟩) 7 rfl rfl rfl rfl hl.1 rfl (Nat.le_of_ble_eq_true rfl) dX7_tile_40 ⟨Nat.le_of_ble_eq_true rfl, Nat.le_of_ble_eq_true rfl⟩ hK hE hA hM (pm_at 2 [0] [1] rfl rfl rfl (by decide)) ((pm_at 2 [0] [1] rfl rfl rfl (by decide))).symm (fun H locs hM hz => ?_)
  refine z_ifeq (tgt := 48) hx hb dX7_tile_43 (by decide) (fun c_4 => absurd c_4 (by decide)) (fun c_4 => ?_)
  refine lv_iconst (v := 0) hx hb dX7_tile_46 (by decide) ?_
  exact z_iret hx hb hr hlocks dX7_tile_47 hM (Nat.le_of_ble_eq_true rfl) (Nat.le_of_ble_eq_true rfl) rfl

set_option maxHeartbeats 4000000 in
set_option maxRecDepth 100000 in
theorem c_r_tile0 (l : Launch) (G : zC) (q : Nat) (v0 v1 v2 v4 v5 v6 v7 v8 v9 v10 v11 v12 v13 v14 v15 : Value) (w3 : Nat) (h : Nat → Int32) (b : Nat → Nat → Int32) (P : Nat) (hP : h 0 = nI P) (hP4 : P ≤ 4) (o j : Nat) (d : Int32) (ho : o < P) (hj : j < 9) (hc : zI0 d.toInt64 0 2 = true) : zMet l G yX7_tile wsX7_tile rmX7_tile [.ref q, .int (nI o), .int (nI j), .int d] ([(q, .inr (7, [v0, v1, v2, .ref w3, v4, v5, v6, v7, v8, v9, v10, v11, v12, v13, v14, v15])), (w3, .inl (G.2 1, 121, .inl (flt h b)))]) (some (.int (if d = 0 then b o j else if d = 1 then b o (9 + j) else if b o 24 = nI j then 1 else 0))) ([(q, .inr (7, [.int 0, v1, v2, .ref w3, v4, v5, v6, v7, v8, v9, v10, v11, v12, v13, v14, v15])), (w3, .inl (G.2 1, 121, .inl (flt h b)))]) := by
  refine zMet_of (cc := cX7_tile) (maxL := 4) (ret := (some .int)) (by decide) rfl (Nat.le_of_ble_eq_true rfl) ?_
  intro p e s m below meth c A ls hx hb hr hml hown hts hK hA hE hlocks hin hM hl
  have hown : s.vm.findClass RX7 = some m.cls := hown
  have hM : zM G A s s.heap [] ([(q, .inr (7, [v0, v1, v2, .ref w3, v4, v5, v6, v7, v8, v9, v10, v11, v12, v13, v14, v15])), (w3, .inl (G.2 1, 121, .inl (flt h b)))]) := hM
  have hl : lv_has ls 4 [(0, .ref q), (1, .int (nI o)), (2, .int (nI j)), (3, .int d)] := hl
  have hi := (zHp_lt hP hP4 (k := o) (by omega)).mpr ho
  refine lv_aload_n hx hb dX7_tile_0 rfl (lv_at hl 0 rfl) ?_
  refine lv_aload_n hx hb dX7_tile_1 rfl (lv_at hl 0 rfl) ?_
  refine z_get (ci := 7) (v := .ref w3) (C := RX7) (T := TX7) (N := 16) hx hb hts (by decide +kernel) hown hK hM 0 rfl rfl 3 (by decide) (hts (.fieldLink RX7 13 "ShiftIslesModel" "now" "[I") (by decide +kernel)) (fun _ h9 => h9) rfl dX7_tile_2 ?_
  refine lv_iload_n hx hb dX7_tile_5 rfl (lv_at hl 1 rfl) ?_
  refine z_callS (As := [.ref w3, .int (nI o)]) (rest := [.ref q]) (wc := rfW G w3 h b) (wr := [(q, .inr (7, [v0, v1, v2, .ref w3, v4, v5, v6, v7, v8, v9, v10, v11, v12, v13, v14, v15]))]) (w1 := rfW G w3 h b) (ws' := [(q, .inr (7, [v0, v1, v2, .ref w3, v4, v5, v6, v7, v8, v9, v10, v11, v12, v13, v14, v15])), (w3, .inl (G.2 1, 121, .inl (flt h b)))]) ⟨hx, hb, hml, hown, hts⟩ (c_r_isPlayer l G w3 h b P hP hP4 (nI o) ) (va_cwS 2 hts gX7_tile_X7_isPlayer rfl rfl rfl (by decide +kernel) ⟨Nat.le_of_ble_eq_true rfl, Nat.le_of_ble_eq_true rfl⟩) rfl hl.1 rfl (Nat.le_of_ble_eq_true rfl) dX7_tile_6 ⟨Nat.le_of_ble_eq_true rfl, Nat.le_of_ble_eq_true rfl⟩ hK hE hA hM (pm_at 2 [1] [0] rfl rfl rfl (by decide)) ((pm_at 2 [1] [0] rfl rfl rfl (by decide))).symm (fun H locs hM hz => ?_)
  refine z_ifeq (tgt := 19) hx hb dX7_tile_9 (by decide) (fun c_1 => Bool.noConfusion (hi.symm.trans c_1)) (fun c_1 => ?_)
  refine lv_iload_n hx hb dX7_tile_12 rfl (lv_at hl 2 rfl) ?_
  refine z_callS (As := [.int (nI j)]) (rest := [.ref q]) (wc := []) (wr := [(q, .inr (7, [v0, v1, v2, .ref w3, v4, v5, v6, v7, v8, v9, v10, v11, v12, v13, v14, v15])), (w3, .inl (G.2 1, 121, .inl (flt h b)))]) (w1 := []) (ws' := [(q, .inr (7, [v0, v1, v2, .ref w3, v4, v5, v6, v7, v8, v9, v10, v11, v12, v13, v14, v15])), (w3, .inl (G.2 1, 121, .inl (flt h b)))]) ⟨hx, hb, hml, hown, hts⟩ (c_r_isPlace l G (nI j)) (va_cwS 1 hts gX7_tile_X7_isPlace rfl rfl rfl (by decide +kernel) ⟨Nat.le_of_ble_eq_true rfl, Nat.le_of_ble_eq_true rfl⟩) rfl hl.1 rfl (Nat.le_of_ble_eq_true rfl) dX7_tile_13 ⟨Nat.le_of_ble_eq_true rfl, Nat.le_of_ble_eq_true rfl⟩ hK hE hA hM (List.Perm.refl _) (List.Perm.refl _) (fun H locs hM hz => ?_)
  refine z_ifne (tgt := 23) hx hb dX7_tile_16 (by decide) (fun c_2 => ?_) (fun c_2 => Bool.noConfusion ((zPl_nI hj).symm.trans c_2))
  refine lv_iload_n hx hb dX7_tile_23 rfl (lv_at hl 3 rfl) ?_
  refine lv_i2l (v := d.toInt64) hx hb dX7_tile_24 rfl ?_
  refine lv_lconst (v := 0) hx hb dX7_tile_25 (by decide) ?_
  refine lv_ldc2 (v := 2) hx hb hown (hts (.constantLong RX7 152 2) (by decide +kernel)) dX7_tile_26 ?_
  refine z_callS (As := [.long d.toInt64, .long 0, .long 2]) (rest := [.ref q]) (wc := []) (wr := [(q, .inr (7, [v0, v1, v2, .ref w3, v4, v5, v6, v7, v8, v9, v10, v11, v12, v13, v14, v15])), (w3, .inl (G.2 1, 121, .inl (flt h b)))]) (w1 := []) (ws' := [(q, .inr (7, [v0, v1, v2, .ref w3, v4, v5, v6, v7, v8, v9, v10, v11, v12, v13, v14, v15])), (w3, .inl (G.2 1, 121, .inl (flt h b)))]) ⟨hx, hb, hml, hown, hts⟩ (c_in l G d.toInt64 0 2) (va_cwS 3 hts gX7_tile_X7_in rfl rfl rfl (by decide +kernel) ⟨Nat.le_of_ble_eq_true rfl, Nat.le_of_ble_eq_true rfl⟩) rfl hl.1 rfl (Nat.le_of_ble_eq_true rfl) dX7_tile_29 ⟨Nat.le_of_ble_eq_true rfl, Nat.le_of_ble_eq_true rfl⟩ hK hE hA hM (List.Perm.refl _) (List.Perm.refl _) (fun H locs hM hz => ?_)
  refine z_ifeq (tgt := 39) hx hb dX7_tile_32 (by decide) (fun c_3 => Bool.noConfusion (hc.symm.trans c_3)) (fun c_3 => ?_)
  refine lv_iconst (v := 0) hx hb dX7_tile_35 (by decide) ?_
  refine lv_goto (tgt := 40) hx hb dX7_tile_36 (by decide) ?_
  refine z_callV (As := [.int 0]) (rest := []) (wc := [(q, .inr (7, [v0, v1, v2, .ref w3, v4, v5, v6, v7, v8, v9, v10, v11, v12, v13, v14, v15]))]) (wr := [(w3, .inl (G.2 1, 121, .inl (flt h b)))]) (w1 := [(q, .inr (7, [.int 0, v1, v2, .ref w3, v4, v5, v6, v7, v8, v9, v10, v11, v12, v13, v14, v15]))]) (ws' := [(q, .inr (7, [.int 0, v1, v2, .ref w3, v4, v5, v6, v7, v8, v9, v10, v11, v12, v13, v14, v15])), (w3, .inl (G.2 1, 121, .inl (flt h b)))]) ⟨hx, hb, hml, hown, hts⟩ (c_refused l G q v0 v1 v2 (.ref w3) v4 v5 v6 v7 v8 v9 v10 v11 v12 v13 v14 v15 0) (cwV 1 hts gX7_tile_X7_refused rfl rfl rfl (by decide +kernel) ⟨Nat.le_of_ble_eq_true rfl, Nat.le_of_ble_eq_true rfl⟩) 7 rfl rfl rfl rfl hl.1 rfl (Nat.le_of_ble_eq_true rfl) dX7_tile_40 ⟨Nat.le_of_ble_eq_true rfl, Nat.le_of_ble_eq_true rfl⟩ hK hE hA hM (pm_at 2 [0] [1] rfl rfl rfl (by decide)) ((pm_at 2 [0] [1] rfl rfl rfl (by decide))).symm (fun H locs hM hz => ?_)
  refine z_ifeq (tgt := 48) hx hb dX7_tile_43 (by decide) (fun c_4 => ?_) (fun c_4 => absurd c_4 (by decide))
  refine lv_iload_n hx hb dX7_tile_48 rfl (lv_at hl 3 rfl) ?_
  refine lv_if_ne (tgt := 68) hx hb dX7_tile_49 (by decide) (fun c_w => ?_) (fun c_w => ?_)
  · skip
    refine lv_iload_n hx hb dX7_tile_68 rfl (lv_at hl 3 rfl) ?_
    refine lv_iconst (v := 1) hx hb dX7_tile_69 (by decide) ?_
    refine lv_icmp_ne (tgt := 90) hx hb dX7_tile_70 (by decide) (fun c_v => ?_) (fun c_v => ?_)
    · skip
      refine lv_aload_n hx hb dX7_tile_90 rfl (lv_at hl 0 rfl) ?_
      refine z_get (ci := 7) (v := .ref w3) (C := RX7) (T := TX7) (N := 16) hx hb hts (by decide +kernel) hown hK hM 0 rfl rfl 3 (by decide) (hts (.fieldLink RX7 13 "ShiftIslesModel" "now" "[I") (by decide +kernel)) (fun _ h9 => h9) rfl dX7_tile_91 ?_
      refine lv_iload_n hx hb dX7_tile_94 rfl (lv_at hl 1 rfl) ?_
      refine z_callS (As := [.int (nI o)]) (rest := [.ref w3]) (wc := []) (wr := [(q, .inr (7, [.int 0, v1, v2, .ref w3, v4, v5, v6, v7, v8, v9, v10, v11, v12, v13, v14, v15])), (w3, .inl (G.2 1, 121, .inl (flt h b)))]) (w1 := []) (ws' := [(q, .inr (7, [.int 0, v1, v2, .ref w3, v4, v5, v6, v7, v8, v9, v10, v11, v12, v13, v14, v15])), (w3, .inl (G.2 1, 121, .inl (flt h b)))]) ⟨hx, hb, hml, hown, hts⟩ (c_at l G o (by omega)) (va_cwS 1 hts gX7_tile_X7_at rfl rfl rfl (by decide +kernel) ⟨Nat.le_of_ble_eq_true rfl, Nat.le_of_ble_eq_true rfl⟩) rfl hl.1 rfl (Nat.le_of_ble_eq_true rfl) dX7_tile_95 ⟨Nat.le_of_ble_eq_true rfl, Nat.le_of_ble_eq_true rfl⟩ hK hE hA hM (List.Perm.refl _) (List.Perm.refl _) (fun H locs hM hz => ?_)
      refine lv_bipush (v := 24) hx hb dX7_tile_98 (by decide) ?_
      refine lv_iadd hx hb dX7_tile_100 ?_
      refine z_topi (y := nI ((9 + (28 * o)) + 24)) (nI_add (9 + (28 * o)) 24) ?_
      refine z_iald hx hb hK hM 1 rfl (v := b o 24) (vp_in_nI (by omega) (by decide)) (by rw [nI_clamp (by omega)]; exact flt_b o 24 (by omega) (by omega)) dX7_tile_101 ?_
      refine lv_iload_n hx hb dX7_tile_102 rfl (lv_at hl 2 rfl) ?_
      refine lv_icmp_ne (tgt := 110) hx hb dX7_tile_103 (by decide) (fun c_s => ?_) (fun c_s => ?_)
      · skip
        refine lv_iconst (v := 0) hx hb dX7_tile_110 (by decide) ?_
        exact z_iret hx hb hr hlocks dX7_tile_111 hM (Nat.le_of_ble_eq_true rfl) (Nat.le_of_ble_eq_true rfl) (by rw [if_neg c_w, if_neg c_v, if_neg c_s])
      · skip
        refine lv_iconst (v := 1) hx hb dX7_tile_106 (by decide) ?_
        refine lv_goto (tgt := 111) hx hb dX7_tile_107 (by decide) ?_
        exact z_iret hx hb hr hlocks dX7_tile_111 hM (Nat.le_of_ble_eq_true rfl) (Nat.le_of_ble_eq_true rfl) (by rw [if_neg c_w, if_neg c_v, if_pos c_s])
    · skip
      refine lv_aload_n hx hb dX7_tile_73 rfl (lv_at hl 0 rfl) ?_
      refine z_get (ci := 7) (v := .ref w3) (C := RX7) (T := TX7) (N := 16) hx hb hts (by decide +kernel) hown hK hM 0 rfl rfl 3 (by decide) (hts (.fieldLink RX7 13 "ShiftIslesModel" "now" "[I") (by decide +kernel)) (fun _ h9 => h9) rfl dX7_tile_74 ?_
      refine lv_iload_n hx hb dX7_tile_77 rfl (lv_at hl 1 rfl) ?_
      refine z_callS (As := [.int (nI o)]) (rest := [.ref w3]) (wc := []) (wr := [(q, .inr (7, [.int 0, v1, v2, .ref w3, v4, v5, v6, v7, v8, v9, v10, v11, v12, v13, v14, v15])), (w3, .inl (G.2 1, 121, .inl (flt h b)))]) (w1 := []) (ws' := [(q, .inr (7, [.int 0, v1, v2, .ref w3, v4, v5, v6, v7, v8, v9, v10, v11, v12, v13, v14, v15])), (w3, .inl (G.2 1, 121, .inl (flt h b)))]) ⟨hx, hb, hml, hown, hts⟩ (c_at l G o (by omega)) (va_cwS 1 hts gX7_tile_X7_at rfl rfl rfl (by decide +kernel) ⟨Nat.le_of_ble_eq_true rfl, Nat.le_of_ble_eq_true rfl⟩) rfl hl.1 rfl (Nat.le_of_ble_eq_true rfl) dX7_tile_78 ⟨Nat.le_of_ble_eq_true rfl, Nat.le_of_ble_eq_true rfl⟩ hK hE hA hM (List.Perm.refl _) (List.Perm.refl _) (fun H locs hM hz => ?_)
      refine lv_bipush (v := 9) hx hb dX7_tile_81 (by decide) ?_
      refine lv_iadd hx hb dX7_tile_83 ?_
      refine z_topi (y := nI ((9 + (28 * o)) + 9)) (nI_add (9 + (28 * o)) 9) ?_
      refine lv_iload_n hx hb dX7_tile_84 rfl (lv_at hl 2 rfl) ?_
      refine lv_iadd hx hb dX7_tile_85 ?_
      refine z_topi (y := nI (((9 + (28 * o)) + 9) + j)) (nI_add ((9 + (28 * o)) + 9) j) ?_
      refine z_iald hx hb hK hM 1 rfl (v := b o (9 + j)) (vp_in_nI (by omega) (by decide)) (by rw [nI_clamp (by omega)]; exact flt_b o (9 + j) (by omega) (by omega)) dX7_tile_86 ?_
      refine lv_goto (tgt := 111) hx hb dX7_tile_87 (by decide) ?_
      exact z_iret hx hb hr hlocks dX7_tile_111 hM (Nat.le_of_ble_eq_true rfl) (Nat.le_of_ble_eq_true rfl) (by rw [if_neg c_w, if_pos c_v])
  · skip
    refine lv_aload_n hx hb dX7_tile_52 rfl (lv_at hl 0 rfl) ?_
    refine z_get (ci := 7) (v := .ref w3) (C := RX7) (T := TX7) (N := 16) hx hb hts (by decide +kernel) hown hK hM 0 rfl rfl 3 (by decide) (hts (.fieldLink RX7 13 "ShiftIslesModel" "now" "[I") (by decide +kernel)) (fun _ h9 => h9) rfl dX7_tile_53 ?_
    refine lv_iload_n hx hb dX7_tile_56 rfl (lv_at hl 1 rfl) ?_
    refine z_callS (As := [.int (nI o)]) (rest := [.ref w3]) (wc := []) (wr := [(q, .inr (7, [.int 0, v1, v2, .ref w3, v4, v5, v6, v7, v8, v9, v10, v11, v12, v13, v14, v15])), (w3, .inl (G.2 1, 121, .inl (flt h b)))]) (w1 := []) (ws' := [(q, .inr (7, [.int 0, v1, v2, .ref w3, v4, v5, v6, v7, v8, v9, v10, v11, v12, v13, v14, v15])), (w3, .inl (G.2 1, 121, .inl (flt h b)))]) ⟨hx, hb, hml, hown, hts⟩ (c_at l G o (by omega)) (va_cwS 1 hts gX7_tile_X7_at rfl rfl rfl (by decide +kernel) ⟨Nat.le_of_ble_eq_true rfl, Nat.le_of_ble_eq_true rfl⟩) rfl hl.1 rfl (Nat.le_of_ble_eq_true rfl) dX7_tile_57 ⟨Nat.le_of_ble_eq_true rfl, Nat.le_of_ble_eq_true rfl⟩ hK hE hA hM (List.Perm.refl _) (List.Perm.refl _) (fun H locs hM hz => ?_)
    refine lv_iconst (v := 0) hx hb dX7_tile_60 (by decide) ?_
    refine lv_iadd hx hb dX7_tile_61 ?_
    refine z_topi (y := nI ((9 + (28 * o)) + 0)) (nI_add (9 + (28 * o)) 0) ?_
    refine lv_iload_n hx hb dX7_tile_62 rfl (lv_at hl 2 rfl) ?_
    refine lv_iadd hx hb dX7_tile_63 ?_
    refine z_topi (y := nI (((9 + (28 * o)) + 0) + j)) (nI_add ((9 + (28 * o)) + 0) j) ?_
    refine z_iald hx hb hK hM 1 rfl (v := b o j) (vp_in_nI (by omega) (by decide)) (by rw [nI_clamp (by omega)]; exact flt_b o j (by omega) (by omega)) dX7_tile_64 ?_
    refine lv_goto (tgt := 111) hx hb dX7_tile_65 (by decide) ?_
    exact z_iret hx hb hr hlocks dX7_tile_111 hM (Nat.le_of_ble_eq_true rfl) (Nat.le_of_ble_eq_true rfl) (by rw [if_pos c_w])

set_option maxHeartbeats 4000000 in
set_option maxRecDepth 100000 in
theorem c_r_steps1 (l : Launch) (G : zC) (q : Nat) (v0 v1 v2 v4 v5 v6 v7 v8 v9 v10 v11 v12 v13 v14 v15 : Value) (w3 : Nat) (h : Nat → Int32) (b : Nat → Nat → Int32) (P : Nat) (hP : h 0 = nI P) (hP4 : P ≤ 4) (i n : Int32) (hc : (zHp h i && zPl n) = false) : zMet l G yX7_steps wsX7_steps rmX7_steps [.ref q, .int i, .int n] ([(q, .inr (7, [v0, v1, v2, .ref w3, v4, v5, v6, v7, v8, v9, v10, v11, v12, v13, v14, v15])), (w3, .inl (G.2 1, 121, .inl (flt h b)))]) (some (.int 0)) ([(q, .inr (7, [.int 1, v1, v2, .ref w3, v4, v5, v6, v7, v8, v9, v10, v11, v12, v13, v14, v15])), (w3, .inl (G.2 1, 121, .inl (flt h b)))]) := by
  refine zMet_of (cc := cX7_steps) (maxL := 4) (ret := (some .int)) (by decide) rfl (Nat.le_of_ble_eq_true rfl) ?_
  intro p e s m below meth c A ls hx hb hr hml hown hts hK hA hE hlocks hin hM hl
  have hown : s.vm.findClass RX7 = some m.cls := hown
  have hM : zM G A s s.heap [] ([(q, .inr (7, [v0, v1, v2, .ref w3, v4, v5, v6, v7, v8, v9, v10, v11, v12, v13, v14, v15])), (w3, .inl (G.2 1, 121, .inl (flt h b)))]) := hM
  have hl : lv_has ls 4 [(0, .ref q), (1, .int i), (2, .int n)] := hl
  refine lv_aload_n hx hb dX7_steps_0 rfl (lv_at hl 0 rfl) ?_
  refine lv_aload_n hx hb dX7_steps_1 rfl (lv_at hl 0 rfl) ?_
  refine z_get (ci := 7) (v := .ref w3) (C := RX7) (T := TX7) (N := 16) hx hb hts (by decide +kernel) hown hK hM 0 rfl rfl 3 (by decide) (hts (.fieldLink RX7 13 "ShiftIslesModel" "now" "[I") (by decide +kernel)) (fun _ h9 => h9) rfl dX7_steps_2 ?_
  refine lv_iload_n hx hb dX7_steps_5 rfl (lv_at hl 1 rfl) ?_
  refine z_callS (As := [.ref w3, .int i]) (rest := [.ref q]) (wc := rfW G w3 h b) (wr := [(q, .inr (7, [v0, v1, v2, .ref w3, v4, v5, v6, v7, v8, v9, v10, v11, v12, v13, v14, v15]))]) (w1 := rfW G w3 h b) (ws' := [(q, .inr (7, [v0, v1, v2, .ref w3, v4, v5, v6, v7, v8, v9, v10, v11, v12, v13, v14, v15])), (w3, .inl (G.2 1, 121, .inl (flt h b)))]) ⟨hx, hb, hml, hown, hts⟩ (c_r_isPlayer l G w3 h b P hP hP4 i ) (va_cwS 2 hts gX7_steps_X7_isPlayer rfl rfl rfl (by decide +kernel) ⟨Nat.le_of_ble_eq_true rfl, Nat.le_of_ble_eq_true rfl⟩) rfl hl.1 rfl (Nat.le_of_ble_eq_true rfl) dX7_steps_6 ⟨Nat.le_of_ble_eq_true rfl, Nat.le_of_ble_eq_true rfl⟩ hK hE hA hM (pm_at 2 [1] [0] rfl rfl rfl (by decide)) ((pm_at 2 [1] [0] rfl rfl rfl (by decide))).symm (fun H locs hM hz => ?_)
  refine z_ifeq (tgt := 23) hx hb dX7_steps_9 (by decide) (fun c_1 => ?_) (fun c_1 => ?_)
  · skip
    refine lv_iconst (v := 1) hx hb dX7_steps_23 (by decide) ?_
    refine z_callV (As := [.int 1]) (rest := []) (wc := [(q, .inr (7, [v0, v1, v2, .ref w3, v4, v5, v6, v7, v8, v9, v10, v11, v12, v13, v14, v15]))]) (wr := [(w3, .inl (G.2 1, 121, .inl (flt h b)))]) (w1 := [(q, .inr (7, [.int 1, v1, v2, .ref w3, v4, v5, v6, v7, v8, v9, v10, v11, v12, v13, v14, v15]))]) (ws' := [(q, .inr (7, [.int 1, v1, v2, .ref w3, v4, v5, v6, v7, v8, v9, v10, v11, v12, v13, v14, v15])), (w3, .inl (G.2 1, 121, .inl (flt h b)))]) ⟨hx, hb, hml, hown, hts⟩ (c_refused l G q v0 v1 v2 (.ref w3) v4 v5 v6 v7 v8 v9 v10 v11 v12 v13 v14 v15 1) (cwV 1 hts gX7_steps_X7_refused rfl rfl rfl (by decide +kernel) ⟨Nat.le_of_ble_eq_true rfl, Nat.le_of_ble_eq_true rfl⟩) 7 rfl rfl rfl rfl hl.1 rfl (Nat.le_of_ble_eq_true rfl) dX7_steps_24 ⟨Nat.le_of_ble_eq_true rfl, Nat.le_of_ble_eq_true rfl⟩ hK hE hA hM (pm_at 2 [0] [1] rfl rfl rfl (by decide)) ((pm_at 2 [0] [1] rfl rfl rfl (by decide))).symm (fun H locs hM hz => ?_)
    refine z_ifeq (tgt := 32) hx hb dX7_steps_27 (by decide) (fun c_1 => absurd c_1 (by decide)) (fun c_1 => ?_)
    refine lv_iconst (v := 0) hx hb dX7_steps_30 (by decide) ?_
    exact z_iret hx hb hr hlocks dX7_steps_31 hM (Nat.le_of_ble_eq_true rfl) (Nat.le_of_ble_eq_true rfl) rfl
  · skip
    refine lv_iload_n hx hb dX7_steps_12 rfl (lv_at hl 2 rfl) ?_
    refine z_callS (As := [.int n]) (rest := [.ref q]) (wc := []) (wr := [(q, .inr (7, [v0, v1, v2, .ref w3, v4, v5, v6, v7, v8, v9, v10, v11, v12, v13, v14, v15])), (w3, .inl (G.2 1, 121, .inl (flt h b)))]) (w1 := []) (ws' := [(q, .inr (7, [v0, v1, v2, .ref w3, v4, v5, v6, v7, v8, v9, v10, v11, v12, v13, v14, v15])), (w3, .inl (G.2 1, 121, .inl (flt h b)))]) ⟨hx, hb, hml, hown, hts⟩ (c_r_isPlace l G n) (va_cwS 1 hts gX7_steps_X7_isPlace rfl rfl rfl (by decide +kernel) ⟨Nat.le_of_ble_eq_true rfl, Nat.le_of_ble_eq_true rfl⟩) rfl hl.1 rfl (Nat.le_of_ble_eq_true rfl) dX7_steps_13 ⟨Nat.le_of_ble_eq_true rfl, Nat.le_of_ble_eq_true rfl⟩ hK hE hA hM (List.Perm.refl _) (List.Perm.refl _) (fun H locs hM hz => ?_)
    refine z_ifeq (tgt := 23) hx hb dX7_steps_16 (by decide) (fun c_2 => ?_) (fun c_2 => (by rw [c_1, c_2] at hc; exact Bool.noConfusion hc))
    refine lv_iconst (v := 1) hx hb dX7_steps_23 (by decide) ?_
    refine z_callV (As := [.int 1]) (rest := []) (wc := [(q, .inr (7, [v0, v1, v2, .ref w3, v4, v5, v6, v7, v8, v9, v10, v11, v12, v13, v14, v15]))]) (wr := [(w3, .inl (G.2 1, 121, .inl (flt h b)))]) (w1 := [(q, .inr (7, [.int 1, v1, v2, .ref w3, v4, v5, v6, v7, v8, v9, v10, v11, v12, v13, v14, v15]))]) (ws' := [(q, .inr (7, [.int 1, v1, v2, .ref w3, v4, v5, v6, v7, v8, v9, v10, v11, v12, v13, v14, v15])), (w3, .inl (G.2 1, 121, .inl (flt h b)))]) ⟨hx, hb, hml, hown, hts⟩ (c_refused l G q v0 v1 v2 (.ref w3) v4 v5 v6 v7 v8 v9 v10 v11 v12 v13 v14 v15 1) (cwV 1 hts gX7_steps_X7_refused rfl rfl rfl (by decide +kernel) ⟨Nat.le_of_ble_eq_true rfl, Nat.le_of_ble_eq_true rfl⟩) 7 rfl rfl rfl rfl hl.1 rfl (Nat.le_of_ble_eq_true rfl) dX7_steps_24 ⟨Nat.le_of_ble_eq_true rfl, Nat.le_of_ble_eq_true rfl⟩ hK hE hA hM (pm_at 2 [0] [1] rfl rfl rfl (by decide)) ((pm_at 2 [0] [1] rfl rfl rfl (by decide))).symm (fun H locs hM hz => ?_)
    refine z_ifeq (tgt := 32) hx hb dX7_steps_27 (by decide) (fun c_3 => absurd c_3 (by decide)) (fun c_3 => ?_)
    refine lv_iconst (v := 0) hx hb dX7_steps_30 (by decide) ?_
    exact z_iret hx hb hr hlocks dX7_steps_31 hM (Nat.le_of_ble_eq_true rfl) (Nat.le_of_ble_eq_true rfl) rfl

set_option maxHeartbeats 4000000 in
set_option maxRecDepth 100000 in
theorem c_r_steps0 (l : Launch) (G : zC) (q : Nat) (v0 v1 v2 v4 v5 v6 v7 v8 v9 v10 v11 v12 v13 v14 v15 : Value) (w3 : Nat) (h : Nat → Int32) (b : Nat → Nat → Int32) (P : Nat) (hP : h 0 = nI P) (hP4 : P ≤ 4) (o j : Nat) (ho : o < P) (hj : j < 9) (hw : zBw (b o)) : zMet l G yX7_steps wsX7_steps rmX7_steps [.ref q, .int (nI o), .int (nI j)] ([(q, .inr (7, [v0, v1, v2, .ref w3, v4, v5, v6, v7, v8, v9, v10, v11, v12, v13, v14, v15])), (w3, .inl (G.2 1, 121, .inl (flt h b)))]) (some (.int (zSts (b o) (nI j)))) ([(q, .inr (7, [.int 0, v1, v2, .ref w3, v4, v5, v6, v7, v8, v9, v10, v11, v12, v13, v14, v15])), (w3, .inl (G.2 1, 121, .inl (flt h b)))]) := by
  refine zMet_of (cc := cX7_steps) (maxL := 4) (ret := (some .int)) (by decide) rfl (Nat.le_of_ble_eq_true rfl) ?_
  intro p e s m below meth c A ls hx hb hr hml hown hts hK hA hE hlocks hin hM hl
  have hown : s.vm.findClass RX7 = some m.cls := hown
  have hM : zM G A s s.heap [] ([(q, .inr (7, [v0, v1, v2, .ref w3, v4, v5, v6, v7, v8, v9, v10, v11, v12, v13, v14, v15])), (w3, .inl (G.2 1, 121, .inl (flt h b)))]) := hM
  have hl : lv_has ls 4 [(0, .ref q), (1, .int (nI o)), (2, .int (nI j))] := hl
  have hi := (zHp_lt hP hP4 (k := o) (by omega)).mpr ho
  refine lv_aload_n hx hb dX7_steps_0 rfl (lv_at hl 0 rfl) ?_
  refine lv_aload_n hx hb dX7_steps_1 rfl (lv_at hl 0 rfl) ?_
  refine z_get (ci := 7) (v := .ref w3) (C := RX7) (T := TX7) (N := 16) hx hb hts (by decide +kernel) hown hK hM 0 rfl rfl 3 (by decide) (hts (.fieldLink RX7 13 "ShiftIslesModel" "now" "[I") (by decide +kernel)) (fun _ h9 => h9) rfl dX7_steps_2 ?_
  refine lv_iload_n hx hb dX7_steps_5 rfl (lv_at hl 1 rfl) ?_
  refine z_callS (As := [.ref w3, .int (nI o)]) (rest := [.ref q]) (wc := rfW G w3 h b) (wr := [(q, .inr (7, [v0, v1, v2, .ref w3, v4, v5, v6, v7, v8, v9, v10, v11, v12, v13, v14, v15]))]) (w1 := rfW G w3 h b) (ws' := [(q, .inr (7, [v0, v1, v2, .ref w3, v4, v5, v6, v7, v8, v9, v10, v11, v12, v13, v14, v15])), (w3, .inl (G.2 1, 121, .inl (flt h b)))]) ⟨hx, hb, hml, hown, hts⟩ (c_r_isPlayer l G w3 h b P hP hP4 (nI o) ) (va_cwS 2 hts gX7_steps_X7_isPlayer rfl rfl rfl (by decide +kernel) ⟨Nat.le_of_ble_eq_true rfl, Nat.le_of_ble_eq_true rfl⟩) rfl hl.1 rfl (Nat.le_of_ble_eq_true rfl) dX7_steps_6 ⟨Nat.le_of_ble_eq_true rfl, Nat.le_of_ble_eq_true rfl⟩ hK hE hA hM (pm_at 2 [1] [0] rfl rfl rfl (by decide)) ((pm_at 2 [1] [0] rfl rfl rfl (by decide))).symm (fun H locs hM hz => ?_)
  refine z_ifeq (tgt := 23) hx hb dX7_steps_9 (by decide) (fun c_1 => Bool.noConfusion (hi.symm.trans c_1)) (fun c_1 => ?_)
  refine lv_iload_n hx hb dX7_steps_12 rfl (lv_at hl 2 rfl) ?_
  refine z_callS (As := [.int (nI j)]) (rest := [.ref q]) (wc := []) (wr := [(q, .inr (7, [v0, v1, v2, .ref w3, v4, v5, v6, v7, v8, v9, v10, v11, v12, v13, v14, v15])), (w3, .inl (G.2 1, 121, .inl (flt h b)))]) (w1 := []) (ws' := [(q, .inr (7, [v0, v1, v2, .ref w3, v4, v5, v6, v7, v8, v9, v10, v11, v12, v13, v14, v15])), (w3, .inl (G.2 1, 121, .inl (flt h b)))]) ⟨hx, hb, hml, hown, hts⟩ (c_r_isPlace l G (nI j)) (va_cwS 1 hts gX7_steps_X7_isPlace rfl rfl rfl (by decide +kernel) ⟨Nat.le_of_ble_eq_true rfl, Nat.le_of_ble_eq_true rfl⟩) rfl hl.1 rfl (Nat.le_of_ble_eq_true rfl) dX7_steps_13 ⟨Nat.le_of_ble_eq_true rfl, Nat.le_of_ble_eq_true rfl⟩ hK hE hA hM (List.Perm.refl _) (List.Perm.refl _) (fun H locs hM hz => ?_)
  refine z_ifeq (tgt := 23) hx hb dX7_steps_16 (by decide) (fun c_2 => Bool.noConfusion ((zPl_nI hj).symm.trans c_2)) (fun c_2 => ?_)
  refine lv_iconst (v := 0) hx hb dX7_steps_19 (by decide) ?_
  refine lv_goto (tgt := 24) hx hb dX7_steps_20 (by decide) ?_
  refine z_callV (As := [.int 0]) (rest := []) (wc := [(q, .inr (7, [v0, v1, v2, .ref w3, v4, v5, v6, v7, v8, v9, v10, v11, v12, v13, v14, v15]))]) (wr := [(w3, .inl (G.2 1, 121, .inl (flt h b)))]) (w1 := [(q, .inr (7, [.int 0, v1, v2, .ref w3, v4, v5, v6, v7, v8, v9, v10, v11, v12, v13, v14, v15]))]) (ws' := [(q, .inr (7, [.int 0, v1, v2, .ref w3, v4, v5, v6, v7, v8, v9, v10, v11, v12, v13, v14, v15])), (w3, .inl (G.2 1, 121, .inl (flt h b)))]) ⟨hx, hb, hml, hown, hts⟩ (c_refused l G q v0 v1 v2 (.ref w3) v4 v5 v6 v7 v8 v9 v10 v11 v12 v13 v14 v15 0) (cwV 1 hts gX7_steps_X7_refused rfl rfl rfl (by decide +kernel) ⟨Nat.le_of_ble_eq_true rfl, Nat.le_of_ble_eq_true rfl⟩) 7 rfl rfl rfl rfl hl.1 rfl (Nat.le_of_ble_eq_true rfl) dX7_steps_24 ⟨Nat.le_of_ble_eq_true rfl, Nat.le_of_ble_eq_true rfl⟩ hK hE hA hM (pm_at 2 [0] [1] rfl rfl rfl (by decide)) ((pm_at 2 [0] [1] rfl rfl rfl (by decide))).symm (fun H locs hM hz => ?_)
  refine z_ifeq (tgt := 32) hx hb dX7_steps_27 (by decide) (fun c_3 => ?_) (fun c_3 => absurd c_3 (by decide))
  refine lv_iconst (v := nI 0) hx hb dX7_steps_32 (by decide) ?_
  refine lv_istore_n (lv' := [(3, .int (nI 0)), (0, .ref q), (1, .int (nI o)), (2, .int (nI j))]) hx hb dX7_steps_33 rfl hl (by decide) rfl (fun ls hl => ?_)
  have lp34 : ∀ (k : Nat) (i : Nat), (i + k = 9) → (zSts (b o) (nI j) = zSt (zAcr (b o)) (zDow (b o)) (nI j) k i (zRch (b o) i)) → ∀ (H : Heap) (locs : List Loc), zM G A s H locs ([(q, .inr (7, [.int 0, v1, v2, .ref w3, v4, v5, v6, v7, v8, v9, v10, v11, v12, v13, v14, v15])), (w3, .inl (G.2 1, 121, .inl (flt h b)))]) → ∀ ls : Array Slot, lv_has ls 4 [(0, .ref q), (1, .int (nI o)), (2, .int (nI j)), (3, .int (nI i))] → W p l e rmX7_steps s m ([.ref q, .int (nI o), .int (nI j)] : List Value).toArray below meth c H locs 0 0 (zEnd G below ([.ref q, .int (nI o), .int (nI j)] : List Value).toArray s rmX7_steps A (some (.int (zSts (b o) (nI j)))) ([(q, .inr (7, [.int 0, v1, v2, .ref w3, v4, v5, v6, v7, v8, v9, v10, v11, v12, v13, v14, v15])), (w3, .inl (G.2 1, 121, .inl (flt h b)))])) (F0 m 34 ls []) := by
    intro k
    induction k with
    | zero =>
      intro i hik hR H locs hM ls hl
      refine lv_iload_n hx hb dX7_steps_34 rfl (lv_at hl 3 rfl) ?_
      refine lv_bipush (v := 9) hx hb dX7_steps_35 (by decide) ?_
      refine z_topi (y := nI 9) rfl ?_
      refine lv_icmp_ge (tgt := 65) hx hb dX7_steps_37 (by decide) (fun c_4 => ?_) (fun c_4 => absurd (nI_le (by omega) (by omega)) c_4)
      refine lv_iconst (v := (-1)) hx hb dX7_steps_65 (by decide) ?_
      exact z_iret hx hb hr hlocks dX7_steps_66 hM (Nat.le_of_ble_eq_true rfl) (Nat.le_of_ble_eq_true rfl) (by rw [hR]; rfl)
    | succ k ih =>
      intro i hik hR H locs hM ls hl
      refine lv_iload_n hx hb dX7_steps_34 rfl (lv_at hl 3 rfl) ?_
      refine lv_bipush (v := 9) hx hb dX7_steps_35 (by decide) ?_
      refine z_topi (y := nI 9) rfl ?_
      refine lv_icmp_ge (tgt := 65) hx hb dX7_steps_37 (by decide) (fun c_5 => absurd c_5 (nI_ge (by omega) (by omega))) (fun c_5 => ?_)
      refine lv_aload_n hx hb dX7_steps_40 rfl (lv_at hl 0 rfl) ?_
      refine z_get (ci := 7) (v := .ref w3) (C := RX7) (T := TX7) (N := 16) hx hb hts (by decide +kernel) hown hK hM 0 rfl rfl 3 (by decide) (hts (.fieldLink RX7 13 "ShiftIslesModel" "now" "[I") (by decide +kernel)) (fun _ h9 => h9) rfl dX7_steps_41 ?_
      refine lv_iload_n hx hb dX7_steps_44 rfl (lv_at hl 1 rfl) ?_
      refine lv_iload_n hx hb dX7_steps_45 rfl (lv_at hl 3 rfl) ?_
      refine z_callS (As := [.ref w3, .int (nI o), .int (nI i)]) (rest := []) (wc := rfW G w3 h b) (wr := [(q, .inr (7, [.int 0, v1, v2, .ref w3, v4, v5, v6, v7, v8, v9, v10, v11, v12, v13, v14, v15]))]) (w1 := rfW G w3 h b) (ws' := [(q, .inr (7, [.int 0, v1, v2, .ref w3, v4, v5, v6, v7, v8, v9, v10, v11, v12, v13, v14, v15])), (w3, .inl (G.2 1, 121, .inl (flt h b)))]) ⟨hx, hb, hml, hown, hts⟩ (c_r_reach l G w3 h b o i (by omega) (by omega) hw) (va_cwS 3 hts gX7_steps_X7_reach rfl rfl rfl (by decide +kernel) ⟨Nat.le_of_ble_eq_true rfl, Nat.le_of_ble_eq_true rfl⟩) rfl hl.1 rfl (Nat.le_of_ble_eq_true rfl) dX7_steps_46 ⟨Nat.le_of_ble_eq_true rfl, Nat.le_of_ble_eq_true rfl⟩ hK hE hA hM (pm_at 2 [1] [0] rfl rfl rfl (by decide)) ((pm_at 2 [1] [0] rfl rfl rfl (by decide))).symm (fun H locs hM hz => ?_)
      refine lv_iload_n hx hb dX7_steps_49 rfl (lv_at hl 2 rfl) ?_
      refine lv_ishr hx hb dX7_steps_50 ?_
      refine lv_iconst (v := 1) hx hb dX7_steps_51 (by decide) ?_
      refine lv_iand hx hb dX7_steps_52 ?_
      refine lv_iconst (v := 1) hx hb dX7_steps_53 (by decide) ?_
      refine lv_icmp_ne (tgt := 59) hx hb dX7_steps_54 (by decide) (fun c_b => ?_) (fun c_b => ?_)
      · skip
        refine lv_iinc (v := nI (i + 1)) (lv' := [(3, .int (nI (i + 1))), (0, .ref q), (1, .int (nI o)), (2, .int (nI j))]) hx hb dX7_steps_59 hl (k := 3) rfl (nI_1 i) (by decide) rfl (fun ls hl => ?_)
        refine lv_goto (tgt := 34) hx hb dX7_steps_62 (by decide) ?_
        exact ih (i + 1) (by omega) (by rw [hR, zSt, if_neg (by rw [zIn_nI hj, decide_eq_false c_b]; decide), zRch_s]) _ _ hM _ (lv_sub hl [1, 2, 3, 0] rfl)
      · skip
        refine lv_iload_n hx hb dX7_steps_57 rfl (lv_at hl 3 rfl) ?_
        exact z_iret hx hb hr hlocks dX7_steps_58 hM (Nat.le_of_ble_eq_true rfl) (Nat.le_of_ble_eq_true rfl) (by rw [hR, zSt, if_pos (by rw [zIn_nI hj]; exact decide_eq_true c_b)])
  exact lp34 9 0 rfl rfl _ _ hM _ (lv_sub hl [1, 2, 3, 0] rfl)

set_option maxHeartbeats 4000000 in
set_option maxRecDepth 100000 in
theorem c_r_if1 (l : Launch) (G : zC) (q : Nat) (v0 v1 v2 v5 v6 v7 v8 v9 v10 v11 v12 v13 v14 v15 : Value) (w3 w4 : Nat) (F : Nat → Int32) (h : Nat → Int32) (b : Nat → Nat → Int32) (P : Nat) (hP : h 0 = nI P) (hP4 : P ≤ 4) (i n d w : Int32) (hc : (zHp h i && zLi n) = false) : zMet l G yX7_ifShifted wsX7_ifShifted rmX7_ifShifted [.ref q, .int i, .int n, .int d, .int w] ([(q, .inr (7, [v0, v1, v2, .ref w3, .ref w4, v5, v6, v7, v8, v9, v10, v11, v12, v13, v14, v15])), (w3, .inl (G.2 1, 121, .inl (flt h b))), (w4, .inl (G.2 1, 121, .inl F))]) (some (.int 0)) ([(q, .inr (7, [.int 1, v1, v2, .ref w3, .ref w4, v5, v6, v7, v8, v9, v10, v11, v12, v13, v14, v15])), (w3, .inl (G.2 1, 121, .inl (flt h b))), (w4, .inl (G.2 1, 121, .inl F))]) := by
  refine zMet_of (cc := cX7_ifShifted) (maxL := 5) (ret := (some .int)) (by decide) rfl (Nat.le_of_ble_eq_true rfl) ?_
  intro p e s m below meth c A ls hx hb hr hml hown hts hK hA hE hlocks hin hM hl
  have hown : s.vm.findClass RX7 = some m.cls := hown
  have hM : zM G A s s.heap [] ([(q, .inr (7, [v0, v1, v2, .ref w3, .ref w4, v5, v6, v7, v8, v9, v10, v11, v12, v13, v14, v15])), (w3, .inl (G.2 1, 121, .inl (flt h b))), (w4, .inl (G.2 1, 121, .inl F))]) := hM
  have hl : lv_has ls 5 [(0, .ref q), (1, .int i), (2, .int n), (3, .int d), (4, .int w)] := hl
  refine lv_aload_n hx hb dX7_ifShifted_0 rfl (lv_at hl 0 rfl) ?_
  refine lv_aload_n hx hb dX7_ifShifted_1 rfl (lv_at hl 0 rfl) ?_
  refine z_get (ci := 7) (v := .ref w3) (C := RX7) (T := TX7) (N := 16) hx hb hts (by decide +kernel) hown hK hM 0 rfl rfl 3 (by decide) (hts (.fieldLink RX7 13 "ShiftIslesModel" "now" "[I") (by decide +kernel)) (fun _ h9 => h9) rfl dX7_ifShifted_2 ?_
  refine lv_iload_n hx hb dX7_ifShifted_5 rfl (lv_at hl 1 rfl) ?_
  refine z_callS (As := [.ref w3, .int i]) (rest := [.ref q]) (wc := rfW G w3 h b) (wr := [(q, .inr (7, [v0, v1, v2, .ref w3, .ref w4, v5, v6, v7, v8, v9, v10, v11, v12, v13, v14, v15])), (w4, .inl (G.2 1, 121, .inl F))]) (w1 := rfW G w3 h b) (ws' := [(q, .inr (7, [v0, v1, v2, .ref w3, .ref w4, v5, v6, v7, v8, v9, v10, v11, v12, v13, v14, v15])), (w3, .inl (G.2 1, 121, .inl (flt h b))), (w4, .inl (G.2 1, 121, .inl F))]) ⟨hx, hb, hml, hown, hts⟩ (c_r_isPlayer l G w3 h b P hP hP4 i ) (va_cwS 2 hts gX7_ifShifted_X7_isPlayer rfl rfl rfl (by decide +kernel) ⟨Nat.le_of_ble_eq_true rfl, Nat.le_of_ble_eq_true rfl⟩) rfl hl.1 rfl (Nat.le_of_ble_eq_true rfl) dX7_ifShifted_6 ⟨Nat.le_of_ble_eq_true rfl, Nat.le_of_ble_eq_true rfl⟩ hK hE hA hM (pm_at 3 [1] [0, 2] rfl rfl rfl (by decide)) ((pm_at 3 [1] [0, 2] rfl rfl rfl (by decide))).symm (fun H locs hM hz => ?_)
  refine z_ifeq (tgt := 19) hx hb dX7_ifShifted_9 (by decide) (fun c_1 => ?_) (fun c_1 => ?_)
  · skip
    refine lv_iconst (v := 1) hx hb dX7_ifShifted_19 (by decide) ?_
    refine lv_goto (tgt := 49) hx hb dX7_ifShifted_20 (by decide) ?_
    refine z_callV (As := [.int 1]) (rest := []) (wc := [(q, .inr (7, [v0, v1, v2, .ref w3, .ref w4, v5, v6, v7, v8, v9, v10, v11, v12, v13, v14, v15]))]) (wr := [(w3, .inl (G.2 1, 121, .inl (flt h b))), (w4, .inl (G.2 1, 121, .inl F))]) (w1 := [(q, .inr (7, [.int 1, v1, v2, .ref w3, .ref w4, v5, v6, v7, v8, v9, v10, v11, v12, v13, v14, v15]))]) (ws' := [(q, .inr (7, [.int 1, v1, v2, .ref w3, .ref w4, v5, v6, v7, v8, v9, v10, v11, v12, v13, v14, v15])), (w3, .inl (G.2 1, 121, .inl (flt h b))), (w4, .inl (G.2 1, 121, .inl F))]) ⟨hx, hb, hml, hown, hts⟩ (c_refused l G q v0 v1 v2 (.ref w3) (.ref w4) v5 v6 v7 v8 v9 v10 v11 v12 v13 v14 v15 1) (cwV 1 hts gX7_ifShifted_X7_refused rfl rfl rfl (by decide +kernel) ⟨Nat.le_of_ble_eq_true rfl, Nat.le_of_ble_eq_true rfl⟩) 7 rfl rfl rfl rfl hl.1 rfl (Nat.le_of_ble_eq_true rfl) dX7_ifShifted_49 ⟨Nat.le_of_ble_eq_true rfl, Nat.le_of_ble_eq_true rfl⟩ hK hE hA hM (pm_at 3 [0] [1, 2] rfl rfl rfl (by decide)) ((pm_at 3 [0] [1, 2] rfl rfl rfl (by decide))).symm (fun H locs hM hz => ?_)
    refine z_ifeq (tgt := 57) hx hb dX7_ifShifted_52 (by decide) (fun c_1 => absurd c_1 (by decide)) (fun c_1 => ?_)
    refine lv_iconst (v := 0) hx hb dX7_ifShifted_55 (by decide) ?_
    exact z_iret hx hb hr hlocks dX7_ifShifted_56 hM (Nat.le_of_ble_eq_true rfl) (Nat.le_of_ble_eq_true rfl) rfl
  · skip
    refine lv_iload_n hx hb dX7_ifShifted_12 rfl (lv_at hl 2 rfl) ?_
    refine z_callS (As := [.int n]) (rest := [.ref q]) (wc := []) (wr := [(q, .inr (7, [v0, v1, v2, .ref w3, .ref w4, v5, v6, v7, v8, v9, v10, v11, v12, v13, v14, v15])), (w3, .inl (G.2 1, 121, .inl (flt h b))), (w4, .inl (G.2 1, 121, .inl F))]) (w1 := []) (ws' := [(q, .inr (7, [v0, v1, v2, .ref w3, .ref w4, v5, v6, v7, v8, v9, v10, v11, v12, v13, v14, v15])), (w3, .inl (G.2 1, 121, .inl (flt h b))), (w4, .inl (G.2 1, 121, .inl F))]) ⟨hx, hb, hml, hown, hts⟩ (c_r_isLine l G n) (va_cwS 1 hts gX7_ifShifted_X7_isLine rfl rfl rfl (by decide +kernel) ⟨Nat.le_of_ble_eq_true rfl, Nat.le_of_ble_eq_true rfl⟩) rfl hl.1 rfl (Nat.le_of_ble_eq_true rfl) dX7_ifShifted_13 ⟨Nat.le_of_ble_eq_true rfl, Nat.le_of_ble_eq_true rfl⟩ hK hE hA hM (List.Perm.refl _) (List.Perm.refl _) (fun H locs hM hz => ?_)
    refine z_ifne (tgt := 23) hx hb dX7_ifShifted_16 (by decide) (fun c_2 => (by rw [c_1, c_2] at hc; exact Bool.noConfusion hc)) (fun c_2 => ?_)
    refine lv_iconst (v := 1) hx hb dX7_ifShifted_19 (by decide) ?_
    refine lv_goto (tgt := 49) hx hb dX7_ifShifted_20 (by decide) ?_
    refine z_callV (As := [.int 1]) (rest := []) (wc := [(q, .inr (7, [v0, v1, v2, .ref w3, .ref w4, v5, v6, v7, v8, v9, v10, v11, v12, v13, v14, v15]))]) (wr := [(w3, .inl (G.2 1, 121, .inl (flt h b))), (w4, .inl (G.2 1, 121, .inl F))]) (w1 := [(q, .inr (7, [.int 1, v1, v2, .ref w3, .ref w4, v5, v6, v7, v8, v9, v10, v11, v12, v13, v14, v15]))]) (ws' := [(q, .inr (7, [.int 1, v1, v2, .ref w3, .ref w4, v5, v6, v7, v8, v9, v10, v11, v12, v13, v14, v15])), (w3, .inl (G.2 1, 121, .inl (flt h b))), (w4, .inl (G.2 1, 121, .inl F))]) ⟨hx, hb, hml, hown, hts⟩ (c_refused l G q v0 v1 v2 (.ref w3) (.ref w4) v5 v6 v7 v8 v9 v10 v11 v12 v13 v14 v15 1) (cwV 1 hts gX7_ifShifted_X7_refused rfl rfl rfl (by decide +kernel) ⟨Nat.le_of_ble_eq_true rfl, Nat.le_of_ble_eq_true rfl⟩) 7 rfl rfl rfl rfl hl.1 rfl (Nat.le_of_ble_eq_true rfl) dX7_ifShifted_49 ⟨Nat.le_of_ble_eq_true rfl, Nat.le_of_ble_eq_true rfl⟩ hK hE hA hM (pm_at 3 [0] [1, 2] rfl rfl rfl (by decide)) ((pm_at 3 [0] [1, 2] rfl rfl rfl (by decide))).symm (fun H locs hM hz => ?_)
    refine z_ifeq (tgt := 57) hx hb dX7_ifShifted_52 (by decide) (fun c_3 => absurd c_3 (by decide)) (fun c_3 => ?_)
    refine lv_iconst (v := 0) hx hb dX7_ifShifted_55 (by decide) ?_
    exact z_iret hx hb hr hlocks dX7_ifShifted_56 hM (Nat.le_of_ble_eq_true rfl) (Nat.le_of_ble_eq_true rfl) rfl

set_option maxHeartbeats 4000000 in
set_option maxRecDepth 100000 in
theorem c_r_if2 (l : Launch) (G : zC) (q : Nat) (v0 v1 v2 v5 v6 v7 v8 v9 v10 v11 v12 v13 v14 v15 : Value) (w3 w4 : Nat) (F : Nat → Int32) (h : Nat → Int32) (b : Nat → Nat → Int32) (P : Nat) (hP : h 0 = nI P) (hP4 : P ≤ 4) (i n d w : Int32) (hi : zHp h i = true) (hn : zLi n = true) (hc : (zDi d && zI0 w.toInt64 0 1) = false) : zMet l G yX7_ifShifted wsX7_ifShifted rmX7_ifShifted [.ref q, .int i, .int n, .int d, .int w] ([(q, .inr (7, [v0, v1, v2, .ref w3, .ref w4, v5, v6, v7, v8, v9, v10, v11, v12, v13, v14, v15])), (w3, .inl (G.2 1, 121, .inl (flt h b))), (w4, .inl (G.2 1, 121, .inl F))]) (some (.int 0)) ([(q, .inr (7, [.int 2, v1, v2, .ref w3, .ref w4, v5, v6, v7, v8, v9, v10, v11, v12, v13, v14, v15])), (w3, .inl (G.2 1, 121, .inl (flt h b))), (w4, .inl (G.2 1, 121, .inl F))]) := by
  refine zMet_of (cc := cX7_ifShifted) (maxL := 5) (ret := (some .int)) (by decide) rfl (Nat.le_of_ble_eq_true rfl) ?_
  intro p e s m below meth c A ls hx hb hr hml hown hts hK hA hE hlocks hin hM hl
  have hown : s.vm.findClass RX7 = some m.cls := hown
  have hM : zM G A s s.heap [] ([(q, .inr (7, [v0, v1, v2, .ref w3, .ref w4, v5, v6, v7, v8, v9, v10, v11, v12, v13, v14, v15])), (w3, .inl (G.2 1, 121, .inl (flt h b))), (w4, .inl (G.2 1, 121, .inl F))]) := hM
  have hl : lv_has ls 5 [(0, .ref q), (1, .int i), (2, .int n), (3, .int d), (4, .int w)] := hl
  refine lv_aload_n hx hb dX7_ifShifted_0 rfl (lv_at hl 0 rfl) ?_
  refine lv_aload_n hx hb dX7_ifShifted_1 rfl (lv_at hl 0 rfl) ?_
  refine z_get (ci := 7) (v := .ref w3) (C := RX7) (T := TX7) (N := 16) hx hb hts (by decide +kernel) hown hK hM 0 rfl rfl 3 (by decide) (hts (.fieldLink RX7 13 "ShiftIslesModel" "now" "[I") (by decide +kernel)) (fun _ h9 => h9) rfl dX7_ifShifted_2 ?_
  refine lv_iload_n hx hb dX7_ifShifted_5 rfl (lv_at hl 1 rfl) ?_
  refine z_callS (As := [.ref w3, .int i]) (rest := [.ref q]) (wc := rfW G w3 h b) (wr := [(q, .inr (7, [v0, v1, v2, .ref w3, .ref w4, v5, v6, v7, v8, v9, v10, v11, v12, v13, v14, v15])), (w4, .inl (G.2 1, 121, .inl F))]) (w1 := rfW G w3 h b) (ws' := [(q, .inr (7, [v0, v1, v2, .ref w3, .ref w4, v5, v6, v7, v8, v9, v10, v11, v12, v13, v14, v15])), (w3, .inl (G.2 1, 121, .inl (flt h b))), (w4, .inl (G.2 1, 121, .inl F))]) ⟨hx, hb, hml, hown, hts⟩ (c_r_isPlayer l G w3 h b P hP hP4 i ) (va_cwS 2 hts gX7_ifShifted_X7_isPlayer rfl rfl rfl (by decide +kernel) ⟨Nat.le_of_ble_eq_true rfl, Nat.le_of_ble_eq_true rfl⟩) rfl hl.1 rfl (Nat.le_of_ble_eq_true rfl) dX7_ifShifted_6 ⟨Nat.le_of_ble_eq_true rfl, Nat.le_of_ble_eq_true rfl⟩ hK hE hA hM (pm_at 3 [1] [0, 2] rfl rfl rfl (by decide)) ((pm_at 3 [1] [0, 2] rfl rfl rfl (by decide))).symm (fun H locs hM hz => ?_)
  refine z_ifeq (tgt := 19) hx hb dX7_ifShifted_9 (by decide) (fun c_1 => Bool.noConfusion (hi.symm.trans c_1)) (fun c_1 => ?_)
  refine lv_iload_n hx hb dX7_ifShifted_12 rfl (lv_at hl 2 rfl) ?_
  refine z_callS (As := [.int n]) (rest := [.ref q]) (wc := []) (wr := [(q, .inr (7, [v0, v1, v2, .ref w3, .ref w4, v5, v6, v7, v8, v9, v10, v11, v12, v13, v14, v15])), (w3, .inl (G.2 1, 121, .inl (flt h b))), (w4, .inl (G.2 1, 121, .inl F))]) (w1 := []) (ws' := [(q, .inr (7, [v0, v1, v2, .ref w3, .ref w4, v5, v6, v7, v8, v9, v10, v11, v12, v13, v14, v15])), (w3, .inl (G.2 1, 121, .inl (flt h b))), (w4, .inl (G.2 1, 121, .inl F))]) ⟨hx, hb, hml, hown, hts⟩ (c_r_isLine l G n) (va_cwS 1 hts gX7_ifShifted_X7_isLine rfl rfl rfl (by decide +kernel) ⟨Nat.le_of_ble_eq_true rfl, Nat.le_of_ble_eq_true rfl⟩) rfl hl.1 rfl (Nat.le_of_ble_eq_true rfl) dX7_ifShifted_13 ⟨Nat.le_of_ble_eq_true rfl, Nat.le_of_ble_eq_true rfl⟩ hK hE hA hM (List.Perm.refl _) (List.Perm.refl _) (fun H locs hM hz => ?_)
  refine z_ifne (tgt := 23) hx hb dX7_ifShifted_16 (by decide) (fun c_2 => ?_) (fun c_2 => Bool.noConfusion (hn.symm.trans c_2))
  refine lv_iload_n hx hb dX7_ifShifted_23 rfl (lv_at hl 3 rfl) ?_
  refine lv_i2l (v := d.toInt64) hx hb dX7_ifShifted_24 rfl ?_
  refine lv_lconst (v := 0) hx hb dX7_ifShifted_25 (by decide) ?_
  refine lv_lconst (v := 1) hx hb dX7_ifShifted_26 (by decide) ?_
  refine z_callS (As := [.long d.toInt64, .long 0, .long 1]) (rest := [.ref q]) (wc := []) (wr := [(q, .inr (7, [v0, v1, v2, .ref w3, .ref w4, v5, v6, v7, v8, v9, v10, v11, v12, v13, v14, v15])), (w3, .inl (G.2 1, 121, .inl (flt h b))), (w4, .inl (G.2 1, 121, .inl F))]) (w1 := []) (ws' := [(q, .inr (7, [v0, v1, v2, .ref w3, .ref w4, v5, v6, v7, v8, v9, v10, v11, v12, v13, v14, v15])), (w3, .inl (G.2 1, 121, .inl (flt h b))), (w4, .inl (G.2 1, 121, .inl F))]) ⟨hx, hb, hml, hown, hts⟩ (c_in l G d.toInt64 0 1) (va_cwS 3 hts gX7_ifShifted_X7_in rfl rfl rfl (by decide +kernel) ⟨Nat.le_of_ble_eq_true rfl, Nat.le_of_ble_eq_true rfl⟩) rfl hl.1 rfl (Nat.le_of_ble_eq_true rfl) dX7_ifShifted_27 ⟨Nat.le_of_ble_eq_true rfl, Nat.le_of_ble_eq_true rfl⟩ hK hE hA hM (List.Perm.refl _) (List.Perm.refl _) (fun H locs hM hz => ?_)
  refine z_ifeq (tgt := 48) hx hb dX7_ifShifted_30 (by decide) (fun c_1 => ?_) (fun c_1 => ?_)
  · skip
    refine lv_iconst (v := 2) hx hb dX7_ifShifted_48 (by decide) ?_
    refine z_callV (As := [.int 2]) (rest := []) (wc := [(q, .inr (7, [v0, v1, v2, .ref w3, .ref w4, v5, v6, v7, v8, v9, v10, v11, v12, v13, v14, v15]))]) (wr := [(w3, .inl (G.2 1, 121, .inl (flt h b))), (w4, .inl (G.2 1, 121, .inl F))]) (w1 := [(q, .inr (7, [.int 2, v1, v2, .ref w3, .ref w4, v5, v6, v7, v8, v9, v10, v11, v12, v13, v14, v15]))]) (ws' := [(q, .inr (7, [.int 2, v1, v2, .ref w3, .ref w4, v5, v6, v7, v8, v9, v10, v11, v12, v13, v14, v15])), (w3, .inl (G.2 1, 121, .inl (flt h b))), (w4, .inl (G.2 1, 121, .inl F))]) ⟨hx, hb, hml, hown, hts⟩ (c_refused l G q v0 v1 v2 (.ref w3) (.ref w4) v5 v6 v7 v8 v9 v10 v11 v12 v13 v14 v15 2) (cwV 1 hts gX7_ifShifted_X7_refused rfl rfl rfl (by decide +kernel) ⟨Nat.le_of_ble_eq_true rfl, Nat.le_of_ble_eq_true rfl⟩) 7 rfl rfl rfl rfl hl.1 rfl (Nat.le_of_ble_eq_true rfl) dX7_ifShifted_49 ⟨Nat.le_of_ble_eq_true rfl, Nat.le_of_ble_eq_true rfl⟩ hK hE hA hM (pm_at 3 [0] [1, 2] rfl rfl rfl (by decide)) ((pm_at 3 [0] [1, 2] rfl rfl rfl (by decide))).symm (fun H locs hM hz => ?_)
    refine z_ifeq (tgt := 57) hx hb dX7_ifShifted_52 (by decide) (fun c_3 => absurd c_3 (by decide)) (fun c_3 => ?_)
    refine lv_iconst (v := 0) hx hb dX7_ifShifted_55 (by decide) ?_
    exact z_iret hx hb hr hlocks dX7_ifShifted_56 hM (Nat.le_of_ble_eq_true rfl) (Nat.le_of_ble_eq_true rfl) rfl
  · skip
    refine lv_iload hx hb dX7_ifShifted_33 (lv_at hl 4 rfl) ?_
    refine lv_i2l (v := w.toInt64) hx hb dX7_ifShifted_35 rfl ?_
    refine lv_lconst (v := 0) hx hb dX7_ifShifted_36 (by decide) ?_
    refine lv_lconst (v := 1) hx hb dX7_ifShifted_37 (by decide) ?_
    refine z_callS (As := [.long w.toInt64, .long 0, .long 1]) (rest := [.ref q]) (wc := []) (wr := [(q, .inr (7, [v0, v1, v2, .ref w3, .ref w4, v5, v6, v7, v8, v9, v10, v11, v12, v13, v14, v15])), (w3, .inl (G.2 1, 121, .inl (flt h b))), (w4, .inl (G.2 1, 121, .inl F))]) (w1 := []) (ws' := [(q, .inr (7, [v0, v1, v2, .ref w3, .ref w4, v5, v6, v7, v8, v9, v10, v11, v12, v13, v14, v15])), (w3, .inl (G.2 1, 121, .inl (flt h b))), (w4, .inl (G.2 1, 121, .inl F))]) ⟨hx, hb, hml, hown, hts⟩ (c_in l G w.toInt64 0 1) (va_cwS 3 hts gX7_ifShifted_X7_in rfl rfl rfl (by decide +kernel) ⟨Nat.le_of_ble_eq_true rfl, Nat.le_of_ble_eq_true rfl⟩) rfl hl.1 rfl (Nat.le_of_ble_eq_true rfl) dX7_ifShifted_38 ⟨Nat.le_of_ble_eq_true rfl, Nat.le_of_ble_eq_true rfl⟩ hK hE hA hM (List.Perm.refl _) (List.Perm.refl _) (fun H locs hM hz => ?_)
    refine z_ifeq (tgt := 48) hx hb dX7_ifShifted_41 (by decide) (fun c_4 => ?_) (fun c_4 => (by rw [← zI0_di, c_1, c_4] at hc; exact Bool.noConfusion hc))
    refine lv_iconst (v := 2) hx hb dX7_ifShifted_48 (by decide) ?_
    refine z_callV (As := [.int 2]) (rest := []) (wc := [(q, .inr (7, [v0, v1, v2, .ref w3, .ref w4, v5, v6, v7, v8, v9, v10, v11, v12, v13, v14, v15]))]) (wr := [(w3, .inl (G.2 1, 121, .inl (flt h b))), (w4, .inl (G.2 1, 121, .inl F))]) (w1 := [(q, .inr (7, [.int 2, v1, v2, .ref w3, .ref w4, v5, v6, v7, v8, v9, v10, v11, v12, v13, v14, v15]))]) (ws' := [(q, .inr (7, [.int 2, v1, v2, .ref w3, .ref w4, v5, v6, v7, v8, v9, v10, v11, v12, v13, v14, v15])), (w3, .inl (G.2 1, 121, .inl (flt h b))), (w4, .inl (G.2 1, 121, .inl F))]) ⟨hx, hb, hml, hown, hts⟩ (c_refused l G q v0 v1 v2 (.ref w3) (.ref w4) v5 v6 v7 v8 v9 v10 v11 v12 v13 v14 v15 2) (cwV 1 hts gX7_ifShifted_X7_refused rfl rfl rfl (by decide +kernel) ⟨Nat.le_of_ble_eq_true rfl, Nat.le_of_ble_eq_true rfl⟩) 7 rfl rfl rfl rfl hl.1 rfl (Nat.le_of_ble_eq_true rfl) dX7_ifShifted_49 ⟨Nat.le_of_ble_eq_true rfl, Nat.le_of_ble_eq_true rfl⟩ hK hE hA hM (pm_at 3 [0] [1, 2] rfl rfl rfl (by decide)) ((pm_at 3 [0] [1, 2] rfl rfl rfl (by decide))).symm (fun H locs hM hz => ?_)
    refine z_ifeq (tgt := 57) hx hb dX7_ifShifted_52 (by decide) (fun c_5 => absurd c_5 (by decide)) (fun c_5 => ?_)
    refine lv_iconst (v := 0) hx hb dX7_ifShifted_55 (by decide) ?_
    exact z_iret hx hb hr hlocks dX7_ifShifted_56 hM (Nat.le_of_ble_eq_true rfl) (Nat.le_of_ble_eq_true rfl) rfl

set_option maxHeartbeats 4000000 in
set_option maxRecDepth 100000 in
theorem c_r_if0 (l : Launch) (G : zC) (q : Nat) (v0 v1 v2 v5 v6 v7 v8 v9 v10 v11 v12 v13 v14 v15 : Value) (w3 w4 : Nat) (F : Nat → Int32) (h : Nat → Int32) (b : Nat → Nat → Int32) (P t S : Nat) (hg : zWf h b P t S) (o i : Nat) (d w : Int32) (ho : o < P) (hi6 : i < 6) (hd : zDi d = true) (hd2 : d = 0 ∨ d = 1) (hc : zI0 w.toInt64 0 1 = true) : zMet l G yX7_ifShifted wsX7_ifShifted rmX7_ifShifted [.ref q, .int (nI o), .int (nI i), .int d, .int w] ([(q, .inr (7, [v0, v1, v2, .ref w3, .ref w4, v5, v6, v7, v8, v9, v10, v11, v12, v13, v14, v15])), (w3, .inl (G.2 1, 121, .inl (flt h b))), (w4, .inl (G.2 1, 121, .inl F))]) (some (.int (if w = 0 then zRch (zMv (b o) i d) S else zb (zIn (zRch (zMv (b o) i d) S) (zSp (zMv (b o) i d)))))) ([(q, .inr (7, [.int 0, v1, v2, .ref w3, .ref w4, v5, v6, v7, v8, v9, v10, v11, v12, v13, v14, v15])), (w3, .inl (G.2 1, 121, .inl (flt h b))), (w4, .inl (G.2 1, 121, .inl (flt h (va_up b o (zPu (b o) i d)))))]) := by
  refine zMet_of (cc := cX7_ifShifted) (maxL := 5) (ret := (some .int)) (by decide) rfl (Nat.le_of_ble_eq_true rfl) ?_
  intro p e s m below meth c A ls hx hb hr hml hown hts hK hA hE hlocks hin hM hl
  have hown : s.vm.findClass RX7 = some m.cls := hown
  have hM : zM G A s s.heap [] ([(q, .inr (7, [v0, v1, v2, .ref w3, .ref w4, v5, v6, v7, v8, v9, v10, v11, v12, v13, v14, v15])), (w3, .inl (G.2 1, 121, .inl (flt h b))), (w4, .inl (G.2 1, 121, .inl F))]) := hM
  have hl : lv_has ls 5 [(0, .ref q), (1, .int (nI o)), (2, .int (nI i)), (3, .int d), (4, .int w)] := hl
  have hP := hg.1.1
  have hP4 := hg.1.2.1
  have h6 := hg.1.2.2.2.2.1
  have hS := hg.1.2.2.2.2.2.1
  have hi := (zHp_lt hP hP4 (k := o) (by omega)).mpr ho
  have hwo : zBw (b o) := hg.2.2 o ho
  have hwB : zBw (va_up b o (zPu (b o) i d) o) := by rw [va_ups]; exact zBw_pu hwo hi6 hd2
  refine lv_aload_n hx hb dX7_ifShifted_0 rfl (lv_at hl 0 rfl) ?_
  refine lv_aload_n hx hb dX7_ifShifted_1 rfl (lv_at hl 0 rfl) ?_
  refine z_get (ci := 7) (v := .ref w3) (C := RX7) (T := TX7) (N := 16) hx hb hts (by decide +kernel) hown hK hM 0 rfl rfl 3 (by decide) (hts (.fieldLink RX7 13 "ShiftIslesModel" "now" "[I") (by decide +kernel)) (fun _ h9 => h9) rfl dX7_ifShifted_2 ?_
  refine lv_iload_n hx hb dX7_ifShifted_5 rfl (lv_at hl 1 rfl) ?_
  refine z_callS (As := [.ref w3, .int (nI o)]) (rest := [.ref q]) (wc := rfW G w3 h b) (wr := [(q, .inr (7, [v0, v1, v2, .ref w3, .ref w4, v5, v6, v7, v8, v9, v10, v11, v12, v13, v14, v15])), (w4, .inl (G.2 1, 121, .inl F))]) (w1 := rfW G w3 h b) (ws' := [(q, .inr (7, [v0, v1, v2, .ref w3, .ref w4, v5, v6, v7, v8, v9, v10, v11, v12, v13, v14, v15])), (w3, .inl (G.2 1, 121, .inl (flt h b))), (w4, .inl (G.2 1, 121, .inl F))]) ⟨hx, hb, hml, hown, hts⟩ (c_r_isPlayer l G w3 h b P hP hP4 (nI o) ) (va_cwS 2 hts gX7_ifShifted_X7_isPlayer rfl rfl rfl (by decide +kernel) ⟨Nat.le_of_ble_eq_true rfl, Nat.le_of_ble_eq_true rfl⟩) rfl hl.1 rfl (Nat.le_of_ble_eq_true rfl) dX7_ifShifted_6 ⟨Nat.le_of_ble_eq_true rfl, Nat.le_of_ble_eq_true rfl⟩ hK hE hA hM (pm_at 3 [1] [0, 2] rfl rfl rfl (by decide)) ((pm_at 3 [1] [0, 2] rfl rfl rfl (by decide))).symm (fun H locs hM hz => ?_)
  refine z_ifeq (tgt := 19) hx hb dX7_ifShifted_9 (by decide) (fun c_1 => Bool.noConfusion (hi.symm.trans c_1)) (fun c_1 => ?_)
  refine lv_iload_n hx hb dX7_ifShifted_12 rfl (lv_at hl 2 rfl) ?_
  refine z_callS (As := [.int (nI i)]) (rest := [.ref q]) (wc := []) (wr := [(q, .inr (7, [v0, v1, v2, .ref w3, .ref w4, v5, v6, v7, v8, v9, v10, v11, v12, v13, v14, v15])), (w3, .inl (G.2 1, 121, .inl (flt h b))), (w4, .inl (G.2 1, 121, .inl F))]) (w1 := []) (ws' := [(q, .inr (7, [v0, v1, v2, .ref w3, .ref w4, v5, v6, v7, v8, v9, v10, v11, v12, v13, v14, v15])), (w3, .inl (G.2 1, 121, .inl (flt h b))), (w4, .inl (G.2 1, 121, .inl F))]) ⟨hx, hb, hml, hown, hts⟩ (c_r_isLine l G (nI i)) (va_cwS 1 hts gX7_ifShifted_X7_isLine rfl rfl rfl (by decide +kernel) ⟨Nat.le_of_ble_eq_true rfl, Nat.le_of_ble_eq_true rfl⟩) rfl hl.1 rfl (Nat.le_of_ble_eq_true rfl) dX7_ifShifted_13 ⟨Nat.le_of_ble_eq_true rfl, Nat.le_of_ble_eq_true rfl⟩ hK hE hA hM (List.Perm.refl _) (List.Perm.refl _) (fun H locs hM hz => ?_)
  refine z_ifne (tgt := 23) hx hb dX7_ifShifted_16 (by decide) (fun c_2 => ?_) (fun c_2 => Bool.noConfusion ((zLi_nI hi6).symm.trans c_2))
  refine lv_iload_n hx hb dX7_ifShifted_23 rfl (lv_at hl 3 rfl) ?_
  refine lv_i2l (v := d.toInt64) hx hb dX7_ifShifted_24 rfl ?_
  refine lv_lconst (v := 0) hx hb dX7_ifShifted_25 (by decide) ?_
  refine lv_lconst (v := 1) hx hb dX7_ifShifted_26 (by decide) ?_
  refine z_callS (As := [.long d.toInt64, .long 0, .long 1]) (rest := [.ref q]) (wc := []) (wr := [(q, .inr (7, [v0, v1, v2, .ref w3, .ref w4, v5, v6, v7, v8, v9, v10, v11, v12, v13, v14, v15])), (w3, .inl (G.2 1, 121, .inl (flt h b))), (w4, .inl (G.2 1, 121, .inl F))]) (w1 := []) (ws' := [(q, .inr (7, [v0, v1, v2, .ref w3, .ref w4, v5, v6, v7, v8, v9, v10, v11, v12, v13, v14, v15])), (w3, .inl (G.2 1, 121, .inl (flt h b))), (w4, .inl (G.2 1, 121, .inl F))]) ⟨hx, hb, hml, hown, hts⟩ (c_in l G d.toInt64 0 1) (va_cwS 3 hts gX7_ifShifted_X7_in rfl rfl rfl (by decide +kernel) ⟨Nat.le_of_ble_eq_true rfl, Nat.le_of_ble_eq_true rfl⟩) rfl hl.1 rfl (Nat.le_of_ble_eq_true rfl) dX7_ifShifted_27 ⟨Nat.le_of_ble_eq_true rfl, Nat.le_of_ble_eq_true rfl⟩ hK hE hA hM (List.Perm.refl _) (List.Perm.refl _) (fun H locs hM hz => ?_)
  refine z_ifeq (tgt := 48) hx hb dX7_ifShifted_30 (by decide) (fun c_3 => Bool.noConfusion (((zI0_di d).trans hd).symm.trans c_3)) (fun c_3 => ?_)
  refine lv_iload hx hb dX7_ifShifted_33 (lv_at hl 4 rfl) ?_
  refine lv_i2l (v := w.toInt64) hx hb dX7_ifShifted_35 rfl ?_
  refine lv_lconst (v := 0) hx hb dX7_ifShifted_36 (by decide) ?_
  refine lv_lconst (v := 1) hx hb dX7_ifShifted_37 (by decide) ?_
  refine z_callS (As := [.long w.toInt64, .long 0, .long 1]) (rest := [.ref q]) (wc := []) (wr := [(q, .inr (7, [v0, v1, v2, .ref w3, .ref w4, v5, v6, v7, v8, v9, v10, v11, v12, v13, v14, v15])), (w3, .inl (G.2 1, 121, .inl (flt h b))), (w4, .inl (G.2 1, 121, .inl F))]) (w1 := []) (ws' := [(q, .inr (7, [v0, v1, v2, .ref w3, .ref w4, v5, v6, v7, v8, v9, v10, v11, v12, v13, v14, v15])), (w3, .inl (G.2 1, 121, .inl (flt h b))), (w4, .inl (G.2 1, 121, .inl F))]) ⟨hx, hb, hml, hown, hts⟩ (c_in l G w.toInt64 0 1) (va_cwS 3 hts gX7_ifShifted_X7_in rfl rfl rfl (by decide +kernel) ⟨Nat.le_of_ble_eq_true rfl, Nat.le_of_ble_eq_true rfl⟩) rfl hl.1 rfl (Nat.le_of_ble_eq_true rfl) dX7_ifShifted_38 ⟨Nat.le_of_ble_eq_true rfl, Nat.le_of_ble_eq_true rfl⟩ hK hE hA hM (List.Perm.refl _) (List.Perm.refl _) (fun H locs hM hz => ?_)
  refine z_ifeq (tgt := 48) hx hb dX7_ifShifted_41 (by decide) (fun c_4 => Bool.noConfusion (hc.symm.trans c_4)) (fun c_4 => ?_)
  refine lv_iconst (v := 0) hx hb dX7_ifShifted_44 (by decide) ?_
  refine lv_goto (tgt := 49) hx hb dX7_ifShifted_45 (by decide) ?_
  refine z_callV (As := [.int 0]) (rest := []) (wc := [(q, .inr (7, [v0, v1, v2, .ref w3, .ref w4, v5, v6, v7, v8, v9, v10, v11, v12, v13, v14, v15]))]) (wr := [(w3, .inl (G.2 1, 121, .inl (flt h b))), (w4, .inl (G.2 1, 121, .inl F))]) (w1 := [(q, .inr (7, [.int 0, v1, v2, .ref w3, .ref w4, v5, v6, v7, v8, v9, v10, v11, v12, v13, v14, v15]))]) (ws' := [(q, .inr (7, [.int 0, v1, v2, .ref w3, .ref w4, v5, v6, v7, v8, v9, v10, v11, v12, v13, v14, v15])), (w3, .inl (G.2 1, 121, .inl (flt h b))), (w4, .inl (G.2 1, 121, .inl F))]) ⟨hx, hb, hml, hown, hts⟩ (c_refused l G q v0 v1 v2 (.ref w3) (.ref w4) v5 v6 v7 v8 v9 v10 v11 v12 v13 v14 v15 0) (cwV 1 hts gX7_ifShifted_X7_refused rfl rfl rfl (by decide +kernel) ⟨Nat.le_of_ble_eq_true rfl, Nat.le_of_ble_eq_true rfl⟩) 7 rfl rfl rfl rfl hl.1 rfl (Nat.le_of_ble_eq_true rfl) dX7_ifShifted_49 ⟨Nat.le_of_ble_eq_true rfl, Nat.le_of_ble_eq_true rfl⟩ hK hE hA hM (pm_at 3 [0] [1, 2] rfl rfl rfl (by decide)) ((pm_at 3 [0] [1, 2] rfl rfl rfl (by decide))).symm (fun H locs hM hz => ?_)
  refine z_ifeq (tgt := 57) hx hb dX7_ifShifted_52 (by decide) (fun c_5 => ?_) (fun c_5 => absurd c_5 (by decide))
  refine lv_aload_n hx hb dX7_ifShifted_57 rfl (lv_at hl 0 rfl) ?_
  refine z_get (ci := 7) (v := .ref w3) (C := RX7) (T := TX7) (N := 16) hx hb hts (by decide +kernel) hown hK hM 0 rfl rfl 3 (by decide) (hts (.fieldLink RX7 13 "ShiftIslesModel" "now" "[I") (by decide +kernel)) (fun _ h9 => h9) rfl dX7_ifShifted_58 ?_
  refine lv_iconst (v := nI 0) hx hb dX7_ifShifted_61 (by decide) ?_
  refine lv_aload_n hx hb dX7_ifShifted_62 rfl (lv_at hl 0 rfl) ?_
  refine z_get (ci := 7) (v := .ref w4) (C := RX7) (T := TX7) (N := 16) hx hb hts (by decide +kernel) hown hK hM 0 rfl rfl 4 (by decide) (hts (.fieldLink RX7 16 "ShiftIslesModel" "trial" "[I") (by decide +kernel)) (fun _ h9 => h9) rfl dX7_ifShifted_63 ?_
  refine lv_iconst (v := nI 0) hx hb dX7_ifShifted_66 (by decide) ?_
  refine z_callS (As := [.ref w3, .int (nI 0), .ref w4, .int (nI 0)]) (rest := []) (wc := [(w3, .inl (G.2 1, 121, .inl (flt h b))), (w4, .inl (G.2 1, 121, .inl F))]) (wr := [(q, .inr (7, [.int 0, v1, v2, .ref w3, .ref w4, v5, v6, v7, v8, v9, v10, v11, v12, v13, v14, v15]))]) (w1 := [(w3, .inl (G.2 1, 121, .inl (flt h b))), (w4, .inl (G.2 1, 121, .inl (cpv (flt h b) F 0 0 121)))]) (ws' := [(q, .inr (7, [.int 0, v1, v2, .ref w3, .ref w4, v5, v6, v7, v8, v9, v10, v11, v12, v13, v14, v15])), (w3, .inl (G.2 1, 121, .inl (flt h b))), (w4, .inl (G.2 1, 121, .inl (cpv (flt h b) F 0 0 121)))]) ⟨hx, hb, hml, hown, hts⟩ (c_copyState l G w3 w4 121 121 0 0 (flt h b) F (by omega) (by omega) (by decide) (by decide)) (va_cwS 4 hts gX7_ifShifted_X7_copyState rfl rfl rfl (by decide +kernel) ⟨Nat.le_of_ble_eq_true rfl, Nat.le_of_ble_eq_true rfl⟩) rfl hl.1 rfl (Nat.le_of_ble_eq_true rfl) dX7_ifShifted_67 ⟨Nat.le_of_ble_eq_true rfl, Nat.le_of_ble_eq_true rfl⟩ hK hE hA hM (pm_at 3 [1, 2] [0] rfl rfl rfl (by decide)) ((pm_at 3 [1, 2] [0] rfl rfl rfl (by decide))).symm (fun H locs hM hz => ?_)
  have hsim : zSim ([(q, .inr (7, [.int 0, v1, v2, .ref w3, .ref w4, v5, v6, v7, v8, v9, v10, v11, v12, v13, v14, v15])), (w3, .inl (G.2 1, 121, .inl (flt h b))), (w4, .inl (G.2 1, 121, .inl (cpv (flt h b) F 0 0 121)))]) ([(q, .inr (7, [.int 0, v1, v2, .ref w3, .ref w4, v5, v6, v7, v8, v9, v10, v11, v12, v13, v14, v15])), (w3, .inl (G.2 1, 121, .inl (flt h b))), (w4, .inl (G.2 1, 121, .inl (flt h b)))]) := ⟨zSame_rf _, zSame_rf _, zSame_arr cpv_all, trivial⟩
  have hM : zM G A s H locs ([(q, .inr (7, [.int 0, v1, v2, .ref w3, .ref w4, v5, v6, v7, v8, v9, v10, v11, v12, v13, v14, v15])), (w3, .inl (G.2 1, 121, .inl (flt h b))), (w4, .inl (G.2 1, 121, .inl (flt h b)))]) := zM_sim hsim hM
  refine lv_aload_n hx hb dX7_ifShifted_70 rfl (lv_at hl 0 rfl) ?_
  refine z_get (ci := 7) (v := .ref w4) (C := RX7) (T := TX7) (N := 16) hx hb hts (by decide +kernel) hown hK hM 0 rfl rfl 4 (by decide) (hts (.fieldLink RX7 16 "ShiftIslesModel" "trial" "[I") (by decide +kernel)) (fun _ h9 => h9) rfl dX7_ifShifted_71 ?_
  refine lv_iload_n hx hb dX7_ifShifted_74 rfl (lv_at hl 1 rfl) ?_
  refine lv_iload_n hx hb dX7_ifShifted_75 rfl (lv_at hl 2 rfl) ?_
  refine lv_iload_n hx hb dX7_ifShifted_76 rfl (lv_at hl 3 rfl) ?_
  refine z_callS (As := [.ref w4, .int (nI o), .int (nI i), .int d]) (rest := []) (wc := rfW G w4 h b) (wr := [(q, .inr (7, [.int 0, v1, v2, .ref w3, .ref w4, v5, v6, v7, v8, v9, v10, v11, v12, v13, v14, v15])), (w3, .inl (G.2 1, 121, .inl (flt h b)))]) (w1 := rfW G w4 h (va_up b o (zPu (b o) i d))) (ws' := [(q, .inr (7, [.int 0, v1, v2, .ref w3, .ref w4, v5, v6, v7, v8, v9, v10, v11, v12, v13, v14, v15])), (w3, .inl (G.2 1, 121, .inl (flt h b))), (w4, .inl (G.2 1, 121, .inl (flt h (va_up b o (zPu (b o) i d)))))]) ⟨hx, hb, hml, hown, hts⟩ (c_push l G w4 h b o i d (by omega) (by omega) ) (va_cwS 4 hts gX7_ifShifted_X7_push rfl rfl rfl (by decide +kernel) ⟨Nat.le_of_ble_eq_true rfl, Nat.le_of_ble_eq_true rfl⟩) rfl hl.1 rfl (Nat.le_of_ble_eq_true rfl) dX7_ifShifted_77 ⟨Nat.le_of_ble_eq_true rfl, Nat.le_of_ble_eq_true rfl⟩ hK hE hA hM (pm_at 3 [2] [0, 1] rfl rfl rfl (by decide)) ((pm_at 3 [2] [0, 1] rfl rfl rfl (by decide))).symm (fun H locs hM hz => ?_)
  refine lv_iload hx hb dX7_ifShifted_80 (lv_at hl 4 rfl) ?_
  refine lv_if_ne (tgt := 96) hx hb dX7_ifShifted_82 (by decide) (fun c_w => ?_) (fun c_w => ?_)
  · skip
    refine lv_aload_n hx hb dX7_ifShifted_96 rfl (lv_at hl 0 rfl) ?_
    refine z_get (ci := 7) (v := .ref w4) (C := RX7) (T := TX7) (N := 16) hx hb hts (by decide +kernel) hown hK hM 0 rfl rfl 4 (by decide) (hts (.fieldLink RX7 16 "ShiftIslesModel" "trial" "[I") (by decide +kernel)) (fun _ h9 => h9) rfl dX7_ifShifted_97 ?_
    refine lv_iload_n hx hb dX7_ifShifted_100 rfl (lv_at hl 1 rfl) ?_
    refine z_callS (As := [.ref w4, .int (nI o)]) (rest := []) (wc := rfW G w4 h (va_up b o (zPu (b o) i d))) (wr := [(q, .inr (7, [.int 0, v1, v2, .ref w3, .ref w4, v5, v6, v7, v8, v9, v10, v11, v12, v13, v14, v15])), (w3, .inl (G.2 1, 121, .inl (flt h b)))]) (w1 := rfW G w4 h (va_up b o (zPu (b o) i d))) (ws' := [(q, .inr (7, [.int 0, v1, v2, .ref w3, .ref w4, v5, v6, v7, v8, v9, v10, v11, v12, v13, v14, v15])), (w3, .inl (G.2 1, 121, .inl (flt h b))), (w4, .inl (G.2 1, 121, .inl (flt h (va_up b o (zPu (b o) i d)))))]) ⟨hx, hb, hml, hown, hts⟩ (c_canTake l G w4 h (va_up b o (zPu (b o) i d)) o S (by omega) hS hwB h6) (va_cwS 2 hts gX7_ifShifted_X7_canTake rfl rfl rfl (by decide +kernel) ⟨Nat.le_of_ble_eq_true rfl, Nat.le_of_ble_eq_true rfl⟩) rfl hl.1 rfl (Nat.le_of_ble_eq_true rfl) dX7_ifShifted_101 ⟨Nat.le_of_ble_eq_true rfl, Nat.le_of_ble_eq_true rfl⟩ hK hE hA hM (pm_at 3 [2] [0, 1] rfl rfl rfl (by decide)) ((pm_at 3 [2] [0, 1] rfl rfl rfl (by decide))).symm (fun H locs hM hz => ?_)
    refine z_ifeq (tgt := 111) hx hb dX7_ifShifted_104 (by decide) (fun c_t => ?_) (fun c_t => ?_)
    · rw [va_ups] at c_t
      refine lv_iconst (v := 0) hx hb dX7_ifShifted_111 (by decide) ?_
      exact z_iret hx hb hr hlocks dX7_ifShifted_112 hM (Nat.le_of_ble_eq_true rfl) (Nat.le_of_ble_eq_true rfl) (by rw [if_neg c_w, ← zRch_pu hwo hi6 hd2, ← zSp_pu hwo hi6 hd2, c_t]; rfl)
    · rw [va_ups] at c_t
      refine lv_iconst (v := 1) hx hb dX7_ifShifted_107 (by decide) ?_
      refine lv_goto (tgt := 112) hx hb dX7_ifShifted_108 (by decide) ?_
      exact z_iret hx hb hr hlocks dX7_ifShifted_112 hM (Nat.le_of_ble_eq_true rfl) (Nat.le_of_ble_eq_true rfl) (by rw [if_neg c_w, ← zRch_pu hwo hi6 hd2, ← zSp_pu hwo hi6 hd2, c_t]; rfl)
  · skip
    refine lv_aload_n hx hb dX7_ifShifted_85 rfl (lv_at hl 0 rfl) ?_
    refine z_get (ci := 7) (v := .ref w4) (C := RX7) (T := TX7) (N := 16) hx hb hts (by decide +kernel) hown hK hM 0 rfl rfl 4 (by decide) (hts (.fieldLink RX7 16 "ShiftIslesModel" "trial" "[I") (by decide +kernel)) (fun _ h9 => h9) rfl dX7_ifShifted_86 ?_
    refine lv_iload_n hx hb dX7_ifShifted_89 rfl (lv_at hl 1 rfl) ?_
    refine z_callS (As := [.ref w4, .int (nI o)]) (rest := []) (wc := rfW G w4 h (va_up b o (zPu (b o) i d))) (wr := [(q, .inr (7, [.int 0, v1, v2, .ref w3, .ref w4, v5, v6, v7, v8, v9, v10, v11, v12, v13, v14, v15])), (w3, .inl (G.2 1, 121, .inl (flt h b)))]) (w1 := rfW G w4 h (va_up b o (zPu (b o) i d))) (ws' := [(q, .inr (7, [.int 0, v1, v2, .ref w3, .ref w4, v5, v6, v7, v8, v9, v10, v11, v12, v13, v14, v15])), (w3, .inl (G.2 1, 121, .inl (flt h b))), (w4, .inl (G.2 1, 121, .inl (flt h (va_up b o (zPu (b o) i d)))))]) ⟨hx, hb, hml, hown, hts⟩ (c_reachable l G w4 h (va_up b o (zPu (b o) i d)) o S (by omega) hS hwB h6) (va_cwS 2 hts gX7_ifShifted_X7_reachable rfl rfl rfl (by decide +kernel) ⟨Nat.le_of_ble_eq_true rfl, Nat.le_of_ble_eq_true rfl⟩) rfl hl.1 rfl (Nat.le_of_ble_eq_true rfl) dX7_ifShifted_90 ⟨Nat.le_of_ble_eq_true rfl, Nat.le_of_ble_eq_true rfl⟩ hK hE hA hM (pm_at 3 [2] [0, 1] rfl rfl rfl (by decide)) ((pm_at 3 [2] [0, 1] rfl rfl rfl (by decide))).symm (fun H locs hM hz => ?_)
    refine lv_goto (tgt := 112) hx hb dX7_ifShifted_93 (by decide) ?_
    exact z_iret hx hb hr hlocks dX7_ifShifted_112 hM (Nat.le_of_ble_eq_true rfl) (Nat.le_of_ble_eq_true rfl) (by rw [if_pos c_w, va_ups, zRch_pu hwo hi6 hd2])
set_option maxHeartbeats 4000000 in
set_option maxRecDepth 100000 in
theorem c_r_worst1 (l : Launch) (G : zC) (a : Nat → Nat) (u : Nat → Int32) (x : Int64) (f : Nat → Int32) (h : Nat → Int32) (b : Nat → Nat → Int32) (k : Int32) (hc : zI0 k.toInt64 0 2 = false) : zMet l G yX7_worstShift wsX7_worstShift rmX7_worstShift [.ref (a 0), .int k] ([((a 0), .inr (7, [.int (u 0), .ref (a 1), .int (u 2), .ref (a 3), .ref (a 4), .ref (a 5), .ref (a 6), .int (u 7), .ref (a 8), .ref (a 9), .int (u 10), .int (u 11), .int (u 12), .long x, .int (u 14), .int (u 15)])), ((a 3), .inl (G.2 1, 121, .inl (flt h b))), ((a 5), .inl (G.2 1, 121, .inl f))]) (some (.int 0)) ([((a 0), .inr (7, [.int 1, .ref (a 1), .int (u 2), .ref (a 3), .ref (a 4), .ref (a 5), .ref (a 6), .int (u 7), .ref (a 8), .ref (a 9), .int (u 10), .int (u 11), .int (u 12), .long x, .int (u 14), .int (u 15)])), ((a 3), .inl (G.2 1, 121, .inl (flt h b))), ((a 5), .inl (G.2 1, 121, .inl f))]) := by
  refine zMet_of (cc := cX7_worstShift) (maxL := 2) (ret := (some .int)) (by decide) rfl (Nat.le_of_ble_eq_true rfl) ?_
  intro p e s m below meth c A ls hx hb hr hml hown hts hK hA hE hlocks hin hM hl
  have hown : s.vm.findClass RX7 = some m.cls := hown
  have hM : zM G A s s.heap [] ([((a 0), .inr (7, [.int (u 0), .ref (a 1), .int (u 2), .ref (a 3), .ref (a 4), .ref (a 5), .ref (a 6), .int (u 7), .ref (a 8), .ref (a 9), .int (u 10), .int (u 11), .int (u 12), .long x, .int (u 14), .int (u 15)])), ((a 3), .inl (G.2 1, 121, .inl (flt h b))), ((a 5), .inl (G.2 1, 121, .inl f))]) := hM
  have hl : lv_has ls 2 [(0, .ref (a 0)), (1, .int k)] := hl
  refine lv_aload_n hx hb dX7_worstShift_0 rfl (lv_at hl 0 rfl) ?_
  refine lv_iload_n hx hb dX7_worstShift_1 rfl (lv_at hl 1 rfl) ?_
  refine lv_i2l (v := k.toInt64) hx hb dX7_worstShift_2 rfl ?_
  refine lv_lconst (v := 0) hx hb dX7_worstShift_3 (by decide) ?_
  refine lv_ldc2 (v := 2) hx hb hown (hts (.constantLong RX7 152 2) (by decide +kernel)) dX7_worstShift_4 ?_
  refine z_callS (As := [.long k.toInt64, .long 0, .long 2]) (rest := [.ref (a 0)]) (wc := []) (wr := [((a 0), .inr (7, [.int (u 0), .ref (a 1), .int (u 2), .ref (a 3), .ref (a 4), .ref (a 5), .ref (a 6), .int (u 7), .ref (a 8), .ref (a 9), .int (u 10), .int (u 11), .int (u 12), .long x, .int (u 14), .int (u 15)])), ((a 3), .inl (G.2 1, 121, .inl (flt h b))), ((a 5), .inl (G.2 1, 121, .inl f))]) (w1 := []) (ws' := [((a 0), .inr (7, [.int (u 0), .ref (a 1), .int (u 2), .ref (a 3), .ref (a 4), .ref (a 5), .ref (a 6), .int (u 7), .ref (a 8), .ref (a 9), .int (u 10), .int (u 11), .int (u 12), .long x, .int (u 14), .int (u 15)])), ((a 3), .inl (G.2 1, 121, .inl (flt h b))), ((a 5), .inl (G.2 1, 121, .inl f))]) ⟨hx, hb, hml, hown, hts⟩ (c_in l G k.toInt64 0 2) (va_cwS 3 hts gX7_worstShift_X7_in rfl rfl rfl (by decide +kernel) ⟨Nat.le_of_ble_eq_true rfl, Nat.le_of_ble_eq_true rfl⟩) rfl hl.1 rfl (Nat.le_of_ble_eq_true rfl) dX7_worstShift_7 ⟨Nat.le_of_ble_eq_true rfl, Nat.le_of_ble_eq_true rfl⟩ hK hE hA hM (List.Perm.refl _) (List.Perm.refl _) (fun H locs hM hz => ?_)
  refine z_ifeq (tgt := 17) hx hb dX7_worstShift_10 (by decide) (fun c_1 => ?_) (fun c_1 => Bool.noConfusion (c_1.symm.trans hc))
  refine lv_iconst (v := 1) hx hb dX7_worstShift_17 (by decide) ?_
  refine z_callV (As := [.int 1]) (rest := []) (wc := [((a 0), .inr (7, [.int (u 0), .ref (a 1), .int (u 2), .ref (a 3), .ref (a 4), .ref (a 5), .ref (a 6), .int (u 7), .ref (a 8), .ref (a 9), .int (u 10), .int (u 11), .int (u 12), .long x, .int (u 14), .int (u 15)]))]) (wr := [((a 3), .inl (G.2 1, 121, .inl (flt h b))), ((a 5), .inl (G.2 1, 121, .inl f))]) (w1 := [((a 0), .inr (7, [.int 1, .ref (a 1), .int (u 2), .ref (a 3), .ref (a 4), .ref (a 5), .ref (a 6), .int (u 7), .ref (a 8), .ref (a 9), .int (u 10), .int (u 11), .int (u 12), .long x, .int (u 14), .int (u 15)]))]) (ws' := [((a 0), .inr (7, [.int 1, .ref (a 1), .int (u 2), .ref (a 3), .ref (a 4), .ref (a 5), .ref (a 6), .int (u 7), .ref (a 8), .ref (a 9), .int (u 10), .int (u 11), .int (u 12), .long x, .int (u 14), .int (u 15)])), ((a 3), .inl (G.2 1, 121, .inl (flt h b))), ((a 5), .inl (G.2 1, 121, .inl f))]) ⟨hx, hb, hml, hown, hts⟩ (c_refused l G (a 0) (.int (u 0)) (.ref (a 1)) (.int (u 2)) (.ref (a 3)) (.ref (a 4)) (.ref (a 5)) (.ref (a 6)) (.int (u 7)) (.ref (a 8)) (.ref (a 9)) (.int (u 10)) (.int (u 11)) (.int (u 12)) (.long x) (.int (u 14)) (.int (u 15)) 1) (cwV 1 hts gX7_worstShift_X7_refused rfl rfl rfl (by decide +kernel) ⟨Nat.le_of_ble_eq_true rfl, Nat.le_of_ble_eq_true rfl⟩) 7 rfl rfl rfl rfl hl.1 rfl (Nat.le_of_ble_eq_true rfl) dX7_worstShift_18 ⟨Nat.le_of_ble_eq_true rfl, Nat.le_of_ble_eq_true rfl⟩ hK hE hA hM (pm_at 3 [0] [1, 2] rfl rfl rfl (by decide)) ((pm_at 3 [0] [1, 2] rfl rfl rfl (by decide))).symm (fun H locs hM hz => ?_)
  refine z_ifeq (tgt := 26) hx hb dX7_worstShift_21 (by decide) (fun c_2 => absurd c_2 (by decide)) (fun c_2 => ?_)
  refine lv_iconst (v := 0) hx hb dX7_worstShift_24 (by decide) ?_
  exact z_iret hx hb hr hlocks dX7_worstShift_25 hM (Nat.le_of_ble_eq_true rfl) (Nat.le_of_ble_eq_true rfl) rfl

set_option maxHeartbeats 4000000 in
set_option maxRecDepth 100000 in
theorem c_r_worst0 (l : Launch) (G : zC) (a : Nat → Nat) (u : Nat → Int32) (x : Int64) (f : Nat → Int32) (h : Nat → Int32) (b : Nat → Nat → Int32) (P t S : Nat) (hg : zWf h b P t S) (k : Int32) (hc : zI0 k.toInt64 0 2 = true) : zMet l G yX7_worstShift wsX7_worstShift rmX7_worstShift [.ref (a 0), .int k] ([((a 0), .inr (7, [.int (u 0), .ref (a 1), .int (u 2), .ref (a 3), .ref (a 4), .ref (a 5), .ref (a 6), .int (u 7), .ref (a 8), .ref (a 9), .int (u 10), .int (u 11), .int (u 12), .long x, .int (u 14), .int (u 15)])), ((a 3), .inl (G.2 1, 121, .inl (flt h b))), ((a 5), .inl (G.2 1, 121, .inl f))]) (some (.int (if (zFs h b S P (u 11) (u 12) f).1 = -1 then -1 else if k = 0 then (zFs h b S P (u 11) (u 12) f).1 else if k = 1 then (zFs h b S P (u 11) (u 12) f).2.1 else (zFs h b S P (u 11) (u 12) f).2.2.1))) ([((a 0), .inr (7, [.int 0, .ref (a 1), .int (u 2), .ref (a 3), .ref (a 4), .ref (a 5), .ref (a 6), .int (u 7), .ref (a 8), .ref (a 9), .int ((zFs h b S P (u 11) (u 12) f).1), .int ((zFs h b S P (u 11) (u 12) f).2.1), .int ((zFs h b S P (u 11) (u 12) f).2.2.1), .long x, .int (u 14), .int (u 15)])), ((a 3), .inl (G.2 1, 121, .inl (flt h b))), ((a 5), .inl (G.2 1, 121, .inl ((zFs h b S P (u 11) (u 12) f).2.2.2.2)))]) := by
  refine zMet_of (cc := cX7_worstShift) (maxL := 2) (ret := (some .int)) (by decide) rfl (Nat.le_of_ble_eq_true rfl) ?_
  intro p e s m below meth c A ls hx hb hr hml hown hts hK hA hE hlocks hin hM hl
  have hown : s.vm.findClass RX7 = some m.cls := hown
  have hM : zM G A s s.heap [] ([((a 0), .inr (7, [.int (u 0), .ref (a 1), .int (u 2), .ref (a 3), .ref (a 4), .ref (a 5), .ref (a 6), .int (u 7), .ref (a 8), .ref (a 9), .int (u 10), .int (u 11), .int (u 12), .long x, .int (u 14), .int (u 15)])), ((a 3), .inl (G.2 1, 121, .inl (flt h b))), ((a 5), .inl (G.2 1, 121, .inl f))]) := hM
  have hl : lv_has ls 2 [(0, .ref (a 0)), (1, .int k)] := hl
  refine lv_aload_n hx hb dX7_worstShift_0 rfl (lv_at hl 0 rfl) ?_
  refine lv_iload_n hx hb dX7_worstShift_1 rfl (lv_at hl 1 rfl) ?_
  refine lv_i2l (v := k.toInt64) hx hb dX7_worstShift_2 rfl ?_
  refine lv_lconst (v := 0) hx hb dX7_worstShift_3 (by decide) ?_
  refine lv_ldc2 (v := 2) hx hb hown (hts (.constantLong RX7 152 2) (by decide +kernel)) dX7_worstShift_4 ?_
  refine z_callS (As := [.long k.toInt64, .long 0, .long 2]) (rest := [.ref (a 0)]) (wc := []) (wr := [((a 0), .inr (7, [.int (u 0), .ref (a 1), .int (u 2), .ref (a 3), .ref (a 4), .ref (a 5), .ref (a 6), .int (u 7), .ref (a 8), .ref (a 9), .int (u 10), .int (u 11), .int (u 12), .long x, .int (u 14), .int (u 15)])), ((a 3), .inl (G.2 1, 121, .inl (flt h b))), ((a 5), .inl (G.2 1, 121, .inl f))]) (w1 := []) (ws' := [((a 0), .inr (7, [.int (u 0), .ref (a 1), .int (u 2), .ref (a 3), .ref (a 4), .ref (a 5), .ref (a 6), .int (u 7), .ref (a 8), .ref (a 9), .int (u 10), .int (u 11), .int (u 12), .long x, .int (u 14), .int (u 15)])), ((a 3), .inl (G.2 1, 121, .inl (flt h b))), ((a 5), .inl (G.2 1, 121, .inl f))]) ⟨hx, hb, hml, hown, hts⟩ (c_in l G k.toInt64 0 2) (va_cwS 3 hts gX7_worstShift_X7_in rfl rfl rfl (by decide +kernel) ⟨Nat.le_of_ble_eq_true rfl, Nat.le_of_ble_eq_true rfl⟩) rfl hl.1 rfl (Nat.le_of_ble_eq_true rfl) dX7_worstShift_7 ⟨Nat.le_of_ble_eq_true rfl, Nat.le_of_ble_eq_true rfl⟩ hK hE hA hM (List.Perm.refl _) (List.Perm.refl _) (fun H locs hM hz => ?_)
  refine z_ifeq (tgt := 17) hx hb dX7_worstShift_10 (by decide) (fun c_1 => Bool.noConfusion (hc.symm.trans c_1)) (fun c_1 => ?_)
  refine lv_iconst (v := 0) hx hb dX7_worstShift_13 (by decide) ?_
  refine lv_goto (tgt := 18) hx hb dX7_worstShift_14 (by decide) ?_
  refine z_callV (As := [.int 0]) (rest := []) (wc := [((a 0), .inr (7, [.int (u 0), .ref (a 1), .int (u 2), .ref (a 3), .ref (a 4), .ref (a 5), .ref (a 6), .int (u 7), .ref (a 8), .ref (a 9), .int (u 10), .int (u 11), .int (u 12), .long x, .int (u 14), .int (u 15)]))]) (wr := [((a 3), .inl (G.2 1, 121, .inl (flt h b))), ((a 5), .inl (G.2 1, 121, .inl f))]) (w1 := [((a 0), .inr (7, [.int 0, .ref (a 1), .int (u 2), .ref (a 3), .ref (a 4), .ref (a 5), .ref (a 6), .int (u 7), .ref (a 8), .ref (a 9), .int (u 10), .int (u 11), .int (u 12), .long x, .int (u 14), .int (u 15)]))]) (ws' := [((a 0), .inr (7, [.int 0, .ref (a 1), .int (u 2), .ref (a 3), .ref (a 4), .ref (a 5), .ref (a 6), .int (u 7), .ref (a 8), .ref (a 9), .int (u 10), .int (u 11), .int (u 12), .long x, .int (u 14), .int (u 15)])), ((a 3), .inl (G.2 1, 121, .inl (flt h b))), ((a 5), .inl (G.2 1, 121, .inl f))]) ⟨hx, hb, hml, hown, hts⟩ (c_refused l G (a 0) (.int (u 0)) (.ref (a 1)) (.int (u 2)) (.ref (a 3)) (.ref (a 4)) (.ref (a 5)) (.ref (a 6)) (.int (u 7)) (.ref (a 8)) (.ref (a 9)) (.int (u 10)) (.int (u 11)) (.int (u 12)) (.long x) (.int (u 14)) (.int (u 15)) 0) (cwV 1 hts gX7_worstShift_X7_refused rfl rfl rfl (by decide +kernel) ⟨Nat.le_of_ble_eq_true rfl, Nat.le_of_ble_eq_true rfl⟩) 7 rfl rfl rfl rfl hl.1 rfl (Nat.le_of_ble_eq_true rfl) dX7_worstShift_18 ⟨Nat.le_of_ble_eq_true rfl, Nat.le_of_ble_eq_true rfl⟩ hK hE hA hM (pm_at 3 [0] [1, 2] rfl rfl rfl (by decide)) ((pm_at 3 [0] [1, 2] rfl rfl rfl (by decide))).symm (fun H locs hM hz => ?_)
  refine z_ifeq (tgt := 26) hx hb dX7_worstShift_21 (by decide) (fun c_2 => ?_) (fun c_2 => absurd c_2 (by decide))
  refine lv_aload_n hx hb dX7_worstShift_26 rfl (lv_at hl 0 rfl) ?_
  refine lv_aload_n hx hb dX7_worstShift_27 rfl (lv_at hl 0 rfl) ?_
  refine z_get (ci := 7) (v := .ref (a 3)) (C := RX7) (T := TX7) (N := 16) hx hb hts (by decide +kernel) hown hK hM 0 rfl rfl 3 (by decide) (hts (.fieldLink RX7 13 "ShiftIslesModel" "now" "[I") (by decide +kernel)) (fun _ h9 => h9) rfl dX7_worstShift_28 ?_
  refine z_callV (As := [.ref (a 3)]) (rest := []) (wc := [((a 0), .inr (7, [.int 0, .ref (a 1), .int (u 2), .ref (a 3), .ref (a 4), .ref (a 5), .ref (a 6), .int (u 7), .ref (a 8), .ref (a 9), .int (u 10), .int (u 11), .int (u 12), .long x, .int (u 14), .int (u 15)])), ((a 3), .inl (G.2 1, 121, .inl (flt h b))), ((a 5), .inl (G.2 1, 121, .inl f))]) (wr := []) (w1 := [((a 0), .inr (7, [.int 0, .ref (a 1), .int (u 2), .ref (a 3), .ref (a 4), .ref (a 5), .ref (a 6), .int (u 7), .ref (a 8), .ref (a 9), .int ((zFs h b S P (u 11) (u 12) f).1), .int ((zFs h b S P (u 11) (u 12) f).2.1), .int ((zFs h b S P (u 11) (u 12) f).2.2.1), .long x, .int (u 14), .int (u 15)])), ((a 3), .inl (G.2 1, 121, .inl (flt h b))), ((a 5), .inl (G.2 1, 121, .inl ((zFs h b S P (u 11) (u 12) f).2.2.2.2)))]) (ws' := [((a 0), .inr (7, [.int 0, .ref (a 1), .int (u 2), .ref (a 3), .ref (a 4), .ref (a 5), .ref (a 6), .int (u 7), .ref (a 8), .ref (a 9), .int ((zFs h b S P (u 11) (u 12) f).1), .int ((zFs h b S P (u 11) (u 12) f).2.1), .int ((zFs h b S P (u 11) (u 12) f).2.2.1), .long x, .int (u 14), .int (u 15)])), ((a 3), .inl (G.2 1, 121, .inl (flt h b))), ((a 5), .inl (G.2 1, 121, .inl ((zFs h b S P (u 11) (u 12) f).2.2.2.2)))]) ⟨hx, hb, hml, hown, hts⟩ (c_findShift l G a (upd u 0 0) x f (a 3) h b P t S hg) (cwV 1 hts gX7_worstShift_X7_findShift rfl rfl rfl (by decide +kernel) ⟨Nat.le_of_ble_eq_true rfl, Nat.le_of_ble_eq_true rfl⟩) 7 rfl rfl rfl rfl hl.1 rfl (Nat.le_of_ble_eq_true rfl) dX7_worstShift_31 ⟨Nat.le_of_ble_eq_true rfl, Nat.le_of_ble_eq_true rfl⟩ hK hE hA hM (pm_at 3 [0, 1, 2] [] rfl rfl rfl (by decide)) ((pm_at 3 [0, 1, 2] [] rfl rfl rfl (by decide))).symm (fun H locs hM hz => ?_)
  refine lv_aload_n hx hb dX7_worstShift_34 rfl (lv_at hl 0 rfl) ?_
  refine z_get (ci := 7) (v := .int ((zFs h b S P (u 11) (u 12) f).1)) (C := RX7) (T := TX7) (N := 16) hx hb hts (by decide +kernel) hown hK hM 0 rfl rfl 10 (by decide) (hts (.fieldLink RX7 124 "ShiftIslesModel" "toPlayer" "I") (by decide +kernel)) (fun _ h9 => h9) rfl dX7_worstShift_35 ?_
  refine lv_iconst (v := (-1)) hx hb dX7_worstShift_38 (by decide) ?_
  refine lv_icmp_ne (tgt := 46) hx hb dX7_worstShift_39 (by decide) (fun c_1 => ?_) (fun c_1 => ?_)
  · skip
    refine lv_iload_n hx hb dX7_worstShift_46 rfl (lv_at hl 1 rfl) ?_
    refine lv_if_ne (tgt := 57) hx hb dX7_worstShift_47 (by decide) (fun c_2 => ?_) (fun c_2 => ?_)
    · skip
      refine lv_iload_n hx hb dX7_worstShift_57 rfl (lv_at hl 1 rfl) ?_
      refine lv_iconst (v := 1) hx hb dX7_worstShift_58 (by decide) ?_
      refine lv_icmp_ne (tgt := 69) hx hb dX7_worstShift_59 (by decide) (fun c_3 => ?_) (fun c_3 => ?_)
      · skip
        refine lv_aload_n hx hb dX7_worstShift_69 rfl (lv_at hl 0 rfl) ?_
        refine z_get (ci := 7) (v := .int ((zFs h b S P (u 11) (u 12) f).2.2.1)) (C := RX7) (T := TX7) (N := 16) hx hb hts (by decide +kernel) hown hK hM 0 rfl rfl 12 (by decide) (hts (.fieldLink RX7 137 "ShiftIslesModel" "toDirection" "I") (by decide +kernel)) (fun _ h9 => h9) rfl dX7_worstShift_70 ?_
        exact z_iret hx hb hr hlocks dX7_worstShift_73 hM (Nat.le_of_ble_eq_true rfl) (Nat.le_of_ble_eq_true rfl) (by rw [if_neg c_1, if_neg c_2, if_neg c_3])
      · skip
        refine lv_aload_n hx hb dX7_worstShift_62 rfl (lv_at hl 0 rfl) ?_
        refine z_get (ci := 7) (v := .int ((zFs h b S P (u 11) (u 12) f).2.1)) (C := RX7) (T := TX7) (N := 16) hx hb hts (by decide +kernel) hown hK hM 0 rfl rfl 11 (by decide) (hts (.fieldLink RX7 134 "ShiftIslesModel" "toLine" "I") (by decide +kernel)) (fun _ h9 => h9) rfl dX7_worstShift_63 ?_
        refine lv_goto (tgt := 73) hx hb dX7_worstShift_66 (by decide) ?_
        exact z_iret hx hb hr hlocks dX7_worstShift_73 hM (Nat.le_of_ble_eq_true rfl) (Nat.le_of_ble_eq_true rfl) (by rw [if_neg c_1, if_neg c_2, if_pos c_3])
    · skip
      refine lv_aload_n hx hb dX7_worstShift_50 rfl (lv_at hl 0 rfl) ?_
      refine z_get (ci := 7) (v := .int ((zFs h b S P (u 11) (u 12) f).1)) (C := RX7) (T := TX7) (N := 16) hx hb hts (by decide +kernel) hown hK hM 0 rfl rfl 10 (by decide) (hts (.fieldLink RX7 124 "ShiftIslesModel" "toPlayer" "I") (by decide +kernel)) (fun _ h9 => h9) rfl dX7_worstShift_51 ?_
      refine lv_goto (tgt := 73) hx hb dX7_worstShift_54 (by decide) ?_
      exact z_iret hx hb hr hlocks dX7_worstShift_73 hM (Nat.le_of_ble_eq_true rfl) (Nat.le_of_ble_eq_true rfl) (by rw [if_neg c_1, if_pos c_2])
  · skip
    refine lv_iconst (v := (-1)) hx hb dX7_worstShift_42 (by decide) ?_
    refine lv_goto (tgt := 73) hx hb dX7_worstShift_43 (by decide) ?_
    exact z_iret hx hb hr hlocks dX7_worstShift_73 hM (Nat.le_of_ble_eq_true rfl) (Nat.le_of_ble_eq_true rfl) (by rw [if_pos c_1])
