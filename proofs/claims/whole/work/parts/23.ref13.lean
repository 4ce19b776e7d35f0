/-! REFERENCE, tenth part: asking -/
theorem zRe_s (a d : Int32) : ∀ (k : Nat) (x : Int32), zWi (zRe a d k x) a d = zRe a d (k + 1) x
  | 0, _ => rfl
  | k + 1, x => by
    rw [zRe, zRe_s a d k, ← zRe]
theorem zRch_s (f : Nat → Int32) (k : Nat) : zWi (zRch f k) (zAcr f) (zDow f) = zRch f (k + 1) := by
  rw [zRch, zRch, zRe_s]
set_option maxHeartbeats 4000000 in
set_option maxRecDepth 100000 in
theorem c_r_tile1 (l : Launch) (G : zC) (q : Nat) (v0 v1 v2 v4 v5 v6 v7 v8 v9 v10 v11 v12 v13 v14 v15 : Value) (w3 : Nat) (h : Nat → Int32) (b : Nat → Nat → Int32) (P : Nat) (hP : h 0 = nI P) (hP4 : P ≤ 4) (i n d : Int32) (hc : (zHp h i && zPl n) = false) : zMet l G yX7_tile wsX7_tile rmX7_tile [.ref q, .int i, .int n, .int d] ([(q, .inr (7, [v0, v1, v2, .ref w3, v4, v5, v6, v7, v8, v9, v10, v11, v12, v13, v14, v15])), (w3, .inl (G.2 1, 121, .inl (flt h b)))]) (some (.int 0)) ([(q, .inr (7, [.int 1, v1, v2, .ref w3, v4, v5, v6, v7, v8, v9, v10, v11, v12, v13, v14, v15])), (w3, .inl (G.2 1, 121, .inl (flt h b)))]) := by
  refine zMet_of (cc := cX7_tile) (maxL := 4) (ret := (some .int)) (by decide) rfl (Nat.le_of_ble_eq_true rfl) ?_
  intro p e s m below meth c A ls hx hb hr hml hown hts hK hA hE hlocks hin hM hl
  have hown : s.vm.findClass RX7 = some m.cls := hown
  have hM : zM G A s s.heap [] ([(q, .inr (7, [v0, v1, v2, .ref w3, v4, v5, v6, v7, v8, v9, v10, v11, v12, v13, v14, v15])), (w3, .inl (G.2 1, 121, .inl (flt h b)))]) := hM
  have hl : lv_has ls 4 [(0, .ref q), (1, .int i), (2, .int n), (3, .int d)] := hl
  refine lv_aload_n hx hb dX7_tile_0 rfl (lv_at hl 0 rfl) ?_
  refine lv_aload_n hx hb dX7_tile_1 rfl (lv_at hl 0 rfl) ?_
  refine z_get (ci := 7) (v := .ref w3) (C := RX7) (T := TX7) (N := 16) hx hb hts (by decide +kernel) hown hK hM 0 rfl rfl 3 (by decide) (hts (.fieldLink RX7 13 "ShiftIslesModel" "now" "[I") (by decide +kernel)) (fun _ h9 => h9) rfl dX7_tile_2 ?_
  refine lv_iload_n hx hb dX7_tile_5 rfl (lv_at hl 1 rfl) ?_
  refine z_callS (As := [.ref w3, .int i]) (rest := [.ref q]) (wc := rfW G w3 h b) (wr := [(q, .inr (7, [v0, v1, v2, .ref w3, v4, v5, v6, v7, v8, v9, v10, v11, v12, v13, v14, v15]))]) (w1 := rfW G w3 h b) (ws' := [(q, .inr (7, [v0, v1, v2, .ref w3, v4, v5, v6, v7, v8, v9, v10, v11, v12, v13, v14, v15])), (w3, .inl (G.2 1, 121, .inl (flt h b)))]) ⟨hx, hb, hml, hown, hts⟩ (c_r_isPlayer l G w3 h b P hP hP4 i ) (va_cwS 2 hts gX7_tile_X7_isPlayer rfl rfl rfl (by decide +kernel) ⟨Nat.le_of_ble_eq_true rfl, Nat.le_of_ble_eq_true rfl⟩) rfl hl.1 rfl (Nat.le_of_ble_eq_true rfl) dX7_tile_6 ⟨Nat.le_of_ble_eq_true rfl, Nat.le_of_ble_eq_true rfl⟩ hK hE hA hM (pm_at 2 [1] [0] rfl rfl rfl (by decide)) ((pm_at 2 [1] [0] rfl rfl rfl (by decide))).symm (fun H locs hM hz => ?_)
  refine z_ifeq (tgt := 19) hx hb dX7_tile_9 (by decide) (fun c_1 => ?_) (fun c_1 => ?_)
  · skip
    refine lv_iconst (v := 1) hx hb dX7_tile_19 (by decide) ?_
    refine lv_goto (tgt := 40) hx hb dX7_tile_20 (by decide) ?_
    refine z_callV (As := [.int 1]) (rest := []) (wc := [(q, .inr (7, [v0, v1, v2, .ref w3, v4, v5, v6, v7, v8, v9, v10, v11, v12, v13, v14, v15]))]) (wr := [(w3, .inl (G.2 1, 121, .inl (flt h b)))]) (w1 := [(q, .inr (7, [.int 1, v1, v2, .ref w3, v4, v5, v6, v7, v8, v9, v10, v11, v12, v13, v14, v15]))]) (ws' := [(q, .inr (7, [.int 1, v1, v2, .ref w3, v4, v5, v6, v7, v8, v9, v10, v11, v12, v13, v14, v15])), (w3, .inl (G.2 1, 121, .inl (flt h b)))]) ⟨hx, hb, hml, hown, hts⟩ (c_refused l G q v0 v1 v2 (.ref w3) v4 v5 v6 v7 v8 v9 v10 v11 v12 v13 v14 v15 1) (cwV 1 hts gX7_tile_X7_refused rfl rfl rfl (by decide +kernel) ⟨Nat.le_of_ble_eq_true rfl, Nat.le_of_ble_eq_true rfl⟩) 7 rfl rfl rfl rfl hl.1 rfl (Nat.le_of_ble_eq_true rfl) dX7_tile_40 ⟨Nat.le_of_ble_eq_true rfl, Nat.le_of_ble_eq_true rfl⟩ hK hE hA hM (pm_at 2 [0] [1] rfl rfl rfl (by decide)) ((pm_at 2 [0] [1] rfl rfl rfl (by decide))).symm (fun H locs hM hz => ?_)
    refine z_ifeq (tgt := 48) hx hb dX7_tile_43 (by decide) (fun c_1 => absurd c_1 (by decide)) (fun c_1 => ?_)
    refine lv_iconst (v := 0) hx hb dX7_tile_46 (by decide) ?_
    exact z_iret hx hb hr hlocks dX7_tile_47 hM (Nat.le_of_ble_eq_true rfl) (Nat.le_of_ble_eq_true rfl) rfl
  · skip
    refine lv_iload_n hx hb dX7_tile_12 rfl (lv_at hl 2 rfl) ?_
    refine z_callS (As := [.int n]) (rest := [.ref q]) (wc := []) (wr := [(q, .inr (7, [v0, v1, v2, .ref w3, v4, v5, v6, v7, v8, v9, v10, v11, v12, v13, v14, v15])), (w3, .inl (G.2 1, 121, .inl (flt h b)))]) (w1 := []) (ws' := [(q, .inr (7, [v0, v1, v2, .ref w3, v4, v5, v6, v7, v8, v9, v10, v11, v12, v13, v14, v15])), (w3, .inl (G.2 1, 121, .inl (flt h b)))]) ⟨hx, hb, hml, hown, hts⟩ (c_r_isPlace l G n) (va_cwS 1 hts gX7_tile_X7_isPlace rfl rfl rfl (by decide +kernel) ⟨Nat.le_of_ble_eq_true rfl, Nat.le_of_ble_eq_true rfl⟩) rfl hl.1 rfl (Nat.le_of_ble_eq_true rfl) dX7_tile_13 ⟨Nat.le_of_ble_eq_true rfl, Nat.le_of_ble_eq_true rfl⟩ hK hE hA hM (List.Perm.refl _) (List.Perm.refl _) (fun H locs hM hz => ?_)
    refine z_ifne (tgt := 23) hx hb dX7_tile_16 (by decide) (fun c_2 => (by rw [c_1, c_2] at hc; exact Bool.noConfusion hc)) (fun c_2 => ?_)
    refine lv_iconst (v := 1) hx hb dX7_tile_19 (by decide) ?_
    refine lv_goto (tgt := 40) hx hb dX7_tile_20 (by decide) ?_
    refine z_callV (As := [.int 1]) (rest := []) (wc := [(q, .inr (7, [v0, v1, v2, .ref w3, v4, v5, v6, v7, v8, v9, v10, v11, v12, v13, v14, v15]))]) (wr := [(w3, .inl (G.2 1, 121, .inl (flt h b)))]) (w1 := [(q, .inr (7, [.int 1, v1, v2, .ref w3, v4, v5, v6, v7, v8, v9, v10, v11, v12, v13, v14, v15]))]) (ws' := [(q, .inr (7, [.int 1, v1, v2, .ref w3, v4, v5, v6, v7, v8, v9, v10, v11, v12, v13, v14, v15])), (w3, .inl (G.2 1, 121, .inl (flt h b)))]) ⟨hx, hb, hml, hown, hts⟩ (c_refused l G q v0 v1 v2 (.ref w3) v4 v5 v6 v7 v8 v9 v10 v11 v12 v13 v14 v15 1) (cwV 1 hts gX7_tile_X7_refused rfl rfl rfl (by decide +kernel) ⟨Nat.le_of_ble_eq_true rfl, Nat.le_of_ble_eq_true rfl⟩) 7 rfl rfl rfl rfl hl.1 rfl (Nat.le_of_ble_eq_true rfl) dX7_tile_40 ⟨Nat.le_of_ble_eq_true rfl, Nat.le_of_ble_eq_true rfl⟩ hK hE hA hM (pm_at 2 [0] [1] rfl rfl rfl (by decide)) ((pm_at 2 [0] [1] rfl rfl rfl (by decide))).symm (fun H locs hM hz => ?_)
    refine z_ifeq (tgt := 48) hx hb dX7_tile_43 (by decide) (fun c_3 => absurd c_3 (by decide)) (fun c_3 => ?_)
    refine lv_iconst (v := 0) hx hb dX7_tile_46 (by decide) ?_
    exact z_iret hx hb hr hlocks dX7_tile_47 hM (Nat.le_of_ble_eq_true rfl) (Nat.le_of_ble_eq_true rfl) rfl

set_option maxHeartbeats 4000000 in
set_option maxRecDepth 100000 in
theorem c_r_tile2 (l : Launch) (G : zC) (q : Nat) (v0 v1 v2 v4 v5 v6 v7 v8 v9 v10 v11 v12 v13 v14 v15 : Value) (w3 : Nat) (h : Nat → Int32) (b : Nat → Nat → Int32) (P : Nat) (hP : h 0 = nI P) (hP4 : P ≤ 4) (i n d : Int32) (hi : zHp h i = true) (hn : zPl n = true) (hc : zI0 d.toInt64 0 2 = false) : zMet l G yX7_tile wsX7_tile rmX7_tile [.ref q, .int i, .int n, .int d] ([(q, .inr (7, [v0, v1, v2, .ref w3, v4, v5, v6, v7, v8, v9, v10, v11, v12, v13, v14, v15])), (w3, .inl (G.2 1, 121, .inl (flt h b)))]) (some (.int 0)) ([(q, .inr (7, [.int 2, v1, v2, .ref w3, v4, v5, v6, v7, v8, v9, v10, v11, v12, v13, v14, v15])), (w3, .inl (G.2 1, 121, .inl (flt h b)))]) := by
  refine zMet_of (cc := cX7_tile) (maxL := 4) (ret := (some .int)) (by decide) rfl (Nat.le_of_ble_eq_true rfl) ?_
  intro p e s m below meth c A ls hx hb hr hml hown hts hK hA hE hlocks hin hM hl
  have hown : s.vm.findClass RX7 = some m.cls := hown
  have hM : zM G A s s.heap [] ([(q, .inr (7, [v0, v1, v2, .ref w3, v4, v5, v6, v7, v8, v9, v10, v11, v12, v13, v14, v15])), (w3, .inl (G.2 1, 121, .inl (flt h b)))]) := hM
  have hl : lv_has ls 4 [(0, .ref q), (1, .int i), (2, .int n), (3, .int d)] := hl
  refine lv_aload_n hx hb dX7_tile_0 rfl (lv_at hl 0 rfl) ?_
  refine lv_aload_n hx hb dX7_tile_1 rfl (lv_at hl 0 rfl) ?_
  refine z_get (ci := 7) (v := .ref w3) (C := RX7) (T := TX7) (N := 16) hx hb hts (by decide +kernel) hown hK hM 0 rfl rfl 3 (by decide) (hts (.fieldLink RX7 13 "ShiftIslesModel" "now" "[I") (by decide +kernel)) (fun _ h9 => h9) rfl dX7_tile_2 ?_
  refine lv_iload_n hx hb dX7_tile_5 rfl (lv_at hl 1 rfl) ?_
  refine z_callS (As := [.ref w3, .int i]) (rest := [.ref q]) (wc := rfW G w3 h b) (wr := [(q, .inr (7, [v0, v1, v2, .ref w3, v4, v5, v6, v7, v8, v9, v10, v11, v12, v13, v14, v15]))]) (w1 := rfW G w3 h b) (ws' := [(q, .inr (7, [v0, v1, v2, .ref w3, v4, v5, v6, v7, v8, v9, v10, v11, v12, v13, v14, v15])), (w3, .inl (G.2 1, 121, .inl (flt h b)))]) ⟨hx, hb, hml, hown, hts⟩ (c_r_isPlayer l G w3 h b P hP hP4 i ) (va_cwS 2 hts gX7_tile_X7_isPlayer rfl rfl rfl (by decide +kernel) ⟨Nat.le_of_ble_eq_true rfl, Nat.le_of_ble_eq_true rfl⟩) rfl hl.1 rfl (Nat.le_of_ble_eq_true rfl) dX7_tile_6 ⟨Nat.le_of_ble_eq_true rfl, Nat.le_of_ble_eq_true rfl⟩ hK hE hA hM (pm_at 2 [1] [0] rfl rfl rfl (by decide)) ((pm_at 2 [1] [0] rfl rfl rfl (by decide))).symm (fun H locs hM hz => ?_)
  refine z_ifeq (tgt := 19) hx hb dX7_tile_9 (by decide) (fun c_1 => Bool.noConfusion (hi.symm.trans c_1)) (fun c_1 => ?_)
  refine lv_iload_n hx hb dX7_tile_12 rfl (lv_at hl 2 rfl) ?_
  refine z_callS (As := [.int n]) (rest := [.ref q]) (wc := []) (wr := [(q, .inr (7, [v0, v1, v2, .ref w3, v4, v5, v6, v7, v8, v9, v10, v11, v12, v13, v14, v15])), (w3, .inl (G.2 1, 121, .inl (flt h b)))]) (w1 := []) (ws' := [(q, .inr (7, [v0, v1, v2, .ref w3, v4, v5, v6, v7, v8, v9, v10, v11, v12, v13, v14, v15])), (w3, .inl (G.2 1, 121, .inl (flt h b)))]) ⟨hx, hb, hml, hown, hts⟩ (c_r_isPlace l G n) (va_cwS 1 hts gX7_tile_X7_isPlace rfl rfl rfl (by decide +kernel) ⟨Nat.le_of_ble_eq_true rfl, Nat.le_of_ble_eq_true rfl⟩) rfl hl.1 rfl (Nat.le_of_ble_eq_true rfl) dX7_tile_13 ⟨Nat.le_of_ble_eq_true rfl, Nat.le_of_ble_eq_true rfl⟩ hK hE hA hM (List.Perm.refl _) (List.Perm.refl _) (fun H locs hM hz => ?_)
  refine z_ifne (tgt := 23) hx hb dX7_tile_16 (by decide) (fun c_2 => ?_) (fun c_2 => Bool.noConfusion (hn.symm.trans c_2))
  refine lv_iload_n hx hb dX7_tile_23 rfl (lv_at hl 3 rfl) ?_
  refine lv_i2l (v := d.toInt64) hx hb dX7_tile_24 rfl ?_
  refine lv_lconst (v := 0) hx hb dX7_tile_25 (by decide) ?_
  refine lv_ldc2 (v := 2) hx hb hown (hts (.constantLong RX7 152 2) (by decide +kernel)) dX7_tile_26 ?_
  refine z_callS (As := [.long d.toInt64, .long 0, .long 2]) (rest := [.ref q]) (wc := []) (wr := [(q, .inr (7, [v0, v1, v2, .ref w3, v4, v5, v6, v7, v8, v9, v10, v11, v12, v13, v14, v15])), (w3, .inl (G.2 1, 121, .inl (flt h b)))]) (w1 := []) (ws' := [(q, .inr (7, [v0, v1, v2, .ref w3, v4, v5, v6, v7, v8, v9, v10, v11, v12, v13, v14, v15])), (w3, .inl (G.2 1, 121, .inl (flt h b)))]) ⟨hx, hb, hml, hown, hts⟩ (c_in l G d.toInt64 0 2) (va_cwS 3 hts gX7_tile_X7_in rfl rfl rfl (by decide +kernel) ⟨Nat.le_of_ble_eq_true rfl, Nat.le_of_ble_eq_true rfl⟩) rfl hl.1 rfl (Nat.le_of_ble_eq_true rfl) dX7_tile_29 ⟨Nat.le_of_ble_eq_true rfl, Nat.le_of_ble_eq_true rfl⟩ hK hE hA hM (List.Perm.refl _) (List.Perm.refl _) (fun H locs hM hz => ?_)
  refine z_ifeq (tgt := 39) hx hb dX7_tile_32 (by decide) (fun c_3 => ?_) (fun c_3 => Bool.noConfusion (c_3.symm.trans hc))
  refine lv_iconst (v := 2) hx hb dX7_tile_39 (by decide) ?_
  refine z_callV (As := [.int 2]) (rest := []) (wc := [(q, .inr (7, [v0, v1, v2, .ref w3, v4, v5, v6, v7, v8, v9, v10, v11, v12, v13, v14, v15]))]) (wr := [(w3, .inl (G.2 1, 121, .inl (flt h b)))]) (w1 := [(q, .inr (7, [.int 2, v1, v2, .ref w3, v4, v5, v6, v7, v8, v9, v10, v11, v12, v13, v14, v15]))]) (ws' := [(q, .inr (7, [.int 2, v1, v2, .ref w3, v4, v5, v6, v7, v8, v9, v10, v11, v12, v13, v14, v15])), (w3, .inl (G.2 1, 121, .inl (flt h b)))]) ⟨hx, hb, hml, hown, hts⟩ (c_refused l G q v0 v1 v2 (.ref w3) v4 v5 v6 v7 v8 v9 v10 v11 v12 v13 v14 v15 2) (cwV 1 hts gX7_tile_X7_refused rfl rfl rfl (by decide +kernel) ⟨Nat.le_of_ble_eq_true rfl, Nat.le_of_ble_eq_true rfl⟩) 7 rfl rfl rfl rfl hl.1 rfl (Nat.le_of_ble_eq_true rfl) dX7_tile_40 ⟨Nat.le_of_ble_eq_true rfl, Nat.le_of_ble_eq_true rfl⟩ hK hE hA hM (pm_at 2 [0] [1] rfl rfl rfl (by decide)) ((pm_at 2 [0] [1] rfl rfl rfl (by decide))).symm (fun H locs hM hz => ?_)
  refine z_ifeq (tgt := 48) hx hb dX7_tile_43 (by decide) (fun c_4 => absurd c_4 (by decide)) (fun c_4 => ?_)
  refine lv_iconst (v := 0) hx hb dX7_tile_46 (by decide) ?_
  exact z_iret hx hb hr hlocks dX7_tile_47 hM (Nat.le_of_ble_eq_true rfl) (Nat.le_of_ble_eq_true rfl) rfl

set_option maxHeartbeats 4000000 in
set_option maxRecDepth 100000 in
theorem c_r_tile0 (l : Launch) (G : zC) (q : Nat) (v0 v1 v2 v4 v5 v6 v7 v8 v9 v10 v11 v12 v13 v14 v15 : Value) (w3 : Nat) (h : Nat → Int32) (b : Nat → Nat → Int32) (P : Nat) (hP : h 0 = nI P) (hP4 : P ≤ 4) (o j : Nat) (d : Int32) (ho : o < P) (hj : j < 9) (hc : zI0 d.toInt64 0 2 = true) : zMet l G yX7_tile wsX7_tile rmX7_tile [.ref q, .int (nI o), .int (nI j), .int d] ([(q, .inr (7, [v0, v1, v2, .ref w3, v4, v5, v6, v7, v8, v9, v10, v11, v12, v13, v14, v15])), (w3, .inl (G.2 1, 121, .inl (flt h b)))]) (some (.int (if d = 0 then b o j else if d = 1 then b o (9 + j) else if b o 24 = nI j then 1 else 0))) ([(q, .inr (7, [.int 0, v1, v2, .ref w3, v4, v5, v6, v7, v8, v9, v10, v11, v12, v13, v14, v15])), (w3, .inl (G.2 1, 121, .inl (flt h b)))]) := by
  refine zMet_of (cc := cX7_tile) (maxL := 4) (ret := (some .int)) (by decide) rfl (Nat.le_of_ble_eq_true rfl) ?_
  intro p e s m below meth c A ls hx hb hr hml hown hts hK hA hE hlocks hin hM hl
  have hown : s.vm.findClass RX7 = some m.cls := hown
  have hM : zM G A s s.heap [] ([(q, .inr (7, [v0, v1, v2, .ref w3, v4, v5, v6, v7, v8, v9, v10, v11, v12, v13, v14, v15])), (w3, .inl (G.2 1, 121, .inl (flt h b)))]) := hM
  have hl : lv_has ls 4 [(0, .ref q), (1, .int (nI o)), (2, .int (nI j)), (3, .int d)] := hl
  have hi := (zHp_lt hP hP4 (k := o) (by omega)).mpr ho
  refine lv_aload_n hx hb dX7_tile_0 rfl (lv_at hl 0 rfl) ?_
  refine lv_aload_n hx hb dX7_tile_1 rfl (lv_at hl 0 rfl) ?_
  refine z_get (ci := 7) (v := .ref w3) (C := RX7) (T := TX7) (N := 16) hx hb hts (by decide +kernel) hown hK hM 0 rfl rfl 3 (by decide) (hts (.fieldLink RX7 13 "ShiftIslesModel" "now" "[I") (by decide +kernel)) (fun _ h9 => h9) rfl dX7_tile_2 ?_
  refine lv_iload_n hx hb dX7_tile_5 rfl (lv_at hl 1 rfl) ?_
  refine z_callS (As := [.ref w3, .int (nI o)]) (rest := [.ref q]) (wc := rfW G w3 h b) (wr := [(q, .inr (7, [v0, v1, v2, .ref w3, v4, v5, v6, v7, v8, v9, v10, v11, v12, v13, v14, v15]))]) (w1 := rfW G w3 h b) (ws' := [(q, .inr (7, [v0, v1, v2, .ref w3, v4, v5, v6, v7, v8, v9, v10, v11, v12, v13, v14, v15])), (w3, .inl (G.2 1, 121, .inl (flt h b)))]) ⟨hx, hb, hml, hown, hts⟩ (c_r_isPlayer l G w3 h b P hP hP4 (nI o) ) (va_cwS 2 hts gX7_tile_X7_isPlayer rfl rfl rfl (by decide +kernel) ⟨Nat.le_of_ble_eq_true rfl, Nat.le_of_ble_eq_true rfl⟩) rfl hl.1 rfl (Nat.le_of_ble_eq_true rfl) dX7_tile_6 ⟨Nat.le_of_ble_eq_true rfl, Nat.le_of_ble_eq_true rfl⟩ hK hE hA hM (pm_at 2 [1] [0] rfl rfl rfl (by decide)) ((pm_at 2 [1] [0] rfl rfl rfl (by decide))).symm (fun H locs hM hz => ?_)
  refine z_ifeq (tgt := 19) hx hb dX7_tile_9 (by decide) (fun c_1 => Bool.noConfusion (hi.symm.trans c_1)) (fun c_1 => ?_)
  refine lv_iload_n hx hb dX7_tile_12 rfl (lv_at hl 2 rfl) ?_
  refine z_callS (As := [.int (nI j)]) (rest := [.ref q]) (wc := []) (wr := [(q, .inr (7, [v0, v1, v2, .ref w3, v4, v5, v6, v7, v8, v9, v10, v11, v12, v13, v14, v15])), (w3, .inl (G.2 1, 121, .inl (flt h b)))]) (w1 := []) (ws' := [(q, .inr (7, [v0, v1, v2, .ref w3, v4, v5, v6, v7, v8, v9, v10, v11, v12, v13, v14, v15])), (w3, .inl (G.2 1, 121, .inl (flt h b)))]) ⟨hx, hb, hml, hown, hts⟩ (c_r_isPlace l G (nI j)) (va_cwS 1 hts gX7_tile_X7_isPlace rfl rfl rfl (by decide +kernel) ⟨Nat.le_of_ble_eq_true rfl, Nat.le_of_ble_eq_true rfl⟩) rfl hl.1 rfl (Nat.le_of_ble_eq_true rfl) dX7_tile_13 ⟨Nat.le_of_ble_eq_true rfl, Nat.le_of_ble_eq_true rfl⟩ hK hE hA hM (List.Perm.refl _) (List.Perm.refl _) (fun H locs hM hz => ?_)
  refine z_ifne (tgt := 23) hx hb dX7_tile_16 (by decide) (fun c_2 => ?_) (fun c_2 => Bool.noConfusion ((zPl_nI hj).symm.trans c_2))
  refine lv_iload_n hx hb dX7_tile_23 rfl (lv_at hl 3 rfl) ?_
  refine lv_i2l (v := d.toInt64) hx hb dX7_tile_24 rfl ?_
  refine lv_lconst (v := 0) hx hb dX7_tile_25 (by decide) ?_
  refine lv_ldc2 (v := 2) hx hb hown (hts (.constantLong RX7 152 2) (by decide +kernel)) dX7_tile_26 ?_
  refine z_callS (As := [.long d.toInt64, .long 0, .long 2]) (rest := [.ref q]) (wc := []) (wr := [(q, .inr (7, [v0, v1, v2, .ref w3, v4, v5, v6, v7, v8, v9, v10, v11, v12, v13, v14, v15])), (w3, .inl (G.2 1, 121, .inl (flt h b)))]) (w1 := []) (ws' := [(q, .inr (7, [v0, v1, v2, .ref w3, v4, v5, v6, v7, v8, v9, v10, v11, v12, v13, v14, v15])), (w3, .inl (G.2 1, 121, .inl (flt h b)))]) ⟨hx, hb, hml, hown, hts⟩ (c_in l G d.toInt64 0 2) (va_cwS 3 hts gX7_tile_X7_in rfl rfl rfl (by decide +kernel) ⟨Nat.le_of_ble_eq_true rfl, Nat.le_of_ble_eq_true rfl⟩) rfl hl.1 rfl (Nat.le_of_ble_eq_true rfl) dX7_tile_29 ⟨Nat.le_of_ble_eq_true rfl, Nat.le_of_ble_eq_true rfl⟩ hK hE hA hM (List.Perm.refl _) (List.Perm.refl _) (fun H locs hM hz => ?_)
  refine z_ifeq (tgt := 39) hx hb dX7_tile_32 (by decide) (fun c_3 => Bool.noConfusion (hc.symm.trans c_3)) (fun c_3 => ?_)
  refine lv_iconst (v := 0) hx hb dX7_tile_35 (by decide) ?_
  refine lv_goto (tgt := 40) hx hb dX7_tile_36 (by decide) ?_
  refine z_callV (As := [.int 0]) (rest := []) (wc := [(q, .inr (7, [v0, v1, v2, .ref w3, v4, v5, v6, v7, v8, v9, v10, v11, v12, v13, v14, v15]))]) (wr := [(w3, .inl (G.2 1, 121, .inl (flt h b)))]) (w1 := [(q, .inr (7, [.int 0, v1, v2, .ref w3, v4, v5, v6, v7, v8, v9, v10, v11, v12, v13, v14, v15]))]) (ws' := [(q, .inr (7, [.int 0, v1, v2, .ref w3, v4, v5, v6, v7, v8, v9, v10, v11, v12, v13, v14, v15])), (w3, .inl (G.2 1, 121, .inl (flt h b)))]) ⟨hx, hb, hml, hown, hts⟩ (c_refused l G q v0 v1 v2 (.ref w3) v4 v5 v6 v7 v8 v9 v10 v11 v12 v13 v14 v15 0) (cwV 1 hts gX7_tile_X7_refused rfl rfl rfl (by decide +kernel) ⟨Nat.le_of_ble_eq_true rfl, Nat.le_of_ble_eq_true rfl⟩) 7 rfl rfl rfl rfl hl.1 rfl (Nat.le_of_ble_eq_true rfl) dX7_tile_40 ⟨Nat.le_of_ble_eq_true rfl, Nat.le_of_ble_eq_true rfl⟩ hK hE hA hM (pm_at 2 [0] [1] rfl rfl rfl (by decide)) ((pm_at 2 [0] [1] rfl rfl rfl (by decide))).symm (fun H locs hM hz => ?_)
  refine z_ifeq (tgt := 48) hx hb dX7_tile_43 (by decide) (fun c_4 => ?_) (fun c_4 => absurd c_4 (by decide))
  refine lv_iload_n hx hb dX7_tile_48 rfl (lv_at hl 3 rfl) ?_
  refine lv_if_ne (tgt := 68) hx hb dX7_tile_49 (by decide) (fun c_w => ?_) (fun c_w => ?_)
  · skip
    refine lv_iload_n hx hb dX7_tile_68 rfl (lv_at hl 3 rfl) ?_
    refine lv_iconst (v := 1) hx hb dX7_tile_69 (by decide) ?_
    refine lv_icmp_ne (tgt := 90) hx hb dX7_tile_70 (by decide) (fun c_v => ?_) (fun c_v => ?_)
    · skip
      refine lv_aload_n hx hb dX7_tile_90 rfl (lv_at hl 0 rfl) ?_
      refine z_get (ci := 7) (v := .ref w3) (C := RX7) (T := TX7) (N := 16) hx hb hts (by decide +kernel) hown hK hM 0 rfl rfl 3 (by decide) (hts (.fieldLink RX7 13 "ShiftIslesModel" "now" "[I") (by decide +kernel)) (fun _ h9 => h9) rfl dX7_tile_91 ?_
      refine lv_iload_n hx hb dX7_tile_94 rfl (lv_at hl 1 rfl) ?_
      refine z_callS (As := [.int (nI o)]) (rest := [.ref w3]) (wc := []) (wr := [(q, .inr (7, [.int 0, v1, v2, .ref w3, v4, v5, v6, v7, v8, v9, v10, v11, v12, v13, v14, v15])), (w3, .inl (G.2 1, 121, .inl (flt h b)))]) (w1 := []) (ws' := [(q, .inr (7, [.int 0, v1, v2, .ref w3, v4, v5, v6, v7, v8, v9, v10, v11, v12, v13, v14, v15])), (w3, .inl (G.2 1, 121, .inl (flt h b)))]) ⟨hx, hb, hml, hown, hts⟩ (c_at l G o (by omega)) (va_cwS 1 hts gX7_tile_X7_at rfl rfl rfl (by decide +kernel) ⟨Nat.le_of_ble_eq_true rfl, Nat.le_of_ble_eq_true rfl⟩) rfl hl.1 rfl (Nat.le_of_ble_eq_true rfl) dX7_tile_95 ⟨Nat.le_of_ble_eq_true rfl, Nat.le_of_ble_eq_true rfl⟩ hK hE hA hM (List.Perm.refl _) (List.Perm.refl _) (fun H locs hM hz => ?_)
      refine lv_bipush (v := 24) hx hb dX7_tile_98 (by decide) ?_
      refine lv_iadd hx hb dX7_tile_100 ?_
      refine z_topi (y := nI ((9 + (28 * o)) + 24)) (nI_add (9 + (28 * o)) 24) ?_
      refine z_iald hx hb hK hM 1 rfl (v := b o 24) (vp_in_nI (by omega) (by decide)) (by rw [nI_clamp (by omega)]; exact flt_b o 24 (by omega) (by omega)) dX7_tile_101 ?_
      refine lv_iload_n hx hb dX7_tile_102 rfl (lv_at hl 2 rfl) ?_
      refine lv_icmp_ne (tgt := 110) hx hb dX7_tile_103 (by decide) (fun c_s => ?_) (fun c_s => ?_)
      · skip
        refine lv_iconst (v := 0) hx hb dX7_tile_110 (by decide) ?_
        exact z_iret hx hb hr hlocks dX7_tile_111 hM (Nat.le_of_ble_eq_true rfl) (Nat.le_of_ble_eq_true rfl) (by rw [if_neg c_w, if_neg c_v, if_neg c_s])
      · skip
        refine lv_iconst (v := 1) hx hb dX7_tile_106 (by decide) ?_
        refine lv_goto (tgt := 111) hx hb dX7_tile_107 (by decide) ?_
        exact z_iret hx hb hr hlocks dX7_tile_111 hM (Nat.le_of_ble_eq_true rfl) (Nat.le_of_ble_eq_true rfl) (by rw [if_neg c_w, if_neg c_v, if_pos c_s])
    · skip
      refine lv_aload_n hx hb dX7_tile_73 rfl (lv_at hl 0 rfl) ?_
      refine z_get (ci := 7) (v := .ref w3) (C := RX7) (T := TX7) (N := 16) hx hb hts (by decide +kernel) hown hK hM 0 rfl rfl 3 (by decide) (hts (.fieldLink RX7 13 "ShiftIslesModel" "now" "[I") (by decide +kernel)) (fun _ h9 => h9) rfl dX7_tile_74 ?_
      refine lv_iload_n hx hb dX7_tile_77 rfl (lv_at hl 1 rfl) ?_
      refine z_callS (As := [.int (nI o)]) (rest := [.ref w3]) (wc := []) (wr := [(q, .inr (7, [.int 0, v1, v2, .ref w3, v4, v5, v6, v7, v8, v9, v10, v11, v12, v13, v14, v15])), (w3, .inl (G.2 1, 121, .inl (flt h b)))]) (w1 := []) (ws' := [(q, .inr (7, [.int 0, v1, v2, .ref w3, v4, v5, v6, v7, v8, v9, v10, v11, v12, v13, v14, v15])), (w3, .inl (G.2 1, 121, .inl (flt h b)))]) ⟨hx, hb, hml, hown, hts⟩ (c_at l G o (by omega)) (va_cwS 1 hts gX7_tile_X7_at rfl rfl rfl (by decide +kernel) ⟨Nat.le_of_ble_eq_true rfl, Nat.le_of_ble_eq_true rfl⟩) rfl hl.1 rfl (Nat.le_of_ble_eq_true rfl) dX7_tile_78 ⟨Nat.le_of_ble_eq_true rfl, Nat.le_of_ble_eq_true rfl⟩ hK hE hA hM (List.Perm.refl _) (List.Perm.refl _) (fun H locs hM hz => ?_)
      refine lv_bipush (v := 9) hx hb dX7_tile_81 (by decide) ?_
      refine lv_iadd hx hb dX7_tile_83 ?_
      refine z_topi (y := nI ((9 + (28 * o)) + 9)) (nI_add (9 + (28 * o)) 9) ?_
      refine lv_iload_n hx hb dX7_tile_84 rfl (lv_at hl 2 rfl) ?_
      refine lv_iadd hx hb dX7_tile_85 ?_
      refine z_topi (y := nI (((9 + (28 * o)) + 9) + j)) (nI_add ((9 + (28 * o)) + 9) j) ?_
      refine z_iald hx hb hK hM 1 rfl (v := b o (9 + j)) (vp_in_nI (by omega) (by decide)) (by rw [nI_clamp (by omega)]; exact flt_b o (9 + j) (by omega) (by omega)) dX7_tile_86 ?_
      refine lv_goto (tgt := 111) hx hb dX7_tile_87 (by decide) ?_
      exact z_iret hx hb hr hlocks dX7_tile_111 hM (Nat.le_of_ble_eq_true rfl) (Nat.le_of_ble_eq_true rfl) (by rw [if_neg c_w, if_pos c_v])
  · skip
    refine lv_aload_n hx hb dX7_tile_52 rfl (lv_at hl 0 rfl) ?_
    refine z_get (ci := 7) (v := .ref w3) (C := RX7) (T := TX7) (N := 16) hx hb hts (by decide +kernel) hown hK hM 0 rfl rfl 3 (by decide) (hts (.fieldLink RX7 13 "ShiftIslesModel" "now" "[I") (by decide +kernel)) (fun _ h9 => h9) rfl dX7_tile_53 ?_
    refine lv_iload_n hx hb dX7_tile_56 rfl (lv_at hl 1 rfl) ?_
    refine z_callS (As := [.int (nI o)]) (rest := [.ref w3]) (wc := []) (wr := [(q, .inr (7, [.int 0, v1, v2, .ref w3, v4, v5, v6, v7, v8, v9, v10, v11, v12, v13, v14, v15])), (w3, .inl (G.2 1, 121, .inl (flt h b)))]) (w1 := []) (ws' := [(q, .inr (7, [.int 0, v1, v2, .ref w3, v4, v5, v6, v7, v8, v9, v10, v11, v12, v13, v14, v15])), (w3, .inl (G.2 1, 121, .inl (flt h b)))]) ⟨hx, hb, hml, hown, hts⟩ (c_at l G o (by omega)) (va_cwS 1 hts gX7_tile_X7_at rfl rfl rfl (by decide +kernel) ⟨Nat.le_of_ble_eq_true rfl, Nat.le_of_ble_eq_true rfl⟩) rfl hl.1 rfl (Nat.le_of_ble_eq_true rfl) dX7_tile_57 ⟨Nat.le_of_ble_eq_true rfl, Nat.le_of_ble_eq_true rfl⟩ hK hE hA hM (List.Perm.refl _) (List.Perm.refl _) (fun H locs hM hz => ?_)
    refine lv_iconst (v := 0) hx hb dX7_tile_60 (by decide) ?_
    refine lv_iadd hx hb dX7_tile_61 ?_
    refine z_topi (y := nI ((9 + (28 * o)) + 0)) (nI_add (9 + (28 * o)) 0) ?_
    refine lv_iload_n hx hb dX7_tile_62 rfl (lv_at hl 2 rfl) ?_
    refine lv_iadd hx hb dX7_tile_63 ?_
    refine z_topi (y := nI (((9 + (28 * o)) + 0) + j)) (nI_add ((9 + (28 * o)) + 0) j) ?_
    refine z_iald hx hb hK hM 1 rfl (v := b o j) (vp_in_nI (by omega) (by decide)) (by rw [nI_clamp (by omega)]; exact flt_b o j (by omega) (by omega)) dX7_tile_64 ?_
    refine lv_goto (tgt := 111) hx hb dX7_tile_65 (by decide) ?_
    exact z_iret hx hb hr hlocks dX7_tile_111 hM (Nat.le_of_ble_eq_true rfl) (Nat.le_of_ble_eq_true rfl) (by rw [if_pos c_w])

set_option maxHeartbeats 4000000 in
set_option maxRecDepth 100000 in
theorem c_r_steps1 (l : Launch) (G : zC) (q : Nat) (v0 v1 v2 v4 v5 v6 v7 v8 v9 v10 v11 v12 v13 v14 v15 : Value) (w3 : Nat) (h : Nat → Int32) (b : Nat → Nat → Int32) (P : Nat) (hP : h 0 = nI P) (hP4 : P ≤ 4) (i n : Int32) (hc : (zHp h i && zPl n) = false) : zMet l G yX7_steps wsX7_steps rmX7_steps [.ref q, .int i, .int n] ([(q, .inr (7, [v0, v1, v2, .ref w3, v4, v5, v6, v7, v8, v9, v10, v11, v12, v13, v14, v15])), (w3, .inl (G.2 1, 121, .inl (flt h b)))]) (some (.int 0)) ([(q, .inr (7, [.int 1, v1, v2, .ref w3, v4, v5, v6, v7, v8, v9, v10, v11, v12, v13, v14, v15])), (w3, .inl (G.2 1, 121, .inl (flt h b)))]) := by
  refine zMet_of (cc := cX7_steps) (maxL := 4) (ret := (some .int)) (by decide) rfl (Nat.le_of_ble_eq_true rfl) ?_
  intro p e s m below meth c A ls hx hb hr hml hown hts hK hA hE hlocks hin hM hl
  have hown : s.vm.findClass RX7 = some m.cls := hown
  have hM : zM G A s s.heap [] ([(q, .inr (7, [v0, v1, v2, .ref w3, v4, v5, v6, v7, v8, v9, v10, v11, v12, v13, v14, v15])), (w3, .inl (G.2 1, 121, .inl (flt h b)))]) := hM
  have hl : lv_has ls 4 [(0, .ref q), (1, .int i), (2, .int n)] := hl
  refine lv_aload_n hx hb dX7_steps_0 rfl (lv_at hl 0 rfl) ?_
  refine lv_aload_n hx hb dX7_steps_1 rfl (lv_at hl 0 rfl) ?_
  refine z_get (ci := 7) (v := .ref w3) (C := RX7) (T := TX7) (N := 16) hx hb hts (by decide +kernel) hown hK hM 0 rfl rfl 3 (by decide) (hts (.fieldLink RX7 13 "ShiftIslesModel" "now" "[I") (by decide +kernel)) (fun _ h9 => h9) rfl dX7_steps_2 ?_
  refine lv_iload_n hx hb dX7_steps_5 rfl (lv_at hl 1 rfl) ?_
  refine z_callS (As := [.ref w3, .int i]) (rest := [.ref q]) (wc := rfW G w3 h b) (wr := [(q, .inr (7, [v0, v1, v2, .ref w3, v4, v5, v6, v7, v8, v9, v10, v11, v12, v13, v14, v15]))]) (w1 := rfW G w3 h b) (ws' := [(q, .inr (7, [v0, v1, v2, .ref w3, v4, v5, v6, v7, v8, v9, v10, v11, v12, v13, v14, v15])), (w3, .inl (G.2 1, 121, .inl (flt h b)))]) ⟨hx, hb, hml, hown, hts⟩ (c_r_isPlayer l G w3 h b P hP hP4 i ) (va_cwS 2 hts gX7_steps_X7_isPlayer rfl rfl rfl (by decide +kernel) ⟨Nat.le_of_ble_eq_true rfl, Nat.le_of_ble_eq_true rfl⟩) rfl hl.1 rfl (Nat.le_of_ble_eq_true rfl) dX7_steps_6 ⟨Nat.le_of_ble_eq_true rfl, Nat.le_of_ble_eq_true rfl⟩ hK hE hA hM (pm_at 2 [1] [0] rfl rfl rfl (by decide)) ((pm_at 2 [1] [0] rfl rfl rfl (by decide))).symm (fun H locs hM hz => ?_)
  refine z_ifeq (tgt := 23) hx hb dX7_steps_9 (by decide) (fun c_1 => ?_) (fun c_1 => ?_)
  · skip
    refine lv_iconst (v := 1) hx hb dX7_steps_23 (by decide) ?_
    refine z_callV (As := [.int 1]) (rest := []) (wc := [(q, .inr (7, [v0, v1, v2, .ref w3, v4, v5, v6, v7, v8, v9, v10, v11, v12, v13, v14, v15]))]) (wr := [(w3, .inl (G.2 1, 121, .inl (flt h b)))]) (w1 := [(q, .inr (7, [.int 1, v1, v2, .ref w3, v4, v5, v6, v7, v8, v9, v10, v11, v12, v13, v14, v15]))]) (ws' := [(q, .inr (7, [.int 1, v1, v2, .ref w3, v4, v5, v6, v7, v8, v9, v10, v11, v12, v13, v14, v15])), (w3, .inl (G.2 1, 121, .inl (flt h b)))]) ⟨hx, hb, hml, hown, hts⟩ (c_refused l G q v0 v1 v2 (.ref w3) v4 v5 v6 v7 v8 v9 v10 v11 v12 v13 v14 v15 1) (cwV 1 hts gX7_steps_X7_refused rfl rfl rfl (by decide +kernel) ⟨Nat.le_of_ble_eq_true rfl, Nat.le_of_ble_eq_true rfl⟩) 7 rfl rfl rfl rfl hl.1 rfl (Nat.le_of_ble_eq_true rfl) dX7_steps_24 ⟨Nat.le_of_ble_eq_true rfl, Nat.le_of_ble_eq_true rfl⟩ hK hE hA hM (pm_at 2 [0] [1] rfl rfl rfl (by decide)) ((pm_at 2 [0] [1] rfl rfl rfl (by decide))).symm (fun H locs hM hz => ?_)
    refine z_ifeq (tgt := 32) hx hb dX7_steps_27 (by decide) (fun c_1 => absurd c_1 (by decide)) (fun c_1 => ?_)
    refine lv_iconst (v := 0) hx hb dX7_steps_30 (by decide) ?_
    exact z_iret hx hb hr hlocks dX7_steps_31 hM (Nat.le_of_ble_eq_true rfl) (Nat.le_of_ble_eq_true rfl) rfl
  · skip
    refine lv_iload_n hx hb dX7_steps_12 rfl (lv_at hl 2 rfl) ?_
    refine z_callS (As := [.int n]) (rest := [.ref q]) (wc := []) (wr := [(q, .inr (7, [v0, v1, v2, .ref w3, v4, v5, v6, v7, v8, v9, v10, v11, v12, v13, v14, v15])), (w3, .inl (G.2 1, 121, .inl (flt h b)))]) (w1 := []) (ws' := [(q, .inr (7, [v0, v1, v2, .ref w3, v4, v5, v6, v7, v8, v9, v10, v11, v12, v13, v14, v15])), (w3, .inl (G.2 1, 121, .inl (flt h b)))]) ⟨hx, hb, hml, hown, hts⟩ (c_r_isPlace l G n) (va_cwS 1 hts gX7_steps_X7_isPlace rfl rfl rfl (by decide +kernel) ⟨Nat.le_of_ble_eq_true rfl, Nat.le_of_ble_eq_true rfl⟩) rfl hl.1 rfl (Nat.le_of_ble_eq_true rfl) dX7_steps_13 ⟨Nat.le_of_ble_eq_true rfl, Nat.le_of_ble_eq_true rfl⟩ hK hE hA hM (List.Perm.refl _) (List.Perm.refl _) (fun H locs hM hz => ?_)
    refine z_ifeq (tgt := 23) hx hb dX7_steps_16 (by decide) (fun c_2 => ?_) (fun c_2 => (by rw [c_1, c_2] at hc; exact Bool.noConfusion hc))
    refine lv_iconst (v := 1) hx hb dX7_steps_23 (by decide) ?_
    refine z_callV (As := [.int 1]) (rest := []) (wc := [(q, .inr (7, [v0, v1, v2, .ref w3, v4, v5, v6, v7, v8, v9, v10, v11, v12, v13, v14, v15]))]) (wr := [(w3, .inl (G.2 1, 121, .inl (flt h b)))]) (w1 := [(q, .inr (7, [.int 1, v1, v2, .ref w3, v4, v5, v6, v7, v8, v9, v10, v11, v12, v13, v14, v15]))]) (ws' := [(q, .inr (7, [.int 1, v1, v2, .ref w3, v4, v5, v6, v7, v8, v9, v10, v11, v12, v13, v14, v15])), (w3, .inl (G.2 1, 121, .inl (flt h b)))]) ⟨hx, hb, hml, hown, hts⟩ (c_refused l G q v0 v1 v2 (.ref w3) v4 v5 v6 v7 v8 v9 v10 v11 v12 v13 v14 v15 1) (cwV 1 hts gX7_steps_X7_refused rfl rfl rfl (by decide +kernel) ⟨Nat.le_of_ble_eq_true rfl, Nat.le_of_ble_eq_true rfl⟩) 7 rfl rfl rfl rfl hl.1 rfl (Nat.le_of_ble_eq_true rfl) dX7_steps_24 ⟨Nat.le_of_ble_eq_true rfl, Nat.le_of_ble_eq_true rfl⟩ hK hE hA hM (pm_at 2 [0] [1] rfl rfl rfl (by decide)) ((pm_at 2 [0] [1] rfl rfl rfl (by decide))).symm (fun H locs hM hz => ?_)
    refine z_ifeq (tgt := 32) hx hb dX7_steps_27 (by decide) (fun c_3 => absurd c_3 (by decide)) (fun c_3 => ?_)
    refine lv_iconst (v := 0) hx hb dX7_steps_30 (by decide) ?_
    exact z_iret hx hb hr hlocks dX7_steps_31 hM (Nat.le_of_ble_eq_true rfl) (Nat.le_of_ble_eq_true rfl) rfl

set_option maxHeartbeats 4000000 in
set_option maxRecDepth 100000 in
theorem c_r_steps0 (l : Launch) (G : zC) (q : Nat) (v0 v1 v2 v4 v5 v6 v7 v8 v9 v10 v11 v12 v13 v14 v15 : Value) (w3 : Nat) (h : Nat → Int32) (b : Nat → Nat → Int32) (P : Nat) (hP : h 0 = nI P) (hP4 : P ≤ 4) (o j : Nat) (ho : o < P) (hj : j < 9) (hw : zBw (b o)) : zMet l G yX7_steps wsX7_steps rmX7_steps [.ref q, .int (nI o), .int (nI j)] ([(q, .inr (7, [v0, v1, v2, .ref w3, v4, v5, v6, v7, v8, v9, v10, v11, v12, v13, v14, v15])), (w3, .inl (G.2 1, 121, .inl (flt h b)))]) (some (.int (zSts (b o) (nI j)))) ([(q, .inr (7, [.int 0, v1, v2, .ref w3, v4, v5, v6, v7, v8, v9, v10, v11, v12, v13, v14, v15])), (w3, .inl (G.2 1, 121, .inl (flt h b)))]) := by
  refine zMet_of (cc := cX7_steps) (maxL := 4) (ret := (some .int)) (by decide) rfl (Nat.le_of_ble_eq_true rfl) ?_
  intro p e s m below meth c A ls hx hb hr hml hown hts hK hA hE hlocks hin hM hl
  have hown : s.vm.findClass RX7 = some m.cls := hown
  have hM : zM G A s s.heap [] ([(q, .inr (7, [v0, v1, v2, .ref w3, v4, v5, v6, v7, v8, v9, v10, v11, v12, v13, v14, v15])), (w3, .inl (G.2 1, 121, .inl (flt h b)))]) := hM
  have hl : lv_has ls 4 [(0, .ref q), (1, .int (nI o)), (2, .int (nI j))] := hl
  have hi := (zHp_lt hP hP4 (k := o) (by omega)).mpr ho
  refine lv_aload_n hx hb dX7_steps_0 rfl (lv_at hl 0 rfl) ?_
  refine lv_aload_n hx hb dX7_steps_1 rfl (lv_at hl 0 rfl) ?_
  refine z_get (ci := 7) (v := .ref w3) (C := RX7) (T := TX7) (N := 16) hx hb hts (by decide +kernel) hown hK hM 0 rfl rfl 3 (by decide) (hts (.fieldLink RX7 13 "ShiftIslesModel" "now" "[I") (by decide +kernel)) (fun _ h9 => h9) rfl dX7_steps_2 ?_
  refine lv_iload_n hx hb dX7_steps_5 rfl (lv_at hl 1 rfl) ?_
  refine z_callS (As := [.ref w3, .int (nI o)]) (rest := [.ref q]) (wc := rfW G w3 h b) (wr := [(q, .inr (7, [v0, v1, v2, .ref w3, v4, v5, v6, v7, v8, v9, v10, v11, v12, v13, v14, v15]))]) (w1 := rfW G w3 h b) (ws' := [(q, .inr (7, [v0, v1, v2, .ref w3, v4, v5, v6, v7, v8, v9, v10, v11, v12, v13, v14, v15])), (w3, .inl (G.2 1, 121, .inl (flt h b)))]) ⟨hx, hb, hml, hown, hts⟩ (c_r_isPlayer l G w3 h b P hP hP4 (nI o) ) (va_cwS 2 hts gX7_steps_X7_isPlayer rfl rfl rfl (by decide +kernel) ⟨Nat.le_of_ble_eq_true rfl, Nat.le_of_ble_eq_true rfl⟩) rfl hl.1 rfl (Nat.le_of_ble_eq_true rfl) dX7_steps_6 ⟨Nat.le_of_ble_eq_true rfl, Nat.le_of_ble_eq_true rfl⟩ hK hE hA hM (pm_at 2 [1] [0] rfl rfl rfl (by decide)) ((pm_at 2 [1] [0] rfl rfl rfl (by decide))).symm (fun H locs hM hz => ?_)
  refine z_ifeq (tgt := 23) hx hb dX7_steps_9 (by decide) (fun c_1 => Bool.noConfusion (hi.symm.trans c_1)) (fun c_1 => ?_)
  refine lv_iload_n hx hb dX7_steps_12 rfl (lv_at hl 2 rfl) ?_
  refine z_callS (As := [.int (nI j)]) (rest := [.ref q]) (wc := []) (wr := [(q, .inr (7, [v0, v1, v2, .ref w3, v4, v5, v6, v7, v8, v9, v10, v11, v12, v13, v14, v15])), (w3, .inl (G.2 1, 121, .inl (flt h b)))]) (w1 := []) (ws' := [(q, .inr (7, [v0, v1, v2, .ref w3, v4, v5, v6, v7, v8, v9, v10, v11, v12, v13, v14, v15])), (w3, .inl (G.2 1, 121, .inl (flt h b)))]) ⟨hx, hb, hml, hown, hts⟩ (c_r_isPlace l G (nI j)) (va_cwS 1 hts gX7_steps_X7_isPlace rfl rfl rfl (by decide +kernel) ⟨Nat.le_of_ble_eq_true rfl, Nat.le_of_ble_eq_true rfl⟩) rfl hl.1 rfl (Nat.le_of_ble_eq_true rfl) dX7_steps_13 ⟨Nat.le_of_ble_eq_true rfl, Nat.le_of_ble_eq_true rfl⟩ hK hE hA hM (List.Perm.refl _) (List.Perm.refl _) (fun H locs hM hz => ?_)
  refine z_ifeq (tgt := 23) hx hb dX7_steps_16 (by decide) (fun c_2 => Bool.noConfusion ((zPl_nI hj).symm.trans c_2)) (fun c_2 => ?_)
  refine lv_iconst (v := 0) hx hb dX7_steps_19 (by decide) ?_
  refine lv_goto (tgt := 24) hx hb dX7_steps_20 (by decide) ?_
  refine z_callV (As := [.int 0]) (rest := []) (wc := [(q, .inr (7, [v0, v1, v2, .ref w3, v4, v5, v6, v7, v8, v9, v10, v11, v12, v13, v14, v15]))]) (wr := [(w3, .inl (G.2 1, 121, .inl (flt h b)))]) (w1 := [(q, .inr (7, [.int 0, v1, v2, .ref w3, v4, v5, v6, v7, v8, v9, v10, v11, v12, v13, v14, v15]))]) (ws' := [(q, .inr (7, [.int 0, v1, v2, .ref w3, v4, v5, v6, v7, v8, v9, v10, v11, v12, v13, v14, v15])), (w3, .inl (G.2 1, 121, .inl (flt h b)))]) ⟨hx, hb, hml, hown, hts⟩ (c_refused l G q v0 v1 v2 (.ref w3) v4 v5 v6 v7 v8 v9 v10 v11 v12 v13 v14 v15 0) (cwV 1 hts gX7_steps_X7_refused rfl rfl rfl (by decide +kernel) ⟨Nat.le_of_ble_eq_true rfl, Nat.le_of_ble_eq_true rfl⟩) 7 rfl rfl rfl rfl hl.1 rfl (Nat.le_of_ble_eq_true rfl) dX7_steps_24 ⟨Nat.le_of_ble_eq_true rfl, Nat.le_of_ble_eq_true rfl⟩ hK hE hA hM (pm_at 2 [0] [1] rfl rfl rfl (by decide)) ((pm_at 2 [0] [1] rfl rfl rfl (by decide))).symm (fun H locs hM hz => ?_)
  refine z_ifeq (tgt := 32) hx hb dX7_steps_27 (by decide) (fun c_3 => ?_) (fun c_3 => absurd c_3 (by decide))
  refine lv_iconst (v := nI 0) hx hb dX7_steps_32 (by decide) ?_
  refine lv_istore_n (lv' := [(3, .int (nI 0)), (0, .ref q), (1, .int (nI o)), (2, .int (nI j))]) hx hb dX7_steps_33 rfl hl (by decide) rfl (fun ls hl => ?_)
  have lp34 : ∀ (k : Nat) (i : Nat), (i + k = 9) → (zSts (b o) (nI j) = zSt (zAcr (b o)) (zDow (b o)) (nI j) k i (zRch (b o) i)) → ∀ (H : Heap) (locs : List Loc), zM G A s H locs ([(q, .inr (7, [.int 0, v1, v2, .ref w3, v4, v5, v6, v7, v8, v9, v10, v11, v12, v13, v14, v15])), (w3, .inl (G.2 1, 121, .inl (flt h b)))]) → ∀ ls : Array Slot, lv_has ls 4 [(0, .ref q), (1, .int (nI o)), (2, .int (nI j)), (3, .int (nI i))] → W p l e rmX7_steps s m ([.ref q, .int (nI o), .int (nI j)] : List Value).toArray below meth c H locs 0 0 (zEnd G below ([.ref q, .int (nI o), .int (nI j)] : List Value).toArray s rmX7_steps A (some (.int (zSts (b o) (nI j)))) ([(q, .inr (7, [.int 0, v1, v2, .ref w3, v4, v5, v6, v7, v8, v9, v10, v11, v12, v13, v14, v15])), (w3, .inl (G.2 1, 121, .inl (flt h b)))])) (F0 m 34 ls []) := by
    intro k
    induction k with
    | zero =>
      intro i hik hR H locs hM ls hl
      refine lv_iload_n hx hb dX7_steps_34 rfl (lv_at hl 3 rfl) ?_
      refine lv_bipush (v := 9) hx hb dX7_steps_35 (by decide) ?_
      refine z_topi (y := nI 9) rfl ?_
      refine lv_icmp_ge (tgt := 65) hx hb dX7_steps_37 (by decide) (fun c_4 => ?_) (fun c_4 => absurd (nI_le (by omega) (by omega)) c_4)
      refine lv_iconst (v := (-1)) hx hb dX7_steps_65 (by decide) ?_
      exact z_iret hx hb hr hlocks dX7_steps_66 hM (Nat.le_of_ble_eq_true rfl) (Nat.le_of_ble_eq_true rfl) (by rw [hR]; rfl)
    | succ k ih =>
      intro i hik hR H locs hM ls hl
      refine lv_iload_n hx hb dX7_steps_34 rfl (lv_at hl 3 rfl) ?_
      refine lv_bipush (v := 9) hx hb dX7_steps_35 (by decide) ?_
      refine z_topi (y := nI 9) rfl ?_
      refine lv_icmp_ge (tgt := 65) hx hb dX7_steps_37 (by decide) (fun c_5 => absurd c_5 (nI_ge (by omega) (by omega))) (fun c_5 => ?_)
      refine lv_aload_n hx hb dX7_steps_40 rfl (lv_at hl 0 rfl) ?_
      refine z_get (ci := 7) (v := .ref w3) (C := RX7) (T := TX7) (N := 16) hx hb hts (by decide +kernel) hown hK hM 0 rfl rfl 3 (by decide) (hts (.fieldLink RX7 13 "ShiftIslesModel" "now" "[I") (by decide +kernel)) (fun _ h9 => h9) rfl dX7_steps_41 ?_
      refine lv_iload_n hx hb dX7_steps_44 rfl (lv_at hl 1 rfl) ?_
      refine lv_iload_n hx hb dX7_steps_45 rfl (lv_at hl 3 rfl) ?_
      refine z_callS (As := [.ref w3, .int (nI o), .int (nI i)]) (rest := []) (wc := rfW G w3 h b) (wr := [(q, .inr (7, [.int 0, v1, v2, .ref w3, v4, v5, v6, v7, v8, v9, v10, v11, v12, v13, v14, v15]))]) (w1 := rfW G w3 h b) (ws' := [(q, .inr (7, [.int 0, v1, v2, .ref w3, v4, v5, v6, v7, v8, v9, v10, v11, v12, v13, v14, v15])), (w3, .inl (G.2 1, 121, .inl (flt h b)))]) ⟨hx, hb, hml, hown, hts⟩ (c_r_reach l G w3 h b o i (by omega) (by omega) hw) (va_cwS 3 hts gX7_steps_X7_reach rfl rfl rfl (by decide +kernel) ⟨Nat.le_of_ble_eq_true rfl, Nat.le_of_ble_eq_true rfl⟩) rfl hl.1 rfl (Nat.le_of_ble_eq_true rfl) dX7_steps_46 ⟨Nat.le_of_ble_eq_true rfl, Nat.le_of_ble_eq_true rfl⟩ hK hE hA hM (pm_at 2 [1] [0] rfl rfl rfl (by decide)) ((pm_at 2 [1] [0] rfl rfl rfl (by decide))).symm (fun H locs hM hz => ?_)
      refine lv_iload_n hx hb dX7_steps_49 rfl (lv_at hl 2 rfl) ?_
      refine lv_ishr hx hb dX7_steps_50 ?_
      refine lv_iconst (v := 1) hx hb dX7_steps_51 (by decide) ?_
      refine lv_iand hx hb dX7_steps_52 ?_
      refine lv_iconst (v := 1) hx hb dX7_steps_53 (by decide) ?_
      refine lv_icmp_ne (tgt := 59) hx hb dX7_steps_54 (by decide) (fun c_b => ?_) (fun c_b => ?_)
      · skip
        refine lv_iinc (v := nI (i + 1)) (lv' := [(3, .int (nI (i + 1))), (0, .ref q), (1, .int (nI o)), (2, .int (nI j))]) hx hb dX7_steps_59 hl (k := 3) rfl (nI_1 i) (by decide) rfl (fun ls hl => ?_)
        refine lv_goto (tgt := 34) hx hb dX7_steps_62 (by decide) ?_
        exact ih (i + 1) (by omega) (by rw [hR, zSt, if_neg (by rw [zIn_nI hj, decide_eq_false c_b]; decide), zRch_s]) _ _ hM _ (lv_sub hl [1, 2, 3, 0] rfl)
      · skip
        refine lv_iload_n hx hb dX7_steps_57 rfl (lv_at hl 3 rfl) ?_
        exact z_iret hx hb hr hlocks dX7_steps_58 hM (Nat.le_of_ble_eq_true rfl) (Nat.le_of_ble_eq_true rfl) (by rw [hR, zSt, if_pos (by rw [zIn_nI hj]; exact decide_eq_true c_b)])
  exact lp34 9 0 rfl rfl _ _ hM _ (lv_sub hl [1, 2, 3, 0] rfl)

set_option maxHeartbeats 4000000 in
set_option maxRecDepth 100000 in
theorem c_r_if1 (l : Launch) (G : zC) (q : Nat) (v0 v1 v2 v5 v6 v7 v8 v9 v10 v11 v12 v13 v14 v15 : Value) (w3 w4 : Nat) (F : Nat → Int32) (h : Nat → Int32) (b : Nat → Nat → Int32) (P : Nat) (hP : h 0 = nI P) (hP4 : P ≤ 4) (i n d w : Int32) (hc : (zHp h i && zLi n) = false) : zMet l G yX7_ifShifted wsX7_ifShifted rmX7_ifShifted [.ref q, .int i, .int n, .int d, .int w] ([(q, .inr (7, [v0, v1, v2, .ref w3, .ref w4, v5, v6, v7, v8, v9, v10, v11, v12, v13, v14, v15])), (w3, .inl (G.2 1, 121, .inl (flt h b))), (w4, .inl (G.2 1, 121, .inl F))]) (some (.int 0)) ([(q, .inr (7, [.int 1, v1, v2, .ref w3, .ref w4, v5, v6, v7, v8, v9, v10, v11, v12, v13, v14, v15])), (w3, .inl (G.2 1, 121, .inl (flt h b))), (w4, .inl (G.2 1, 121, .inl F))]) := by
  refine zMet_of (cc := cX7_ifShifted) (maxL := 5) (ret := (some .int)) (by decide) rfl (Nat.le_of_ble_eq_true rfl) ?_
  intro p e s m below meth c A ls hx hb hr hml hown hts hK hA hE hlocks hin hM hl
  have hown : s.vm.findClass RX7 = some m.cls := hown
  have hM : zM G A s s.heap [] ([(q, .inr (7, [v0, v1, v2, .ref w3, .ref w4, v5, v6, v7, v8, v9, v10, v11, v12, v13, v14, v15])), (w3, .inl (G.2 1, 121, .inl (flt h b))), (w4, .inl (G.2 1, 121, .inl F))]) := hM
  have hl : lv_has ls 5 [(0, .ref q), (1, .int i), (2, .int n), (3, .int d), (4, .int w)] := hl
  refine lv_aload_n hx hb dX7_ifShifted_0 rfl (lv_at hl 0 rfl) ?_
  refine lv_aload_n hx hb dX7_ifShifted_1 rfl (lv_at hl 0 rfl) ?_
  refine z_get (ci := 7) (v := .ref w3) (C := RX7) (T := TX7) (N := 16) hx hb hts (by decide +kernel) hown hK hM 0 rfl rfl 3 (by decide) (hts (.fieldLink RX7 13 "ShiftIslesModel" "now" "[I") (by decide +kernel)) (fun _ h9 => h9) rfl dX7_ifShifted_2 ?_
  refine lv_iload_n hx hb dX7_ifShifted_5 rfl (lv_at hl 1 rfl) ?_
  refine z_callS (As := [.ref w3, .int i]) (rest := [.ref q]) (wc := rfW G w3 h b) (wr := [(q, .inr (7, [v0, v1, v2, .ref w3, .ref w4, v5, v6, v7, v8, v9, v10, v11, v12, v13, v14, v15])), (w4, .inl (G.2 1, 121, .inl F))]) (w1 := rfW G w3 h b) (ws' := [(q, .inr (7, [v0, v1, v2, .ref w3, .ref w4, v5, v6, v7, v8, v9, v10, v11, v12, v13, v14, v15])), (w3, .inl (G.2 1, 121, .inl (flt h b))), (w4, .inl (G.2 1, 121, .inl F))]) ⟨hx, hb, hml, hown, hts⟩ (c_r_isPlayer l G w3 h b P hP hP4 i ) (va_cwS 2 hts gX7_ifShifted_X7_isPlayer rfl rfl rfl (by decide +kernel) ⟨Nat.le_of_ble_eq_true rfl, Nat.le_of_ble_eq_true rfl⟩) rfl hl.1 rfl (Nat.le_of_ble_eq_true rfl) dX7_ifShifted_6 ⟨Nat.le_of_ble_eq_true rfl, Nat.le_of_ble_eq_true rfl⟩ hK hE hA hM (pm_at 3 [1] [0, 2] rfl rfl rfl (by decide)) ((pm_at 3 [1] [0, 2] rfl rfl rfl (by decide))).symm (fun H locs hM hz => ?_)
  refine z_ifeq (tgt := 19) hx hb dX7_ifShifted_9 (by decide) (fun c_1 => ?_) (fun c_1 => ?_)
  · skip
    refine lv_iconst (v := 1) hx hb dX7_ifShifted_19 (by decide) ?_
    refine lv_goto (tgt := 49) hx hb dX7_ifShifted_20 (by decide) ?_
    refine z_callV (As := [.int 1]) (rest := []) (wc := [(q, .inr (7, [v0, v1, v2, .ref w3, .ref w4, v5, v6, v7, v8, v9, v10, v11, v12, v13, v14, v15]))]) (wr := [(w3, .inl (G.2 1, 121, .inl (flt h b))), (w4, .inl (G.2 1, 121, .inl F))]) (w1 := [(q, .inr (7, [.int 1, v1, v2, .ref w3, .ref w4, v5, v6, v7, v8, v9, v10, v11, v12, v13, v14, v15]))]) (ws' := [(q, .inr (7, [.int 1, v1, v2, .ref w3, .ref w4, v5, v6, v7, v8, v9, v10, v11, v12, v13, v14, v15])), (w3, .inl (G.2 1, 121, .inl (flt h b))), (w4, .inl (G.2 1, 121, .inl F))]) ⟨hx, hb, hml, hown, hts⟩ (c_refused l G q v0 v1 v2 (.ref w3) (.ref w4) v5 v6 v7 v8 v9 v10 v11 v12 v13 v14 v15 1) (cwV 1 hts gX7_ifShifted_X7_refused rfl rfl rfl (by decide +kernel) ⟨Nat.le_of_ble_eq_true rfl, Nat.le_of_ble_eq_true rfl⟩) 7 rfl rfl rfl rfl hl.1 rfl (Nat.le_of_ble_eq_true rfl) dX7_ifShifted_49 ⟨Nat.le_of_ble_eq_true rfl, Nat.le_of_ble_eq_true rfl⟩ hK hE hA hM (pm_at 3 [0] [1, 2] rfl rfl rfl (by decide)) ((pm_at 3 [0] [1, 2] rfl rfl rfl (by decide))).symm (fun H locs hM hz => ?_)
    refine z_ifeq (tgt := 57) hx hb dX7_ifShifted_52 (by decide) (fun c_1 => absurd c_1 (by decide)) (fun c_1 => ?_)
    refine lv_iconst (v := 0) hx hb dX7_ifShifted_55 (by decide) ?_
    exact z_iret hx hb hr hlocks dX7_ifShifted_56 hM (Nat.le_of_ble_eq_true rfl) (Nat.le_of_ble_eq_true rfl) rfl
  · skip
    refine lv_iload_n hx hb dX7_ifShifted_12 rfl (lv_at hl 2 rfl) ?_
    refine z_callS (As := [.int n]) (rest := [.ref q]) (wc := []) (wr := [(q, .inr (7, [v0, v1, v2, .ref w3, .ref w4, v5, v6, v7, v8, v9, v10, v11, v12, v13, v14, v15])), (w3, .inl (G.2 1, 121, .inl (flt h b))), (w4, .inl (G.2 1, 121, .inl F))]) (w1 := []) (ws' := [(q, .inr (7, [v0, v1, v2, .ref w3, .ref w4, v5, v6, v7, v8, v9, v10, v11, v12, v13, v14, v15])), (w3, .inl (G.2 1, 121, .inl (flt h b))), (w4, .inl (G.2 1, 121, .inl F))]) ⟨hx, hb, hml, hown, hts⟩ (c_r_isLine l G n) (va_cwS 1 hts gX7_ifShifted_X7_isLine rfl rfl rfl (by decide +kernel) ⟨Nat.le_of_ble_eq_true rfl, Nat.le_of_ble_eq_true rfl⟩) rfl hl.1 rfl (Nat.le_of_ble_eq_true rfl) dX7_ifShifted_13 ⟨Nat.le_of_ble_eq_true rfl, Nat.le_of_ble_eq_true rfl⟩ hK hE hA hM (List.Perm.refl _) (List.Perm.refl _) (fun H locs hM hz => ?_)
    refine z_ifne (tgt := 23) hx hb dX7_ifShifted_16 (by decide) (fun c_2 => (by rw [c_1, c_2] at hc; exact Bool.noConfusion hc)) (fun c_2 => ?_)
    refine lv_iconst (v := 1) hx hb dX7_ifShifted_19 (by decide) ?_
    refine lv_goto (tgt := 49) hx hb dX7_ifShifted_20 (by decide) ?_
    refine z_callV (As := [.int 1]) (rest := []) (wc := [(q, .inr (7, [v0, v1, v2, .ref w3, .ref w4, v5, v6, v7, v8, v9, v10, v11, v12, v13, v14, v15]))]) (wr := [(w3, .inl (G.2 1, 121, .inl (flt h b))), (w4, .inl (G.2 1, 121, .inl F))]) (w1 := [(q, .inr (7, [.int 1, v1, v2, .ref w3, .ref w4, v5, v6, v7, v8, v9, v10, v11, v12, v13, v14, v15]))]) (ws' := [(q, .inr (7, [.int 1, v1, v2, .ref w3, .ref w4, v5, v6, v7, v8, v9, v10, v11, v12, v13, v14, v15])), (w3, .inl (G.2 1, 121, .inl (flt h b))), (w4, .inl (G.2 1, 121, .inl F))]) ⟨hx, hb, hml, hown, hts⟩ (c_refused l G q v0 v1 v2 (.ref w3) (.ref w4) v5 v6 v7 v8 v9 v10 v11 v12 v13 v14 v15 1) (cwV 1 hts gX7_ifShifted_X7_refused rfl rfl rfl (by decide +kernel) ⟨Nat.le_of_ble_eq_true rfl, Nat.le_of_ble_eq_true rfl⟩) 7 rfl rfl rfl rfl hl.1 rfl (Nat.le_of_ble_eq_true rfl) dX7_ifShifted_49 ⟨Nat.le_of_ble_eq_true rfl, Nat.le_of_ble_eq_true rfl⟩ hK hE hA hM (pm_at 3 [0] [1, 2] rfl rfl rfl (by decide)) ((pm_at 3 [0] [1, 2] rfl rfl rfl (by decide))).symm (fun H locs hM hz => ?_)
    refine z_ifeq (tgt := 57) hx hb dX7_ifShifted_52 (by decide) (fun c_3 => absurd c_3 (by decide)) (fun c_3 => ?_)
    refine lv_iconst (v := 0) hx hb dX7_ifShifted_55 (by decide) ?_
    exact z_iret hx hb hr hlocks dX7_ifShifted_56 hM (Nat.le_of_ble_eq_true rfl) (Nat.le_of_ble_eq_true rfl) rfl

set_option maxHeartbeats 4000000 in
set_option maxRecDepth 100000 in
theorem c_r_if2 (l : Launch) (G : zC) (q : Nat) (v0 v1 v2 v5 v6 v7 v8 v9 v10 v11 v12 v13 v14 v15 : Value) (w3 w4 : Nat) (F : Nat → Int32) (h : Nat → Int32) (b : Nat → Nat → Int32) (P : Nat) (hP : h 0 = nI P) (hP4 : P ≤ 4) (i n d w : Int32) (hi : zHp h i = true) (hn : zLi n = true) (hc : (zDi d && zI0 w.toInt64 0 1) = false) : zMet l G yX7_ifShifted wsX7_ifShifted rmX7_ifShifted [.ref q, .int i, .int n, .int d, .int w] ([(q, .inr (7, [v0, v1, v2, .ref w3, .ref w4, v5, v6, v7, v8, v9, v10, v11, v12, v13, v14, v15])), (w3, .inl (G.2 1, 121, .inl (flt h b))), (w4, .inl (G.2 1, 121, .inl F))]) (some (.int 0)) ([(q, .inr (7, [.int 2, v1, v2, .ref w3, .ref w4, v5, v6, v7, v8, v9, v10, v11, v12, v13, v14, v15])), (w3, .inl (G.2 1, 121, .inl (flt h b))), (w4, .inl (G.2 1, 121, .inl F))]) := by
  refine zMet_of (cc := cX7_ifShifted) (maxL := 5) (ret := (some .int)) (by decide) rfl (Nat.le_of_ble_eq_true rfl) ?_
  intro p e s m below meth c A ls hx hb hr hml hown hts hK hA hE hlocks hin hM hl
  have hown : s.vm.findClass RX7 = some m.cls := hown
  have hM : zM G A s s.heap [] ([(q, .inr (7, [v0, v1, v2, .ref w3, .ref w4, v5, v6, v7, v8, v9, v10, v11, v12, v13, v14, v15])), (w3, .inl (G.2 1, 121, .inl (flt h b))), (w4, .inl (G.2 1, 121, .inl F))]) := hM
  have hl : lv_has ls 5 [(0, .ref q), (1, .int i), (2, .int n), (3, .int d), (4, .int w)] := hl
  refine lv_aload_n hx hb dX7_ifShifted_0 rfl (lv_at hl 0 rfl) ?_
  refine lv_aload_n hx hb dX7_ifShifted_1 rfl (lv_at hl 0 rfl) ?_
  refine z_get (ci := 7) (v := .ref w3) (C := RX7) (T := TX7) (N := 16) hx hb hts (by decide +kernel) hown hK hM 0 rfl rfl 3 (by decide) (hts (.fieldLink RX7 13 "ShiftIslesModel" "now" "[I") (by decide +kernel)) (fun _ h9 => h9) rfl dX7_ifShifted_2 ?_
  refine lv_iload_n hx hb dX7_ifShifted_5 rfl (lv_at hl 1 rfl) ?_
  refine z_callS (As := [.ref w3, .int i]) (rest := [.ref q]) (wc := rfW G w3 h b) (wr := [(q, .inr (7, [v0, v1, v2, .ref w3, .ref w4, v5, v6, v7, v8, v9, v10, v11, v12, v13, v14, v15])), (w4, .inl (G.2 1, 121, .inl F))]) (w1 := rfW G w3 h b) (ws' := [(q, .inr (7, [v0, v1, v2, .ref w3, .ref w4, v5, v6, v7, v8, v9, v10, v11, v12, v13, v14, v15])), (w3, .inl (G.2 1, 121, .inl (flt h b))), (w4, .inl (G.2 1, 121, .inl F))]) ⟨hx, hb, hml, hown, hts⟩ (c_r_isPlayer l G w3 h b P hP hP4 i ) (va_cwS 2 hts gX7_ifShifted_X7_isPlayer rfl rfl rfl (by decide +kernel) ⟨Nat.le_of_ble_eq_true rfl, Nat.le_of_ble_eq_true rfl⟩) rfl hl.1 rfl (Nat.le_of_ble_eq_true rfl) dX7_ifShifted_6 ⟨Nat.le_of_ble_eq_true rfl, Nat.le_of_ble_eq_true rfl⟩ hK hE hA hM (pm_at 3 [1] [0, 2] rfl rfl rfl (by decide)) ((pm_at 3 [1] [0, 2] rfl rfl rfl (by decide))).symm (fun H locs hM hz => ?_)
  refine z_ifeq (tgt := 19) hx hb dX7_ifShifted_9 (by decide) (fun c_1 => Bool.noConfusion (hi.symm.trans c_1)) (fun c_1 => ?_)
  refine lv_iload_n hx hb dX7_ifShifted_12 rfl (lv_at hl 2 rfl) ?_
  refine z_callS (As := [.int n]) (rest := [.ref q]) (wc := []) (wr := [(q, .inr (7, [v0, v1, v2, .ref w3, .ref w4, v5, v6, v7, v8, v9, v10, v11, v12, v13, v14, v15])), (w3, .inl (G.2 1, 121, .inl (flt h b))), (w4, .inl (G.2 1, 121, .inl F))]) (w1 := []) (ws' := [(q, .inr (7, [v0, v1, v2, .ref w3, .ref w4, v5, v6, v7, v8, v9, v10, v11, v12, v13, v14, v15])), (w3, .inl (G.2 1, 121, .inl (flt h b))), (w4, .inl (G.2 1, 121, .inl F))]) ⟨hx, hb, hml, hown, hts⟩ (c_r_isLine l G n) (va_cwS 1 hts gX7_ifShifted_X7_isLine rfl rfl rfl (by decide +kernel) ⟨Nat.le_of_ble_eq_true rfl, Nat.le_of_ble_eq_true rfl⟩) rfl hl.1 rfl (Nat.le_of_ble_eq_true rfl) dX7_ifShifted_13 ⟨Nat.le_of_ble_eq_true rfl, Nat.le_of_ble_eq_true rfl⟩ hK hE hA hM (List.Perm.refl _) (List.Perm.refl _) (fun H locs hM hz => ?_)
  refine z_ifne (tgt := 23) hx hb dX7_ifShifted_16 (by decide) (fun c_2 => ?_) (fun c_2 => Bool.noConfusion (hn.symm.trans c_2))
  refine lv_iload_n hx hb dX7_ifShifted_23 rfl (lv_at hl 3 rfl) ?_
  refine lv_i2l (v := d.toInt64) hx hb dX7_ifShifted_24 rfl ?_
  refine lv_lconst (v := 0) hx hb dX7_ifShifted_25 (by decide) ?_
  refine lv_lconst (v := 1) hx hb dX7_ifShifted_26 (by decide) ?_
  refine z_callS (As := [.long d.toInt64, .long 0, .long 1]) (rest := [.ref q]) (wc := []) (wr := [(q, .inr (7, [v0, v1, v2, .ref w3, .ref w4, v5, v6, v7, v8, v9, v10, v11, v12, v13, v14, v15])), (w3, .inl (G.2 1, 121, .inl (flt h b))), (w4, .inl (G.2 1, 121, .inl F))]) (w1 := []) (ws' := [(q, .inr (7, [v0, v1, v2, .ref w3, .ref w4, v5, v6, v7, v8, v9, v10, v11, v12, v13, v14, v15])), (w3, .inl (G.2 1, 121, .inl (flt h b))), (w4, .inl (G.2 1, 121, .inl F))]) ⟨hx, hb, hml, hown, hts⟩ (c_in l G d.toInt64 0 1) (va_cwS 3 hts gX7_ifShifted_X7_in rfl rfl rfl (by decide +kernel) ⟨Nat.le_of_ble_eq_true rfl, Nat.le_of_ble_eq_true rfl⟩) rfl hl.1 rfl (Nat.le_of_ble_eq_true rfl) dX7_ifShifted_27 ⟨Nat.le_of_ble_eq_true rfl, Nat.le_of_ble_eq_true rfl⟩ hK hE hA hM (List.Perm.refl _) (List.Perm.refl _) (fun H locs hM hz => ?_)
  refine z_ifeq (tgt := 48) hx hb dX7_ifShifted_30 (by decide) (fun c_1 => ?_) (fun c_1 => ?_)
  · skip
    refine lv_iconst (v := 2) hx hb dX7_ifShifted_48 (by decide) ?_
    refine z_callV (As := [.int 2]) (rest := []) (wc := [(q, .inr (7, [v0, v1, v2, .ref w3, .ref w4, v5, v6, v7, v8, v9, v10, v11, v12, v13, v14, v15]))]) (wr := [(w3, .inl (G.2 1, 121, .inl (flt h b))), (w4, .inl (G.2 1, 121, .inl F))]) (w1 := [(q, .inr (7, [.int 2, v1, v2, .ref w3, .ref w4, v5, v6, v7, v8, v9, v10, v11, v12, v13, v14, v15]))]) (ws' := [(q, .inr (7, [.int 2, v1, v2, .ref w3, .ref w4, v5, v6, v7, v8, v9, v10, v11, v12, v13, v14, v15])), (w3, .inl (G.2 1, 121, .inl (flt h b))), (w4, .inl (G.2 1, 121, .inl F))]) ⟨hx, hb, hml, hown, hts⟩ (c_refused l G q v0 v1 v2 (.ref w3) (.ref w4) v5 v6 v7 v8 v9 v10 v11 v12 v13 v14 v15 2) (cwV 1 hts gX7_ifShifted_X7_refused rfl rfl rfl (by decide +kernel) ⟨Nat.le_of_ble_eq_true rfl, Nat.le_of_ble_eq_true rfl⟩) 7 rfl rfl rfl rfl hl.1 rfl (Nat.le_of_ble_eq_true rfl) dX7_ifShifted_49 ⟨Nat.le_of_ble_eq_true rfl, Nat.le_of_ble_eq_true rfl⟩ hK hE hA hM (pm_at 3 [0] [1, 2] rfl rfl rfl (by decide)) ((pm_at 3 [0] [1, 2] rfl rfl rfl (by decide))).symm (fun H locs hM hz => ?_)
    refine z_ifeq (tgt := 57) hx hb dX7_ifShifted_52 (by decide) (fun c_3 => absurd c_3 (by decide)) (fun c_3 => ?_)
    refine lv_iconst (v := 0) hx hb dX7_ifShifted_55 (by decide) ?_
    exact z_iret hx hb hr hlocks dX7_ifShifted_56 hM (Nat.le_of_ble_eq_true rfl) (Nat.le_of_ble_eq_true rfl) rfl
  · skip
    refine lv_iload hx hb dX7_ifShifted_33 (lv_at hl 4 rfl) ?_
    refine lv_i2l (v := w.toInt64) hx hb dX7_ifShifted_35 rfl ?_
    refine lv_lconst (v := 0) hx hb dX7_ifShifted_36 (by decide) ?_
    refine lv_lconst (v := 1) hx hb dX7_ifShifted_37 (by decide) ?_
    refine z_callS (As := [.long w.toInt64, .long 0, .long 1]) (rest := [.ref q]) (wc := []) (wr := [(q, .inr (7, [v0, v1, v2, .ref w3, .ref w4, v5, v6, v7, v8, v9, v10, v11, v12, v13, v14, v15])), (w3, .inl (G.2 1, 121, .inl (flt h b))), (w4, .inl (G.2 1, 121, .inl F))]) (w1 := []) (ws' := [(q, .inr (7, [v0, v1, v2, .ref w3, .ref w4, v5, v6, v7, v8, v9, v10, v11, v12, v13, v14, v15])), (w3, .inl (G.2 1, 121, .inl (flt h b))), (w4, .inl (G.2 1, 121, .inl F))]) ⟨hx, hb, hml, hown, hts⟩ (c_in l G w.toInt64 0 1) (va_cwS 3 hts gX7_ifShifted_X7_in rfl rfl rfl (by decide +kernel) ⟨Nat.le_of_ble_eq_true rfl, Nat.le_of_ble_eq_true rfl⟩) rfl hl.1 rfl (Nat.le_of_ble_eq_true rfl) dX7_ifShifted_38 ⟨Nat.le_of_ble_eq_true rfl, Nat.le_of_ble_eq_true rfl⟩ hK hE hA hM (List.Perm.refl _) (List.Perm.refl _) (fun H locs hM hz => ?_)
    refine z_ifeq (tgt := 48) hx hb dX7_ifShifted_41 (by decide) (fun c_4 => ?_) (fun c_4 => (by rw [← zI0_di, c_1, c_4] at hc; exact Bool.noConfusion hc))
    refine lv_iconst (v := 2) hx hb dX7_ifShifted_48 (by decide) ?_
    refine z_callV (As := [.int 2]) (rest := []) (wc := [(q, .inr (7, [v0, v1, v2, .ref w3, .ref w4, v5, v6, v7, v8, v9, v10, v11, v12, v13, v14, v15]))]) (wr := [(w3, .inl (G.2 1, 121, .inl (flt h b))), (w4, .inl (G.2 1, 121, .inl F))]) (w1 := [(q, .inr (7, [.int 2, v1, v2, .ref w3, .ref w4, v5, v6, v7, v8, v9, v10, v11, v12, v13, v14, v15]))]) (ws' := [(q, .inr (7, [.int 2, v1, v2, .ref w3, .ref w4, v5, v6, v7, v8, v9, v10, v11, v12, v13, v14, v15])), (w3, .inl (G.2 1, 121, .inl (flt h b))), (w4, .inl (G.2 1, 121, .inl F))]) ⟨hx, hb, hml, hown, hts⟩ (c_refused l G q v0 v1 v2 (.ref w3) (.ref w4) v5 v6 v7 v8 v9 v10 v11 v12 v13 v14 v15 2) (cwV 1 hts gX7_ifShifted_X7_refused rfl rfl rfl (by decide +kernel) ⟨Nat.le_of_ble_eq_true rfl, Nat.le_of_ble_eq_true rfl⟩) 7 rfl rfl rfl rfl hl.1 rfl (Nat.le_of_ble_eq_true rfl) dX7_ifShifted_49 ⟨Nat.le_of_ble_eq_true rfl, Nat.le_of_ble_eq_true rfl⟩ hK hE hA hM (pm_at 3 [0] [1, 2] rfl rfl rfl (by decide)) ((pm_at 3 [0] [1, 2] rfl rfl rfl (by decide))).symm (fun H locs hM hz => ?_)
    refine z_ifeq (tgt := 57) hx hb dX7_ifShifted_52 (by decide) (fun c_5 => absurd c_5 (by decide)) (fun c_5 => ?_)
    refine lv_iconst (v := 0) hx hb dX7_ifShifted_55 (by decide) ?_
    exact z_iret hx hb hr hlocks dX7_ifShifted_56 hM (Nat.le_of_ble_eq_true rfl) (Nat.le_of_ble_eq_true rfl) rfl

set_option maxHeartbeats 4000000 in
set_option maxRecDepth 100000 in
theorem c_r_if0 (l : Launch) (G : zC) (q : Nat) (v0 v1 v2 v5 v6 v7 v8 v9 v10 v11 v12 v13 v14 v15 : Value) (w3 w4 : Nat) (F : Nat → Int32) (h : Nat → Int32) (b : Nat → Nat → Int32) (P t S : Nat) (hg : zWf h b P t S) (o i : Nat) (d w : Int32) (ho : o < P) (hi6 : i < 6) (hd : zDi d = true) (hd2 : d = 0 ∨ d = 1) (hc : zI0 w.toInt64 0 1 = true) : zMet l G yX7_ifShifted wsX7_ifShifted rmX7_ifShifted [.ref q, .int (nI o), .int (nI i), .int d, .int w] ([(q, .inr (7, [v0, v1, v2, .ref w3, .ref w4, v5, v6, v7, v8, v9, v10, v11, v12, v13, v14, v15])), (w3, .inl (G.2 1, 121, .inl (flt h b))), (w4, .inl (G.2 1, 121, .inl F))]) (some (.int (if w = 0 then zRch (zMv (b o) i d) S else zb (zIn (zRch (zMv (b o) i d) S) (zSp (zMv (b o) i d)))))) ([(q, .inr (7, [.int 0, v1, v2, .ref w3, .ref w4, v5, v6, v7, v8, v9, v10, v11, v12, v13, v14, v15])), (w3, .inl (G.2 1, 121, .inl (flt h b))), (w4, .inl (G.2 1, 121, .inl (flt h (va_up b o (zPu (b o) i d)))))]) := by
  refine zMet_of (cc := cX7_ifShifted) (maxL := 5) (ret := (some .int)) (by decide) rfl (Nat.le_of_ble_eq_true rfl) ?_
  intro p e s m below meth c A ls hx hb hr hml hown hts hK hA hE hlocks hin hM hl
  have hown : s.vm.findClass RX7 = some m.cls := hown
  have hM : zM G A s s.heap [] ([(q, .inr (7, [v0, v1, v2, .ref w3, .ref w4, v5, v6, v7, v8, v9, v10, v11, v12, v13, v14, v15])), (w3, .inl (G.2 1, 121, .inl (flt h b))), (w4, .inl (G.2 1, 121, .inl F))]) := hM
  have hl : lv_has ls 5 [(0, .ref q), (1, .int (nI o)), (2, .int (nI i)), (3, .int d), (4, .int w)] := hl
  have hP := hg.1.1
  have hP4 := hg.1.2.1
  have h6 := hg.1.2.2.2.2.1
  have hS := hg.1.2.2.2.2.2.1
  have hi := (zHp_lt hP hP4 (k := o) (by omega)).mpr ho
  have hwo : zBw (b o) := hg.2.2 o ho
  have hwB : zBw (va_up b o (zPu (b o) i d) o) := by rw [va_ups]; exact zBw_pu hwo hi6 hd2
  refine lv_aload_n hx hb dX7_ifShifted_0 rfl (lv_at hl 0 rfl) ?_
  refine lv_aload_n hx hb dX7_ifShifted_1 rfl (lv_at hl 0 rfl) ?_
  refine z_get (ci := 7) (v := .ref w3) (C := RX7) (T := TX7) (N := 16) hx hb hts (by decide +kernel) hown hK hM 0 rfl rfl 3 (by decide) (hts (.fieldLink RX7 13 "ShiftIslesModel" "now" "[I") (by decide +kernel)) (fun _ h9 => h9) rfl dX7_ifShifted_2 ?_
  refine lv_iload_n hx hb dX7_ifShifted_5 rfl (lv_at hl 1 rfl) ?_
  refine z_callS (As := [.ref w3, .int (nI o)]) (rest := [.ref q]) (wc := rfW G w3 h b) (wr := [(q, .inr (7, [v0, v1, v2, .ref w3, .ref w4, v5, v6, v7, v8, v9, v10, v11, v12, v13, v14, v15])), (w4, .inl (G.2 1, 121, .inl F))]) (w1 := rfW G w3 h b) (ws' := [(q, .inr (7, [v0, v1, v2, .ref w3, .ref w4, v5, v6, v7, v8, v9, v10, v11, v12, v13, v14, v15])), (w3, .inl (G.2 1, 121, .inl (flt h b))), (w4, .inl (G.2 1, 121, .inl F))]) ⟨hx, hb, hml, hown, hts⟩ (c_r_isPlayer l G w3 h b P hP hP4 (nI o) ) (va_cwS 2 hts gX7_ifShifted_X7_isPlayer rfl rfl rfl (by decide +kernel) ⟨Nat.le_of_ble_eq_true rfl, Nat.le_of_ble_eq_true rfl⟩) rfl hl.1 rfl (Nat.le_of_ble_eq_true rfl) dX7_ifShifted_6 ⟨Nat.le_of_ble_eq_true rfl, Nat.le_of_ble_eq_true rfl⟩ hK hE hA hM (pm_at 3 [1] [0, 2] rfl rfl rfl (by decide)) ((pm_at 3 [1] [0, 2] rfl rfl rfl (by decide))).symm (fun H locs hM hz => ?_)
  refine z_ifeq (tgt := 19) hx hb dX7_ifShifted_9 (by decide) (fun c_1 => Bool.noConfusion (hi.symm.trans c_1)) (fun c_1 => ?_)
  refine lv_iload_n hx hb dX7_ifShifted_12 rfl (lv_at hl 2 rfl) ?_
  refine z_callS (As := [.int (nI i)]) (rest := [.ref q]) (wc := []) (wr := [(q, .inr (7, [v0, v1, v2, .ref w3, .ref w4, v5, v6, v7, v8, v9, v10, v11, v12, v13, v14, v15])), (w3, .inl (G.2 1, 121, .inl (flt h b))), (w4, .inl (G.2 1, 121, .inl F))]) (w1 := []) (ws' := [(q, .inr (7, [v0, v1, v2, .ref w3, .ref w4, v5, v6, v7, v8, v9, v10, v11, v12, v13, v14, v15])), (w3, .inl (G.2 1, 121, .inl (flt h b))), (w4, .inl (G.2 1, 121, .inl F))]) ⟨hx, hb, hml, hown, hts⟩ (c_r_isLine l G (nI i)) (va_cwS 1 hts gX7_ifShifted_X7_isLine rfl rfl rfl (by decide +kernel) ⟨Nat.le_of_ble_eq_true rfl, Nat.le_of_ble_eq_true rfl⟩) rfl hl.1 rfl (Nat.le_of_ble_eq_true rfl) dX7_ifShifted_13 ⟨Nat.le_of_ble_eq_true rfl, Nat.le_of_ble_eq_true rfl⟩ hK hE hA hM (List.Perm.refl _) (List.Perm.refl _) (fun H locs hM hz => ?_)
  refine z_ifne (tgt := 23) hx hb dX7_ifShifted_16 (by decide) (fun c_2 => ?_) (fun c_2 => Bool.noConfusion ((zLi_nI hi6).symm.trans c_2))
  refine lv_iload_n hx hb dX7_ifShifted_23 rfl (lv_at hl 3 rfl) ?_
  refine lv_i2l (v := d.toInt64) hx hb dX7_ifShifted_24 rfl ?_
  refine lv_lconst (v := 0) hx hb dX7_ifShifted_25 (by decide) ?_
  refine lv_lconst (v := 1) hx hb dX7_ifShifted_26 (by decide) ?_
  refine z_callS (As := [.long d.toInt64, .long 0, .long 1]) (rest := [.ref q]) (wc := []) (wr := [(q, .inr (7, [v0, v1, v2, .ref w3, .ref w4, v5, v6, v7, v8, v9, v10, v11, v12, v13, v14, v15])), (w3, .inl (G.2 1, 121, .inl (flt h b))), (w4, .inl (G.2 1, 121, .inl F))]) (w1 := []) (ws' := [(q, .inr (7, [v0, v1, v2, .ref w3, .ref w4, v5, v6, v7, v8, v9, v10, v11, v12, v13, v14, v15])), (w3, .inl (G.2 1, 121, .inl (flt h b))), (w4, .inl (G.2 1, 121, .inl F))]) ⟨hx, hb, hml, hown, hts⟩ (c_in l G d.toInt64 0 1) (va_cwS 3 hts gX7_ifShifted_X7_in rfl rfl rfl (by decide +kernel) ⟨Nat.le_of_ble_eq_true rfl, Nat.le_of_ble_eq_true rfl⟩) rfl hl.1 rfl (Nat.le_of_ble_eq_true rfl) dX7_ifShifted_27 ⟨Nat.le_of_ble_eq_true rfl, Nat.le_of_ble_eq_true rfl⟩ hK hE hA hM (List.Perm.refl _) (List.Perm.refl _) (fun H locs hM hz => ?_)
  refine z_ifeq (tgt := 48) hx hb dX7_ifShifted_30 (by decide) (fun c_3 => Bool.noConfusion (((zI0_di d).trans hd).symm.trans c_3)) (fun c_3 => ?_)
  refine lv_iload hx hb dX7_ifShifted_33 (lv_at hl 4 rfl) ?_
  refine lv_i2l (v := w.toInt64) hx hb dX7_ifShifted_35 rfl ?_
  refine lv_lconst (v := 0) hx hb dX7_ifShifted_36 (by decide) ?_
  refine lv_lconst (v := 1) hx hb dX7_ifShifted_37 (by decide) ?_
  refine z_callS (As := [.long w.toInt64, .long 0, .long 1]) (rest := [.ref q]) (wc := []) (wr := [(q, .inr (7, [v0, v1, v2, .ref w3, .ref w4, v5, v6, v7, v8, v9, v10, v11, v12, v13, v14, v15])), (w3, .inl (G.2 1, 121, .inl (flt h b))), (w4, .inl (G.2 1, 121, .inl F))]) (w1 := []) (ws' := [(q, .inr (7, [v0, v1, v2, .ref w3, .ref w4, v5, v6, v7, v8, v9, v10, v11, v12, v13, v14, v15])), (w3, .inl (G.2 1, 121, .inl (flt h b))), (w4, .inl (G.2 1, 121, .inl F))]) ⟨hx, hb, hml, hown, hts⟩ (c_in l G w.toInt64 0 1) (va_cwS 3 hts gX7_ifShifted_X7_in rfl rfl rfl (by decide +kernel) ⟨Nat.le_of_ble_eq_true rfl, Nat.le_of_ble_eq_true rfl⟩) rfl hl.1 rfl (Nat.le_of_ble_eq_true rfl) dX7_ifShifted_38 ⟨Nat.le_of_ble_eq_true rfl, Nat.le_of_ble_eq_true rfl⟩ hK hE hA hM (List.Perm.refl _) (List.Perm.refl _) (fun H locs hM hz => ?_)
  refine z_ifeq (tgt := 48) hx hb dX7_ifShifted_41 (by decide) (fun c_4 => Bool.noConfusion (hc.symm.trans c_4)) (fun c_4 => ?_)
  refine lv_iconst (v := 0) hx hb dX7_ifShifted_44 (by decide) ?_
  refine lv_goto (tgt := 49) hx hb dX7_ifShifted_45 (by decide) ?_
  refine z_callV (As := [.int 0]) (rest := []) (wc := [(q, .inr (7, [v0, v1, v2, .ref w3, .ref w4, v5, v6, v7, v8, v9, v10, v11, v12, v13, v14, v15]))]) (wr := [(w3, .inl (G.2 1, 121, .inl (flt h b))), (w4, .inl (G.2 1, 121, .inl F))]) (w1 := [(q, .inr (7, [.int 0, v1, v2, .ref w3, .ref w4, v5, v6, v7, v8, v9, v10, v11, v12, v13, v14, v15]))]) (ws' := [(q, .inr (7, [.int 0, v1, v2, .ref w3, .ref w4, v5, v6, v7, v8, v9, v10, v11, v12, v13, v14, v15])), (w3, .inl (G.2 1, 121, .inl (flt h b))), (w4, .inl (G.2 1, 121, .inl F))]) ⟨hx, hb, hml, hown, hts⟩ (c_refused l G q v0 v1 v2 (.ref w3) (.ref w4) v5 v6 v7 v8 v9 v10 v11 v12 v13 v14 v15 0) (cwV 1 hts gX7_ifShifted_X7_refused rfl rfl rfl (by decide +kernel) ⟨Nat.le_of_ble_eq_true rfl, Nat.le_of_ble_eq_true rfl⟩) 7 rfl rfl rfl rfl hl.1 rfl (Nat.le_of_ble_eq_true rfl) dX7_ifShifted_49 ⟨Nat.le_of_ble_eq_true rfl, Nat.le_of_ble_eq_true rfl⟩ hK hE hA hM (pm_at 3 [0] [1, 2] rfl rfl rfl (by decide)) ((pm_at 3 [0] [1, 2] rfl rfl rfl (by decide))).symm (fun H locs hM hz => ?_)
  refine z_ifeq (tgt := 57) hx hb dX7_ifShifted_52 (by decide) (fun c_5 => ?_) (fun c_5 => absurd c_5 (by decide))
  refine lv_aload_n hx hb dX7_ifShifted_57 rfl (lv_at hl 0 rfl) ?_
  refine z_get (ci := 7) (v := .ref w3) (C := RX7) (T := TX7) (N := 16) hx hb hts (by decide +kernel) hown hK hM 0 rfl rfl 3 (by decide) (hts (.fieldLink RX7 13 "ShiftIslesModel" "now" "[I") (by decide +kernel)) (fun _ h9 => h9) rfl dX7_ifShifted_58 ?_
  refine lv_iconst (v := nI 0) hx hb dX7_ifShifted_61 (by decide) ?_
  refine lv_aload_n hx hb dX7_ifShifted_62 rfl (lv_at hl 0 rfl) ?_
  refine z_get (ci := 7) (v := .ref w4) (C := RX7) (T := TX7) (N := 16) hx hb hts (by decide +kernel) hown hK hM 0 rfl rfl 4 (by decide) (hts (.fieldLink RX7 16 "ShiftIslesModel" "trial" "[I") (by decide +kernel)) (fun _ h9 => h9) rfl dX7_ifShifted_63 ?_
  refine lv_iconst (v := nI 0) hx hb dX7_ifShifted_66 (by decide) ?_
  refine z_callS (As := [.ref w3, .int (nI 0), .ref w4, .int (nI 0)]) (rest := []) (wc := [(w3, .inl (G.2 1, 121, .inl (flt h b))), (w4, .inl (G.2 1, 121, .inl F))]) (wr := [(q, .inr (7, [.int 0, v1, v2, .ref w3, .ref w4, v5, v6, v7, v8, v9, v10, v11, v12, v13, v14, v15]))]) (w1 := [(w3, .inl (G.2 1, 121, .inl (flt h b))), (w4, .inl (G.2 1, 121, .inl (cpv (flt h b) F 0 0 121)))]) (ws' := [(q, .inr (7, [.int 0, v1, v2, .ref w3, .ref w4, v5, v6, v7, v8, v9, v10, v11, v12, v13, v14, v15])), (w3, .inl (G.2 1, 121, .inl (flt h b))), (w4, .inl (G.2 1, 121, .inl (cpv (flt h b) F 0 0 121)))]) ⟨hx, hb, hml, hown, hts⟩ (c_copyState l G w3 w4 121 121 0 0 (flt h b) F (by omega) (by omega) (by decide) (by decide)) (va_cwS 4 hts gX7_ifShifted_X7_copyState rfl rfl rfl (by decide +kernel) ⟨Nat.le_of_ble_eq_true rfl, Nat.le_of_ble_eq_true rfl⟩) rfl hl.1 rfl (Nat.le_of_ble_eq_true rfl) dX7_ifShifted_67 ⟨Nat.le_of_ble_eq_true rfl, Nat.le_of_ble_eq_true rfl⟩ hK hE hA hM (pm_at 3 [1, 2] [0] rfl rfl rfl (by decide)) ((pm_at 3 [1, 2] [0] rfl rfl rfl (by decide))).symm (fun H locs hM hz => ?_)
  have hsim : zSim ([(q, .inr (7, [.int 0, v1, v2, .ref w3, .ref w4, v5, v6, v7, v8, v9, v10, v11, v12, v13, v14, v15])), (w3, .inl (G.2 1, 121, .inl (flt h b))), (w4, .inl (G.2 1, 121, .inl (cpv (flt h b) F 0 0 121)))]) ([(q, .inr (7, [.int 0, v1, v2, .ref w3, .ref w4, v5, v6, v7, v8, v9, v10, v11, v12, v13, v14, v15])), (w3, .inl (G.2 1, 121, .inl (flt h b))), (w4, .inl (G.2 1, 121, .inl (flt h b)))]) := ⟨zSame_rf _, zSame_rf _, zSame_arr cpv_all, trivial⟩
  have hM : zM G A s H locs ([(q, .inr (7, [.int 0, v1, v2, .ref w3, .ref w4, v5, v6, v7, v8, v9, v10, v11, v12, v13, v14, v15])), (w3, .inl (G.2 1, 121, .inl (flt h b))), (w4, .inl (G.2 1, 121, .inl (flt h b)))]) := zM_sim hsim hM
  refine lv_aload_n hx hb dX7_ifShifted_70 rfl (lv_at hl 0 rfl) ?_
  refine z_get (ci := 7) (v := .ref w4) (C := RX7) (T := TX7) (N := 16) hx hb hts (by decide +kernel) hown hK hM 0 rfl rfl 4 (by decide) (hts (.fieldLink RX7 16 "ShiftIslesModel" "trial" "[I") (by decide +kernel)) (fun _ h9 => h9) rfl dX7_ifShifted_71 ?_
  refine lv_iload_n hx hb dX7_ifShifted_74 rfl (lv_at hl 1 rfl) ?_
  refine lv_iload_n hx hb dX7_ifShifted_75 rfl (lv_at hl 2 rfl) ?_
  refine lv_iload_n hx hb dX7_ifShifted_76 rfl (lv_at hl 3 rfl) ?_
  refine z_callS (As := [.ref w4, .int (nI o), .int (nI i), .int d]) (rest := []) (wc := rfW G w4 h b) (wr := [(q, .inr (7, [.int 0, v1, v2, .ref w3, .ref w4, v5, v6, v7, v8, v9, v10, v11, v12, v13, v14, v15])), (w3, .inl (G.2 1, 121, .inl (flt h b)))]) (w1 := rfW G w4 h (va_up b o (zPu (b o) i d))) (ws' := [(q, .inr (7, [.int 0, v1, v2, .ref w3, .ref w4, v5, v6, v7, v8, v9, v10, v11, v12, v13, v14, v15])), (w3, .inl (G.2 1, 121, .inl (flt h b))), (w4, .inl (G.2 1, 121, .inl (flt h (va_up b o (zPu (b o) i d)))))]) ⟨hx, hb, hml, hown, hts⟩ (c_push l G w4 h b o i d (by omega) (by omega) ) (va_cwS 4 hts gX7_ifShifted_X7_push rfl rfl rfl (by decide +kernel) ⟨Nat.le_of_ble_eq_true rfl, Nat.le_of_ble_eq_true rfl⟩) rfl hl.1 rfl (Nat.le_of_ble_eq_true rfl) dX7_ifShifted_77 ⟨Nat.le_of_ble_eq_true rfl, Nat.le_of_ble_eq_true rfl⟩ hK hE hA hM (pm_at 3 [2] [0, 1] rfl rfl rfl (by decide)) ((pm_at 3 [2] [0, 1] rfl rfl rfl (by decide))).symm (fun H locs hM hz => ?_)
  refine lv_iload hx hb dX7_ifShifted_80 (lv_at hl 4 rfl) ?_
  refine lv_if_ne (tgt := 96) hx hb dX7_ifShifted_82 (by decide) (fun c_w => ?_) (fun c_w => ?_)
  · skip
    refine lv_aload_n hx hb dX7_ifShifted_96 rfl (lv_at hl 0 rfl) ?_
    refine z_get (ci := 7) (v := .ref w4) (C := RX7) (T := TX7) (N := 16) hx hb hts (by decide +kernel) hown hK hM 0 rfl rfl 4 (by decide) (hts (.fieldLink RX7 16 "ShiftIslesModel" "trial" "[I") (by decide +kernel)) (fun _ h9 => h9) rfl dX7_ifShifted_97 ?_
    refine lv_iload_n hx hb dX7_ifShifted_100 rfl (lv_at hl 1 rfl) ?_
    refine z_callS (As := [.ref w4, .int (nI o)]) (rest := []) (wc := rfW G w4 h (va_up b o (zPu (b o) i d))) (wr := [(q, .inr (7, [.int 0, v1, v2, .ref w3, .ref w4, v5, v6, v7, v8, v9, v10, v11, v12, v13, v14, v15])), (w3, .inl (G.2 1, 121, .inl (flt h b)))]) (w1 := rfW G w4 h (va_up b o (zPu (b o) i d))) (ws' := [(q, .inr (7, [.int 0, v1, v2, .ref w3, .ref w4, v5, v6, v7, v8, v9, v10, v11, v12, v13, v14, v15])), (w3, .inl (G.2 1, 121, .inl (flt h b))), (w4, .inl (G.2 1, 121, .inl (flt h (va_up b o (zPu (b o) i d)))))]) ⟨hx, hb, hml, hown, hts⟩ (c_canTake l G w4 h (va_up b o (zPu (b o) i d)) o S (by omega) hS hwB h6) (va_cwS 2 hts gX7_ifShifted_X7_canTake rfl rfl rfl (by decide +kernel) ⟨Nat.le_of_ble_eq_true rfl, Nat.le_of_ble_eq_true rfl⟩) rfl hl.1 rfl (Nat.le_of_ble_eq_true rfl) dX7_ifShifted_101 ⟨Nat.le_of_ble_eq_true rfl, Nat.le_of_ble_eq_true rfl⟩ hK hE hA hM (pm_at 3 [2] [0, 1] rfl rfl rfl (by decide)) ((pm_at 3 [2] [0, 1] rfl rfl rfl (by decide))).symm (fun H locs hM hz => ?_)
    refine z_ifeq (tgt := 111) hx hb dX7_ifShifted_104 (by decide) (fun c_t => ?_) (fun c_t => ?_)
    · rw [va_ups] at c_t
      refine lv_iconst (v := 0) hx hb dX7_ifShifted_111 (by decide) ?_
      exact z_iret hx hb hr hlocks dX7_ifShifted_112 hM (Nat.le_of_ble_eq_true rfl) (Nat.le_of_ble_eq_true rfl) (by rw [if_neg c_w, ← zRch_pu hwo hi6 hd2, ← zSp_pu hwo hi6 hd2, c_t]; rfl)
    · rw [va_ups] at c_t
      refine lv_iconst (v := 1) hx hb dX7_ifShifted_107 (by decide) ?_
      refine lv_goto (tgt := 112) hx hb dX7_ifShifted_108 (by decide) ?_
      exact z_iret hx hb hr hlocks dX7_ifShifted_112 hM (Nat.le_of_ble_eq_true rfl) (Nat.le_of_ble_eq_true rfl) (by rw [if_neg c_w, ← zRch_pu hwo hi6 hd2, ← zSp_pu hwo hi6 hd2, c_t]; rfl)
  · skip
    refine lv_aload_n hx hb dX7_ifShifted_85 rfl (lv_at hl 0 rfl) ?_
    refine z_get (ci := 7) (v := .ref w4) (C := RX7) (T := TX7) (N := 16) hx hb hts (by decide +kernel) hown hK hM 0 rfl rfl 4 (by decide) (hts (.fieldLink RX7 16 "ShiftIslesModel" "trial" "[I") (by decide +kernel)) (fun _ h9 => h9) rfl dX7_ifShifted_86 ?_
    refine lv_iload_n hx hb dX7_ifShifted_89 rfl (lv_at hl 1 rfl) ?_
    refine z_callS (As := [.ref w4, .int (nI o)]) (rest := []) (wc := rfW G w4 h (va_up b o (zPu (b o) i d))) (wr := [(q, .inr (7, [.int 0, v1, v2, .ref w3, .ref w4, v5, v6, v7, v8, v9, v10, v11, v12, v13, v14, v15])), (w3, .inl (G.2 1, 121, .inl (flt h b)))]) (w1 := rfW G w4 h (va_up b o (zPu (b o) i d))) (ws' := [(q, .inr (7, [.int 0, v1, v2, .ref w3, .ref w4, v5, v6, v7, v8, v9, v10, v11, v12, v13, v14, v15])), (w3, .inl (G.2 1, 121, .inl (flt h b))), (w4, .inl (G.2 1, 121, .inl (flt h (va_up b o (zPu (b o) i d)))))]) ⟨hx, hb, hml, hown, hts⟩ (c_reachable l G w4 h (va_up b o (zPu (b o) i d)) o S (by omega) hS hwB h6) (va_cwS 2 hts gX7_ifShifted_X7_reachable rfl rfl rfl (by decide +kernel) ⟨Nat.le_of_ble_eq_true rfl, Nat.le_of_ble_eq_true rfl⟩) rfl hl.1 rfl (Nat.le_of_ble_eq_true rfl) dX7_ifShifted_90 ⟨Nat.le_of_ble_eq_true rfl, Nat.le_of_ble_eq_true rfl⟩ hK hE hA hM (pm_at 3 [2] [0, 1] rfl rfl rfl (by decide)) ((pm_at 3 [2] [0, 1] rfl rfl rfl (by decide))).symm (fun H locs hM hz => ?_)
    refine lv_goto (tgt := 112) hx hb dX7_ifShifted_93 (by decide) ?_
    exact z_iret hx hb hr hlocks dX7_ifShifted_112 hM (Nat.le_of_ble_eq_true rfl) (Nat.le_of_ble_eq_true rfl) (by rw [if_pos c_w, va_ups, zRch_pu hwo hi6 hd2])
set_option maxHeartbeats 4000000 in
set_option maxRecDepth 100000 in
theorem c_r_worst1 (l : Launch) (G : zC) (a : Nat → Nat) (u : Nat → Int32) (x : Int64) (f : Nat → Int32) (h : Nat → Int32) (b : Nat → Nat → Int32) (k : Int32) (hc : zI0 k.toInt64 0 2 = false) : zMet l G yX7_worstShift wsX7_worstShift rmX7_worstShift [.ref (a 0), .int k] ([((a 0), .inr (7, [.int (u 0), .ref (a 1), .int (u 2), .ref (a 3), .ref (a 4), .ref (a 5), .ref (a 6), .int (u 7), .ref (a 8), .ref (a 9), .int (u 10), .int (u 11), .int (u 12), .long x, .int (u 14), .int (u 15)])), ((a 3), .inl (G.2 1, 121, .inl (flt h b))), ((a 5), .inl (G.2 1, 121, .inl f))]) (some (.int 0)) ([((a 0), .inr (7, [.int 1, .ref (a 1), .int (u 2), .ref (a 3), .ref (a 4), .ref (a 5), .ref (a 6), .int (u 7), .ref (a 8), .ref (a 9), .int (u 10), .int (u 11), .int (u 12), .long x, .int (u 14), .int (u 15)])), ((a 3), .inl (G.2 1, 121, .inl (flt h b))), ((a 5), .inl (G.2 1, 121, .inl f))]) := by
  refine zMet_of (cc := cX7_worstShift) (maxL := 2) (ret := (some .int)) (by decide) rfl (Nat.le_of_ble_eq_true rfl) ?_
  intro p e s m below meth c A ls hx hb hr hml hown hts hK hA hE hlocks hin hM hl
  have hown : s.vm.findClass RX7 = some m.cls := hown
  have hM : zM G A s s.heap [] ([((a 0), .inr (7, [.int (u 0), .ref (a 1), .int (u 2), .ref (a 3), .ref (a 4), .ref (a 5), .ref (a 6), .int (u 7), .ref (a 8), .ref (a 9), .int (u 10), .int (u 11), .int (u 12), .long x, .int (u 14), .int (u 15)])), ((a 3), .inl (G.2 1, 121, .inl (flt h b))), ((a 5), .inl (G.2 1, 121, .inl f))]) := hM
  have hl : lv_has ls 2 [(0, .ref (a 0)), (1, .int k)] := hl
  refine lv_aload_n hx hb dX7_worstShift_0 rfl (lv_at hl 0 rfl) ?_
  refine lv_iload_n hx hb dX7_worstShift_1 rfl (lv_at hl 1 rfl) ?_
  refine lv_i2l (v := k.toInt64) hx hb dX7_worstShift_2 rfl ?_
  refine lv_lconst (v := 0) hx hb dX7_worstShift_3 (by decide) ?_
  refine lv_ldc2 (v := 2) hx hb hown (hts (.constantLong RX7 152 2) (by decide +kernel)) dX7_worstShift_4 ?_
  refine z_callS (As := [.long k.toInt64, .long 0, .long 2]) (rest := [.ref (a 0)]) (wc := []) (wr := [((a 0), .inr (7, [.int (u 0), .ref (a 1), .int (u 2), .ref (a 3), .ref (a 4), .ref (a 5), .ref (a 6), .int (u 7), .ref (a 8), .ref (a 9), .int (u 10), .int (u 11), .int (u 12), .long x, .int (u 14), .int (u 15)])), ((a 3), .inl (G.2 1, 121, .inl (flt h b))), ((a 5), .inl (G.2 1, 121, .inl f))]) (w1 := []) (ws' := [((a 0), .inr (7, [.int (u 0), .ref (a 1), .int (u 2), .ref (a 3), .ref (a 4), .ref (a 5), .ref (a 6), .int (u 7), .ref (a 8), .ref (a 9), .int (u 10), .int (u 11), .int (u 12), .long x, .int (u 14), .int (u 15)])), ((a 3), .inl (G.2 1, 121, .inl (flt h b))), ((a 5), .inl (G.2 1, 121, .inl f))]) ⟨hx, hb, hml, hown, hts⟩ (c_in l G k.toInt64 0 2) (va_cwS 3 hts gX7_worstShift_X7_in rfl rfl rfl (by decide +kernel) ⟨Nat.le_of_ble_eq_true rfl, Nat.le_of_ble_eq_true rfl⟩) rfl hl.1 rfl (Nat.le_of_ble_eq_true rfl) dX7_worstShift_7 ⟨Nat.le_of_ble_eq_true rfl, Nat.le_of_ble_eq_true rfl⟩ hK hE hA hM (List.Perm.refl _) (List.Perm.refl _) (fun H locs hM hz => ?_)
  refine z_ifeq (tgt := 17) hx hb dX7_worstShift_10 (by decide) (fun c_1 => ?_) (fun c_1 => Bool.noConfusion (c_1.symm.trans hc))
  refine lv_iconst (v := 1) hx hb dX7_worstShift_17 (by decide) ?_
  refine z_callV (As := [.int 1]) (rest := []) (wc := [((a 0), .inr (7, [.int (u 0), .ref (a 1), .int (u 2), .ref (a 3), .ref (a 4), .ref (a 5), .ref (a 6), .int (u 7), .ref (a 8), .ref (a 9), .int (u 10), .int (u 11), .int (u 12), .long x, .int (u 14), .int (u 15)]))]) (wr := [((a 3), .inl (G.2 1, 121, .inl (flt h b))), ((a 5), .inl (G.2 1, 121, .inl f))]) (w1 := [((a 0), .inr (7, [.int 1, .ref (a 1), .int (u 2), .ref (a 3), .ref (a 4), .ref (a 5), .ref (a 6), .int (u 7), .ref (a 8), .ref (a 9), .int (u 10), .int (u 11), .int (u 12), .long x, .int (u 14), .int (u 15)]))]) (ws' := [((a 0), .inr (7, [.int 1, .ref (a 1), .int (u 2), .ref (a 3), .ref (a 4), .ref (a 5), .ref (a 6), .int (u 7), .ref (a 8), .ref (a 9), .int (u 10), .int (u 11), .int (u 12), .long x, .int (u 14), .int (u 15)])), ((a 3), .inl (G.2 1, 121, .inl (flt h b))), ((a 5), .inl (G.2 1, 121, .inl f))]) ⟨hx, hb, hml, hown, hts⟩ (c_refused l G (a 0) (.int (u 0)) (.ref (a 1)) (.int (u 2)) (.ref (a 3)) (.ref (a 4)) (.ref (a 5)) (.ref (a 6)) (.int (u 7)) (.ref (a 8)) (.ref (a 9)) (.int (u 10)) (.int (u 11)) (.int (u 12)) (.long x) (.int (u 14)) (.int (u 15)) 1) (cwV 1 hts gX7_worstShift_X7_refused rfl rfl rfl (by decide +kernel) ⟨Nat.le_of_ble_eq_true rfl, Nat.le_of_ble_eq_true rfl⟩) 7 rfl rfl rfl rfl hl.1 rfl (Nat.le_of_ble_eq_true rfl) dX7_worstShift_18 ⟨Nat.le_of_ble_eq_true rfl, Nat.le_of_ble_eq_true rfl⟩ hK hE hA hM (pm_at 3 [0] [1, 2] rfl rfl rfl (by decide)) ((pm_at 3 [0] [1, 2] rfl rfl rfl (by decide))).symm (fun H locs hM hz => ?_)
  refine z_ifeq (tgt := 26) hx hb dX7_worstShift_21 (by decide) (fun c_2 => absurd c_2 (by decide)) (fun c_2 => ?_)
  refine lv_iconst (v := 0) hx hb dX7_worstShift_24 (by decide) ?_
  exact z_iret hx hb hr hlocks dX7_worstShift_25 hM (Nat.le_of_ble_eq_true rfl) (Nat.le_of_ble_eq_true rfl) rfl

set_option maxHeartbeats 4000000 in
set_option maxRecDepth 100000 in
theorem c_r_worst0 (l : Launch) (G : zC) (a : Nat → Nat) (u : Nat → Int32) (x : Int64) (f : Nat → Int32) (h : Nat → Int32) (b : Nat → Nat → Int32) (P t S : Nat) (hg : zWf h b P t S) (k : Int32) (hc : zI0 k.toInt64 0 2 = true) : zMet l G yX7_worstShift wsX7_worstShift rmX7_worstShift [.ref (a 0), .int k] ([((a 0), .inr (7, [.int (u 0), .ref (a 1), .int (u 2), .ref (a 3), .ref (a 4), .ref (a 5), .ref (a 6), .int (u 7), .ref (a 8), .ref (a 9), .int (u 10), .int (u 11), .int (u 12), .long x, .int (u 14), .int (u 15)])), ((a 3), .inl (G.2 1, 121, .inl (flt h b))), ((a 5), .inl (G.2 1, 121, .inl f))]) (some (.int (if (zFs h b S P (u 11) (u 12) f).1 = -1 then -1 else if k = 0 then (zFs h b S P (u 11) (u 12) f).1 else if k = 1 then (zFs h b S P (u 11) (u 12) f).2.1 else (zFs h b S P (u 11) (u 12) f).2.2.1))) ([((a 0), .inr (7, [.int 0, .ref (a 1), .int (u 2), .ref (a 3), .ref (a 4), .ref (a 5), .ref (a 6), .int (u 7), .ref (a 8), .ref (a 9), .int ((zFs h b S P (u 11) (u 12) f).1), .int ((zFs h b S P (u 11) (u 12) f).2.1), .int ((zFs h b S P (u 11) (u 12) f).2.2.1), .long x, .int (u 14), .int (u 15)])), ((a 3), .inl (G.2 1, 121, .inl (flt h b))), ((a 5), .inl (G.2 1, 121, .inl ((zFs h b S P (u 11) (u 12) f).2.2.2.2)))]) := by
  refine zMet_of (cc := cX7_worstShift) (maxL := 2) (ret := (some .int)) (by decide) rfl (Nat.le_of_ble_eq_true rfl) ?_
  intro p e s m below meth c A ls hx hb hr hml hown hts hK hA hE hlocks hin hM hl
  have hown : s.vm.findClass RX7 = some m.cls := hown
  have hM : zM G A s s.heap [] ([((a 0), .inr (7, [.int (u 0), .ref (a 1), .int (u 2), .ref (a 3), .ref (a 4), .ref (a 5), .ref (a 6), .int (u 7), .ref (a 8), .ref (a 9), .int (u 10), .int (u 11), .int (u 12), .long x, .int (u 14), .int (u 15)])), ((a 3), .inl (G.2 1, 121, .inl (flt h b))), ((a 5), .inl (G.2 1, 121, .inl f))]) := hM
  have hl : lv_has ls 2 [(0, .ref (a 0)), (1, .int k)] := hl
  refine lv_aload_n hx hb dX7_worstShift_0 rfl (lv_at hl 0 rfl) ?_
  refine lv_iload_n hx hb dX7_worstShift_1 rfl (lv_at hl 1 rfl) ?_
  refine lv_i2l (v := k.toInt64) hx hb dX7_worstShift_2 rfl ?_
  refine lv_lconst (v := 0) hx hb dX7_worstShift_3 (by decide) ?_
  refine lv_ldc2 (v := 2) hx hb hown (hts (.constantLong RX7 152 2) (by decide +kernel)) dX7_worstShift_4 ?_
  refine z_callS (As := [.long k.toInt64, .long 0, .long 2]) (rest := [.ref (a 0)]) (wc := []) (wr := [((a 0), .inr (7, [.int (u 0), .ref (a 1), .int (u 2), .ref (a 3), .ref (a 4), .ref (a 5), .ref (a 6), .int (u 7), .ref (a 8), .ref (a 9), .int (u 10), .int (u 11), .int (u 12), .long x, .int (u 14), .int (u 15)])), ((a 3), .inl (G.2 1, 121, .inl (flt h b))), ((a 5), .inl (G.2 1, 121, .inl f))]) (w1 := []) (ws' := [((a 0), .inr (7, [.int (u 0), .ref (a 1), .int (u 2), .ref (a 3), .ref (a 4), .ref (a 5), .ref (a 6), .int (u 7), .ref (a 8), .ref (a 9), .int (u 10), .int (u 11), .int (u 12), .long x, .int (u 14), .int (u 15)])), ((a 3), .inl (G.2 1, 121, .inl (flt h b))), ((a 5), .inl (G.2 1, 121, .inl f))]) ⟨hx, hb, hml, hown, hts⟩ (c_in l G k.toInt64 0 2) (va_cwS 3 hts gX7_worstShift_X7_in rfl rfl rfl (by decide +kernel) ⟨Nat.le_of_ble_eq_true rfl, Nat.le_of_ble_eq_true rfl⟩) rfl hl.1 rfl (Nat.le_of_ble_eq_true rfl) dX7_worstShift_7 ⟨Nat.le_of_ble_eq_true rfl, Nat.le_of_ble_eq_true rfl⟩ hK hE hA hM (List.Perm.refl _) (List.Perm.refl _) (fun H locs hM hz => ?_)
  refine z_ifeq (tgt := 17) hx hb dX7_worstShift_10 (by decide) (fun c_1 => Bool.noConfusion (hc.symm.trans c_1)) (fun c_1 => ?_)
  refine lv_iconst (v := 0) hx hb dX7_worstShift_13 (by decide) ?_
  refine lv_goto (tgt := 18) hx hb dX7_worstShift_14 (by decide) ?_
  refine z_callV (As := [.int 0]) (rest := []) (wc := [((a 0), .inr (7, [.int (u 0), .ref (a 1), .int (u 2), .ref (a 3), .ref (a 4), .ref (a 5), .ref (a 6), .int (u 7), .ref (a 8), .ref (a 9), .int (u 10), .int (u 11), .int (u 12), .long x, .int (u 14), .int (u 15)]))]) (wr := [((a 3), .inl (G.2 1, 121, .inl (flt h b))), ((a 5), .inl (G.2 1, 121, .inl f))]) (w1 := [((a 0), .inr (7, [.int 0, .ref (a 1), .int (u 2), .ref (a 3), .ref (a 4), .ref (a 5), .ref (a 6), .int (u 7), .ref (a 8), .ref (a 9), .int (u 10), .int (u 11), .int (u 12), .long x, .int (u 14), .int (u 15)]))]) (ws' := [((a 0), .inr (7, [.int 0, .ref (a 1), .int (u 2), .ref (a 3), .ref (a 4), .ref (a 5), .ref (a 6), .int (u 7), .ref (a 8), .ref (a 9), .int (u 10), .int (u 11), .int (u 12), .long x, .int (u 14), .int (u 15)])), ((a 3), .inl (G.2 1, 121, .inl (flt h b))), ((a 5), .inl (G.2 1, 121, .inl f))]) ⟨hx, hb, hml, hown, hts⟩ (c_refused l G (a 0) (.int (u 0)) (.ref (a 1)) (.int (u 2)) (.ref (a 3)) (.ref (a 4)) (.ref (a 5)) (.ref (a 6)) (.int (u 7)) (.ref (a 8)) (.ref (a 9)) (.int (u 10)) (.int (u 11)) (.int (u 12)) (.long x) (.int (u 14)) (.int (u 15)) 0) (cwV 1 hts gX7_worstShift_X7_refused rfl rfl rfl (by decide +kernel) ⟨Nat.le_of_ble_eq_true rfl, Nat.le_of_ble_eq_true rfl⟩) 7 rfl rfl rfl rfl hl.1 rfl (Nat.le_of_ble_eq_true rfl) dX7_worstShift_18 ⟨Nat.le_of_ble_eq_true rfl, Nat.le_of_ble_eq_true rfl⟩ hK hE hA hM (pm_at 3 [0] [1, 2] rfl rfl rfl (by decide)) ((pm_at 3 [0] [1, 2] rfl rfl rfl (by decide))).symm (fun H locs hM hz => ?_)
  refine z_ifeq (tgt := 26) hx hb dX7_worstShift_21 (by decide) (fun c_2 => ?_) (fun c_2 => absurd c_2 (by decide))
  refine lv_aload_n hx hb dX7_worstShift_26 rfl (lv_at hl 0 rfl) ?_
  refine lv_aload_n hx hb dX7_worstShift_27 rfl (lv_at hl 0 rfl) ?_
  refine z_get (ci := 7) (v := .ref (a 3)) (C := RX7) (T := TX7) (N := 16) hx hb hts (by decide +kernel) hown hK hM 0 rfl rfl 3 (by decide) (hts (.fieldLink RX7 13 "ShiftIslesModel" "now" "[I") (by decide +kernel)) (fun _ h9 => h9) rfl dX7_worstShift_28 ?_
  refine z_callV (As := [.ref (a 3)]) (rest := []) (wc := [((a 0), .inr (7, [.int 0, .ref (a 1), .int (u 2), .ref (a 3), .ref (a 4), .ref (a 5), .ref (a 6), .int (u 7), .ref (a 8), .ref (a 9), .int (u 10), .int (u 11), .int (u 12), .long x, .int (u 14), .int (u 15)])), ((a 3), .inl (G.2 1, 121, .inl (flt h b))), ((a 5), .inl (G.2 1, 121, .inl f))]) (wr := []) (w1 := [((a 0), .inr (7, [.int 0, .ref (a 1), .int (u 2), .ref (a 3), .ref (a 4), .ref (a 5), .ref (a 6), .int (u 7), .ref (a 8), .ref (a 9), .int ((zFs h b S P (u 11) (u 12) f).1), .int ((zFs h b S P (u 11) (u 12) f).2.1), .int ((zFs h b S P (u 11) (u 12) f).2.2.1), .long x, .int (u 14), .int (u 15)])), ((a 3), .inl (G.2 1, 121, .inl (flt h b))), ((a 5), .inl (G.2 1, 121, .inl ((zFs h b S P (u 11) (u 12) f).2.2.2.2)))]) (ws' := [((a 0), .inr (7, [.int 0, .ref (a 1), .int (u 2), .ref (a 3), .ref (a 4), .ref (a 5), .ref (a 6), .int (u 7), .ref (a 8), .ref (a 9), .int ((zFs h b S P (u 11) (u 12) f).1), .int ((zFs h b S P (u 11) (u 12) f).2.1), .int ((zFs h b S P (u 11) (u 12) f).2.2.1), .long x, .int (u 14), .int (u 15)])), ((a 3), .inl (G.2 1, 121, .inl (flt h b))), ((a 5), .inl (G.2 1, 121, .inl ((zFs h b S P (u 11) (u 12) f).2.2.2.2)))]) ⟨hx, hb, hml, hown, hts⟩ (c_findShift l G a (upd u 0 0) x f (a 3) h b P t S hg) (cwV 1 hts gX7_worstShift_X7_findShift rfl rfl rfl (by decide +kernel) ⟨Nat.le_of_ble_eq_true rfl, Nat.le_of_ble_eq_true rfl⟩) 7 rfl rfl rfl rfl hl.1 rfl (Nat.le_of_ble_eq_true rfl) dX7_worstShift_31 ⟨Nat.le_of_ble_eq_true rfl, Nat.le_of_ble_eq_true rfl⟩ hK hE hA hM (pm_at 3 [0, 1, 2] [] rfl rfl rfl (by decide)) ((pm_at 3 [0, 1, 2] [] rfl rfl rfl (by decide))).symm (fun H locs hM hz => ?_)
  refine lv_aload_n hx hb dX7_worstShift_34 rfl (lv_at hl 0 rfl) ?_
  refine z_get (ci := 7) (v := .int ((zFs h b S P (u 11) (u 12) f).1)) (C := RX7) (T := TX7) (N := 16) hx hb hts (by decide +kernel) hown hK hM 0 rfl rfl 10 (by decide) (hts (.fieldLink RX7 124 "ShiftIslesModel" "toPlayer" "I") (by decide +kernel)) (fun _ h9 => h9) rfl dX7_worstShift_35 ?_
  refine lv_iconst (v := (-1)) hx hb dX7_worstShift_38 (by decide) ?_
  refine lv_icmp_ne (tgt := 46) hx hb dX7_worstShift_39 (by decide) (fun c_1 => ?_) (fun c_1 => ?_)
  · skip
    refine lv_iload_n hx hb dX7_worstShift_46 rfl (lv_at hl 1 rfl) ?_
    refine lv_if_ne (tgt := 57) hx hb dX7_worstShift_47 (by decide) (fun c_2 => ?_) (fun c_2 => ?_)
    · skip
      refine lv_iload_n hx hb dX7_worstShift_57 rfl (lv_at hl 1 rfl) ?_
      refine lv_iconst (v := 1) hx hb dX7_worstShift_58 (by decide) ?_
      refine lv_icmp_ne (tgt := 69) hx hb dX7_worstShift_59 (by decide) (fun c_3 => ?_) (fun c_3 => ?_)
      · skip
        refine lv_aload_n hx hb dX7_worstShift_69 rfl (lv_at hl 0 rfl) ?_
        refine z_get (ci := 7) (v := .int ((zFs h b S P (u 11) (u 12) f).2.2.1)) (C := RX7) (T := TX7) (N := 16) hx hb hts (by decide +kernel) hown hK hM 0 rfl rfl 12 (by decide) (hts (.fieldLink RX7 137 "ShiftIslesModel" "toDirection" "I") (by decide +kernel)) (fun _ h9 => h9) rfl dX7_worstShift_70 ?_
        exact z_iret hx hb hr hlocks dX7_worstShift_73 hM (Nat.le_of_ble_eq_true rfl) (Nat.le_of_ble_eq_true rfl) (by rw [if_neg c_1, if_neg c_2, if_neg c_3])
      · skip
        refine lv_aload_n hx hb dX7_worstShift_62 rfl (lv_at hl 0 rfl) ?_
        refine z_get (ci := 7) (v := .int ((zFs h b S P (u 11) (u 12) f).2.1)) (C := RX7) (T := TX7) (N := 16) hx hb hts (by decide +kernel) hown hK hM 0 rfl rfl 11 (by decide) (hts (.fieldLink RX7 134 "ShiftIslesModel" "toLine" "I") (by decide +kernel)) (fun _ h9 => h9) rfl dX7_worstShift_63 ?_
        refine lv_goto (tgt := 73) hx hb dX7_worstShift_66 (by decide) ?_
        exact z_iret hx hb hr hlocks dX7_worstShift_73 hM (Nat.le_of_ble_eq_true rfl) (Nat.le_of_ble_eq_true rfl) (by rw [if_neg c_1, if_neg c_2, if_pos c_3])
    · skip
      refine lv_aload_n hx hb dX7_worstShift_50 rfl (lv_at hl 0 rfl) ?_
      refine z_get (ci := 7) (v := .int ((zFs h b S P (u 11) (u 12) f).1)) (C := RX7) (T := TX7) (N := 16) hx hb hts (by decide +kernel) hown hK hM 0 rfl rfl 10 (by decide) (hts (.fieldLink RX7 124 "ShiftIslesModel" "toPlayer" "I") (by decide +kernel)) (fun _ h9 => h9) rfl dX7_worstShift_51 ?_
      refine lv_goto (tgt := 73) hx hb dX7_worstShift_54 (by decide) ?_
      exact z_iret hx hb hr hlocks dX7_worstShift_73 hM (Nat.le_of_ble_eq_true rfl) (Nat.le_of_ble_eq_true rfl) (by rw [if_neg c_1, if_pos c_2])
  · skip
    refine lv_iconst (v := (-1)) hx hb dX7_worstShift_42 (by decide) ?_
    refine lv_goto (tgt := 73) hx hb dX7_worstShift_43 (by decide) ?_
    exact z_iret hx hb hr hlocks dX7_worstShift_73 hM (Nat.le_of_ble_eq_true rfl) (Nat.le_of_ble_eq_true rfl) (by rw [if_pos c_1])
set_option maxHeartbeats 4000000 in
set_option maxRecDepth 100000 in
theorem c_r_play1 (l : Launch) (G : zC) (a : Nat → Nat) (u : Nat → Int32) (x : Int64) (f : Nat → Int32) (h : Nat → Int32) (b : Nat → Nat → Int32) (n : Nat) (D : Nat → Int32) (hc : zRu h = false) : zMet l G yX7_play wsX7_play rmX7_play [.ref (a 0)] ([((a 0), .inr (7, [.int (u 0), .ref (a 1), .int (u 2), .ref (a 3), .ref (a 4), .ref (a 5), .ref (a 6), .int (nI n), .ref (a 8), .ref (a 9), .int (u 10), .int (u 11), .int (u 12), .long x, .int (u 14), .int (u 15)])), ((a 3), .inl (G.2 1, 121, .inl (flt h b))), ((a 5), .inl (G.2 1, 121, .inl f)), ((a 6), .inl (G.2 1, 1694, .inl D))]) (some (.int 0)) ([((a 0), .inr (7, [.int 1, .ref (a 1), .int (u 2), .ref (a 3), .ref (a 4), .ref (a 5), .ref (a 6), .int (nI n), .ref (a 8), .ref (a 9), .int (u 10), .int (u 11), .int (u 12), .long x, .int (u 14), .int (u 15)])), ((a 3), .inl (G.2 1, 121, .inl (flt h b))), ((a 5), .inl (G.2 1, 121, .inl f)), ((a 6), .inl (G.2 1, 1694, .inl D))]) := by
  refine zMet_of (cc := cX7_play) (maxL := 1) (ret := (some .int)) (by decide) rfl (Nat.le_of_ble_eq_true rfl) ?_
  intro p e s m below meth c A ls hx hb hr hml hown hts hK hA hE hlocks hin hM hl
  have hown : s.vm.findClass RX7 = some m.cls := hown
  have hM : zM G A s s.heap [] ([((a 0), .inr (7, [.int (u 0), .ref (a 1), .int (u 2), .ref (a 3), .ref (a 4), .ref (a 5), .ref (a 6), .int (nI n), .ref (a 8), .ref (a 9), .int (u 10), .int (u 11), .int (u 12), .long x, .int (u 14), .int (u 15)])), ((a 3), .inl (G.2 1, 121, .inl (flt h b))), ((a 5), .inl (G.2 1, 121, .inl f)), ((a 6), .inl (G.2 1, 1694, .inl D))]) := hM
  have hl : lv_has ls 1 [(0, .ref (a 0))] := hl
  refine lv_aload_n hx hb dX7_play_0 rfl (lv_at hl 0 rfl) ?_
  refine lv_aload_n hx hb dX7_play_1 rfl (lv_at hl 0 rfl) ?_
  refine z_get (ci := 7) (v := .ref (a 3)) (C := RX7) (T := TX7) (N := 16) hx hb hts (by decide +kernel) hown hK hM 0 rfl rfl 3 (by decide) (hts (.fieldLink RX7 13 "ShiftIslesModel" "now" "[I") (by decide +kernel)) (fun _ h9 => h9) rfl dX7_play_2 ?_
  refine z_callS (As := [.ref (a 3)]) (rest := [.ref (a 0)]) (wc := rfW G (a 3) h b) (wr := [((a 0), .inr (7, [.int (u 0), .ref (a 1), .int (u 2), .ref (a 3), .ref (a 4), .ref (a 5), .ref (a 6), .int (nI n), .ref (a 8), .ref (a 9), .int (u 10), .int (u 11), .int (u 12), .long x, .int (u 14), .int (u 15)])), ((a 5), .inl (G.2 1, 121, .inl f)), ((a 6), .inl (G.2 1, 1694, .inl D))]) (w1 := rfW G (a 3) h b) (ws' := [((a 0), .inr (7, [.int (u 0), .ref (a 1), .int (u 2), .ref (a 3), .ref (a 4), .ref (a 5), .ref (a 6), .int (nI n), .ref (a 8), .ref (a 9), .int (u 10), .int (u 11), .int (u 12), .long x, .int (u 14), .int (u 15)])), ((a 3), .inl (G.2 1, 121, .inl (flt h b))), ((a 5), .inl (G.2 1, 121, .inl f)), ((a 6), .inl (G.2 1, 1694, .inl D))]) ⟨hx, hb, hml, hown, hts⟩ (c_r_isOn l G (a 3) h b  ) (va_cwS 1 hts gX7_play_X7_isOn rfl rfl rfl (by decide +kernel) ⟨Nat.le_of_ble_eq_true rfl, Nat.le_of_ble_eq_true rfl⟩) rfl hl.1 rfl (Nat.le_of_ble_eq_true rfl) dX7_play_5 ⟨Nat.le_of_ble_eq_true rfl, Nat.le_of_ble_eq_true rfl⟩ hK hE hA hM (pm_at 4 [1] [0, 2, 3] rfl rfl rfl (by decide)) ((pm_at 4 [1] [0, 2, 3] rfl rfl rfl (by decide))).symm (fun H locs hM hz => ?_)
  refine z_ifeq (tgt := 15) hx hb dX7_play_8 (by decide) (fun c_1 => ?_) (fun c_1 => Bool.noConfusion (c_1.symm.trans hc))
  refine lv_iconst (v := 1) hx hb dX7_play_15 (by decide) ?_
  refine z_callV (As := [.int 1]) (rest := []) (wc := [((a 0), .inr (7, [.int (u 0), .ref (a 1), .int (u 2), .ref (a 3), .ref (a 4), .ref (a 5), .ref (a 6), .int (nI n), .ref (a 8), .ref (a 9), .int (u 10), .int (u 11), .int (u 12), .long x, .int (u 14), .int (u 15)]))]) (wr := [((a 3), .inl (G.2 1, 121, .inl (flt h b))), ((a 5), .inl (G.2 1, 121, .inl f)), ((a 6), .inl (G.2 1, 1694, .inl D))]) (w1 := [((a 0), .inr (7, [.int 1, .ref (a 1), .int (u 2), .ref (a 3), .ref (a 4), .ref (a 5), .ref (a 6), .int (nI n), .ref (a 8), .ref (a 9), .int (u 10), .int (u 11), .int (u 12), .long x, .int (u 14), .int (u 15)]))]) (ws' := [((a 0), .inr (7, [.int 1, .ref (a 1), .int (u 2), .ref (a 3), .ref (a 4), .ref (a 5), .ref (a 6), .int (nI n), .ref (a 8), .ref (a 9), .int (u 10), .int (u 11), .int (u 12), .long x, .int (u 14), .int (u 15)])), ((a 3), .inl (G.2 1, 121, .inl (flt h b))), ((a 5), .inl (G.2 1, 121, .inl f)), ((a 6), .inl (G.2 1, 1694, .inl D))]) ⟨hx, hb, hml, hown, hts⟩ (c_refused l G (a 0) (.int (u 0)) (.ref (a 1)) (.int (u 2)) (.ref (a 3)) (.ref (a 4)) (.ref (a 5)) (.ref (a 6)) (.int (nI n)) (.ref (a 8)) (.ref (a 9)) (.int (u 10)) (.int (u 11)) (.int (u 12)) (.long x) (.int (u 14)) (.int (u 15)) 1) (cwV 1 hts gX7_play_X7_refused rfl rfl rfl (by decide +kernel) ⟨Nat.le_of_ble_eq_true rfl, Nat.le_of_ble_eq_true rfl⟩) 7 rfl rfl rfl rfl hl.1 rfl (Nat.le_of_ble_eq_true rfl) dX7_play_16 ⟨Nat.le_of_ble_eq_true rfl, Nat.le_of_ble_eq_true rfl⟩ hK hE hA hM (pm_at 4 [0] [1, 2, 3] rfl rfl rfl (by decide)) ((pm_at 4 [0] [1, 2, 3] rfl rfl rfl (by decide))).symm (fun H locs hM hz => ?_)
  refine z_ifeq (tgt := 24) hx hb dX7_play_19 (by decide) (fun c_2 => absurd c_2 (by decide)) (fun c_2 => ?_)
  refine lv_iconst (v := 0) hx hb dX7_play_22 (by decide) ?_
  exact z_iret hx hb hr hlocks dX7_play_23 hM (Nat.le_of_ble_eq_true rfl) (Nat.le_of_ble_eq_true rfl) rfl

set_option maxHeartbeats 4000000 in
set_option maxRecDepth 100000 in
theorem c_r_play0 (l : Launch) (G : zC) (a : Nat → Nat) (u : Nat → Int32) (x : Int64) (f : Nat → Int32) (h : Nat → Int32) (b : Nat → Nat → Int32) (n : Nat) (D : Nat → Int32) (hn14 : n ≤ 14) (P t S : Nat) (hg : zWf h b P t S) (sf : Nat → Int32) (hP0 : 0 < P) (hC : h 2 = 0 → ¬ (zCs h b S P sf).1 = -1) (hGs : ¬ zSp (b t) = -1) (hc : zRu h = true) : zMet l G yX7_play wsX7_play rmX7_play [.ref (a 0)] ([((a 0), .inr (7, [.int (u 0), .ref (a 1), .int (u 2), .ref (a 3), .ref (a 4), .ref (a 5), .ref (a 6), .int (nI n), .ref (a 8), .ref (a 9), .int (u 10), .int (u 11), .int (u 12), .long x, .int (u 14), .int (u 15)])), ((a 3), .inl (G.2 1, 121, .inl (flt h b))), ((a 5), .inl (G.2 1, 121, .inl f)), ((a 6), .inl (G.2 1, 1694, .inl D))]) (some (.int (zFtR h b P t S sf))) ([((a 0), .inr (7, [.int 0, .ref (a 1), .int (u 2), .ref (a 3), .ref (a 4), .ref (a 5), .ref (a 6), .int (nI (zrN n)), .ref (a 8), .ref (a 9), .int (if h 2 = 0 then (zFs h b S P (u 11) (u 12) f).1 else u 10), .int (if h 2 = 0 then (zFs h b S P (u 11) (u 12) f).2.1 else u 11), .int (if h 2 = 0 then (zFs h b S P (u 11) (u 12) f).2.2.1 else u 12), .long x, .int (u 14), .int (u 15)])), ((a 3), .inl (G.2 1, 121, .inl (flt (zFtH h b P t S sf) (zFtB h b P t S sf)))), ((a 5), .inl (G.2 1, 121, .inl (if h 2 = 0 then (zFs h b S P (u 11) (u 12) f).2.2.2.2 else f))), ((a 6), .inl (G.2 1, 1694, .inl (zrD n (flt h b) D)))]) := by
  refine zMet_of (cc := cX7_play) (maxL := 1) (ret := (some .int)) (by decide) rfl (Nat.le_of_ble_eq_true rfl) ?_
  intro p e s m below meth c A ls hx hb hr hml hown hts hK hA hE hlocks hin hM hl
  have hown : s.vm.findClass RX7 = some m.cls := hown
  have hM : zM G A s s.heap [] ([((a 0), .inr (7, [.int (u 0), .ref (a 1), .int (u 2), .ref (a 3), .ref (a 4), .ref (a 5), .ref (a 6), .int (nI n), .ref (a 8), .ref (a 9), .int (u 10), .int (u 11), .int (u 12), .long x, .int (u 14), .int (u 15)])), ((a 3), .inl (G.2 1, 121, .inl (flt h b))), ((a 5), .inl (G.2 1, 121, .inl f)), ((a 6), .inl (G.2 1, 1694, .inl D))]) := hM
  have hl : lv_has ls 1 [(0, .ref (a 0))] := hl
  refine lv_aload_n hx hb dX7_play_0 rfl (lv_at hl 0 rfl) ?_
  refine lv_aload_n hx hb dX7_play_1 rfl (lv_at hl 0 rfl) ?_
  refine z_get (ci := 7) (v := .ref (a 3)) (C := RX7) (T := TX7) (N := 16) hx hb hts (by decide +kernel) hown hK hM 0 rfl rfl 3 (by decide) (hts (.fieldLink RX7 13 "ShiftIslesModel" "now" "[I") (by decide +kernel)) (fun _ h9 => h9) rfl dX7_play_2 ?_
  refine z_callS (As := [.ref (a 3)]) (rest := [.ref (a 0)]) (wc := rfW G (a 3) h b) (wr := [((a 0), .inr (7, [.int (u 0), .ref (a 1), .int (u 2), .ref (a 3), .ref (a 4), .ref (a 5), .ref (a 6), .int (nI n), .ref (a 8), .ref (a 9), .int (u 10), .int (u 11), .int (u 12), .long x, .int (u 14), .int (u 15)])), ((a 5), .inl (G.2 1, 121, .inl f)), ((a 6), .inl (G.2 1, 1694, .inl D))]) (w1 := rfW G (a 3) h b) (ws' := [((a 0), .inr (7, [.int (u 0), .ref (a 1), .int (u 2), .ref (a 3), .ref (a 4), .ref (a 5), .ref (a 6), .int (nI n), .ref (a 8), .ref (a 9), .int (u 10), .int (u 11), .int (u 12), .long x, .int (u 14), .int (u 15)])), ((a 3), .inl (G.2 1, 121, .inl (flt h b))), ((a 5), .inl (G.2 1, 121, .inl f)), ((a 6), .inl (G.2 1, 1694, .inl D))]) ⟨hx, hb, hml, hown, hts⟩ (c_r_isOn l G (a 3) h b  ) (va_cwS 1 hts gX7_play_X7_isOn rfl rfl rfl (by decide +kernel) ⟨Nat.le_of_ble_eq_true rfl, Nat.le_of_ble_eq_true rfl⟩) rfl hl.1 rfl (Nat.le_of_ble_eq_true rfl) dX7_play_5 ⟨Nat.le_of_ble_eq_true rfl, Nat.le_of_ble_eq_true rfl⟩ hK hE hA hM (pm_at 4 [1] [0, 2, 3] rfl rfl rfl (by decide)) ((pm_at 4 [1] [0, 2, 3] rfl rfl rfl (by decide))).symm (fun H locs hM hz => ?_)
  refine z_ifeq (tgt := 15) hx hb dX7_play_8 (by decide) (fun c_1 => Bool.noConfusion (hc.symm.trans c_1)) (fun c_1 => ?_)
  refine lv_iconst (v := 0) hx hb dX7_play_11 (by decide) ?_
  refine lv_goto (tgt := 16) hx hb dX7_play_12 (by decide) ?_
  refine z_callV (As := [.int 0]) (rest := []) (wc := [((a 0), .inr (7, [.int (u 0), .ref (a 1), .int (u 2), .ref (a 3), .ref (a 4), .ref (a 5), .ref (a 6), .int (nI n), .ref (a 8), .ref (a 9), .int (u 10), .int (u 11), .int (u 12), .long x, .int (u 14), .int (u 15)]))]) (wr := [((a 3), .inl (G.2 1, 121, .inl (flt h b))), ((a 5), .inl (G.2 1, 121, .inl f)), ((a 6), .inl (G.2 1, 1694, .inl D))]) (w1 := [((a 0), .inr (7, [.int 0, .ref (a 1), .int (u 2), .ref (a 3), .ref (a 4), .ref (a 5), .ref (a 6), .int (nI n), .ref (a 8), .ref (a 9), .int (u 10), .int (u 11), .int (u 12), .long x, .int (u 14), .int (u 15)]))]) (ws' := [((a 0), .inr (7, [.int 0, .ref (a 1), .int (u 2), .ref (a 3), .ref (a 4), .ref (a 5), .ref (a 6), .int (nI n), .ref (a 8), .ref (a 9), .int (u 10), .int (u 11), .int (u 12), .long x, .int (u 14), .int (u 15)])), ((a 3), .inl (G.2 1, 121, .inl (flt h b))), ((a 5), .inl (G.2 1, 121, .inl f)), ((a 6), .inl (G.2 1, 1694, .inl D))]) ⟨hx, hb, hml, hown, hts⟩ (c_refused l G (a 0) (.int (u 0)) (.ref (a 1)) (.int (u 2)) (.ref (a 3)) (.ref (a 4)) (.ref (a 5)) (.ref (a 6)) (.int (nI n)) (.ref (a 8)) (.ref (a 9)) (.int (u 10)) (.int (u 11)) (.int (u 12)) (.long x) (.int (u 14)) (.int (u 15)) 0) (cwV 1 hts gX7_play_X7_refused rfl rfl rfl (by decide +kernel) ⟨Nat.le_of_ble_eq_true rfl, Nat.le_of_ble_eq_true rfl⟩) 7 rfl rfl rfl rfl hl.1 rfl (Nat.le_of_ble_eq_true rfl) dX7_play_16 ⟨Nat.le_of_ble_eq_true rfl, Nat.le_of_ble_eq_true rfl⟩ hK hE hA hM (pm_at 4 [0] [1, 2, 3] rfl rfl rfl (by decide)) ((pm_at 4 [0] [1, 2, 3] rfl rfl rfl (by decide))).symm (fun H locs hM hz => ?_)
  refine z_ifeq (tgt := 24) hx hb dX7_play_19 (by decide) (fun c_2 => ?_) (fun c_2 => absurd c_2 (by decide))
  refine lv_aload_n hx hb dX7_play_24 rfl (lv_at hl 0 rfl) ?_
  refine z_callV (As := []) (rest := []) (wc := [((a 0), .inr (7, [.int 0, .ref (a 1), .int (u 2), .ref (a 3), .ref (a 4), .ref (a 5), .ref (a 6), .int (nI n), .ref (a 8), .ref (a 9), .int (u 10), .int (u 11), .int (u 12), .long x, .int (u 14), .int (u 15)])), ((a 3), .inl (G.2 1, 121, .inl (flt h b))), ((a 6), .inl (G.2 1, 1694, .inl D))]) (wr := [((a 5), .inl (G.2 1, 121, .inl f))]) (w1 := [((a 0), .inr (7, [.int 0, .ref (a 1), .int (u 2), .ref (a 3), .ref (a 4), .ref (a 5), .ref (a 6), .int (nI (zrN n)), .ref (a 8), .ref (a 9), .int (u 10), .int (u 11), .int (u 12), .long x, .int (u 14), .int (u 15)])), ((a 3), .inl (G.2 1, 121, .inl (flt h b))), ((a 6), .inl (G.2 1, 1694, .inl (zrD n (flt h b) D)))]) (ws' := [((a 0), .inr (7, [.int 0, .ref (a 1), .int (u 2), .ref (a 3), .ref (a 4), .ref (a 5), .ref (a 6), .int (nI (zrN n)), .ref (a 8), .ref (a 9), .int (u 10), .int (u 11), .int (u 12), .long x, .int (u 14), .int (u 15)])), ((a 3), .inl (G.2 1, 121, .inl (flt h b))), ((a 5), .inl (G.2 1, 121, .inl f)), ((a 6), .inl (G.2 1, 1694, .inl (zrD n (flt h b) D)))]) ⟨hx, hb, hml, hown, hts⟩ (c_remember l G (a 0) (.int 0) (.ref (a 1)) (.int (u 2)) (.ref (a 4)) (.ref (a 5)) (.ref (a 8)) (.ref (a 9)) (.int (u 10)) (.int (u 11)) (.int (u 12)) (.long x) (.int (u 14)) (.int (u 15)) (a 3) (a 6) h b n D hn14) (cwV 0 hts gX7_play_X7_remember rfl rfl rfl (by decide +kernel) ⟨Nat.le_of_ble_eq_true rfl, Nat.le_of_ble_eq_true rfl⟩) 7 rfl rfl rfl rfl hl.1 rfl (Nat.le_of_ble_eq_true rfl) dX7_play_25 ⟨Nat.le_of_ble_eq_true rfl, Nat.le_of_ble_eq_true rfl⟩ hK hE hA hM (pm_at 4 [0, 1, 3] [2] rfl rfl rfl (by decide)) ((pm_at 4 [0, 1, 3] [2] rfl rfl rfl (by decide))).symm (fun H locs hM hz => ?_)
  refine lv_aload_n hx hb dX7_play_28 rfl (lv_at hl 0 rfl) ?_
  refine lv_aload_n hx hb dX7_play_29 rfl (lv_at hl 0 rfl) ?_
  refine z_get (ci := 7) (v := .ref (a 3)) (C := RX7) (T := TX7) (N := 16) hx hb hts (by decide +kernel) hown hK hM 0 rfl rfl 3 (by decide) (hts (.fieldLink RX7 13 "ShiftIslesModel" "now" "[I") (by decide +kernel)) (fun _ h9 => h9) rfl dX7_play_30 ?_
  refine z_callV (As := [.ref (a 3)]) (rest := []) (wc := [((a 0), .inr (7, [.int 0, .ref (a 1), .int (u 2), .ref (a 3), .ref (a 4), .ref (a 5), .ref (a 6), .int (nI (zrN n)), .ref (a 8), .ref (a 9), .int (u 10), .int (u 11), .int (u 12), .long x, .int (u 14), .int (u 15)])), ((a 3), .inl (G.2 1, 121, .inl (flt h b))), ((a 5), .inl (G.2 1, 121, .inl f))]) (wr := [((a 6), .inl (G.2 1, 1694, .inl (zrD n (flt h b) D)))]) (w1 := [((a 0), .inr (7, [.int 0, .ref (a 1), .int (u 2), .ref (a 3), .ref (a 4), .ref (a 5), .ref (a 6), .int (nI (zrN n)), .ref (a 8), .ref (a 9), .int (if h 2 = 0 then (zFs h b S P (u 11) (u 12) f).1 else u 10), .int (if h 2 = 0 then (zFs h b S P (u 11) (u 12) f).2.1 else u 11), .int (if h 2 = 0 then (zFs h b S P (u 11) (u 12) f).2.2.1 else u 12), .long x, .int (u 14), .int (u 15)])), ((a 3), .inl (G.2 1, 121, .inl (flt (zFtH h b P t S sf) (zFtB h b P t S sf)))), ((a 5), .inl (G.2 1, 121, .inl (if h 2 = 0 then (zFs h b S P (u 11) (u 12) f).2.2.2.2 else f)))]) (ws' := [((a 0), .inr (7, [.int 0, .ref (a 1), .int (u 2), .ref (a 3), .ref (a 4), .ref (a 5), .ref (a 6), .int (nI (zrN n)), .ref (a 8), .ref (a 9), .int (if h 2 = 0 then (zFs h b S P (u 11) (u 12) f).1 else u 10), .int (if h 2 = 0 then (zFs h b S P (u 11) (u 12) f).2.1 else u 11), .int (if h 2 = 0 then (zFs h b S P (u 11) (u 12) f).2.2.1 else u 12), .long x, .int (u 14), .int (u 15)])), ((a 3), .inl (G.2 1, 121, .inl (flt (zFtH h b P t S sf) (zFtB h b P t S sf)))), ((a 5), .inl (G.2 1, 121, .inl (if h 2 = 0 then (zFs h b S P (u 11) (u 12) f).2.2.2.2 else f))), ((a 6), .inl (G.2 1, 1694, .inl (zrD n (flt h b) D)))]) ⟨hx, hb, hml, hown, hts⟩ (c_playOn l G a (upd (upd u 0 0) 7 (nI (zrN n))) x f (a 3) h b P t S hg sf hP0 hC hGs) (cwV 1 hts gX7_play_X7_playOn rfl rfl rfl (by decide +kernel) ⟨Nat.le_of_ble_eq_true rfl, Nat.le_of_ble_eq_true rfl⟩) 7 rfl rfl rfl rfl hl.1 rfl (Nat.le_of_ble_eq_true rfl) dX7_play_33 ⟨Nat.le_of_ble_eq_true rfl, Nat.le_of_ble_eq_true rfl⟩ hK hE hA hM (pm_at 4 [0, 1, 2] [3] rfl rfl rfl (by decide)) ((pm_at 4 [0, 1, 2] [3] rfl rfl rfl (by decide))).symm (fun H locs hM hz => ?_)
  exact z_iret hx hb hr hlocks dX7_play_36 hM (Nat.le_of_ble_eq_true rfl) (Nat.le_of_ble_eq_true rfl) rfl
/-! REFERENCE, eleventh part -/
theorem zI0_8n {d : Int32} (h : zI0 d.toInt64 0 8 = true) : ∃ j, j < 9 ∧ d = nI j := by
  rw [zI0_pl] at h
  exact vp_in_of (zPl_in h) (by decide)
set_option maxHeartbeats 4000000 in
set_option maxRecDepth 100000 in
theorem c_r_player1 (l : Launch) (G : zC) (q : Nat) (v0 v1 v2 v4 v5 v6 v7 v8 v9 v10 v11 v12 v13 v14 v15 : Value) (w3 : Nat) (h : Nat → Int32) (b : Nat → Nat → Int32) (P : Nat) (hP : h 0 = nI P) (hP4 : P ≤ 4) (i d : Int32) (hc : zHp h i = false) : zMet l G yX7_player wsX7_player rmX7_player [.ref q, .int i, .int d] ([(q, .inr (7, [v0, v1, v2, .ref w3, v4, v5, v6, v7, v8, v9, v10, v11, v12, v13, v14, v15])), (w3, .inl (G.2 1, 121, .inl (flt h b)))]) (some (.int 0)) ([(q, .inr (7, [.int 1, v1, v2, .ref w3, v4, v5, v6, v7, v8, v9, v10, v11, v12, v13, v14, v15])), (w3, .inl (G.2 1, 121, .inl (flt h b)))]) := by
  refine zMet_of (cc := cX7_player) (maxL := 3) (ret := (some .int)) (by decide) rfl (Nat.le_of_ble_eq_true rfl) ?_
  intro p e s m below meth c A ls hx hb hr hml hown hts hK hA hE hlocks hin hM hl
  have hown : s.vm.findClass RX7 = some m.cls := hown
  have hM : zM G A s s.heap [] ([(q, .inr (7, [v0, v1, v2, .ref w3, v4, v5, v6, v7, v8, v9, v10, v11, v12, v13, v14, v15])), (w3, .inl (G.2 1, 121, .inl (flt h b)))]) := hM
  have hl : lv_has ls 3 [(0, .ref q), (1, .int i), (2, .int d)] := hl
  refine lv_aload_n hx hb dX7_player_0 rfl (lv_at hl 0 rfl) ?_
  refine lv_aload_n hx hb dX7_player_1 rfl (lv_at hl 0 rfl) ?_
  refine z_get (ci := 7) (v := .ref w3) (C := RX7) (T := TX7) (N := 16) hx hb hts (by decide +kernel) hown hK hM 0 rfl rfl 3 (by decide) (hts (.fieldLink RX7 13 "ShiftIslesModel" "now" "[I") (by decide +kernel)) (fun _ h9 => h9) rfl dX7_player_2 ?_
  refine lv_iload_n hx hb dX7_player_5 rfl (lv_at hl 1 rfl) ?_
  refine z_callS (As := [.ref w3, .int i]) (rest := [.ref q]) (wc := rfW G w3 h b) (wr := [(q, .inr (7, [v0, v1, v2, .ref w3, v4, v5, v6, v7, v8, v9, v10, v11, v12, v13, v14, v15]))]) (w1 := rfW G w3 h b) (ws' := [(q, .inr (7, [v0, v1, v2, .ref w3, v4, v5, v6, v7, v8, v9, v10, v11, v12, v13, v14, v15])), (w3, .inl (G.2 1, 121, .inl (flt h b)))]) ⟨hx, hb, hml, hown, hts⟩ (c_r_isPlayer l G w3 h b P hP hP4 i ) (va_cwS 2 hts gX7_player_X7_isPlayer rfl rfl rfl (by decide +kernel) ⟨Nat.le_of_ble_eq_true rfl, Nat.le_of_ble_eq_true rfl⟩) rfl hl.1 rfl (Nat.le_of_ble_eq_true rfl) dX7_player_6 ⟨Nat.le_of_ble_eq_true rfl, Nat.le_of_ble_eq_true rfl⟩ hK hE hA hM (pm_at 2 [1] [0] rfl rfl rfl (by decide)) ((pm_at 2 [1] [0] rfl rfl rfl (by decide))).symm (fun H locs hM hz => ?_)
  refine z_ifne (tgt := 16) hx hb dX7_player_9 (by decide) (fun c_1 => Bool.noConfusion (c_1.symm.trans hc)) (fun c_1 => ?_)
  refine lv_iconst (v := 1) hx hb dX7_player_12 (by decide) ?_
  refine lv_goto (tgt := 33) hx hb dX7_player_13 (by decide) ?_
  refine z_callV (As := [.int 1]) (rest := []) (wc := [(q, .inr (7, [v0, v1, v2, .ref w3, v4, v5, v6, v7, v8, v9, v10, v11, v12, v13, v14, v15]))]) (wr := [(w3, .inl (G.2 1, 121, .inl (flt h b)))]) (w1 := [(q, .inr (7, [.int 1, v1, v2, .ref w3, v4, v5, v6, v7, v8, v9, v10, v11, v12, v13, v14, v15]))]) (ws' := [(q, .inr (7, [.int 1, v1, v2, .ref w3, v4, v5, v6, v7, v8, v9, v10, v11, v12, v13, v14, v15])), (w3, .inl (G.2 1, 121, .inl (flt h b)))]) ⟨hx, hb, hml, hown, hts⟩ (c_refused l G q v0 v1 v2 (.ref w3) v4 v5 v6 v7 v8 v9 v10 v11 v12 v13 v14 v15 1) (cwV 1 hts gX7_player_X7_refused rfl rfl rfl (by decide +kernel) ⟨Nat.le_of_ble_eq_true rfl, Nat.le_of_ble_eq_true rfl⟩) 7 rfl rfl rfl rfl hl.1 rfl (Nat.le_of_ble_eq_true rfl) dX7_player_33 ⟨Nat.le_of_ble_eq_true rfl, Nat.le_of_ble_eq_true rfl⟩ hK hE hA hM (pm_at 2 [0] [1] rfl rfl rfl (by decide)) ((pm_at 2 [0] [1] rfl rfl rfl (by decide))).symm (fun H locs hM hz => ?_)
  refine z_ifeq (tgt := 41) hx hb dX7_player_36 (by decide) (fun c_2 => absurd c_2 (by decide)) (fun c_2 => ?_)
  refine lv_iconst (v := 0) hx hb dX7_player_39 (by decide) ?_
  exact z_iret hx hb hr hlocks dX7_player_40 hM (Nat.le_of_ble_eq_true rfl) (Nat.le_of_ble_eq_true rfl) rfl

set_option maxHeartbeats 4000000 in
set_option maxRecDepth 100000 in
theorem c_r_player2 (l : Launch) (G : zC) (q : Nat) (v0 v1 v2 v4 v5 v6 v7 v8 v9 v10 v11 v12 v13 v14 v15 : Value) (w3 : Nat) (h : Nat → Int32) (b : Nat → Nat → Int32) (P : Nat) (hP : h 0 = nI P) (hP4 : P ≤ 4) (i d : Int32) (hi : zHp h i = true) (hc : zI0 d.toInt64 0 8 = false) : zMet l G yX7_player wsX7_player rmX7_player [.ref q, .int i, .int d] ([(q, .inr (7, [v0, v1, v2, .ref w3, v4, v5, v6, v7, v8, v9, v10, v11, v12, v13, v14, v15])), (w3, .inl (G.2 1, 121, .inl (flt h b)))]) (some (.int 0)) ([(q, .inr (7, [.int 2, v1, v2, .ref w3, v4, v5, v6, v7, v8, v9, v10, v11, v12, v13, v14, v15])), (w3, .inl (G.2 1, 121, .inl (flt h b)))]) := by
  refine zMet_of (cc := cX7_player) (maxL := 3) (ret := (some .int)) (by decide) rfl (Nat.le_of_ble_eq_true rfl) ?_
  intro p e s m below meth c A ls hx hb hr hml hown hts hK hA hE hlocks hin hM hl
  have hown : s.vm.findClass RX7 = some m.cls := hown
  have hM : zM G A s s.heap [] ([(q, .inr (7, [v0, v1, v2, .ref w3, v4, v5, v6, v7, v8, v9, v10, v11, v12, v13, v14, v15])), (w3, .inl (G.2 1, 121, .inl (flt h b)))]) := hM
  have hl : lv_has ls 3 [(0, .ref q), (1, .int i), (2, .int d)] := hl
  refine lv_aload_n hx hb dX7_player_0 rfl (lv_at hl 0 rfl) ?_
  refine lv_aload_n hx hb dX7_player_1 rfl (lv_at hl 0 rfl) ?_
  refine z_get (ci := 7) (v := .ref w3) (C := RX7) (T := TX7) (N := 16) hx hb hts (by decide +kernel) hown hK hM 0 rfl rfl 3 (by decide) (hts (.fieldLink RX7 13 "ShiftIslesModel" "now" "[I") (by decide +kernel)) (fun _ h9 => h9) rfl dX7_player_2 ?_
  refine lv_iload_n hx hb dX7_player_5 rfl (lv_at hl 1 rfl) ?_
  refine z_callS (As := [.ref w3, .int i]) (rest := [.ref q]) (wc := rfW G w3 h b) (wr := [(q, .inr (7, [v0, v1, v2, .ref w3, v4, v5, v6, v7, v8, v9, v10, v11, v12, v13, v14, v15]))]) (w1 := rfW G w3 h b) (ws' := [(q, .inr (7, [v0, v1, v2, .ref w3, v4, v5, v6, v7, v8, v9, v10, v11, v12, v13, v14, v15])), (w3, .inl (G.2 1, 121, .inl (flt h b)))]) ⟨hx, hb, hml, hown, hts⟩ (c_r_isPlayer l G w3 h b P hP hP4 i ) (va_cwS 2 hts gX7_player_X7_isPlayer rfl rfl rfl (by decide +kernel) ⟨Nat.le_of_ble_eq_true rfl, Nat.le_of_ble_eq_true rfl⟩) rfl hl.1 rfl (Nat.le_of_ble_eq_true rfl) dX7_player_6 ⟨Nat.le_of_ble_eq_true rfl, Nat.le_of_ble_eq_true rfl⟩ hK hE hA hM (pm_at 2 [1] [0] rfl rfl rfl (by decide)) ((pm_at 2 [1] [0] rfl rfl rfl (by decide))).symm (fun H locs hM hz => ?_)
  refine z_ifne (tgt := 16) hx hb dX7_player_9 (by decide) (fun c_1 => ?_) (fun c_1 => Bool.noConfusion (hi.symm.trans c_1))
  refine lv_iload_n hx hb dX7_player_16 rfl (lv_at hl 2 rfl) ?_
  refine lv_i2l (v := d.toInt64) hx hb dX7_player_17 rfl ?_
  refine lv_lconst (v := 0) hx hb dX7_player_18 (by decide) ?_
  refine lv_ldc2 (v := 8) hx hb hown (hts (.constantLong RX7 44 8) (by decide +kernel)) dX7_player_19 ?_
  refine z_callS (As := [.long d.toInt64, .long 0, .long 8]) (rest := [.ref q]) (wc := []) (wr := [(q, .inr (7, [v0, v1, v2, .ref w3, v4, v5, v6, v7, v8, v9, v10, v11, v12, v13, v14, v15])), (w3, .inl (G.2 1, 121, .inl (flt h b)))]) (w1 := []) (ws' := [(q, .inr (7, [v0, v1, v2, .ref w3, v4, v5, v6, v7, v8, v9, v10, v11, v12, v13, v14, v15])), (w3, .inl (G.2 1, 121, .inl (flt h b)))]) ⟨hx, hb, hml, hown, hts⟩ (c_in l G d.toInt64 0 8) (va_cwS 3 hts gX7_player_X7_in rfl rfl rfl (by decide +kernel) ⟨Nat.le_of_ble_eq_true rfl, Nat.le_of_ble_eq_true rfl⟩) rfl hl.1 rfl (Nat.le_of_ble_eq_true rfl) dX7_player_22 ⟨Nat.le_of_ble_eq_true rfl, Nat.le_of_ble_eq_true rfl⟩ hK hE hA hM (List.Perm.refl _) (List.Perm.refl _) (fun H locs hM hz => ?_)
  refine z_ifeq (tgt := 32) hx hb dX7_player_25 (by decide) (fun c_2 => ?_) (fun c_2 => Bool.noConfusion (c_2.symm.trans hc))
  refine lv_iconst (v := 2) hx hb dX7_player_32 (by decide) ?_
  refine z_callV (As := [.int 2]) (rest := []) (wc := [(q, .inr (7, [v0, v1, v2, .ref w3, v4, v5, v6, v7, v8, v9, v10, v11, v12, v13, v14, v15]))]) (wr := [(w3, .inl (G.2 1, 121, .inl (flt h b)))]) (w1 := [(q, .inr (7, [.int 2, v1, v2, .ref w3, v4, v5, v6, v7, v8, v9, v10, v11, v12, v13, v14, v15]))]) (ws' := [(q, .inr (7, [.int 2, v1, v2, .ref w3, v4, v5, v6, v7, v8, v9, v10, v11, v12, v13, v14, v15])), (w3, .inl (G.2 1, 121, .inl (flt h b)))]) ⟨hx, hb, hml, hown, hts⟩ (c_refused l G q v0 v1 v2 (.ref w3) v4 v5 v6 v7 v8 v9 v10 v11 v12 v13 v14 v15 2) (cwV 1 hts gX7_player_X7_refused rfl rfl rfl (by decide +kernel) ⟨Nat.le_of_ble_eq_true rfl, Nat.le_of_ble_eq_true rfl⟩) 7 rfl rfl rfl rfl hl.1 rfl (Nat.le_of_ble_eq_true rfl) dX7_player_33 ⟨Nat.le_of_ble_eq_true rfl, Nat.le_of_ble_eq_true rfl⟩ hK hE hA hM (pm_at 2 [0] [1] rfl rfl rfl (by decide)) ((pm_at 2 [0] [1] rfl rfl rfl (by decide))).symm (fun H locs hM hz => ?_)
  refine z_ifeq (tgt := 41) hx hb dX7_player_36 (by decide) (fun c_3 => absurd c_3 (by decide)) (fun c_3 => ?_)
  refine lv_iconst (v := 0) hx hb dX7_player_39 (by decide) ?_
  exact z_iret hx hb hr hlocks dX7_player_40 hM (Nat.le_of_ble_eq_true rfl) (Nat.le_of_ble_eq_true rfl) rfl

set_option maxHeartbeats 4000000 in
set_option maxRecDepth 100000 in
theorem c_r_player0 (l : Launch) (G : zC) (q : Nat) (v0 v1 v2 v4 v5 v6 v7 v8 v9 v10 v11 v12 v13 v14 v15 : Value) (w3 : Nat) (h : Nat → Int32) (b : Nat → Nat → Int32) (P t S : Nat) (hg : zWf h b P t S) (o : Nat) (d : Int32) (ho : o < P) (hc : zI0 d.toInt64 0 8 = true) : zMet l G yX7_player wsX7_player rmX7_player [.ref q, .int (nI o), .int d] ([(q, .inr (7, [v0, v1, v2, .ref w3, v4, v5, v6, v7, v8, v9, v10, v11, v12, v13, v14, v15])), (w3, .inl (G.2 1, 121, .inl (flt h b)))]) (some (.int (if d = 0 then b o 24 else if d = 1 then b o 23 else if d = 2 then zSo (b o) else if d = 3 then zSp (b o) else if d = 4 then b o 25 else if d = 5 then b o 26 else if d = 6 then b o 27 else if d = 7 then zRch (b o) S else if d = 8 then zb (zIn (zRch (b o) S) (zSp (b o))) else 0))) ([(q, .inr (7, [.int 0, v1, v2, .ref w3, v4, v5, v6, v7, v8, v9, v10, v11, v12, v13, v14, v15])), (w3, .inl (G.2 1, 121, .inl (flt h b)))]) := by
  refine zMet_of (cc := cX7_player) (maxL := 3) (ret := (some .int)) (by decide) rfl (Nat.le_of_ble_eq_true rfl) ?_
  intro p e s m below meth c A ls hx hb hr hml hown hts hK hA hE hlocks hin hM hl
  have hown : s.vm.findClass RX7 = some m.cls := hown
  have hM : zM G A s s.heap [] ([(q, .inr (7, [v0, v1, v2, .ref w3, v4, v5, v6, v7, v8, v9, v10, v11, v12, v13, v14, v15])), (w3, .inl (G.2 1, 121, .inl (flt h b)))]) := hM
  have hl : lv_has ls 3 [(0, .ref q), (1, .int (nI o)), (2, .int d)] := hl
  have hP := hg.1.1
  have hP4 := hg.1.2.1
  have h6 := hg.1.2.2.2.2.1
  have hS := hg.1.2.2.2.2.2.1
  have hi := (zHp_lt hP hP4 (k := o) (by omega)).mpr ho
  have hwo : zBw (b o) := hg.2.2 o ho
  refine lv_aload_n hx hb dX7_player_0 rfl (lv_at hl 0 rfl) ?_
  refine lv_aload_n hx hb dX7_player_1 rfl (lv_at hl 0 rfl) ?_
  refine z_get (ci := 7) (v := .ref w3) (C := RX7) (T := TX7) (N := 16) hx hb hts (by decide +kernel) hown hK hM 0 rfl rfl 3 (by decide) (hts (.fieldLink RX7 13 "ShiftIslesModel" "now" "[I") (by decide +kernel)) (fun _ h9 => h9) rfl dX7_player_2 ?_
  refine lv_iload_n hx hb dX7_player_5 rfl (lv_at hl 1 rfl) ?_
  refine z_callS (As := [.ref w3, .int (nI o)]) (rest := [.ref q]) (wc := rfW G w3 h b) (wr := [(q, .inr (7, [v0, v1, v2, .ref w3, v4, v5, v6, v7, v8, v9, v10, v11, v12, v13, v14, v15]))]) (w1 := rfW G w3 h b) (ws' := [(q, .inr (7, [v0, v1, v2, .ref w3, v4, v5, v6, v7, v8, v9, v10, v11, v12, v13, v14, v15])), (w3, .inl (G.2 1, 121, .inl (flt h b)))]) ⟨hx, hb, hml, hown, hts⟩ (c_r_isPlayer l G w3 h b P hP hP4 (nI o) ) (va_cwS 2 hts gX7_player_X7_isPlayer rfl rfl rfl (by decide +kernel) ⟨Nat.le_of_ble_eq_true rfl, Nat.le_of_ble_eq_true rfl⟩) rfl hl.1 rfl (Nat.le_of_ble_eq_true rfl) dX7_player_6 ⟨Nat.le_of_ble_eq_true rfl, Nat.le_of_ble_eq_true rfl⟩ hK hE hA hM (pm_at 2 [1] [0] rfl rfl rfl (by decide)) ((pm_at 2 [1] [0] rfl rfl rfl (by decide))).symm (fun H locs hM hz => ?_)
  refine z_ifne (tgt := 16) hx hb dX7_player_9 (by decide) (fun c_1 => ?_) (fun c_1 => Bool.noConfusion (hi.symm.trans c_1))
  refine lv_iload_n hx hb dX7_player_16 rfl (lv_at hl 2 rfl) ?_
  refine lv_i2l (v := d.toInt64) hx hb dX7_player_17 rfl ?_
  refine lv_lconst (v := 0) hx hb dX7_player_18 (by decide) ?_
  refine lv_ldc2 (v := 8) hx hb hown (hts (.constantLong RX7 44 8) (by decide +kernel)) dX7_player_19 ?_
  refine z_callS (As := [.long d.toInt64, .long 0, .long 8]) (rest := [.ref q]) (wc := []) (wr := [(q, .inr (7, [v0, v1, v2, .ref w3, v4, v5, v6, v7, v8, v9, v10, v11, v12, v13, v14, v15])), (w3, .inl (G.2 1, 121, .inl (flt h b)))]) (w1 := []) (ws' := [(q, .inr (7, [v0, v1, v2, .ref w3, v4, v5, v6, v7, v8, v9, v10, v11, v12, v13, v14, v15])), (w3, .inl (G.2 1, 121, .inl (flt h b)))]) ⟨hx, hb, hml, hown, hts⟩ (c_in l G d.toInt64 0 8) (va_cwS 3 hts gX7_player_X7_in rfl rfl rfl (by decide +kernel) ⟨Nat.le_of_ble_eq_true rfl, Nat.le_of_ble_eq_true rfl⟩) rfl hl.1 rfl (Nat.le_of_ble_eq_true rfl) dX7_player_22 ⟨Nat.le_of_ble_eq_true rfl, Nat.le_of_ble_eq_true rfl⟩ hK hE hA hM (List.Perm.refl _) (List.Perm.refl _) (fun H locs hM hz => ?_)
  refine z_ifeq (tgt := 32) hx hb dX7_player_25 (by decide) (fun c_2 => Bool.noConfusion (hc.symm.trans c_2)) (fun c_2 => ?_)
  refine lv_iconst (v := 0) hx hb dX7_player_28 (by decide) ?_
  refine lv_goto (tgt := 33) hx hb dX7_player_29 (by decide) ?_
  refine z_callV (As := [.int 0]) (rest := []) (wc := [(q, .inr (7, [v0, v1, v2, .ref w3, v4, v5, v6, v7, v8, v9, v10, v11, v12, v13, v14, v15]))]) (wr := [(w3, .inl (G.2 1, 121, .inl (flt h b)))]) (w1 := [(q, .inr (7, [.int 0, v1, v2, .ref w3, v4, v5, v6, v7, v8, v9, v10, v11, v12, v13, v14, v15]))]) (ws' := [(q, .inr (7, [.int 0, v1, v2, .ref w3, v4, v5, v6, v7, v8, v9, v10, v11, v12, v13, v14, v15])), (w3, .inl (G.2 1, 121, .inl (flt h b)))]) ⟨hx, hb, hml, hown, hts⟩ (c_refused l G q v0 v1 v2 (.ref w3) v4 v5 v6 v7 v8 v9 v10 v11 v12 v13 v14 v15 0) (cwV 1 hts gX7_player_X7_refused rfl rfl rfl (by decide +kernel) ⟨Nat.le_of_ble_eq_true rfl, Nat.le_of_ble_eq_true rfl⟩) 7 rfl rfl rfl rfl hl.1 rfl (Nat.le_of_ble_eq_true rfl) dX7_player_33 ⟨Nat.le_of_ble_eq_true rfl, Nat.le_of_ble_eq_true rfl⟩ hK hE hA hM (pm_at 2 [0] [1] rfl rfl rfl (by decide)) ((pm_at 2 [0] [1] rfl rfl rfl (by decide))).symm (fun H locs hM hz => ?_)
  refine z_ifeq (tgt := 41) hx hb dX7_player_36 (by decide) (fun c_3 => ?_) (fun c_3 => absurd c_3 (by decide))
  refine lv_iload_n hx hb dX7_player_41 rfl (lv_at hl 2 rfl) ?_
  by_cases hs_4 : d = 0
  · refine lv_tableIn (off := 50) (tgt := 92) hx hb dX7_player_42 (by rw [hs_4]; decide) (by rw [hs_4]; decide) (by rw [hs_4]; rfl) (by decide) ?_
    refine lv_aload_n hx hb dX7_player_92 rfl (lv_at hl 0 rfl) ?_
    refine z_get (ci := 7) (v := .ref w3) (C := RX7) (T := TX7) (N := 16) hx hb hts (by decide +kernel) hown hK hM 0 rfl rfl 3 (by decide) (hts (.fieldLink RX7 13 "ShiftIslesModel" "now" "[I") (by decide +kernel)) (fun _ h9 => h9) rfl dX7_player_93 ?_
    refine lv_iload_n hx hb dX7_player_96 rfl (lv_at hl 1 rfl) ?_
    refine z_callS (As := [.int (nI o)]) (rest := [.ref w3]) (wc := []) (wr := [(q, .inr (7, [.int 0, v1, v2, .ref w3, v4, v5, v6, v7, v8, v9, v10, v11, v12, v13, v14, v15])), (w3, .inl (G.2 1, 121, .inl (flt h b)))]) (w1 := []) (ws' := [(q, .inr (7, [.int 0, v1, v2, .ref w3, v4, v5, v6, v7, v8, v9, v10, v11, v12, v13, v14, v15])), (w3, .inl (G.2 1, 121, .inl (flt h b)))]) ⟨hx, hb, hml, hown, hts⟩ (c_at l G o (by omega)) (va_cwS 1 hts gX7_player_X7_at rfl rfl rfl (by decide +kernel) ⟨Nat.le_of_ble_eq_true rfl, Nat.le_of_ble_eq_true rfl⟩) rfl hl.1 rfl (Nat.le_of_ble_eq_true rfl) dX7_player_97 ⟨Nat.le_of_ble_eq_true rfl, Nat.le_of_ble_eq_true rfl⟩ hK hE hA hM (List.Perm.refl _) (List.Perm.refl _) (fun H locs hM hz => ?_)
    refine lv_bipush (v := 24) hx hb dX7_player_100 (by decide) ?_
    refine lv_iadd hx hb dX7_player_102 ?_
    refine z_topi (y := nI ((9 + (28 * o)) + 24)) (nI_add (9 + (28 * o)) 24) ?_
    refine z_iald hx hb hK hM 1 rfl (v := b o 24) (vp_in_nI (by omega) (by decide)) (by rw [nI_clamp (by omega)]; exact flt_b o 24 (by omega) (by omega)) dX7_player_103 ?_
    exact z_iret hx hb hr hlocks dX7_player_104 hM (Nat.le_of_ble_eq_true rfl) (Nat.le_of_ble_eq_true rfl) (by rw [if_pos hs_4])
  by_cases hs_5 : d = 1
  · refine lv_tableIn (off := 63) (tgt := 105) hx hb dX7_player_42 (by rw [hs_5]; decide) (by rw [hs_5]; decide) (by rw [hs_5]; rfl) (by decide) ?_
    refine lv_aload_n hx hb dX7_player_105 rfl (lv_at hl 0 rfl) ?_
    refine z_get (ci := 7) (v := .ref w3) (C := RX7) (T := TX7) (N := 16) hx hb hts (by decide +kernel) hown hK hM 0 rfl rfl 3 (by decide) (hts (.fieldLink RX7 13 "ShiftIslesModel" "now" "[I") (by decide +kernel)) (fun _ h9 => h9) rfl dX7_player_106 ?_
    refine lv_iload_n hx hb dX7_player_109 rfl (lv_at hl 1 rfl) ?_
    refine z_callS (As := [.int (nI o)]) (rest := [.ref w3]) (wc := []) (wr := [(q, .inr (7, [.int 0, v1, v2, .ref w3, v4, v5, v6, v7, v8, v9, v10, v11, v12, v13, v14, v15])), (w3, .inl (G.2 1, 121, .inl (flt h b)))]) (w1 := []) (ws' := [(q, .inr (7, [.int 0, v1, v2, .ref w3, v4, v5, v6, v7, v8, v9, v10, v11, v12, v13, v14, v15])), (w3, .inl (G.2 1, 121, .inl (flt h b)))]) ⟨hx, hb, hml, hown, hts⟩ (c_at l G o (by omega)) (va_cwS 1 hts gX7_player_X7_at rfl rfl rfl (by decide +kernel) ⟨Nat.le_of_ble_eq_true rfl, Nat.le_of_ble_eq_true rfl⟩) rfl hl.1 rfl (Nat.le_of_ble_eq_true rfl) dX7_player_110 ⟨Nat.le_of_ble_eq_true rfl, Nat.le_of_ble_eq_true rfl⟩ hK hE hA hM (List.Perm.refl _) (List.Perm.refl _) (fun H locs hM hz => ?_)
    refine lv_bipush (v := 23) hx hb dX7_player_113 (by decide) ?_
    refine lv_iadd hx hb dX7_player_115 ?_
    refine z_topi (y := nI ((9 + (28 * o)) + 23)) (nI_add (9 + (28 * o)) 23) ?_
    refine z_iald hx hb hK hM 1 rfl (v := b o 23) (vp_in_nI (by omega) (by decide)) (by rw [nI_clamp (by omega)]; exact flt_b o 23 (by omega) (by omega)) dX7_player_116 ?_
    exact z_iret hx hb hr hlocks dX7_player_117 hM (Nat.le_of_ble_eq_true rfl) (Nat.le_of_ble_eq_true rfl) (by rw [if_neg hs_4, if_pos hs_5])
  by_cases hs_6 : d = 2
  · refine lv_tableIn (off := 76) (tgt := 118) hx hb dX7_player_42 (by rw [hs_6]; decide) (by rw [hs_6]; decide) (by rw [hs_6]; rfl) (by decide) ?_
    refine lv_aload_n hx hb dX7_player_118 rfl (lv_at hl 0 rfl) ?_
    refine z_get (ci := 7) (v := .ref w3) (C := RX7) (T := TX7) (N := 16) hx hb hts (by decide +kernel) hown hK hM 0 rfl rfl 3 (by decide) (hts (.fieldLink RX7 13 "ShiftIslesModel" "now" "[I") (by decide +kernel)) (fun _ h9 => h9) rfl dX7_player_119 ?_
    refine lv_iload_n hx hb dX7_player_122 rfl (lv_at hl 1 rfl) ?_
    refine z_callS (As := [.ref w3, .int (nI o)]) (rest := []) (wc := rfW G w3 h b) (wr := [(q, .inr (7, [.int 0, v1, v2, .ref w3, v4, v5, v6, v7, v8, v9, v10, v11, v12, v13, v14, v15]))]) (w1 := rfW G w3 h b) (ws' := [(q, .inr (7, [.int 0, v1, v2, .ref w3, v4, v5, v6, v7, v8, v9, v10, v11, v12, v13, v14, v15])), (w3, .inl (G.2 1, 121, .inl (flt h b)))]) ⟨hx, hb, hml, hown, hts⟩ (c_r_sought l G w3 h b o (by omega) hwo) (va_cwS 2 hts gX7_player_X7_sought rfl rfl rfl (by decide +kernel) ⟨Nat.le_of_ble_eq_true rfl, Nat.le_of_ble_eq_true rfl⟩) rfl hl.1 rfl (Nat.le_of_ble_eq_true rfl) dX7_player_123 ⟨Nat.le_of_ble_eq_true rfl, Nat.le_of_ble_eq_true rfl⟩ hK hE hA hM (pm_at 2 [1] [0] rfl rfl rfl (by decide)) ((pm_at 2 [1] [0] rfl rfl rfl (by decide))).symm (fun H locs hM hz => ?_)
    exact z_iret hx hb hr hlocks dX7_player_126 hM (Nat.le_of_ble_eq_true rfl) (Nat.le_of_ble_eq_true rfl) (by rw [if_neg hs_4, if_neg hs_5, if_pos hs_6])
  by_cases hs_7 : d = 3
  · refine lv_tableIn (off := 85) (tgt := 127) hx hb dX7_player_42 (by rw [hs_7]; decide) (by rw [hs_7]; decide) (by rw [hs_7]; rfl) (by decide) ?_
    refine lv_aload_n hx hb dX7_player_127 rfl (lv_at hl 0 rfl) ?_
    refine z_get (ci := 7) (v := .ref w3) (C := RX7) (T := TX7) (N := 16) hx hb hts (by decide +kernel) hown hK hM 0 rfl rfl 3 (by decide) (hts (.fieldLink RX7 13 "ShiftIslesModel" "now" "[I") (by decide +kernel)) (fun _ h9 => h9) rfl dX7_player_128 ?_
    refine lv_iload_n hx hb dX7_player_131 rfl (lv_at hl 1 rfl) ?_
    refine z_callS (As := [.ref w3, .int (nI o)]) (rest := []) (wc := rfW G w3 h b) (wr := [(q, .inr (7, [.int 0, v1, v2, .ref w3, v4, v5, v6, v7, v8, v9, v10, v11, v12, v13, v14, v15]))]) (w1 := rfW G w3 h b) (ws' := [(q, .inr (7, [.int 0, v1, v2, .ref w3, v4, v5, v6, v7, v8, v9, v10, v11, v12, v13, v14, v15])), (w3, .inl (G.2 1, 121, .inl (flt h b)))]) ⟨hx, hb, hml, hown, hts⟩ (c_r_pos l G w3 h b o (by omega) hwo) (va_cwS 2 hts gX7_player_X7_placeOfSought rfl rfl rfl (by decide +kernel) ⟨Nat.le_of_ble_eq_true rfl, Nat.le_of_ble_eq_true rfl⟩) rfl hl.1 rfl (Nat.le_of_ble_eq_true rfl) dX7_player_132 ⟨Nat.le_of_ble_eq_true rfl, Nat.le_of_ble_eq_true rfl⟩ hK hE hA hM (pm_at 2 [1] [0] rfl rfl rfl (by decide)) ((pm_at 2 [1] [0] rfl rfl rfl (by decide))).symm (fun H locs hM hz => ?_)
    exact z_iret hx hb hr hlocks dX7_player_135 hM (Nat.le_of_ble_eq_true rfl) (Nat.le_of_ble_eq_true rfl) (by rw [if_neg hs_4, if_neg hs_5, if_neg hs_6, if_pos hs_7])
  by_cases hs_8 : d = 4
  · refine lv_tableIn (off := 120) (tgt := 162) hx hb dX7_player_42 (by rw [hs_8]; decide) (by rw [hs_8]; decide) (by rw [hs_8]; rfl) (by decide) ?_
    refine lv_aload_n hx hb dX7_player_162 rfl (lv_at hl 0 rfl) ?_
    refine z_get (ci := 7) (v := .ref w3) (C := RX7) (T := TX7) (N := 16) hx hb hts (by decide +kernel) hown hK hM 0 rfl rfl 3 (by decide) (hts (.fieldLink RX7 13 "ShiftIslesModel" "now" "[I") (by decide +kernel)) (fun _ h9 => h9) rfl dX7_player_163 ?_
    refine lv_iload_n hx hb dX7_player_166 rfl (lv_at hl 1 rfl) ?_
    refine z_callS (As := [.int (nI o)]) (rest := [.ref w3]) (wc := []) (wr := [(q, .inr (7, [.int 0, v1, v2, .ref w3, v4, v5, v6, v7, v8, v9, v10, v11, v12, v13, v14, v15])), (w3, .inl (G.2 1, 121, .inl (flt h b)))]) (w1 := []) (ws' := [(q, .inr (7, [.int 0, v1, v2, .ref w3, v4, v5, v6, v7, v8, v9, v10, v11, v12, v13, v14, v15])), (w3, .inl (G.2 1, 121, .inl (flt h b)))]) ⟨hx, hb, hml, hown, hts⟩ (c_at l G o (by omega)) (va_cwS 1 hts gX7_player_X7_at rfl rfl rfl (by decide +kernel) ⟨Nat.le_of_ble_eq_true rfl, Nat.le_of_ble_eq_true rfl⟩) rfl hl.1 rfl (Nat.le_of_ble_eq_true rfl) dX7_player_167 ⟨Nat.le_of_ble_eq_true rfl, Nat.le_of_ble_eq_true rfl⟩ hK hE hA hM (List.Perm.refl _) (List.Perm.refl _) (fun H locs hM hz => ?_)
    refine lv_bipush (v := 25) hx hb dX7_player_170 (by decide) ?_
    refine lv_iadd hx hb dX7_player_172 ?_
    refine z_topi (y := nI ((9 + (28 * o)) + 25)) (nI_add (9 + (28 * o)) 25) ?_
    refine lv_iload_n hx hb dX7_player_173 rfl (lv_at hl 2 rfl) ?_
    refine z_topi (y := nI 4) hs_8 ?_
    refine lv_iadd hx hb dX7_player_174 ?_
    refine z_topi (y := nI (((9 + (28 * o)) + 25) + 4)) (nI_add ((9 + (28 * o)) + 25) 4) ?_
    refine lv_iconst (v := 4) hx hb dX7_player_175 (by decide) ?_
    refine lv_isub hx hb dX7_player_176 ?_
    refine z_topi (y := nI ((((9 + (28 * o)) + 25) + 4) - 4)) (pk_sub (a := (((9 + (28 * o)) + 25) + 4)) (b := 4) (by omega)) ?_
    refine z_iald hx hb hK hM 1 rfl (v := b o 25) (vp_in_nI (by omega) (by decide)) (by rw [nI_clamp (by omega)]; exact flt_b o 25 (by omega) (by omega)) dX7_player_177 ?_
    exact z_iret hx hb hr hlocks dX7_player_178 hM (Nat.le_of_ble_eq_true rfl) (Nat.le_of_ble_eq_true rfl) (by rw [if_neg hs_4, if_neg hs_5, if_neg hs_6, if_neg hs_7, if_pos hs_8])
  by_cases hs_9 : d = 5
  · refine lv_tableIn (off := 120) (tgt := 162) hx hb dX7_player_42 (by rw [hs_9]; decide) (by rw [hs_9]; decide) (by rw [hs_9]; rfl) (by decide) ?_
    refine lv_aload_n hx hb dX7_player_162 rfl (lv_at hl 0 rfl) ?_
    refine z_get (ci := 7) (v := .ref w3) (C := RX7) (T := TX7) (N := 16) hx hb hts (by decide +kernel) hown hK hM 0 rfl rfl 3 (by decide) (hts (.fieldLink RX7 13 "ShiftIslesModel" "now" "[I") (by decide +kernel)) (fun _ h9 => h9) rfl dX7_player_163 ?_
    refine lv_iload_n hx hb dX7_player_166 rfl (lv_at hl 1 rfl) ?_
    refine z_callS (As := [.int (nI o)]) (rest := [.ref w3]) (wc := []) (wr := [(q, .inr (7, [.int 0, v1, v2, .ref w3, v4, v5, v6, v7, v8, v9, v10, v11, v12, v13, v14, v15])), (w3, .inl (G.2 1, 121, .inl (flt h b)))]) (w1 := []) (ws' := [(q, .inr (7, [.int 0, v1, v2, .ref w3, v4, v5, v6, v7, v8, v9, v10, v11, v12, v13, v14, v15])), (w3, .inl (G.2 1, 121, .inl (flt h b)))]) ⟨hx, hb, hml, hown, hts⟩ (c_at l G o (by omega)) (va_cwS 1 hts gX7_player_X7_at rfl rfl rfl (by decide +kernel) ⟨Nat.le_of_ble_eq_true rfl, Nat.le_of_ble_eq_true rfl⟩) rfl hl.1 rfl (Nat.le_of_ble_eq_true rfl) dX7_player_167 ⟨Nat.le_of_ble_eq_true rfl, Nat.le_of_ble_eq_true rfl⟩ hK hE hA hM (List.Perm.refl _) (List.Perm.refl _) (fun H locs hM hz => ?_)
    refine lv_bipush (v := 25) hx hb dX7_player_170 (by decide) ?_
    refine lv_iadd hx hb dX7_player_172 ?_
    refine z_topi (y := nI ((9 + (28 * o)) + 25)) (nI_add (9 + (28 * o)) 25) ?_
    refine lv_iload_n hx hb dX7_player_173 rfl (lv_at hl 2 rfl) ?_
    refine z_topi (y := nI 5) hs_9 ?_
    refine lv_iadd hx hb dX7_player_174 ?_
    refine z_topi (y := nI (((9 + (28 * o)) + 25) + 5)) (nI_add ((9 + (28 * o)) + 25) 5) ?_
    refine lv_iconst (v := 4) hx hb dX7_player_175 (by decide) ?_
    refine lv_isub hx hb dX7_player_176 ?_
    refine z_topi (y := nI ((((9 + (28 * o)) + 25) + 5) - 4)) (pk_sub (a := (((9 + (28 * o)) + 25) + 5)) (b := 4) (by omega)) ?_
    refine z_iald hx hb hK hM 1 rfl (v := b o 26) (vp_in_nI (by omega) (by decide)) (by rw [nI_clamp (by omega)]; exact flt_b o 26 (by omega) (by omega)) dX7_player_177 ?_
    exact z_iret hx hb hr hlocks dX7_player_178 hM (Nat.le_of_ble_eq_true rfl) (Nat.le_of_ble_eq_true rfl) (by rw [if_neg hs_4, if_neg hs_5, if_neg hs_6, if_neg hs_7, if_neg hs_8, if_pos hs_9])
  by_cases hs_10 : d = 6
  · refine lv_tableIn (off := 120) (tgt := 162) hx hb dX7_player_42 (by rw [hs_10]; decide) (by rw [hs_10]; decide) (by rw [hs_10]; rfl) (by decide) ?_
    refine lv_aload_n hx hb dX7_player_162 rfl (lv_at hl 0 rfl) ?_
    refine z_get (ci := 7) (v := .ref w3) (C := RX7) (T := TX7) (N := 16) hx hb hts (by decide +kernel) hown hK hM 0 rfl rfl 3 (by decide) (hts (.fieldLink RX7 13 "ShiftIslesModel" "now" "[I") (by decide +kernel)) (fun _ h9 => h9) rfl dX7_player_163 ?_
    refine lv_iload_n hx hb dX7_player_166 rfl (lv_at hl 1 rfl) ?_
    refine z_callS (As := [.int (nI o)]) (rest := [.ref w3]) (wc := []) (wr := [(q, .inr (7, [.int 0, v1, v2, .ref w3, v4, v5, v6, v7, v8, v9, v10, v11, v12, v13, v14, v15])), (w3, .inl (G.2 1, 121, .inl (flt h b)))]) (w1 := []) (ws' := [(q, .inr (7, [.int 0, v1, v2, .ref w3, v4, v5, v6, v7, v8, v9, v10, v11, v12, v13, v14, v15])), (w3, .inl (G.2 1, 121, .inl (flt h b)))]) ⟨hx, hb, hml, hown, hts⟩ (c_at l G o (by omega)) (va_cwS 1 hts gX7_player_X7_at rfl rfl rfl (by decide +kernel) ⟨Nat.le_of_ble_eq_true rfl, Nat.le_of_ble_eq_true rfl⟩) rfl hl.1 rfl (Nat.le_of_ble_eq_true rfl) dX7_player_167 ⟨Nat.le_of_ble_eq_true rfl, Nat.le_of_ble_eq_true rfl⟩ hK hE hA hM (List.Perm.refl _) (List.Perm.refl _) (fun H locs hM hz => ?_)
    refine lv_bipush (v := 25) hx hb dX7_player_170 (by decide) ?_
    refine lv_iadd hx hb dX7_player_172 ?_
    refine z_topi (y := nI ((9 + (28 * o)) + 25)) (nI_add (9 + (28 * o)) 25) ?_
    refine lv_iload_n hx hb dX7_player_173 rfl (lv_at hl 2 rfl) ?_
    refine z_topi (y := nI 6) hs_10 ?_
    refine lv_iadd hx hb dX7_player_174 ?_
    refine z_topi (y := nI (((9 + (28 * o)) + 25) + 6)) (nI_add ((9 + (28 * o)) + 25) 6) ?_
    refine lv_iconst (v := 4) hx hb dX7_player_175 (by decide) ?_
    refine lv_isub hx hb dX7_player_176 ?_
    refine z_topi (y := nI ((((9 + (28 * o)) + 25) + 6) - 4)) (pk_sub (a := (((9 + (28 * o)) + 25) + 6)) (b := 4) (by omega)) ?_
    refine z_iald hx hb hK hM 1 rfl (v := b o 27) (vp_in_nI (by omega) (by decide)) (by rw [nI_clamp (by omega)]; exact flt_b o 27 (by omega) (by omega)) dX7_player_177 ?_
    exact z_iret hx hb hr hlocks dX7_player_178 hM (Nat.le_of_ble_eq_true rfl) (Nat.le_of_ble_eq_true rfl) (by rw [if_neg hs_4, if_neg hs_5, if_neg hs_6, if_neg hs_7, if_neg hs_8, if_neg hs_9, if_pos hs_10])
  by_cases hs_11 : d = 7
  · refine lv_tableIn (off := 94) (tgt := 136) hx hb dX7_player_42 (by rw [hs_11]; decide) (by rw [hs_11]; decide) (by rw [hs_11]; rfl) (by decide) ?_
    refine lv_aload_n hx hb dX7_player_136 rfl (lv_at hl 0 rfl) ?_
    refine z_get (ci := 7) (v := .ref w3) (C := RX7) (T := TX7) (N := 16) hx hb hts (by decide +kernel) hown hK hM 0 rfl rfl 3 (by decide) (hts (.fieldLink RX7 13 "ShiftIslesModel" "now" "[I") (by decide +kernel)) (fun _ h9 => h9) rfl dX7_player_137 ?_
    refine lv_iload_n hx hb dX7_player_140 rfl (lv_at hl 1 rfl) ?_
    refine z_callS (As := [.ref w3, .int (nI o)]) (rest := []) (wc := rfW G w3 h b) (wr := [(q, .inr (7, [.int 0, v1, v2, .ref w3, v4, v5, v6, v7, v8, v9, v10, v11, v12, v13, v14, v15]))]) (w1 := rfW G w3 h b) (ws' := [(q, .inr (7, [.int 0, v1, v2, .ref w3, v4, v5, v6, v7, v8, v9, v10, v11, v12, v13, v14, v15])), (w3, .inl (G.2 1, 121, .inl (flt h b)))]) ⟨hx, hb, hml, hown, hts⟩ (c_reachable l G w3 h b o S (by omega) hS hwo h6) (va_cwS 2 hts gX7_player_X7_reachable rfl rfl rfl (by decide +kernel) ⟨Nat.le_of_ble_eq_true rfl, Nat.le_of_ble_eq_true rfl⟩) rfl hl.1 rfl (Nat.le_of_ble_eq_true rfl) dX7_player_141 ⟨Nat.le_of_ble_eq_true rfl, Nat.le_of_ble_eq_true rfl⟩ hK hE hA hM (pm_at 2 [1] [0] rfl rfl rfl (by decide)) ((pm_at 2 [1] [0] rfl rfl rfl (by decide))).symm (fun H locs hM hz => ?_)
    exact z_iret hx hb hr hlocks dX7_player_144 hM (Nat.le_of_ble_eq_true rfl) (Nat.le_of_ble_eq_true rfl) (by rw [if_neg hs_4, if_neg hs_5, if_neg hs_6, if_neg hs_7, if_neg hs_8, if_neg hs_9, if_neg hs_10, if_pos hs_11])
  by_cases hs_12 : d = 8
  · refine lv_tableIn (off := 103) (tgt := 145) hx hb dX7_player_42 (by rw [hs_12]; decide) (by rw [hs_12]; decide) (by rw [hs_12]; rfl) (by decide) ?_
    refine lv_aload_n hx hb dX7_player_145 rfl (lv_at hl 0 rfl) ?_
    refine z_get (ci := 7) (v := .ref w3) (C := RX7) (T := TX7) (N := 16) hx hb hts (by decide +kernel) hown hK hM 0 rfl rfl 3 (by decide) (hts (.fieldLink RX7 13 "ShiftIslesModel" "now" "[I") (by decide +kernel)) (fun _ h9 => h9) rfl dX7_player_146 ?_
    refine lv_iload_n hx hb dX7_player_149 rfl (lv_at hl 1 rfl) ?_
    refine z_callS (As := [.ref w3, .int (nI o)]) (rest := []) (wc := rfW G w3 h b) (wr := [(q, .inr (7, [.int 0, v1, v2, .ref w3, v4, v5, v6, v7, v8, v9, v10, v11, v12, v13, v14, v15]))]) (w1 := rfW G w3 h b) (ws' := [(q, .inr (7, [.int 0, v1, v2, .ref w3, v4, v5, v6, v7, v8, v9, v10, v11, v12, v13, v14, v15])), (w3, .inl (G.2 1, 121, .inl (flt h b)))]) ⟨hx, hb, hml, hown, hts⟩ (c_canTake l G w3 h b o S (by omega) hS hwo h6) (va_cwS 2 hts gX7_player_X7_canTake rfl rfl rfl (by decide +kernel) ⟨Nat.le_of_ble_eq_true rfl, Nat.le_of_ble_eq_true rfl⟩) rfl hl.1 rfl (Nat.le_of_ble_eq_true rfl) dX7_player_150 ⟨Nat.le_of_ble_eq_true rfl, Nat.le_of_ble_eq_true rfl⟩ hK hE hA hM (pm_at 2 [1] [0] rfl rfl rfl (by decide)) ((pm_at 2 [1] [0] rfl rfl rfl (by decide))).symm (fun H locs hM hz => ?_)
    refine z_ifeq (tgt := 160) hx hb dX7_player_153 (by decide) (fun c_t => ?_) (fun c_t => ?_)
    · skip
      refine lv_iconst (v := 0) hx hb dX7_player_160 (by decide) ?_
      exact z_iret hx hb hr hlocks dX7_player_161 hM (Nat.le_of_ble_eq_true rfl) (Nat.le_of_ble_eq_true rfl) (by rw [if_neg hs_4, if_neg hs_5, if_neg hs_6, if_neg hs_7, if_neg hs_8, if_neg hs_9, if_neg hs_10, if_neg hs_11, if_pos hs_12, c_t]; rfl)
    · skip
      refine lv_iconst (v := 1) hx hb dX7_player_156 (by decide) ?_
      refine lv_goto (tgt := 161) hx hb dX7_player_157 (by decide) ?_
      exact z_iret hx hb hr hlocks dX7_player_161 hM (Nat.le_of_ble_eq_true rfl) (Nat.le_of_ble_eq_true rfl) (by rw [if_neg hs_4, if_neg hs_5, if_neg hs_6, if_neg hs_7, if_neg hs_8, if_neg hs_9, if_neg hs_10, if_neg hs_11, if_pos hs_12, c_t]; rfl)
  refine lv_tableOut (tgt := 162) hx hb dX7_player_42 (z_tout 0 8 (by intro k h1 h2; have hk : k = 0 ∨ k = 1 ∨ k = 2 ∨ k = 3 ∨ k = 4 ∨ k = 5 ∨ k = 6 ∨ k = 7 ∨ k = 8 := (by omega); rcases hk with rfl | rfl | rfl | rfl | rfl | rfl | rfl | rfl | rfl <;> first | exact hs_4 | exact hs_5 | exact hs_6 | exact hs_7 | exact hs_8 | exact hs_9 | exact hs_10 | exact hs_11 | exact hs_12)) (by decide) ?_
  obtain ⟨j9, hj9, ej9⟩ := zI0_8n hc; have h9 : j9 = 0 ∨ j9 = 1 ∨ j9 = 2 ∨ j9 = 3 ∨ j9 = 4 ∨ j9 = 5 ∨ j9 = 6 ∨ j9 = 7 ∨ j9 = 8 := (by omega); rcases h9 with rfl | rfl | rfl | rfl | rfl | rfl | rfl | rfl | rfl <;> first | exact absurd ej9 hs_4 | exact absurd ej9 hs_5 | exact absurd ej9 hs_6 | exact absurd ej9 hs_7 | exact absurd ej9 hs_8 | exact absurd ej9 hs_9 | exact absurd ej9 hs_10 | exact absurd ej9 hs_11 | exact absurd ej9 hs_12
