/-! REFERENCE, eighth part: the diary, and public methods case by case -/
def shf (D : Nat → Int32) (i : Nat) : Nat → Int32 := fun k => if k < i then D (k + 121) else D k
theorem shf_0 (D : Nat → Int32) : shf D 0 = D := by
  funext k
  unfold shf
  rw [if_neg (by omega)]
theorem shf_ge {D : Nat → Int32} {i k : Nat} (h : i ≤ k) : shf D i k = D k := by
  unfold shf
  rw [if_neg (by omega)]
theorem shf_s (D : Nat → Int32) (i : Nat) : upd (shf D i) i (D (i + 121)) = shf D (i + 1) := by
  funext k
  by_cases e : k = i
  · subst e
    rw [pk_us]
    unfold shf
    rw [if_pos (by omega)]
  · rw [pk_un e]
    unfold shf
    by_cases h : k < i
    · rw [if_pos h, if_pos (by omega)]
    · rw [if_neg h, if_neg (by omega)]
set_option maxHeartbeats 4000000 in
set_option maxRecDepth 100000 in
theorem c_remember0 (l : Launch) (G : zC) (q : Nat) (v0 v1 v2 v4 v5 v8 v9 v10 v11 v12 v13 v14 v15 : Value) (w3 w6 : Nat) (h : Nat → Int32) (b : Nat → Nat → Int32) (n : Nat) (D : Nat → Int32) (hn : n < 14) : zMet l G yX7_remember wsX7_remember rmX7_remember [.ref q] ([(q, .inr (7, [v0, v1, v2, .ref w3, v4, v5, .ref w6, .int (nI n), v8, v9, v10, v11, v12, v13, v14, v15])), (w3, .inl (G.2 1, 121, .inl (flt h b))), (w6, .inl (G.2 1, 1694, .inl D))]) none ([(q, .inr (7, [v0, v1, v2, .ref w3, v4, v5, .ref w6, .int (nI (n + 1)), v8, v9, v10, v11, v12, v13, v14, v15])), (w3, .inl (G.2 1, 121, .inl (flt h b))), (w6, .inl (G.2 1, 1694, .inl (cpv (flt h b) D 0 (121 * n) 121)))]) := by
  refine zMet_of (cc := cX7_remember) (maxL := 2) (ret := none) (by decide) rfl (Nat.le_of_ble_eq_true rfl) ?_
  intro p e s m below meth c A ls hx hb hr hml hown hts hK hA hE hlocks hin hM hl
  have hown : s.vm.findClass RX7 = some m.cls := hown
  have hM : zM G A s s.heap [] ([(q, .inr (7, [v0, v1, v2, .ref w3, v4, v5, .ref w6, .int (nI n), v8, v9, v10, v11, v12, v13, v14, v15])), (w3, .inl (G.2 1, 121, .inl (flt h b))), (w6, .inl (G.2 1, 1694, .inl D))]) := hM
  have hl : lv_has ls 2 [(0, .ref q)] := hl
  refine lv_aload_n hx hb dX7_remember_0 rfl (lv_at hl 0 rfl) ?_
  refine z_get (ci := 7) (v := .int (nI n)) (C := RX7) (T := TX7) (N := 16) hx hb hts (by decide +kernel) hown hK hM 0 rfl rfl 7 (by decide) (hts (.fieldLink RX7 203 "ShiftIslesModel" "acts" "I") (by decide +kernel)) (fun _ h9 => h9) rfl dX7_remember_1 ?_
  refine lv_bipush (v := 14) hx hb dX7_remember_4 (by decide) ?_
  refine z_topi (y := nI 14) rfl ?_
  refine lv_icmp_ne (tgt := 49) hx hb dX7_remember_6 (by decide) (fun c_1 => ?_) (fun c_1 => absurd ((nI_eq (a := n) (b := 14) (by omega) (by decide)).mp c_1) (by omega))
  refine lv_aload_n hx hb dX7_remember_49 rfl (lv_at hl 0 rfl) ?_
  refine z_get (ci := 7) (v := .ref w3) (C := RX7) (T := TX7) (N := 16) hx hb hts (by decide +kernel) hown hK hM 0 rfl rfl 3 (by decide) (hts (.fieldLink RX7 13 "ShiftIslesModel" "now" "[I") (by decide +kernel)) (fun _ h9 => h9) rfl dX7_remember_50 ?_
  refine lv_iconst (v := nI 0) hx hb dX7_remember_53 (by decide) ?_
  refine lv_aload_n hx hb dX7_remember_54 rfl (lv_at hl 0 rfl) ?_
  refine z_get (ci := 7) (v := .ref w6) (C := RX7) (T := TX7) (N := 16) hx hb hts (by decide +kernel) hown hK hM 0 rfl rfl 6 (by decide) (hts (.fieldLink RX7 22 "ShiftIslesModel" "diary" "[I") (by decide +kernel)) (fun _ h9 => h9) rfl dX7_remember_55 ?_
  refine lv_bipush (v := 121) hx hb dX7_remember_58 (by decide) ?_
  refine lv_aload_n hx hb dX7_remember_60 rfl (lv_at hl 0 rfl) ?_
  refine z_get (ci := 7) (v := .int (nI n)) (C := RX7) (T := TX7) (N := 16) hx hb hts (by decide +kernel) hown hK hM 0 rfl rfl 7 (by decide) (hts (.fieldLink RX7 203 "ShiftIslesModel" "acts" "I") (by decide +kernel)) (fun _ h9 => h9) rfl dX7_remember_61 ?_
  refine lv_imul hx hb dX7_remember_64 ?_
  refine z_topi (y := nI (121 * n)) (pk_mul 121 n) ?_
  refine z_callS (As := [.ref w3, .int (nI 0), .ref w6, .int (nI (121 * n))]) (rest := []) (wc := [(w3, .inl (G.2 1, 121, .inl (flt h b))), (w6, .inl (G.2 1, 1694, .inl D))]) (wr := [(q, .inr (7, [v0, v1, v2, .ref w3, v4, v5, .ref w6, .int (nI n), v8, v9, v10, v11, v12, v13, v14, v15]))]) (w1 := [(w3, .inl (G.2 1, 121, .inl (flt h b))), (w6, .inl (G.2 1, 1694, .inl (cpv (flt h b) D 0 (121 * n) 121)))]) (ws' := [(q, .inr (7, [v0, v1, v2, .ref w3, v4, v5, .ref w6, .int (nI n), v8, v9, v10, v11, v12, v13, v14, v15])), (w3, .inl (G.2 1, 121, .inl (flt h b))), (w6, .inl (G.2 1, 1694, .inl (cpv (flt h b) D 0 (121 * n) 121)))]) ⟨hx, hb, hml, hown, hts⟩ (c_copyState l G w3 w6 121 1694 0 (121 * n) (flt h b) D (by omega) (by omega) (by decide) (by decide)) (va_cwS 4 hts gX7_remember_X7_copyState rfl rfl rfl (by decide +kernel) ⟨Nat.le_of_ble_eq_true rfl, Nat.le_of_ble_eq_true rfl⟩) rfl hl.1 rfl (Nat.le_of_ble_eq_true rfl) dX7_remember_65 ⟨Nat.le_of_ble_eq_true rfl, Nat.le_of_ble_eq_true rfl⟩ hK hE hA hM (pm_at 3 [1, 2] [0] rfl rfl rfl (by decide)) ((pm_at 3 [1, 2] [0] rfl rfl rfl (by decide))).symm (fun H locs hM hz => ?_)
  refine lv_aload_n hx hb dX7_remember_68 rfl (lv_at hl 0 rfl) ?_
  refine lv_dup hx hb dX7_remember_69 rfl ?_
  refine z_get (ci := 7) (v := .int (nI n)) (C := RX7) (T := TX7) (N := 16) hx hb hts (by decide +kernel) hown hK hM 0 rfl rfl 7 (by decide) (hts (.fieldLink RX7 203 "ShiftIslesModel" "acts" "I") (by decide +kernel)) (fun _ h9 => h9) rfl dX7_remember_70 ?_
  refine lv_iconst (v := 1) hx hb dX7_remember_73 (by decide) ?_
  refine lv_iadd hx hb dX7_remember_74 ?_
  refine z_topi (y := nI (n + 1)) (nI_add n 1) ?_
  refine z_put (ci := 7) (ty := .int) (v := .int (nI (n + 1))) (C := RX7) (T := TX7) (N := 16) (ws' := [(q, .inr (7, [v0, v1, v2, .ref w3, v4, v5, .ref w6, .int (nI (n + 1)), v8, v9, v10, v11, v12, v13, v14, v15])), (w3, .inl (G.2 1, 121, .inl (flt h b))), (w6, .inl (G.2 1, 1694, .inl (cpv (flt h b) D 0 (121 * n) 121)))]) hx hb hts (by decide +kernel) tyX7 tyX7_ok nmX7 hown hK hM 0 rfl rfl 7 (by decide) (hts (.fieldLink RX7 203 "ShiftIslesModel" "acts" "I") (by decide +kernel)) (fun _ h9 => h9) rfl (by decide +kernel) rfl rfl (Nat.le_of_ble_eq_true rfl) dX7_remember_75 rfl (fun H locs hM => ?_)
  exact z_vret hx hb hr hlocks dX7_remember_78 hM (Nat.le_of_ble_eq_true rfl) (Nat.le_of_ble_eq_true rfl)

set_option maxHeartbeats 4000000 in
set_option maxRecDepth 100000 in
theorem c_remember1 (l : Launch) (G : zC) (q : Nat) (v0 v1 v2 v4 v5 v8 v9 v10 v11 v12 v13 v14 v15 : Value) (w3 w6 : Nat) (h : Nat → Int32) (b : Nat → Nat → Int32) (D : Nat → Int32) : zMet l G yX7_remember wsX7_remember rmX7_remember [.ref q] ([(q, .inr (7, [v0, v1, v2, .ref w3, v4, v5, .ref w6, .int (nI 14), v8, v9, v10, v11, v12, v13, v14, v15])), (w3, .inl (G.2 1, 121, .inl (flt h b))), (w6, .inl (G.2 1, 1694, .inl D))]) none ([(q, .inr (7, [v0, v1, v2, .ref w3, v4, v5, .ref w6, .int (nI 14), v8, v9, v10, v11, v12, v13, v14, v15])), (w3, .inl (G.2 1, 121, .inl (flt h b))), (w6, .inl (G.2 1, 1694, .inl (cpv (flt h b) (shf D 1573) 0 (121 * 13) 121)))]) := by
  refine zMet_of (cc := cX7_remember) (maxL := 2) (ret := none) (by decide) rfl (Nat.le_of_ble_eq_true rfl) ?_
  intro p e s m below meth c A ls hx hb hr hml hown hts hK hA hE hlocks hin hM hl
  have hown : s.vm.findClass RX7 = some m.cls := hown
  have hM : zM G A s s.heap [] ([(q, .inr (7, [v0, v1, v2, .ref w3, v4, v5, .ref w6, .int (nI 14), v8, v9, v10, v11, v12, v13, v14, v15])), (w3, .inl (G.2 1, 121, .inl (flt h b))), (w6, .inl (G.2 1, 1694, .inl D))]) := hM
  have hl : lv_has ls 2 [(0, .ref q)] := hl
  refine lv_aload_n hx hb dX7_remember_0 rfl (lv_at hl 0 rfl) ?_
  refine z_get (ci := 7) (v := .int (nI 14)) (C := RX7) (T := TX7) (N := 16) hx hb hts (by decide +kernel) hown hK hM 0 rfl rfl 7 (by decide) (hts (.fieldLink RX7 203 "ShiftIslesModel" "acts" "I") (by decide +kernel)) (fun _ h9 => h9) rfl dX7_remember_1 ?_
  refine lv_bipush (v := 14) hx hb dX7_remember_4 (by decide) ?_
  refine z_topi (y := nI 14) rfl ?_
  refine lv_icmp_ne (tgt := 49) hx hb dX7_remember_6 (by decide) (fun c_1 => absurd rfl c_1) (fun c_1 => ?_)
  refine lv_iconst (v := nI 0) hx hb dX7_remember_9 (by decide) ?_
  refine lv_istore_n (lv' := [(1, .int (nI 0)), (0, .ref q)]) hx hb dX7_remember_10 rfl hl (by decide) rfl (fun ls hl => ?_)
  have lp11 : ∀ (k : Nat) (w0 : Nat), (w0 + k = 1573) → ∀ (H : Heap) (locs : List Loc), zM G A s H locs ([(q, .inr (7, [v0, v1, v2, .ref w3, v4, v5, .ref w6, .int (nI 14), v8, v9, v10, v11, v12, v13, v14, v15])), (w3, .inl (G.2 1, 121, .inl (flt h b))), (w6, .inl (G.2 1, 1694, .inl (shf D w0)))]) → ∀ ls : Array Slot, lv_has ls 2 [(0, .ref q), (1, .int (nI w0))] → W p l e rmX7_remember s m ([.ref q] : List Value).toArray below meth c H locs 0 0 (zEnd G below ([.ref q] : List Value).toArray s rmX7_remember A none ([(q, .inr (7, [v0, v1, v2, .ref w3, v4, v5, .ref w6, .int (nI 14), v8, v9, v10, v11, v12, v13, v14, v15])), (w3, .inl (G.2 1, 121, .inl (flt h b))), (w6, .inl (G.2 1, 1694, .inl (cpv (flt h b) (shf D 1573) 0 (121 * 13) 121)))])) (F0 m 11 ls []) := by
    intro k
    induction k with
    | zero =>
      intro w0 hik H locs hM ls hl
      obtain rfl : w0 = 1573 := by omega
      refine lv_iload_n hx hb dX7_remember_11 rfl (lv_at hl 1 rfl) ?_
      refine lv_sipush (v := 1573) hx hb dX7_remember_12 (by decide) ?_
      refine z_topi (y := nI 1573) rfl ?_
      refine lv_icmp_ge (tgt := 39) hx hb dX7_remember_15 (by decide) (fun c_2 => ?_) (fun c_2 => absurd (nI_le (by omega) (by omega)) c_2)
      refine lv_aload_n hx hb dX7_remember_39 rfl (lv_at hl 0 rfl) ?_
      refine lv_dup hx hb dX7_remember_40 rfl ?_
      refine z_get (ci := 7) (v := .int (nI 14)) (C := RX7) (T := TX7) (N := 16) hx hb hts (by decide +kernel) hown hK hM 0 rfl rfl 7 (by decide) (hts (.fieldLink RX7 203 "ShiftIslesModel" "acts" "I") (by decide +kernel)) (fun _ h9 => h9) rfl dX7_remember_41 ?_
      refine lv_iconst (v := 1) hx hb dX7_remember_44 (by decide) ?_
      refine lv_isub hx hb dX7_remember_45 ?_
      refine z_topi (y := nI (14 - 1)) (pk_sub (a := 14) (b := 1) (by omega)) ?_
      refine z_put (ci := 7) (ty := .int) (v := .int (nI (14 - 1))) (C := RX7) (T := TX7) (N := 16) (ws' := [(q, .inr (7, [v0, v1, v2, .ref w3, v4, v5, .ref w6, .int (nI (14 - 1)), v8, v9, v10, v11, v12, v13, v14, v15])), (w3, .inl (G.2 1, 121, .inl (flt h b))), (w6, .inl (G.2 1, 1694, .inl (shf D 1573)))]) hx hb hts (by decide +kernel) tyX7 tyX7_ok nmX7 hown hK hM 0 rfl rfl 7 (by decide) (hts (.fieldLink RX7 203 "ShiftIslesModel" "acts" "I") (by decide +kernel)) (fun _ h9 => h9) rfl (by decide +kernel) rfl rfl (Nat.le_of_ble_eq_true rfl) dX7_remember_46 rfl (fun H locs hM => ?_)
      refine lv_aload_n hx hb dX7_remember_49 rfl (lv_at hl 0 rfl) ?_
      refine z_get (ci := 7) (v := .ref w3) (C := RX7) (T := TX7) (N := 16) hx hb hts (by decide +kernel) hown hK hM 0 rfl rfl 3 (by decide) (hts (.fieldLink RX7 13 "ShiftIslesModel" "now" "[I") (by decide +kernel)) (fun _ h9 => h9) rfl dX7_remember_50 ?_
      refine lv_iconst (v := nI 0) hx hb dX7_remember_53 (by decide) ?_
      refine lv_aload_n hx hb dX7_remember_54 rfl (lv_at hl 0 rfl) ?_
      refine z_get (ci := 7) (v := .ref w6) (C := RX7) (T := TX7) (N := 16) hx hb hts (by decide +kernel) hown hK hM 0 rfl rfl 6 (by decide) (hts (.fieldLink RX7 22 "ShiftIslesModel" "diary" "[I") (by decide +kernel)) (fun _ h9 => h9) rfl dX7_remember_55 ?_
      refine lv_bipush (v := 121) hx hb dX7_remember_58 (by decide) ?_
      refine lv_aload_n hx hb dX7_remember_60 rfl (lv_at hl 0 rfl) ?_
      refine z_get (ci := 7) (v := .int (nI (14 - 1))) (C := RX7) (T := TX7) (N := 16) hx hb hts (by decide +kernel) hown hK hM 0 rfl rfl 7 (by decide) (hts (.fieldLink RX7 203 "ShiftIslesModel" "acts" "I") (by decide +kernel)) (fun _ h9 => h9) rfl dX7_remember_61 ?_
      refine lv_imul hx hb dX7_remember_64 ?_
      refine z_topi (y := nI (121 * (14 - 1))) (pk_mul 121 (14 - 1)) ?_
      refine z_callS (As := [.ref w3, .int (nI 0), .ref w6, .int (nI (121 * (14 - 1)))]) (rest := []) (wc := [(w3, .inl (G.2 1, 121, .inl (flt h b))), (w6, .inl (G.2 1, 1694, .inl (shf D 1573)))]) (wr := [(q, .inr (7, [v0, v1, v2, .ref w3, v4, v5, .ref w6, .int (nI (14 - 1)), v8, v9, v10, v11, v12, v13, v14, v15]))]) (w1 := [(w3, .inl (G.2 1, 121, .inl (flt h b))), (w6, .inl (G.2 1, 1694, .inl (cpv (flt h b) (shf D 1573) 0 (121 * (14 - 1)) 121)))]) (ws' := [(q, .inr (7, [v0, v1, v2, .ref w3, v4, v5, .ref w6, .int (nI (14 - 1)), v8, v9, v10, v11, v12, v13, v14, v15])), (w3, .inl (G.2 1, 121, .inl (flt h b))), (w6, .inl (G.2 1, 1694, .inl (cpv (flt h b) (shf D 1573) 0 (121 * (14 - 1)) 121)))]) ⟨hx, hb, hml, hown, hts⟩ (c_copyState l G w3 w6 121 1694 0 (121 * (14 - 1)) (flt h b) (shf D 1573) (by omega) (by omega) (by decide) (by decide)) (va_cwS 4 hts gX7_remember_X7_copyState rfl rfl rfl (by decide +kernel) ⟨Nat.le_of_ble_eq_true rfl, Nat.le_of_ble_eq_true rfl⟩) rfl hl.1 rfl (Nat.le_of_ble_eq_true rfl) dX7_remember_65 ⟨Nat.le_of_ble_eq_true rfl, Nat.le_of_ble_eq_true rfl⟩ hK hE hA hM (pm_at 3 [1, 2] [0] rfl rfl rfl (by decide)) ((pm_at 3 [1, 2] [0] rfl rfl rfl (by decide))).symm (fun H locs hM hz => ?_)
      refine lv_aload_n hx hb dX7_remember_68 rfl (lv_at hl 0 rfl) ?_
      refine lv_dup hx hb dX7_remember_69 rfl ?_
      refine z_get (ci := 7) (v := .int (nI (14 - 1))) (C := RX7) (T := TX7) (N := 16) hx hb hts (by decide +kernel) hown hK hM 0 rfl rfl 7 (by decide) (hts (.fieldLink RX7 203 "ShiftIslesModel" "acts" "I") (by decide +kernel)) (fun _ h9 => h9) rfl dX7_remember_70 ?_
      refine lv_iconst (v := 1) hx hb dX7_remember_73 (by decide) ?_
      refine lv_iadd hx hb dX7_remember_74 ?_
      refine z_topi (y := nI ((14 - 1) + 1)) (nI_add (14 - 1) 1) ?_
      refine z_put (ci := 7) (ty := .int) (v := .int (nI ((14 - 1) + 1))) (C := RX7) (T := TX7) (N := 16) (ws' := [(q, .inr (7, [v0, v1, v2, .ref w3, v4, v5, .ref w6, .int (nI ((14 - 1) + 1)), v8, v9, v10, v11, v12, v13, v14, v15])), (w3, .inl (G.2 1, 121, .inl (flt h b))), (w6, .inl (G.2 1, 1694, .inl (cpv (flt h b) (shf D 1573) 0 (121 * (14 - 1)) 121)))]) hx hb hts (by decide +kernel) tyX7 tyX7_ok nmX7 hown hK hM 0 rfl rfl 7 (by decide) (hts (.fieldLink RX7 203 "ShiftIslesModel" "acts" "I") (by decide +kernel)) (fun _ h9 => h9) rfl (by decide +kernel) rfl rfl (Nat.le_of_ble_eq_true rfl) dX7_remember_75 rfl (fun H locs hM => ?_)
      exact z_vret hx hb hr hlocks dX7_remember_78 hM (Nat.le_of_ble_eq_true rfl) (Nat.le_of_ble_eq_true rfl)
    | succ k ih =>
      intro w0 hik H locs hM ls hl
      refine lv_iload_n hx hb dX7_remember_11 rfl (lv_at hl 1 rfl) ?_
      refine lv_sipush (v := 1573) hx hb dX7_remember_12 (by decide) ?_
      refine z_topi (y := nI 1573) rfl ?_
      refine lv_icmp_ge (tgt := 39) hx hb dX7_remember_15 (by decide) (fun c_3 => absurd c_3 (nI_ge (by omega) (by omega))) (fun c_3 => ?_)
      refine lv_aload_n hx hb dX7_remember_18 rfl (lv_at hl 0 rfl) ?_
      refine z_get (ci := 7) (v := .ref w6) (C := RX7) (T := TX7) (N := 16) hx hb hts (by decide +kernel) hown hK hM 0 rfl rfl 6 (by decide) (hts (.fieldLink RX7 22 "ShiftIslesModel" "diary" "[I") (by decide +kernel)) (fun _ h9 => h9) rfl dX7_remember_19 ?_
      refine lv_iload_n hx hb dX7_remember_22 rfl (lv_at hl 1 rfl) ?_
      refine lv_aload_n hx hb dX7_remember_23 rfl (lv_at hl 0 rfl) ?_
      refine z_get (ci := 7) (v := .ref w6) (C := RX7) (T := TX7) (N := 16) hx hb hts (by decide +kernel) hown hK hM 0 rfl rfl 6 (by decide) (hts (.fieldLink RX7 22 "ShiftIslesModel" "diary" "[I") (by decide +kernel)) (fun _ h9 => h9) rfl dX7_remember_24 ?_
      refine lv_iload_n hx hb dX7_remember_27 rfl (lv_at hl 1 rfl) ?_
      refine lv_bipush (v := 121) hx hb dX7_remember_28 (by decide) ?_
      refine lv_iadd hx hb dX7_remember_30 ?_
      refine z_topi (y := nI (w0 + 121)) (nI_add w0 121) ?_
      refine z_iald hx hb hK hM 2 rfl (v := D (w0 + 121)) (vp_in_nI (by omega) (by decide)) (by rw [nI_clamp (by omega), shf_ge (by omega)]) dX7_remember_31 ?_
      refine z_iast (ws' := [(q, .inr (7, [v0, v1, v2, .ref w3, v4, v5, .ref w6, .int (nI 14), v8, v9, v10, v11, v12, v13, v14, v15])), (w3, .inl (G.2 1, 121, .inl (flt h b))), (w6, .inl (G.2 1, 1694, .inl (upd (shf D w0) w0 (D (w0 + 121)))))]) hx hb hK hM 2 rfl (vp_in_nI (by omega) (by decide)) dX7_remember_32 (by rw [nI_clamp (by omega)]; rfl) (fun H locs hM => ?_)
      have hM : zM G A s H locs ([(q, .inr (7, [v0, v1, v2, .ref w3, v4, v5, .ref w6, .int (nI 14), v8, v9, v10, v11, v12, v13, v14, v15])), (w3, .inl (G.2 1, 121, .inl (flt h b))), (w6, .inl (G.2 1, 1694, .inl (shf D (w0 + 1))))]) := by rw [← shf_s]; exact hM
      refine lv_iinc (v := nI (w0 + 1)) (lv' := [(1, .int (nI (w0 + 1))), (0, .ref q)]) hx hb dX7_remember_33 hl (k := 1) rfl (nI_1 w0) (by decide) rfl (fun ls hl => ?_)
      refine lv_goto (tgt := 11) hx hb dX7_remember_36 (by decide) ?_
      exact ih (w0 + 1) (by omega) _ _ hM _ (lv_sub hl [1, 0] rfl)
  exact lp11 1573 0 rfl _ _ (by rw [shf_0]; exact hM) _ (lv_sub hl [1, 0] rfl)

set_option maxHeartbeats 4000000 in
set_option maxRecDepth 100000 in
theorem c_undo0 (l : Launch) (G : zC) (q : Nat) (v0 v1 v2 v4 v5 v8 v9 v10 v11 v12 v13 v14 v15 : Value) (w3 w6 : Nat) (F D : Nat → Int32) : zMet l G yX7_undo wsX7_undo rmX7_undo [.ref q] ([(q, .inr (7, [v0, v1, v2, .ref w3, v4, v5, .ref w6, .int (nI 0), v8, v9, v10, v11, v12, v13, v14, v15])), (w3, .inl (G.2 1, 121, .inl F)), (w6, .inl (G.2 1, 1694, .inl D))]) (some (.int 0)) ([(q, .inr (7, [.int 1, v1, v2, .ref w3, v4, v5, .ref w6, .int (nI 0), v8, v9, v10, v11, v12, v13, v14, v15])), (w3, .inl (G.2 1, 121, .inl F)), (w6, .inl (G.2 1, 1694, .inl D))]) := by
  refine zMet_of (cc := cX7_undo) (maxL := 1) (ret := (some .int)) (by decide) rfl (Nat.le_of_ble_eq_true rfl) ?_
  intro p e s m below meth c A ls hx hb hr hml hown hts hK hA hE hlocks hin hM hl
  have hown : s.vm.findClass RX7 = some m.cls := hown
  have hM : zM G A s s.heap [] ([(q, .inr (7, [v0, v1, v2, .ref w3, v4, v5, .ref w6, .int (nI 0), v8, v9, v10, v11, v12, v13, v14, v15])), (w3, .inl (G.2 1, 121, .inl F)), (w6, .inl (G.2 1, 1694, .inl D))]) := hM
  have hl : lv_has ls 1 [(0, .ref q)] := hl
  refine lv_aload_n hx hb dX7_undo_0 rfl (lv_at hl 0 rfl) ?_
  refine lv_aload_n hx hb dX7_undo_1 rfl (lv_at hl 0 rfl) ?_
  refine z_get (ci := 7) (v := .int (nI 0)) (C := RX7) (T := TX7) (N := 16) hx hb hts (by decide +kernel) hown hK hM 0 rfl rfl 7 (by decide) (hts (.fieldLink RX7 203 "ShiftIslesModel" "acts" "I") (by decide +kernel)) (fun _ h9 => h9) rfl dX7_undo_2 ?_
  refine lv_if_ne (tgt := 12) hx hb dX7_undo_5 (by decide) (fun c_1 => absurd rfl c_1) (fun c_1 => ?_)
  refine lv_iconst (v := 1) hx hb dX7_undo_8 (by decide) ?_
  refine lv_goto (tgt := 13) hx hb dX7_undo_9 (by decide) ?_
  refine z_callV (As := [.int 1]) (rest := []) (wc := [(q, .inr (7, [v0, v1, v2, .ref w3, v4, v5, .ref w6, .int (nI 0), v8, v9, v10, v11, v12, v13, v14, v15]))]) (wr := [(w3, .inl (G.2 1, 121, .inl F)), (w6, .inl (G.2 1, 1694, .inl D))]) (w1 := [(q, .inr (7, [.int 1, v1, v2, .ref w3, v4, v5, .ref w6, .int (nI 0), v8, v9, v10, v11, v12, v13, v14, v15]))]) (ws' := [(q, .inr (7, [.int 1, v1, v2, .ref w3, v4, v5, .ref w6, .int (nI 0), v8, v9, v10, v11, v12, v13, v14, v15])), (w3, .inl (G.2 1, 121, .inl F)), (w6, .inl (G.2 1, 1694, .inl D))]) ⟨hx, hb, hml, hown, hts⟩ (c_refused l G q v0 v1 v2 (.ref w3) v4 v5 (.ref w6) (.int (nI 0)) v8 v9 v10 v11 v12 v13 v14 v15 1) (cwV 1 hts gX7_undo_X7_refused rfl rfl rfl (by decide +kernel) ⟨Nat.le_of_ble_eq_true rfl, Nat.le_of_ble_eq_true rfl⟩) 7 rfl rfl rfl rfl hl.1 rfl (Nat.le_of_ble_eq_true rfl) dX7_undo_13 ⟨Nat.le_of_ble_eq_true rfl, Nat.le_of_ble_eq_true rfl⟩ hK hE hA hM (pm_at 3 [0] [1, 2] rfl rfl rfl (by decide)) ((pm_at 3 [0] [1, 2] rfl rfl rfl (by decide))).symm (fun H locs hM hz => ?_)
  refine z_ifeq (tgt := 21) hx hb dX7_undo_16 (by decide) (fun c_2 => absurd c_2 (by decide)) (fun c_2 => ?_)
  refine lv_iconst (v := 0) hx hb dX7_undo_19 (by decide) ?_
  exact z_iret hx hb hr hlocks dX7_undo_20 hM (Nat.le_of_ble_eq_true rfl) (Nat.le_of_ble_eq_true rfl) rfl

set_option maxHeartbeats 4000000 in
set_option maxRecDepth 100000 in
theorem c_undo1 (l : Launch) (G : zC) (q : Nat) (v0 v1 v2 v4 v5 v8 v9 v10 v11 v12 v13 v14 v15 : Value) (w3 w6 n : Nat) (F D : Nat → Int32) (hn : n < 14) : zMet l G yX7_undo wsX7_undo rmX7_undo [.ref q] ([(q, .inr (7, [v0, v1, v2, .ref w3, v4, v5, .ref w6, .int (nI (n + 1)), v8, v9, v10, v11, v12, v13, v14, v15])), (w3, .inl (G.2 1, 121, .inl F)), (w6, .inl (G.2 1, 1694, .inl D))]) (some (.int (nI n))) ([(q, .inr (7, [.int 0, v1, v2, .ref w3, v4, v5, .ref w6, .int (nI n), v8, v9, v10, v11, v12, v13, v14, v15])), (w3, .inl (G.2 1, 121, .inl (cpv D F (121 * n) 0 121))), (w6, .inl (G.2 1, 1694, .inl D))]) := by
  refine zMet_of (cc := cX7_undo) (maxL := 1) (ret := (some .int)) (by decide) rfl (Nat.le_of_ble_eq_true rfl) ?_
  intro p e s m below meth c A ls hx hb hr hml hown hts hK hA hE hlocks hin hM hl
  have hown : s.vm.findClass RX7 = some m.cls := hown
  have hM : zM G A s s.heap [] ([(q, .inr (7, [v0, v1, v2, .ref w3, v4, v5, .ref w6, .int (nI (n + 1)), v8, v9, v10, v11, v12, v13, v14, v15])), (w3, .inl (G.2 1, 121, .inl F)), (w6, .inl (G.2 1, 1694, .inl D))]) := hM
  have hl : lv_has ls 1 [(0, .ref q)] := hl
  refine lv_aload_n hx hb dX7_undo_0 rfl (lv_at hl 0 rfl) ?_
  refine lv_aload_n hx hb dX7_undo_1 rfl (lv_at hl 0 rfl) ?_
  refine z_get (ci := 7) (v := .int (nI (n + 1))) (C := RX7) (T := TX7) (N := 16) hx hb hts (by decide +kernel) hown hK hM 0 rfl rfl 7 (by decide) (hts (.fieldLink RX7 203 "ShiftIslesModel" "acts" "I") (by decide +kernel)) (fun _ h9 => h9) rfl dX7_undo_2 ?_
  refine lv_if_ne (tgt := 12) hx hb dX7_undo_5 (by decide) (fun c_1 => ?_) (fun c_1 => absurd c_1 (nI_nz (by omega) (by omega)))
  refine lv_iconst (v := 0) hx hb dX7_undo_12 (by decide) ?_
  refine z_callV (As := [.int 0]) (rest := []) (wc := [(q, .inr (7, [v0, v1, v2, .ref w3, v4, v5, .ref w6, .int (nI (n + 1)), v8, v9, v10, v11, v12, v13, v14, v15]))]) (wr := [(w3, .inl (G.2 1, 121, .inl F)), (w6, .inl (G.2 1, 1694, .inl D))]) (w1 := [(q, .inr (7, [.int 0, v1, v2, .ref w3, v4, v5, .ref w6, .int (nI (n + 1)), v8, v9, v10, v11, v12, v13, v14, v15]))]) (ws' := [(q, .inr (7, [.int 0, v1, v2, .ref w3, v4, v5, .ref w6, .int (nI (n + 1)), v8, v9, v10, v11, v12, v13, v14, v15])), (w3, .inl (G.2 1, 121, .inl F)), (w6, .inl (G.2 1, 1694, .inl D))]) ⟨hx, hb, hml, hown, hts⟩ (c_refused l G q v0 v1 v2 (.ref w3) v4 v5 (.ref w6) (.int (nI (n + 1))) v8 v9 v10 v11 v12 v13 v14 v15 0) (cwV 1 hts gX7_undo_X7_refused rfl rfl rfl (by decide +kernel) ⟨Nat.le_of_ble_eq_true rfl, Nat.le_of_ble_eq_true rfl⟩) 7 rfl rfl rfl rfl hl.1 rfl (Nat.le_of_ble_eq_true rfl) dX7_undo_13 ⟨Nat.le_of_ble_eq_true rfl, Nat.le_of_ble_eq_true rfl⟩ hK hE hA hM (pm_at 3 [0] [1, 2] rfl rfl rfl (by decide)) ((pm_at 3 [0] [1, 2] rfl rfl rfl (by decide))).symm (fun H locs hM hz => ?_)
  refine z_ifeq (tgt := 21) hx hb dX7_undo_16 (by decide) (fun c_2 => ?_) (fun c_2 => absurd c_2 (by decide))
  refine lv_aload_n hx hb dX7_undo_21 rfl (lv_at hl 0 rfl) ?_
  refine lv_dup hx hb dX7_undo_22 rfl ?_
  refine z_get (ci := 7) (v := .int (nI (n + 1))) (C := RX7) (T := TX7) (N := 16) hx hb hts (by decide +kernel) hown hK hM 0 rfl rfl 7 (by decide) (hts (.fieldLink RX7 203 "ShiftIslesModel" "acts" "I") (by decide +kernel)) (fun _ h9 => h9) rfl dX7_undo_23 ?_
  refine lv_iconst (v := 1) hx hb dX7_undo_26 (by decide) ?_
  refine lv_isub hx hb dX7_undo_27 ?_
  refine z_topi (y := nI ((n + 1) - 1)) (pk_sub (a := (n + 1)) (b := 1) (by omega)) ?_
  refine z_topi (y := nI n) (by rw [Nat.add_sub_cancel]) ?_
  refine z_put (ci := 7) (ty := .int) (v := .int (nI n)) (C := RX7) (T := TX7) (N := 16) (ws' := [(q, .inr (7, [.int 0, v1, v2, .ref w3, v4, v5, .ref w6, .int (nI n), v8, v9, v10, v11, v12, v13, v14, v15])), (w3, .inl (G.2 1, 121, .inl F)), (w6, .inl (G.2 1, 1694, .inl D))]) hx hb hts (by decide +kernel) tyX7 tyX7_ok nmX7 hown hK hM 0 rfl rfl 7 (by decide) (hts (.fieldLink RX7 203 "ShiftIslesModel" "acts" "I") (by decide +kernel)) (fun _ h9 => h9) rfl (by decide +kernel) rfl rfl (Nat.le_of_ble_eq_true rfl) dX7_undo_28 rfl (fun H locs hM => ?_)
  refine lv_aload_n hx hb dX7_undo_31 rfl (lv_at hl 0 rfl) ?_
  refine z_get (ci := 7) (v := .ref w6) (C := RX7) (T := TX7) (N := 16) hx hb hts (by decide +kernel) hown hK hM 0 rfl rfl 6 (by decide) (hts (.fieldLink RX7 22 "ShiftIslesModel" "diary" "[I") (by decide +kernel)) (fun _ h9 => h9) rfl dX7_undo_32 ?_
  refine lv_bipush (v := 121) hx hb dX7_undo_35 (by decide) ?_
  refine lv_aload_n hx hb dX7_undo_37 rfl (lv_at hl 0 rfl) ?_
  refine z_get (ci := 7) (v := .int (nI n)) (C := RX7) (T := TX7) (N := 16) hx hb hts (by decide +kernel) hown hK hM 0 rfl rfl 7 (by decide) (hts (.fieldLink RX7 203 "ShiftIslesModel" "acts" "I") (by decide +kernel)) (fun _ h9 => h9) rfl dX7_undo_38 ?_
  refine lv_imul hx hb dX7_undo_41 ?_
  refine z_topi (y := nI (121 * n)) (pk_mul 121 n) ?_
  refine lv_aload_n hx hb dX7_undo_42 rfl (lv_at hl 0 rfl) ?_
  refine z_get (ci := 7) (v := .ref w3) (C := RX7) (T := TX7) (N := 16) hx hb hts (by decide +kernel) hown hK hM 0 rfl rfl 3 (by decide) (hts (.fieldLink RX7 13 "ShiftIslesModel" "now" "[I") (by decide +kernel)) (fun _ h9 => h9) rfl dX7_undo_43 ?_
  refine lv_iconst (v := nI 0) hx hb dX7_undo_46 (by decide) ?_
  refine z_callS (As := [.ref w6, .int (nI (121 * n)), .ref w3, .int (nI 0)]) (rest := []) (wc := [(w6, .inl (G.2 1, 1694, .inl D)), (w3, .inl (G.2 1, 121, .inl F))]) (wr := [(q, .inr (7, [.int 0, v1, v2, .ref w3, v4, v5, .ref w6, .int (nI n), v8, v9, v10, v11, v12, v13, v14, v15]))]) (w1 := [(w6, .inl (G.2 1, 1694, .inl D)), (w3, .inl (G.2 1, 121, .inl (cpv D F (121 * n) 0 121)))]) (ws' := [(q, .inr (7, [.int 0, v1, v2, .ref w3, v4, v5, .ref w6, .int (nI n), v8, v9, v10, v11, v12, v13, v14, v15])), (w3, .inl (G.2 1, 121, .inl (cpv D F (121 * n) 0 121))), (w6, .inl (G.2 1, 1694, .inl D))]) ⟨hx, hb, hml, hown, hts⟩ (c_copyState l G w6 w3 1694 121 (121 * n) 0 D F (by omega) (by omega) (by decide) (by decide)) (va_cwS 4 hts gX7_undo_X7_copyState rfl rfl rfl (by decide +kernel) ⟨Nat.le_of_ble_eq_true rfl, Nat.le_of_ble_eq_true rfl⟩) rfl hl.1 rfl (Nat.le_of_ble_eq_true rfl) dX7_undo_47 ⟨Nat.le_of_ble_eq_true rfl, Nat.le_of_ble_eq_true rfl⟩ hK hE hA hM (pm_at 3 [2, 1] [0] rfl rfl rfl (by decide)) ((pm_at 3 [2, 1] [0] rfl rfl rfl (by decide))).symm (fun H locs hM hz => ?_)
  refine lv_aload_n hx hb dX7_undo_50 rfl (lv_at hl 0 rfl) ?_
  refine z_get (ci := 7) (v := .int (nI n)) (C := RX7) (T := TX7) (N := 16) hx hb hts (by decide +kernel) hown hK hM 0 rfl rfl 7 (by decide) (hts (.fieldLink RX7 203 "ShiftIslesModel" "acts" "I") (by decide +kernel)) (fun _ h9 => h9) rfl dX7_undo_51 ?_
  exact z_iret hx hb hr hlocks dX7_undo_54 hM (Nat.le_of_ble_eq_true rfl) (Nat.le_of_ble_eq_true rfl) rfl

set_option maxHeartbeats 4000000 in
set_option maxRecDepth 100000 in
theorem c_r_setting1 (l : Launch) (G : zC) (q : Nat) (v0 v1 v2 v4 v5 v6 v7 v8 v9 v10 v11 v12 v13 v14 v15 : Value) (w3 : Nat) (h : Nat → Int32) (b : Nat → Nat → Int32) (k : Int32) (hc : zI0 k.toInt64 0 2 = false) : zMet l G yX7_setting wsX7_setting rmX7_setting [.ref q, .int k] ([(q, .inr (7, [v0, v1, v2, .ref w3, v4, v5, v6, v7, v8, v9, v10, v11, v12, v13, v14, v15])), (w3, .inl (G.2 1, 121, .inl (flt h b)))]) (some (.int 0)) ([(q, .inr (7, [.int 1, v1, v2, .ref w3, v4, v5, v6, v7, v8, v9, v10, v11, v12, v13, v14, v15])), (w3, .inl (G.2 1, 121, .inl (flt h b)))]) := by
  refine zMet_of (cc := cX7_setting) (maxL := 2) (ret := (some .int)) (by decide) rfl (Nat.le_of_ble_eq_true rfl) ?_
  intro p e s m below meth c A ls hx hb hr hml hown hts hK hA hE hlocks hin hM hl
  have hown : s.vm.findClass RX7 = some m.cls := hown
  have hM : zM G A s s.heap [] ([(q, .inr (7, [v0, v1, v2, .ref w3, v4, v5, v6, v7, v8, v9, v10, v11, v12, v13, v14, v15])), (w3, .inl (G.2 1, 121, .inl (flt h b)))]) := hM
  have hl : lv_has ls 2 [(0, .ref q), (1, .int k)] := hl
  refine lv_aload_n hx hb dX7_setting_0 rfl (lv_at hl 0 rfl) ?_
  refine lv_iload_n hx hb dX7_setting_1 rfl (lv_at hl 1 rfl) ?_
  refine lv_i2l (v := k.toInt64) hx hb dX7_setting_2 rfl ?_
  refine lv_lconst (v := 0) hx hb dX7_setting_3 (by decide) ?_
  refine lv_ldc2 (v := 2) hx hb hown (hts (.constantLong RX7 152 2) (by decide +kernel)) dX7_setting_4 ?_
  refine z_callS (As := [.long k.toInt64, .long 0, .long 2]) (rest := [.ref q]) (wc := []) (wr := [(q, .inr (7, [v0, v1, v2, .ref w3, v4, v5, v6, v7, v8, v9, v10, v11, v12, v13, v14, v15])), (w3, .inl (G.2 1, 121, .inl (flt h b)))]) (w1 := []) (ws' := [(q, .inr (7, [v0, v1, v2, .ref w3, v4, v5, v6, v7, v8, v9, v10, v11, v12, v13, v14, v15])), (w3, .inl (G.2 1, 121, .inl (flt h b)))]) ⟨hx, hb, hml, hown, hts⟩ (c_in l G k.toInt64 0 2) (va_cwS 3 hts gX7_setting_X7_in rfl rfl rfl (by decide +kernel) ⟨Nat.le_of_ble_eq_true rfl, Nat.le_of_ble_eq_true rfl⟩) rfl hl.1 rfl (Nat.le_of_ble_eq_true rfl) dX7_setting_7 ⟨Nat.le_of_ble_eq_true rfl, Nat.le_of_ble_eq_true rfl⟩ hK hE hA hM (List.Perm.refl _) (List.Perm.refl _) (fun H locs hM hz => ?_)
  refine z_ifeq (tgt := 17) hx hb dX7_setting_10 (by decide) (fun c_1 => ?_) (fun c_1 => Bool.noConfusion (c_1.symm.trans hc))
  refine lv_iconst (v := 1) hx hb dX7_setting_17 (by decide) ?_
  refine z_callV (As := [.int 1]) (rest := []) (wc := [(q, .inr (7, [v0, v1, v2, .ref w3, v4, v5, v6, v7, v8, v9, v10, v11, v12, v13, v14, v15]))]) (wr := [(w3, .inl (G.2 1, 121, .inl (flt h b)))]) (w1 := [(q, .inr (7, [.int 1, v1, v2, .ref w3, v4, v5, v6, v7, v8, v9, v10, v11, v12, v13, v14, v15]))]) (ws' := [(q, .inr (7, [.int 1, v1, v2, .ref w3, v4, v5, v6, v7, v8, v9, v10, v11, v12, v13, v14, v15])), (w3, .inl (G.2 1, 121, .inl (flt h b)))]) ⟨hx, hb, hml, hown, hts⟩ (c_refused l G q v0 v1 v2 (.ref w3) v4 v5 v6 v7 v8 v9 v10 v11 v12 v13 v14 v15 1) (cwV 1 hts gX7_setting_X7_refused rfl rfl rfl (by decide +kernel) ⟨Nat.le_of_ble_eq_true rfl, Nat.le_of_ble_eq_true rfl⟩) 7 rfl rfl rfl rfl hl.1 rfl (Nat.le_of_ble_eq_true rfl) dX7_setting_18 ⟨Nat.le_of_ble_eq_true rfl, Nat.le_of_ble_eq_true rfl⟩ hK hE hA hM (pm_at 2 [0] [1] rfl rfl rfl (by decide)) ((pm_at 2 [0] [1] rfl rfl rfl (by decide))).symm (fun H locs hM hz => ?_)
  refine z_ifeq (tgt := 26) hx hb dX7_setting_21 (by decide) (fun c_2 => absurd c_2 (by decide)) (fun c_2 => ?_)
  refine lv_iconst (v := 0) hx hb dX7_setting_24 (by decide) ?_
  exact z_iret hx hb hr hlocks dX7_setting_25 hM (Nat.le_of_ble_eq_true rfl) (Nat.le_of_ble_eq_true rfl) rfl

set_option maxHeartbeats 4000000 in
set_option maxRecDepth 100000 in
theorem c_r_about1 (l : Launch) (G : zC) (q : Nat) (v0 v1 v2 v4 v5 v6 v7 v8 v9 v10 v11 v12 v13 v14 v15 : Value) (w3 : Nat) (h : Nat → Int32) (b : Nat → Nat → Int32) (k : Int32) (hc : zI0 k.toInt64 0 5 = false) : zMet l G yX7_about wsX7_about rmX7_about [.ref q, .int k] ([(q, .inr (7, [v0, v1, v2, .ref w3, v4, v5, v6, v7, v8, v9, v10, v11, v12, v13, v14, v15])), (w3, .inl (G.2 1, 121, .inl (flt h b)))]) (some (.int 0)) ([(q, .inr (7, [.int 1, v1, v2, .ref w3, v4, v5, v6, v7, v8, v9, v10, v11, v12, v13, v14, v15])), (w3, .inl (G.2 1, 121, .inl (flt h b)))]) := by
  refine zMet_of (cc := cX7_about) (maxL := 2) (ret := (some .int)) (by decide) rfl (Nat.le_of_ble_eq_true rfl) ?_
  intro p e s m below meth c A ls hx hb hr hml hown hts hK hA hE hlocks hin hM hl
  have hown : s.vm.findClass RX7 = some m.cls := hown
  have hM : zM G A s s.heap [] ([(q, .inr (7, [v0, v1, v2, .ref w3, v4, v5, v6, v7, v8, v9, v10, v11, v12, v13, v14, v15])), (w3, .inl (G.2 1, 121, .inl (flt h b)))]) := hM
  have hl : lv_has ls 2 [(0, .ref q), (1, .int k)] := hl
  refine lv_aload_n hx hb dX7_about_0 rfl (lv_at hl 0 rfl) ?_
  refine lv_iload_n hx hb dX7_about_1 rfl (lv_at hl 1 rfl) ?_
  refine lv_i2l (v := k.toInt64) hx hb dX7_about_2 rfl ?_
  refine lv_lconst (v := 0) hx hb dX7_about_3 (by decide) ?_
  refine lv_ldc2 (v := 5) hx hb hown (hts (.constantLong RX7 46 5) (by decide +kernel)) dX7_about_4 ?_
  refine z_callS (As := [.long k.toInt64, .long 0, .long 5]) (rest := [.ref q]) (wc := []) (wr := [(q, .inr (7, [v0, v1, v2, .ref w3, v4, v5, v6, v7, v8, v9, v10, v11, v12, v13, v14, v15])), (w3, .inl (G.2 1, 121, .inl (flt h b)))]) (w1 := []) (ws' := [(q, .inr (7, [v0, v1, v2, .ref w3, v4, v5, v6, v7, v8, v9, v10, v11, v12, v13, v14, v15])), (w3, .inl (G.2 1, 121, .inl (flt h b)))]) ⟨hx, hb, hml, hown, hts⟩ (c_in l G k.toInt64 0 5) (va_cwS 3 hts gX7_about_X7_in rfl rfl rfl (by decide +kernel) ⟨Nat.le_of_ble_eq_true rfl, Nat.le_of_ble_eq_true rfl⟩) rfl hl.1 rfl (Nat.le_of_ble_eq_true rfl) dX7_about_7 ⟨Nat.le_of_ble_eq_true rfl, Nat.le_of_ble_eq_true rfl⟩ hK hE hA hM (List.Perm.refl _) (List.Perm.refl _) (fun H locs hM hz => ?_)
  refine z_ifeq (tgt := 17) hx hb dX7_about_10 (by decide) (fun c_1 => ?_) (fun c_1 => Bool.noConfusion (c_1.symm.trans hc))
  refine lv_iconst (v := 1) hx hb dX7_about_17 (by decide) ?_
  refine z_callV (As := [.int 1]) (rest := []) (wc := [(q, .inr (7, [v0, v1, v2, .ref w3, v4, v5, v6, v7, v8, v9, v10, v11, v12, v13, v14, v15]))]) (wr := [(w3, .inl (G.2 1, 121, .inl (flt h b)))]) (w1 := [(q, .inr (7, [.int 1, v1, v2, .ref w3, v4, v5, v6, v7, v8, v9, v10, v11, v12, v13, v14, v15]))]) (ws' := [(q, .inr (7, [.int 1, v1, v2, .ref w3, v4, v5, v6, v7, v8, v9, v10, v11, v12, v13, v14, v15])), (w3, .inl (G.2 1, 121, .inl (flt h b)))]) ⟨hx, hb, hml, hown, hts⟩ (c_refused l G q v0 v1 v2 (.ref w3) v4 v5 v6 v7 v8 v9 v10 v11 v12 v13 v14 v15 1) (cwV 1 hts gX7_about_X7_refused rfl rfl rfl (by decide +kernel) ⟨Nat.le_of_ble_eq_true rfl, Nat.le_of_ble_eq_true rfl⟩) 7 rfl rfl rfl rfl hl.1 rfl (Nat.le_of_ble_eq_true rfl) dX7_about_18 ⟨Nat.le_of_ble_eq_true rfl, Nat.le_of_ble_eq_true rfl⟩ hK hE hA hM (pm_at 2 [0] [1] rfl rfl rfl (by decide)) ((pm_at 2 [0] [1] rfl rfl rfl (by decide))).symm (fun H locs hM hz => ?_)
  refine z_ifeq (tgt := 26) hx hb dX7_about_21 (by decide) (fun c_2 => absurd c_2 (by decide)) (fun c_2 => ?_)
  refine lv_iconst (v := 0) hx hb dX7_about_24 (by decide) ?_
  exact z_iret hx hb hr hlocks dX7_about_25 hM (Nat.le_of_ble_eq_true rfl) (Nat.le_of_ble_eq_true rfl) rfl

set_option maxHeartbeats 4000000 in
set_option maxRecDepth 100000 in
theorem c_r_setting0 (l : Launch) (G : zC) (q : Nat) (v0 v1 v2 v4 v5 v6 v7 v8 v9 v10 v11 v12 v13 v14 v15 : Value) (w3 : Nat) (h : Nat → Int32) (b : Nat → Nat → Int32) (j : Nat) (hj : j < 3) (hc : zI0 (nI j).toInt64 0 2 = true) : zMet l G yX7_setting wsX7_setting rmX7_setting [.ref q, .int (nI j)] ([(q, .inr (7, [v0, v1, v2, .ref w3, v4, v5, v6, v7, v8, v9, v10, v11, v12, v13, v14, v15])), (w3, .inl (G.2 1, 121, .inl (flt h b)))]) (some (.int (h (6 + j)))) ([(q, .inr (7, [.int 0, v1, v2, .ref w3, v4, v5, v6, v7, v8, v9, v10, v11, v12, v13, v14, v15])), (w3, .inl (G.2 1, 121, .inl (flt h b)))]) := by
  refine zMet_of (cc := cX7_setting) (maxL := 2) (ret := (some .int)) (by decide) rfl (Nat.le_of_ble_eq_true rfl) ?_
  intro p e s m below meth c A ls hx hb hr hml hown hts hK hA hE hlocks hin hM hl
  have hown : s.vm.findClass RX7 = some m.cls := hown
  have hM : zM G A s s.heap [] ([(q, .inr (7, [v0, v1, v2, .ref w3, v4, v5, v6, v7, v8, v9, v10, v11, v12, v13, v14, v15])), (w3, .inl (G.2 1, 121, .inl (flt h b)))]) := hM
  have hl : lv_has ls 2 [(0, .ref q), (1, .int (nI j))] := hl
  refine lv_aload_n hx hb dX7_setting_0 rfl (lv_at hl 0 rfl) ?_
  refine lv_iload_n hx hb dX7_setting_1 rfl (lv_at hl 1 rfl) ?_
  refine lv_i2l (v := (nI j).toInt64) hx hb dX7_setting_2 rfl ?_
  refine lv_lconst (v := 0) hx hb dX7_setting_3 (by decide) ?_
  refine lv_ldc2 (v := 2) hx hb hown (hts (.constantLong RX7 152 2) (by decide +kernel)) dX7_setting_4 ?_
  refine z_callS (As := [.long ((nI j).toInt64), .long 0, .long 2]) (rest := [.ref q]) (wc := []) (wr := [(q, .inr (7, [v0, v1, v2, .ref w3, v4, v5, v6, v7, v8, v9, v10, v11, v12, v13, v14, v15])), (w3, .inl (G.2 1, 121, .inl (flt h b)))]) (w1 := []) (ws' := [(q, .inr (7, [v0, v1, v2, .ref w3, v4, v5, v6, v7, v8, v9, v10, v11, v12, v13, v14, v15])), (w3, .inl (G.2 1, 121, .inl (flt h b)))]) ⟨hx, hb, hml, hown, hts⟩ (c_in l G ((nI j).toInt64) 0 2) (va_cwS 3 hts gX7_setting_X7_in rfl rfl rfl (by decide +kernel) ⟨Nat.le_of_ble_eq_true rfl, Nat.le_of_ble_eq_true rfl⟩) rfl hl.1 rfl (Nat.le_of_ble_eq_true rfl) dX7_setting_7 ⟨Nat.le_of_ble_eq_true rfl, Nat.le_of_ble_eq_true rfl⟩ hK hE hA hM (List.Perm.refl _) (List.Perm.refl _) (fun H locs hM hz => ?_)
  refine z_ifeq (tgt := 17) hx hb dX7_setting_10 (by decide) (fun c_1 => Bool.noConfusion (hc.symm.trans c_1)) (fun c_1 => ?_)
  refine lv_iconst (v := 0) hx hb dX7_setting_13 (by decide) ?_
  refine lv_goto (tgt := 18) hx hb dX7_setting_14 (by decide) ?_
  refine z_callV (As := [.int 0]) (rest := []) (wc := [(q, .inr (7, [v0, v1, v2, .ref w3, v4, v5, v6, v7, v8, v9, v10, v11, v12, v13, v14, v15]))]) (wr := [(w3, .inl (G.2 1, 121, .inl (flt h b)))]) (w1 := [(q, .inr (7, [.int 0, v1, v2, .ref w3, v4, v5, v6, v7, v8, v9, v10, v11, v12, v13, v14, v15]))]) (ws' := [(q, .inr (7, [.int 0, v1, v2, .ref w3, v4, v5, v6, v7, v8, v9, v10, v11, v12, v13, v14, v15])), (w3, .inl (G.2 1, 121, .inl (flt h b)))]) ⟨hx, hb, hml, hown, hts⟩ (c_refused l G q v0 v1 v2 (.ref w3) v4 v5 v6 v7 v8 v9 v10 v11 v12 v13 v14 v15 0) (cwV 1 hts gX7_setting_X7_refused rfl rfl rfl (by decide +kernel) ⟨Nat.le_of_ble_eq_true rfl, Nat.le_of_ble_eq_true rfl⟩) 7 rfl rfl rfl rfl hl.1 rfl (Nat.le_of_ble_eq_true rfl) dX7_setting_18 ⟨Nat.le_of_ble_eq_true rfl, Nat.le_of_ble_eq_true rfl⟩ hK hE hA hM (pm_at 2 [0] [1] rfl rfl rfl (by decide)) ((pm_at 2 [0] [1] rfl rfl rfl (by decide))).symm (fun H locs hM hz => ?_)
  refine z_ifeq (tgt := 26) hx hb dX7_setting_21 (by decide) (fun c_2 => ?_) (fun c_2 => absurd c_2 (by decide))
  refine lv_aload_n hx hb dX7_setting_26 rfl (lv_at hl 0 rfl) ?_
  refine z_get (ci := 7) (v := .ref w3) (C := RX7) (T := TX7) (N := 16) hx hb hts (by decide +kernel) hown hK hM 0 rfl rfl 3 (by decide) (hts (.fieldLink RX7 13 "ShiftIslesModel" "now" "[I") (by decide +kernel)) (fun _ h9 => h9) rfl dX7_setting_27 ?_
  refine lv_bipush (v := 6) hx hb dX7_setting_30 (by decide) ?_
  refine lv_iload_n hx hb dX7_setting_32 rfl (lv_at hl 1 rfl) ?_
  refine lv_iadd hx hb dX7_setting_33 ?_
  refine z_topi (y := nI (6 + j)) (nI_add 6 j) ?_
  refine z_iald hx hb hK hM 1 rfl (v := h (6 + j)) (vp_in_nI (by omega) (by decide)) (by rw [nI_clamp (by omega)]; exact flt_h (by omega)) dX7_setting_34 ?_
  exact z_iret hx hb hr hlocks dX7_setting_35 hM (Nat.le_of_ble_eq_true rfl) (Nat.le_of_ble_eq_true rfl) rfl

set_option maxHeartbeats 4000000 in
set_option maxRecDepth 100000 in
theorem c_r_about0 (l : Launch) (G : zC) (q : Nat) (v0 v1 v2 v4 v5 v6 v7 v8 v9 v10 v11 v12 v13 v14 v15 : Value) (w3 : Nat) (h : Nat → Int32) (b : Nat → Nat → Int32) (j : Nat) (hj : j < 6) (hc : zI0 (nI j).toInt64 0 5 = true) : zMet l G yX7_about wsX7_about rmX7_about [.ref q, .int (nI j)] ([(q, .inr (7, [v0, v1, v2, .ref w3, v4, v5, v6, v7, v8, v9, v10, v11, v12, v13, v14, v15])), (w3, .inl (G.2 1, 121, .inl (flt h b)))]) (some (.int (if j = 1 ∧ h 4 = 1 then -1 else h j))) ([(q, .inr (7, [.int 0, v1, v2, .ref w3, v4, v5, v6, v7, v8, v9, v10, v11, v12, v13, v14, v15])), (w3, .inl (G.2 1, 121, .inl (flt h b)))]) := by
  refine zMet_of (cc := cX7_about) (maxL := 2) (ret := (some .int)) (by decide) rfl (Nat.le_of_ble_eq_true rfl) ?_
  intro p e s m below meth c A ls hx hb hr hml hown hts hK hA hE hlocks hin hM hl
  have hown : s.vm.findClass RX7 = some m.cls := hown
  have hM : zM G A s s.heap [] ([(q, .inr (7, [v0, v1, v2, .ref w3, v4, v5, v6, v7, v8, v9, v10, v11, v12, v13, v14, v15])), (w3, .inl (G.2 1, 121, .inl (flt h b)))]) := hM
  have hl : lv_has ls 2 [(0, .ref q), (1, .int (nI j))] := hl
  refine lv_aload_n hx hb dX7_about_0 rfl (lv_at hl 0 rfl) ?_
  refine lv_iload_n hx hb dX7_about_1 rfl (lv_at hl 1 rfl) ?_
  refine lv_i2l (v := (nI j).toInt64) hx hb dX7_about_2 rfl ?_
  refine lv_lconst (v := 0) hx hb dX7_about_3 (by decide) ?_
  refine lv_ldc2 (v := 5) hx hb hown (hts (.constantLong RX7 46 5) (by decide +kernel)) dX7_about_4 ?_
  refine z_callS (As := [.long ((nI j).toInt64), .long 0, .long 5]) (rest := [.ref q]) (wc := []) (wr := [(q, .inr (7, [v0, v1, v2, .ref w3, v4, v5, v6, v7, v8, v9, v10, v11, v12, v13, v14, v15])), (w3, .inl (G.2 1, 121, .inl (flt h b)))]) (w1 := []) (ws' := [(q, .inr (7, [v0, v1, v2, .ref w3, v4, v5, v6, v7, v8, v9, v10, v11, v12, v13, v14, v15])), (w3, .inl (G.2 1, 121, .inl (flt h b)))]) ⟨hx, hb, hml, hown, hts⟩ (c_in l G ((nI j).toInt64) 0 5) (va_cwS 3 hts gX7_about_X7_in rfl rfl rfl (by decide +kernel) ⟨Nat.le_of_ble_eq_true rfl, Nat.le_of_ble_eq_true rfl⟩) rfl hl.1 rfl (Nat.le_of_ble_eq_true rfl) dX7_about_7 ⟨Nat.le_of_ble_eq_true rfl, Nat.le_of_ble_eq_true rfl⟩ hK hE hA hM (List.Perm.refl _) (List.Perm.refl _) (fun H locs hM hz => ?_)
  refine z_ifeq (tgt := 17) hx hb dX7_about_10 (by decide) (fun c_1 => Bool.noConfusion (hc.symm.trans c_1)) (fun c_1 => ?_)
  refine lv_iconst (v := 0) hx hb dX7_about_13 (by decide) ?_
  refine lv_goto (tgt := 18) hx hb dX7_about_14 (by decide) ?_
  refine z_callV (As := [.int 0]) (rest := []) (wc := [(q, .inr (7, [v0, v1, v2, .ref w3, v4, v5, v6, v7, v8, v9, v10, v11, v12, v13, v14, v15]))]) (wr := [(w3, .inl (G.2 1, 121, .inl (flt h b)))]) (w1 := [(q, .inr (7, [.int 0, v1, v2, .ref w3, v4, v5, v6, v7, v8, v9, v10, v11, v12, v13, v14, v15]))]) (ws' := [(q, .inr (7, [.int 0, v1, v2, .ref w3, v4, v5, v6, v7, v8, v9, v10, v11, v12, v13, v14, v15])), (w3, .inl (G.2 1, 121, .inl (flt h b)))]) ⟨hx, hb, hml, hown, hts⟩ (c_refused l G q v0 v1 v2 (.ref w3) v4 v5 v6 v7 v8 v9 v10 v11 v12 v13 v14 v15 0) (cwV 1 hts gX7_about_X7_refused rfl rfl rfl (by decide +kernel) ⟨Nat.le_of_ble_eq_true rfl, Nat.le_of_ble_eq_true rfl⟩) 7 rfl rfl rfl rfl hl.1 rfl (Nat.le_of_ble_eq_true rfl) dX7_about_18 ⟨Nat.le_of_ble_eq_true rfl, Nat.le_of_ble_eq_true rfl⟩ hK hE hA hM (pm_at 2 [0] [1] rfl rfl rfl (by decide)) ((pm_at 2 [0] [1] rfl rfl rfl (by decide))).symm (fun H locs hM hz => ?_)
  refine z_ifeq (tgt := 26) hx hb dX7_about_21 (by decide) (fun c_2 => ?_) (fun c_2 => absurd c_2 (by decide))
  refine lv_iload_n hx hb dX7_about_26 rfl (lv_at hl 1 rfl) ?_
  refine lv_iconst (v := 1) hx hb dX7_about_27 (by decide) ?_
  refine z_topi (y := nI 1) rfl ?_
  refine lv_icmp_ne (tgt := 45) hx hb dX7_about_28 (by decide) (fun c_3 => ?_) (fun c_3 => ?_)
  · have n1 : ¬ j = 1 := fun q => c_3 (by rw [q])
    refine lv_aload_n hx hb dX7_about_45 rfl (lv_at hl 0 rfl) ?_
    refine z_get (ci := 7) (v := .ref w3) (C := RX7) (T := TX7) (N := 16) hx hb hts (by decide +kernel) hown hK hM 0 rfl rfl 3 (by decide) (hts (.fieldLink RX7 13 "ShiftIslesModel" "now" "[I") (by decide +kernel)) (fun _ h9 => h9) rfl dX7_about_46 ?_
    refine lv_iload_n hx hb dX7_about_49 rfl (lv_at hl 1 rfl) ?_
    refine z_iald hx hb hK hM 1 rfl (v := h j) (vp_in_nI (by omega) (by decide)) (by rw [nI_clamp (by omega)]; exact flt_h (by omega)) dX7_about_50 ?_
    exact z_iret hx hb hr hlocks dX7_about_51 hM (Nat.le_of_ble_eq_true rfl) (Nat.le_of_ble_eq_true rfl) (by rw [if_neg (fun q => n1 q.1)])
  · have n1 : j = 1 := (nI_eq (a := j) (b := 1) (by omega) (by decide)).mp c_3
    refine lv_aload_n hx hb dX7_about_31 rfl (lv_at hl 0 rfl) ?_
    refine z_get (ci := 7) (v := .ref w3) (C := RX7) (T := TX7) (N := 16) hx hb hts (by decide +kernel) hown hK hM 0 rfl rfl 3 (by decide) (hts (.fieldLink RX7 13 "ShiftIslesModel" "now" "[I") (by decide +kernel)) (fun _ h9 => h9) rfl dX7_about_32 ?_
    refine lv_iconst (v := 4) hx hb dX7_about_35 (by decide) ?_
    refine z_iald hx hb hK hM 1 rfl (v := h 4) (vp_in_nI (n := 4) (by decide) (by decide)) (flt_h (k := 4) (by decide)) dX7_about_36 ?_
    refine lv_iconst (v := 1) hx hb dX7_about_37 (by decide) ?_
    refine lv_icmp_ne (tgt := 45) hx hb dX7_about_38 (by decide) (fun c_2 => ?_) (fun c_2 => ?_)
    · skip
      refine lv_aload_n hx hb dX7_about_45 rfl (lv_at hl 0 rfl) ?_
      refine z_get (ci := 7) (v := .ref w3) (C := RX7) (T := TX7) (N := 16) hx hb hts (by decide +kernel) hown hK hM 0 rfl rfl 3 (by decide) (hts (.fieldLink RX7 13 "ShiftIslesModel" "now" "[I") (by decide +kernel)) (fun _ h9 => h9) rfl dX7_about_46 ?_
      refine lv_iload_n hx hb dX7_about_49 rfl (lv_at hl 1 rfl) ?_
      refine z_iald hx hb hK hM 1 rfl (v := h j) (vp_in_nI (by omega) (by decide)) (by rw [nI_clamp (by omega)]; exact flt_h (by omega)) dX7_about_50 ?_
      exact z_iret hx hb hr hlocks dX7_about_51 hM (Nat.le_of_ble_eq_true rfl) (Nat.le_of_ble_eq_true rfl) (by rw [if_neg (fun q => c_2 q.2)])
    · skip
      refine lv_iconst (v := (-1)) hx hb dX7_about_41 (by decide) ?_
      refine lv_goto (tgt := 51) hx hb dX7_about_42 (by decide) ?_
      exact z_iret hx hb hr hlocks dX7_about_51 hM (Nat.le_of_ble_eq_true rfl) (Nat.le_of_ble_eq_true rfl) (by rw [if_pos ⟨n1, c_2⟩])

set_option maxHeartbeats 4000000 in
set_option maxRecDepth 100000 in
theorem c_r_canShift1 (l : Launch) (G : zC) (q : Nat) (v0 v1 v2 v4 v5 v6 v7 v8 v9 v10 v11 v12 v13 v14 v15 : Value) (w3 : Nat) (h : Nat → Int32) (b : Nat → Nat → Int32) (P : Nat) (hP : h 0 = nI P) (hP4 : P ≤ 4) (i n d : Int32) (hc : (zHp h i && zLi n) = false) : zMet l G yX7_canShift wsX7_canShift rmX7_canShift [.ref q, .int i, .int n, .int d] ([(q, .inr (7, [v0, v1, v2, .ref w3, v4, v5, v6, v7, v8, v9, v10, v11, v12, v13, v14, v15])), (w3, .inl (G.2 1, 121, .inl (flt h b)))]) (some (.int 0)) ([(q, .inr (7, [.int 1, v1, v2, .ref w3, v4, v5, v6, v7, v8, v9, v10, v11, v12, v13, v14, v15])), (w3, .inl (G.2 1, 121, .inl (flt h b)))]) := by
  refine zMet_of (cc := cX7_canShift) (maxL := 4) (ret := (some .boolean)) (by decide) rfl (Nat.le_of_ble_eq_true rfl) ?_
  intro p e s m below meth c A ls hx hb hr hml hown hts hK hA hE hlocks hin hM hl
  have hown : s.vm.findClass RX7 = some m.cls := hown
  have hM : zM G A s s.heap [] ([(q, .inr (7, [v0, v1, v2, .ref w3, v4, v5, v6, v7, v8, v9, v10, v11, v12, v13, v14, v15])), (w3, .inl (G.2 1, 121, .inl (flt h b)))]) := hM
  have hl : lv_has ls 4 [(0, .ref q), (1, .int i), (2, .int n), (3, .int d)] := hl
  refine lv_aload_n hx hb dX7_canShift_0 rfl (lv_at hl 0 rfl) ?_
  refine lv_aload_n hx hb dX7_canShift_1 rfl (lv_at hl 0 rfl) ?_
  refine z_get (ci := 7) (v := .ref w3) (C := RX7) (T := TX7) (N := 16) hx hb hts (by decide +kernel) hown hK hM 0 rfl rfl 3 (by decide) (hts (.fieldLink RX7 13 "ShiftIslesModel" "now" "[I") (by decide +kernel)) (fun _ h9 => h9) rfl dX7_canShift_2 ?_
  refine lv_iload_n hx hb dX7_canShift_5 rfl (lv_at hl 1 rfl) ?_
  refine z_callS (As := [.ref w3, .int i]) (rest := [.ref q]) (wc := rfW G w3 h b) (wr := [(q, .inr (7, [v0, v1, v2, .ref w3, v4, v5, v6, v7, v8, v9, v10, v11, v12, v13, v14, v15]))]) (w1 := rfW G w3 h b) (ws' := [(q, .inr (7, [v0, v1, v2, .ref w3, v4, v5, v6, v7, v8, v9, v10, v11, v12, v13, v14, v15])), (w3, .inl (G.2 1, 121, .inl (flt h b)))]) ⟨hx, hb, hml, hown, hts⟩ (c_r_isPlayer l G w3 h b P hP hP4 i ) (va_cwS 2 hts gX7_canShift_X7_isPlayer rfl rfl rfl (by decide +kernel) ⟨Nat.le_of_ble_eq_true rfl, Nat.le_of_ble_eq_true rfl⟩) rfl hl.1 rfl (Nat.le_of_ble_eq_true rfl) dX7_canShift_6 ⟨Nat.le_of_ble_eq_true rfl, Nat.le_of_ble_eq_true rfl⟩ hK hE hA hM (pm_at 2 [1] [0] rfl rfl rfl (by decide)) ((pm_at 2 [1] [0] rfl rfl rfl (by decide))).symm (fun H locs hM hz => ?_)
  refine z_ifeq (tgt := 19) hx hb dX7_canShift_9 (by decide) (fun c_1 => ?_) (fun c_1 => ?_)
  · skip
    refine lv_iconst (v := 1) hx hb dX7_canShift_19 (by decide) ?_
    refine lv_goto (tgt := 38) hx hb dX7_canShift_20 (by decide) ?_
    refine z_callV (As := [.int 1]) (rest := []) (wc := [(q, .inr (7, [v0, v1, v2, .ref w3, v4, v5, v6, v7, v8, v9, v10, v11, v12, v13, v14, v15]))]) (wr := [(w3, .inl (G.2 1, 121, .inl (flt h b)))]) (w1 := [(q, .inr (7, [.int 1, v1, v2, .ref w3, v4, v5, v6, v7, v8, v9, v10, v11, v12, v13, v14, v15]))]) (ws' := [(q, .inr (7, [.int 1, v1, v2, .ref w3, v4, v5, v6, v7, v8, v9, v10, v11, v12, v13, v14, v15])), (w3, .inl (G.2 1, 121, .inl (flt h b)))]) ⟨hx, hb, hml, hown, hts⟩ (c_refused l G q v0 v1 v2 (.ref w3) v4 v5 v6 v7 v8 v9 v10 v11 v12 v13 v14 v15 1) (cwV 1 hts gX7_canShift_X7_refused rfl rfl rfl (by decide +kernel) ⟨Nat.le_of_ble_eq_true rfl, Nat.le_of_ble_eq_true rfl⟩) 7 rfl rfl rfl rfl hl.1 rfl (Nat.le_of_ble_eq_true rfl) dX7_canShift_38 ⟨Nat.le_of_ble_eq_true rfl, Nat.le_of_ble_eq_true rfl⟩ hK hE hA hM (pm_at 2 [0] [1] rfl rfl rfl (by decide)) ((pm_at 2 [0] [1] rfl rfl rfl (by decide))).symm (fun H locs hM hz => ?_)
    refine z_ifeq (tgt := 46) hx hb dX7_canShift_41 (by decide) (fun c_1 => absurd c_1 (by decide)) (fun c_1 => ?_)
    refine lv_iconst (v := 0) hx hb dX7_canShift_44 (by decide) ?_
    exact z_zret hx hb hr hlocks dX7_canShift_45 hM (Nat.le_of_ble_eq_true rfl) (Nat.le_of_ble_eq_true rfl) (by first | exact Or.inl rfl | exact Or.inr rfl | exact zb_01 _) rfl
  · skip
    refine lv_iload_n hx hb dX7_canShift_12 rfl (lv_at hl 2 rfl) ?_
    refine z_callS (As := [.int n]) (rest := [.ref q]) (wc := []) (wr := [(q, .inr (7, [v0, v1, v2, .ref w3, v4, v5, v6, v7, v8, v9, v10, v11, v12, v13, v14, v15])), (w3, .inl (G.2 1, 121, .inl (flt h b)))]) (w1 := []) (ws' := [(q, .inr (7, [v0, v1, v2, .ref w3, v4, v5, v6, v7, v8, v9, v10, v11, v12, v13, v14, v15])), (w3, .inl (G.2 1, 121, .inl (flt h b)))]) ⟨hx, hb, hml, hown, hts⟩ (c_r_isLine l G n) (va_cwS 1 hts gX7_canShift_X7_isLine rfl rfl rfl (by decide +kernel) ⟨Nat.le_of_ble_eq_true rfl, Nat.le_of_ble_eq_true rfl⟩) rfl hl.1 rfl (Nat.le_of_ble_eq_true rfl) dX7_canShift_13 ⟨Nat.le_of_ble_eq_true rfl, Nat.le_of_ble_eq_true rfl⟩ hK hE hA hM (List.Perm.refl _) (List.Perm.refl _) (fun H locs hM hz => ?_)
    refine z_ifne (tgt := 23) hx hb dX7_canShift_16 (by decide) (fun c_2 => (by rw [c_1, c_2] at hc; exact Bool.noConfusion hc)) (fun c_2 => ?_)
    refine lv_iconst (v := 1) hx hb dX7_canShift_19 (by decide) ?_
    refine lv_goto (tgt := 38) hx hb dX7_canShift_20 (by decide) ?_
    refine z_callV (As := [.int 1]) (rest := []) (wc := [(q, .inr (7, [v0, v1, v2, .ref w3, v4, v5, v6, v7, v8, v9, v10, v11, v12, v13, v14, v15]))]) (wr := [(w3, .inl (G.2 1, 121, .inl (flt h b)))]) (w1 := [(q, .inr (7, [.int 1, v1, v2, .ref w3, v4, v5, v6, v7, v8, v9, v10, v11, v12, v13, v14, v15]))]) (ws' := [(q, .inr (7, [.int 1, v1, v2, .ref w3, v4, v5, v6, v7, v8, v9, v10, v11, v12, v13, v14, v15])), (w3, .inl (G.2 1, 121, .inl (flt h b)))]) ⟨hx, hb, hml, hown, hts⟩ (c_refused l G q v0 v1 v2 (.ref w3) v4 v5 v6 v7 v8 v9 v10 v11 v12 v13 v14 v15 1) (cwV 1 hts gX7_canShift_X7_refused rfl rfl rfl (by decide +kernel) ⟨Nat.le_of_ble_eq_true rfl, Nat.le_of_ble_eq_true rfl⟩) 7 rfl rfl rfl rfl hl.1 rfl (Nat.le_of_ble_eq_true rfl) dX7_canShift_38 ⟨Nat.le_of_ble_eq_true rfl, Nat.le_of_ble_eq_true rfl⟩ hK hE hA hM (pm_at 2 [0] [1] rfl rfl rfl (by decide)) ((pm_at 2 [0] [1] rfl rfl rfl (by decide))).symm (fun H locs hM hz => ?_)
    refine z_ifeq (tgt := 46) hx hb dX7_canShift_41 (by decide) (fun c_3 => absurd c_3 (by decide)) (fun c_3 => ?_)
    refine lv_iconst (v := 0) hx hb dX7_canShift_44 (by decide) ?_
    exact z_zret hx hb hr hlocks dX7_canShift_45 hM (Nat.le_of_ble_eq_true rfl) (Nat.le_of_ble_eq_true rfl) (by first | exact Or.inl rfl | exact Or.inr rfl | exact zb_01 _) rfl

set_option maxHeartbeats 4000000 in
set_option maxRecDepth 100000 in
theorem c_r_canShift2 (l : Launch) (G : zC) (q : Nat) (v0 v1 v2 v4 v5 v6 v7 v8 v9 v10 v11 v12 v13 v14 v15 : Value) (w3 : Nat) (h : Nat → Int32) (b : Nat → Nat → Int32) (P : Nat) (hP : h 0 = nI P) (hP4 : P ≤ 4) (i n d : Int32) (hi : zHp h i = true) (hn : zLi n = true) (hd : zDi d = false) : zMet l G yX7_canShift wsX7_canShift rmX7_canShift [.ref q, .int i, .int n, .int d] ([(q, .inr (7, [v0, v1, v2, .ref w3, v4, v5, v6, v7, v8, v9, v10, v11, v12, v13, v14, v15])), (w3, .inl (G.2 1, 121, .inl (flt h b)))]) (some (.int 0)) ([(q, .inr (7, [.int 2, v1, v2, .ref w3, v4, v5, v6, v7, v8, v9, v10, v11, v12, v13, v14, v15])), (w3, .inl (G.2 1, 121, .inl (flt h b)))]) := by
  refine zMet_of (cc := cX7_canShift) (maxL := 4) (ret := (some .boolean)) (by decide) rfl (Nat.le_of_ble_eq_true rfl) ?_
  intro p e s m below meth c A ls hx hb hr hml hown hts hK hA hE hlocks hin hM hl
  have hown : s.vm.findClass RX7 = some m.cls := hown
  have hM : zM G A s s.heap [] ([(q, .inr (7, [v0, v1, v2, .ref w3, v4, v5, v6, v7, v8, v9, v10, v11, v12, v13, v14, v15])), (w3, .inl (G.2 1, 121, .inl (flt h b)))]) := hM
  have hl : lv_has ls 4 [(0, .ref q), (1, .int i), (2, .int n), (3, .int d)] := hl
  refine lv_aload_n hx hb dX7_canShift_0 rfl (lv_at hl 0 rfl) ?_
  refine lv_aload_n hx hb dX7_canShift_1 rfl (lv_at hl 0 rfl) ?_
  refine z_get (ci := 7) (v := .ref w3) (C := RX7) (T := TX7) (N := 16) hx hb hts (by decide +kernel) hown hK hM 0 rfl rfl 3 (by decide) (hts (.fieldLink RX7 13 "ShiftIslesModel" "now" "[I") (by decide +kernel)) (fun _ h9 => h9) rfl dX7_canShift_2 ?_
  refine lv_iload_n hx hb dX7_canShift_5 rfl (lv_at hl 1 rfl) ?_
  refine z_callS (As := [.ref w3, .int i]) (rest := [.ref q]) (wc := rfW G w3 h b) (wr := [(q, .inr (7, [v0, v1, v2, .ref w3, v4, v5, v6, v7, v8, v9, v10, v11, v12, v13, v14, v15]))]) (w1 := rfW G w3 h b) (ws' := [(q, .inr (7, [v0, v1, v2, .ref w3, v4, v5, v6, v7, v8, v9, v10, v11, v12, v13, v14, v15])), (w3, .inl (G.2 1, 121, .inl (flt h b)))]) ⟨hx, hb, hml, hown, hts⟩ (c_r_isPlayer l G w3 h b P hP hP4 i ) (va_cwS 2 hts gX7_canShift_X7_isPlayer rfl rfl rfl (by decide +kernel) ⟨Nat.le_of_ble_eq_true rfl, Nat.le_of_ble_eq_true rfl⟩) rfl hl.1 rfl (Nat.le_of_ble_eq_true rfl) dX7_canShift_6 ⟨Nat.le_of_ble_eq_true rfl, Nat.le_of_ble_eq_true rfl⟩ hK hE hA hM (pm_at 2 [1] [0] rfl rfl rfl (by decide)) ((pm_at 2 [1] [0] rfl rfl rfl (by decide))).symm (fun H locs hM hz => ?_)
  refine z_ifeq (tgt := 19) hx hb dX7_canShift_9 (by decide) (fun c_1 => Bool.noConfusion (hi.symm.trans c_1)) (fun c_1 => ?_)
  refine lv_iload_n hx hb dX7_canShift_12 rfl (lv_at hl 2 rfl) ?_
  refine z_callS (As := [.int n]) (rest := [.ref q]) (wc := []) (wr := [(q, .inr (7, [v0, v1, v2, .ref w3, v4, v5, v6, v7, v8, v9, v10, v11, v12, v13, v14, v15])), (w3, .inl (G.2 1, 121, .inl (flt h b)))]) (w1 := []) (ws' := [(q, .inr (7, [v0, v1, v2, .ref w3, v4, v5, v6, v7, v8, v9, v10, v11, v12, v13, v14, v15])), (w3, .inl (G.2 1, 121, .inl (flt h b)))]) ⟨hx, hb, hml, hown, hts⟩ (c_r_isLine l G n) (va_cwS 1 hts gX7_canShift_X7_isLine rfl rfl rfl (by decide +kernel) ⟨Nat.le_of_ble_eq_true rfl, Nat.le_of_ble_eq_true rfl⟩) rfl hl.1 rfl (Nat.le_of_ble_eq_true rfl) dX7_canShift_13 ⟨Nat.le_of_ble_eq_true rfl, Nat.le_of_ble_eq_true rfl⟩ hK hE hA hM (List.Perm.refl _) (List.Perm.refl _) (fun H locs hM hz => ?_)
  refine z_ifne (tgt := 23) hx hb dX7_canShift_16 (by decide) (fun c_2 => ?_) (fun c_2 => Bool.noConfusion (hn.symm.trans c_2))
  refine lv_iload_n hx hb dX7_canShift_23 rfl (lv_at hl 3 rfl) ?_
  refine lv_i2l (v := d.toInt64) hx hb dX7_canShift_24 rfl ?_
  refine lv_lconst (v := 0) hx hb dX7_canShift_25 (by decide) ?_
  refine lv_lconst (v := 1) hx hb dX7_canShift_26 (by decide) ?_
  refine z_callS (As := [.long d.toInt64, .long 0, .long 1]) (rest := [.ref q]) (wc := []) (wr := [(q, .inr (7, [v0, v1, v2, .ref w3, v4, v5, v6, v7, v8, v9, v10, v11, v12, v13, v14, v15])), (w3, .inl (G.2 1, 121, .inl (flt h b)))]) (w1 := []) (ws' := [(q, .inr (7, [v0, v1, v2, .ref w3, v4, v5, v6, v7, v8, v9, v10, v11, v12, v13, v14, v15])), (w3, .inl (G.2 1, 121, .inl (flt h b)))]) ⟨hx, hb, hml, hown, hts⟩ (c_in l G d.toInt64 0 1) (va_cwS 3 hts gX7_canShift_X7_in rfl rfl rfl (by decide +kernel) ⟨Nat.le_of_ble_eq_true rfl, Nat.le_of_ble_eq_true rfl⟩) rfl hl.1 rfl (Nat.le_of_ble_eq_true rfl) dX7_canShift_27 ⟨Nat.le_of_ble_eq_true rfl, Nat.le_of_ble_eq_true rfl⟩ hK hE hA hM (List.Perm.refl _) (List.Perm.refl _) (fun H locs hM hz => ?_)
  refine z_ifeq (tgt := 37) hx hb dX7_canShift_30 (by decide) (fun c_3 => ?_) (fun c_3 => Bool.noConfusion (c_3.symm.trans ((zI0_di d).trans hd)))
  refine lv_iconst (v := 2) hx hb dX7_canShift_37 (by decide) ?_
  refine z_callV (As := [.int 2]) (rest := []) (wc := [(q, .inr (7, [v0, v1, v2, .ref w3, v4, v5, v6, v7, v8, v9, v10, v11, v12, v13, v14, v15]))]) (wr := [(w3, .inl (G.2 1, 121, .inl (flt h b)))]) (w1 := [(q, .inr (7, [.int 2, v1, v2, .ref w3, v4, v5, v6, v7, v8, v9, v10, v11, v12, v13, v14, v15]))]) (ws' := [(q, .inr (7, [.int 2, v1, v2, .ref w3, v4, v5, v6, v7, v8, v9, v10, v11, v12, v13, v14, v15])), (w3, .inl (G.2 1, 121, .inl (flt h b)))]) ⟨hx, hb, hml, hown, hts⟩ (c_refused l G q v0 v1 v2 (.ref w3) v4 v5 v6 v7 v8 v9 v10 v11 v12 v13 v14 v15 2) (cwV 1 hts gX7_canShift_X7_refused rfl rfl rfl (by decide +kernel) ⟨Nat.le_of_ble_eq_true rfl, Nat.le_of_ble_eq_true rfl⟩) 7 rfl rfl rfl rfl hl.1 rfl (Nat.le_of_ble_eq_true rfl) dX7_canShift_38 ⟨Nat.le_of_ble_eq_true rfl, Nat.le_of_ble_eq_true rfl⟩ hK hE hA hM (pm_at 2 [0] [1] rfl rfl rfl (by decide)) ((pm_at 2 [0] [1] rfl rfl rfl (by decide))).symm (fun H locs hM hz => ?_)
  refine z_ifeq (tgt := 46) hx hb dX7_canShift_41 (by decide) (fun c_4 => absurd c_4 (by decide)) (fun c_4 => ?_)
  refine lv_iconst (v := 0) hx hb dX7_canShift_44 (by decide) ?_
  exact z_zret hx hb hr hlocks dX7_canShift_45 hM (Nat.le_of_ble_eq_true rfl) (Nat.le_of_ble_eq_true rfl) (by first | exact Or.inl rfl | exact Or.inr rfl | exact zb_01 _) rfl

set_option maxHeartbeats 4000000 in
set_option maxRecDepth 100000 in
theorem c_r_canShift0 (l : Launch) (G : zC) (q : Nat) (v0 v1 v2 v4 v5 v6 v7 v8 v9 v10 v11 v12 v13 v14 v15 : Value) (w3 : Nat) (h : Nat → Int32) (b : Nat → Nat → Int32) (P : Nat) (hP : h 0 = nI P) (hP4 : P ≤ 4) (o : Nat) (n d : Int32) (ho : o < P) (hi : zHp h (nI o) = true) (hn : zLi n = true) (hd : zDi d = true) : zMet l G yX7_canShift wsX7_canShift rmX7_canShift [.ref q, .int (nI o), .int n, .int d] ([(q, .inr (7, [v0, v1, v2, .ref w3, v4, v5, v6, v7, v8, v9, v10, v11, v12, v13, v14, v15])), (w3, .inl (G.2 1, 121, .inl (flt h b)))]) (some (.int (zb (zAl (b o) n d)))) ([(q, .inr (7, [.int 0, v1, v2, .ref w3, v4, v5, v6, v7, v8, v9, v10, v11, v12, v13, v14, v15])), (w3, .inl (G.2 1, 121, .inl (flt h b)))]) := by
  refine zMet_of (cc := cX7_canShift) (maxL := 4) (ret := (some .boolean)) (by decide) rfl (Nat.le_of_ble_eq_true rfl) ?_
  intro p e s m below meth c A ls hx hb hr hml hown hts hK hA hE hlocks hin hM hl
  have hown : s.vm.findClass RX7 = some m.cls := hown
  have hM : zM G A s s.heap [] ([(q, .inr (7, [v0, v1, v2, .ref w3, v4, v5, v6, v7, v8, v9, v10, v11, v12, v13, v14, v15])), (w3, .inl (G.2 1, 121, .inl (flt h b)))]) := hM
  have hl : lv_has ls 4 [(0, .ref q), (1, .int (nI o)), (2, .int n), (3, .int d)] := hl
  refine lv_aload_n hx hb dX7_canShift_0 rfl (lv_at hl 0 rfl) ?_
  refine lv_aload_n hx hb dX7_canShift_1 rfl (lv_at hl 0 rfl) ?_
  refine z_get (ci := 7) (v := .ref w3) (C := RX7) (T := TX7) (N := 16) hx hb hts (by decide +kernel) hown hK hM 0 rfl rfl 3 (by decide) (hts (.fieldLink RX7 13 "ShiftIslesModel" "now" "[I") (by decide +kernel)) (fun _ h9 => h9) rfl dX7_canShift_2 ?_
  refine lv_iload_n hx hb dX7_canShift_5 rfl (lv_at hl 1 rfl) ?_
  refine z_callS (As := [.ref w3, .int (nI o)]) (rest := [.ref q]) (wc := rfW G w3 h b) (wr := [(q, .inr (7, [v0, v1, v2, .ref w3, v4, v5, v6, v7, v8, v9, v10, v11, v12, v13, v14, v15]))]) (w1 := rfW G w3 h b) (ws' := [(q, .inr (7, [v0, v1, v2, .ref w3, v4, v5, v6, v7, v8, v9, v10, v11, v12, v13, v14, v15])), (w3, .inl (G.2 1, 121, .inl (flt h b)))]) ⟨hx, hb, hml, hown, hts⟩ (c_r_isPlayer l G w3 h b P hP hP4 (nI o) ) (va_cwS 2 hts gX7_canShift_X7_isPlayer rfl rfl rfl (by decide +kernel) ⟨Nat.le_of_ble_eq_true rfl, Nat.le_of_ble_eq_true rfl⟩) rfl hl.1 rfl (Nat.le_of_ble_eq_true rfl) dX7_canShift_6 ⟨Nat.le_of_ble_eq_true rfl, Nat.le_of_ble_eq_true rfl⟩ hK hE hA hM (pm_at 2 [1] [0] rfl rfl rfl (by decide)) ((pm_at 2 [1] [0] rfl rfl rfl (by decide))).symm (fun H locs hM hz => ?_)
  refine z_ifeq (tgt := 19) hx hb dX7_canShift_9 (by decide) (fun c_1 => Bool.noConfusion (hi.symm.trans c_1)) (fun c_1 => ?_)
  refine lv_iload_n hx hb dX7_canShift_12 rfl (lv_at hl 2 rfl) ?_
  refine z_callS (As := [.int n]) (rest := [.ref q]) (wc := []) (wr := [(q, .inr (7, [v0, v1, v2, .ref w3, v4, v5, v6, v7, v8, v9, v10, v11, v12, v13, v14, v15])), (w3, .inl (G.2 1, 121, .inl (flt h b)))]) (w1 := []) (ws' := [(q, .inr (7, [v0, v1, v2, .ref w3, v4, v5, v6, v7, v8, v9, v10, v11, v12, v13, v14, v15])), (w3, .inl (G.2 1, 121, .inl (flt h b)))]) ⟨hx, hb, hml, hown, hts⟩ (c_r_isLine l G n) (va_cwS 1 hts gX7_canShift_X7_isLine rfl rfl rfl (by decide +kernel) ⟨Nat.le_of_ble_eq_true rfl, Nat.le_of_ble_eq_true rfl⟩) rfl hl.1 rfl (Nat.le_of_ble_eq_true rfl) dX7_canShift_13 ⟨Nat.le_of_ble_eq_true rfl, Nat.le_of_ble_eq_true rfl⟩ hK hE hA hM (List.Perm.refl _) (List.Perm.refl _) (fun H locs hM hz => ?_)
  refine z_ifne (tgt := 23) hx hb dX7_canShift_16 (by decide) (fun c_2 => ?_) (fun c_2 => Bool.noConfusion (hn.symm.trans c_2))
  refine lv_iload_n hx hb dX7_canShift_23 rfl (lv_at hl 3 rfl) ?_
  refine lv_i2l (v := d.toInt64) hx hb dX7_canShift_24 rfl ?_
  refine lv_lconst (v := 0) hx hb dX7_canShift_25 (by decide) ?_
  refine lv_lconst (v := 1) hx hb dX7_canShift_26 (by decide) ?_
  refine z_callS (As := [.long d.toInt64, .long 0, .long 1]) (rest := [.ref q]) (wc := []) (wr := [(q, .inr (7, [v0, v1, v2, .ref w3, v4, v5, v6, v7, v8, v9, v10, v11, v12, v13, v14, v15])), (w3, .inl (G.2 1, 121, .inl (flt h b)))]) (w1 := []) (ws' := [(q, .inr (7, [v0, v1, v2, .ref w3, v4, v5, v6, v7, v8, v9, v10, v11, v12, v13, v14, v15])), (w3, .inl (G.2 1, 121, .inl (flt h b)))]) ⟨hx, hb, hml, hown, hts⟩ (c_in l G d.toInt64 0 1) (va_cwS 3 hts gX7_canShift_X7_in rfl rfl rfl (by decide +kernel) ⟨Nat.le_of_ble_eq_true rfl, Nat.le_of_ble_eq_true rfl⟩) rfl hl.1 rfl (Nat.le_of_ble_eq_true rfl) dX7_canShift_27 ⟨Nat.le_of_ble_eq_true rfl, Nat.le_of_ble_eq_true rfl⟩ hK hE hA hM (List.Perm.refl _) (List.Perm.refl _) (fun H locs hM hz => ?_)
  refine z_ifeq (tgt := 37) hx hb dX7_canShift_30 (by decide) (fun c_3 => Bool.noConfusion (((zI0_di d).trans hd).symm.trans c_3)) (fun c_3 => ?_)
  refine lv_iconst (v := 0) hx hb dX7_canShift_33 (by decide) ?_
  refine lv_goto (tgt := 38) hx hb dX7_canShift_34 (by decide) ?_
  refine z_callV (As := [.int 0]) (rest := []) (wc := [(q, .inr (7, [v0, v1, v2, .ref w3, v4, v5, v6, v7, v8, v9, v10, v11, v12, v13, v14, v15]))]) (wr := [(w3, .inl (G.2 1, 121, .inl (flt h b)))]) (w1 := [(q, .inr (7, [.int 0, v1, v2, .ref w3, v4, v5, v6, v7, v8, v9, v10, v11, v12, v13, v14, v15]))]) (ws' := [(q, .inr (7, [.int 0, v1, v2, .ref w3, v4, v5, v6, v7, v8, v9, v10, v11, v12, v13, v14, v15])), (w3, .inl (G.2 1, 121, .inl (flt h b)))]) ⟨hx, hb, hml, hown, hts⟩ (c_refused l G q v0 v1 v2 (.ref w3) v4 v5 v6 v7 v8 v9 v10 v11 v12 v13 v14 v15 0) (cwV 1 hts gX7_canShift_X7_refused rfl rfl rfl (by decide +kernel) ⟨Nat.le_of_ble_eq_true rfl, Nat.le_of_ble_eq_true rfl⟩) 7 rfl rfl rfl rfl hl.1 rfl (Nat.le_of_ble_eq_true rfl) dX7_canShift_38 ⟨Nat.le_of_ble_eq_true rfl, Nat.le_of_ble_eq_true rfl⟩ hK hE hA hM (pm_at 2 [0] [1] rfl rfl rfl (by decide)) ((pm_at 2 [0] [1] rfl rfl rfl (by decide))).symm (fun H locs hM hz => ?_)
  refine z_ifeq (tgt := 46) hx hb dX7_canShift_41 (by decide) (fun c_4 => ?_) (fun c_4 => absurd c_4 (by decide))
  refine lv_aload_n hx hb dX7_canShift_46 rfl (lv_at hl 0 rfl) ?_
  refine z_get (ci := 7) (v := .ref w3) (C := RX7) (T := TX7) (N := 16) hx hb hts (by decide +kernel) hown hK hM 0 rfl rfl 3 (by decide) (hts (.fieldLink RX7 13 "ShiftIslesModel" "now" "[I") (by decide +kernel)) (fun _ h9 => h9) rfl dX7_canShift_47 ?_
  refine lv_iload_n hx hb dX7_canShift_50 rfl (lv_at hl 1 rfl) ?_
  refine lv_iload_n hx hb dX7_canShift_51 rfl (lv_at hl 2 rfl) ?_
  refine lv_iload_n hx hb dX7_canShift_52 rfl (lv_at hl 3 rfl) ?_
  refine z_callS (As := [.ref w3, .int (nI o), .int n, .int d]) (rest := []) (wc := rfW G w3 h b) (wr := [(q, .inr (7, [.int 0, v1, v2, .ref w3, v4, v5, v6, v7, v8, v9, v10, v11, v12, v13, v14, v15]))]) (w1 := rfW G w3 h b) (ws' := [(q, .inr (7, [.int 0, v1, v2, .ref w3, v4, v5, v6, v7, v8, v9, v10, v11, v12, v13, v14, v15])), (w3, .inl (G.2 1, 121, .inl (flt h b)))]) ⟨hx, hb, hml, hown, hts⟩ (c_may l G w3 h b o (by omega) n d ) (va_cwS 4 hts gX7_canShift_X7_may rfl rfl rfl (by decide +kernel) ⟨Nat.le_of_ble_eq_true rfl, Nat.le_of_ble_eq_true rfl⟩) rfl hl.1 rfl (Nat.le_of_ble_eq_true rfl) dX7_canShift_53 ⟨Nat.le_of_ble_eq_true rfl, Nat.le_of_ble_eq_true rfl⟩ hK hE hA hM (pm_at 2 [1] [0] rfl rfl rfl (by decide)) ((pm_at 2 [1] [0] rfl rfl rfl (by decide))).symm (fun H locs hM hz => ?_)
  exact z_zret hx hb hr hlocks dX7_canShift_56 hM (Nat.le_of_ble_eq_true rfl) (Nat.le_of_ble_eq_true rfl) (by first | exact Or.inl rfl | exact Or.inr rfl | exact zb_01 _) rfl
/-! REFERENCE, ninth part: what is remembered, and the acts -/
def zrN (n : Nat) : Nat := if n < 14 then n + 1 else 14
def zrD (n : Nat) (F D : Nat → Int32) : Nat → Int32 := if n < 14 then cpv F D 0 (121 * n) 121 else cpv F (shf D 1573) 0 (121 * 13) 121
theorem c_remember (l : Launch) (G : zC) (q : Nat) (v0 v1 v2 v4 v5 v8 v9 v10 v11 v12 v13 v14 v15 : Value) (w3 w6 : Nat) (h : Nat → Int32) (b : Nat → Nat → Int32) (n : Nat) (D : Nat → Int32) (hn : n ≤ 14) : zMet l G yX7_remember wsX7_remember rmX7_remember [.ref q] ([(q, .inr (7, [v0, v1, v2, .ref w3, v4, v5, .ref w6, .int (nI n), v8, v9, v10, v11, v12, v13, v14, v15])), (w3, .inl (G.2 1, 121, .inl (flt h b))), (w6, .inl (G.2 1, 1694, .inl D))]) none ([(q, .inr (7, [v0, v1, v2, .ref w3, v4, v5, .ref w6, .int (nI (zrN n)), v8, v9, v10, v11, v12, v13, v14, v15])), (w3, .inl (G.2 1, 121, .inl (flt h b))), (w6, .inl (G.2 1, 1694, .inl (zrD n (flt h b) D)))]) := by
  unfold zrN zrD
  by_cases h14 : n < 14
  · rw [if_pos h14, if_pos h14]
    exact c_remember0 l G q v0 v1 v2 v4 v5 v8 v9 v10 v11 v12 v13 v14 v15 w3 w6 h b n D h14
  · obtain rfl : n = 14 := by omega
    rw [if_neg h14, if_neg h14]
    exact c_remember1 l G q v0 v1 v2 v4 v5 v8 v9 v10 v11 v12 v13 v14 v15 w3 w6 h b D

set_option maxHeartbeats 4000000 in
set_option maxRecDepth 100000 in
theorem c_r_go1 (l : Launch) (G : zC) (q : Nat) (v0 v1 v2 v4 v5 v8 v9 v10 v11 v12 v13 v14 v15 : Value) (w3 w6 n : Nat) (D : Nat → Int32) (h : Nat → Int32) (b : Nat → Nat → Int32) (hn14 : n ≤ 14) (k : Int32) (hc : zPl k = false) : zMet l G yX7_go wsX7_go rmX7_go [.ref q, .int k] ([(q, .inr (7, [v0, v1, v2, .ref w3, v4, v5, .ref w6, .int (nI n), v8, v9, v10, v11, v12, v13, v14, v15])), (w3, .inl (G.2 1, 121, .inl (flt h b))), (w6, .inl (G.2 1, 1694, .inl D))]) (some (.int 0)) ([(q, .inr (7, [.int 1, v1, v2, .ref w3, v4, v5, .ref w6, .int (nI n), v8, v9, v10, v11, v12, v13, v14, v15])), (w3, .inl (G.2 1, 121, .inl (flt h b))), (w6, .inl (G.2 1, 1694, .inl D))]) := by
  refine zMet_of (cc := cX7_go) (maxL := 2) (ret := (some .int)) (by decide) rfl (Nat.le_of_ble_eq_true rfl) ?_
  intro p e s m below meth c A ls hx hb hr hml hown hts hK hA hE hlocks hin hM hl
  have hown : s.vm.findClass RX7 = some m.cls := hown
  have hM : zM G A s s.heap [] ([(q, .inr (7, [v0, v1, v2, .ref w3, v4, v5, .ref w6, .int (nI n), v8, v9, v10, v11, v12, v13, v14, v15])), (w3, .inl (G.2 1, 121, .inl (flt h b))), (w6, .inl (G.2 1, 1694, .inl D))]) := hM
  have hl : lv_has ls 2 [(0, .ref q), (1, .int k)] := hl
  refine lv_aload_n hx hb dX7_go_0 rfl (lv_at hl 0 rfl) ?_
  refine lv_iload_n hx hb dX7_go_1 rfl (lv_at hl 1 rfl) ?_
  refine z_callS (As := [.int k]) (rest := [.ref q]) (wc := []) (wr := [(q, .inr (7, [v0, v1, v2, .ref w3, v4, v5, .ref w6, .int (nI n), v8, v9, v10, v11, v12, v13, v14, v15])), (w3, .inl (G.2 1, 121, .inl (flt h b))), (w6, .inl (G.2 1, 1694, .inl D))]) (w1 := []) (ws' := [(q, .inr (7, [v0, v1, v2, .ref w3, v4, v5, .ref w6, .int (nI n), v8, v9, v10, v11, v12, v13, v14, v15])), (w3, .inl (G.2 1, 121, .inl (flt h b))), (w6, .inl (G.2 1, 1694, .inl D))]) ⟨hx, hb, hml, hown, hts⟩ (c_r_isPlace l G k) (va_cwS 1 hts gX7_go_X7_isPlace rfl rfl rfl (by decide +kernel) ⟨Nat.le_of_ble_eq_true rfl, Nat.le_of_ble_eq_true rfl⟩) rfl hl.1 rfl (Nat.le_of_ble_eq_true rfl) dX7_go_2 ⟨Nat.le_of_ble_eq_true rfl, Nat.le_of_ble_eq_true rfl⟩ hK hE hA hM (List.Perm.refl _) (List.Perm.refl _) (fun H locs hM hz => ?_)
  refine z_ifne (tgt := 12) hx hb dX7_go_5 (by decide) (fun c_1 => Bool.noConfusion (c_1.symm.trans hc)) (fun c_1 => ?_)
  refine lv_iconst (v := 1) hx hb dX7_go_8 (by decide) ?_
  refine lv_goto (tgt := 28) hx hb dX7_go_9 (by decide) ?_
  refine z_callV (As := [.int 1]) (rest := []) (wc := [(q, .inr (7, [v0, v1, v2, .ref w3, v4, v5, .ref w6, .int (nI n), v8, v9, v10, v11, v12, v13, v14, v15]))]) (wr := [(w3, .inl (G.2 1, 121, .inl (flt h b))), (w6, .inl (G.2 1, 1694, .inl D))]) (w1 := [(q, .inr (7, [.int 1, v1, v2, .ref w3, v4, v5, .ref w6, .int (nI n), v8, v9, v10, v11, v12, v13, v14, v15]))]) (ws' := [(q, .inr (7, [.int 1, v1, v2, .ref w3, v4, v5, .ref w6, .int (nI n), v8, v9, v10, v11, v12, v13, v14, v15])), (w3, .inl (G.2 1, 121, .inl (flt h b))), (w6, .inl (G.2 1, 1694, .inl D))]) ⟨hx, hb, hml, hown, hts⟩ (c_refused l G q v0 v1 v2 (.ref w3) v4 v5 (.ref w6) (.int (nI n)) v8 v9 v10 v11 v12 v13 v14 v15 1) (cwV 1 hts gX7_go_X7_refused rfl rfl rfl (by decide +kernel) ⟨Nat.le_of_ble_eq_true rfl, Nat.le_of_ble_eq_true rfl⟩) 7 rfl rfl rfl rfl hl.1 rfl (Nat.le_of_ble_eq_true rfl) dX7_go_28 ⟨Nat.le_of_ble_eq_true rfl, Nat.le_of_ble_eq_true rfl⟩ hK hE hA hM (pm_at 3 [0] [1, 2] rfl rfl rfl (by decide)) ((pm_at 3 [0] [1, 2] rfl rfl rfl (by decide))).symm (fun H locs hM hz => ?_)
  refine z_ifeq (tgt := 36) hx hb dX7_go_31 (by decide) (fun c_2 => absurd c_2 (by decide)) (fun c_2 => ?_)
  refine lv_iconst (v := 0) hx hb dX7_go_34 (by decide) ?_
  exact z_iret hx hb hr hlocks dX7_go_35 hM (Nat.le_of_ble_eq_true rfl) (Nat.le_of_ble_eq_true rfl) rfl

set_option maxHeartbeats 4000000 in
set_option maxRecDepth 100000 in
theorem c_r_go2 (l : Launch) (G : zC) (q : Nat) (v0 v1 v2 v4 v5 v8 v9 v10 v11 v12 v13 v14 v15 : Value) (w3 w6 n : Nat) (D : Nat → Int32) (h : Nat → Int32) (b : Nat → Nat → Int32) (hn14 : n ≤ 14) (P t S : Nat) (hg : zWf h b P t S) (k : Int32) (hp : zPl k = true) (hc : zMg h b S t k = false) : zMet l G yX7_go wsX7_go rmX7_go [.ref q, .int k] ([(q, .inr (7, [v0, v1, v2, .ref w3, v4, v5, .ref w6, .int (nI n), v8, v9, v10, v11, v12, v13, v14, v15])), (w3, .inl (G.2 1, 121, .inl (flt h b))), (w6, .inl (G.2 1, 1694, .inl D))]) (some (.int 0)) ([(q, .inr (7, [.int 2, v1, v2, .ref w3, v4, v5, .ref w6, .int (nI n), v8, v9, v10, v11, v12, v13, v14, v15])), (w3, .inl (G.2 1, 121, .inl (flt h b))), (w6, .inl (G.2 1, 1694, .inl D))]) := by
  refine zMet_of (cc := cX7_go) (maxL := 2) (ret := (some .int)) (by decide) rfl (Nat.le_of_ble_eq_true rfl) ?_
  intro p e s m below meth c A ls hx hb hr hml hown hts hK hA hE hlocks hin hM hl
  have hown : s.vm.findClass RX7 = some m.cls := hown
  have hM : zM G A s s.heap [] ([(q, .inr (7, [v0, v1, v2, .ref w3, v4, v5, .ref w6, .int (nI n), v8, v9, v10, v11, v12, v13, v14, v15])), (w3, .inl (G.2 1, 121, .inl (flt h b))), (w6, .inl (G.2 1, 1694, .inl D))]) := hM
  have hl : lv_has ls 2 [(0, .ref q), (1, .int k)] := hl
  refine lv_aload_n hx hb dX7_go_0 rfl (lv_at hl 0 rfl) ?_
  refine lv_iload_n hx hb dX7_go_1 rfl (lv_at hl 1 rfl) ?_
  refine z_callS (As := [.int k]) (rest := [.ref q]) (wc := []) (wr := [(q, .inr (7, [v0, v1, v2, .ref w3, v4, v5, .ref w6, .int (nI n), v8, v9, v10, v11, v12, v13, v14, v15])), (w3, .inl (G.2 1, 121, .inl (flt h b))), (w6, .inl (G.2 1, 1694, .inl D))]) (w1 := []) (ws' := [(q, .inr (7, [v0, v1, v2, .ref w3, v4, v5, .ref w6, .int (nI n), v8, v9, v10, v11, v12, v13, v14, v15])), (w3, .inl (G.2 1, 121, .inl (flt h b))), (w6, .inl (G.2 1, 1694, .inl D))]) ⟨hx, hb, hml, hown, hts⟩ (c_r_isPlace l G k) (va_cwS 1 hts gX7_go_X7_isPlace rfl rfl rfl (by decide +kernel) ⟨Nat.le_of_ble_eq_true rfl, Nat.le_of_ble_eq_true rfl⟩) rfl hl.1 rfl (Nat.le_of_ble_eq_true rfl) dX7_go_2 ⟨Nat.le_of_ble_eq_true rfl, Nat.le_of_ble_eq_true rfl⟩ hK hE hA hM (List.Perm.refl _) (List.Perm.refl _) (fun H locs hM hz => ?_)
  refine z_ifne (tgt := 12) hx hb dX7_go_5 (by decide) (fun c_1 => ?_) (fun c_1 => Bool.noConfusion (hp.symm.trans c_1))
  refine lv_aload_n hx hb dX7_go_12 rfl (lv_at hl 0 rfl) ?_
  refine z_get (ci := 7) (v := .ref w3) (C := RX7) (T := TX7) (N := 16) hx hb hts (by decide +kernel) hown hK hM 0 rfl rfl 3 (by decide) (hts (.fieldLink RX7 13 "ShiftIslesModel" "now" "[I") (by decide +kernel)) (fun _ h9 => h9) rfl dX7_go_13 ?_
  refine lv_iload_n hx hb dX7_go_16 rfl (lv_at hl 1 rfl) ?_
  refine z_callS (As := [.ref w3, .int k]) (rest := [.ref q]) (wc := rfW G w3 h b) (wr := [(q, .inr (7, [v0, v1, v2, .ref w3, v4, v5, .ref w6, .int (nI n), v8, v9, v10, v11, v12, v13, v14, v15])), (w6, .inl (G.2 1, 1694, .inl D))]) (w1 := rfW G w3 h b) (ws' := [(q, .inr (7, [v0, v1, v2, .ref w3, v4, v5, .ref w6, .int (nI n), v8, v9, v10, v11, v12, v13, v14, v15])), (w3, .inl (G.2 1, 121, .inl (flt h b))), (w6, .inl (G.2 1, 1694, .inl D))]) ⟨hx, hb, hml, hown, hts⟩ (c_canGo l G w3 h b P t S hg k hp) (va_cwS 2 hts gX7_go_X7_canGo rfl rfl rfl (by decide +kernel) ⟨Nat.le_of_ble_eq_true rfl, Nat.le_of_ble_eq_true rfl⟩) rfl hl.1 rfl (Nat.le_of_ble_eq_true rfl) dX7_go_17 ⟨Nat.le_of_ble_eq_true rfl, Nat.le_of_ble_eq_true rfl⟩ hK hE hA hM (pm_at 3 [1] [0, 2] rfl rfl rfl (by decide)) ((pm_at 3 [1] [0, 2] rfl rfl rfl (by decide))).symm (fun H locs hM hz => ?_)
  refine z_ifeq (tgt := 27) hx hb dX7_go_20 (by decide) (fun c_2 => ?_) (fun c_2 => Bool.noConfusion (c_2.symm.trans hc))
  refine lv_iconst (v := 2) hx hb dX7_go_27 (by decide) ?_
  refine z_callV (As := [.int 2]) (rest := []) (wc := [(q, .inr (7, [v0, v1, v2, .ref w3, v4, v5, .ref w6, .int (nI n), v8, v9, v10, v11, v12, v13, v14, v15]))]) (wr := [(w3, .inl (G.2 1, 121, .inl (flt h b))), (w6, .inl (G.2 1, 1694, .inl D))]) (w1 := [(q, .inr (7, [.int 2, v1, v2, .ref w3, v4, v5, .ref w6, .int (nI n), v8, v9, v10, v11, v12, v13, v14, v15]))]) (ws' := [(q, .inr (7, [.int 2, v1, v2, .ref w3, v4, v5, .ref w6, .int (nI n), v8, v9, v10, v11, v12, v13, v14, v15])), (w3, .inl (G.2 1, 121, .inl (flt h b))), (w6, .inl (G.2 1, 1694, .inl D))]) ⟨hx, hb, hml, hown, hts⟩ (c_refused l G q v0 v1 v2 (.ref w3) v4 v5 (.ref w6) (.int (nI n)) v8 v9 v10 v11 v12 v13 v14 v15 2) (cwV 1 hts gX7_go_X7_refused rfl rfl rfl (by decide +kernel) ⟨Nat.le_of_ble_eq_true rfl, Nat.le_of_ble_eq_true rfl⟩) 7 rfl rfl rfl rfl hl.1 rfl (Nat.le_of_ble_eq_true rfl) dX7_go_28 ⟨Nat.le_of_ble_eq_true rfl, Nat.le_of_ble_eq_true rfl⟩ hK hE hA hM (pm_at 3 [0] [1, 2] rfl rfl rfl (by decide)) ((pm_at 3 [0] [1, 2] rfl rfl rfl (by decide))).symm (fun H locs hM hz => ?_)
  refine z_ifeq (tgt := 36) hx hb dX7_go_31 (by decide) (fun c_3 => absurd c_3 (by decide)) (fun c_3 => ?_)
  refine lv_iconst (v := 0) hx hb dX7_go_34 (by decide) ?_
  exact z_iret hx hb hr hlocks dX7_go_35 hM (Nat.le_of_ble_eq_true rfl) (Nat.le_of_ble_eq_true rfl) rfl

set_option maxHeartbeats 4000000 in
set_option maxRecDepth 100000 in
theorem c_r_go0 (l : Launch) (G : zC) (q : Nat) (v0 v1 v2 v4 v5 v8 v9 v10 v11 v12 v13 v14 v15 : Value) (w3 w6 n : Nat) (D : Nat → Int32) (h : Nat → Int32) (b : Nat → Nat → Int32) (hn14 : n ≤ 14) (P t S : Nat) (hg : zWf h b P t S) (j : Nat) (hj : j < 9) (hc : zMg h b S t (nI j) = true) (hP0 : 0 < P) : zMet l G yX7_go wsX7_go rmX7_go [.ref q, .int (nI j)] ([(q, .inr (7, [v0, v1, v2, .ref w3, v4, v5, .ref w6, .int (nI n), v8, v9, v10, v11, v12, v13, v14, v15])), (w3, .inl (G.2 1, 121, .inl (flt h b))), (w6, .inl (G.2 1, 1694, .inl D))]) (some (.int (zLr (b t) j))) ([(q, .inr (7, [.int 0, v1, v2, .ref w3, v4, v5, .ref w6, .int (nI (zrN n)), v8, v9, v10, v11, v12, v13, v14, v15])), (w3, .inl (G.2 1, 121, .inl (flt (zEtH h (zGoB b t j) t P) (zEtB h (zGoB b t j) t P)))), (w6, .inl (G.2 1, 1694, .inl (zrD n (flt h b) D)))]) := by
  refine zMet_of (cc := cX7_go) (maxL := 2) (ret := (some .int)) (by decide) rfl (Nat.le_of_ble_eq_true rfl) ?_
  intro p e s m below meth c A ls hx hb hr hml hown hts hK hA hE hlocks hin hM hl
  have hown : s.vm.findClass RX7 = some m.cls := hown
  have hM : zM G A s s.heap [] ([(q, .inr (7, [v0, v1, v2, .ref w3, v4, v5, .ref w6, .int (nI n), v8, v9, v10, v11, v12, v13, v14, v15])), (w3, .inl (G.2 1, 121, .inl (flt h b))), (w6, .inl (G.2 1, 1694, .inl D))]) := hM
  have hl : lv_has ls 2 [(0, .ref q), (1, .int (nI j))] := hl
  refine lv_aload_n hx hb dX7_go_0 rfl (lv_at hl 0 rfl) ?_
  refine lv_iload_n hx hb dX7_go_1 rfl (lv_at hl 1 rfl) ?_
  refine z_callS (As := [.int (nI j)]) (rest := [.ref q]) (wc := []) (wr := [(q, .inr (7, [v0, v1, v2, .ref w3, v4, v5, .ref w6, .int (nI n), v8, v9, v10, v11, v12, v13, v14, v15])), (w3, .inl (G.2 1, 121, .inl (flt h b))), (w6, .inl (G.2 1, 1694, .inl D))]) (w1 := []) (ws' := [(q, .inr (7, [v0, v1, v2, .ref w3, v4, v5, .ref w6, .int (nI n), v8, v9, v10, v11, v12, v13, v14, v15])), (w3, .inl (G.2 1, 121, .inl (flt h b))), (w6, .inl (G.2 1, 1694, .inl D))]) ⟨hx, hb, hml, hown, hts⟩ (c_r_isPlace l G (nI j)) (va_cwS 1 hts gX7_go_X7_isPlace rfl rfl rfl (by decide +kernel) ⟨Nat.le_of_ble_eq_true rfl, Nat.le_of_ble_eq_true rfl⟩) rfl hl.1 rfl (Nat.le_of_ble_eq_true rfl) dX7_go_2 ⟨Nat.le_of_ble_eq_true rfl, Nat.le_of_ble_eq_true rfl⟩ hK hE hA hM (List.Perm.refl _) (List.Perm.refl _) (fun H locs hM hz => ?_)
  refine z_ifne (tgt := 12) hx hb dX7_go_5 (by decide) (fun c_1 => ?_) (fun c_1 => Bool.noConfusion ((zPl_nI hj).symm.trans c_1))
  refine lv_aload_n hx hb dX7_go_12 rfl (lv_at hl 0 rfl) ?_
  refine z_get (ci := 7) (v := .ref w3) (C := RX7) (T := TX7) (N := 16) hx hb hts (by decide +kernel) hown hK hM 0 rfl rfl 3 (by decide) (hts (.fieldLink RX7 13 "ShiftIslesModel" "now" "[I") (by decide +kernel)) (fun _ h9 => h9) rfl dX7_go_13 ?_
  refine lv_iload_n hx hb dX7_go_16 rfl (lv_at hl 1 rfl) ?_
  refine z_callS (As := [.ref w3, .int (nI j)]) (rest := [.ref q]) (wc := rfW G w3 h b) (wr := [(q, .inr (7, [v0, v1, v2, .ref w3, v4, v5, .ref w6, .int (nI n), v8, v9, v10, v11, v12, v13, v14, v15])), (w6, .inl (G.2 1, 1694, .inl D))]) (w1 := rfW G w3 h b) (ws' := [(q, .inr (7, [v0, v1, v2, .ref w3, v4, v5, .ref w6, .int (nI n), v8, v9, v10, v11, v12, v13, v14, v15])), (w3, .inl (G.2 1, 121, .inl (flt h b))), (w6, .inl (G.2 1, 1694, .inl D))]) ⟨hx, hb, hml, hown, hts⟩ (c_canGo l G w3 h b P t S hg (nI j) (zPl_nI hj)) (va_cwS 2 hts gX7_go_X7_canGo rfl rfl rfl (by decide +kernel) ⟨Nat.le_of_ble_eq_true rfl, Nat.le_of_ble_eq_true rfl⟩) rfl hl.1 rfl (Nat.le_of_ble_eq_true rfl) dX7_go_17 ⟨Nat.le_of_ble_eq_true rfl, Nat.le_of_ble_eq_true rfl⟩ hK hE hA hM (pm_at 3 [1] [0, 2] rfl rfl rfl (by decide)) ((pm_at 3 [1] [0, 2] rfl rfl rfl (by decide))).symm (fun H locs hM hz => ?_)
  refine z_ifeq (tgt := 27) hx hb dX7_go_20 (by decide) (fun c_2 => Bool.noConfusion (hc.symm.trans c_2)) (fun c_2 => ?_)
  refine lv_iconst (v := 0) hx hb dX7_go_23 (by decide) ?_
  refine lv_goto (tgt := 28) hx hb dX7_go_24 (by decide) ?_
  refine z_callV (As := [.int 0]) (rest := []) (wc := [(q, .inr (7, [v0, v1, v2, .ref w3, v4, v5, .ref w6, .int (nI n), v8, v9, v10, v11, v12, v13, v14, v15]))]) (wr := [(w3, .inl (G.2 1, 121, .inl (flt h b))), (w6, .inl (G.2 1, 1694, .inl D))]) (w1 := [(q, .inr (7, [.int 0, v1, v2, .ref w3, v4, v5, .ref w6, .int (nI n), v8, v9, v10, v11, v12, v13, v14, v15]))]) (ws' := [(q, .inr (7, [.int 0, v1, v2, .ref w3, v4, v5, .ref w6, .int (nI n), v8, v9, v10, v11, v12, v13, v14, v15])), (w3, .inl (G.2 1, 121, .inl (flt h b))), (w6, .inl (G.2 1, 1694, .inl D))]) ⟨hx, hb, hml, hown, hts⟩ (c_refused l G q v0 v1 v2 (.ref w3) v4 v5 (.ref w6) (.int (nI n)) v8 v9 v10 v11 v12 v13 v14 v15 0) (cwV 1 hts gX7_go_X7_refused rfl rfl rfl (by decide +kernel) ⟨Nat.le_of_ble_eq_true rfl, Nat.le_of_ble_eq_true rfl⟩) 7 rfl rfl rfl rfl hl.1 rfl (Nat.le_of_ble_eq_true rfl) dX7_go_28 ⟨Nat.le_of_ble_eq_true rfl, Nat.le_of_ble_eq_true rfl⟩ hK hE hA hM (pm_at 3 [0] [1, 2] rfl rfl rfl (by decide)) ((pm_at 3 [0] [1, 2] rfl rfl rfl (by decide))).symm (fun H locs hM hz => ?_)
  refine z_ifeq (tgt := 36) hx hb dX7_go_31 (by decide) (fun c_3 => ?_) (fun c_3 => absurd c_3 (by decide))
  refine lv_aload_n hx hb dX7_go_36 rfl (lv_at hl 0 rfl) ?_
  refine z_callV (As := []) (rest := []) (wc := [(q, .inr (7, [.int 0, v1, v2, .ref w3, v4, v5, .ref w6, .int (nI n), v8, v9, v10, v11, v12, v13, v14, v15])), (w3, .inl (G.2 1, 121, .inl (flt h b))), (w6, .inl (G.2 1, 1694, .inl D))]) (wr := []) (w1 := [(q, .inr (7, [.int 0, v1, v2, .ref w3, v4, v5, .ref w6, .int (nI (zrN n)), v8, v9, v10, v11, v12, v13, v14, v15])), (w3, .inl (G.2 1, 121, .inl (flt h b))), (w6, .inl (G.2 1, 1694, .inl (zrD n (flt h b) D)))]) (ws' := [(q, .inr (7, [.int 0, v1, v2, .ref w3, v4, v5, .ref w6, .int (nI (zrN n)), v8, v9, v10, v11, v12, v13, v14, v15])), (w3, .inl (G.2 1, 121, .inl (flt h b))), (w6, .inl (G.2 1, 1694, .inl (zrD n (flt h b) D)))]) ⟨hx, hb, hml, hown, hts⟩ (c_remember l G q (.int 0) v1 v2 v4 v5 v8 v9 v10 v11 v12 v13 v14 v15 w3 w6 h b n D hn14) (cwV 0 hts gX7_go_X7_remember rfl rfl rfl (by decide +kernel) ⟨Nat.le_of_ble_eq_true rfl, Nat.le_of_ble_eq_true rfl⟩) 7 rfl rfl rfl rfl hl.1 rfl (Nat.le_of_ble_eq_true rfl) dX7_go_37 ⟨Nat.le_of_ble_eq_true rfl, Nat.le_of_ble_eq_true rfl⟩ hK hE hA hM (pm_at 3 [0, 1, 2] [] rfl rfl rfl (by decide)) ((pm_at 3 [0, 1, 2] [] rfl rfl rfl (by decide))).symm (fun H locs hM hz => ?_)
  refine lv_aload_n hx hb dX7_go_40 rfl (lv_at hl 0 rfl) ?_
  refine z_get (ci := 7) (v := .ref w3) (C := RX7) (T := TX7) (N := 16) hx hb hts (by decide +kernel) hown hK hM 0 rfl rfl 3 (by decide) (hts (.fieldLink RX7 13 "ShiftIslesModel" "now" "[I") (by decide +kernel)) (fun _ h9 => h9) rfl dX7_go_41 ?_
  refine lv_iload_n hx hb dX7_go_44 rfl (lv_at hl 1 rfl) ?_
  refine z_callS (As := [.ref w3, .int (nI j)]) (rest := []) (wc := rfW G w3 h b) (wr := [(q, .inr (7, [.int 0, v1, v2, .ref w3, v4, v5, .ref w6, .int (nI (zrN n)), v8, v9, v10, v11, v12, v13, v14, v15])), (w6, .inl (G.2 1, 1694, .inl (zrD n (flt h b) D)))]) (w1 := [(w3, .inl (G.2 1, 121, .inl (flt (zEtH h (zGoB b t j) t P) (zEtB h (zGoB b t j) t P))))]) (ws' := [(q, .inr (7, [.int 0, v1, v2, .ref w3, v4, v5, .ref w6, .int (nI (zrN n)), v8, v9, v10, v11, v12, v13, v14, v15])), (w3, .inl (G.2 1, 121, .inl (flt (zEtH h (zGoB b t j) t P) (zEtB h (zGoB b t j) t P)))), (w6, .inl (G.2 1, 1694, .inl (zrD n (flt h b) D)))]) ⟨hx, hb, hml, hown, hts⟩ (c_goOn l G w3 h b P t S hg hP0 j hj) (va_cwS 2 hts gX7_go_X7_goOn rfl rfl rfl (by decide +kernel) ⟨Nat.le_of_ble_eq_true rfl, Nat.le_of_ble_eq_true rfl⟩) rfl hl.1 rfl (Nat.le_of_ble_eq_true rfl) dX7_go_45 ⟨Nat.le_of_ble_eq_true rfl, Nat.le_of_ble_eq_true rfl⟩ hK hE hA hM (pm_at 3 [1] [0, 2] rfl rfl rfl (by decide)) ((pm_at 3 [1] [0, 2] rfl rfl rfl (by decide))).symm (fun H locs hM hz => ?_)
  exact z_iret hx hb hr hlocks dX7_go_48 hM (Nat.le_of_ble_eq_true rfl) (Nat.le_of_ble_eq_true rfl) rfl

set_option maxHeartbeats 4000000 in
set_option maxRecDepth 100000 in
theorem c_r_lock1 (l : Launch) (G : zC) (q : Nat) (v0 v1 v2 v4 v5 v8 v9 v10 v11 v12 v13 v14 v15 : Value) (w3 w6 n : Nat) (D : Nat → Int32) (h : Nat → Int32) (b : Nat → Nat → Int32) (hn14 : n ≤ 14) (k : Int32) (hc : zLi k = false) : zMet l G yX7_lock wsX7_lock rmX7_lock [.ref q, .int k] ([(q, .inr (7, [v0, v1, v2, .ref w3, v4, v5, .ref w6, .int (nI n), v8, v9, v10, v11, v12, v13, v14, v15])), (w3, .inl (G.2 1, 121, .inl (flt h b))), (w6, .inl (G.2 1, 1694, .inl D))]) (some (.int 0)) ([(q, .inr (7, [.int 1, v1, v2, .ref w3, v4, v5, .ref w6, .int (nI n), v8, v9, v10, v11, v12, v13, v14, v15])), (w3, .inl (G.2 1, 121, .inl (flt h b))), (w6, .inl (G.2 1, 1694, .inl D))]) := by
  refine zMet_of (cc := cX7_lock) (maxL := 2) (ret := (some .int)) (by decide) rfl (Nat.le_of_ble_eq_true rfl) ?_
  intro p e s m below meth c A ls hx hb hr hml hown hts hK hA hE hlocks hin hM hl
  have hown : s.vm.findClass RX7 = some m.cls := hown
  have hM : zM G A s s.heap [] ([(q, .inr (7, [v0, v1, v2, .ref w3, v4, v5, .ref w6, .int (nI n), v8, v9, v10, v11, v12, v13, v14, v15])), (w3, .inl (G.2 1, 121, .inl (flt h b))), (w6, .inl (G.2 1, 1694, .inl D))]) := hM
  have hl : lv_has ls 2 [(0, .ref q), (1, .int k)] := hl
  refine lv_aload_n hx hb dX7_lock_0 rfl (lv_at hl 0 rfl) ?_
  refine lv_iload_n hx hb dX7_lock_1 rfl (lv_at hl 1 rfl) ?_
  refine z_callS (As := [.int k]) (rest := [.ref q]) (wc := []) (wr := [(q, .inr (7, [v0, v1, v2, .ref w3, v4, v5, .ref w6, .int (nI n), v8, v9, v10, v11, v12, v13, v14, v15])), (w3, .inl (G.2 1, 121, .inl (flt h b))), (w6, .inl (G.2 1, 1694, .inl D))]) (w1 := []) (ws' := [(q, .inr (7, [v0, v1, v2, .ref w3, v4, v5, .ref w6, .int (nI n), v8, v9, v10, v11, v12, v13, v14, v15])), (w3, .inl (G.2 1, 121, .inl (flt h b))), (w6, .inl (G.2 1, 1694, .inl D))]) ⟨hx, hb, hml, hown, hts⟩ (c_r_isLine l G k) (va_cwS 1 hts gX7_lock_X7_isLine rfl rfl rfl (by decide +kernel) ⟨Nat.le_of_ble_eq_true rfl, Nat.le_of_ble_eq_true rfl⟩) rfl hl.1 rfl (Nat.le_of_ble_eq_true rfl) dX7_lock_2 ⟨Nat.le_of_ble_eq_true rfl, Nat.le_of_ble_eq_true rfl⟩ hK hE hA hM (List.Perm.refl _) (List.Perm.refl _) (fun H locs hM hz => ?_)
  refine z_ifne (tgt := 12) hx hb dX7_lock_5 (by decide) (fun c_1 => Bool.noConfusion (c_1.symm.trans hc)) (fun c_1 => ?_)
  refine lv_iconst (v := 1) hx hb dX7_lock_8 (by decide) ?_
  refine lv_goto (tgt := 27) hx hb dX7_lock_9 (by decide) ?_
  refine z_callV (As := [.int 1]) (rest := []) (wc := [(q, .inr (7, [v0, v1, v2, .ref w3, v4, v5, .ref w6, .int (nI n), v8, v9, v10, v11, v12, v13, v14, v15]))]) (wr := [(w3, .inl (G.2 1, 121, .inl (flt h b))), (w6, .inl (G.2 1, 1694, .inl D))]) (w1 := [(q, .inr (7, [.int 1, v1, v2, .ref w3, v4, v5, .ref w6, .int (nI n), v8, v9, v10, v11, v12, v13, v14, v15]))]) (ws' := [(q, .inr (7, [.int 1, v1, v2, .ref w3, v4, v5, .ref w6, .int (nI n), v8, v9, v10, v11, v12, v13, v14, v15])), (w3, .inl (G.2 1, 121, .inl (flt h b))), (w6, .inl (G.2 1, 1694, .inl D))]) ⟨hx, hb, hml, hown, hts⟩ (c_refused l G q v0 v1 v2 (.ref w3) v4 v5 (.ref w6) (.int (nI n)) v8 v9 v10 v11 v12 v13 v14 v15 1) (cwV 1 hts gX7_lock_X7_refused rfl rfl rfl (by decide +kernel) ⟨Nat.le_of_ble_eq_true rfl, Nat.le_of_ble_eq_true rfl⟩) 7 rfl rfl rfl rfl hl.1 rfl (Nat.le_of_ble_eq_true rfl) dX7_lock_27 ⟨Nat.le_of_ble_eq_true rfl, Nat.le_of_ble_eq_true rfl⟩ hK hE hA hM (pm_at 3 [0] [1, 2] rfl rfl rfl (by decide)) ((pm_at 3 [0] [1, 2] rfl rfl rfl (by decide))).symm (fun H locs hM hz => ?_)
  refine z_ifeq (tgt := 35) hx hb dX7_lock_30 (by decide) (fun c_2 => absurd c_2 (by decide)) (fun c_2 => ?_)
  refine lv_iconst (v := 0) hx hb dX7_lock_33 (by decide) ?_
  exact z_iret hx hb hr hlocks dX7_lock_34 hM (Nat.le_of_ble_eq_true rfl) (Nat.le_of_ble_eq_true rfl) rfl

set_option maxHeartbeats 4000000 in
set_option maxRecDepth 100000 in
theorem c_r_lock2 (l : Launch) (G : zC) (q : Nat) (v0 v1 v2 v4 v5 v8 v9 v10 v11 v12 v13 v14 v15 : Value) (w3 w6 n : Nat) (D : Nat → Int32) (h : Nat → Int32) (b : Nat → Nat → Int32) (hn14 : n ≤ 14) (P t S : Nat) (hg : zWf h b P t S) (k : Int32) (hp : zLi k = true) (hc : zMe h = false) : zMet l G yX7_lock wsX7_lock rmX7_lock [.ref q, .int k] ([(q, .inr (7, [v0, v1, v2, .ref w3, v4, v5, .ref w6, .int (nI n), v8, v9, v10, v11, v12, v13, v14, v15])), (w3, .inl (G.2 1, 121, .inl (flt h b))), (w6, .inl (G.2 1, 1694, .inl D))]) (some (.int 0)) ([(q, .inr (7, [.int 2, v1, v2, .ref w3, v4, v5, .ref w6, .int (nI n), v8, v9, v10, v11, v12, v13, v14, v15])), (w3, .inl (G.2 1, 121, .inl (flt h b))), (w6, .inl (G.2 1, 1694, .inl D))]) := by
  refine zMet_of (cc := cX7_lock) (maxL := 2) (ret := (some .int)) (by decide) rfl (Nat.le_of_ble_eq_true rfl) ?_
  intro p e s m below meth c A ls hx hb hr hml hown hts hK hA hE hlocks hin hM hl
  have hown : s.vm.findClass RX7 = some m.cls := hown
  have hM : zM G A s s.heap [] ([(q, .inr (7, [v0, v1, v2, .ref w3, v4, v5, .ref w6, .int (nI n), v8, v9, v10, v11, v12, v13, v14, v15])), (w3, .inl (G.2 1, 121, .inl (flt h b))), (w6, .inl (G.2 1, 1694, .inl D))]) := hM
  have hl : lv_has ls 2 [(0, .ref q), (1, .int k)] := hl
  refine lv_aload_n hx hb dX7_lock_0 rfl (lv_at hl 0 rfl) ?_
  refine lv_iload_n hx hb dX7_lock_1 rfl (lv_at hl 1 rfl) ?_
  refine z_callS (As := [.int k]) (rest := [.ref q]) (wc := []) (wr := [(q, .inr (7, [v0, v1, v2, .ref w3, v4, v5, .ref w6, .int (nI n), v8, v9, v10, v11, v12, v13, v14, v15])), (w3, .inl (G.2 1, 121, .inl (flt h b))), (w6, .inl (G.2 1, 1694, .inl D))]) (w1 := []) (ws' := [(q, .inr (7, [v0, v1, v2, .ref w3, v4, v5, .ref w6, .int (nI n), v8, v9, v10, v11, v12, v13, v14, v15])), (w3, .inl (G.2 1, 121, .inl (flt h b))), (w6, .inl (G.2 1, 1694, .inl D))]) ⟨hx, hb, hml, hown, hts⟩ (c_r_isLine l G k) (va_cwS 1 hts gX7_lock_X7_isLine rfl rfl rfl (by decide +kernel) ⟨Nat.le_of_ble_eq_true rfl, Nat.le_of_ble_eq_true rfl⟩) rfl hl.1 rfl (Nat.le_of_ble_eq_true rfl) dX7_lock_2 ⟨Nat.le_of_ble_eq_true rfl, Nat.le_of_ble_eq_true rfl⟩ hK hE hA hM (List.Perm.refl _) (List.Perm.refl _) (fun H locs hM hz => ?_)
  refine z_ifne (tgt := 12) hx hb dX7_lock_5 (by decide) (fun c_1 => ?_) (fun c_1 => Bool.noConfusion (hp.symm.trans c_1))
  refine lv_aload_n hx hb dX7_lock_12 rfl (lv_at hl 0 rfl) ?_
  refine z_get (ci := 7) (v := .ref w3) (C := RX7) (T := TX7) (N := 16) hx hb hts (by decide +kernel) hown hK hM 0 rfl rfl 3 (by decide) (hts (.fieldLink RX7 13 "ShiftIslesModel" "now" "[I") (by decide +kernel)) (fun _ h9 => h9) rfl dX7_lock_13 ?_
  refine z_callS (As := [.ref w3]) (rest := [.ref q]) (wc := rfW G w3 h b) (wr := [(q, .inr (7, [v0, v1, v2, .ref w3, v4, v5, .ref w6, .int (nI n), v8, v9, v10, v11, v12, v13, v14, v15])), (w6, .inl (G.2 1, 1694, .inl D))]) (w1 := rfW G w3 h b) (ws' := [(q, .inr (7, [v0, v1, v2, .ref w3, v4, v5, .ref w6, .int (nI n), v8, v9, v10, v11, v12, v13, v14, v15])), (w3, .inl (G.2 1, 121, .inl (flt h b))), (w6, .inl (G.2 1, 1694, .inl D))]) ⟨hx, hb, hml, hown, hts⟩ (c_canLock l G w3 h b P t S hg ) (va_cwS 1 hts gX7_lock_X7_canLock rfl rfl rfl (by decide +kernel) ⟨Nat.le_of_ble_eq_true rfl, Nat.le_of_ble_eq_true rfl⟩) rfl hl.1 rfl (Nat.le_of_ble_eq_true rfl) dX7_lock_16 ⟨Nat.le_of_ble_eq_true rfl, Nat.le_of_ble_eq_true rfl⟩ hK hE hA hM (pm_at 3 [1] [0, 2] rfl rfl rfl (by decide)) ((pm_at 3 [1] [0, 2] rfl rfl rfl (by decide))).symm (fun H locs hM hz => ?_)
  refine z_ifeq (tgt := 26) hx hb dX7_lock_19 (by decide) (fun c_2 => ?_) (fun c_2 => Bool.noConfusion (c_2.symm.trans hc))
  refine lv_iconst (v := 2) hx hb dX7_lock_26 (by decide) ?_
  refine z_callV (As := [.int 2]) (rest := []) (wc := [(q, .inr (7, [v0, v1, v2, .ref w3, v4, v5, .ref w6, .int (nI n), v8, v9, v10, v11, v12, v13, v14, v15]))]) (wr := [(w3, .inl (G.2 1, 121, .inl (flt h b))), (w6, .inl (G.2 1, 1694, .inl D))]) (w1 := [(q, .inr (7, [.int 2, v1, v2, .ref w3, v4, v5, .ref w6, .int (nI n), v8, v9, v10, v11, v12, v13, v14, v15]))]) (ws' := [(q, .inr (7, [.int 2, v1, v2, .ref w3, v4, v5, .ref w6, .int (nI n), v8, v9, v10, v11, v12, v13, v14, v15])), (w3, .inl (G.2 1, 121, .inl (flt h b))), (w6, .inl (G.2 1, 1694, .inl D))]) ⟨hx, hb, hml, hown, hts⟩ (c_refused l G q v0 v1 v2 (.ref w3) v4 v5 (.ref w6) (.int (nI n)) v8 v9 v10 v11 v12 v13 v14 v15 2) (cwV 1 hts gX7_lock_X7_refused rfl rfl rfl (by decide +kernel) ⟨Nat.le_of_ble_eq_true rfl, Nat.le_of_ble_eq_true rfl⟩) 7 rfl rfl rfl rfl hl.1 rfl (Nat.le_of_ble_eq_true rfl) dX7_lock_27 ⟨Nat.le_of_ble_eq_true rfl, Nat.le_of_ble_eq_true rfl⟩ hK hE hA hM (pm_at 3 [0] [1, 2] rfl rfl rfl (by decide)) ((pm_at 3 [0] [1, 2] rfl rfl rfl (by decide))).symm (fun H locs hM hz => ?_)
  refine z_ifeq (tgt := 35) hx hb dX7_lock_30 (by decide) (fun c_3 => absurd c_3 (by decide)) (fun c_3 => ?_)
  refine lv_iconst (v := 0) hx hb dX7_lock_33 (by decide) ?_
  exact z_iret hx hb hr hlocks dX7_lock_34 hM (Nat.le_of_ble_eq_true rfl) (Nat.le_of_ble_eq_true rfl) rfl

set_option maxHeartbeats 4000000 in
set_option maxRecDepth 100000 in
theorem c_r_lock0 (l : Launch) (G : zC) (q : Nat) (v0 v1 v2 v4 v5 v8 v9 v10 v11 v12 v13 v14 v15 : Value) (w3 w6 n : Nat) (D : Nat → Int32) (h : Nat → Int32) (b : Nat → Nat → Int32) (hn14 : n ≤ 14) (P t S : Nat) (hg : zWf h b P t S) (k : Int32) (hp : zLi k = true) (hc : zMe h = true) (hP0 : 0 < P) : zMet l G yX7_lock wsX7_lock rmX7_lock [.ref q, .int k] ([(q, .inr (7, [v0, v1, v2, .ref w3, v4, v5, .ref w6, .int (nI n), v8, v9, v10, v11, v12, v13, v14, v15])), (w3, .inl (G.2 1, 121, .inl (flt h b))), (w6, .inl (G.2 1, 1694, .inl D))]) (some (.int (if zEtH h (zLkB b t k) t P 4 = 1 then -1 else zEtH h (zLkB b t k) t P 1))) ([(q, .inr (7, [.int 0, v1, v2, .ref w3, v4, v5, .ref w6, .int (nI (zrN n)), v8, v9, v10, v11, v12, v13, v14, v15])), (w3, .inl (G.2 1, 121, .inl (flt (zEtH h (zLkB b t k) t P) (zEtB h (zLkB b t k) t P)))), (w6, .inl (G.2 1, 1694, .inl (zrD n (flt h b) D)))]) := by
  refine zMet_of (cc := cX7_lock) (maxL := 2) (ret := (some .int)) (by decide) rfl (Nat.le_of_ble_eq_true rfl) ?_
  intro p e s m below meth c A ls hx hb hr hml hown hts hK hA hE hlocks hin hM hl
  have hown : s.vm.findClass RX7 = some m.cls := hown
  have hM : zM G A s s.heap [] ([(q, .inr (7, [v0, v1, v2, .ref w3, v4, v5, .ref w6, .int (nI n), v8, v9, v10, v11, v12, v13, v14, v15])), (w3, .inl (G.2 1, 121, .inl (flt h b))), (w6, .inl (G.2 1, 1694, .inl D))]) := hM
  have hl : lv_has ls 2 [(0, .ref q), (1, .int k)] := hl
  refine lv_aload_n hx hb dX7_lock_0 rfl (lv_at hl 0 rfl) ?_
  refine lv_iload_n hx hb dX7_lock_1 rfl (lv_at hl 1 rfl) ?_
  refine z_callS (As := [.int k]) (rest := [.ref q]) (wc := []) (wr := [(q, .inr (7, [v0, v1, v2, .ref w3, v4, v5, .ref w6, .int (nI n), v8, v9, v10, v11, v12, v13, v14, v15])), (w3, .inl (G.2 1, 121, .inl (flt h b))), (w6, .inl (G.2 1, 1694, .inl D))]) (w1 := []) (ws' := [(q, .inr (7, [v0, v1, v2, .ref w3, v4, v5, .ref w6, .int (nI n), v8, v9, v10, v11, v12, v13, v14, v15])), (w3, .inl (G.2 1, 121, .inl (flt h b))), (w6, .inl (G.2 1, 1694, .inl D))]) ⟨hx, hb, hml, hown, hts⟩ (c_r_isLine l G k) (va_cwS 1 hts gX7_lock_X7_isLine rfl rfl rfl (by decide +kernel) ⟨Nat.le_of_ble_eq_true rfl, Nat.le_of_ble_eq_true rfl⟩) rfl hl.1 rfl (Nat.le_of_ble_eq_true rfl) dX7_lock_2 ⟨Nat.le_of_ble_eq_true rfl, Nat.le_of_ble_eq_true rfl⟩ hK hE hA hM (List.Perm.refl _) (List.Perm.refl _) (fun H locs hM hz => ?_)
  refine z_ifne (tgt := 12) hx hb dX7_lock_5 (by decide) (fun c_1 => ?_) (fun c_1 => Bool.noConfusion (hp.symm.trans c_1))
  refine lv_aload_n hx hb dX7_lock_12 rfl (lv_at hl 0 rfl) ?_
  refine z_get (ci := 7) (v := .ref w3) (C := RX7) (T := TX7) (N := 16) hx hb hts (by decide +kernel) hown hK hM 0 rfl rfl 3 (by decide) (hts (.fieldLink RX7 13 "ShiftIslesModel" "now" "[I") (by decide +kernel)) (fun _ h9 => h9) rfl dX7_lock_13 ?_
  refine z_callS (As := [.ref w3]) (rest := [.ref q]) (wc := rfW G w3 h b) (wr := [(q, .inr (7, [v0, v1, v2, .ref w3, v4, v5, .ref w6, .int (nI n), v8, v9, v10, v11, v12, v13, v14, v15])), (w6, .inl (G.2 1, 1694, .inl D))]) (w1 := rfW G w3 h b) (ws' := [(q, .inr (7, [v0, v1, v2, .ref w3, v4, v5, .ref w6, .int (nI n), v8, v9, v10, v11, v12, v13, v14, v15])), (w3, .inl (G.2 1, 121, .inl (flt h b))), (w6, .inl (G.2 1, 1694, .inl D))]) ⟨hx, hb, hml, hown, hts⟩ (c_canLock l G w3 h b P t S hg ) (va_cwS 1 hts gX7_lock_X7_canLock rfl rfl rfl (by decide +kernel) ⟨Nat.le_of_ble_eq_true rfl, Nat.le_of_ble_eq_true rfl⟩) rfl hl.1 rfl (Nat.le_of_ble_eq_true rfl) dX7_lock_16 ⟨Nat.le_of_ble_eq_true rfl, Nat.le_of_ble_eq_true rfl⟩ hK hE hA hM (pm_at 3 [1] [0, 2] rfl rfl rfl (by decide)) ((pm_at 3 [1] [0, 2] rfl rfl rfl (by decide))).symm (fun H locs hM hz => ?_)
  refine z_ifeq (tgt := 26) hx hb dX7_lock_19 (by decide) (fun c_2 => Bool.noConfusion (hc.symm.trans c_2)) (fun c_2 => ?_)
  refine lv_iconst (v := 0) hx hb dX7_lock_22 (by decide) ?_
  refine lv_goto (tgt := 27) hx hb dX7_lock_23 (by decide) ?_
  refine z_callV (As := [.int 0]) (rest := []) (wc := [(q, .inr (7, [v0, v1, v2, .ref w3, v4, v5, .ref w6, .int (nI n), v8, v9, v10, v11, v12, v13, v14, v15]))]) (wr := [(w3, .inl (G.2 1, 121, .inl (flt h b))), (w6, .inl (G.2 1, 1694, .inl D))]) (w1 := [(q, .inr (7, [.int 0, v1, v2, .ref w3, v4, v5, .ref w6, .int (nI n), v8, v9, v10, v11, v12, v13, v14, v15]))]) (ws' := [(q, .inr (7, [.int 0, v1, v2, .ref w3, v4, v5, .ref w6, .int (nI n), v8, v9, v10, v11, v12, v13, v14, v15])), (w3, .inl (G.2 1, 121, .inl (flt h b))), (w6, .inl (G.2 1, 1694, .inl D))]) ⟨hx, hb, hml, hown, hts⟩ (c_refused l G q v0 v1 v2 (.ref w3) v4 v5 (.ref w6) (.int (nI n)) v8 v9 v10 v11 v12 v13 v14 v15 0) (cwV 1 hts gX7_lock_X7_refused rfl rfl rfl (by decide +kernel) ⟨Nat.le_of_ble_eq_true rfl, Nat.le_of_ble_eq_true rfl⟩) 7 rfl rfl rfl rfl hl.1 rfl (Nat.le_of_ble_eq_true rfl) dX7_lock_27 ⟨Nat.le_of_ble_eq_true rfl, Nat.le_of_ble_eq_true rfl⟩ hK hE hA hM (pm_at 3 [0] [1, 2] rfl rfl rfl (by decide)) ((pm_at 3 [0] [1, 2] rfl rfl rfl (by decide))).symm (fun H locs hM hz => ?_)
  refine z_ifeq (tgt := 35) hx hb dX7_lock_30 (by decide) (fun c_3 => ?_) (fun c_3 => absurd c_3 (by decide))
  refine lv_aload_n hx hb dX7_lock_35 rfl (lv_at hl 0 rfl) ?_
  refine z_callV (As := []) (rest := []) (wc := [(q, .inr (7, [.int 0, v1, v2, .ref w3, v4, v5, .ref w6, .int (nI n), v8, v9, v10, v11, v12, v13, v14, v15])), (w3, .inl (G.2 1, 121, .inl (flt h b))), (w6, .inl (G.2 1, 1694, .inl D))]) (wr := []) (w1 := [(q, .inr (7, [.int 0, v1, v2, .ref w3, v4, v5, .ref w6, .int (nI (zrN n)), v8, v9, v10, v11, v12, v13, v14, v15])), (w3, .inl (G.2 1, 121, .inl (flt h b))), (w6, .inl (G.2 1, 1694, .inl (zrD n (flt h b) D)))]) (ws' := [(q, .inr (7, [.int 0, v1, v2, .ref w3, v4, v5, .ref w6, .int (nI (zrN n)), v8, v9, v10, v11, v12, v13, v14, v15])), (w3, .inl (G.2 1, 121, .inl (flt h b))), (w6, .inl (G.2 1, 1694, .inl (zrD n (flt h b) D)))]) ⟨hx, hb, hml, hown, hts⟩ (c_remember l G q (.int 0) v1 v2 v4 v5 v8 v9 v10 v11 v12 v13 v14 v15 w3 w6 h b n D hn14) (cwV 0 hts gX7_lock_X7_remember rfl rfl rfl (by decide +kernel) ⟨Nat.le_of_ble_eq_true rfl, Nat.le_of_ble_eq_true rfl⟩) 7 rfl rfl rfl rfl hl.1 rfl (Nat.le_of_ble_eq_true rfl) dX7_lock_36 ⟨Nat.le_of_ble_eq_true rfl, Nat.le_of_ble_eq_true rfl⟩ hK hE hA hM (pm_at 3 [0, 1, 2] [] rfl rfl rfl (by decide)) ((pm_at 3 [0, 1, 2] [] rfl rfl rfl (by decide))).symm (fun H locs hM hz => ?_)
  refine lv_aload_n hx hb dX7_lock_39 rfl (lv_at hl 0 rfl) ?_
  refine z_get (ci := 7) (v := .ref w3) (C := RX7) (T := TX7) (N := 16) hx hb hts (by decide +kernel) hown hK hM 0 rfl rfl 3 (by decide) (hts (.fieldLink RX7 13 "ShiftIslesModel" "now" "[I") (by decide +kernel)) (fun _ h9 => h9) rfl dX7_lock_40 ?_
  refine lv_iload_n hx hb dX7_lock_43 rfl (lv_at hl 1 rfl) ?_
  refine z_callS (As := [.ref w3, .int k]) (rest := []) (wc := rfW G w3 h b) (wr := [(q, .inr (7, [.int 0, v1, v2, .ref w3, v4, v5, .ref w6, .int (nI (zrN n)), v8, v9, v10, v11, v12, v13, v14, v15])), (w6, .inl (G.2 1, 1694, .inl (zrD n (flt h b) D)))]) (w1 := [(w3, .inl (G.2 1, 121, .inl (flt (zEtH h (zLkB b t k) t P) (zEtB h (zLkB b t k) t P))))]) (ws' := [(q, .inr (7, [.int 0, v1, v2, .ref w3, v4, v5, .ref w6, .int (nI (zrN n)), v8, v9, v10, v11, v12, v13, v14, v15])), (w3, .inl (G.2 1, 121, .inl (flt (zEtH h (zLkB b t k) t P) (zEtB h (zLkB b t k) t P)))), (w6, .inl (G.2 1, 1694, .inl (zrD n (flt h b) D)))]) ⟨hx, hb, hml, hown, hts⟩ (c_r_lockOn l G w3 h b P t S hg hP0 k) (va_cwS 2 hts gX7_lock_X7_lockOn rfl rfl rfl (by decide +kernel) ⟨Nat.le_of_ble_eq_true rfl, Nat.le_of_ble_eq_true rfl⟩) rfl hl.1 rfl (Nat.le_of_ble_eq_true rfl) dX7_lock_44 ⟨Nat.le_of_ble_eq_true rfl, Nat.le_of_ble_eq_true rfl⟩ hK hE hA hM (pm_at 3 [1] [0, 2] rfl rfl rfl (by decide)) ((pm_at 3 [1] [0, 2] rfl rfl rfl (by decide))).symm (fun H locs hM hz => ?_)
  exact z_iret hx hb hr hlocks dX7_lock_47 hM (Nat.le_of_ble_eq_true rfl) (Nat.le_of_ble_eq_true rfl) rfl

set_option maxHeartbeats 4000000 in
set_option maxRecDepth 100000 in
theorem c_r_shift1 (l : Launch) (G : zC) (q : Nat) (v0 v1 v2 v4 v5 v8 v9 v10 v11 v12 v13 v14 v15 : Value) (w3 w6 n : Nat) (D : Nat → Int32) (h : Nat → Int32) (b : Nat → Nat → Int32) (hn14 : n ≤ 14) (P : Nat) (hP : h 0 = nI P) (hP4 : P ≤ 4) (i n9 d : Int32) (hc : (zHp h i && zLi n9) = false) : zMet l G yX7_shift wsX7_shift rmX7_shift [.ref q, .int i, .int n9, .int d] ([(q, .inr (7, [v0, v1, v2, .ref w3, v4, v5, .ref w6, .int (nI n), v8, v9, v10, v11, v12, v13, v14, v15])), (w3, .inl (G.2 1, 121, .inl (flt h b))), (w6, .inl (G.2 1, 1694, .inl D))]) (some (.int 0)) ([(q, .inr (7, [.int 1, v1, v2, .ref w3, v4, v5, .ref w6, .int (nI n), v8, v9, v10, v11, v12, v13, v14, v15])), (w3, .inl (G.2 1, 121, .inl (flt h b))), (w6, .inl (G.2 1, 1694, .inl D))]) := by
  refine zMet_of (cc := cX7_shift) (maxL := 4) (ret := (some .int)) (by decide) rfl (Nat.le_of_ble_eq_true rfl) ?_
  intro p e s m below meth c A ls hx hb hr hml hown hts hK hA hE hlocks hin hM hl
  have hown : s.vm.findClass RX7 = some m.cls := hown
  have hM : zM G A s s.heap [] ([(q, .inr (7, [v0, v1, v2, .ref w3, v4, v5, .ref w6, .int (nI n), v8, v9, v10, v11, v12, v13, v14, v15])), (w3, .inl (G.2 1, 121, .inl (flt h b))), (w6, .inl (G.2 1, 1694, .inl D))]) := hM
  have hl : lv_has ls 4 [(0, .ref q), (1, .int i), (2, .int n9), (3, .int d)] := hl
  refine lv_aload_n hx hb dX7_shift_0 rfl (lv_at hl 0 rfl) ?_
  refine lv_aload_n hx hb dX7_shift_1 rfl (lv_at hl 0 rfl) ?_
  refine z_get (ci := 7) (v := .ref w3) (C := RX7) (T := TX7) (N := 16) hx hb hts (by decide +kernel) hown hK hM 0 rfl rfl 3 (by decide) (hts (.fieldLink RX7 13 "ShiftIslesModel" "now" "[I") (by decide +kernel)) (fun _ h9 => h9) rfl dX7_shift_2 ?_
  refine lv_iload_n hx hb dX7_shift_5 rfl (lv_at hl 1 rfl) ?_
  refine z_callS (As := [.ref w3, .int i]) (rest := [.ref q]) (wc := rfW G w3 h b) (wr := [(q, .inr (7, [v0, v1, v2, .ref w3, v4, v5, .ref w6, .int (nI n), v8, v9, v10, v11, v12, v13, v14, v15])), (w6, .inl (G.2 1, 1694, .inl D))]) (w1 := rfW G w3 h b) (ws' := [(q, .inr (7, [v0, v1, v2, .ref w3, v4, v5, .ref w6, .int (nI n), v8, v9, v10, v11, v12, v13, v14, v15])), (w3, .inl (G.2 1, 121, .inl (flt h b))), (w6, .inl (G.2 1, 1694, .inl D))]) ⟨hx, hb, hml, hown, hts⟩ (c_r_isPlayer l G w3 h b P hP hP4 i ) (va_cwS 2 hts gX7_shift_X7_isPlayer rfl rfl rfl (by decide +kernel) ⟨Nat.le_of_ble_eq_true rfl, Nat.le_of_ble_eq_true rfl⟩) rfl hl.1 rfl (Nat.le_of_ble_eq_true rfl) dX7_shift_6 ⟨Nat.le_of_ble_eq_true rfl, Nat.le_of_ble_eq_true rfl⟩ hK hE hA hM (pm_at 3 [1] [0, 2] rfl rfl rfl (by decide)) ((pm_at 3 [1] [0, 2] rfl rfl rfl (by decide))).symm (fun H locs hM hz => ?_)
  refine z_ifeq (tgt := 19) hx hb dX7_shift_9 (by decide) (fun c_1 => ?_) (fun c_1 => ?_)
  · skip
    refine lv_iconst (v := 1) hx hb dX7_shift_19 (by decide) ?_
    refine lv_goto (tgt := 55) hx hb dX7_shift_20 (by decide) ?_
    refine z_callV (As := [.int 1]) (rest := []) (wc := [(q, .inr (7, [v0, v1, v2, .ref w3, v4, v5, .ref w6, .int (nI n), v8, v9, v10, v11, v12, v13, v14, v15]))]) (wr := [(w3, .inl (G.2 1, 121, .inl (flt h b))), (w6, .inl (G.2 1, 1694, .inl D))]) (w1 := [(q, .inr (7, [.int 1, v1, v2, .ref w3, v4, v5, .ref w6, .int (nI n), v8, v9, v10, v11, v12, v13, v14, v15]))]) (ws' := [(q, .inr (7, [.int 1, v1, v2, .ref w3, v4, v5, .ref w6, .int (nI n), v8, v9, v10, v11, v12, v13, v14, v15])), (w3, .inl (G.2 1, 121, .inl (flt h b))), (w6, .inl (G.2 1, 1694, .inl D))]) ⟨hx, hb, hml, hown, hts⟩ (c_refused l G q v0 v1 v2 (.ref w3) v4 v5 (.ref w6) (.int (nI n)) v8 v9 v10 v11 v12 v13 v14 v15 1) (cwV 1 hts gX7_shift_X7_refused rfl rfl rfl (by decide +kernel) ⟨Nat.le_of_ble_eq_true rfl, Nat.le_of_ble_eq_true rfl⟩) 7 rfl rfl rfl rfl hl.1 rfl (Nat.le_of_ble_eq_true rfl) dX7_shift_55 ⟨Nat.le_of_ble_eq_true rfl, Nat.le_of_ble_eq_true rfl⟩ hK hE hA hM (pm_at 3 [0] [1, 2] rfl rfl rfl (by decide)) ((pm_at 3 [0] [1, 2] rfl rfl rfl (by decide))).symm (fun H locs hM hz => ?_)
    refine z_ifeq (tgt := 63) hx hb dX7_shift_58 (by decide) (fun c_1 => absurd c_1 (by decide)) (fun c_1 => ?_)
    refine lv_iconst (v := 0) hx hb dX7_shift_61 (by decide) ?_
    exact z_iret hx hb hr hlocks dX7_shift_62 hM (Nat.le_of_ble_eq_true rfl) (Nat.le_of_ble_eq_true rfl) rfl
  · skip
    refine lv_iload_n hx hb dX7_shift_12 rfl (lv_at hl 2 rfl) ?_
    refine z_callS (As := [.int n9]) (rest := [.ref q]) (wc := []) (wr := [(q, .inr (7, [v0, v1, v2, .ref w3, v4, v5, .ref w6, .int (nI n), v8, v9, v10, v11, v12, v13, v14, v15])), (w3, .inl (G.2 1, 121, .inl (flt h b))), (w6, .inl (G.2 1, 1694, .inl D))]) (w1 := []) (ws' := [(q, .inr (7, [v0, v1, v2, .ref w3, v4, v5, .ref w6, .int (nI n), v8, v9, v10, v11, v12, v13, v14, v15])), (w3, .inl (G.2 1, 121, .inl (flt h b))), (w6, .inl (G.2 1, 1694, .inl D))]) ⟨hx, hb, hml, hown, hts⟩ (c_r_isLine l G n9) (va_cwS 1 hts gX7_shift_X7_isLine rfl rfl rfl (by decide +kernel) ⟨Nat.le_of_ble_eq_true rfl, Nat.le_of_ble_eq_true rfl⟩) rfl hl.1 rfl (Nat.le_of_ble_eq_true rfl) dX7_shift_13 ⟨Nat.le_of_ble_eq_true rfl, Nat.le_of_ble_eq_true rfl⟩ hK hE hA hM (List.Perm.refl _) (List.Perm.refl _) (fun H locs hM hz => ?_)
    refine z_ifne (tgt := 23) hx hb dX7_shift_16 (by decide) (fun c_2 => (by rw [c_1, c_2] at hc; exact Bool.noConfusion hc)) (fun c_2 => ?_)
    refine lv_iconst (v := 1) hx hb dX7_shift_19 (by decide) ?_
    refine lv_goto (tgt := 55) hx hb dX7_shift_20 (by decide) ?_
    refine z_callV (As := [.int 1]) (rest := []) (wc := [(q, .inr (7, [v0, v1, v2, .ref w3, v4, v5, .ref w6, .int (nI n), v8, v9, v10, v11, v12, v13, v14, v15]))]) (wr := [(w3, .inl (G.2 1, 121, .inl (flt h b))), (w6, .inl (G.2 1, 1694, .inl D))]) (w1 := [(q, .inr (7, [.int 1, v1, v2, .ref w3, v4, v5, .ref w6, .int (nI n), v8, v9, v10, v11, v12, v13, v14, v15]))]) (ws' := [(q, .inr (7, [.int 1, v1, v2, .ref w3, v4, v5, .ref w6, .int (nI n), v8, v9, v10, v11, v12, v13, v14, v15])), (w3, .inl (G.2 1, 121, .inl (flt h b))), (w6, .inl (G.2 1, 1694, .inl D))]) ⟨hx, hb, hml, hown, hts⟩ (c_refused l G q v0 v1 v2 (.ref w3) v4 v5 (.ref w6) (.int (nI n)) v8 v9 v10 v11 v12 v13 v14 v15 1) (cwV 1 hts gX7_shift_X7_refused rfl rfl rfl (by decide +kernel) ⟨Nat.le_of_ble_eq_true rfl, Nat.le_of_ble_eq_true rfl⟩) 7 rfl rfl rfl rfl hl.1 rfl (Nat.le_of_ble_eq_true rfl) dX7_shift_55 ⟨Nat.le_of_ble_eq_true rfl, Nat.le_of_ble_eq_true rfl⟩ hK hE hA hM (pm_at 3 [0] [1, 2] rfl rfl rfl (by decide)) ((pm_at 3 [0] [1, 2] rfl rfl rfl (by decide))).symm (fun H locs hM hz => ?_)
    refine z_ifeq (tgt := 63) hx hb dX7_shift_58 (by decide) (fun c_3 => absurd c_3 (by decide)) (fun c_3 => ?_)
    refine lv_iconst (v := 0) hx hb dX7_shift_61 (by decide) ?_
    exact z_iret hx hb hr hlocks dX7_shift_62 hM (Nat.le_of_ble_eq_true rfl) (Nat.le_of_ble_eq_true rfl) rfl

set_option maxHeartbeats 4000000 in
set_option maxRecDepth 100000 in
theorem c_r_shift2 (l : Launch) (G : zC) (q : Nat) (v0 v1 v2 v4 v5 v8 v9 v10 v11 v12 v13 v14 v15 : Value) (w3 w6 n : Nat) (D : Nat → Int32) (h : Nat → Int32) (b : Nat → Nat → Int32) (hn14 : n ≤ 14) (P : Nat) (hP : h 0 = nI P) (hP4 : P ≤ 4) (i n9 d : Int32) (hi : zHp h i = true) (hl9 : zLi n9 = true) (hd : zDi d = false) : zMet l G yX7_shift wsX7_shift rmX7_shift [.ref q, .int i, .int n9, .int d] ([(q, .inr (7, [v0, v1, v2, .ref w3, v4, v5, .ref w6, .int (nI n), v8, v9, v10, v11, v12, v13, v14, v15])), (w3, .inl (G.2 1, 121, .inl (flt h b))), (w6, .inl (G.2 1, 1694, .inl D))]) (some (.int 0)) ([(q, .inr (7, [.int 2, v1, v2, .ref w3, v4, v5, .ref w6, .int (nI n), v8, v9, v10, v11, v12, v13, v14, v15])), (w3, .inl (G.2 1, 121, .inl (flt h b))), (w6, .inl (G.2 1, 1694, .inl D))]) := by
  refine zMet_of (cc := cX7_shift) (maxL := 4) (ret := (some .int)) (by decide) rfl (Nat.le_of_ble_eq_true rfl) ?_
  intro p e s m below meth c A ls hx hb hr hml hown hts hK hA hE hlocks hin hM hl
  have hown : s.vm.findClass RX7 = some m.cls := hown
  have hM : zM G A s s.heap [] ([(q, .inr (7, [v0, v1, v2, .ref w3, v4, v5, .ref w6, .int (nI n), v8, v9, v10, v11, v12, v13, v14, v15])), (w3, .inl (G.2 1, 121, .inl (flt h b))), (w6, .inl (G.2 1, 1694, .inl D))]) := hM
  have hl : lv_has ls 4 [(0, .ref q), (1, .int i), (2, .int n9), (3, .int d)] := hl
  refine lv_aload_n hx hb dX7_shift_0 rfl (lv_at hl 0 rfl) ?_
  refine lv_aload_n hx hb dX7_shift_1 rfl (lv_at hl 0 rfl) ?_
  refine z_get (ci := 7) (v := .ref w3) (C := RX7) (T := TX7) (N := 16) hx hb hts (by decide +kernel) hown hK hM 0 rfl rfl 3 (by decide) (hts (.fieldLink RX7 13 "ShiftIslesModel" "now" "[I") (by decide +kernel)) (fun _ h9 => h9) rfl dX7_shift_2 ?_
  refine lv_iload_n hx hb dX7_shift_5 rfl (lv_at hl 1 rfl) ?_
  refine z_callS (As := [.ref w3, .int i]) (rest := [.ref q]) (wc := rfW G w3 h b) (wr := [(q, .inr (7, [v0, v1, v2, .ref w3, v4, v5, .ref w6, .int (nI n), v8, v9, v10, v11, v12, v13, v14, v15])), (w6, .inl (G.2 1, 1694, .inl D))]) (w1 := rfW G w3 h b) (ws' := [(q, .inr (7, [v0, v1, v2, .ref w3, v4, v5, .ref w6, .int (nI n), v8, v9, v10, v11, v12, v13, v14, v15])), (w3, .inl (G.2 1, 121, .inl (flt h b))), (w6, .inl (G.2 1, 1694, .inl D))]) ⟨hx, hb, hml, hown, hts⟩ (c_r_isPlayer l G w3 h b P hP hP4 i ) (va_cwS 2 hts gX7_shift_X7_isPlayer rfl rfl rfl (by decide +kernel) ⟨Nat.le_of_ble_eq_true rfl, Nat.le_of_ble_eq_true rfl⟩) rfl hl.1 rfl (Nat.le_of_ble_eq_true rfl) dX7_shift_6 ⟨Nat.le_of_ble_eq_true rfl, Nat.le_of_ble_eq_true rfl⟩ hK hE hA hM (pm_at 3 [1] [0, 2] rfl rfl rfl (by decide)) ((pm_at 3 [1] [0, 2] rfl rfl rfl (by decide))).symm (fun H locs hM hz => ?_)
  refine z_ifeq (tgt := 19) hx hb dX7_shift_9 (by decide) (fun c_1 => Bool.noConfusion (hi.symm.trans c_1)) (fun c_1 => ?_)
  refine lv_iload_n hx hb dX7_shift_12 rfl (lv_at hl 2 rfl) ?_
  refine z_callS (As := [.int n9]) (rest := [.ref q]) (wc := []) (wr := [(q, .inr (7, [v0, v1, v2, .ref w3, v4, v5, .ref w6, .int (nI n), v8, v9, v10, v11, v12, v13, v14, v15])), (w3, .inl (G.2 1, 121, .inl (flt h b))), (w6, .inl (G.2 1, 1694, .inl D))]) (w1 := []) (ws' := [(q, .inr (7, [v0, v1, v2, .ref w3, v4, v5, .ref w6, .int (nI n), v8, v9, v10, v11, v12, v13, v14, v15])), (w3, .inl (G.2 1, 121, .inl (flt h b))), (w6, .inl (G.2 1, 1694, .inl D))]) ⟨hx, hb, hml, hown, hts⟩ (c_r_isLine l G n9) (va_cwS 1 hts gX7_shift_X7_isLine rfl rfl rfl (by decide +kernel) ⟨Nat.le_of_ble_eq_true rfl, Nat.le_of_ble_eq_true rfl⟩) rfl hl.1 rfl (Nat.le_of_ble_eq_true rfl) dX7_shift_13 ⟨Nat.le_of_ble_eq_true rfl, Nat.le_of_ble_eq_true rfl⟩ hK hE hA hM (List.Perm.refl _) (List.Perm.refl _) (fun H locs hM hz => ?_)
  refine z_ifne (tgt := 23) hx hb dX7_shift_16 (by decide) (fun c_2 => ?_) (fun c_2 => Bool.noConfusion (hl9.symm.trans c_2))
  refine lv_iload_n hx hb dX7_shift_23 rfl (lv_at hl 3 rfl) ?_
  refine lv_i2l (v := d.toInt64) hx hb dX7_shift_24 rfl ?_
  refine lv_lconst (v := 0) hx hb dX7_shift_25 (by decide) ?_
  refine lv_lconst (v := 1) hx hb dX7_shift_26 (by decide) ?_
  refine z_callS (As := [.long d.toInt64, .long 0, .long 1]) (rest := [.ref q]) (wc := []) (wr := [(q, .inr (7, [v0, v1, v2, .ref w3, v4, v5, .ref w6, .int (nI n), v8, v9, v10, v11, v12, v13, v14, v15])), (w3, .inl (G.2 1, 121, .inl (flt h b))), (w6, .inl (G.2 1, 1694, .inl D))]) (w1 := []) (ws' := [(q, .inr (7, [v0, v1, v2, .ref w3, v4, v5, .ref w6, .int (nI n), v8, v9, v10, v11, v12, v13, v14, v15])), (w3, .inl (G.2 1, 121, .inl (flt h b))), (w6, .inl (G.2 1, 1694, .inl D))]) ⟨hx, hb, hml, hown, hts⟩ (c_in l G d.toInt64 0 1) (va_cwS 3 hts gX7_shift_X7_in rfl rfl rfl (by decide +kernel) ⟨Nat.le_of_ble_eq_true rfl, Nat.le_of_ble_eq_true rfl⟩) rfl hl.1 rfl (Nat.le_of_ble_eq_true rfl) dX7_shift_27 ⟨Nat.le_of_ble_eq_true rfl, Nat.le_of_ble_eq_true rfl⟩ hK hE hA hM (List.Perm.refl _) (List.Perm.refl _) (fun H locs hM hz => ?_)
  refine z_ifne (tgt := 37) hx hb dX7_shift_30 (by decide) (fun c_3 => Bool.noConfusion (c_3.symm.trans ((zI0_di d).trans hd))) (fun c_3 => ?_)
  refine lv_iconst (v := 2) hx hb dX7_shift_33 (by decide) ?_
  refine lv_goto (tgt := 55) hx hb dX7_shift_34 (by decide) ?_
  refine z_callV (As := [.int 2]) (rest := []) (wc := [(q, .inr (7, [v0, v1, v2, .ref w3, v4, v5, .ref w6, .int (nI n), v8, v9, v10, v11, v12, v13, v14, v15]))]) (wr := [(w3, .inl (G.2 1, 121, .inl (flt h b))), (w6, .inl (G.2 1, 1694, .inl D))]) (w1 := [(q, .inr (7, [.int 2, v1, v2, .ref w3, v4, v5, .ref w6, .int (nI n), v8, v9, v10, v11, v12, v13, v14, v15]))]) (ws' := [(q, .inr (7, [.int 2, v1, v2, .ref w3, v4, v5, .ref w6, .int (nI n), v8, v9, v10, v11, v12, v13, v14, v15])), (w3, .inl (G.2 1, 121, .inl (flt h b))), (w6, .inl (G.2 1, 1694, .inl D))]) ⟨hx, hb, hml, hown, hts⟩ (c_refused l G q v0 v1 v2 (.ref w3) v4 v5 (.ref w6) (.int (nI n)) v8 v9 v10 v11 v12 v13 v14 v15 2) (cwV 1 hts gX7_shift_X7_refused rfl rfl rfl (by decide +kernel) ⟨Nat.le_of_ble_eq_true rfl, Nat.le_of_ble_eq_true rfl⟩) 7 rfl rfl rfl rfl hl.1 rfl (Nat.le_of_ble_eq_true rfl) dX7_shift_55 ⟨Nat.le_of_ble_eq_true rfl, Nat.le_of_ble_eq_true rfl⟩ hK hE hA hM (pm_at 3 [0] [1, 2] rfl rfl rfl (by decide)) ((pm_at 3 [0] [1, 2] rfl rfl rfl (by decide))).symm (fun H locs hM hz => ?_)
  refine z_ifeq (tgt := 63) hx hb dX7_shift_58 (by decide) (fun c_4 => absurd c_4 (by decide)) (fun c_4 => ?_)
  refine lv_iconst (v := 0) hx hb dX7_shift_61 (by decide) ?_
  exact z_iret hx hb hr hlocks dX7_shift_62 hM (Nat.le_of_ble_eq_true rfl) (Nat.le_of_ble_eq_true rfl) rfl

set_option maxHeartbeats 4000000 in
set_option maxRecDepth 100000 in
theorem c_r_shift3 (l : Launch) (G : zC) (q : Nat) (v0 v1 v2 v4 v5 v8 v9 v10 v11 v12 v13 v14 v15 : Value) (w3 w6 n : Nat) (D : Nat → Int32) (h : Nat → Int32) (b : Nat → Nat → Int32) (hn14 : n ≤ 14) (P t S : Nat) (hg : zWf h b P t S) (o i : Nat) (d : Int32) (ho : o < P) (hi6 : i < 6) (hd : zDi d = true) (hc : zMs h b o (nI i) d = false) : zMet l G yX7_shift wsX7_shift rmX7_shift [.ref q, .int (nI o), .int (nI i), .int d] ([(q, .inr (7, [v0, v1, v2, .ref w3, v4, v5, .ref w6, .int (nI n), v8, v9, v10, v11, v12, v13, v14, v15])), (w3, .inl (G.2 1, 121, .inl (flt h b))), (w6, .inl (G.2 1, 1694, .inl D))]) (some (.int 0)) ([(q, .inr (7, [.int 3, v1, v2, .ref w3, v4, v5, .ref w6, .int (nI n), v8, v9, v10, v11, v12, v13, v14, v15])), (w3, .inl (G.2 1, 121, .inl (flt h b))), (w6, .inl (G.2 1, 1694, .inl D))]) := by
  refine zMet_of (cc := cX7_shift) (maxL := 4) (ret := (some .int)) (by decide) rfl (Nat.le_of_ble_eq_true rfl) ?_
  intro p e s m below meth c A ls hx hb hr hml hown hts hK hA hE hlocks hin hM hl
  have hown : s.vm.findClass RX7 = some m.cls := hown
  have hM : zM G A s s.heap [] ([(q, .inr (7, [v0, v1, v2, .ref w3, v4, v5, .ref w6, .int (nI n), v8, v9, v10, v11, v12, v13, v14, v15])), (w3, .inl (G.2 1, 121, .inl (flt h b))), (w6, .inl (G.2 1, 1694, .inl D))]) := hM
  have hl : lv_has ls 4 [(0, .ref q), (1, .int (nI o)), (2, .int (nI i)), (3, .int d)] := hl
  have hP := hg.1.1
  have hP4 := hg.1.2.1
  have hi := (zHp_lt hP hP4 (k := o) (by omega)).mpr ho
  refine lv_aload_n hx hb dX7_shift_0 rfl (lv_at hl 0 rfl) ?_
  refine lv_aload_n hx hb dX7_shift_1 rfl (lv_at hl 0 rfl) ?_
  refine z_get (ci := 7) (v := .ref w3) (C := RX7) (T := TX7) (N := 16) hx hb hts (by decide +kernel) hown hK hM 0 rfl rfl 3 (by decide) (hts (.fieldLink RX7 13 "ShiftIslesModel" "now" "[I") (by decide +kernel)) (fun _ h9 => h9) rfl dX7_shift_2 ?_
  refine lv_iload_n hx hb dX7_shift_5 rfl (lv_at hl 1 rfl) ?_
  refine z_callS (As := [.ref w3, .int (nI o)]) (rest := [.ref q]) (wc := rfW G w3 h b) (wr := [(q, .inr (7, [v0, v1, v2, .ref w3, v4, v5, .ref w6, .int (nI n), v8, v9, v10, v11, v12, v13, v14, v15])), (w6, .inl (G.2 1, 1694, .inl D))]) (w1 := rfW G w3 h b) (ws' := [(q, .inr (7, [v0, v1, v2, .ref w3, v4, v5, .ref w6, .int (nI n), v8, v9, v10, v11, v12, v13, v14, v15])), (w3, .inl (G.2 1, 121, .inl (flt h b))), (w6, .inl (G.2 1, 1694, .inl D))]) ⟨hx, hb, hml, hown, hts⟩ (c_r_isPlayer l G w3 h b P hP hP4 (nI o) ) (va_cwS 2 hts gX7_shift_X7_isPlayer rfl rfl rfl (by decide +kernel) ⟨Nat.le_of_ble_eq_true rfl, Nat.le_of_ble_eq_true rfl⟩) rfl hl.1 rfl (Nat.le_of_ble_eq_true rfl) dX7_shift_6 ⟨Nat.le_of_ble_eq_true rfl, Nat.le_of_ble_eq_true rfl⟩ hK hE hA hM (pm_at 3 [1] [0, 2] rfl rfl rfl (by decide)) ((pm_at 3 [1] [0, 2] rfl rfl rfl (by decide))).symm (fun H locs hM hz => ?_)
  refine z_ifeq (tgt := 19) hx hb dX7_shift_9 (by decide) (fun c_1 => Bool.noConfusion (hi.symm.trans c_1)) (fun c_1 => ?_)
  refine lv_iload_n hx hb dX7_shift_12 rfl (lv_at hl 2 rfl) ?_
  refine z_callS (As := [.int (nI i)]) (rest := [.ref q]) (wc := []) (wr := [(q, .inr (7, [v0, v1, v2, .ref w3, v4, v5, .ref w6, .int (nI n), v8, v9, v10, v11, v12, v13, v14, v15])), (w3, .inl (G.2 1, 121, .inl (flt h b))), (w6, .inl (G.2 1, 1694, .inl D))]) (w1 := []) (ws' := [(q, .inr (7, [v0, v1, v2, .ref w3, v4, v5, .ref w6, .int (nI n), v8, v9, v10, v11, v12, v13, v14, v15])), (w3, .inl (G.2 1, 121, .inl (flt h b))), (w6, .inl (G.2 1, 1694, .inl D))]) ⟨hx, hb, hml, hown, hts⟩ (c_r_isLine l G (nI i)) (va_cwS 1 hts gX7_shift_X7_isLine rfl rfl rfl (by decide +kernel) ⟨Nat.le_of_ble_eq_true rfl, Nat.le_of_ble_eq_true rfl⟩) rfl hl.1 rfl (Nat.le_of_ble_eq_true rfl) dX7_shift_13 ⟨Nat.le_of_ble_eq_true rfl, Nat.le_of_ble_eq_true rfl⟩ hK hE hA hM (List.Perm.refl _) (List.Perm.refl _) (fun H locs hM hz => ?_)
  refine z_ifne (tgt := 23) hx hb dX7_shift_16 (by decide) (fun c_2 => ?_) (fun c_2 => Bool.noConfusion ((zLi_nI hi6).symm.trans c_2))
  refine lv_iload_n hx hb dX7_shift_23 rfl (lv_at hl 3 rfl) ?_
  refine lv_i2l (v := d.toInt64) hx hb dX7_shift_24 rfl ?_
  refine lv_lconst (v := 0) hx hb dX7_shift_25 (by decide) ?_
  refine lv_lconst (v := 1) hx hb dX7_shift_26 (by decide) ?_
  refine z_callS (As := [.long d.toInt64, .long 0, .long 1]) (rest := [.ref q]) (wc := []) (wr := [(q, .inr (7, [v0, v1, v2, .ref w3, v4, v5, .ref w6, .int (nI n), v8, v9, v10, v11, v12, v13, v14, v15])), (w3, .inl (G.2 1, 121, .inl (flt h b))), (w6, .inl (G.2 1, 1694, .inl D))]) (w1 := []) (ws' := [(q, .inr (7, [v0, v1, v2, .ref w3, v4, v5, .ref w6, .int (nI n), v8, v9, v10, v11, v12, v13, v14, v15])), (w3, .inl (G.2 1, 121, .inl (flt h b))), (w6, .inl (G.2 1, 1694, .inl D))]) ⟨hx, hb, hml, hown, hts⟩ (c_in l G d.toInt64 0 1) (va_cwS 3 hts gX7_shift_X7_in rfl rfl rfl (by decide +kernel) ⟨Nat.le_of_ble_eq_true rfl, Nat.le_of_ble_eq_true rfl⟩) rfl hl.1 rfl (Nat.le_of_ble_eq_true rfl) dX7_shift_27 ⟨Nat.le_of_ble_eq_true rfl, Nat.le_of_ble_eq_true rfl⟩ hK hE hA hM (List.Perm.refl _) (List.Perm.refl _) (fun H locs hM hz => ?_)
  refine z_ifne (tgt := 37) hx hb dX7_shift_30 (by decide) (fun c_3 => ?_) (fun c_3 => Bool.noConfusion (((zI0_di d).trans hd).symm.trans c_3))
  refine lv_aload_n hx hb dX7_shift_37 rfl (lv_at hl 0 rfl) ?_
  refine z_get (ci := 7) (v := .ref w3) (C := RX7) (T := TX7) (N := 16) hx hb hts (by decide +kernel) hown hK hM 0 rfl rfl 3 (by decide) (hts (.fieldLink RX7 13 "ShiftIslesModel" "now" "[I") (by decide +kernel)) (fun _ h9 => h9) rfl dX7_shift_38 ?_
  refine lv_iload_n hx hb dX7_shift_41 rfl (lv_at hl 1 rfl) ?_
  refine lv_iload_n hx hb dX7_shift_42 rfl (lv_at hl 2 rfl) ?_
  refine lv_iload_n hx hb dX7_shift_43 rfl (lv_at hl 3 rfl) ?_
  refine z_callS (As := [.ref w3, .int (nI o), .int (nI i), .int d]) (rest := [.ref q]) (wc := rfW G w3 h b) (wr := [(q, .inr (7, [v0, v1, v2, .ref w3, v4, v5, .ref w6, .int (nI n), v8, v9, v10, v11, v12, v13, v14, v15])), (w6, .inl (G.2 1, 1694, .inl D))]) (w1 := rfW G w3 h b) (ws' := [(q, .inr (7, [v0, v1, v2, .ref w3, v4, v5, .ref w6, .int (nI n), v8, v9, v10, v11, v12, v13, v14, v15])), (w3, .inl (G.2 1, 121, .inl (flt h b))), (w6, .inl (G.2 1, 1694, .inl D))]) ⟨hx, hb, hml, hown, hts⟩ (c_csn l G w3 h b P t S hg o (nI i) d (by omega) (zLi_nI hi6) hd ) (va_cwS 4 hts gX7_shift_X7_canShiftNow rfl rfl rfl (by decide +kernel) ⟨Nat.le_of_ble_eq_true rfl, Nat.le_of_ble_eq_true rfl⟩) rfl hl.1 rfl (Nat.le_of_ble_eq_true rfl) dX7_shift_44 ⟨Nat.le_of_ble_eq_true rfl, Nat.le_of_ble_eq_true rfl⟩ hK hE hA hM (pm_at 3 [1] [0, 2] rfl rfl rfl (by decide)) ((pm_at 3 [1] [0, 2] rfl rfl rfl (by decide))).symm (fun H locs hM hz => ?_)
  refine z_ifeq (tgt := 54) hx hb dX7_shift_47 (by decide) (fun c_4 => ?_) (fun c_4 => Bool.noConfusion (c_4.symm.trans hc))
  refine lv_iconst (v := 3) hx hb dX7_shift_54 (by decide) ?_
  refine z_callV (As := [.int 3]) (rest := []) (wc := [(q, .inr (7, [v0, v1, v2, .ref w3, v4, v5, .ref w6, .int (nI n), v8, v9, v10, v11, v12, v13, v14, v15]))]) (wr := [(w3, .inl (G.2 1, 121, .inl (flt h b))), (w6, .inl (G.2 1, 1694, .inl D))]) (w1 := [(q, .inr (7, [.int 3, v1, v2, .ref w3, v4, v5, .ref w6, .int (nI n), v8, v9, v10, v11, v12, v13, v14, v15]))]) (ws' := [(q, .inr (7, [.int 3, v1, v2, .ref w3, v4, v5, .ref w6, .int (nI n), v8, v9, v10, v11, v12, v13, v14, v15])), (w3, .inl (G.2 1, 121, .inl (flt h b))), (w6, .inl (G.2 1, 1694, .inl D))]) ⟨hx, hb, hml, hown, hts⟩ (c_refused l G q v0 v1 v2 (.ref w3) v4 v5 (.ref w6) (.int (nI n)) v8 v9 v10 v11 v12 v13 v14 v15 3) (cwV 1 hts gX7_shift_X7_refused rfl rfl rfl (by decide +kernel) ⟨Nat.le_of_ble_eq_true rfl, Nat.le_of_ble_eq_true rfl⟩) 7 rfl rfl rfl rfl hl.1 rfl (Nat.le_of_ble_eq_true rfl) dX7_shift_55 ⟨Nat.le_of_ble_eq_true rfl, Nat.le_of_ble_eq_true rfl⟩ hK hE hA hM (pm_at 3 [0] [1, 2] rfl rfl rfl (by decide)) ((pm_at 3 [0] [1, 2] rfl rfl rfl (by decide))).symm (fun H locs hM hz => ?_)
  refine z_ifeq (tgt := 63) hx hb dX7_shift_58 (by decide) (fun c_5 => absurd c_5 (by decide)) (fun c_5 => ?_)
  refine lv_iconst (v := 0) hx hb dX7_shift_61 (by decide) ?_
  exact z_iret hx hb hr hlocks dX7_shift_62 hM (Nat.le_of_ble_eq_true rfl) (Nat.le_of_ble_eq_true rfl) rfl

set_option maxHeartbeats 4000000 in
set_option maxRecDepth 100000 in
theorem c_r_shift0 (l : Launch) (G : zC) (q : Nat) (v0 v1 v2 v4 v5 v8 v9 v10 v11 v12 v13 v14 v15 : Value) (w3 w6 n : Nat) (D : Nat → Int32) (h : Nat → Int32) (b : Nat → Nat → Int32) (hn14 : n ≤ 14) (P t S : Nat) (hg : zWf h b P t S) (o i : Nat) (d : Int32) (ho : o < P) (hi6 : i < 6) (hd : zDi d = true) (hd2 : d = 0 ∨ d = 1) (hc : zMs h b o (nI i) d = true) : zMet l G yX7_shift wsX7_shift rmX7_shift [.ref q, .int (nI o), .int (nI i), .int d] ([(q, .inr (7, [v0, v1, v2, .ref w3, v4, v5, .ref w6, .int (nI n), v8, v9, v10, v11, v12, v13, v14, v15])), (w3, .inl (G.2 1, 121, .inl (flt h b))), (w6, .inl (G.2 1, 1694, .inl D))]) (some (.int (zBc (zRch (zMv (b o) i d) S)))) ([(q, .inr (7, [.int 0, v1, v2, .ref w3, v4, v5, .ref w6, .int (nI (zrN n)), v8, v9, v10, v11, v12, v13, v14, v15])), (w3, .inl (G.2 1, 121, .inl (flt (zShH h) (va_up b o (zMv (b o) i d))))), (w6, .inl (G.2 1, 1694, .inl (zrD n (flt h b) D)))]) := by
  refine zMet_of (cc := cX7_shift) (maxL := 4) (ret := (some .int)) (by decide) rfl (Nat.le_of_ble_eq_true rfl) ?_
  intro p e s m below meth c A ls hx hb hr hml hown hts hK hA hE hlocks hin hM hl
  have hown : s.vm.findClass RX7 = some m.cls := hown
  have hM : zM G A s s.heap [] ([(q, .inr (7, [v0, v1, v2, .ref w3, v4, v5, .ref w6, .int (nI n), v8, v9, v10, v11, v12, v13, v14, v15])), (w3, .inl (G.2 1, 121, .inl (flt h b))), (w6, .inl (G.2 1, 1694, .inl D))]) := hM
  have hl : lv_has ls 4 [(0, .ref q), (1, .int (nI o)), (2, .int (nI i)), (3, .int d)] := hl
  have hP := hg.1.1
  have hP4 := hg.1.2.1
  have hi := (zHp_lt hP hP4 (k := o) (by omega)).mpr ho
  refine lv_aload_n hx hb dX7_shift_0 rfl (lv_at hl 0 rfl) ?_
  refine lv_aload_n hx hb dX7_shift_1 rfl (lv_at hl 0 rfl) ?_
  refine z_get (ci := 7) (v := .ref w3) (C := RX7) (T := TX7) (N := 16) hx hb hts (by decide +kernel) hown hK hM 0 rfl rfl 3 (by decide) (hts (.fieldLink RX7 13 "ShiftIslesModel" "now" "[I") (by decide +kernel)) (fun _ h9 => h9) rfl dX7_shift_2 ?_
  refine lv_iload_n hx hb dX7_shift_5 rfl (lv_at hl 1 rfl) ?_
  refine z_callS (As := [.ref w3, .int (nI o)]) (rest := [.ref q]) (wc := rfW G w3 h b) (wr := [(q, .inr (7, [v0, v1, v2, .ref w3, v4, v5, .ref w6, .int (nI n), v8, v9, v10, v11, v12, v13, v14, v15])), (w6, .inl (G.2 1, 1694, .inl D))]) (w1 := rfW G w3 h b) (ws' := [(q, .inr (7, [v0, v1, v2, .ref w3, v4, v5, .ref w6, .int (nI n), v8, v9, v10, v11, v12, v13, v14, v15])), (w3, .inl (G.2 1, 121, .inl (flt h b))), (w6, .inl (G.2 1, 1694, .inl D))]) ⟨hx, hb, hml, hown, hts⟩ (c_r_isPlayer l G w3 h b P hP hP4 (nI o) ) (va_cwS 2 hts gX7_shift_X7_isPlayer rfl rfl rfl (by decide +kernel) ⟨Nat.le_of_ble_eq_true rfl, Nat.le_of_ble_eq_true rfl⟩) rfl hl.1 rfl (Nat.le_of_ble_eq_true rfl) dX7_shift_6 ⟨Nat.le_of_ble_eq_true rfl, Nat.le_of_ble_eq_true rfl⟩ hK hE hA hM (pm_at 3 [1] [0, 2] rfl rfl rfl (by decide)) ((pm_at 3 [1] [0, 2] rfl rfl rfl (by decide))).symm (fun H locs hM hz => ?_)
  refine z_ifeq (tgt := 19) hx hb dX7_shift_9 (by decide) (fun c_1 => Bool.noConfusion (hi.symm.trans c_1)) (fun c_1 => ?_)
  refine lv_iload_n hx hb dX7_shift_12 rfl (lv_at hl 2 rfl) ?_
  refine z_callS (As := [.int (nI i)]) (rest := [.ref q]) (wc := []) (wr := [(q, .inr (7, [v0, v1, v2, .ref w3, v4, v5, .ref w6, .int (nI n), v8, v9, v10, v11, v12, v13, v14, v15])), (w3, .inl (G.2 1, 121, .inl (flt h b))), (w6, .inl (G.2 1, 1694, .inl D))]) (w1 := []) (ws' := [(q, .inr (7, [v0, v1, v2, .ref w3, v4, v5, .ref w6, .int (nI n), v8, v9, v10, v11, v12, v13, v14, v15])), (w3, .inl (G.2 1, 121, .inl (flt h b))), (w6, .inl (G.2 1, 1694, .inl D))]) ⟨hx, hb, hml, hown, hts⟩ (c_r_isLine l G (nI i)) (va_cwS 1 hts gX7_shift_X7_isLine rfl rfl rfl (by decide +kernel) ⟨Nat.le_of_ble_eq_true rfl, Nat.le_of_ble_eq_true rfl⟩) rfl hl.1 rfl (Nat.le_of_ble_eq_true rfl) dX7_shift_13 ⟨Nat.le_of_ble_eq_true rfl, Nat.le_of_ble_eq_true rfl⟩ hK hE hA hM (List.Perm.refl _) (List.Perm.refl _) (fun H locs hM hz => ?_)
  refine z_ifne (tgt := 23) hx hb dX7_shift_16 (by decide) (fun c_2 => ?_) (fun c_2 => Bool.noConfusion ((zLi_nI hi6).symm.trans c_2))
  refine lv_iload_n hx hb dX7_shift_23 rfl (lv_at hl 3 rfl) ?_
  refine lv_i2l (v := d.toInt64) hx hb dX7_shift_24 rfl ?_
  refine lv_lconst (v := 0) hx hb dX7_shift_25 (by decide) ?_
  refine lv_lconst (v := 1) hx hb dX7_shift_26 (by decide) ?_
  refine z_callS (As := [.long d.toInt64, .long 0, .long 1]) (rest := [.ref q]) (wc := []) (wr := [(q, .inr (7, [v0, v1, v2, .ref w3, v4, v5, .ref w6, .int (nI n), v8, v9, v10, v11, v12, v13, v14, v15])), (w3, .inl (G.2 1, 121, .inl (flt h b))), (w6, .inl (G.2 1, 1694, .inl D))]) (w1 := []) (ws' := [(q, .inr (7, [v0, v1, v2, .ref w3, v4, v5, .ref w6, .int (nI n), v8, v9, v10, v11, v12, v13, v14, v15])), (w3, .inl (G.2 1, 121, .inl (flt h b))), (w6, .inl (G.2 1, 1694, .inl D))]) ⟨hx, hb, hml, hown, hts⟩ (c_in l G d.toInt64 0 1) (va_cwS 3 hts gX7_shift_X7_in rfl rfl rfl (by decide +kernel) ⟨Nat.le_of_ble_eq_true rfl, Nat.le_of_ble_eq_true rfl⟩) rfl hl.1 rfl (Nat.le_of_ble_eq_true rfl) dX7_shift_27 ⟨Nat.le_of_ble_eq_true rfl, Nat.le_of_ble_eq_true rfl⟩ hK hE hA hM (List.Perm.refl _) (List.Perm.refl _) (fun H locs hM hz => ?_)
  refine z_ifne (tgt := 37) hx hb dX7_shift_30 (by decide) (fun c_3 => ?_) (fun c_3 => Bool.noConfusion (((zI0_di d).trans hd).symm.trans c_3))
  refine lv_aload_n hx hb dX7_shift_37 rfl (lv_at hl 0 rfl) ?_
  refine z_get (ci := 7) (v := .ref w3) (C := RX7) (T := TX7) (N := 16) hx hb hts (by decide +kernel) hown hK hM 0 rfl rfl 3 (by decide) (hts (.fieldLink RX7 13 "ShiftIslesModel" "now" "[I") (by decide +kernel)) (fun _ h9 => h9) rfl dX7_shift_38 ?_
  refine lv_iload_n hx hb dX7_shift_41 rfl (lv_at hl 1 rfl) ?_
  refine lv_iload_n hx hb dX7_shift_42 rfl (lv_at hl 2 rfl) ?_
  refine lv_iload_n hx hb dX7_shift_43 rfl (lv_at hl 3 rfl) ?_
  refine z_callS (As := [.ref w3, .int (nI o), .int (nI i), .int d]) (rest := [.ref q]) (wc := rfW G w3 h b) (wr := [(q, .inr (7, [v0, v1, v2, .ref w3, v4, v5, .ref w6, .int (nI n), v8, v9, v10, v11, v12, v13, v14, v15])), (w6, .inl (G.2 1, 1694, .inl D))]) (w1 := rfW G w3 h b) (ws' := [(q, .inr (7, [v0, v1, v2, .ref w3, v4, v5, .ref w6, .int (nI n), v8, v9, v10, v11, v12, v13, v14, v15])), (w3, .inl (G.2 1, 121, .inl (flt h b))), (w6, .inl (G.2 1, 1694, .inl D))]) ⟨hx, hb, hml, hown, hts⟩ (c_csn l G w3 h b P t S hg o (nI i) d (by omega) (zLi_nI hi6) hd ) (va_cwS 4 hts gX7_shift_X7_canShiftNow rfl rfl rfl (by decide +kernel) ⟨Nat.le_of_ble_eq_true rfl, Nat.le_of_ble_eq_true rfl⟩) rfl hl.1 rfl (Nat.le_of_ble_eq_true rfl) dX7_shift_44 ⟨Nat.le_of_ble_eq_true rfl, Nat.le_of_ble_eq_true rfl⟩ hK hE hA hM (pm_at 3 [1] [0, 2] rfl rfl rfl (by decide)) ((pm_at 3 [1] [0, 2] rfl rfl rfl (by decide))).symm (fun H locs hM hz => ?_)
  refine z_ifeq (tgt := 54) hx hb dX7_shift_47 (by decide) (fun c_4 => Bool.noConfusion (hc.symm.trans c_4)) (fun c_4 => ?_)
  refine lv_iconst (v := 0) hx hb dX7_shift_50 (by decide) ?_
  refine lv_goto (tgt := 55) hx hb dX7_shift_51 (by decide) ?_
  refine z_callV (As := [.int 0]) (rest := []) (wc := [(q, .inr (7, [v0, v1, v2, .ref w3, v4, v5, .ref w6, .int (nI n), v8, v9, v10, v11, v12, v13, v14, v15]))]) (wr := [(w3, .inl (G.2 1, 121, .inl (flt h b))), (w6, .inl (G.2 1, 1694, .inl D))]) (w1 := [(q, .inr (7, [.int 0, v1, v2, .ref w3, v4, v5, .ref w6, .int (nI n), v8, v9, v10, v11, v12, v13, v14, v15]))]) (ws' := [(q, .inr (7, [.int 0, v1, v2, .ref w3, v4, v5, .ref w6, .int (nI n), v8, v9, v10, v11, v12, v13, v14, v15])), (w3, .inl (G.2 1, 121, .inl (flt h b))), (w6, .inl (G.2 1, 1694, .inl D))]) ⟨hx, hb, hml, hown, hts⟩ (c_refused l G q v0 v1 v2 (.ref w3) v4 v5 (.ref w6) (.int (nI n)) v8 v9 v10 v11 v12 v13 v14 v15 0) (cwV 1 hts gX7_shift_X7_refused rfl rfl rfl (by decide +kernel) ⟨Nat.le_of_ble_eq_true rfl, Nat.le_of_ble_eq_true rfl⟩) 7 rfl rfl rfl rfl hl.1 rfl (Nat.le_of_ble_eq_true rfl) dX7_shift_55 ⟨Nat.le_of_ble_eq_true rfl, Nat.le_of_ble_eq_true rfl⟩ hK hE hA hM (pm_at 3 [0] [1, 2] rfl rfl rfl (by decide)) ((pm_at 3 [0] [1, 2] rfl rfl rfl (by decide))).symm (fun H locs hM hz => ?_)
  refine z_ifeq (tgt := 63) hx hb dX7_shift_58 (by decide) (fun c_5 => ?_) (fun c_5 => absurd c_5 (by decide))
  refine lv_aload_n hx hb dX7_shift_63 rfl (lv_at hl 0 rfl) ?_
  refine z_callV (As := []) (rest := []) (wc := [(q, .inr (7, [.int 0, v1, v2, .ref w3, v4, v5, .ref w6, .int (nI n), v8, v9, v10, v11, v12, v13, v14, v15])), (w3, .inl (G.2 1, 121, .inl (flt h b))), (w6, .inl (G.2 1, 1694, .inl D))]) (wr := []) (w1 := [(q, .inr (7, [.int 0, v1, v2, .ref w3, v4, v5, .ref w6, .int (nI (zrN n)), v8, v9, v10, v11, v12, v13, v14, v15])), (w3, .inl (G.2 1, 121, .inl (flt h b))), (w6, .inl (G.2 1, 1694, .inl (zrD n (flt h b) D)))]) (ws' := [(q, .inr (7, [.int 0, v1, v2, .ref w3, v4, v5, .ref w6, .int (nI (zrN n)), v8, v9, v10, v11, v12, v13, v14, v15])), (w3, .inl (G.2 1, 121, .inl (flt h b))), (w6, .inl (G.2 1, 1694, .inl (zrD n (flt h b) D)))]) ⟨hx, hb, hml, hown, hts⟩ (c_remember l G q (.int 0) v1 v2 v4 v5 v8 v9 v10 v11 v12 v13 v14 v15 w3 w6 h b n D hn14) (cwV 0 hts gX7_shift_X7_remember rfl rfl rfl (by decide +kernel) ⟨Nat.le_of_ble_eq_true rfl, Nat.le_of_ble_eq_true rfl⟩) 7 rfl rfl rfl rfl hl.1 rfl (Nat.le_of_ble_eq_true rfl) dX7_shift_64 ⟨Nat.le_of_ble_eq_true rfl, Nat.le_of_ble_eq_true rfl⟩ hK hE hA hM (pm_at 3 [0, 1, 2] [] rfl rfl rfl (by decide)) ((pm_at 3 [0, 1, 2] [] rfl rfl rfl (by decide))).symm (fun H locs hM hz => ?_)
  refine lv_aload_n hx hb dX7_shift_67 rfl (lv_at hl 0 rfl) ?_
  refine z_get (ci := 7) (v := .ref w3) (C := RX7) (T := TX7) (N := 16) hx hb hts (by decide +kernel) hown hK hM 0 rfl rfl 3 (by decide) (hts (.fieldLink RX7 13 "ShiftIslesModel" "now" "[I") (by decide +kernel)) (fun _ h9 => h9) rfl dX7_shift_68 ?_
  refine lv_iload_n hx hb dX7_shift_71 rfl (lv_at hl 1 rfl) ?_
  refine lv_iload_n hx hb dX7_shift_72 rfl (lv_at hl 2 rfl) ?_
  refine lv_iload_n hx hb dX7_shift_73 rfl (lv_at hl 3 rfl) ?_
  refine z_callS (As := [.ref w3, .int (nI o), .int (nI i), .int d]) (rest := []) (wc := rfW G w3 h b) (wr := [(q, .inr (7, [.int 0, v1, v2, .ref w3, v4, v5, .ref w6, .int (nI (zrN n)), v8, v9, v10, v11, v12, v13, v14, v15])), (w6, .inl (G.2 1, 1694, .inl (zrD n (flt h b) D)))]) (w1 := [(w3, .inl (G.2 1, 121, .inl (flt (zShH h) (va_up b o (zMv (b o) i d)))))]) (ws' := [(q, .inr (7, [.int 0, v1, v2, .ref w3, v4, v5, .ref w6, .int (nI (zrN n)), v8, v9, v10, v11, v12, v13, v14, v15])), (w3, .inl (G.2 1, 121, .inl (flt (zShH h) (va_up b o (zMv (b o) i d))))), (w6, .inl (G.2 1, 1694, .inl (zrD n (flt h b) D)))]) ⟨hx, hb, hml, hown, hts⟩ (c_shiftOn l G w3 h b P t S hg o i d ho hi6 hd2) (va_cwS 4 hts gX7_shift_X7_shiftOn rfl rfl rfl (by decide +kernel) ⟨Nat.le_of_ble_eq_true rfl, Nat.le_of_ble_eq_true rfl⟩) rfl hl.1 rfl (Nat.le_of_ble_eq_true rfl) dX7_shift_74 ⟨Nat.le_of_ble_eq_true rfl, Nat.le_of_ble_eq_true rfl⟩ hK hE hA hM (pm_at 3 [1] [0, 2] rfl rfl rfl (by decide)) ((pm_at 3 [1] [0, 2] rfl rfl rfl (by decide))).symm (fun H locs hM hz => ?_)
  exact z_iret hx hb hr hlocks dX7_shift_77 hM (Nat.le_of_ble_eq_true rfl) (Nat.le_of_ble_eq_true rfl) rfl
set_option maxHeartbeats 4000000 in
set_option maxRecDepth 100000 in
theorem c_r_set1 (l : Launch) (G : zC) (q : Nat) (v0 v1 v2 v4 v5 v8 v9 v10 v11 v12 v13 v14 v15 : Value) (w3 w6 n : Nat) (D : Nat → Int32) (h : Nat → Int32) (b : Nat → Nat → Int32) (hn14 : n ≤ 14) (k v : Int32) (hc : zSet k v = false) : zMet l G yX7_set wsX7_set rmX7_set [.ref q, .int k, .int v] ([(q, .inr (7, [v0, v1, v2, .ref w3, v4, v5, .ref w6, .int (nI n), v8, v9, v10, v11, v12, v13, v14, v15])), (w3, .inl (G.2 1, 121, .inl (flt h b))), (w6, .inl (G.2 1, 1694, .inl D))]) (some (.int 0)) ([(q, .inr (7, [.int 1, v1, v2, .ref w3, v4, v5, .ref w6, .int (nI n), v8, v9, v10, v11, v12, v13, v14, v15])), (w3, .inl (G.2 1, 121, .inl (flt h b))), (w6, .inl (G.2 1, 1694, .inl D))]) := by
  refine zMet_of (cc := cX7_set) (maxL := 4) (ret := (some .int)) (by decide) rfl (Nat.le_of_ble_eq_true rfl) ?_
  intro p e s m below meth c A ls hx hb hr hml hown hts hK hA hE hlocks hin hM hl
  have hown : s.vm.findClass RX7 = some m.cls := hown
  have hM : zM G A s s.heap [] ([(q, .inr (7, [v0, v1, v2, .ref w3, v4, v5, .ref w6, .int (nI n), v8, v9, v10, v11, v12, v13, v14, v15])), (w3, .inl (G.2 1, 121, .inl (flt h b))), (w6, .inl (G.2 1, 1694, .inl D))]) := hM
  have hl : lv_has ls 4 [(0, .ref q), (1, .int k), (2, .int v)] := hl
  refine lv_aload_n hx hb dX7_set_0 rfl (lv_at hl 0 rfl) ?_
  refine lv_iload_n hx hb dX7_set_1 rfl (lv_at hl 1 rfl) ?_
  refine lv_iload_n hx hb dX7_set_2 rfl (lv_at hl 2 rfl) ?_
  refine z_callS (As := [.int k, .int v]) (rest := [.ref q]) (wc := []) (wr := [(q, .inr (7, [v0, v1, v2, .ref w3, v4, v5, .ref w6, .int (nI n), v8, v9, v10, v11, v12, v13, v14, v15])), (w3, .inl (G.2 1, 121, .inl (flt h b))), (w6, .inl (G.2 1, 1694, .inl D))]) (w1 := []) (ws' := [(q, .inr (7, [v0, v1, v2, .ref w3, v4, v5, .ref w6, .int (nI n), v8, v9, v10, v11, v12, v13, v14, v15])), (w3, .inl (G.2 1, 121, .inl (flt h b))), (w6, .inl (G.2 1, 1694, .inl D))]) ⟨hx, hb, hml, hown, hts⟩ (c_r_isSetting l G k v) (va_cwS 2 hts gX7_set_X7_isSetting rfl rfl rfl (by decide +kernel) ⟨Nat.le_of_ble_eq_true rfl, Nat.le_of_ble_eq_true rfl⟩) rfl hl.1 rfl (Nat.le_of_ble_eq_true rfl) dX7_set_3 ⟨Nat.le_of_ble_eq_true rfl, Nat.le_of_ble_eq_true rfl⟩ hK hE hA hM (List.Perm.refl _) (List.Perm.refl _) (fun H locs hM hz => ?_)
  refine z_ifeq (tgt := 13) hx hb dX7_set_6 (by decide) (fun c_1 => ?_) (fun c_1 => Bool.noConfusion (c_1.symm.trans hc))
  refine lv_iconst (v := 1) hx hb dX7_set_13 (by decide) ?_
  refine z_callV (As := [.int 1]) (rest := []) (wc := [(q, .inr (7, [v0, v1, v2, .ref w3, v4, v5, .ref w6, .int (nI n), v8, v9, v10, v11, v12, v13, v14, v15]))]) (wr := [(w3, .inl (G.2 1, 121, .inl (flt h b))), (w6, .inl (G.2 1, 1694, .inl D))]) (w1 := [(q, .inr (7, [.int 1, v1, v2, .ref w3, v4, v5, .ref w6, .int (nI n), v8, v9, v10, v11, v12, v13, v14, v15]))]) (ws' := [(q, .inr (7, [.int 1, v1, v2, .ref w3, v4, v5, .ref w6, .int (nI n), v8, v9, v10, v11, v12, v13, v14, v15])), (w3, .inl (G.2 1, 121, .inl (flt h b))), (w6, .inl (G.2 1, 1694, .inl D))]) ⟨hx, hb, hml, hown, hts⟩ (c_refused l G q v0 v1 v2 (.ref w3) v4 v5 (.ref w6) (.int (nI n)) v8 v9 v10 v11 v12 v13 v14 v15 1) (cwV 1 hts gX7_set_X7_refused rfl rfl rfl (by decide +kernel) ⟨Nat.le_of_ble_eq_true rfl, Nat.le_of_ble_eq_true rfl⟩) 7 rfl rfl rfl rfl hl.1 rfl (Nat.le_of_ble_eq_true rfl) dX7_set_14 ⟨Nat.le_of_ble_eq_true rfl, Nat.le_of_ble_eq_true rfl⟩ hK hE hA hM (pm_at 3 [0] [1, 2] rfl rfl rfl (by decide)) ((pm_at 3 [0] [1, 2] rfl rfl rfl (by decide))).symm (fun H locs hM hz => ?_)
  refine z_ifeq (tgt := 22) hx hb dX7_set_17 (by decide) (fun c_2 => absurd c_2 (by decide)) (fun c_2 => ?_)
  refine lv_iconst (v := 0) hx hb dX7_set_20 (by decide) ?_
  exact z_iret hx hb hr hlocks dX7_set_21 hM (Nat.le_of_ble_eq_true rfl) (Nat.le_of_ble_eq_true rfl) rfl

set_option maxHeartbeats 4000000 in
set_option maxRecDepth 100000 in
theorem c_r_set0 (l : Launch) (G : zC) (q : Nat) (v0 v1 v2 v4 v5 v8 v9 v10 v11 v12 v13 v14 v15 : Value) (w3 w6 n : Nat) (D : Nat → Int32) (h : Nat → Int32) (b : Nat → Nat → Int32) (hn14 : n ≤ 14) (j : Nat) (v : Int32) (hj : j < 3) (hc : zSet (nI j) v = true) : zMet l G yX7_set wsX7_set rmX7_set [.ref q, .int (nI j), .int v] ([(q, .inr (7, [v0, v1, v2, .ref w3, v4, v5, .ref w6, .int (nI n), v8, v9, v10, v11, v12, v13, v14, v15])), (w3, .inl (G.2 1, 121, .inl (flt h b))), (w6, .inl (G.2 1, 1694, .inl D))]) (some (.int (h (6 + j)))) ([(q, .inr (7, [.int 0, v1, v2, .ref w3, v4, v5, .ref w6, .int (nI (zrN n)), v8, v9, v10, v11, v12, v13, v14, v15])), (w3, .inl (G.2 1, 121, .inl (flt (upd h (6 + j) v) b))), (w6, .inl (G.2 1, 1694, .inl (zrD n (flt h b) D)))]) := by
  refine zMet_of (cc := cX7_set) (maxL := 4) (ret := (some .int)) (by decide) rfl (Nat.le_of_ble_eq_true rfl) ?_
  intro p e s m below meth c A ls hx hb hr hml hown hts hK hA hE hlocks hin hM hl
  have hown : s.vm.findClass RX7 = some m.cls := hown
  have hM : zM G A s s.heap [] ([(q, .inr (7, [v0, v1, v2, .ref w3, v4, v5, .ref w6, .int (nI n), v8, v9, v10, v11, v12, v13, v14, v15])), (w3, .inl (G.2 1, 121, .inl (flt h b))), (w6, .inl (G.2 1, 1694, .inl D))]) := hM
  have hl : lv_has ls 4 [(0, .ref q), (1, .int (nI j)), (2, .int v)] := hl
  refine lv_aload_n hx hb dX7_set_0 rfl (lv_at hl 0 rfl) ?_
  refine lv_iload_n hx hb dX7_set_1 rfl (lv_at hl 1 rfl) ?_
  refine lv_iload_n hx hb dX7_set_2 rfl (lv_at hl 2 rfl) ?_
  refine z_callS (As := [.int (nI j), .int v]) (rest := [.ref q]) (wc := []) (wr := [(q, .inr (7, [v0, v1, v2, .ref w3, v4, v5, .ref w6, .int (nI n), v8, v9, v10, v11, v12, v13, v14, v15])), (w3, .inl (G.2 1, 121, .inl (flt h b))), (w6, .inl (G.2 1, 1694, .inl D))]) (w1 := []) (ws' := [(q, .inr (7, [v0, v1, v2, .ref w3, v4, v5, .ref w6, .int (nI n), v8, v9, v10, v11, v12, v13, v14, v15])), (w3, .inl (G.2 1, 121, .inl (flt h b))), (w6, .inl (G.2 1, 1694, .inl D))]) ⟨hx, hb, hml, hown, hts⟩ (c_r_isSetting l G (nI j) v) (va_cwS 2 hts gX7_set_X7_isSetting rfl rfl rfl (by decide +kernel) ⟨Nat.le_of_ble_eq_true rfl, Nat.le_of_ble_eq_true rfl⟩) rfl hl.1 rfl (Nat.le_of_ble_eq_true rfl) dX7_set_3 ⟨Nat.le_of_ble_eq_true rfl, Nat.le_of_ble_eq_true rfl⟩ hK hE hA hM (List.Perm.refl _) (List.Perm.refl _) (fun H locs hM hz => ?_)
  refine z_ifeq (tgt := 13) hx hb dX7_set_6 (by decide) (fun c_1 => Bool.noConfusion (hc.symm.trans c_1)) (fun c_1 => ?_)
  refine lv_iconst (v := 0) hx hb dX7_set_9 (by decide) ?_
  refine lv_goto (tgt := 14) hx hb dX7_set_10 (by decide) ?_
  refine z_callV (As := [.int 0]) (rest := []) (wc := [(q, .inr (7, [v0, v1, v2, .ref w3, v4, v5, .ref w6, .int (nI n), v8, v9, v10, v11, v12, v13, v14, v15]))]) (wr := [(w3, .inl (G.2 1, 121, .inl (flt h b))), (w6, .inl (G.2 1, 1694, .inl D))]) (w1 := [(q, .inr (7, [.int 0, v1, v2, .ref w3, v4, v5, .ref w6, .int (nI n), v8, v9, v10, v11, v12, v13, v14, v15]))]) (ws' := [(q, .inr (7, [.int 0, v1, v2, .ref w3, v4, v5, .ref w6, .int (nI n), v8, v9, v10, v11, v12, v13, v14, v15])), (w3, .inl (G.2 1, 121, .inl (flt h b))), (w6, .inl (G.2 1, 1694, .inl D))]) ⟨hx, hb, hml, hown, hts⟩ (c_refused l G q v0 v1 v2 (.ref w3) v4 v5 (.ref w6) (.int (nI n)) v8 v9 v10 v11 v12 v13 v14 v15 0) (cwV 1 hts gX7_set_X7_refused rfl rfl rfl (by decide +kernel) ⟨Nat.le_of_ble_eq_true rfl, Nat.le_of_ble_eq_true rfl⟩) 7 rfl rfl rfl rfl hl.1 rfl (Nat.le_of_ble_eq_true rfl) dX7_set_14 ⟨Nat.le_of_ble_eq_true rfl, Nat.le_of_ble_eq_true rfl⟩ hK hE hA hM (pm_at 3 [0] [1, 2] rfl rfl rfl (by decide)) ((pm_at 3 [0] [1, 2] rfl rfl rfl (by decide))).symm (fun H locs hM hz => ?_)
  refine z_ifeq (tgt := 22) hx hb dX7_set_17 (by decide) (fun c_2 => ?_) (fun c_2 => absurd c_2 (by decide))
  refine lv_aload_n hx hb dX7_set_22 rfl (lv_at hl 0 rfl) ?_
  refine z_callV (As := []) (rest := []) (wc := [(q, .inr (7, [.int 0, v1, v2, .ref w3, v4, v5, .ref w6, .int (nI n), v8, v9, v10, v11, v12, v13, v14, v15])), (w3, .inl (G.2 1, 121, .inl (flt h b))), (w6, .inl (G.2 1, 1694, .inl D))]) (wr := []) (w1 := [(q, .inr (7, [.int 0, v1, v2, .ref w3, v4, v5, .ref w6, .int (nI (zrN n)), v8, v9, v10, v11, v12, v13, v14, v15])), (w3, .inl (G.2 1, 121, .inl (flt h b))), (w6, .inl (G.2 1, 1694, .inl (zrD n (flt h b) D)))]) (ws' := [(q, .inr (7, [.int 0, v1, v2, .ref w3, v4, v5, .ref w6, .int (nI (zrN n)), v8, v9, v10, v11, v12, v13, v14, v15])), (w3, .inl (G.2 1, 121, .inl (flt h b))), (w6, .inl (G.2 1, 1694, .inl (zrD n (flt h b) D)))]) ⟨hx, hb, hml, hown, hts⟩ (c_remember l G q (.int 0) v1 v2 v4 v5 v8 v9 v10 v11 v12 v13 v14 v15 w3 w6 h b n D hn14) (cwV 0 hts gX7_set_X7_remember rfl rfl rfl (by decide +kernel) ⟨Nat.le_of_ble_eq_true rfl, Nat.le_of_ble_eq_true rfl⟩) 7 rfl rfl rfl rfl hl.1 rfl (Nat.le_of_ble_eq_true rfl) dX7_set_23 ⟨Nat.le_of_ble_eq_true rfl, Nat.le_of_ble_eq_true rfl⟩ hK hE hA hM (pm_at 3 [0, 1, 2] [] rfl rfl rfl (by decide)) ((pm_at 3 [0, 1, 2] [] rfl rfl rfl (by decide))).symm (fun H locs hM hz => ?_)
  refine lv_aload_n hx hb dX7_set_26 rfl (lv_at hl 0 rfl) ?_
  refine z_get (ci := 7) (v := .ref w3) (C := RX7) (T := TX7) (N := 16) hx hb hts (by decide +kernel) hown hK hM 0 rfl rfl 3 (by decide) (hts (.fieldLink RX7 13 "ShiftIslesModel" "now" "[I") (by decide +kernel)) (fun _ h9 => h9) rfl dX7_set_27 ?_
  refine lv_bipush (v := 6) hx hb dX7_set_30 (by decide) ?_
  refine lv_iload_n hx hb dX7_set_32 rfl (lv_at hl 1 rfl) ?_
  refine lv_iadd hx hb dX7_set_33 ?_
  refine z_topi (y := nI (6 + j)) (nI_add 6 j) ?_
  refine z_iald hx hb hK hM 1 rfl (v := h (6 + j)) (vp_in_nI (by omega) (by decide)) (by rw [nI_clamp (by omega)]; exact flt_h (by omega)) dX7_set_34 ?_
  refine lv_istore_n (lv' := [(3, .int (h (6 + j))), (0, .ref q), (1, .int (nI j)), (2, .int v)]) hx hb dX7_set_35 rfl hl (by decide) rfl (fun ls hl => ?_)
  refine lv_aload_n hx hb dX7_set_36 rfl (lv_at hl 1 rfl) ?_
  refine z_get (ci := 7) (v := .ref w3) (C := RX7) (T := TX7) (N := 16) hx hb hts (by decide +kernel) hown hK hM 0 rfl rfl 3 (by decide) (hts (.fieldLink RX7 13 "ShiftIslesModel" "now" "[I") (by decide +kernel)) (fun _ h9 => h9) rfl dX7_set_37 ?_
  refine lv_bipush (v := 6) hx hb dX7_set_40 (by decide) ?_
  refine lv_iload_n hx hb dX7_set_42 rfl (lv_at hl 2 rfl) ?_
  refine lv_iadd hx hb dX7_set_43 ?_
  refine z_topi (y := nI (6 + j)) (nI_add 6 j) ?_
  refine lv_iload_n hx hb dX7_set_44 rfl (lv_at hl 3 rfl) ?_
  refine z_iast (ws' := [(q, .inr (7, [.int 0, v1, v2, .ref w3, v4, v5, .ref w6, .int (nI (zrN n)), v8, v9, v10, v11, v12, v13, v14, v15])), (w3, .inl (G.2 1, 121, .inl (flt (upd h (6 + j) v) b))), (w6, .inl (G.2 1, 1694, .inl (zrD n (flt h b) D)))]) hx hb hK hM 1 rfl (vp_in_nI (by omega) (by decide)) dX7_set_45 (by rw [show (nI (6 + j) : Int32).toNatClampNeg = (6 + j) from nI_clamp (by omega), flt_uh (by omega)]; rfl) (fun H locs hM => ?_)
  refine lv_iload_n hx hb dX7_set_46 rfl (lv_at hl 0 rfl) ?_
  exact z_iret hx hb hr hlocks dX7_set_47 hM (Nat.le_of_ble_eq_true rfl) (Nat.le_of_ble_eq_true rfl) rfl

set_option maxHeartbeats 4000000 in
set_option maxRecDepth 100000 in
theorem c_r_begin1 (l : Launch) (G : zC) (q : Nat) (v0 v1 v2 v4 v5 v8 v9 v10 v11 v12 v14 v15 : Value) (w3 w6 n : Nat) (D : Nat → Int32) (h : Nat → Int32) (b : Nat → Nat → Int32) (hn14 : n ≤ 14) (x0 x : Int64) (k : Int32) (hc : zI0 k.toInt64 2 4 = false) : zMet l G yX7_begin wsX7_begin rmX7_begin [.ref q, .int k, .long x] ([(q, .inr (7, [v0, v1, v2, .ref w3, v4, v5, .ref w6, .int (nI n), v8, v9, v10, v11, v12, .long x0, v14, v15])), (w3, .inl (G.2 1, 121, .inl (flt h b))), (w6, .inl (G.2 1, 1694, .inl D))]) (some (.int 0)) ([(q, .inr (7, [.int 1, v1, v2, .ref w3, v4, v5, .ref w6, .int (nI n), v8, v9, v10, v11, v12, .long x0, v14, v15])), (w3, .inl (G.2 1, 121, .inl (flt h b))), (w6, .inl (G.2 1, 1694, .inl D))]) := by
  refine zMet_of (cc := cX7_begin) (maxL := 4) (ret := (some .int)) (by decide) rfl (Nat.le_of_ble_eq_true rfl) ?_
  intro p e s m below meth c A ls hx hb hr hml hown hts hK hA hE hlocks hin hM hl
  have hown : s.vm.findClass RX7 = some m.cls := hown
  have hM : zM G A s s.heap [] ([(q, .inr (7, [v0, v1, v2, .ref w3, v4, v5, .ref w6, .int (nI n), v8, v9, v10, v11, v12, .long x0, v14, v15])), (w3, .inl (G.2 1, 121, .inl (flt h b))), (w6, .inl (G.2 1, 1694, .inl D))]) := hM
  have hl : lv_has ls 4 [(0, .ref q), (1, .int k), (2, .long x)] := hl
  refine lv_aload_n hx hb dX7_begin_0 rfl (lv_at hl 0 rfl) ?_
  refine lv_iload_n hx hb dX7_begin_1 rfl (lv_at hl 1 rfl) ?_
  refine lv_i2l (v := k.toInt64) hx hb dX7_begin_2 rfl ?_
  refine lv_ldc2 (v := 2) hx hb hown (hts (.constantLong RX7 152 2) (by decide +kernel)) dX7_begin_3 ?_
  refine lv_ldc2 (v := 4) hx hb hown (hts (.constantLong RX7 209 4) (by decide +kernel)) dX7_begin_6 ?_
  refine z_callS (As := [.long k.toInt64, .long 2, .long 4]) (rest := [.ref q]) (wc := []) (wr := [(q, .inr (7, [v0, v1, v2, .ref w3, v4, v5, .ref w6, .int (nI n), v8, v9, v10, v11, v12, .long x0, v14, v15])), (w3, .inl (G.2 1, 121, .inl (flt h b))), (w6, .inl (G.2 1, 1694, .inl D))]) (w1 := []) (ws' := [(q, .inr (7, [v0, v1, v2, .ref w3, v4, v5, .ref w6, .int (nI n), v8, v9, v10, v11, v12, .long x0, v14, v15])), (w3, .inl (G.2 1, 121, .inl (flt h b))), (w6, .inl (G.2 1, 1694, .inl D))]) ⟨hx, hb, hml, hown, hts⟩ (c_in l G k.toInt64 2 4) (va_cwS 3 hts gX7_begin_X7_in rfl rfl rfl (by decide +kernel) ⟨Nat.le_of_ble_eq_true rfl, Nat.le_of_ble_eq_true rfl⟩) rfl hl.1 rfl (Nat.le_of_ble_eq_true rfl) dX7_begin_9 ⟨Nat.le_of_ble_eq_true rfl, Nat.le_of_ble_eq_true rfl⟩ hK hE hA hM (List.Perm.refl _) (List.Perm.refl _) (fun H locs hM hz => ?_)
  refine z_ifeq (tgt := 19) hx hb dX7_begin_12 (by decide) (fun c_1 => ?_) (fun c_1 => Bool.noConfusion (c_1.symm.trans hc))
  refine lv_iconst (v := 1) hx hb dX7_begin_19 (by decide) ?_
  refine z_callV (As := [.int 1]) (rest := []) (wc := [(q, .inr (7, [v0, v1, v2, .ref w3, v4, v5, .ref w6, .int (nI n), v8, v9, v10, v11, v12, .long x0, v14, v15]))]) (wr := [(w3, .inl (G.2 1, 121, .inl (flt h b))), (w6, .inl (G.2 1, 1694, .inl D))]) (w1 := [(q, .inr (7, [.int 1, v1, v2, .ref w3, v4, v5, .ref w6, .int (nI n), v8, v9, v10, v11, v12, .long x0, v14, v15]))]) (ws' := [(q, .inr (7, [.int 1, v1, v2, .ref w3, v4, v5, .ref w6, .int (nI n), v8, v9, v10, v11, v12, .long x0, v14, v15])), (w3, .inl (G.2 1, 121, .inl (flt h b))), (w6, .inl (G.2 1, 1694, .inl D))]) ⟨hx, hb, hml, hown, hts⟩ (c_refused l G q v0 v1 v2 (.ref w3) v4 v5 (.ref w6) (.int (nI n)) v8 v9 v10 v11 v12 (.long x0) v14 v15 1) (cwV 1 hts gX7_begin_X7_refused rfl rfl rfl (by decide +kernel) ⟨Nat.le_of_ble_eq_true rfl, Nat.le_of_ble_eq_true rfl⟩) 7 rfl rfl rfl rfl hl.1 rfl (Nat.le_of_ble_eq_true rfl) dX7_begin_20 ⟨Nat.le_of_ble_eq_true rfl, Nat.le_of_ble_eq_true rfl⟩ hK hE hA hM (pm_at 3 [0] [1, 2] rfl rfl rfl (by decide)) ((pm_at 3 [0] [1, 2] rfl rfl rfl (by decide))).symm (fun H locs hM hz => ?_)
  refine z_ifeq (tgt := 28) hx hb dX7_begin_23 (by decide) (fun c_2 => absurd c_2 (by decide)) (fun c_2 => ?_)
  refine lv_iconst (v := 0) hx hb dX7_begin_26 (by decide) ?_
  exact z_iret hx hb hr hlocks dX7_begin_27 hM (Nat.le_of_ble_eq_true rfl) (Nat.le_of_ble_eq_true rfl) rfl

set_option maxHeartbeats 4000000 in
set_option maxRecDepth 100000 in
theorem c_r_begin0 (l : Launch) (G : zC) (q : Nat) (v0 v1 v2 v4 v5 v8 v9 v10 v11 v12 v14 v15 : Value) (w3 w6 n : Nat) (D : Nat → Int32) (h : Nat → Int32) (b : Nat → Nat → Int32) (hn14 : n ≤ 14) (x0 x : Int64) (j : Nat) (hj2 : 2 ≤ j) (hj4 : j ≤ 4) (hc : zI0 (nI j).toInt64 2 4 = true) : zMet l G yX7_begin wsX7_begin rmX7_begin [.ref q, .int (nI j), .long x] ([(q, .inr (7, [v0, v1, v2, .ref w3, v4, v5, .ref w6, .int (nI n), v8, v9, v10, v11, v12, .long x0, v14, v15])), (w3, .inl (G.2 1, 121, .inl (flt h b))), (w6, .inl (G.2 1, 1694, .inl D))]) (some (.int (zSo (zBb j (zBg j x b).2 0)))) ([(q, .inr (7, [.int 0, v1, v2, .ref w3, v4, v5, .ref w6, .int (nI (zrN n)), v8, v9, v10, v11, v12, .long ((zBg j x b).1), v14, v15])), (w3, .inl (G.2 1, 121, .inl (flt (zGdH h j) (zBb j (zBg j x b).2)))), (w6, .inl (G.2 1, 1694, .inl (zrD n (flt h b) D)))]) := by
  refine zMet_of (cc := cX7_begin) (maxL := 4) (ret := (some .int)) (by decide) rfl (Nat.le_of_ble_eq_true rfl) ?_
  intro p e s m below meth c A ls hx hb hr hml hown hts hK hA hE hlocks hin hM hl
  have hown : s.vm.findClass RX7 = some m.cls := hown
  have hM : zM G A s s.heap [] ([(q, .inr (7, [v0, v1, v2, .ref w3, v4, v5, .ref w6, .int (nI n), v8, v9, v10, v11, v12, .long x0, v14, v15])), (w3, .inl (G.2 1, 121, .inl (flt h b))), (w6, .inl (G.2 1, 1694, .inl D))]) := hM
  have hl : lv_has ls 4 [(0, .ref q), (1, .int (nI j)), (2, .long x)] := hl
  refine lv_aload_n hx hb dX7_begin_0 rfl (lv_at hl 0 rfl) ?_
  refine lv_iload_n hx hb dX7_begin_1 rfl (lv_at hl 1 rfl) ?_
  refine lv_i2l (v := (nI j).toInt64) hx hb dX7_begin_2 rfl ?_
  refine lv_ldc2 (v := 2) hx hb hown (hts (.constantLong RX7 152 2) (by decide +kernel)) dX7_begin_3 ?_
  refine lv_ldc2 (v := 4) hx hb hown (hts (.constantLong RX7 209 4) (by decide +kernel)) dX7_begin_6 ?_
  refine z_callS (As := [.long ((nI j).toInt64), .long 2, .long 4]) (rest := [.ref q]) (wc := []) (wr := [(q, .inr (7, [v0, v1, v2, .ref w3, v4, v5, .ref w6, .int (nI n), v8, v9, v10, v11, v12, .long x0, v14, v15])), (w3, .inl (G.2 1, 121, .inl (flt h b))), (w6, .inl (G.2 1, 1694, .inl D))]) (w1 := []) (ws' := [(q, .inr (7, [v0, v1, v2, .ref w3, v4, v5, .ref w6, .int (nI n), v8, v9, v10, v11, v12, .long x0, v14, v15])), (w3, .inl (G.2 1, 121, .inl (flt h b))), (w6, .inl (G.2 1, 1694, .inl D))]) ⟨hx, hb, hml, hown, hts⟩ (c_in l G ((nI j).toInt64) 2 4) (va_cwS 3 hts gX7_begin_X7_in rfl rfl rfl (by decide +kernel) ⟨Nat.le_of_ble_eq_true rfl, Nat.le_of_ble_eq_true rfl⟩) rfl hl.1 rfl (Nat.le_of_ble_eq_true rfl) dX7_begin_9 ⟨Nat.le_of_ble_eq_true rfl, Nat.le_of_ble_eq_true rfl⟩ hK hE hA hM (List.Perm.refl _) (List.Perm.refl _) (fun H locs hM hz => ?_)
  refine z_ifeq (tgt := 19) hx hb dX7_begin_12 (by decide) (fun c_1 => Bool.noConfusion (hc.symm.trans c_1)) (fun c_1 => ?_)
  refine lv_iconst (v := 0) hx hb dX7_begin_15 (by decide) ?_
  refine lv_goto (tgt := 20) hx hb dX7_begin_16 (by decide) ?_
  refine z_callV (As := [.int 0]) (rest := []) (wc := [(q, .inr (7, [v0, v1, v2, .ref w3, v4, v5, .ref w6, .int (nI n), v8, v9, v10, v11, v12, .long x0, v14, v15]))]) (wr := [(w3, .inl (G.2 1, 121, .inl (flt h b))), (w6, .inl (G.2 1, 1694, .inl D))]) (w1 := [(q, .inr (7, [.int 0, v1, v2, .ref w3, v4, v5, .ref w6, .int (nI n), v8, v9, v10, v11, v12, .long x0, v14, v15]))]) (ws' := [(q, .inr (7, [.int 0, v1, v2, .ref w3, v4, v5, .ref w6, .int (nI n), v8, v9, v10, v11, v12, .long x0, v14, v15])), (w3, .inl (G.2 1, 121, .inl (flt h b))), (w6, .inl (G.2 1, 1694, .inl D))]) ⟨hx, hb, hml, hown, hts⟩ (c_refused l G q v0 v1 v2 (.ref w3) v4 v5 (.ref w6) (.int (nI n)) v8 v9 v10 v11 v12 (.long x0) v14 v15 0) (cwV 1 hts gX7_begin_X7_refused rfl rfl rfl (by decide +kernel) ⟨Nat.le_of_ble_eq_true rfl, Nat.le_of_ble_eq_true rfl⟩) 7 rfl rfl rfl rfl hl.1 rfl (Nat.le_of_ble_eq_true rfl) dX7_begin_20 ⟨Nat.le_of_ble_eq_true rfl, Nat.le_of_ble_eq_true rfl⟩ hK hE hA hM (pm_at 3 [0] [1, 2] rfl rfl rfl (by decide)) ((pm_at 3 [0] [1, 2] rfl rfl rfl (by decide))).symm (fun H locs hM hz => ?_)
  refine z_ifeq (tgt := 28) hx hb dX7_begin_23 (by decide) (fun c_2 => ?_) (fun c_2 => absurd c_2 (by decide))
  refine lv_aload_n hx hb dX7_begin_28 rfl (lv_at hl 0 rfl) ?_
  refine z_callV (As := []) (rest := []) (wc := [(q, .inr (7, [.int 0, v1, v2, .ref w3, v4, v5, .ref w6, .int (nI n), v8, v9, v10, v11, v12, .long x0, v14, v15])), (w3, .inl (G.2 1, 121, .inl (flt h b))), (w6, .inl (G.2 1, 1694, .inl D))]) (wr := []) (w1 := [(q, .inr (7, [.int 0, v1, v2, .ref w3, v4, v5, .ref w6, .int (nI (zrN n)), v8, v9, v10, v11, v12, .long x0, v14, v15])), (w3, .inl (G.2 1, 121, .inl (flt h b))), (w6, .inl (G.2 1, 1694, .inl (zrD n (flt h b) D)))]) (ws' := [(q, .inr (7, [.int 0, v1, v2, .ref w3, v4, v5, .ref w6, .int (nI (zrN n)), v8, v9, v10, v11, v12, .long x0, v14, v15])), (w3, .inl (G.2 1, 121, .inl (flt h b))), (w6, .inl (G.2 1, 1694, .inl (zrD n (flt h b) D)))]) ⟨hx, hb, hml, hown, hts⟩ (c_remember l G q (.int 0) v1 v2 v4 v5 v8 v9 v10 v11 v12 (.long x0) v14 v15 w3 w6 h b n D hn14) (cwV 0 hts gX7_begin_X7_remember rfl rfl rfl (by decide +kernel) ⟨Nat.le_of_ble_eq_true rfl, Nat.le_of_ble_eq_true rfl⟩) 7 rfl rfl rfl rfl hl.1 rfl (Nat.le_of_ble_eq_true rfl) dX7_begin_29 ⟨Nat.le_of_ble_eq_true rfl, Nat.le_of_ble_eq_true rfl⟩ hK hE hA hM (pm_at 3 [0, 1, 2] [] rfl rfl rfl (by decide)) ((pm_at 3 [0, 1, 2] [] rfl rfl rfl (by decide))).symm (fun H locs hM hz => ?_)
  refine lv_aload_n hx hb dX7_begin_32 rfl (lv_at hl 0 rfl) ?_
  refine lv_aload_n hx hb dX7_begin_33 rfl (lv_at hl 0 rfl) ?_
  refine z_get (ci := 7) (v := .ref w3) (C := RX7) (T := TX7) (N := 16) hx hb hts (by decide +kernel) hown hK hM 0 rfl rfl 3 (by decide) (hts (.fieldLink RX7 13 "ShiftIslesModel" "now" "[I") (by decide +kernel)) (fun _ h9 => h9) rfl dX7_begin_34 ?_
  refine lv_iload_n hx hb dX7_begin_37 rfl (lv_at hl 1 rfl) ?_
  refine lv_lload_n hx hb dX7_begin_38 rfl (lv_at hl 2 rfl) ?_
  refine z_callV (As := [.ref w3, .int (nI j), .long x]) (rest := []) (wc := [(q, .inr (7, [.int 0, v1, v2, .ref w3, v4, v5, .ref w6, .int (nI (zrN n)), v8, v9, v10, v11, v12, .long x0, v14, v15])), (w3, .inl (G.2 1, 121, .inl (flt h b)))]) (wr := [(w6, .inl (G.2 1, 1694, .inl (zrD n (flt h b) D)))]) (w1 := [(q, .inr (7, [.int 0, v1, v2, .ref w3, v4, v5, .ref w6, .int (nI (zrN n)), v8, v9, v10, v11, v12, .long ((zBg j x b).1), v14, v15])), (w3, .inl (G.2 1, 121, .inl (flt (zGdH h j) (zBb j (zBg j x b).2))))]) (ws' := [(q, .inr (7, [.int 0, v1, v2, .ref w3, v4, v5, .ref w6, .int (nI (zrN n)), v8, v9, v10, v11, v12, .long ((zBg j x b).1), v14, v15])), (w3, .inl (G.2 1, 121, .inl (flt (zGdH h j) (zBb j (zBg j x b).2)))), (w6, .inl (G.2 1, 1694, .inl (zrD n (flt h b) D)))]) ⟨hx, hb, hml, hown, hts⟩ (c_beginOn l G q (.int 0) v1 v2 (.ref w3) v4 v5 (.ref w6) (.int (nI (zrN n))) v8 v9 v10 v11 v12 v14 v15 x0 x w3 j h b (by omega) hj4) (cwV 3 hts gX7_begin_X7_beginOn rfl rfl rfl (by decide +kernel) ⟨Nat.le_of_ble_eq_true rfl, Nat.le_of_ble_eq_true rfl⟩) 7 rfl rfl rfl rfl hl.1 rfl (Nat.le_of_ble_eq_true rfl) dX7_begin_39 ⟨Nat.le_of_ble_eq_true rfl, Nat.le_of_ble_eq_true rfl⟩ hK hE hA hM (pm_at 3 [0, 1] [2] rfl rfl rfl (by decide)) ((pm_at 3 [0, 1] [2] rfl rfl rfl (by decide))).symm (fun H locs hM hz => ?_)
  exact z_iret hx hb hr hlocks dX7_begin_42 hM (Nat.le_of_ble_eq_true rfl) (Nat.le_of_ble_eq_true rfl) rfl

set_option maxHeartbeats 4000000 in
set_option maxRecDepth 100000 in
theorem c_r_save1 (l : Launch) (G : zC) (q : Nat) (v0 v1 v2 v4 v5 v6 v7 v10 v11 v12 v13 v14 v15 : Value) (w3 w8 w9 : Nat) (Q K : Nat → Int32) (h : Nat → Int32) (b : Nat → Nat → Int32) (k : Int32) (hc : zI0 k.toInt64 0 1 = false) : zMet l G yX7_save wsX7_save rmX7_save [.ref q, .int k] ([(q, .inr (7, [v0, v1, v2, .ref w3, v4, v5, v6, v7, .ref w8, .ref w9, v10, v11, v12, v13, v14, v15])), (w3, .inl (G.2 1, 121, .inl (flt h b))), (w8, .inl (G.2 1, 242, .inl Q)), (w9, .inl (G.2 2, 2, .inl K))]) (some (.int 0)) ([(q, .inr (7, [.int 1, v1, v2, .ref w3, v4, v5, v6, v7, .ref w8, .ref w9, v10, v11, v12, v13, v14, v15])), (w3, .inl (G.2 1, 121, .inl (flt h b))), (w8, .inl (G.2 1, 242, .inl Q)), (w9, .inl (G.2 2, 2, .inl K))]) := by
  refine zMet_of (cc := cX7_save) (maxL := 2) (ret := (some .int)) (by decide) rfl (Nat.le_of_ble_eq_true rfl) ?_
  intro p e s m below meth c A ls hx hb hr hml hown hts hK hA hE hlocks hin hM hl
  have hown : s.vm.findClass RX7 = some m.cls := hown
  have hM : zM G A s s.heap [] ([(q, .inr (7, [v0, v1, v2, .ref w3, v4, v5, v6, v7, .ref w8, .ref w9, v10, v11, v12, v13, v14, v15])), (w3, .inl (G.2 1, 121, .inl (flt h b))), (w8, .inl (G.2 1, 242, .inl Q)), (w9, .inl (G.2 2, 2, .inl K))]) := hM
  have hl : lv_has ls 2 [(0, .ref q), (1, .int k)] := hl
  refine lv_aload_n hx hb dX7_save_0 rfl (lv_at hl 0 rfl) ?_
  refine lv_iload_n hx hb dX7_save_1 rfl (lv_at hl 1 rfl) ?_
  refine lv_i2l (v := k.toInt64) hx hb dX7_save_2 rfl ?_
  refine lv_lconst (v := 0) hx hb dX7_save_3 (by decide) ?_
  refine lv_lconst (v := 1) hx hb dX7_save_4 (by decide) ?_
  refine z_callS (As := [.long k.toInt64, .long 0, .long 1]) (rest := [.ref q]) (wc := []) (wr := [(q, .inr (7, [v0, v1, v2, .ref w3, v4, v5, v6, v7, .ref w8, .ref w9, v10, v11, v12, v13, v14, v15])), (w3, .inl (G.2 1, 121, .inl (flt h b))), (w8, .inl (G.2 1, 242, .inl Q)), (w9, .inl (G.2 2, 2, .inl K))]) (w1 := []) (ws' := [(q, .inr (7, [v0, v1, v2, .ref w3, v4, v5, v6, v7, .ref w8, .ref w9, v10, v11, v12, v13, v14, v15])), (w3, .inl (G.2 1, 121, .inl (flt h b))), (w8, .inl (G.2 1, 242, .inl Q)), (w9, .inl (G.2 2, 2, .inl K))]) ⟨hx, hb, hml, hown, hts⟩ (c_in l G k.toInt64 0 1) (va_cwS 3 hts gX7_save_X7_in rfl rfl rfl (by decide +kernel) ⟨Nat.le_of_ble_eq_true rfl, Nat.le_of_ble_eq_true rfl⟩) rfl hl.1 rfl (Nat.le_of_ble_eq_true rfl) dX7_save_5 ⟨Nat.le_of_ble_eq_true rfl, Nat.le_of_ble_eq_true rfl⟩ hK hE hA hM (List.Perm.refl _) (List.Perm.refl _) (fun H locs hM hz => ?_)
  refine z_ifeq (tgt := 15) hx hb dX7_save_8 (by decide) (fun c_1 => ?_) (fun c_1 => Bool.noConfusion (c_1.symm.trans hc))
  refine lv_iconst (v := 1) hx hb dX7_save_15 (by decide) ?_
  refine z_callV (As := [.int 1]) (rest := []) (wc := [(q, .inr (7, [v0, v1, v2, .ref w3, v4, v5, v6, v7, .ref w8, .ref w9, v10, v11, v12, v13, v14, v15]))]) (wr := [(w3, .inl (G.2 1, 121, .inl (flt h b))), (w8, .inl (G.2 1, 242, .inl Q)), (w9, .inl (G.2 2, 2, .inl K))]) (w1 := [(q, .inr (7, [.int 1, v1, v2, .ref w3, v4, v5, v6, v7, .ref w8, .ref w9, v10, v11, v12, v13, v14, v15]))]) (ws' := [(q, .inr (7, [.int 1, v1, v2, .ref w3, v4, v5, v6, v7, .ref w8, .ref w9, v10, v11, v12, v13, v14, v15])), (w3, .inl (G.2 1, 121, .inl (flt h b))), (w8, .inl (G.2 1, 242, .inl Q)), (w9, .inl (G.2 2, 2, .inl K))]) ⟨hx, hb, hml, hown, hts⟩ (c_refused l G q v0 v1 v2 (.ref w3) v4 v5 v6 v7 (.ref w8) (.ref w9) v10 v11 v12 v13 v14 v15 1) (cwV 1 hts gX7_save_X7_refused rfl rfl rfl (by decide +kernel) ⟨Nat.le_of_ble_eq_true rfl, Nat.le_of_ble_eq_true rfl⟩) 7 rfl rfl rfl rfl hl.1 rfl (Nat.le_of_ble_eq_true rfl) dX7_save_16 ⟨Nat.le_of_ble_eq_true rfl, Nat.le_of_ble_eq_true rfl⟩ hK hE hA hM (pm_at 4 [0] [1, 2, 3] rfl rfl rfl (by decide)) ((pm_at 4 [0] [1, 2, 3] rfl rfl rfl (by decide))).symm (fun H locs hM hz => ?_)
  refine z_ifeq (tgt := 24) hx hb dX7_save_19 (by decide) (fun c_2 => absurd c_2 (by decide)) (fun c_2 => ?_)
  refine lv_iconst (v := 0) hx hb dX7_save_22 (by decide) ?_
  exact z_iret hx hb hr hlocks dX7_save_23 hM (Nat.le_of_ble_eq_true rfl) (Nat.le_of_ble_eq_true rfl) rfl

set_option maxHeartbeats 4000000 in
set_option maxRecDepth 100000 in
theorem c_r_save0 (l : Launch) (G : zC) (q : Nat) (v0 v1 v2 v4 v5 v6 v7 v10 v11 v12 v13 v14 v15 : Value) (w3 w8 w9 : Nat) (Q K : Nat → Int32) (h : Nat → Int32) (b : Nat → Nat → Int32) (j : Nat) (hj : j < 2) (hc : zI0 (nI j).toInt64 0 1 = true) : zMet l G yX7_save wsX7_save rmX7_save [.ref q, .int (nI j)] ([(q, .inr (7, [v0, v1, v2, .ref w3, v4, v5, v6, v7, .ref w8, .ref w9, v10, v11, v12, v13, v14, v15])), (w3, .inl (G.2 1, 121, .inl (flt h b))), (w8, .inl (G.2 1, 242, .inl Q)), (w9, .inl (G.2 2, 2, .inl K))]) (some (.int (h 0))) ([(q, .inr (7, [.int 0, v1, v2, .ref w3, v4, v5, v6, v7, .ref w8, .ref w9, v10, v11, v12, v13, v14, v15])), (w3, .inl (G.2 1, 121, .inl (flt h b))), (w8, .inl (G.2 1, 242, .inl (cpv (flt h b) Q 0 (121 * j) 121))), (w9, .inl (G.2 2, 2, .inl (upd K j 1)))]) := by
  refine zMet_of (cc := cX7_save) (maxL := 2) (ret := (some .int)) (by decide) rfl (Nat.le_of_ble_eq_true rfl) ?_
  intro p e s m below meth c A ls hx hb hr hml hown hts hK hA hE hlocks hin hM hl
  have hown : s.vm.findClass RX7 = some m.cls := hown
  have hM : zM G A s s.heap [] ([(q, .inr (7, [v0, v1, v2, .ref w3, v4, v5, v6, v7, .ref w8, .ref w9, v10, v11, v12, v13, v14, v15])), (w3, .inl (G.2 1, 121, .inl (flt h b))), (w8, .inl (G.2 1, 242, .inl Q)), (w9, .inl (G.2 2, 2, .inl K))]) := hM
  have hl : lv_has ls 2 [(0, .ref q), (1, .int (nI j))] := hl
  refine lv_aload_n hx hb dX7_save_0 rfl (lv_at hl 0 rfl) ?_
  refine lv_iload_n hx hb dX7_save_1 rfl (lv_at hl 1 rfl) ?_
  refine lv_i2l (v := (nI j).toInt64) hx hb dX7_save_2 rfl ?_
  refine lv_lconst (v := 0) hx hb dX7_save_3 (by decide) ?_
  refine lv_lconst (v := 1) hx hb dX7_save_4 (by decide) ?_
  refine z_callS (As := [.long ((nI j).toInt64), .long 0, .long 1]) (rest := [.ref q]) (wc := []) (wr := [(q, .inr (7, [v0, v1, v2, .ref w3, v4, v5, v6, v7, .ref w8, .ref w9, v10, v11, v12, v13, v14, v15])), (w3, .inl (G.2 1, 121, .inl (flt h b))), (w8, .inl (G.2 1, 242, .inl Q)), (w9, .inl (G.2 2, 2, .inl K))]) (w1 := []) (ws' := [(q, .inr (7, [v0, v1, v2, .ref w3, v4, v5, v6, v7, .ref w8, .ref w9, v10, v11, v12, v13, v14, v15])), (w3, .inl (G.2 1, 121, .inl (flt h b))), (w8, .inl (G.2 1, 242, .inl Q)), (w9, .inl (G.2 2, 2, .inl K))]) ⟨hx, hb, hml, hown, hts⟩ (c_in l G ((nI j).toInt64) 0 1) (va_cwS 3 hts gX7_save_X7_in rfl rfl rfl (by decide +kernel) ⟨Nat.le_of_ble_eq_true rfl, Nat.le_of_ble_eq_true rfl⟩) rfl hl.1 rfl (Nat.le_of_ble_eq_true rfl) dX7_save_5 ⟨Nat.le_of_ble_eq_true rfl, Nat.le_of_ble_eq_true rfl⟩ hK hE hA hM (List.Perm.refl _) (List.Perm.refl _) (fun H locs hM hz => ?_)
  refine z_ifeq (tgt := 15) hx hb dX7_save_8 (by decide) (fun c_1 => Bool.noConfusion (hc.symm.trans c_1)) (fun c_1 => ?_)
  refine lv_iconst (v := 0) hx hb dX7_save_11 (by decide) ?_
  refine lv_goto (tgt := 16) hx hb dX7_save_12 (by decide) ?_
  refine z_callV (As := [.int 0]) (rest := []) (wc := [(q, .inr (7, [v0, v1, v2, .ref w3, v4, v5, v6, v7, .ref w8, .ref w9, v10, v11, v12, v13, v14, v15]))]) (wr := [(w3, .inl (G.2 1, 121, .inl (flt h b))), (w8, .inl (G.2 1, 242, .inl Q)), (w9, .inl (G.2 2, 2, .inl K))]) (w1 := [(q, .inr (7, [.int 0, v1, v2, .ref w3, v4, v5, v6, v7, .ref w8, .ref w9, v10, v11, v12, v13, v14, v15]))]) (ws' := [(q, .inr (7, [.int 0, v1, v2, .ref w3, v4, v5, v6, v7, .ref w8, .ref w9, v10, v11, v12, v13, v14, v15])), (w3, .inl (G.2 1, 121, .inl (flt h b))), (w8, .inl (G.2 1, 242, .inl Q)), (w9, .inl (G.2 2, 2, .inl K))]) ⟨hx, hb, hml, hown, hts⟩ (c_refused l G q v0 v1 v2 (.ref w3) v4 v5 v6 v7 (.ref w8) (.ref w9) v10 v11 v12 v13 v14 v15 0) (cwV 1 hts gX7_save_X7_refused rfl rfl rfl (by decide +kernel) ⟨Nat.le_of_ble_eq_true rfl, Nat.le_of_ble_eq_true rfl⟩) 7 rfl rfl rfl rfl hl.1 rfl (Nat.le_of_ble_eq_true rfl) dX7_save_16 ⟨Nat.le_of_ble_eq_true rfl, Nat.le_of_ble_eq_true rfl⟩ hK hE hA hM (pm_at 4 [0] [1, 2, 3] rfl rfl rfl (by decide)) ((pm_at 4 [0] [1, 2, 3] rfl rfl rfl (by decide))).symm (fun H locs hM hz => ?_)
  refine z_ifeq (tgt := 24) hx hb dX7_save_19 (by decide) (fun c_2 => ?_) (fun c_2 => absurd c_2 (by decide))
  refine lv_aload_n hx hb dX7_save_24 rfl (lv_at hl 0 rfl) ?_
  refine z_get (ci := 7) (v := .ref w3) (C := RX7) (T := TX7) (N := 16) hx hb hts (by decide +kernel) hown hK hM 0 rfl rfl 3 (by decide) (hts (.fieldLink RX7 13 "ShiftIslesModel" "now" "[I") (by decide +kernel)) (fun _ h9 => h9) rfl dX7_save_25 ?_
  refine lv_iconst (v := nI 0) hx hb dX7_save_28 (by decide) ?_
  refine lv_aload_n hx hb dX7_save_29 rfl (lv_at hl 0 rfl) ?_
  refine z_get (ci := 7) (v := .ref w8) (C := RX7) (T := TX7) (N := 16) hx hb hts (by decide +kernel) hown hK hM 0 rfl rfl 8 (by decide) (hts (.fieldLink RX7 25 "ShiftIslesModel" "kept" "[I") (by decide +kernel)) (fun _ h9 => h9) rfl dX7_save_30 ?_
  refine lv_bipush (v := 121) hx hb dX7_save_33 (by decide) ?_
  refine lv_iload_n hx hb dX7_save_35 rfl (lv_at hl 1 rfl) ?_
  refine lv_imul hx hb dX7_save_36 ?_
  refine z_topi (y := nI (121 * j)) (pk_mul 121 j) ?_
  refine z_callS (As := [.ref w3, .int (nI 0), .ref w8, .int (nI (121 * j))]) (rest := []) (wc := [(w3, .inl (G.2 1, 121, .inl (flt h b))), (w8, .inl (G.2 1, 242, .inl Q))]) (wr := [(q, .inr (7, [.int 0, v1, v2, .ref w3, v4, v5, v6, v7, .ref w8, .ref w9, v10, v11, v12, v13, v14, v15])), (w9, .inl (G.2 2, 2, .inl K))]) (w1 := [(w3, .inl (G.2 1, 121, .inl (flt h b))), (w8, .inl (G.2 1, 242, .inl (cpv (flt h b) Q 0 (121 * j) 121)))]) (ws' := [(q, .inr (7, [.int 0, v1, v2, .ref w3, v4, v5, v6, v7, .ref w8, .ref w9, v10, v11, v12, v13, v14, v15])), (w3, .inl (G.2 1, 121, .inl (flt h b))), (w8, .inl (G.2 1, 242, .inl (cpv (flt h b) Q 0 (121 * j) 121))), (w9, .inl (G.2 2, 2, .inl K))]) ⟨hx, hb, hml, hown, hts⟩ (c_copyState l G w3 w8 121 242 0 (121 * j) (flt h b) Q (by omega) (by omega) (by decide) (by decide)) (va_cwS 4 hts gX7_save_X7_copyState rfl rfl rfl (by decide +kernel) ⟨Nat.le_of_ble_eq_true rfl, Nat.le_of_ble_eq_true rfl⟩) rfl hl.1 rfl (Nat.le_of_ble_eq_true rfl) dX7_save_37 ⟨Nat.le_of_ble_eq_true rfl, Nat.le_of_ble_eq_true rfl⟩ hK hE hA hM (pm_at 4 [1, 2] [0, 3] rfl rfl rfl (by decide)) ((pm_at 4 [1, 2] [0, 3] rfl rfl rfl (by decide))).symm (fun H locs hM hz => ?_)
  refine lv_aload_n hx hb dX7_save_40 rfl (lv_at hl 0 rfl) ?_
  refine z_get (ci := 7) (v := .ref w9) (C := RX7) (T := TX7) (N := 16) hx hb hts (by decide +kernel) hown hK hM 0 rfl rfl 9 (by decide) (hts (.fieldLink RX7 28 "ShiftIslesModel" "isKept" "[Z") (by decide +kernel)) (fun _ h9 => h9) rfl dX7_save_41 ?_
  refine lv_iload_n hx hb dX7_save_44 rfl (lv_at hl 1 rfl) ?_
  refine lv_iconst (v := 1) hx hb dX7_save_45 (by decide) ?_
  refine z_zast (ws' := [(q, .inr (7, [.int 0, v1, v2, .ref w3, v4, v5, v6, v7, .ref w8, .ref w9, v10, v11, v12, v13, v14, v15])), (w3, .inl (G.2 1, 121, .inl (flt h b))), (w8, .inl (G.2 1, 242, .inl (cpv (flt h b) Q 0 (121 * j) 121))), (w9, .inl (G.2 2, 2, .inl (upd K j 1)))]) hx hb hK hM 3 rfl (vp_in_nI (by omega) (by decide)) dX7_save_46 (by rw [nI_clamp (by omega)]; rfl) (fun H locs hM => ?_)
  refine lv_aload_n hx hb dX7_save_47 rfl (lv_at hl 0 rfl) ?_
  refine z_get (ci := 7) (v := .ref w3) (C := RX7) (T := TX7) (N := 16) hx hb hts (by decide +kernel) hown hK hM 0 rfl rfl 3 (by decide) (hts (.fieldLink RX7 13 "ShiftIslesModel" "now" "[I") (by decide +kernel)) (fun _ h9 => h9) rfl dX7_save_48 ?_
  refine lv_iconst (v := 0) hx hb dX7_save_51 (by decide) ?_
  refine z_iald hx hb hK hM 1 rfl (v := h 0) (vp_in_nI (n := 0) (by decide) (by decide)) (flt_h (k := 0) (by decide)) dX7_save_52 ?_
  exact z_iret hx hb hr hlocks dX7_save_53 hM (Nat.le_of_ble_eq_true rfl) (Nat.le_of_ble_eq_true rfl) rfl

set_option maxHeartbeats 4000000 in
set_option maxRecDepth 100000 in
theorem c_r_restore1 (l : Launch) (G : zC) (q : Nat) (v0 v1 v2 v4 v5 v6 v7 v10 v11 v12 v13 v14 v15 : Value) (w3 w8 w9 : Nat) (Q K F : Nat → Int32) (k : Int32) (hc : zI0 k.toInt64 0 1 = false) : zMet l G yX7_restore wsX7_restore rmX7_restore [.ref q, .int k] ([(q, .inr (7, [v0, v1, v2, .ref w3, v4, v5, v6, v7, .ref w8, .ref w9, v10, v11, v12, v13, v14, v15])), (w3, .inl (G.2 1, 121, .inl F)), (w8, .inl (G.2 1, 242, .inl Q)), (w9, .inl (G.2 2, 2, .inl K))]) (some (.int 0)) ([(q, .inr (7, [.int 1, v1, v2, .ref w3, v4, v5, v6, v7, .ref w8, .ref w9, v10, v11, v12, v13, v14, v15])), (w3, .inl (G.2 1, 121, .inl F)), (w8, .inl (G.2 1, 242, .inl Q)), (w9, .inl (G.2 2, 2, .inl K))]) := by
  refine zMet_of (cc := cX7_restore) (maxL := 2) (ret := (some .int)) (by decide) rfl (Nat.le_of_ble_eq_true rfl) ?_
  intro p e s m below meth c A ls hx hb hr hml hown hts hK hA hE hlocks hin hM hl
  have hown : s.vm.findClass RX7 = some m.cls := hown
  have hM : zM G A s s.heap [] ([(q, .inr (7, [v0, v1, v2, .ref w3, v4, v5, v6, v7, .ref w8, .ref w9, v10, v11, v12, v13, v14, v15])), (w3, .inl (G.2 1, 121, .inl F)), (w8, .inl (G.2 1, 242, .inl Q)), (w9, .inl (G.2 2, 2, .inl K))]) := hM
  have hl : lv_has ls 2 [(0, .ref q), (1, .int k)] := hl
  refine lv_aload_n hx hb dX7_restore_0 rfl (lv_at hl 0 rfl) ?_
  refine lv_iload_n hx hb dX7_restore_1 rfl (lv_at hl 1 rfl) ?_
  refine lv_i2l (v := k.toInt64) hx hb dX7_restore_2 rfl ?_
  refine lv_lconst (v := 0) hx hb dX7_restore_3 (by decide) ?_
  refine lv_lconst (v := 1) hx hb dX7_restore_4 (by decide) ?_
  refine z_callS (As := [.long k.toInt64, .long 0, .long 1]) (rest := [.ref q]) (wc := []) (wr := [(q, .inr (7, [v0, v1, v2, .ref w3, v4, v5, v6, v7, .ref w8, .ref w9, v10, v11, v12, v13, v14, v15])), (w3, .inl (G.2 1, 121, .inl F)), (w8, .inl (G.2 1, 242, .inl Q)), (w9, .inl (G.2 2, 2, .inl K))]) (w1 := []) (ws' := [(q, .inr (7, [v0, v1, v2, .ref w3, v4, v5, v6, v7, .ref w8, .ref w9, v10, v11, v12, v13, v14, v15])), (w3, .inl (G.2 1, 121, .inl F)), (w8, .inl (G.2 1, 242, .inl Q)), (w9, .inl (G.2 2, 2, .inl K))]) ⟨hx, hb, hml, hown, hts⟩ (c_in l G k.toInt64 0 1) (va_cwS 3 hts gX7_restore_X7_in rfl rfl rfl (by decide +kernel) ⟨Nat.le_of_ble_eq_true rfl, Nat.le_of_ble_eq_true rfl⟩) rfl hl.1 rfl (Nat.le_of_ble_eq_true rfl) dX7_restore_5 ⟨Nat.le_of_ble_eq_true rfl, Nat.le_of_ble_eq_true rfl⟩ hK hE hA hM (List.Perm.refl _) (List.Perm.refl _) (fun H locs hM hz => ?_)
  refine z_ifne (tgt := 15) hx hb dX7_restore_8 (by decide) (fun c_1 => Bool.noConfusion (c_1.symm.trans hc)) (fun c_1 => ?_)
  refine lv_iconst (v := 1) hx hb dX7_restore_11 (by decide) ?_
  refine lv_goto (tgt := 29) hx hb dX7_restore_12 (by decide) ?_
  refine z_callV (As := [.int 1]) (rest := []) (wc := [(q, .inr (7, [v0, v1, v2, .ref w3, v4, v5, v6, v7, .ref w8, .ref w9, v10, v11, v12, v13, v14, v15]))]) (wr := [(w3, .inl (G.2 1, 121, .inl F)), (w8, .inl (G.2 1, 242, .inl Q)), (w9, .inl (G.2 2, 2, .inl K))]) (w1 := [(q, .inr (7, [.int 1, v1, v2, .ref w3, v4, v5, v6, v7, .ref w8, .ref w9, v10, v11, v12, v13, v14, v15]))]) (ws' := [(q, .inr (7, [.int 1, v1, v2, .ref w3, v4, v5, v6, v7, .ref w8, .ref w9, v10, v11, v12, v13, v14, v15])), (w3, .inl (G.2 1, 121, .inl F)), (w8, .inl (G.2 1, 242, .inl Q)), (w9, .inl (G.2 2, 2, .inl K))]) ⟨hx, hb, hml, hown, hts⟩ (c_refused l G q v0 v1 v2 (.ref w3) v4 v5 v6 v7 (.ref w8) (.ref w9) v10 v11 v12 v13 v14 v15 1) (cwV 1 hts gX7_restore_X7_refused rfl rfl rfl (by decide +kernel) ⟨Nat.le_of_ble_eq_true rfl, Nat.le_of_ble_eq_true rfl⟩) 7 rfl rfl rfl rfl hl.1 rfl (Nat.le_of_ble_eq_true rfl) dX7_restore_29 ⟨Nat.le_of_ble_eq_true rfl, Nat.le_of_ble_eq_true rfl⟩ hK hE hA hM (pm_at 4 [0] [1, 2, 3] rfl rfl rfl (by decide)) ((pm_at 4 [0] [1, 2, 3] rfl rfl rfl (by decide))).symm (fun H locs hM hz => ?_)
  refine z_ifeq (tgt := 37) hx hb dX7_restore_32 (by decide) (fun c_2 => absurd c_2 (by decide)) (fun c_2 => ?_)
  refine lv_iconst (v := 0) hx hb dX7_restore_35 (by decide) ?_
  exact z_iret hx hb hr hlocks dX7_restore_36 hM (Nat.le_of_ble_eq_true rfl) (Nat.le_of_ble_eq_true rfl) rfl

set_option maxHeartbeats 4000000 in
set_option maxRecDepth 100000 in
theorem c_r_restore2 (l : Launch) (G : zC) (q : Nat) (v0 v1 v2 v4 v5 v6 v7 v10 v11 v12 v13 v14 v15 : Value) (w3 w8 w9 : Nat) (Q K F : Nat → Int32) (j : Nat) (hj : j < 2) (hc : zI0 (nI j).toInt64 0 1 = true) (hk : K j = 0) : zMet l G yX7_restore wsX7_restore rmX7_restore [.ref q, .int (nI j)] ([(q, .inr (7, [v0, v1, v2, .ref w3, v4, v5, v6, v7, .ref w8, .ref w9, v10, v11, v12, v13, v14, v15])), (w3, .inl (G.2 1, 121, .inl F)), (w8, .inl (G.2 1, 242, .inl Q)), (w9, .inl (G.2 2, 2, .inl K))]) (some (.int 0)) ([(q, .inr (7, [.int 2, v1, v2, .ref w3, v4, v5, v6, v7, .ref w8, .ref w9, v10, v11, v12, v13, v14, v15])), (w3, .inl (G.2 1, 121, .inl F)), (w8, .inl (G.2 1, 242, .inl Q)), (w9, .inl (G.2 2, 2, .inl K))]) := by
  refine zMet_of (cc := cX7_restore) (maxL := 2) (ret := (some .int)) (by decide) rfl (Nat.le_of_ble_eq_true rfl) ?_
  intro p e s m below meth c A ls hx hb hr hml hown hts hK hA hE hlocks hin hM hl
  have hown : s.vm.findClass RX7 = some m.cls := hown
  have hM : zM G A s s.heap [] ([(q, .inr (7, [v0, v1, v2, .ref w3, v4, v5, v6, v7, .ref w8, .ref w9, v10, v11, v12, v13, v14, v15])), (w3, .inl (G.2 1, 121, .inl F)), (w8, .inl (G.2 1, 242, .inl Q)), (w9, .inl (G.2 2, 2, .inl K))]) := hM
  have hl : lv_has ls 2 [(0, .ref q), (1, .int (nI j))] := hl
  refine lv_aload_n hx hb dX7_restore_0 rfl (lv_at hl 0 rfl) ?_
  refine lv_iload_n hx hb dX7_restore_1 rfl (lv_at hl 1 rfl) ?_
  refine lv_i2l (v := (nI j).toInt64) hx hb dX7_restore_2 rfl ?_
  refine lv_lconst (v := 0) hx hb dX7_restore_3 (by decide) ?_
  refine lv_lconst (v := 1) hx hb dX7_restore_4 (by decide) ?_
  refine z_callS (As := [.long ((nI j).toInt64), .long 0, .long 1]) (rest := [.ref q]) (wc := []) (wr := [(q, .inr (7, [v0, v1, v2, .ref w3, v4, v5, v6, v7, .ref w8, .ref w9, v10, v11, v12, v13, v14, v15])), (w3, .inl (G.2 1, 121, .inl F)), (w8, .inl (G.2 1, 242, .inl Q)), (w9, .inl (G.2 2, 2, .inl K))]) (w1 := []) (ws' := [(q, .inr (7, [v0, v1, v2, .ref w3, v4, v5, v6, v7, .ref w8, .ref w9, v10, v11, v12, v13, v14, v15])), (w3, .inl (G.2 1, 121, .inl F)), (w8, .inl (G.2 1, 242, .inl Q)), (w9, .inl (G.2 2, 2, .inl K))]) ⟨hx, hb, hml, hown, hts⟩ (c_in l G ((nI j).toInt64) 0 1) (va_cwS 3 hts gX7_restore_X7_in rfl rfl rfl (by decide +kernel) ⟨Nat.le_of_ble_eq_true rfl, Nat.le_of_ble_eq_true rfl⟩) rfl hl.1 rfl (Nat.le_of_ble_eq_true rfl) dX7_restore_5 ⟨Nat.le_of_ble_eq_true rfl, Nat.le_of_ble_eq_true rfl⟩ hK hE hA hM (List.Perm.refl _) (List.Perm.refl _) (fun H locs hM hz => ?_)
  refine z_ifne (tgt := 15) hx hb dX7_restore_8 (by decide) (fun c_1 => ?_) (fun c_1 => Bool.noConfusion (hc.symm.trans c_1))
  refine lv_aload_n hx hb dX7_restore_15 rfl (lv_at hl 0 rfl) ?_
  refine z_get (ci := 7) (v := .ref w9) (C := RX7) (T := TX7) (N := 16) hx hb hts (by decide +kernel) hown hK hM 0 rfl rfl 9 (by decide) (hts (.fieldLink RX7 28 "ShiftIslesModel" "isKept" "[Z") (by decide +kernel)) (fun _ h9 => h9) rfl dX7_restore_16 ?_
  refine lv_iload_n hx hb dX7_restore_19 rfl (lv_at hl 1 rfl) ?_
  refine z_zald hx hb hK hM 3 rfl (v := K j) (vp_in_nI (by omega) (by decide)) (by rw [nI_clamp (by omega)]) dX7_restore_20 ?_
  refine lv_if_ne (tgt := 28) hx hb dX7_restore_21 (by decide) (fun c_2 => absurd hk c_2) (fun c_2 => ?_)
  refine lv_iconst (v := 2) hx hb dX7_restore_24 (by decide) ?_
  refine lv_goto (tgt := 29) hx hb dX7_restore_25 (by decide) ?_
  refine z_callV (As := [.int 2]) (rest := []) (wc := [(q, .inr (7, [v0, v1, v2, .ref w3, v4, v5, v6, v7, .ref w8, .ref w9, v10, v11, v12, v13, v14, v15]))]) (wr := [(w3, .inl (G.2 1, 121, .inl F)), (w8, .inl (G.2 1, 242, .inl Q)), (w9, .inl (G.2 2, 2, .inl K))]) (w1 := [(q, .inr (7, [.int 2, v1, v2, .ref w3, v4, v5, v6, v7, .ref w8, .ref w9, v10, v11, v12, v13, v14, v15]))]) (ws' := [(q, .inr (7, [.int 2, v1, v2, .ref w3, v4, v5, v6, v7, .ref w8, .ref w9, v10, v11, v12, v13, v14, v15])), (w3, .inl (G.2 1, 121, .inl F)), (w8, .inl (G.2 1, 242, .inl Q)), (w9, .inl (G.2 2, 2, .inl K))]) ⟨hx, hb, hml, hown, hts⟩ (c_refused l G q v0 v1 v2 (.ref w3) v4 v5 v6 v7 (.ref w8) (.ref w9) v10 v11 v12 v13 v14 v15 2) (cwV 1 hts gX7_restore_X7_refused rfl rfl rfl (by decide +kernel) ⟨Nat.le_of_ble_eq_true rfl, Nat.le_of_ble_eq_true rfl⟩) 7 rfl rfl rfl rfl hl.1 rfl (Nat.le_of_ble_eq_true rfl) dX7_restore_29 ⟨Nat.le_of_ble_eq_true rfl, Nat.le_of_ble_eq_true rfl⟩ hK hE hA hM (pm_at 4 [0] [1, 2, 3] rfl rfl rfl (by decide)) ((pm_at 4 [0] [1, 2, 3] rfl rfl rfl (by decide))).symm (fun H locs hM hz => ?_)
  refine z_ifeq (tgt := 37) hx hb dX7_restore_32 (by decide) (fun c_3 => absurd c_3 (by decide)) (fun c_3 => ?_)
  refine lv_iconst (v := 0) hx hb dX7_restore_35 (by decide) ?_
  exact z_iret hx hb hr hlocks dX7_restore_36 hM (Nat.le_of_ble_eq_true rfl) (Nat.le_of_ble_eq_true rfl) rfl

set_option maxHeartbeats 4000000 in
set_option maxRecDepth 100000 in
theorem c_r_restore0 (l : Launch) (G : zC) (q : Nat) (v0 v1 v2 v4 v5 v6 v7 v10 v11 v12 v13 v14 v15 : Value) (w3 w8 w9 : Nat) (Q K F : Nat → Int32) (j : Nat) (hj : j < 2) (hc : zI0 (nI j).toInt64 0 1 = true) (hk : ¬ K j = 0) : zMet l G yX7_restore wsX7_restore rmX7_restore [.ref q, .int (nI j)] ([(q, .inr (7, [v0, v1, v2, .ref w3, v4, v5, v6, v7, .ref w8, .ref w9, v10, v11, v12, v13, v14, v15])), (w3, .inl (G.2 1, 121, .inl F)), (w8, .inl (G.2 1, 242, .inl Q)), (w9, .inl (G.2 2, 2, .inl K))]) (some (.int (cpv Q F (121 * j) 0 121 0))) ([(q, .inr (7, [.int 0, v1, v2, .ref w3, v4, v5, v6, .int (nI 0), .ref w8, .ref w9, v10, v11, v12, v13, v14, v15])), (w3, .inl (G.2 1, 121, .inl (cpv Q F (121 * j) 0 121))), (w8, .inl (G.2 1, 242, .inl Q)), (w9, .inl (G.2 2, 2, .inl K))]) := by
  refine zMet_of (cc := cX7_restore) (maxL := 2) (ret := (some .int)) (by decide) rfl (Nat.le_of_ble_eq_true rfl) ?_
  intro p e s m below meth c A ls hx hb hr hml hown hts hK hA hE hlocks hin hM hl
  have hown : s.vm.findClass RX7 = some m.cls := hown
  have hM : zM G A s s.heap [] ([(q, .inr (7, [v0, v1, v2, .ref w3, v4, v5, v6, v7, .ref w8, .ref w9, v10, v11, v12, v13, v14, v15])), (w3, .inl (G.2 1, 121, .inl F)), (w8, .inl (G.2 1, 242, .inl Q)), (w9, .inl (G.2 2, 2, .inl K))]) := hM
  have hl : lv_has ls 2 [(0, .ref q), (1, .int (nI j))] := hl
  refine lv_aload_n hx hb dX7_restore_0 rfl (lv_at hl 0 rfl) ?_
  refine lv_iload_n hx hb dX7_restore_1 rfl (lv_at hl 1 rfl) ?_
  refine lv_i2l (v := (nI j).toInt64) hx hb dX7_restore_2 rfl ?_
  refine lv_lconst (v := 0) hx hb dX7_restore_3 (by decide) ?_
  refine lv_lconst (v := 1) hx hb dX7_restore_4 (by decide) ?_
  refine z_callS (As := [.long ((nI j).toInt64), .long 0, .long 1]) (rest := [.ref q]) (wc := []) (wr := [(q, .inr (7, [v0, v1, v2, .ref w3, v4, v5, v6, v7, .ref w8, .ref w9, v10, v11, v12, v13, v14, v15])), (w3, .inl (G.2 1, 121, .inl F)), (w8, .inl (G.2 1, 242, .inl Q)), (w9, .inl (G.2 2, 2, .inl K))]) (w1 := []) (ws' := [(q, .inr (7, [v0, v1, v2, .ref w3, v4, v5, v6, v7, .ref w8, .ref w9, v10, v11, v12, v13, v14, v15])), (w3, .inl (G.2 1, 121, .inl F)), (w8, .inl (G.2 1, 242, .inl Q)), (w9, .inl (G.2 2, 2, .inl K))]) ⟨hx, hb, hml, hown, hts⟩ (c_in l G ((nI j).toInt64) 0 1) (va_cwS 3 hts gX7_restore_X7_in rfl rfl rfl (by decide +kernel) ⟨Nat.le_of_ble_eq_true rfl, Nat.le_of_ble_eq_true rfl⟩) rfl hl.1 rfl (Nat.le_of_ble_eq_true rfl) dX7_restore_5 ⟨Nat.le_of_ble_eq_true rfl, Nat.le_of_ble_eq_true rfl⟩ hK hE hA hM (List.Perm.refl _) (List.Perm.refl _) (fun H locs hM hz => ?_)
  refine z_ifne (tgt := 15) hx hb dX7_restore_8 (by decide) (fun c_1 => ?_) (fun c_1 => Bool.noConfusion (hc.symm.trans c_1))
  refine lv_aload_n hx hb dX7_restore_15 rfl (lv_at hl 0 rfl) ?_
  refine z_get (ci := 7) (v := .ref w9) (C := RX7) (T := TX7) (N := 16) hx hb hts (by decide +kernel) hown hK hM 0 rfl rfl 9 (by decide) (hts (.fieldLink RX7 28 "ShiftIslesModel" "isKept" "[Z") (by decide +kernel)) (fun _ h9 => h9) rfl dX7_restore_16 ?_
  refine lv_iload_n hx hb dX7_restore_19 rfl (lv_at hl 1 rfl) ?_
  refine z_zald hx hb hK hM 3 rfl (v := K j) (vp_in_nI (by omega) (by decide)) (by rw [nI_clamp (by omega)]) dX7_restore_20 ?_
  refine lv_if_ne (tgt := 28) hx hb dX7_restore_21 (by decide) (fun c_2 => ?_) (fun c_2 => absurd c_2 hk)
  refine lv_iconst (v := 0) hx hb dX7_restore_28 (by decide) ?_
  refine z_callV (As := [.int 0]) (rest := []) (wc := [(q, .inr (7, [v0, v1, v2, .ref w3, v4, v5, v6, v7, .ref w8, .ref w9, v10, v11, v12, v13, v14, v15]))]) (wr := [(w3, .inl (G.2 1, 121, .inl F)), (w8, .inl (G.2 1, 242, .inl Q)), (w9, .inl (G.2 2, 2, .inl K))]) (w1 := [(q, .inr (7, [.int 0, v1, v2, .ref w3, v4, v5, v6, v7, .ref w8, .ref w9, v10, v11, v12, v13, v14, v15]))]) (ws' := [(q, .inr (7, [.int 0, v1, v2, .ref w3, v4, v5, v6, v7, .ref w8, .ref w9, v10, v11, v12, v13, v14, v15])), (w3, .inl (G.2 1, 121, .inl F)), (w8, .inl (G.2 1, 242, .inl Q)), (w9, .inl (G.2 2, 2, .inl K))]) ⟨hx, hb, hml, hown, hts⟩ (c_refused l G q v0 v1 v2 (.ref w3) v4 v5 v6 v7 (.ref w8) (.ref w9) v10 v11 v12 v13 v14 v15 0) (cwV 1 hts gX7_restore_X7_refused rfl rfl rfl (by decide +kernel) ⟨Nat.le_of_ble_eq_true rfl, Nat.le_of_ble_eq_true rfl⟩) 7 rfl rfl rfl rfl hl.1 rfl (Nat.le_of_ble_eq_true rfl) dX7_restore_29 ⟨Nat.le_of_ble_eq_true rfl, Nat.le_of_ble_eq_true rfl⟩ hK hE hA hM (pm_at 4 [0] [1, 2, 3] rfl rfl rfl (by decide)) ((pm_at 4 [0] [1, 2, 3] rfl rfl rfl (by decide))).symm (fun H locs hM hz => ?_)
  refine z_ifeq (tgt := 37) hx hb dX7_restore_32 (by decide) (fun c_3 => ?_) (fun c_3 => absurd c_3 (by decide))
  refine lv_aload_n hx hb dX7_restore_37 rfl (lv_at hl 0 rfl) ?_
  refine z_get (ci := 7) (v := .ref w8) (C := RX7) (T := TX7) (N := 16) hx hb hts (by decide +kernel) hown hK hM 0 rfl rfl 8 (by decide) (hts (.fieldLink RX7 25 "ShiftIslesModel" "kept" "[I") (by decide +kernel)) (fun _ h9 => h9) rfl dX7_restore_38 ?_
  refine lv_bipush (v := 121) hx hb dX7_restore_41 (by decide) ?_
  refine lv_iload_n hx hb dX7_restore_43 rfl (lv_at hl 1 rfl) ?_
  refine lv_imul hx hb dX7_restore_44 ?_
  refine z_topi (y := nI (121 * j)) (pk_mul 121 j) ?_
  refine lv_aload_n hx hb dX7_restore_45 rfl (lv_at hl 0 rfl) ?_
  refine z_get (ci := 7) (v := .ref w3) (C := RX7) (T := TX7) (N := 16) hx hb hts (by decide +kernel) hown hK hM 0 rfl rfl 3 (by decide) (hts (.fieldLink RX7 13 "ShiftIslesModel" "now" "[I") (by decide +kernel)) (fun _ h9 => h9) rfl dX7_restore_46 ?_
  refine lv_iconst (v := nI 0) hx hb dX7_restore_49 (by decide) ?_
  refine z_callS (As := [.ref w8, .int (nI (121 * j)), .ref w3, .int (nI 0)]) (rest := []) (wc := [(w8, .inl (G.2 1, 242, .inl Q)), (w3, .inl (G.2 1, 121, .inl F))]) (wr := [(q, .inr (7, [.int 0, v1, v2, .ref w3, v4, v5, v6, v7, .ref w8, .ref w9, v10, v11, v12, v13, v14, v15])), (w9, .inl (G.2 2, 2, .inl K))]) (w1 := [(w8, .inl (G.2 1, 242, .inl Q)), (w3, .inl (G.2 1, 121, .inl (cpv Q F (121 * j) 0 121)))]) (ws' := [(q, .inr (7, [.int 0, v1, v2, .ref w3, v4, v5, v6, v7, .ref w8, .ref w9, v10, v11, v12, v13, v14, v15])), (w3, .inl (G.2 1, 121, .inl (cpv Q F (121 * j) 0 121))), (w8, .inl (G.2 1, 242, .inl Q)), (w9, .inl (G.2 2, 2, .inl K))]) ⟨hx, hb, hml, hown, hts⟩ (c_copyState l G w8 w3 242 121 (121 * j) 0 Q F (by omega) (by omega) (by decide) (by decide)) (va_cwS 4 hts gX7_restore_X7_copyState rfl rfl rfl (by decide +kernel) ⟨Nat.le_of_ble_eq_true rfl, Nat.le_of_ble_eq_true rfl⟩) rfl hl.1 rfl (Nat.le_of_ble_eq_true rfl) dX7_restore_50 ⟨Nat.le_of_ble_eq_true rfl, Nat.le_of_ble_eq_true rfl⟩ hK hE hA hM (pm_at 4 [2, 1] [0, 3] rfl rfl rfl (by decide)) ((pm_at 4 [2, 1] [0, 3] rfl rfl rfl (by decide))).symm (fun H locs hM hz => ?_)
  refine lv_aload_n hx hb dX7_restore_53 rfl (lv_at hl 0 rfl) ?_
  refine lv_iconst (v := nI 0) hx hb dX7_restore_54 (by decide) ?_
  refine z_put (ci := 7) (ty := .int) (v := .int (nI 0)) (C := RX7) (T := TX7) (N := 16) (ws' := [(q, .inr (7, [.int 0, v1, v2, .ref w3, v4, v5, v6, .int (nI 0), .ref w8, .ref w9, v10, v11, v12, v13, v14, v15])), (w3, .inl (G.2 1, 121, .inl (cpv Q F (121 * j) 0 121))), (w8, .inl (G.2 1, 242, .inl Q)), (w9, .inl (G.2 2, 2, .inl K))]) hx hb hts (by decide +kernel) tyX7 tyX7_ok nmX7 hown hK hM 0 rfl rfl 7 (by decide) (hts (.fieldLink RX7 203 "ShiftIslesModel" "acts" "I") (by decide +kernel)) (fun _ h9 => h9) rfl (by decide +kernel) rfl rfl (Nat.le_of_ble_eq_true rfl) dX7_restore_55 rfl (fun H locs hM => ?_)
  refine lv_aload_n hx hb dX7_restore_58 rfl (lv_at hl 0 rfl) ?_
  refine z_get (ci := 7) (v := .ref w3) (C := RX7) (T := TX7) (N := 16) hx hb hts (by decide +kernel) hown hK hM 0 rfl rfl 3 (by decide) (hts (.fieldLink RX7 13 "ShiftIslesModel" "now" "[I") (by decide +kernel)) (fun _ h9 => h9) rfl dX7_restore_59 ?_
  refine lv_iconst (v := 0) hx hb dX7_restore_62 (by decide) ?_
  refine z_iald hx hb hK hM 1 rfl (v := cpv Q F (121 * j) 0 121 0) (vp_in_nI (n := 0) (by decide) (by decide)) rfl dX7_restore_63 ?_
  exact z_iret hx hb hr hlocks dX7_restore_64 hM (Nat.le_of_ble_eq_true rfl) (Nat.le_of_ble_eq_true rfl) rfl
