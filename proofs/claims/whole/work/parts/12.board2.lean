set_option maxHeartbeats 4000000 in
set_option maxRecDepth 100000 in
theorem c_cycle (l : Launch) (G : zC) (q x y h : Nat) (t : Nat → Int32) (hxy : x + y + y < 9) (hh : h < 100) : zMet l G yX0_cycle wsX0_cycle rmX0_cycle [.ref q, .int (nI x), .int (nI y), .int (nI h)] ([(q, .inl (G.2 1, 9, .inl t))]) none ([(q, .inl (G.2 1, 9, .inl (zCyN x y h t)))]) := by
  refine zMet_of (cc := cX0_cycle) (maxL := 8) (ret := none) (by decide) rfl (Nat.le_of_ble_eq_true rfl) ?_
  intro p e s m below meth c A ls hx hb hr hml hown hts hK hA hE hlocks hin hM hl
  have hown : s.vm.findClass RX0 = some m.cls := hown
  have hM : zM G A s s.heap [] ([(q, .inl (G.2 1, 9, .inl t))]) := hM
  have hl : lv_has ls 8 [(0, .ref q), (1, .int (nI x)), (2, .int (nI y)), (3, .int (nI h))] := hl
  refine lv_iload_n hx hb dX0_cycle_0 rfl (lv_at hl 1 rfl) ?_
  refine lv_iload_n hx hb dX0_cycle_1 rfl (lv_at hl 2 rfl) ?_
  refine lv_iadd hx hb dX0_cycle_2 ?_
  rw [nI_add x y]
  refine lv_istore (lv' := [(4, .int (nI (x + y))), (0, .ref q), (1, .int (nI x)), (2, .int (nI y)), (3, .int (nI h))]) hx hb dX0_cycle_3 hl (by decide) rfl (fun ls hl => ?_)
  refine lv_iload hx hb dX0_cycle_5 (lv_at hl 0 rfl) ?_
  refine lv_iload_n hx hb dX0_cycle_7 rfl (lv_at hl 3 rfl) ?_
  refine lv_iadd hx hb dX0_cycle_8 ?_
  rw [nI_add (x + y) y]
  refine lv_istore (lv' := [(5, .int (nI ((x + y) + y))), (4, .int (nI (x + y))), (0, .ref q), (1, .int (nI x)), (2, .int (nI y)), (3, .int (nI h))]) hx hb dX0_cycle_9 hl (by decide) rfl (fun ls hl => ?_)
  refine lv_iload_n hx hb dX0_cycle_11 rfl (lv_at hl 3 rfl) ?_
  refine lv_if_lt (tgt := 45) hx hb dX0_cycle_12 (by decide) (fun c_1 => absurd c_1 (nI_pos (by omega))) (fun c_1 => ?_)
  refine lv_iload_n hx hb dX0_cycle_15 rfl (lv_at hl 3 rfl) ?_
  refine lv_aload_n hx hb dX0_cycle_16 rfl (lv_at hl 2 rfl) ?_
  refine z_alen hx hb hK hM 0 1 rfl rfl (v := nI 9) rfl dX0_cycle_17 ?_
  refine lv_icmp_ge (tgt := 45) hx hb dX0_cycle_18 (by decide) (fun c_2 => absurd c_2 (nI_ge (by omega) (by decide))) (fun c_2 => ?_)
  refine lv_iload hx hb dX0_cycle_21 (lv_at hl 1 rfl) ?_
  refine lv_if_lt (tgt := 45) hx hb dX0_cycle_23 (by decide) (fun c_3 => absurd c_3 (nI_pos (by omega))) (fun c_3 => ?_)
  refine lv_iload hx hb dX0_cycle_26 (lv_at hl 1 rfl) ?_
  refine lv_aload_n hx hb dX0_cycle_28 rfl (lv_at hl 2 rfl) ?_
  refine z_alen hx hb hK hM 0 1 rfl rfl (v := nI 9) rfl dX0_cycle_29 ?_
  refine lv_icmp_ge (tgt := 45) hx hb dX0_cycle_30 (by decide) (fun c_4 => absurd c_4 (nI_ge (by omega) (by decide))) (fun c_4 => ?_)
  refine lv_iload hx hb dX0_cycle_33 (lv_at hl 0 rfl) ?_
  refine lv_if_lt (tgt := 45) hx hb dX0_cycle_35 (by decide) (fun c_5 => absurd c_5 (nI_pos (by omega))) (fun c_5 => ?_)
  refine lv_iload hx hb dX0_cycle_38 (lv_at hl 0 rfl) ?_
  refine lv_aload_n hx hb dX0_cycle_40 rfl (lv_at hl 2 rfl) ?_
  refine z_alen hx hb hK hM 0 1 rfl rfl (v := nI 9) rfl dX0_cycle_41 ?_
  refine lv_icmp_lt (tgt := 46) hx hb dX0_cycle_42 (by decide) (fun c_6 => ?_) (fun c_6 => absurd (nI_lt (by omega) (by decide)) c_6)
  refine lv_iconst (v := nI 0) hx hb dX0_cycle_46 (by decide) ?_
  refine lv_istore (lv' := [(6, .int (nI 0)), (5, .int (nI ((x + y) + y))), (4, .int (nI (x + y))), (0, .ref q), (1, .int (nI x)), (2, .int (nI y)), (3, .int (nI h))]) hx hb dX0_cycle_47 hl (by decide) rfl (fun ls hl => ?_)
  have lp49 : ∀ (k : Nat) (i : Nat) (u : Nat → Int32), (i + k = h) → (zCyN x y h t = zCyN x y k u) → ∀ (H : Heap) (locs : List Loc), zM G A s H locs ([(q, .inl (G.2 1, 9, .inl u))]) → ∀ ls : Array Slot, lv_has ls 8 [(0, .ref q), (1, .int (nI x)), (2, .int (nI y)), (3, .int (nI h)), (4, .int (nI (x + y))), (5, .int (nI (x + y + y))), (6, .int (nI i))] → W p l e rmX0_cycle s m ([.ref q, .int (nI x), .int (nI y), .int (nI h)] : List Value).toArray below meth c H locs 0 0 (zEnd G below ([.ref q, .int (nI x), .int (nI y), .int (nI h)] : List Value).toArray s rmX0_cycle A none ([(q, .inl (G.2 1, 9, .inl (zCyN x y h t)))])) (F0 m 49 ls []) := by
    intro k
    induction k with
    | zero =>
      intro i u hik hR H locs hM ls hl
      refine lv_iload hx hb dX0_cycle_49 (lv_at hl 6 rfl) ?_
      refine lv_iload_n hx hb dX0_cycle_51 rfl (lv_at hl 3 rfl) ?_
      refine lv_icmp_ge (tgt := 87) hx hb dX0_cycle_52 (by decide) (fun c_7 => ?_) (fun c_7 => absurd (nI_le (by omega) (by omega)) c_7)
      exact z_vret hx hb hr hlocks dX0_cycle_87 (by rw [hR]; exact hM) (Nat.le_of_ble_eq_true rfl) (Nat.le_of_ble_eq_true rfl)
    | succ k ih =>
      intro i u hik hR H locs hM ls hl
      refine lv_iload hx hb dX0_cycle_49 (lv_at hl 6 rfl) ?_
      refine lv_iload_n hx hb dX0_cycle_51 rfl (lv_at hl 3 rfl) ?_
      refine lv_icmp_ge (tgt := 87) hx hb dX0_cycle_52 (by decide) (fun c_8 => absurd c_8 (nI_ge (by omega) (by omega))) (fun c_8 => ?_)
      refine lv_aload_n hx hb dX0_cycle_55 rfl (lv_at hl 0 rfl) ?_
      refine lv_iload hx hb dX0_cycle_56 (lv_at hl 5 rfl) ?_
      refine z_iald hx hb hK hM 0 rfl (v := u (x + y + y)) (vp_in_nI (by omega) (by decide)) (by rw [nI_clamp (by omega)]) dX0_cycle_58 ?_
      refine lv_istore (lv' := [(7, .int (u (x + y + y))), (0, .ref q), (1, .int (nI x)), (2, .int (nI y)), (3, .int (nI h)), (4, .int (nI (x + y))), (5, .int (nI (x + y + y))), (6, .int (nI i))]) hx hb dX0_cycle_59 hl (by decide) rfl (fun ls hl => ?_)
      refine lv_aload_n hx hb dX0_cycle_61 rfl (lv_at hl 1 rfl) ?_
      refine lv_iload hx hb dX0_cycle_62 (lv_at hl 6 rfl) ?_
      refine lv_aload_n hx hb dX0_cycle_64 rfl (lv_at hl 1 rfl) ?_
      refine lv_iload hx hb dX0_cycle_65 (lv_at hl 5 rfl) ?_
      refine z_iald hx hb hK hM 0 rfl (v := u (x + y)) (vp_in_nI (by omega) (by decide)) (by rw [nI_clamp (by omega)]) dX0_cycle_67 ?_
      refine z_iast (ws' := [(q, .inl (G.2 1, 9, .inl (upd u (x + y + y) (u (x + y)))))]) hx hb hK hM 0 rfl (vp_in_nI (by omega) (by decide)) dX0_cycle_68 (by rw [nI_clamp (by omega)]; rfl) (fun H locs hM => ?_)
      refine lv_aload_n hx hb dX0_cycle_69 rfl (lv_at hl 1 rfl) ?_
      refine lv_iload hx hb dX0_cycle_70 (lv_at hl 5 rfl) ?_
      refine lv_aload_n hx hb dX0_cycle_72 rfl (lv_at hl 1 rfl) ?_
      refine lv_iload_n hx hb dX0_cycle_73 rfl (lv_at hl 2 rfl) ?_
      refine z_iald hx hb hK hM 0 rfl (v := (upd u (x + y + y) (u (x + y))) x) (vp_in_nI (by omega) (by decide)) (by rw [nI_clamp (by omega)]) dX0_cycle_74 ?_
      refine z_iast (ws' := [(q, .inl (G.2 1, 9, .inl (upd (upd u (x + y + y) (u (x + y))) (x + y) ((upd u (x + y + y) (u (x + y))) x))))]) hx hb hK hM 0 rfl (vp_in_nI (by omega) (by decide)) dX0_cycle_75 (by rw [nI_clamp (by omega)]; rfl) (fun H locs hM => ?_)
      refine lv_aload_n hx hb dX0_cycle_76 rfl (lv_at hl 1 rfl) ?_
      refine lv_iload_n hx hb dX0_cycle_77 rfl (lv_at hl 2 rfl) ?_
      refine lv_iload hx hb dX0_cycle_78 (lv_at hl 0 rfl) ?_
      refine z_iast (ws' := [(q, .inl (G.2 1, 9, .inl (upd (upd (upd u (x + y + y) (u (x + y))) (x + y) ((upd u (x + y + y) (u (x + y))) x)) x (u (x + y + y)))))]) hx hb hK hM 0 rfl (vp_in_nI (by omega) (by decide)) dX0_cycle_80 (by rw [nI_clamp (by omega)]; rfl) (fun H locs hM => ?_)
      refine lv_iinc (v := nI (i + 1)) (lv' := [(6, .int (nI (i + 1))), (7, .int (u (x + y + y))), (0, .ref q), (1, .int (nI x)), (2, .int (nI y)), (3, .int (nI h)), (4, .int (nI (x + y))), (5, .int (nI (x + y + y)))]) hx hb dX0_cycle_81 hl (k := 7) rfl (nI_1 i) (by decide) rfl (fun ls hl => ?_)
      refine lv_goto (tgt := 49) hx hb dX0_cycle_84 (by decide) ?_
      exact ih (i + 1) (upd (upd (upd u (x + y + y) (u (x + y))) (x + y) ((upd u (x + y + y) (u (x + y))) x)) x (u (x + y + y))) (by omega) hR _ _ hM _ (lv_sub hl [2, 3, 4, 5, 6, 7, 0] rfl)
  exact lp49 h 0 t (by omega) rfl _ _ hM _ (lv_sub hl [3, 4, 5, 6, 2, 1, 0] rfl)

set_option maxHeartbeats 4000000 in
set_option maxRecDepth 100000 in
theorem c_moveShip (l : Launch) (G : zC) (b : Nat) (p1 p2 p3 : Value) (sh x23 x25 x26 x27 : Int32) (x y h : Nat) (hh : h < 100) : zMet l G yX0_moveShip wsX0_moveShip rmX0_moveShip [.ref b, .int (nI x), .int (nI y), .int (nI h)] ([(b, .inr (0, [p1, p2, p3, .int sh, .int x23, .int x25, .int x26, .int x27]))]) none ([(b, .inr (0, [p1, p2, p3, .int (zSh x y h sh 3 0), .int x23, .int x25, .int x26, .int x27]))]) := by
  refine zMet_of (cc := cX0_moveShip) (maxL := 5) (ret := none) (by decide) rfl (Nat.le_of_ble_eq_true rfl) ?_
  intro p e s m below meth c A ls hx hb hr hml hown hts hK hA hE hlocks hin hM hl
  have hown : s.vm.findClass RX0 = some m.cls := hown
  have hM : zM G A s s.heap [] ([(b, .inr (0, [p1, p2, p3, .int sh, .int x23, .int x25, .int x26, .int x27]))]) := hM
  have hl : lv_has ls 5 [(0, .ref b), (1, .int (nI x)), (2, .int (nI y)), (3, .int (nI h))] := hl
  refine lv_iconst (v := nI 0) hx hb dX0_moveShip_0 (by decide) ?_
  refine lv_istore (lv' := [(4, .int (nI 0)), (0, .ref b), (1, .int (nI x)), (2, .int (nI y)), (3, .int (nI h))]) hx hb dX0_moveShip_1 hl (by decide) rfl (fun ls hl => ?_)
  have lp3 : ∀ (k : Nat) (i : Nat), (i + k = 3) → (zSh x y h sh 3 0 = zSh x y h sh k i) → ∀ (H : Heap) (locs : List Loc), zM G A s H locs ([(b, .inr (0, [p1, p2, p3, .int sh, .int x23, .int x25, .int x26, .int x27]))]) → ∀ ls : Array Slot, lv_has ls 5 [(0, .ref b), (1, .int (nI x)), (2, .int (nI y)), (3, .int (nI h)), (4, .int (nI i))] → W p l e rmX0_moveShip s m ([.ref b, .int (nI x), .int (nI y), .int (nI h)] : List Value).toArray below meth c H locs 0 0 (zEnd G below ([.ref b, .int (nI x), .int (nI y), .int (nI h)] : List Value).toArray s rmX0_moveShip A none ([(b, .inr (0, [p1, p2, p3, .int (zSh x y h sh 3 0), .int x23, .int x25, .int x26, .int x27]))])) (F0 m 3 ls []) := by
    intro k
    induction k with
    | zero =>
      intro i hik hR H locs hM ls hl
      refine lv_iload hx hb dX0_moveShip_3 (lv_at hl 4 rfl) ?_
      refine lv_iconst (v := nI 3) hx hb dX0_moveShip_5 (by decide) ?_
      refine lv_icmp_ge (tgt := 43) hx hb dX0_moveShip_6 (by decide) (fun c_1 => ?_) (fun c_1 => absurd (nI_le (by omega) (by omega)) c_1)
      exact z_vret hx hb hr hlocks dX0_moveShip_43 (by rw [hR]; exact hM) (Nat.le_of_ble_eq_true rfl) (Nat.le_of_ble_eq_true rfl)
    | succ k ih =>
      intro i hik hR H locs hM ls hl
      refine lv_iload hx hb dX0_moveShip_3 (lv_at hl 4 rfl) ?_
      refine lv_iconst (v := nI 3) hx hb dX0_moveShip_5 (by decide) ?_
      refine lv_icmp_ge (tgt := 43) hx hb dX0_moveShip_6 (by decide) (fun c_2 => absurd c_2 (nI_ge (by omega) (by omega))) (fun c_2 => ?_)
      refine lv_aload_n hx hb dX0_moveShip_9 rfl (lv_at hl 0 rfl) ?_
      refine z_get (ci := 0) (v := .int sh) (C := RX0) (T := TX0) (N := 8) hx hb hts (by decide +kernel) hown hK hM 0 rfl rfl 3 (by decide) (hts (.fieldLink RX0 27 "ShiftIsles$Board" "ship" "I") (by decide +kernel)) (fun _ h9 => h9) rfl dX0_moveShip_10 ?_
      refine lv_iload_n hx hb dX0_moveShip_13 rfl (lv_at hl 1 rfl) ?_
      refine lv_iload hx hb dX0_moveShip_14 (lv_at hl 4 rfl) ?_
      refine lv_iload_n hx hb dX0_moveShip_16 rfl (lv_at hl 2 rfl) ?_
      refine lv_imul hx hb dX0_moveShip_17 ?_
      rw [pk_mul i y]
      refine lv_iadd hx hb dX0_moveShip_18 ?_
      rw [nI_add x (i * y)]
      refine lv_icmp_ne (tgt := 37) hx hb dX0_moveShip_19 (by decide) (fun c_3 => ?_) (fun c_3 => ?_)
      · skip
        refine lv_iinc (v := nI (i + 1)) (lv' := [(4, .int (nI (i + 1))), (0, .ref b), (1, .int (nI x)), (2, .int (nI y)), (3, .int (nI h))]) hx hb dX0_moveShip_37 hl (k := 4) rfl (nI_1 i) (by decide) rfl (fun ls hl => ?_)
        refine lv_goto (tgt := 3) hx hb dX0_moveShip_40 (by decide) ?_
        exact ih (i + 1) (by omega) (by rw [hR]; simp only [zSh, if_neg c_3]) _ _ hM _ (lv_sub hl [1, 2, 3, 4, 0] rfl)
      · skip
        refine lv_aload_n hx hb dX0_moveShip_22 rfl (lv_at hl 0 rfl) ?_
        refine lv_iload_n hx hb dX0_moveShip_23 rfl (lv_at hl 1 rfl) ?_
        refine lv_iload hx hb dX0_moveShip_24 (lv_at hl 4 rfl) ?_
        refine lv_iload_n hx hb dX0_moveShip_26 rfl (lv_at hl 3 rfl) ?_
        refine lv_iadd hx hb dX0_moveShip_27 ?_
        rw [nI_add i h]
        refine lv_iconst (v := nI 3) hx hb dX0_moveShip_28 (by decide) ?_
        refine lv_irem hx hb dX0_moveShip_29 (by decide) ?_
        rw [pk_rem (a := (i + h)) (d := 3) (by omega) (by decide) (by decide)]
        refine lv_iload_n hx hb dX0_moveShip_30 rfl (lv_at hl 2 rfl) ?_
        refine lv_imul hx hb dX0_moveShip_31 ?_
        rw [pk_mul ((i + h) % 3) y]
        refine lv_iadd hx hb dX0_moveShip_32 ?_
        rw [nI_add x (((i + h) % 3) * y)]
        refine z_put (ci := 0) (ty := .int) (v := .int (nI (x + (((i + h) % 3) * y)))) (C := RX0) (T := TX0) (N := 8) (ws' := [(b, .inr (0, [p1, p2, p3, .int (nI (x + (((i + h) % 3) * y))), .int x23, .int x25, .int x26, .int x27]))]) hx hb hts (by decide +kernel) tyX0 tyX0_ok nmX0 hown hK hM 0 rfl rfl 3 (by decide) (hts (.fieldLink RX0 27 "ShiftIsles$Board" "ship" "I") (by decide +kernel)) (fun _ h9 => h9) rfl (by decide +kernel) rfl rfl (Nat.le_of_ble_eq_true rfl) dX0_moveShip_33 rfl (fun H locs hM => ?_)
        exact z_vret hx hb hr hlocks dX0_moveShip_36 (by rw [hR]; simp only [zSh, if_pos c_3]; exact hM) (Nat.le_of_ble_eq_true rfl) (Nat.le_of_ble_eq_true rfl)
  exact lp3 3 0 rfl rfl _ _ hM _ (lv_sub hl [1, 2, 3, 4, 0] rfl)

set_option maxHeartbeats 4000000 in
set_option maxRecDepth 100000 in
theorem c_moveLine (l : Launch) (G : zC) (a : zBA) (f : Nat → Int32) (n : Nat) (d : Int32) (hn : n < 6) : zMet l G yX0_moveLine wsX0_moveLine rmX0_moveLine [.ref a.1, .int (nI n), .int d] (bdW G a f) none (bdW G a (zMv f n d)) := by
  refine zMet_of (cc := cX0_moveLine) (maxL := 6) (ret := none) (by decide) rfl (Nat.le_of_ble_eq_true rfl) ?_
  intro p e s m below meth c A ls hx hb hr hml hown hts hK hA hE hlocks hin hM hl
  have hown : s.vm.findClass RX0 = some m.cls := hown
  have hM : zM G A s s.heap [] ([(a.1, .inr (0, [.ref a.2.1, .ref a.2.2.1, .ref a.2.2.2, .int (f 24), .int (f 23), .int (f 25), .int (f 26), .int (f 27)])), (a.2.1, .inl (G.2 1, 9, .inl (fun i => f i))), (a.2.2.1, .inl (G.2 1, 9, .inl (fun i => f (9 + i)))), (a.2.2.2, .inl (G.2 1, 5, .inl (fun i => f (18 + i))))]) := hM
  have hl : lv_has ls 6 [(0, .ref a.1), (1, .int (nI n)), (2, .int d)] := hl
  refine lv_iload_n hx hb dX0_moveLine_0 rfl (lv_at hl 1 rfl) ?_
  refine z_callSN (As := [.int (nI n)]) (rest := []) (wc := []) (wr := [(a.1, .inr (0, [.ref a.2.1, .ref a.2.2.1, .ref a.2.2.2, .int (f 24), .int (f 23), .int (f 25), .int (f 26), .int (f 27)])), (a.2.1, .inl (G.2 1, 9, .inl (fun i => f i))), (a.2.2.1, .inl (G.2 1, 9, .inl (fun i => f (9 + i)))), (a.2.2.2, .inl (G.2 1, 5, .inl (fun i => f (18 + i))))]) (w1 := []) (ws' := [(a.1, .inr (0, [.ref a.2.1, .ref a.2.2.1, .ref a.2.2.2, .int (f 24), .int (f 23), .int (f 25), .int (f 26), .int (f 27)])), (a.2.1, .inl (G.2 1, 9, .inl (fun i => f i))), (a.2.2.1, .inl (G.2 1, 9, .inl (fun i => f (9 + i)))), (a.2.2.2, .inl (G.2 1, 5, .inl (fun i => f (18 + i))))]) ⟨hx, hb, hml, hown, hts⟩ (c_isLine l G (nI n)) ⟨va_cnB (host := RX6) 1 hts gX0_moveLine_X6_isLine_n64 rfl rfl rfl (hE.1.1 _ (List.mem_of_getElem? (i := 4) rfl)) (hts _ (by decide +kernel)) (by decide +kernel) ⟨Nat.le_of_ble_eq_true rfl, Nat.le_of_ble_eq_true rfl⟩, hts _ (by decide +kernel), trivial⟩ rfl hl.1 rfl (Nat.le_of_ble_eq_true rfl) dX0_moveLine_1 ⟨Nat.le_of_ble_eq_true rfl, Nat.le_of_ble_eq_true rfl⟩ hK hE hA hM (List.Perm.refl _) (List.Perm.refl _) (fun H locs hM hz => ?_)
  refine z_ifne (tgt := 8) hx hb dX0_moveLine_4 (by decide) (fun c_1 => ?_) (fun c_1 => absurd (zLi_nI hn) (by rw [c_1]; decide))
  refine lv_iload_n hx hb dX0_moveLine_8 rfl (lv_at hl 1 rfl) ?_
  refine lv_iconst (v := nI 3) hx hb dX0_moveLine_9 (by decide) ?_
  refine lv_icmp_ge (tgt := 19) hx hb dX0_moveLine_10 (by decide) (fun c_n => ?_) (fun c_n => ?_)
  · have h3 : 3 ≤ n := (nI_leI (by decide) (by omega)).mp c_n
    refine lv_iload_n hx hb dX0_moveLine_19 rfl (lv_at hl 1 rfl) ?_
    refine lv_iconst (v := nI 3) hx hb dX0_moveLine_20 (by decide) ?_
    refine lv_isub hx hb dX0_moveLine_21 ?_
    rw [pk_sub (a := n) (b := 3) (by omega)]
    refine lv_istore_n (lv' := [(3, .int (nI (n - 3))), (0, .ref a.1), (1, .int (nI n)), (2, .int d)]) hx hb dX0_moveLine_22 rfl hl (by decide) rfl (fun ls hl => ?_)
    refine lv_iload_n hx hb dX0_moveLine_23 rfl (lv_at hl 2 rfl) ?_
    refine lv_iconst (v := nI 3) hx hb dX0_moveLine_24 (by decide) ?_
    refine lv_icmp_ge (tgt := 32) hx hb dX0_moveLine_25 (by decide) (fun c_2 => ?_) (fun c_2 => absurd c_n c_2)
    refine lv_iconst (v := nI 3) hx hb dX0_moveLine_32 (by decide) ?_
    refine lv_istore (lv' := [(4, .int (nI 3)), (3, .int (nI (n - 3))), (0, .ref a.1), (1, .int (nI n)), (2, .int d)]) hx hb dX0_moveLine_33 hl (by decide) rfl (fun ls hl => ?_)
    refine lv_iload_n hx hb dX0_moveLine_35 rfl (lv_at hl 4 rfl) ?_
    refine lv_iconst (v := 1) hx hb dX0_moveLine_36 (by decide) ?_
    refine lv_icmp_ne (tgt := 44) hx hb dX0_moveLine_37 (by decide) (fun c_d => ?_) (fun c_d => ?_)
    · skip
      refine lv_iconst (v := nI 2) hx hb dX0_moveLine_44 (by decide) ?_
      refine lv_istore (lv' := [(5, .int (nI 2)), (4, .int (nI 3)), (3, .int (nI (n - 3))), (0, .ref a.1), (1, .int (nI n)), (2, .int d)]) hx hb dX0_moveLine_45 hl (by decide) rfl (fun ls hl => ?_)
      refine lv_aload_n hx hb dX0_moveLine_47 rfl (lv_at hl 3 rfl) ?_
      refine z_get (ci := 0) (v := .ref a.2.1) (C := RX0) (T := TX0) (N := 8) hx hb hts (by decide +kernel) hown hK hM 0 rfl rfl 0 (by decide) (hts (.fieldLink RX0 9 "ShiftIsles$Board" "openings" "[I") (by decide +kernel)) (fun _ h9 => h9) rfl dX0_moveLine_48 ?_
      refine lv_iload_n hx hb dX0_moveLine_51 rfl (lv_at hl 2 rfl) ?_
      refine lv_iload hx hb dX0_moveLine_52 (lv_at hl 1 rfl) ?_
      refine lv_iload hx hb dX0_moveLine_54 (lv_at hl 0 rfl) ?_
      refine z_callS (As := [.ref a.2.1, .int (nI (n - 3)), .int (nI 3), .int (nI 2)]) (rest := []) (wc := [(a.2.1, .inl (G.2 1, 9, .inl (fun i => f i)))]) (wr := [(a.1, .inr (0, [.ref a.2.1, .ref a.2.2.1, .ref a.2.2.2, .int (f 24), .int (f 23), .int (f 25), .int (f 26), .int (f 27)])), (a.2.2.1, .inl (G.2 1, 9, .inl (fun i => f (9 + i)))), (a.2.2.2, .inl (G.2 1, 5, .inl (fun i => f (18 + i))))]) (w1 := [(a.2.1, .inl (G.2 1, 9, .inl (zCyN (n - 3) 3 2 (fun i => f i))))]) (ws' := [(a.1, .inr (0, [.ref a.2.1, .ref a.2.2.1, .ref a.2.2.2, .int (f 24), .int (f 23), .int (f 25), .int (f 26), .int (f 27)])), (a.2.1, .inl (G.2 1, 9, .inl (zCyN (n - 3) 3 2 (fun i => f i)))), (a.2.2.1, .inl (G.2 1, 9, .inl (fun i => f (9 + i)))), (a.2.2.2, .inl (G.2 1, 5, .inl (fun i => f (18 + i))))]) ⟨hx, hb, hml, hown, hts⟩ (c_cycle l G a.2.1 (n - 3) 3 2 (fun i => f i) (by omega) (by decide)) (va_cwS 4 hts gX0_moveLine_X0_cycle rfl rfl rfl (by decide +kernel) ⟨Nat.le_of_ble_eq_true rfl, Nat.le_of_ble_eq_true rfl⟩) rfl hl.1 rfl (Nat.le_of_ble_eq_true rfl) dX0_moveLine_56 ⟨Nat.le_of_ble_eq_true rfl, Nat.le_of_ble_eq_true rfl⟩ hK hE hA hM (pm_at 4 [1] [0, 2, 3] rfl rfl rfl (by decide)) ((pm_at 4 [1] [0, 2, 3] rfl rfl rfl (by decide))).symm (fun H locs hM hz => ?_)
      refine lv_aload_n hx hb dX0_moveLine_59 rfl (lv_at hl 3 rfl) ?_
      refine z_get (ci := 0) (v := .ref a.2.2.1) (C := RX0) (T := TX0) (N := 8) hx hb hts (by decide +kernel) hown hK hM 0 rfl rfl 1 (by decide) (hts (.fieldLink RX0 15 "ShiftIsles$Board" "treasures" "[I") (by decide +kernel)) (fun _ h9 => h9) rfl dX0_moveLine_60 ?_
      refine lv_iload_n hx hb dX0_moveLine_63 rfl (lv_at hl 2 rfl) ?_
      refine lv_iload hx hb dX0_moveLine_64 (lv_at hl 1 rfl) ?_
      refine lv_iload hx hb dX0_moveLine_66 (lv_at hl 0 rfl) ?_
      refine z_callS (As := [.ref a.2.2.1, .int (nI (n - 3)), .int (nI 3), .int (nI 2)]) (rest := []) (wc := [(a.2.2.1, .inl (G.2 1, 9, .inl (fun i => f (9 + i))))]) (wr := [(a.1, .inr (0, [.ref a.2.1, .ref a.2.2.1, .ref a.2.2.2, .int (f 24), .int (f 23), .int (f 25), .int (f 26), .int (f 27)])), (a.2.1, .inl (G.2 1, 9, .inl (zCyN (n - 3) 3 2 (fun i => f i)))), (a.2.2.2, .inl (G.2 1, 5, .inl (fun i => f (18 + i))))]) (w1 := [(a.2.2.1, .inl (G.2 1, 9, .inl (zCyN (n - 3) 3 2 (fun i => f (9 + i)))))]) (ws' := [(a.1, .inr (0, [.ref a.2.1, .ref a.2.2.1, .ref a.2.2.2, .int (f 24), .int (f 23), .int (f 25), .int (f 26), .int (f 27)])), (a.2.1, .inl (G.2 1, 9, .inl (zCyN (n - 3) 3 2 (fun i => f i)))), (a.2.2.1, .inl (G.2 1, 9, .inl (zCyN (n - 3) 3 2 (fun i => f (9 + i))))), (a.2.2.2, .inl (G.2 1, 5, .inl (fun i => f (18 + i))))]) ⟨hx, hb, hml, hown, hts⟩ (c_cycle l G a.2.2.1 (n - 3) 3 2 (fun i => f (9 + i)) (by omega) (by decide)) (va_cwS 4 hts gX0_moveLine_X0_cycle rfl rfl rfl (by decide +kernel) ⟨Nat.le_of_ble_eq_true rfl, Nat.le_of_ble_eq_true rfl⟩) rfl hl.1 rfl (Nat.le_of_ble_eq_true rfl) dX0_moveLine_68 ⟨Nat.le_of_ble_eq_true rfl, Nat.le_of_ble_eq_true rfl⟩ hK hE hA hM (pm_at 4 [2] [0, 1, 3] rfl rfl rfl (by decide)) ((pm_at 4 [2] [0, 1, 3] rfl rfl rfl (by decide))).symm (fun H locs hM hz => ?_)
      refine lv_aload_n hx hb dX0_moveLine_71 rfl (lv_at hl 3 rfl) ?_
      refine lv_iload_n hx hb dX0_moveLine_72 rfl (lv_at hl 2 rfl) ?_
      refine lv_iload hx hb dX0_moveLine_73 (lv_at hl 1 rfl) ?_
      refine lv_iload hx hb dX0_moveLine_75 (lv_at hl 0 rfl) ?_
      refine z_callV (As := [.int (nI (n - 3)), .int (nI 3), .int (nI 2)]) (rest := []) (wc := [(a.1, .inr (0, [.ref a.2.1, .ref a.2.2.1, .ref a.2.2.2, .int (f 24), .int (f 23), .int (f 25), .int (f 26), .int (f 27)]))]) (wr := [(a.2.1, .inl (G.2 1, 9, .inl (zCyN (n - 3) 3 2 (fun i => f i)))), (a.2.2.1, .inl (G.2 1, 9, .inl (zCyN (n - 3) 3 2 (fun i => f (9 + i))))), (a.2.2.2, .inl (G.2 1, 5, .inl (fun i => f (18 + i))))]) (w1 := [(a.1, .inr (0, [.ref a.2.1, .ref a.2.2.1, .ref a.2.2.2, .int (zSh (n - 3) 3 2 (f 24) 3 0), .int (f 23), .int (f 25), .int (f 26), .int (f 27)]))]) (ws' := [(a.1, .inr (0, [.ref a.2.1, .ref a.2.2.1, .ref a.2.2.2, .int (zSh (n - 3) 3 2 (f 24) 3 0), .int (f 23), .int (f 25), .int (f 26), .int (f 27)])), (a.2.1, .inl (G.2 1, 9, .inl (zCyN (n - 3) 3 2 (fun i => f i)))), (a.2.2.1, .inl (G.2 1, 9, .inl (zCyN (n - 3) 3 2 (fun i => f (9 + i))))), (a.2.2.2, .inl (G.2 1, 5, .inl (fun i => f (18 + i))))]) ⟨hx, hb, hml, hown, hts⟩ (c_moveShip l G a.1 (.ref a.2.1) (.ref a.2.2.1) (.ref a.2.2.2) (f 24) (f 23) (f 25) (f 26) (f 27) (n - 3) 3 2 (by decide)) (cwV 3 hts gX0_moveLine_X0_moveShip rfl rfl rfl (by decide +kernel) ⟨Nat.le_of_ble_eq_true rfl, Nat.le_of_ble_eq_true rfl⟩) 0 rfl rfl rfl rfl hl.1 rfl (Nat.le_of_ble_eq_true rfl) dX0_moveLine_77 ⟨Nat.le_of_ble_eq_true rfl, Nat.le_of_ble_eq_true rfl⟩ hK hE hA hM (pm_at 4 [0] [1, 2, 3] rfl rfl rfl (by decide)) ((pm_at 4 [0] [1, 2, 3] rfl rfl rfl (by decide))).symm (fun H locs hM hz => ?_)
      refine lv_aload_n hx hb dX0_moveLine_80 rfl (lv_at hl 3 rfl) ?_
      refine lv_iload_n hx hb dX0_moveLine_81 rfl (lv_at hl 4 rfl) ?_
      refine z_put (ci := 0) (ty := .int) (v := .int (nI n)) (C := RX0) (T := TX0) (N := 8) (ws' := [(a.1, .inr (0, [.ref a.2.1, .ref a.2.2.1, .ref a.2.2.2, .int (zSh (n - 3) 3 2 (f 24) 3 0), .int (f 23), .int (f 25), .int (nI n), .int (f 27)])), (a.2.1, .inl (G.2 1, 9, .inl (zCyN (n - 3) 3 2 (fun i => f i)))), (a.2.2.1, .inl (G.2 1, 9, .inl (zCyN (n - 3) 3 2 (fun i => f (9 + i))))), (a.2.2.2, .inl (G.2 1, 5, .inl (fun i => f (18 + i))))]) hx hb hts (by decide +kernel) tyX0 tyX0_ok nmX0 hown hK hM 0 rfl rfl 6 (by decide) (hts (.fieldLink RX0 37 "ShiftIsles$Board" "lastLine" "I") (by decide +kernel)) (fun _ h9 => h9) rfl (by decide +kernel) rfl rfl (Nat.le_of_ble_eq_true rfl) dX0_moveLine_82 rfl (fun H locs hM => ?_)
      refine lv_aload_n hx hb dX0_moveLine_85 rfl (lv_at hl 3 rfl) ?_
      refine lv_iload_n hx hb dX0_moveLine_86 rfl (lv_at hl 5 rfl) ?_
      refine z_put (ci := 0) (ty := .int) (v := .int d) (C := RX0) (T := TX0) (N := 8) (ws' := [(a.1, .inr (0, [.ref a.2.1, .ref a.2.2.1, .ref a.2.2.2, .int (zSh (n - 3) 3 2 (f 24) 3 0), .int (f 23), .int (f 25), .int (nI n), .int d])), (a.2.1, .inl (G.2 1, 9, .inl (zCyN (n - 3) 3 2 (fun i => f i)))), (a.2.2.1, .inl (G.2 1, 9, .inl (zCyN (n - 3) 3 2 (fun i => f (9 + i))))), (a.2.2.2, .inl (G.2 1, 5, .inl (fun i => f (18 + i))))]) hx hb hts (by decide +kernel) tyX0 tyX0_ok nmX0 hown hK hM 0 rfl rfl 7 (by decide) (hts (.fieldLink RX0 40 "ShiftIsles$Board" "lastDirection" "I") (by decide +kernel)) (fun _ h9 => h9) rfl (by decide +kernel) rfl rfl (Nat.le_of_ble_eq_true rfl) dX0_moveLine_87 rfl (fun H locs hM => ?_)
      exact z_vret hx hb hr hlocks dX0_moveLine_90 (zM_sim (mv_fold (n := n) (d := d) (if_neg (Nat.not_lt.mpr h3)) (if_neg (Nat.not_lt.mpr h3)) (if_neg c_d)) hM) (Nat.le_of_ble_eq_true rfl) (Nat.le_of_ble_eq_true rfl)
    · skip
      refine lv_iconst (v := nI 1) hx hb dX0_moveLine_40 (by decide) ?_
      refine lv_goto (tgt := 45) hx hb dX0_moveLine_41 (by decide) ?_
      refine lv_istore (lv' := [(5, .int (nI 1)), (4, .int (nI 3)), (3, .int (nI (n - 3))), (0, .ref a.1), (1, .int (nI n)), (2, .int d)]) hx hb dX0_moveLine_45 hl (by decide) rfl (fun ls hl => ?_)
      refine lv_aload_n hx hb dX0_moveLine_47 rfl (lv_at hl 3 rfl) ?_
      refine z_get (ci := 0) (v := .ref a.2.1) (C := RX0) (T := TX0) (N := 8) hx hb hts (by decide +kernel) hown hK hM 0 rfl rfl 0 (by decide) (hts (.fieldLink RX0 9 "ShiftIsles$Board" "openings" "[I") (by decide +kernel)) (fun _ h9 => h9) rfl dX0_moveLine_48 ?_
      refine lv_iload_n hx hb dX0_moveLine_51 rfl (lv_at hl 2 rfl) ?_
      refine lv_iload hx hb dX0_moveLine_52 (lv_at hl 1 rfl) ?_
      refine lv_iload hx hb dX0_moveLine_54 (lv_at hl 0 rfl) ?_
      refine z_callS (As := [.ref a.2.1, .int (nI (n - 3)), .int (nI 3), .int (nI 1)]) (rest := []) (wc := [(a.2.1, .inl (G.2 1, 9, .inl (fun i => f i)))]) (wr := [(a.1, .inr (0, [.ref a.2.1, .ref a.2.2.1, .ref a.2.2.2, .int (f 24), .int (f 23), .int (f 25), .int (f 26), .int (f 27)])), (a.2.2.1, .inl (G.2 1, 9, .inl (fun i => f (9 + i)))), (a.2.2.2, .inl (G.2 1, 5, .inl (fun i => f (18 + i))))]) (w1 := [(a.2.1, .inl (G.2 1, 9, .inl (zCyN (n - 3) 3 1 (fun i => f i))))]) (ws' := [(a.1, .inr (0, [.ref a.2.1, .ref a.2.2.1, .ref a.2.2.2, .int (f 24), .int (f 23), .int (f 25), .int (f 26), .int (f 27)])), (a.2.1, .inl (G.2 1, 9, .inl (zCyN (n - 3) 3 1 (fun i => f i)))), (a.2.2.1, .inl (G.2 1, 9, .inl (fun i => f (9 + i)))), (a.2.2.2, .inl (G.2 1, 5, .inl (fun i => f (18 + i))))]) ⟨hx, hb, hml, hown, hts⟩ (c_cycle l G a.2.1 (n - 3) 3 1 (fun i => f i) (by omega) (by decide)) (va_cwS 4 hts gX0_moveLine_X0_cycle rfl rfl rfl (by decide +kernel) ⟨Nat.le_of_ble_eq_true rfl, Nat.le_of_ble_eq_true rfl⟩) rfl hl.1 rfl (Nat.le_of_ble_eq_true rfl) dX0_moveLine_56 ⟨Nat.le_of_ble_eq_true rfl, Nat.le_of_ble_eq_true rfl⟩ hK hE hA hM (pm_at 4 [1] [0, 2, 3] rfl rfl rfl (by decide)) ((pm_at 4 [1] [0, 2, 3] rfl rfl rfl (by decide))).symm (fun H locs hM hz => ?_)
      refine lv_aload_n hx hb dX0_moveLine_59 rfl (lv_at hl 3 rfl) ?_
      refine z_get (ci := 0) (v := .ref a.2.2.1) (C := RX0) (T := TX0) (N := 8) hx hb hts (by decide +kernel) hown hK hM 0 rfl rfl 1 (by decide) (hts (.fieldLink RX0 15 "ShiftIsles$Board" "treasures" "[I") (by decide +kernel)) (fun _ h9 => h9) rfl dX0_moveLine_60 ?_
      refine lv_iload_n hx hb dX0_moveLine_63 rfl (lv_at hl 2 rfl) ?_
      refine lv_iload hx hb dX0_moveLine_64 (lv_at hl 1 rfl) ?_
      refine lv_iload hx hb dX0_moveLine_66 (lv_at hl 0 rfl) ?_
      refine z_callS (As := [.ref a.2.2.1, .int (nI (n - 3)), .int (nI 3), .int (nI 1)]) (rest := []) (wc := [(a.2.2.1, .inl (G.2 1, 9, .inl (fun i => f (9 + i))))]) (wr := [(a.1, .inr (0, [.ref a.2.1, .ref a.2.2.1, .ref a.2.2.2, .int (f 24), .int (f 23), .int (f 25), .int (f 26), .int (f 27)])), (a.2.1, .inl (G.2 1, 9, .inl (zCyN (n - 3) 3 1 (fun i => f i)))), (a.2.2.2, .inl (G.2 1, 5, .inl (fun i => f (18 + i))))]) (w1 := [(a.2.2.1, .inl (G.2 1, 9, .inl (zCyN (n - 3) 3 1 (fun i => f (9 + i)))))]) (ws' := [(a.1, .inr (0, [.ref a.2.1, .ref a.2.2.1, .ref a.2.2.2, .int (f 24), .int (f 23), .int (f 25), .int (f 26), .int (f 27)])), (a.2.1, .inl (G.2 1, 9, .inl (zCyN (n - 3) 3 1 (fun i => f i)))), (a.2.2.1, .inl (G.2 1, 9, .inl (zCyN (n - 3) 3 1 (fun i => f (9 + i))))), (a.2.2.2, .inl (G.2 1, 5, .inl (fun i => f (18 + i))))]) ⟨hx, hb, hml, hown, hts⟩ (c_cycle l G a.2.2.1 (n - 3) 3 1 (fun i => f (9 + i)) (by omega) (by decide)) (va_cwS 4 hts gX0_moveLine_X0_cycle rfl rfl rfl (by decide +kernel) ⟨Nat.le_of_ble_eq_true rfl, Nat.le_of_ble_eq_true rfl⟩) rfl hl.1 rfl (Nat.le_of_ble_eq_true rfl) dX0_moveLine_68 ⟨Nat.le_of_ble_eq_true rfl, Nat.le_of_ble_eq_true rfl⟩ hK hE hA hM (pm_at 4 [2] [0, 1, 3] rfl rfl rfl (by decide)) ((pm_at 4 [2] [0, 1, 3] rfl rfl rfl (by decide))).symm (fun H locs hM hz => ?_)
      refine lv_aload_n hx hb dX0_moveLine_71 rfl (lv_at hl 3 rfl) ?_
      refine lv_iload_n hx hb dX0_moveLine_72 rfl (lv_at hl 2 rfl) ?_
      refine lv_iload hx hb dX0_moveLine_73 (lv_at hl 1 rfl) ?_
      refine lv_iload hx hb dX0_moveLine_75 (lv_at hl 0 rfl) ?_
      refine z_callV (As := [.int (nI (n - 3)), .int (nI 3), .int (nI 1)]) (rest := []) (wc := [(a.1, .inr (0, [.ref a.2.1, .ref a.2.2.1, .ref a.2.2.2, .int (f 24), .int (f 23), .int (f 25), .int (f 26), .int (f 27)]))]) (wr := [(a.2.1, .inl (G.2 1, 9, .inl (zCyN (n - 3) 3 1 (fun i => f i)))), (a.2.2.1, .inl (G.2 1, 9, .inl (zCyN (n - 3) 3 1 (fun i => f (9 + i))))), (a.2.2.2, .inl (G.2 1, 5, .inl (fun i => f (18 + i))))]) (w1 := [(a.1, .inr (0, [.ref a.2.1, .ref a.2.2.1, .ref a.2.2.2, .int (zSh (n - 3) 3 1 (f 24) 3 0), .int (f 23), .int (f 25), .int (f 26), .int (f 27)]))]) (ws' := [(a.1, .inr (0, [.ref a.2.1, .ref a.2.2.1, .ref a.2.2.2, .int (zSh (n - 3) 3 1 (f 24) 3 0), .int (f 23), .int (f 25), .int (f 26), .int (f 27)])), (a.2.1, .inl (G.2 1, 9, .inl (zCyN (n - 3) 3 1 (fun i => f i)))), (a.2.2.1, .inl (G.2 1, 9, .inl (zCyN (n - 3) 3 1 (fun i => f (9 + i))))), (a.2.2.2, .inl (G.2 1, 5, .inl (fun i => f (18 + i))))]) ⟨hx, hb, hml, hown, hts⟩ (c_moveShip l G a.1 (.ref a.2.1) (.ref a.2.2.1) (.ref a.2.2.2) (f 24) (f 23) (f 25) (f 26) (f 27) (n - 3) 3 1 (by decide)) (cwV 3 hts gX0_moveLine_X0_moveShip rfl rfl rfl (by decide +kernel) ⟨Nat.le_of_ble_eq_true rfl, Nat.le_of_ble_eq_true rfl⟩) 0 rfl rfl rfl rfl hl.1 rfl (Nat.le_of_ble_eq_true rfl) dX0_moveLine_77 ⟨Nat.le_of_ble_eq_true rfl, Nat.le_of_ble_eq_true rfl⟩ hK hE hA hM (pm_at 4 [0] [1, 2, 3] rfl rfl rfl (by decide)) ((pm_at 4 [0] [1, 2, 3] rfl rfl rfl (by decide))).symm (fun H locs hM hz => ?_)
      refine lv_aload_n hx hb dX0_moveLine_80 rfl (lv_at hl 3 rfl) ?_
      refine lv_iload_n hx hb dX0_moveLine_81 rfl (lv_at hl 4 rfl) ?_
      refine z_put (ci := 0) (ty := .int) (v := .int (nI n)) (C := RX0) (T := TX0) (N := 8) (ws' := [(a.1, .inr (0, [.ref a.2.1, .ref a.2.2.1, .ref a.2.2.2, .int (zSh (n - 3) 3 1 (f 24) 3 0), .int (f 23), .int (f 25), .int (nI n), .int (f 27)])), (a.2.1, .inl (G.2 1, 9, .inl (zCyN (n - 3) 3 1 (fun i => f i)))), (a.2.2.1, .inl (G.2 1, 9, .inl (zCyN (n - 3) 3 1 (fun i => f (9 + i))))), (a.2.2.2, .inl (G.2 1, 5, .inl (fun i => f (18 + i))))]) hx hb hts (by decide +kernel) tyX0 tyX0_ok nmX0 hown hK hM 0 rfl rfl 6 (by decide) (hts (.fieldLink RX0 37 "ShiftIsles$Board" "lastLine" "I") (by decide +kernel)) (fun _ h9 => h9) rfl (by decide +kernel) rfl rfl (Nat.le_of_ble_eq_true rfl) dX0_moveLine_82 rfl (fun H locs hM => ?_)
      refine lv_aload_n hx hb dX0_moveLine_85 rfl (lv_at hl 3 rfl) ?_
      refine lv_iload_n hx hb dX0_moveLine_86 rfl (lv_at hl 5 rfl) ?_
      refine z_put (ci := 0) (ty := .int) (v := .int d) (C := RX0) (T := TX0) (N := 8) (ws' := [(a.1, .inr (0, [.ref a.2.1, .ref a.2.2.1, .ref a.2.2.2, .int (zSh (n - 3) 3 1 (f 24) 3 0), .int (f 23), .int (f 25), .int (nI n), .int d])), (a.2.1, .inl (G.2 1, 9, .inl (zCyN (n - 3) 3 1 (fun i => f i)))), (a.2.2.1, .inl (G.2 1, 9, .inl (zCyN (n - 3) 3 1 (fun i => f (9 + i))))), (a.2.2.2, .inl (G.2 1, 5, .inl (fun i => f (18 + i))))]) hx hb hts (by decide +kernel) tyX0 tyX0_ok nmX0 hown hK hM 0 rfl rfl 7 (by decide) (hts (.fieldLink RX0 40 "ShiftIsles$Board" "lastDirection" "I") (by decide +kernel)) (fun _ h9 => h9) rfl (by decide +kernel) rfl rfl (Nat.le_of_ble_eq_true rfl) dX0_moveLine_87 rfl (fun H locs hM => ?_)
      exact z_vret hx hb hr hlocks dX0_moveLine_90 (zM_sim (mv_fold (n := n) (d := d) (if_neg (Nat.not_lt.mpr h3)) (if_neg (Nat.not_lt.mpr h3)) (if_pos c_d)) hM) (Nat.le_of_ble_eq_true rfl) (Nat.le_of_ble_eq_true rfl)
  · have h3 : n < 3 := Nat.not_le.mp (fun q => c_n ((nI_leI (by decide) (by omega)).mpr q))
    refine lv_iload_n hx hb dX0_moveLine_13 rfl (lv_at hl 1 rfl) ?_
    refine lv_iconst (v := nI 3) hx hb dX0_moveLine_14 (by decide) ?_
    refine lv_imul hx hb dX0_moveLine_15 ?_
    rw [pk_mul n 3]
    refine lv_goto (tgt := 22) hx hb dX0_moveLine_16 (by decide) ?_
    refine lv_istore_n (lv' := [(3, .int (nI (n * 3))), (0, .ref a.1), (1, .int (nI n)), (2, .int d)]) hx hb dX0_moveLine_22 rfl hl (by decide) rfl (fun ls hl => ?_)
    refine lv_iload_n hx hb dX0_moveLine_23 rfl (lv_at hl 2 rfl) ?_
    refine lv_iconst (v := nI 3) hx hb dX0_moveLine_24 (by decide) ?_
    refine lv_icmp_ge (tgt := 32) hx hb dX0_moveLine_25 (by decide) (fun c_3 => absurd c_3 c_n) (fun c_3 => ?_)
    refine lv_iconst (v := nI 1) hx hb dX0_moveLine_28 (by decide) ?_
    refine lv_goto (tgt := 33) hx hb dX0_moveLine_29 (by decide) ?_
    refine lv_istore (lv' := [(4, .int (nI 1)), (3, .int (nI (n * 3))), (0, .ref a.1), (1, .int (nI n)), (2, .int d)]) hx hb dX0_moveLine_33 hl (by decide) rfl (fun ls hl => ?_)
    refine lv_iload_n hx hb dX0_moveLine_35 rfl (lv_at hl 4 rfl) ?_
    refine lv_iconst (v := 1) hx hb dX0_moveLine_36 (by decide) ?_
    refine lv_icmp_ne (tgt := 44) hx hb dX0_moveLine_37 (by decide) (fun c_d => ?_) (fun c_d => ?_)
    · skip
      refine lv_iconst (v := nI 2) hx hb dX0_moveLine_44 (by decide) ?_
      refine lv_istore (lv' := [(5, .int (nI 2)), (4, .int (nI 1)), (3, .int (nI (n * 3))), (0, .ref a.1), (1, .int (nI n)), (2, .int d)]) hx hb dX0_moveLine_45 hl (by decide) rfl (fun ls hl => ?_)
      refine lv_aload_n hx hb dX0_moveLine_47 rfl (lv_at hl 3 rfl) ?_
      refine z_get (ci := 0) (v := .ref a.2.1) (C := RX0) (T := TX0) (N := 8) hx hb hts (by decide +kernel) hown hK hM 0 rfl rfl 0 (by decide) (hts (.fieldLink RX0 9 "ShiftIsles$Board" "openings" "[I") (by decide +kernel)) (fun _ h9 => h9) rfl dX0_moveLine_48 ?_
      refine lv_iload_n hx hb dX0_moveLine_51 rfl (lv_at hl 2 rfl) ?_
      refine lv_iload hx hb dX0_moveLine_52 (lv_at hl 1 rfl) ?_
      refine lv_iload hx hb dX0_moveLine_54 (lv_at hl 0 rfl) ?_
      refine z_callS (As := [.ref a.2.1, .int (nI (n * 3)), .int (nI 1), .int (nI 2)]) (rest := []) (wc := [(a.2.1, .inl (G.2 1, 9, .inl (fun i => f i)))]) (wr := [(a.1, .inr (0, [.ref a.2.1, .ref a.2.2.1, .ref a.2.2.2, .int (f 24), .int (f 23), .int (f 25), .int (f 26), .int (f 27)])), (a.2.2.1, .inl (G.2 1, 9, .inl (fun i => f (9 + i)))), (a.2.2.2, .inl (G.2 1, 5, .inl (fun i => f (18 + i))))]) (w1 := [(a.2.1, .inl (G.2 1, 9, .inl (zCyN (n * 3) 1 2 (fun i => f i))))]) (ws' := [(a.1, .inr (0, [.ref a.2.1, .ref a.2.2.1, .ref a.2.2.2, .int (f 24), .int (f 23), .int (f 25), .int (f 26), .int (f 27)])), (a.2.1, .inl (G.2 1, 9, .inl (zCyN (n * 3) 1 2 (fun i => f i)))), (a.2.2.1, .inl (G.2 1, 9, .inl (fun i => f (9 + i)))), (a.2.2.2, .inl (G.2 1, 5, .inl (fun i => f (18 + i))))]) ⟨hx, hb, hml, hown, hts⟩ (c_cycle l G a.2.1 (n * 3) 1 2 (fun i => f i) (by omega) (by decide)) (va_cwS 4 hts gX0_moveLine_X0_cycle rfl rfl rfl (by decide +kernel) ⟨Nat.le_of_ble_eq_true rfl, Nat.le_of_ble_eq_true rfl⟩) rfl hl.1 rfl (Nat.le_of_ble_eq_true rfl) dX0_moveLine_56 ⟨Nat.le_of_ble_eq_true rfl, Nat.le_of_ble_eq_true rfl⟩ hK hE hA hM (pm_at 4 [1] [0, 2, 3] rfl rfl rfl (by decide)) ((pm_at 4 [1] [0, 2, 3] rfl rfl rfl (by decide))).symm (fun H locs hM hz => ?_)
      refine lv_aload_n hx hb dX0_moveLine_59 rfl (lv_at hl 3 rfl) ?_
      refine z_get (ci := 0) (v := .ref a.2.2.1) (C := RX0) (T := TX0) (N := 8) hx hb hts (by decide +kernel) hown hK hM 0 rfl rfl 1 (by decide) (hts (.fieldLink RX0 15 "ShiftIsles$Board" "treasures" "[I") (by decide +kernel)) (fun _ h9 => h9) rfl dX0_moveLine_60 ?_
      refine lv_iload_n hx hb dX0_moveLine_63 rfl (lv_at hl 2 rfl) ?_
      refine lv_iload hx hb dX0_moveLine_64 (lv_at hl 1 rfl) ?_
      refine lv_iload hx hb dX0_moveLine_66 (lv_at hl 0 rfl) ?_
      refine z_callS (As := [.ref a.2.2.1, .int (nI (n * 3)), .int (nI 1), .int (nI 2)]) (rest := []) (wc := [(a.2.2.1, .inl (G.2 1, 9, .inl (fun i => f (9 + i))))]) (wr := [(a.1, .inr (0, [.ref a.2.1, .ref a.2.2.1, .ref a.2.2.2, .int (f 24), .int (f 23), .int (f 25), .int (f 26), .int (f 27)])), (a.2.1, .inl (G.2 1, 9, .inl (zCyN (n * 3) 1 2 (fun i => f i)))), (a.2.2.2, .inl (G.2 1, 5, .inl (fun i => f (18 + i))))]) (w1 := [(a.2.2.1, .inl (G.2 1, 9, .inl (zCyN (n * 3) 1 2 (fun i => f (9 + i)))))]) (ws' := [(a.1, .inr (0, [.ref a.2.1, .ref a.2.2.1, .ref a.2.2.2, .int (f 24), .int (f 23), .int (f 25), .int (f 26), .int (f 27)])), (a.2.1, .inl (G.2 1, 9, .inl (zCyN (n * 3) 1 2 (fun i => f i)))), (a.2.2.1, .inl (G.2 1, 9, .inl (zCyN (n * 3) 1 2 (fun i => f (9 + i))))), (a.2.2.2, .inl (G.2 1, 5, .inl (fun i => f (18 + i))))]) ⟨hx, hb, hml, hown, hts⟩ (c_cycle l G a.2.2.1 (n * 3) 1 2 (fun i => f (9 + i)) (by omega) (by decide)) (va_cwS 4 hts gX0_moveLine_X0_cycle rfl rfl rfl (by decide +kernel) ⟨Nat.le_of_ble_eq_true rfl, Nat.le_of_ble_eq_true rfl⟩) rfl hl.1 rfl (Nat.le_of_ble_eq_true rfl) dX0_moveLine_68 ⟨Nat.le_of_ble_eq_true rfl, Nat.le_of_ble_eq_true rfl⟩ hK hE hA hM (pm_at 4 [2] [0, 1, 3] rfl rfl rfl (by decide)) ((pm_at 4 [2] [0, 1, 3] rfl rfl rfl (by decide))).symm (fun H locs hM hz => ?_)
      refine lv_aload_n hx hb dX0_moveLine_71 rfl (lv_at hl 3 rfl) ?_
      refine lv_iload_n hx hb dX0_moveLine_72 rfl (lv_at hl 2 rfl) ?_
      refine lv_iload hx hb dX0_moveLine_73 (lv_at hl 1 rfl) ?_
      refine lv_iload hx hb dX0_moveLine_75 (lv_at hl 0 rfl) ?_
      refine z_callV (As := [.int (nI (n * 3)), .int (nI 1), .int (nI 2)]) (rest := []) (wc := [(a.1, .inr (0, [.ref a.2.1, .ref a.2.2.1, .ref a.2.2.2, .int (f 24), .int (f 23), .int (f 25), .int (f 26), .int (f 27)]))]) (wr := [(a.2.1, .inl (G.2 1, 9, .inl (zCyN (n * 3) 1 2 (fun i => f i)))), (a.2.2.1, .inl (G.2 1, 9, .inl (zCyN (n * 3) 1 2 (fun i => f (9 + i))))), (a.2.2.2, .inl (G.2 1, 5, .inl (fun i => f (18 + i))))]) (w1 := [(a.1, .inr (0, [.ref a.2.1, .ref a.2.2.1, .ref a.2.2.2, .int (zSh (n * 3) 1 2 (f 24) 3 0), .int (f 23), .int (f 25), .int (f 26), .int (f 27)]))]) (ws' := [(a.1, .inr (0, [.ref a.2.1, .ref a.2.2.1, .ref a.2.2.2, .int (zSh (n * 3) 1 2 (f 24) 3 0), .int (f 23), .int (f 25), .int (f 26), .int (f 27)])), (a.2.1, .inl (G.2 1, 9, .inl (zCyN (n * 3) 1 2 (fun i => f i)))), (a.2.2.1, .inl (G.2 1, 9, .inl (zCyN (n * 3) 1 2 (fun i => f (9 + i))))), (a.2.2.2, .inl (G.2 1, 5, .inl (fun i => f (18 + i))))]) ⟨hx, hb, hml, hown, hts⟩ (c_moveShip l G a.1 (.ref a.2.1) (.ref a.2.2.1) (.ref a.2.2.2) (f 24) (f 23) (f 25) (f 26) (f 27) (n * 3) 1 2 (by decide)) (cwV 3 hts gX0_moveLine_X0_moveShip rfl rfl rfl (by decide +kernel) ⟨Nat.le_of_ble_eq_true rfl, Nat.le_of_ble_eq_true rfl⟩) 0 rfl rfl rfl rfl hl.1 rfl (Nat.le_of_ble_eq_true rfl) dX0_moveLine_77 ⟨Nat.le_of_ble_eq_true rfl, Nat.le_of_ble_eq_true rfl⟩ hK hE hA hM (pm_at 4 [0] [1, 2, 3] rfl rfl rfl (by decide)) ((pm_at 4 [0] [1, 2, 3] rfl rfl rfl (by decide))).symm (fun H locs hM hz => ?_)
      refine lv_aload_n hx hb dX0_moveLine_80 rfl (lv_at hl 3 rfl) ?_
      refine lv_iload_n hx hb dX0_moveLine_81 rfl (lv_at hl 4 rfl) ?_
      refine z_put (ci := 0) (ty := .int) (v := .int (nI n)) (C := RX0) (T := TX0) (N := 8) (ws' := [(a.1, .inr (0, [.ref a.2.1, .ref a.2.2.1, .ref a.2.2.2, .int (zSh (n * 3) 1 2 (f 24) 3 0), .int (f 23), .int (f 25), .int (nI n), .int (f 27)])), (a.2.1, .inl (G.2 1, 9, .inl (zCyN (n * 3) 1 2 (fun i => f i)))), (a.2.2.1, .inl (G.2 1, 9, .inl (zCyN (n * 3) 1 2 (fun i => f (9 + i))))), (a.2.2.2, .inl (G.2 1, 5, .inl (fun i => f (18 + i))))]) hx hb hts (by decide +kernel) tyX0 tyX0_ok nmX0 hown hK hM 0 rfl rfl 6 (by decide) (hts (.fieldLink RX0 37 "ShiftIsles$Board" "lastLine" "I") (by decide +kernel)) (fun _ h9 => h9) rfl (by decide +kernel) rfl rfl (Nat.le_of_ble_eq_true rfl) dX0_moveLine_82 rfl (fun H locs hM => ?_)
      refine lv_aload_n hx hb dX0_moveLine_85 rfl (lv_at hl 3 rfl) ?_
      refine lv_iload_n hx hb dX0_moveLine_86 rfl (lv_at hl 5 rfl) ?_
      refine z_put (ci := 0) (ty := .int) (v := .int d) (C := RX0) (T := TX0) (N := 8) (ws' := [(a.1, .inr (0, [.ref a.2.1, .ref a.2.2.1, .ref a.2.2.2, .int (zSh (n * 3) 1 2 (f 24) 3 0), .int (f 23), .int (f 25), .int (nI n), .int d])), (a.2.1, .inl (G.2 1, 9, .inl (zCyN (n * 3) 1 2 (fun i => f i)))), (a.2.2.1, .inl (G.2 1, 9, .inl (zCyN (n * 3) 1 2 (fun i => f (9 + i))))), (a.2.2.2, .inl (G.2 1, 5, .inl (fun i => f (18 + i))))]) hx hb hts (by decide +kernel) tyX0 tyX0_ok nmX0 hown hK hM 0 rfl rfl 7 (by decide) (hts (.fieldLink RX0 40 "ShiftIsles$Board" "lastDirection" "I") (by decide +kernel)) (fun _ h9 => h9) rfl (by decide +kernel) rfl rfl (Nat.le_of_ble_eq_true rfl) dX0_moveLine_87 rfl (fun H locs hM => ?_)
      exact z_vret hx hb hr hlocks dX0_moveLine_90 (zM_sim (mv_fold (n := n) (d := d) (if_pos h3) (if_pos h3) (if_neg c_d)) hM) (Nat.le_of_ble_eq_true rfl) (Nat.le_of_ble_eq_true rfl)
    · skip
      refine lv_iconst (v := nI 1) hx hb dX0_moveLine_40 (by decide) ?_
      refine lv_goto (tgt := 45) hx hb dX0_moveLine_41 (by decide) ?_
      refine lv_istore (lv' := [(5, .int (nI 1)), (4, .int (nI 1)), (3, .int (nI (n * 3))), (0, .ref a.1), (1, .int (nI n)), (2, .int d)]) hx hb dX0_moveLine_45 hl (by decide) rfl (fun ls hl => ?_)
      refine lv_aload_n hx hb dX0_moveLine_47 rfl (lv_at hl 3 rfl) ?_
      refine z_get (ci := 0) (v := .ref a.2.1) (C := RX0) (T := TX0) (N := 8) hx hb hts (by decide +kernel) hown hK hM 0 rfl rfl 0 (by decide) (hts (.fieldLink RX0 9 "ShiftIsles$Board" "openings" "[I") (by decide +kernel)) (fun _ h9 => h9) rfl dX0_moveLine_48 ?_
      refine lv_iload_n hx hb dX0_moveLine_51 rfl (lv_at hl 2 rfl) ?_
      refine lv_iload hx hb dX0_moveLine_52 (lv_at hl 1 rfl) ?_
      refine lv_iload hx hb dX0_moveLine_54 (lv_at hl 0 rfl) ?_
      refine z_callS (As := [.ref a.2.1, .int (nI (n * 3)), .int (nI 1), .int (nI 1)]) (rest := []) (wc := [(a.2.1, .inl (G.2 1, 9, .inl (fun i => f i)))]) (wr := [(a.1, .inr (0, [.ref a.2.1, .ref a.2.2.1, .ref a.2.2.2, .int (f 24), .int (f 23), .int (f 25), .int (f 26), .int (f 27)])), (a.2.2.1, .inl (G.2 1, 9, .inl (fun i => f (9 + i)))), (a.2.2.2, .inl (G.2 1, 5, .inl (fun i => f (18 + i))))]) (w1 := [(a.2.1, .inl (G.2 1, 9, .inl (zCyN (n * 3) 1 1 (fun i => f i))))]) (ws' := [(a.1, .inr (0, [.ref a.2.1, .ref a.2.2.1, .ref a.2.2.2, .int (f 24), .int (f 23), .int (f 25), .int (f 26), .int (f 27)])), (a.2.1, .inl (G.2 1, 9, .inl (zCyN (n * 3) 1 1 (fun i => f i)))), (a.2.2.1, .inl (G.2 1, 9, .inl (fun i => f (9 + i)))), (a.2.2.2, .inl (G.2 1, 5, .inl (fun i => f (18 + i))))]) ⟨hx, hb, hml, hown, hts⟩ (c_cycle l G a.2.1 (n * 3) 1 1 (fun i => f i) (by omega) (by decide)) (va_cwS 4 hts gX0_moveLine_X0_cycle rfl rfl rfl (by decide +kernel) ⟨Nat.le_of_ble_eq_true rfl, Nat.le_of_ble_eq_true rfl⟩) rfl hl.1 rfl (Nat.le_of_ble_eq_true rfl) dX0_moveLine_56 ⟨Nat.le_of_ble_eq_true rfl, Nat.le_of_ble_eq_true rfl⟩ hK hE hA hM (pm_at 4 [1] [0, 2, 3] rfl rfl rfl (by decide)) ((pm_at 4 [1] [0, 2, 3] rfl rfl rfl (by decide))).symm (fun H locs hM hz => ?_)
      refine lv_aload_n hx hb dX0_moveLine_59 rfl (lv_at hl 3 rfl) ?_
      refine z_get (ci := 0) (v := .ref a.2.2.1) (C := RX0) (T := TX0) (N := 8) hx hb hts (by decide +kernel) hown hK hM 0 rfl rfl 1 (by decide) (hts (.fieldLink RX0 15 "ShiftIsles$Board" "treasures" "[I") (by decide +kernel)) (fun _ h9 => h9) rfl dX0_moveLine_60 ?_
      refine lv_iload_n hx hb dX0_moveLine_63 rfl (lv_at hl 2 rfl) ?_
      refine lv_iload hx hb dX0_moveLine_64 (lv_at hl 1 rfl) ?_
      refine lv_iload hx hb dX0_moveLine_66 (lv_at hl 0 rfl) ?_
      refine z_callS (As := [.ref a.2.2.1, .int (nI (n * 3)), .int (nI 1), .int (nI 1)]) (rest := []) (wc := [(a.2.2.1, .inl (G.2 1, 9, .inl (fun i => f (9 + i))))]) (wr := [(a.1, .inr (0, [.ref a.2.1, .ref a.2.2.1, .ref a.2.2.2, .int (f 24), .int (f 23), .int (f 25), .int (f 26), .int (f 27)])), (a.2.1, .inl (G.2 1, 9, .inl (zCyN (n * 3) 1 1 (fun i => f i)))), (a.2.2.2, .inl (G.2 1, 5, .inl (fun i => f (18 + i))))]) (w1 := [(a.2.2.1, .inl (G.2 1, 9, .inl (zCyN (n * 3) 1 1 (fun i => f (9 + i)))))]) (ws' := [(a.1, .inr (0, [.ref a.2.1, .ref a.2.2.1, .ref a.2.2.2, .int (f 24), .int (f 23), .int (f 25), .int (f 26), .int (f 27)])), (a.2.1, .inl (G.2 1, 9, .inl (zCyN (n * 3) 1 1 (fun i => f i)))), (a.2.2.1, .inl (G.2 1, 9, .inl (zCyN (n * 3) 1 1 (fun i => f (9 + i))))), (a.2.2.2, .inl (G.2 1, 5, .inl (fun i => f (18 + i))))]) ⟨hx, hb, hml, hown, hts⟩ (c_cycle l G a.2.2.1 (n * 3) 1 1 (fun i => f (9 + i)) (by omega) (by decide)) (va_cwS 4 hts gX0_moveLine_X0_cycle rfl rfl rfl (by decide +kernel) ⟨Nat.le_of_ble_eq_true rfl, Nat.le_of_ble_eq_true rfl⟩) rfl hl.1 rfl (Nat.le_of_ble_eq_true rfl) dX0_moveLine_68 ⟨Nat.le_of_ble_eq_true rfl, Nat.le_of_ble_eq_true rfl⟩ hK hE hA hM (pm_at 4 [2] [0, 1, 3] rfl rfl rfl (by decide)) ((pm_at 4 [2] [0, 1, 3] rfl rfl rfl (by decide))).symm (fun H locs hM hz => ?_)
      refine lv_aload_n hx hb dX0_moveLine_71 rfl (lv_at hl 3 rfl) ?_
      refine lv_iload_n hx hb dX0_moveLine_72 rfl (lv_at hl 2 rfl) ?_
      refine lv_iload hx hb dX0_moveLine_73 (lv_at hl 1 rfl) ?_
      refine lv_iload hx hb dX0_moveLine_75 (lv_at hl 0 rfl) ?_
      refine z_callV (As := [.int (nI (n * 3)), .int (nI 1), .int (nI 1)]) (rest := []) (wc := [(a.1, .inr (0, [.ref a.2.1, .ref a.2.2.1, .ref a.2.2.2, .int (f 24), .int (f 23), .int (f 25), .int (f 26), .int (f 27)]))]) (wr := [(a.2.1, .inl (G.2 1, 9, .inl (zCyN (n * 3) 1 1 (fun i => f i)))), (a.2.2.1, .inl (G.2 1, 9, .inl (zCyN (n * 3) 1 1 (fun i => f (9 + i))))), (a.2.2.2, .inl (G.2 1, 5, .inl (fun i => f (18 + i))))]) (w1 := [(a.1, .inr (0, [.ref a.2.1, .ref a.2.2.1, .ref a.2.2.2, .int (zSh (n * 3) 1 1 (f 24) 3 0), .int (f 23), .int (f 25), .int (f 26), .int (f 27)]))]) (ws' := [(a.1, .inr (0, [.ref a.2.1, .ref a.2.2.1, .ref a.2.2.2, .int (zSh (n * 3) 1 1 (f 24) 3 0), .int (f 23), .int (f 25), .int (f 26), .int (f 27)])), (a.2.1, .inl (G.2 1, 9, .inl (zCyN (n * 3) 1 1 (fun i => f i)))), (a.2.2.1, .inl (G.2 1, 9, .inl (zCyN (n * 3) 1 1 (fun i => f (9 + i))))), (a.2.2.2, .inl (G.2 1, 5, .inl (fun i => f (18 + i))))]) ⟨hx, hb, hml, hown, hts⟩ (c_moveShip l G a.1 (.ref a.2.1) (.ref a.2.2.1) (.ref a.2.2.2) (f 24) (f 23) (f 25) (f 26) (f 27) (n * 3) 1 1 (by decide)) (cwV 3 hts gX0_moveLine_X0_moveShip rfl rfl rfl (by decide +kernel) ⟨Nat.le_of_ble_eq_true rfl, Nat.le_of_ble_eq_true rfl⟩) 0 rfl rfl rfl rfl hl.1 rfl (Nat.le_of_ble_eq_true rfl) dX0_moveLine_77 ⟨Nat.le_of_ble_eq_true rfl, Nat.le_of_ble_eq_true rfl⟩ hK hE hA hM (pm_at 4 [0] [1, 2, 3] rfl rfl rfl (by decide)) ((pm_at 4 [0] [1, 2, 3] rfl rfl rfl (by decide))).symm (fun H locs hM hz => ?_)
      refine lv_aload_n hx hb dX0_moveLine_80 rfl (lv_at hl 3 rfl) ?_
      refine lv_iload_n hx hb dX0_moveLine_81 rfl (lv_at hl 4 rfl) ?_
      refine z_put (ci := 0) (ty := .int) (v := .int (nI n)) (C := RX0) (T := TX0) (N := 8) (ws' := [(a.1, .inr (0, [.ref a.2.1, .ref a.2.2.1, .ref a.2.2.2, .int (zSh (n * 3) 1 1 (f 24) 3 0), .int (f 23), .int (f 25), .int (nI n), .int (f 27)])), (a.2.1, .inl (G.2 1, 9, .inl (zCyN (n * 3) 1 1 (fun i => f i)))), (a.2.2.1, .inl (G.2 1, 9, .inl (zCyN (n * 3) 1 1 (fun i => f (9 + i))))), (a.2.2.2, .inl (G.2 1, 5, .inl (fun i => f (18 + i))))]) hx hb hts (by decide +kernel) tyX0 tyX0_ok nmX0 hown hK hM 0 rfl rfl 6 (by decide) (hts (.fieldLink RX0 37 "ShiftIsles$Board" "lastLine" "I") (by decide +kernel)) (fun _ h9 => h9) rfl (by decide +kernel) rfl rfl (Nat.le_of_ble_eq_true rfl) dX0_moveLine_82 rfl (fun H locs hM => ?_)
      refine lv_aload_n hx hb dX0_moveLine_85 rfl (lv_at hl 3 rfl) ?_
      refine lv_iload_n hx hb dX0_moveLine_86 rfl (lv_at hl 5 rfl) ?_
      refine z_put (ci := 0) (ty := .int) (v := .int d) (C := RX0) (T := TX0) (N := 8) (ws' := [(a.1, .inr (0, [.ref a.2.1, .ref a.2.2.1, .ref a.2.2.2, .int (zSh (n * 3) 1 1 (f 24) 3 0), .int (f 23), .int (f 25), .int (nI n), .int d])), (a.2.1, .inl (G.2 1, 9, .inl (zCyN (n * 3) 1 1 (fun i => f i)))), (a.2.2.1, .inl (G.2 1, 9, .inl (zCyN (n * 3) 1 1 (fun i => f (9 + i))))), (a.2.2.2, .inl (G.2 1, 5, .inl (fun i => f (18 + i))))]) hx hb hts (by decide +kernel) tyX0 tyX0_ok nmX0 hown hK hM 0 rfl rfl 7 (by decide) (hts (.fieldLink RX0 40 "ShiftIsles$Board" "lastDirection" "I") (by decide +kernel)) (fun _ h9 => h9) rfl (by decide +kernel) rfl rfl (Nat.le_of_ble_eq_true rfl) dX0_moveLine_87 rfl (fun H locs hM => ?_)
      exact z_vret hx hb hr hlocks dX0_moveLine_90 (zM_sim (mv_fold (n := n) (d := d) (if_pos h3) (if_pos h3) (if_pos c_d)) hM) (Nat.le_of_ble_eq_true rfl) (Nat.le_of_ble_eq_true rfl)

set_option maxHeartbeats 4000000 in
set_option maxRecDepth 100000 in
theorem c_openAcross (l : Launch) (G : zC) (a : zBA) (f : Nat → Int32) : zMet l G yX0_openAcross wsX0_openAcross rmX0_openAcross [.ref a.1] (bdW G a f) (some (.int (zAcr f))) (bdW G a f) := by
  refine zMet_of (cc := cX0_openAcross) (maxL := 3) (ret := (some .int)) (by decide) rfl (Nat.le_of_ble_eq_true rfl) ?_
  intro p e s m below meth c A ls hx hb hr hml hown hts hK hA hE hlocks hin hM hl
  have hown : s.vm.findClass RX0 = some m.cls := hown
  have hM : zM G A s s.heap [] ([(a.1, .inr (0, [.ref a.2.1, .ref a.2.2.1, .ref a.2.2.2, .int (f 24), .int (f 23), .int (f 25), .int (f 26), .int (f 27)])), (a.2.1, .inl (G.2 1, 9, .inl (fun i => f i))), (a.2.2.1, .inl (G.2 1, 9, .inl (fun i => f (9 + i)))), (a.2.2.2, .inl (G.2 1, 5, .inl (fun i => f (18 + i))))]) := hM
  have hl : lv_has ls 3 [(0, .ref a.1)] := hl
  refine lv_iconst (v := 0) hx hb dX0_openAcross_0 (by decide) ?_
  refine lv_istore_n (lv' := [(1, .int 0), (0, .ref a.1)]) hx hb dX0_openAcross_1 rfl hl (by decide) rfl (fun ls hl => ?_)
  refine lv_iconst (v := nI 0) hx hb dX0_openAcross_2 (by decide) ?_
  refine lv_istore_n (lv' := [(2, .int (nI 0)), (1, .int 0), (0, .ref a.1)]) hx hb dX0_openAcross_3 rfl hl (by decide) rfl (fun ls hl => ?_)
  have lp4 : ∀ (k : Nat) (i : Nat) (x : Int32), (i + k = 8) → (zAcr f = zAc f k i x) → ∀ (H : Heap) (locs : List Loc), zM G A s H locs ([(a.1, .inr (0, [.ref a.2.1, .ref a.2.2.1, .ref a.2.2.2, .int (f 24), .int (f 23), .int (f 25), .int (f 26), .int (f 27)])), (a.2.1, .inl (G.2 1, 9, .inl (fun i => f i))), (a.2.2.1, .inl (G.2 1, 9, .inl (fun i => f (9 + i)))), (a.2.2.2, .inl (G.2 1, 5, .inl (fun i => f (18 + i))))]) → ∀ ls : Array Slot, lv_has ls 3 [(0, .ref a.1), (1, .int x), (2, .int (nI i))] → W p l e rmX0_openAcross s m ([.ref a.1] : List Value).toArray below meth c H locs 0 0 (zEnd G below ([.ref a.1] : List Value).toArray s rmX0_openAcross A (some (.int (zAcr f))) (bdW G a f)) (F0 m 4 ls []) := by
    intro k
    induction k with
    | zero =>
      intro i x hik hR H locs hM ls hl
      refine lv_iload_n hx hb dX0_openAcross_4 rfl (lv_at hl 2 rfl) ?_
      refine lv_iconst (v := nI 1) hx hb dX0_openAcross_5 (by decide) ?_
      refine lv_iadd hx hb dX0_openAcross_6 ?_
      rw [nI_add i 1]
      refine lv_bipush (v := nI 9) hx hb dX0_openAcross_7 (by decide) ?_
      refine lv_icmp_ge (tgt := 56) hx hb dX0_openAcross_9 (by decide) (fun c_1 => ?_) (fun c_1 => absurd (nI_le (by omega) (by omega)) c_1)
      refine lv_iload_n hx hb dX0_openAcross_56 rfl (lv_at hl 1 rfl) ?_
      exact z_iret hx hb hr hlocks dX0_openAcross_57 hM (Nat.le_of_ble_eq_true rfl) (Nat.le_of_ble_eq_true rfl) (by rw [hR]; rfl)
    | succ k ih =>
      intro i x hik hR H locs hM ls hl
      refine lv_iload_n hx hb dX0_openAcross_4 rfl (lv_at hl 2 rfl) ?_
      refine lv_iconst (v := nI 1) hx hb dX0_openAcross_5 (by decide) ?_
      refine lv_iadd hx hb dX0_openAcross_6 ?_
      rw [nI_add i 1]
      refine lv_bipush (v := nI 9) hx hb dX0_openAcross_7 (by decide) ?_
      refine lv_icmp_ge (tgt := 56) hx hb dX0_openAcross_9 (by decide) (fun c_2 => absurd c_2 (nI_ge (by omega) (by omega))) (fun c_2 => ?_)
      refine lv_iload_n hx hb dX0_openAcross_12 rfl (lv_at hl 2 rfl) ?_
      refine lv_iconst (v := nI 3) hx hb dX0_openAcross_13 (by decide) ?_
      refine lv_irem hx hb dX0_openAcross_14 (by decide) ?_
      rw [pk_rem (a := i) (d := 3) (by omega) (by decide) (by decide)]
      refine lv_iconst (v := nI 2) hx hb dX0_openAcross_15 (by decide) ?_
      refine lv_icmp_ge (tgt := 50) hx hb dX0_openAcross_16 (by decide) (fun c_m => ?_) (fun c_m => ?_)
      · skip
        refine lv_iinc (v := nI (i + 1)) (lv' := [(2, .int (nI (i + 1))), (0, .ref a.1), (1, .int x)]) hx hb dX0_openAcross_50 hl (k := 2) rfl (nI_1 i) (by decide) rfl (fun ls hl => ?_)
        refine lv_goto (tgt := 4) hx hb dX0_openAcross_53 (by decide) ?_
        exact ih (i + 1) x (by omega) (by rw [hR, zAc, if_neg (fun q => absurd q.1 (Nat.not_lt.mpr ((nI_leI (by decide) (by omega)).mp c_m)))]) _ _ hM _ (lv_sub hl [1, 2, 0] rfl)
      · skip
        refine lv_aload_n hx hb dX0_openAcross_19 rfl (lv_at hl 0 rfl) ?_
        refine z_get (ci := 0) (v := .ref a.2.1) (C := RX0) (T := TX0) (N := 8) hx hb hts (by decide +kernel) hown hK hM 0 rfl rfl 0 (by decide) (hts (.fieldLink RX0 9 "ShiftIsles$Board" "openings" "[I") (by decide +kernel)) (fun _ h9 => h9) rfl dX0_openAcross_20 ?_
        refine lv_iload_n hx hb dX0_openAcross_23 rfl (lv_at hl 2 rfl) ?_
        refine z_iald hx hb hK hM 1 rfl (v := f i) (vp_in_nI (by omega) (by decide)) (by rw [nI_clamp (by omega)]) dX0_openAcross_24 ?_
        refine lv_iconst (v := 2) hx hb dX0_openAcross_25 (by decide) ?_
        refine lv_iand hx hb dX0_openAcross_26 ?_
        refine lv_if_eq (tgt := 50) hx hb dX0_openAcross_27 (by decide) (fun c_a => ?_) (fun c_a => ?_)
        · skip
          refine lv_iinc (v := nI (i + 1)) (lv' := [(2, .int (nI (i + 1))), (0, .ref a.1), (1, .int x)]) hx hb dX0_openAcross_50 hl (k := 2) rfl (nI_1 i) (by decide) rfl (fun ls hl => ?_)
          refine lv_goto (tgt := 4) hx hb dX0_openAcross_53 (by decide) ?_
          exact ih (i + 1) x (by omega) (by rw [hR, zAc, if_neg (fun q => q.2.1 c_a)]) _ _ hM _ (lv_sub hl [1, 2, 0] rfl)
        · skip
          refine lv_aload_n hx hb dX0_openAcross_30 rfl (lv_at hl 0 rfl) ?_
          refine z_get (ci := 0) (v := .ref a.2.1) (C := RX0) (T := TX0) (N := 8) hx hb hts (by decide +kernel) hown hK hM 0 rfl rfl 0 (by decide) (hts (.fieldLink RX0 9 "ShiftIsles$Board" "openings" "[I") (by decide +kernel)) (fun _ h9 => h9) rfl dX0_openAcross_31 ?_
          refine lv_iload_n hx hb dX0_openAcross_34 rfl (lv_at hl 2 rfl) ?_
          refine lv_iconst (v := nI 1) hx hb dX0_openAcross_35 (by decide) ?_
          refine lv_iadd hx hb dX0_openAcross_36 ?_
          rw [nI_add i 1]
          refine z_iald hx hb hK hM 1 rfl (v := f (i + 1)) (vp_in_nI (by omega) (by decide)) (by rw [nI_clamp (by omega)]) dX0_openAcross_37 ?_
          refine lv_bipush (v := 8) hx hb dX0_openAcross_38 (by decide) ?_
          refine lv_iand hx hb dX0_openAcross_40 ?_
          refine lv_if_eq (tgt := 50) hx hb dX0_openAcross_41 (by decide) (fun c_b => ?_) (fun c_b => ?_)
          · skip
            refine lv_iinc (v := nI (i + 1)) (lv' := [(2, .int (nI (i + 1))), (0, .ref a.1), (1, .int x)]) hx hb dX0_openAcross_50 hl (k := 2) rfl (nI_1 i) (by decide) rfl (fun ls hl => ?_)
            refine lv_goto (tgt := 4) hx hb dX0_openAcross_53 (by decide) ?_
            exact ih (i + 1) x (by omega) (by rw [hR, zAc, if_neg (fun q => q.2.2 c_b)]) _ _ hM _ (lv_sub hl [1, 2, 0] rfl)
          · skip
            refine lv_iload_n hx hb dX0_openAcross_44 rfl (lv_at hl 1 rfl) ?_
            refine lv_iconst (v := 1) hx hb dX0_openAcross_45 (by decide) ?_
            refine lv_iload_n hx hb dX0_openAcross_46 rfl (lv_at hl 2 rfl) ?_
            refine lv_ishl hx hb dX0_openAcross_47 ?_
            refine lv_ior hx hb dX0_openAcross_48 ?_
            refine lv_istore_n (lv' := [(1, .int (x ||| (1 <<< ((nI i) &&& 31)))), (0, .ref a.1), (2, .int (nI i))]) hx hb dX0_openAcross_49 rfl hl (by decide) rfl (fun ls hl => ?_)
            refine lv_iinc (v := nI (i + 1)) (lv' := [(2, .int (nI (i + 1))), (1, .int (x ||| (1 <<< ((nI i) &&& 31)))), (0, .ref a.1)]) hx hb dX0_openAcross_50 hl (k := 2) rfl (nI_1 i) (by decide) rfl (fun ls hl => ?_)
            refine lv_goto (tgt := 4) hx hb dX0_openAcross_53 (by decide) ?_
            exact ih (i + 1) (x ||| (1 <<< ((nI i) &&& 31))) (by omega) (by rw [hR, zAc, if_pos ⟨Nat.not_le.mp (fun q => c_m ((nI_leI (by decide) (by omega)).mpr q)), c_a, c_b⟩]) _ _ hM _ (lv_sub hl [2, 1, 0] rfl)
  exact lp4 8 0 0 rfl rfl _ _ hM _ (lv_sub hl [2, 1, 0] rfl)

set_option maxHeartbeats 4000000 in
set_option maxRecDepth 100000 in
theorem c_openDown (l : Launch) (G : zC) (a : zBA) (f : Nat → Int32) : zMet l G yX0_openDown wsX0_openDown rmX0_openDown [.ref a.1] (bdW G a f) (some (.int (zDow f))) (bdW G a f) := by
  refine zMet_of (cc := cX0_openDown) (maxL := 3) (ret := (some .int)) (by decide) rfl (Nat.le_of_ble_eq_true rfl) ?_
  intro p e s m below meth c A ls hx hb hr hml hown hts hK hA hE hlocks hin hM hl
  have hown : s.vm.findClass RX0 = some m.cls := hown
  have hM : zM G A s s.heap [] ([(a.1, .inr (0, [.ref a.2.1, .ref a.2.2.1, .ref a.2.2.2, .int (f 24), .int (f 23), .int (f 25), .int (f 26), .int (f 27)])), (a.2.1, .inl (G.2 1, 9, .inl (fun i => f i))), (a.2.2.1, .inl (G.2 1, 9, .inl (fun i => f (9 + i)))), (a.2.2.2, .inl (G.2 1, 5, .inl (fun i => f (18 + i))))]) := hM
  have hl : lv_has ls 3 [(0, .ref a.1)] := hl
  refine lv_iconst (v := 0) hx hb dX0_openDown_0 (by decide) ?_
  refine lv_istore_n (lv' := [(1, .int 0), (0, .ref a.1)]) hx hb dX0_openDown_1 rfl hl (by decide) rfl (fun ls hl => ?_)
  refine lv_iconst (v := nI 0) hx hb dX0_openDown_2 (by decide) ?_
  refine lv_istore_n (lv' := [(2, .int (nI 0)), (1, .int 0), (0, .ref a.1)]) hx hb dX0_openDown_3 rfl hl (by decide) rfl (fun ls hl => ?_)
  have lp4 : ∀ (k : Nat) (i : Nat) (x : Int32), (i + k = 6) → (zDow f = zDo f k i x) → ∀ (H : Heap) (locs : List Loc), zM G A s H locs ([(a.1, .inr (0, [.ref a.2.1, .ref a.2.2.1, .ref a.2.2.2, .int (f 24), .int (f 23), .int (f 25), .int (f 26), .int (f 27)])), (a.2.1, .inl (G.2 1, 9, .inl (fun i => f i))), (a.2.2.1, .inl (G.2 1, 9, .inl (fun i => f (9 + i)))), (a.2.2.2, .inl (G.2 1, 5, .inl (fun i => f (18 + i))))]) → ∀ ls : Array Slot, lv_has ls 3 [(0, .ref a.1), (1, .int x), (2, .int (nI i))] → W p l e rmX0_openDown s m ([.ref a.1] : List Value).toArray below meth c H locs 0 0 (zEnd G below ([.ref a.1] : List Value).toArray s rmX0_openDown A (some (.int (zDow f))) (bdW G a f)) (F0 m 4 ls []) := by
    intro k
    induction k with
    | zero =>
      intro i x hik hR H locs hM ls hl
      refine lv_iload_n hx hb dX0_openDown_4 rfl (lv_at hl 2 rfl) ?_
      refine lv_iconst (v := nI 3) hx hb dX0_openDown_5 (by decide) ?_
      refine lv_iadd hx hb dX0_openDown_6 ?_
      rw [nI_add i 3]
      refine lv_bipush (v := nI 9) hx hb dX0_openDown_7 (by decide) ?_
      refine lv_icmp_ge (tgt := 48) hx hb dX0_openDown_9 (by decide) (fun c_1 => ?_) (fun c_1 => absurd (nI_le (by omega) (by omega)) c_1)
      refine lv_iload_n hx hb dX0_openDown_48 rfl (lv_at hl 1 rfl) ?_
      exact z_iret hx hb hr hlocks dX0_openDown_49 hM (Nat.le_of_ble_eq_true rfl) (Nat.le_of_ble_eq_true rfl) (by rw [hR]; rfl)
    | succ k ih =>
      intro i x hik hR H locs hM ls hl
      refine lv_iload_n hx hb dX0_openDown_4 rfl (lv_at hl 2 rfl) ?_
      refine lv_iconst (v := nI 3) hx hb dX0_openDown_5 (by decide) ?_
      refine lv_iadd hx hb dX0_openDown_6 ?_
      rw [nI_add i 3]
      refine lv_bipush (v := nI 9) hx hb dX0_openDown_7 (by decide) ?_
      refine lv_icmp_ge (tgt := 48) hx hb dX0_openDown_9 (by decide) (fun c_2 => absurd c_2 (nI_ge (by omega) (by omega))) (fun c_2 => ?_)
      refine lv_aload_n hx hb dX0_openDown_12 rfl (lv_at hl 0 rfl) ?_
      refine z_get (ci := 0) (v := .ref a.2.1) (C := RX0) (T := TX0) (N := 8) hx hb hts (by decide +kernel) hown hK hM 0 rfl rfl 0 (by decide) (hts (.fieldLink RX0 9 "ShiftIsles$Board" "openings" "[I") (by decide +kernel)) (fun _ h9 => h9) rfl dX0_openDown_13 ?_
      refine lv_iload_n hx hb dX0_openDown_16 rfl (lv_at hl 2 rfl) ?_
      refine z_iald hx hb hK hM 1 rfl (v := f i) (vp_in_nI (by omega) (by decide)) (by rw [nI_clamp (by omega)]) dX0_openDown_17 ?_
      refine lv_iconst (v := 4) hx hb dX0_openDown_18 (by decide) ?_
      refine lv_iand hx hb dX0_openDown_19 ?_
      refine lv_if_eq (tgt := 42) hx hb dX0_openDown_20 (by decide) (fun c_a => ?_) (fun c_a => ?_)
      · skip
        refine lv_iinc (v := nI (i + 1)) (lv' := [(2, .int (nI (i + 1))), (0, .ref a.1), (1, .int x)]) hx hb dX0_openDown_42 hl (k := 2) rfl (nI_1 i) (by decide) rfl (fun ls hl => ?_)
        refine lv_goto (tgt := 4) hx hb dX0_openDown_45 (by decide) ?_
        exact ih (i + 1) x (by omega) (by rw [hR, zDo, if_neg (fun q => q.1 c_a)]) _ _ hM _ (lv_sub hl [1, 2, 0] rfl)
      · skip
        refine lv_aload_n hx hb dX0_openDown_23 rfl (lv_at hl 0 rfl) ?_
        refine z_get (ci := 0) (v := .ref a.2.1) (C := RX0) (T := TX0) (N := 8) hx hb hts (by decide +kernel) hown hK hM 0 rfl rfl 0 (by decide) (hts (.fieldLink RX0 9 "ShiftIsles$Board" "openings" "[I") (by decide +kernel)) (fun _ h9 => h9) rfl dX0_openDown_24 ?_
        refine lv_iload_n hx hb dX0_openDown_27 rfl (lv_at hl 2 rfl) ?_
        refine lv_iconst (v := nI 3) hx hb dX0_openDown_28 (by decide) ?_
        refine lv_iadd hx hb dX0_openDown_29 ?_
        rw [nI_add i 3]
        refine z_iald hx hb hK hM 1 rfl (v := f (i + 3)) (vp_in_nI (by omega) (by decide)) (by rw [nI_clamp (by omega)]) dX0_openDown_30 ?_
        refine lv_iconst (v := 1) hx hb dX0_openDown_31 (by decide) ?_
        refine lv_iand hx hb dX0_openDown_32 ?_
        refine lv_if_eq (tgt := 42) hx hb dX0_openDown_33 (by decide) (fun c_b => ?_) (fun c_b => ?_)
        · skip
          refine lv_iinc (v := nI (i + 1)) (lv' := [(2, .int (nI (i + 1))), (0, .ref a.1), (1, .int x)]) hx hb dX0_openDown_42 hl (k := 2) rfl (nI_1 i) (by decide) rfl (fun ls hl => ?_)
          refine lv_goto (tgt := 4) hx hb dX0_openDown_45 (by decide) ?_
          exact ih (i + 1) x (by omega) (by rw [hR, zDo, if_neg (fun q => q.2 c_b)]) _ _ hM _ (lv_sub hl [1, 2, 0] rfl)
        · skip
          refine lv_iload_n hx hb dX0_openDown_36 rfl (lv_at hl 1 rfl) ?_
          refine lv_iconst (v := 1) hx hb dX0_openDown_37 (by decide) ?_
          refine lv_iload_n hx hb dX0_openDown_38 rfl (lv_at hl 2 rfl) ?_
          refine lv_ishl hx hb dX0_openDown_39 ?_
          refine lv_ior hx hb dX0_openDown_40 ?_
          refine lv_istore_n (lv' := [(1, .int (x ||| (1 <<< ((nI i) &&& 31)))), (0, .ref a.1), (2, .int (nI i))]) hx hb dX0_openDown_41 rfl hl (by decide) rfl (fun ls hl => ?_)
          refine lv_iinc (v := nI (i + 1)) (lv' := [(2, .int (nI (i + 1))), (1, .int (x ||| (1 <<< ((nI i) &&& 31)))), (0, .ref a.1)]) hx hb dX0_openDown_42 hl (k := 2) rfl (nI_1 i) (by decide) rfl (fun ls hl => ?_)
          refine lv_goto (tgt := 4) hx hb dX0_openDown_45 (by decide) ?_
          exact ih (i + 1) (x ||| (1 <<< ((nI i) &&& 31))) (by omega) (by rw [hR, zDo, if_pos ⟨c_a, c_b⟩]) _ _ hM _ (lv_sub hl [2, 1, 0] rfl)
  exact lp4 6 0 0 rfl rfl _ _ hM _ (lv_sub hl [2, 1, 0] rfl)

set_option maxHeartbeats 4000000 in
set_option maxRecDepth 100000 in
theorem c_reach (l : Launch) (G : zC) (a : zBA) (f : Nat → Int32) (n : Nat) (hn : n < 100) : zMet l G yX0_reach wsX0_reach rmX0_reach [.ref a.1, .int (nI n)] (bdW G a f) (some (.int (zRch f n))) (bdW G a f) := by
  refine zMet_of (cc := cX0_reach) (maxL := 6) (ret := (some .int)) (by decide) rfl (Nat.le_of_ble_eq_true rfl) ?_
  intro p e s m below meth c A ls hx hb hr hml hown hts hK hA hE hlocks hin hM hl
  have hown : s.vm.findClass RX0 = some m.cls := hown
  have hM : zM G A s s.heap [] ([(a.1, .inr (0, [.ref a.2.1, .ref a.2.2.1, .ref a.2.2.2, .int (f 24), .int (f 23), .int (f 25), .int (f 26), .int (f 27)])), (a.2.1, .inl (G.2 1, 9, .inl (fun i => f i))), (a.2.2.1, .inl (G.2 1, 9, .inl (fun i => f (9 + i)))), (a.2.2.2, .inl (G.2 1, 5, .inl (fun i => f (18 + i))))]) := hM
  have hl : lv_has ls 6 [(0, .ref a.1), (1, .int (nI n))] := hl
  refine lv_aload_n hx hb dX0_reach_0 rfl (lv_at hl 0 rfl) ?_
  refine z_callV (As := []) (rest := []) (wc := bdW G a f) (wr := []) (w1 := bdW G a f) (ws' := [(a.1, .inr (0, [.ref a.2.1, .ref a.2.2.1, .ref a.2.2.2, .int (f 24), .int (f 23), .int (f 25), .int (f 26), .int (f 27)])), (a.2.1, .inl (G.2 1, 9, .inl (fun i => f i))), (a.2.2.1, .inl (G.2 1, 9, .inl (fun i => f (9 + i)))), (a.2.2.2, .inl (G.2 1, 5, .inl (fun i => f (18 + i))))]) ⟨hx, hb, hml, hown, hts⟩ (c_openAcross l G a f ) (cwV 0 hts gX0_reach_X0_openAcross rfl rfl rfl (by decide +kernel) ⟨Nat.le_of_ble_eq_true rfl, Nat.le_of_ble_eq_true rfl⟩) 0 rfl rfl rfl rfl hl.1 rfl (Nat.le_of_ble_eq_true rfl) dX0_reach_1 ⟨Nat.le_of_ble_eq_true rfl, Nat.le_of_ble_eq_true rfl⟩ hK hE hA hM (pm_at 4 [0, 1, 2, 3] [] rfl rfl rfl (by decide)) ((pm_at 4 [0, 1, 2, 3] [] rfl rfl rfl (by decide))).symm (fun H locs hM hz => ?_)
  refine lv_istore_n (lv' := [(2, .int (zAcr f)), (0, .ref a.1), (1, .int (nI n))]) hx hb dX0_reach_4 rfl hl (by decide) rfl (fun ls hl => ?_)
  refine lv_aload_n hx hb dX0_reach_5 rfl (lv_at hl 1 rfl) ?_
  refine z_callV (As := []) (rest := []) (wc := bdW G a f) (wr := []) (w1 := bdW G a f) (ws' := [(a.1, .inr (0, [.ref a.2.1, .ref a.2.2.1, .ref a.2.2.2, .int (f 24), .int (f 23), .int (f 25), .int (f 26), .int (f 27)])), (a.2.1, .inl (G.2 1, 9, .inl (fun i => f i))), (a.2.2.1, .inl (G.2 1, 9, .inl (fun i => f (9 + i)))), (a.2.2.2, .inl (G.2 1, 5, .inl (fun i => f (18 + i))))]) ⟨hx, hb, hml, hown, hts⟩ (c_openDown l G a f ) (cwV 0 hts gX0_reach_X0_openDown rfl rfl rfl (by decide +kernel) ⟨Nat.le_of_ble_eq_true rfl, Nat.le_of_ble_eq_true rfl⟩) 0 rfl rfl rfl rfl hl.1 rfl (Nat.le_of_ble_eq_true rfl) dX0_reach_6 ⟨Nat.le_of_ble_eq_true rfl, Nat.le_of_ble_eq_true rfl⟩ hK hE hA hM (pm_at 4 [0, 1, 2, 3] [] rfl rfl rfl (by decide)) ((pm_at 4 [0, 1, 2, 3] [] rfl rfl rfl (by decide))).symm (fun H locs hM hz => ?_)
  refine lv_istore_n (lv' := [(3, .int (zDow f)), (2, .int (zAcr f)), (0, .ref a.1), (1, .int (nI n))]) hx hb dX0_reach_9 rfl hl (by decide) rfl (fun ls hl => ?_)
  refine lv_iconst (v := 1) hx hb dX0_reach_10 (by decide) ?_
  refine lv_aload_n hx hb dX0_reach_11 rfl (lv_at hl 2 rfl) ?_
  refine z_get (ci := 0) (v := .int (f 24)) (C := RX0) (T := TX0) (N := 8) hx hb hts (by decide +kernel) hown hK hM 0 rfl rfl 3 (by decide) (hts (.fieldLink RX0 27 "ShiftIsles$Board" "ship" "I") (by decide +kernel)) (fun _ h9 => h9) rfl dX0_reach_12 ?_
  refine lv_ishl hx hb dX0_reach_15 ?_
  refine lv_istore (lv' := [(4, .int (1 <<< ((f 24) &&& 31))), (3, .int (zDow f)), (2, .int (zAcr f)), (0, .ref a.1), (1, .int (nI n))]) hx hb dX0_reach_16 hl (by decide) rfl (fun ls hl => ?_)
  refine lv_iconst (v := nI 0) hx hb dX0_reach_18 (by decide) ?_
  refine lv_istore (lv' := [(5, .int (nI 0)), (4, .int (1 <<< ((f 24) &&& 31))), (3, .int (zDow f)), (2, .int (zAcr f)), (0, .ref a.1), (1, .int (nI n))]) hx hb dX0_reach_19 hl (by decide) rfl (fun ls hl => ?_)
  have lp21 : ∀ (k : Nat) (i : Nat) (x : Int32), (i + k = n) → (zRch f n = zRe (zAcr f) (zDow f) k x) → ∀ (H : Heap) (locs : List Loc), zM G A s H locs ([(a.1, .inr (0, [.ref a.2.1, .ref a.2.2.1, .ref a.2.2.2, .int (f 24), .int (f 23), .int (f 25), .int (f 26), .int (f 27)])), (a.2.1, .inl (G.2 1, 9, .inl (fun i => f i))), (a.2.2.1, .inl (G.2 1, 9, .inl (fun i => f (9 + i)))), (a.2.2.2, .inl (G.2 1, 5, .inl (fun i => f (18 + i))))]) → ∀ ls : Array Slot, lv_has ls 6 [(0, .ref a.1), (1, .int (nI n)), (2, .int (zAcr f)), (3, .int (zDow f)), (4, .int x), (5, .int (nI i))] → W p l e rmX0_reach s m ([.ref a.1, .int (nI n)] : List Value).toArray below meth c H locs 0 0 (zEnd G below ([.ref a.1, .int (nI n)] : List Value).toArray s rmX0_reach A (some (.int (zRch f n))) (bdW G a f)) (F0 m 21 ls []) := by
    intro k
    induction k with
    | zero =>
      intro i x hik hR H locs hM ls hl
      refine lv_iload hx hb dX0_reach_21 (lv_at hl 5 rfl) ?_
      refine lv_iload_n hx hb dX0_reach_23 rfl (lv_at hl 1 rfl) ?_
      refine lv_icmp_ge (tgt := 42) hx hb dX0_reach_24 (by decide) (fun c_1 => ?_) (fun c_1 => absurd (nI_le (by omega) (by omega)) c_1)
      refine lv_iload hx hb dX0_reach_42 (lv_at hl 4 rfl) ?_
      exact z_iret hx hb hr hlocks dX0_reach_44 hM (Nat.le_of_ble_eq_true rfl) (Nat.le_of_ble_eq_true rfl) (by rw [hR]; rfl)
    | succ k ih =>
      intro i x hik hR H locs hM ls hl
      refine lv_iload hx hb dX0_reach_21 (lv_at hl 5 rfl) ?_
      refine lv_iload_n hx hb dX0_reach_23 rfl (lv_at hl 1 rfl) ?_
      refine lv_icmp_ge (tgt := 42) hx hb dX0_reach_24 (by decide) (fun c_2 => absurd c_2 (nI_ge (by omega) (by omega))) (fun c_2 => ?_)
      refine lv_iload hx hb dX0_reach_27 (lv_at hl 4 rfl) ?_
      refine lv_iload_n hx hb dX0_reach_29 rfl (lv_at hl 2 rfl) ?_
      refine lv_iload_n hx hb dX0_reach_30 rfl (lv_at hl 3 rfl) ?_
      refine z_callS (As := [.int x, .int (zAcr f), .int (zDow f)]) (rest := []) (wc := []) (wr := [(a.1, .inr (0, [.ref a.2.1, .ref a.2.2.1, .ref a.2.2.2, .int (f 24), .int (f 23), .int (f 25), .int (f 26), .int (f 27)])), (a.2.1, .inl (G.2 1, 9, .inl (fun i => f i))), (a.2.2.1, .inl (G.2 1, 9, .inl (fun i => f (9 + i)))), (a.2.2.2, .inl (G.2 1, 5, .inl (fun i => f (18 + i))))]) (w1 := []) (ws' := [(a.1, .inr (0, [.ref a.2.1, .ref a.2.2.1, .ref a.2.2.2, .int (f 24), .int (f 23), .int (f 25), .int (f 26), .int (f 27)])), (a.2.1, .inl (G.2 1, 9, .inl (fun i => f i))), (a.2.2.1, .inl (G.2 1, 9, .inl (fun i => f (9 + i)))), (a.2.2.2, .inl (G.2 1, 5, .inl (fun i => f (18 + i))))]) ⟨hx, hb, hml, hown, hts⟩ (c_widened l G x (zAcr f) (zDow f)) (va_cwS 3 hts gX0_reach_X0_widened rfl rfl rfl (by decide +kernel) ⟨Nat.le_of_ble_eq_true rfl, Nat.le_of_ble_eq_true rfl⟩) rfl hl.1 rfl (Nat.le_of_ble_eq_true rfl) dX0_reach_31 ⟨Nat.le_of_ble_eq_true rfl, Nat.le_of_ble_eq_true rfl⟩ hK hE hA hM (List.Perm.refl _) (List.Perm.refl _) (fun H locs hM hz => ?_)
      refine lv_istore (lv' := [(4, .int (zWi x (zAcr f) (zDow f))), (0, .ref a.1), (1, .int (nI n)), (2, .int (zAcr f)), (3, .int (zDow f)), (5, .int (nI i))]) hx hb dX0_reach_34 hl (by decide) rfl (fun ls hl => ?_)
      refine lv_iinc (v := nI (i + 1)) (lv' := [(5, .int (nI (i + 1))), (4, .int (zWi x (zAcr f) (zDow f))), (0, .ref a.1), (1, .int (nI n)), (2, .int (zAcr f)), (3, .int (zDow f))]) hx hb dX0_reach_36 hl (k := 5) rfl (nI_1 i) (by decide) rfl (fun ls hl => ?_)
      refine lv_goto (tgt := 21) hx hb dX0_reach_39 (by decide) ?_
      exact ih (i + 1) _ (by omega) hR _ _ hM _ (lv_sub hl [2, 3, 4, 5, 1, 0] rfl)
  exact lp21 n 0 _ (by omega) rfl _ _ hM _ (lv_sub hl [4, 5, 3, 2, 1, 0] rfl)

set_option maxHeartbeats 4000000 in
set_option maxRecDepth 100000 in
theorem c_stepsTo (l : Launch) (G : zC) (a : zBA) (f : Nat → Int32) (n : Int32) : zMet l G yX0_stepsTo wsX0_stepsTo rmX0_stepsTo [.ref a.1, .int n] (bdW G a f) (some (.int (zSts f n))) (bdW G a f) := by
  refine zMet_of (cc := cX0_stepsTo) (maxL := 6) (ret := (some .int)) (by decide) rfl (Nat.le_of_ble_eq_true rfl) ?_
  intro p e s m below meth c A ls hx hb hr hml hown hts hK hA hE hlocks hin hM hl
  have hown : s.vm.findClass RX0 = some m.cls := hown
  have hM : zM G A s s.heap [] ([(a.1, .inr (0, [.ref a.2.1, .ref a.2.2.1, .ref a.2.2.2, .int (f 24), .int (f 23), .int (f 25), .int (f 26), .int (f 27)])), (a.2.1, .inl (G.2 1, 9, .inl (fun i => f i))), (a.2.2.1, .inl (G.2 1, 9, .inl (fun i => f (9 + i)))), (a.2.2.2, .inl (G.2 1, 5, .inl (fun i => f (18 + i))))]) := hM
  have hl : lv_has ls 6 [(0, .ref a.1), (1, .int n)] := hl
  refine lv_aload_n hx hb dX0_stepsTo_0 rfl (lv_at hl 0 rfl) ?_
  refine z_callV (As := []) (rest := []) (wc := bdW G a f) (wr := []) (w1 := bdW G a f) (ws' := [(a.1, .inr (0, [.ref a.2.1, .ref a.2.2.1, .ref a.2.2.2, .int (f 24), .int (f 23), .int (f 25), .int (f 26), .int (f 27)])), (a.2.1, .inl (G.2 1, 9, .inl (fun i => f i))), (a.2.2.1, .inl (G.2 1, 9, .inl (fun i => f (9 + i)))), (a.2.2.2, .inl (G.2 1, 5, .inl (fun i => f (18 + i))))]) ⟨hx, hb, hml, hown, hts⟩ (c_openAcross l G a f ) (cwV 0 hts gX0_stepsTo_X0_openAcross rfl rfl rfl (by decide +kernel) ⟨Nat.le_of_ble_eq_true rfl, Nat.le_of_ble_eq_true rfl⟩) 0 rfl rfl rfl rfl hl.1 rfl (Nat.le_of_ble_eq_true rfl) dX0_stepsTo_1 ⟨Nat.le_of_ble_eq_true rfl, Nat.le_of_ble_eq_true rfl⟩ hK hE hA hM (pm_at 4 [0, 1, 2, 3] [] rfl rfl rfl (by decide)) ((pm_at 4 [0, 1, 2, 3] [] rfl rfl rfl (by decide))).symm (fun H locs hM hz => ?_)
  refine lv_istore_n (lv' := [(2, .int (zAcr f)), (0, .ref a.1), (1, .int n)]) hx hb dX0_stepsTo_4 rfl hl (by decide) rfl (fun ls hl => ?_)
  refine lv_aload_n hx hb dX0_stepsTo_5 rfl (lv_at hl 1 rfl) ?_
  refine z_callV (As := []) (rest := []) (wc := bdW G a f) (wr := []) (w1 := bdW G a f) (ws' := [(a.1, .inr (0, [.ref a.2.1, .ref a.2.2.1, .ref a.2.2.2, .int (f 24), .int (f 23), .int (f 25), .int (f 26), .int (f 27)])), (a.2.1, .inl (G.2 1, 9, .inl (fun i => f i))), (a.2.2.1, .inl (G.2 1, 9, .inl (fun i => f (9 + i)))), (a.2.2.2, .inl (G.2 1, 5, .inl (fun i => f (18 + i))))]) ⟨hx, hb, hml, hown, hts⟩ (c_openDown l G a f ) (cwV 0 hts gX0_stepsTo_X0_openDown rfl rfl rfl (by decide +kernel) ⟨Nat.le_of_ble_eq_true rfl, Nat.le_of_ble_eq_true rfl⟩) 0 rfl rfl rfl rfl hl.1 rfl (Nat.le_of_ble_eq_true rfl) dX0_stepsTo_6 ⟨Nat.le_of_ble_eq_true rfl, Nat.le_of_ble_eq_true rfl⟩ hK hE hA hM (pm_at 4 [0, 1, 2, 3] [] rfl rfl rfl (by decide)) ((pm_at 4 [0, 1, 2, 3] [] rfl rfl rfl (by decide))).symm (fun H locs hM hz => ?_)
  refine lv_istore_n (lv' := [(3, .int (zDow f)), (2, .int (zAcr f)), (0, .ref a.1), (1, .int n)]) hx hb dX0_stepsTo_9 rfl hl (by decide) rfl (fun ls hl => ?_)
  refine lv_iconst (v := 1) hx hb dX0_stepsTo_10 (by decide) ?_
  refine lv_aload_n hx hb dX0_stepsTo_11 rfl (lv_at hl 2 rfl) ?_
  refine z_get (ci := 0) (v := .int (f 24)) (C := RX0) (T := TX0) (N := 8) hx hb hts (by decide +kernel) hown hK hM 0 rfl rfl 3 (by decide) (hts (.fieldLink RX0 27 "ShiftIsles$Board" "ship" "I") (by decide +kernel)) (fun _ h9 => h9) rfl dX0_stepsTo_12 ?_
  refine lv_ishl hx hb dX0_stepsTo_15 ?_
  refine lv_istore (lv' := [(4, .int (1 <<< ((f 24) &&& 31))), (3, .int (zDow f)), (2, .int (zAcr f)), (0, .ref a.1), (1, .int n)]) hx hb dX0_stepsTo_16 hl (by decide) rfl (fun ls hl => ?_)
  refine lv_iconst (v := nI 0) hx hb dX0_stepsTo_18 (by decide) ?_
  refine lv_istore (lv' := [(5, .int (nI 0)), (4, .int (1 <<< ((f 24) &&& 31))), (3, .int (zDow f)), (2, .int (zAcr f)), (0, .ref a.1), (1, .int n)]) hx hb dX0_stepsTo_19 hl (by decide) rfl (fun ls hl => ?_)
  have lp21 : ∀ (k : Nat) (i : Nat) (x : Int32), (i + k = 9) → (zSts f n = zSt (zAcr f) (zDow f) n k i x) → ∀ (H : Heap) (locs : List Loc), zM G A s H locs ([(a.1, .inr (0, [.ref a.2.1, .ref a.2.2.1, .ref a.2.2.2, .int (f 24), .int (f 23), .int (f 25), .int (f 26), .int (f 27)])), (a.2.1, .inl (G.2 1, 9, .inl (fun i => f i))), (a.2.2.1, .inl (G.2 1, 9, .inl (fun i => f (9 + i)))), (a.2.2.2, .inl (G.2 1, 5, .inl (fun i => f (18 + i))))]) → ∀ ls : Array Slot, lv_has ls 6 [(0, .ref a.1), (1, .int n), (2, .int (zAcr f)), (3, .int (zDow f)), (4, .int x), (5, .int (nI i))] → W p l e rmX0_stepsTo s m ([.ref a.1, .int n] : List Value).toArray below meth c H locs 0 0 (zEnd G below ([.ref a.1, .int n] : List Value).toArray s rmX0_stepsTo A (some (.int (zSts f n))) (bdW G a f)) (F0 m 21 ls []) := by
    intro k
    induction k with
    | zero =>
      intro i x hik hR H locs hM ls hl
      refine lv_iload hx hb dX0_stepsTo_21 (lv_at hl 5 rfl) ?_
      refine lv_bipush (v := nI 9) hx hb dX0_stepsTo_23 (by decide) ?_
      refine lv_icmp_ge (tgt := 55) hx hb dX0_stepsTo_25 (by decide) (fun c_1 => ?_) (fun c_1 => absurd (nI_le (by omega) (by omega)) c_1)
      refine lv_iconst (v := (-1)) hx hb dX0_stepsTo_55 (by decide) ?_
      exact z_iret hx hb hr hlocks dX0_stepsTo_56 hM (Nat.le_of_ble_eq_true rfl) (Nat.le_of_ble_eq_true rfl) (by rw [hR]; rfl)
    | succ k ih =>
      intro i x hik hR H locs hM ls hl
      refine lv_iload hx hb dX0_stepsTo_21 (lv_at hl 5 rfl) ?_
      refine lv_bipush (v := nI 9) hx hb dX0_stepsTo_23 (by decide) ?_
      refine lv_icmp_ge (tgt := 55) hx hb dX0_stepsTo_25 (by decide) (fun c_2 => absurd c_2 (nI_ge (by omega) (by omega))) (fun c_2 => ?_)
      refine lv_iload hx hb dX0_stepsTo_28 (lv_at hl 4 rfl) ?_
      refine lv_iload_n hx hb dX0_stepsTo_30 rfl (lv_at hl 1 rfl) ?_
      refine z_callSN (As := [.int x, .int n]) (rest := []) (wc := []) (wr := [(a.1, .inr (0, [.ref a.2.1, .ref a.2.2.1, .ref a.2.2.2, .int (f 24), .int (f 23), .int (f 25), .int (f 26), .int (f 27)])), (a.2.1, .inl (G.2 1, 9, .inl (fun i => f i))), (a.2.2.1, .inl (G.2 1, 9, .inl (fun i => f (9 + i)))), (a.2.2.2, .inl (G.2 1, 5, .inl (fun i => f (18 + i))))]) (w1 := []) (ws' := [(a.1, .inr (0, [.ref a.2.1, .ref a.2.2.1, .ref a.2.2.2, .int (f 24), .int (f 23), .int (f 25), .int (f 26), .int (f 27)])), (a.2.1, .inl (G.2 1, 9, .inl (fun i => f i))), (a.2.2.1, .inl (G.2 1, 9, .inl (fun i => f (9 + i)))), (a.2.2.2, .inl (G.2 1, 5, .inl (fun i => f (18 + i))))]) ⟨hx, hb, hml, hown, hts⟩ (c_isIn l G x n) ⟨va_cnB (host := RX6) 2 hts gX0_stepsTo_X6_isIn_n85 rfl rfl rfl (hE.1.1 _ (List.mem_of_getElem? (i := 8) rfl)) (hts _ (by decide +kernel)) (by decide +kernel) ⟨Nat.le_of_ble_eq_true rfl, Nat.le_of_ble_eq_true rfl⟩, hts _ (by decide +kernel), trivial⟩ rfl hl.1 rfl (Nat.le_of_ble_eq_true rfl) dX0_stepsTo_31 ⟨Nat.le_of_ble_eq_true rfl, Nat.le_of_ble_eq_true rfl⟩ hK hE hA hM (List.Perm.refl _) (List.Perm.refl _) (fun H locs hM hz => ?_)
      refine z_ifeq (tgt := 40) hx hb dX0_stepsTo_34 (by decide) (fun c_i => ?_) (fun c_i => ?_)
      · skip
        refine lv_iload hx hb dX0_stepsTo_40 (lv_at hl 4 rfl) ?_
        refine lv_iload_n hx hb dX0_stepsTo_42 rfl (lv_at hl 2 rfl) ?_
        refine lv_iload_n hx hb dX0_stepsTo_43 rfl (lv_at hl 3 rfl) ?_
        refine z_callS (As := [.int x, .int (zAcr f), .int (zDow f)]) (rest := []) (wc := []) (wr := [(a.1, .inr (0, [.ref a.2.1, .ref a.2.2.1, .ref a.2.2.2, .int (f 24), .int (f 23), .int (f 25), .int (f 26), .int (f 27)])), (a.2.1, .inl (G.2 1, 9, .inl (fun i => f i))), (a.2.2.1, .inl (G.2 1, 9, .inl (fun i => f (9 + i)))), (a.2.2.2, .inl (G.2 1, 5, .inl (fun i => f (18 + i))))]) (w1 := []) (ws' := [(a.1, .inr (0, [.ref a.2.1, .ref a.2.2.1, .ref a.2.2.2, .int (f 24), .int (f 23), .int (f 25), .int (f 26), .int (f 27)])), (a.2.1, .inl (G.2 1, 9, .inl (fun i => f i))), (a.2.2.1, .inl (G.2 1, 9, .inl (fun i => f (9 + i)))), (a.2.2.2, .inl (G.2 1, 5, .inl (fun i => f (18 + i))))]) ⟨hx, hb, hml, hown, hts⟩ (c_widened l G x (zAcr f) (zDow f)) (va_cwS 3 hts gX0_stepsTo_X0_widened rfl rfl rfl (by decide +kernel) ⟨Nat.le_of_ble_eq_true rfl, Nat.le_of_ble_eq_true rfl⟩) rfl hl.1 rfl (Nat.le_of_ble_eq_true rfl) dX0_stepsTo_44 ⟨Nat.le_of_ble_eq_true rfl, Nat.le_of_ble_eq_true rfl⟩ hK hE hA hM (List.Perm.refl _) (List.Perm.refl _) (fun H locs hM hz => ?_)
        refine lv_istore (lv' := [(4, .int (zWi x (zAcr f) (zDow f))), (0, .ref a.1), (1, .int n), (2, .int (zAcr f)), (3, .int (zDow f)), (5, .int (nI i))]) hx hb dX0_stepsTo_47 hl (by decide) rfl (fun ls hl => ?_)
        refine lv_iinc (v := nI (i + 1)) (lv' := [(5, .int (nI (i + 1))), (4, .int (zWi x (zAcr f) (zDow f))), (0, .ref a.1), (1, .int n), (2, .int (zAcr f)), (3, .int (zDow f))]) hx hb dX0_stepsTo_49 hl (k := 5) rfl (nI_1 i) (by decide) rfl (fun ls hl => ?_)
        refine lv_goto (tgt := 21) hx hb dX0_stepsTo_52 (by decide) ?_
        exact ih (i + 1) _ (by omega) (by rw [hR, zSt, if_neg (by rw [c_i]; decide)]) _ _ hM _ (lv_sub hl [2, 3, 4, 5, 1, 0] rfl)
      · skip
        refine lv_iload hx hb dX0_stepsTo_37 (lv_at hl 5 rfl) ?_
        exact z_iret hx hb hr hlocks dX0_stepsTo_39 hM (Nat.le_of_ble_eq_true rfl) (Nat.le_of_ble_eq_true rfl) (by rw [hR, zSt, if_pos c_i])
  exact lp21 9 0 _ rfl rfl _ _ hM _ (lv_sub hl [4, 5, 3, 2, 1, 0] rfl)

set_option maxHeartbeats 4000000 in
set_option maxRecDepth 100000 in
theorem c_landOn (l : Launch) (G : zC) (a : zBA) (f : Nat → Int32) (k : Nat) (hk : k < 9) : zMet l G yX0_landOn wsX0_landOn rmX0_landOn [.ref a.1, .int (nI k)] (bdW G a f) (some (.int (zLr f k))) (bdW G a (zLd f k)) := by
  refine zMet_of (cc := cX0_landOn) (maxL := 3) (ret := (some .int)) (by decide) rfl (Nat.le_of_ble_eq_true rfl) ?_
  intro p e s m below meth c A ls hx hb hr hml hown hts hK hA hE hlocks hin hM hl
  have hown : s.vm.findClass RX0 = some m.cls := hown
  have hM : zM G A s s.heap [] ([(a.1, .inr (0, [.ref a.2.1, .ref a.2.2.1, .ref a.2.2.2, .int (f 24), .int (f 23), .int (f 25), .int (f 26), .int (f 27)])), (a.2.1, .inl (G.2 1, 9, .inl (fun i => f i))), (a.2.2.1, .inl (G.2 1, 9, .inl (fun i => f (9 + i)))), (a.2.2.2, .inl (G.2 1, 5, .inl (fun i => f (18 + i))))]) := hM
  have hl : lv_has ls 3 [(0, .ref a.1), (1, .int (nI k))] := hl
  refine lv_iload_n hx hb dX0_landOn_0 rfl (lv_at hl 1 rfl) ?_
  refine z_callSN (As := [.int (nI k)]) (rest := []) (wc := []) (wr := [(a.1, .inr (0, [.ref a.2.1, .ref a.2.2.1, .ref a.2.2.2, .int (f 24), .int (f 23), .int (f 25), .int (f 26), .int (f 27)])), (a.2.1, .inl (G.2 1, 9, .inl (fun i => f i))), (a.2.2.1, .inl (G.2 1, 9, .inl (fun i => f (9 + i)))), (a.2.2.2, .inl (G.2 1, 5, .inl (fun i => f (18 + i))))]) (w1 := []) (ws' := [(a.1, .inr (0, [.ref a.2.1, .ref a.2.2.1, .ref a.2.2.2, .int (f 24), .int (f 23), .int (f 25), .int (f 26), .int (f 27)])), (a.2.1, .inl (G.2 1, 9, .inl (fun i => f i))), (a.2.2.1, .inl (G.2 1, 9, .inl (fun i => f (9 + i)))), (a.2.2.2, .inl (G.2 1, 5, .inl (fun i => f (18 + i))))]) ⟨hx, hb, hml, hown, hts⟩ (c_isPlace l G (nI k)) ⟨va_cnB (host := RX6) 1 hts gX0_landOn_X6_isPlace_n56 rfl rfl rfl (hE.1.1 _ (List.mem_of_getElem? (i := 1) rfl)) (hts _ (by decide +kernel)) (by decide +kernel) ⟨Nat.le_of_ble_eq_true rfl, Nat.le_of_ble_eq_true rfl⟩, hts _ (by decide +kernel), trivial⟩ rfl hl.1 rfl (Nat.le_of_ble_eq_true rfl) dX0_landOn_1 ⟨Nat.le_of_ble_eq_true rfl, Nat.le_of_ble_eq_true rfl⟩ hK hE hA hM (List.Perm.refl _) (List.Perm.refl _) (fun H locs hM hz => ?_)
  refine z_ifne (tgt := 9) hx hb dX0_landOn_4 (by decide) (fun c_1 => ?_) (fun c_1 => absurd (zPl_nI hk) (by rw [c_1]; decide))
  refine lv_aload_n hx hb dX0_landOn_9 rfl (lv_at hl 0 rfl) ?_
  refine lv_iload_n hx hb dX0_landOn_10 rfl (lv_at hl 1 rfl) ?_
  refine z_put (ci := 0) (ty := .int) (v := .int (nI k)) (C := RX0) (T := TX0) (N := 8) (ws' := [(a.1, .inr (0, [.ref a.2.1, .ref a.2.2.1, .ref a.2.2.2, .int (nI k), .int (f 23), .int (f 25), .int (f 26), .int (f 27)])), (a.2.1, .inl (G.2 1, 9, .inl (fun i => f i))), (a.2.2.1, .inl (G.2 1, 9, .inl (fun i => f (9 + i)))), (a.2.2.2, .inl (G.2 1, 5, .inl (fun i => f (18 + i))))]) hx hb hts (by decide +kernel) tyX0 tyX0_ok nmX0 hown hK hM 0 rfl rfl 3 (by decide) (hts (.fieldLink RX0 27 "ShiftIsles$Board" "ship" "I") (by decide +kernel)) (fun _ h9 => h9) rfl (by decide +kernel) rfl rfl (Nat.le_of_ble_eq_true rfl) dX0_landOn_11 rfl (fun H locs hM => ?_)
  have hM : zM G A s H locs ([(a.1, .inr (0, [.ref a.2.1, .ref a.2.2.1, .ref a.2.2.2, .int ((upd f 24 (nI k)) 24), .int ((upd f 24 (nI k)) 23), .int ((upd f 24 (nI k)) 25), .int ((upd f 24 (nI k)) 26), .int ((upd f 24 (nI k)) 27)])), (a.2.1, .inl (G.2 1, 9, .inl (fun i => (upd f 24 (nI k)) i))), (a.2.2.1, .inl (G.2 1, 9, .inl (fun i => (upd f 24 (nI k)) (9 + i)))), (a.2.2.2, .inl (G.2 1, 5, .inl (fun i => (upd f 24 (nI k)) (18 + i))))]) := zM_sim (bd_set24 rfl) hM
  refine lv_aload_n hx hb dX0_landOn_14 rfl (lv_at hl 0 rfl) ?_
  refine z_get (ci := 0) (v := .ref a.2.2.1) (C := RX0) (T := TX0) (N := 8) hx hb hts (by decide +kernel) hown hK hM 0 rfl rfl 1 (by decide) (hts (.fieldLink RX0 15 "ShiftIsles$Board" "treasures" "[I") (by decide +kernel)) (fun _ h9 => h9) rfl dX0_landOn_15 ?_
  refine lv_iload_n hx hb dX0_landOn_18 rfl (lv_at hl 1 rfl) ?_
  refine z_iald hx hb hK hM 2 rfl (v := f (9 + k)) (vp_in_nI (by omega) (by decide)) (by rw [nI_clamp (by omega)]; exact pk_un (by omega)) dX0_landOn_19 ?_
  refine lv_istore_n (lv' := [(2, .int (f (9 + k))), (0, .ref a.1), (1, .int (nI k))]) hx hb dX0_landOn_20 rfl hl (by decide) rfl (fun ls hl => ?_)
  refine lv_iload_n hx hb dX0_landOn_21 rfl (lv_at hl 0 rfl) ?_
  refine lv_if_eq (tgt := 33) hx hb dX0_landOn_22 (by decide) (fun c_0 => ?_) (fun c_0 => ?_)
  · skip
    refine lv_iconst (v := 0) hx hb dX0_landOn_33 (by decide) ?_
    exact z_iret hx hb hr hlocks dX0_landOn_34 (by rw [zLd, if_pos (Or.inl c_0)]; exact hM) (Nat.le_of_ble_eq_true rfl) (Nat.le_of_ble_eq_true rfl) (by rw [zLr, if_pos (Or.inl c_0)])
  · skip
    refine lv_iload_n hx hb dX0_landOn_25 rfl (lv_at hl 0 rfl) ?_
    refine lv_aload_n hx hb dX0_landOn_26 rfl (lv_at hl 1 rfl) ?_
    refine z_callV (As := []) (rest := [.int (f (9 + k))]) (wc := bdW G a (upd f 24 (nI k))) (wr := []) (w1 := bdW G a (upd f 24 (nI k))) (ws' := [(a.1, .inr (0, [.ref a.2.1, .ref a.2.2.1, .ref a.2.2.2, .int ((upd f 24 (nI k)) 24), .int ((upd f 24 (nI k)) 23), .int ((upd f 24 (nI k)) 25), .int ((upd f 24 (nI k)) 26), .int ((upd f 24 (nI k)) 27)])), (a.2.1, .inl (G.2 1, 9, .inl (fun i => (upd f 24 (nI k)) i))), (a.2.2.1, .inl (G.2 1, 9, .inl (fun i => (upd f 24 (nI k)) (9 + i)))), (a.2.2.2, .inl (G.2 1, 5, .inl (fun i => (upd f 24 (nI k)) (18 + i))))]) ⟨hx, hb, hml, hown, hts⟩ (c_sought l G a (upd f 24 (nI k)) ) (cwV 0 hts gX0_landOn_X0_sought rfl rfl rfl (by decide +kernel) ⟨Nat.le_of_ble_eq_true rfl, Nat.le_of_ble_eq_true rfl⟩) 0 rfl rfl rfl rfl hl.1 rfl (Nat.le_of_ble_eq_true rfl) dX0_landOn_27 ⟨Nat.le_of_ble_eq_true rfl, Nat.le_of_ble_eq_true rfl⟩ hK hE hA hM (pm_at 4 [0, 1, 2, 3] [] rfl rfl rfl (by decide)) ((pm_at 4 [0, 1, 2, 3] [] rfl rfl rfl (by decide))).symm (fun H locs hM hz => ?_)
    refine lv_icmp_eq (tgt := 35) hx hb dX0_landOn_30 (by decide) (fun c_e0 => ?_) (fun c_e0 => ?_)
    · have c_e : f (9 + k) = zSo f := c_e0.trans (zSo_ship f _)
      have hM : zM G A s H locs ([(a.1, .inr (0, [.ref a.2.1, .ref a.2.2.1, .ref a.2.2.2, .int (nI k), .int (f 23), .int (f 25), .int (f 26), .int (f 27)])), (a.2.1, .inl (G.2 1, 9, .inl (fun i => f i))), (a.2.2.1, .inl (G.2 1, 9, .inl (fun i => f (9 + i)))), (a.2.2.2, .inl (G.2 1, 5, .inl (fun i => f (18 + i))))]) := zM_sim bd_un24 hM
      refine lv_aload_n hx hb dX0_landOn_35 rfl (lv_at hl 1 rfl) ?_
      refine z_get (ci := 0) (v := .ref a.2.2.1) (C := RX0) (T := TX0) (N := 8) hx hb hts (by decide +kernel) hown hK hM 0 rfl rfl 1 (by decide) (hts (.fieldLink RX0 15 "ShiftIsles$Board" "treasures" "[I") (by decide +kernel)) (fun _ h9 => h9) rfl dX0_landOn_36 ?_
      refine lv_iload_n hx hb dX0_landOn_39 rfl (lv_at hl 2 rfl) ?_
      refine lv_iconst (v := 0) hx hb dX0_landOn_40 (by decide) ?_
      refine z_iast (ws' := [(a.1, .inr (0, [.ref a.2.1, .ref a.2.2.1, .ref a.2.2.2, .int (nI k), .int (f 23), .int (f 25), .int (f 26), .int (f 27)])), (a.2.1, .inl (G.2 1, 9, .inl (fun i => f i))), (a.2.2.1, .inl (G.2 1, 9, .inl (upd (fun i => f (9 + i)) k 0))), (a.2.2.2, .inl (G.2 1, 5, .inl (fun i => f (18 + i))))]) hx hb hK hM 2 rfl (vp_in_nI (by omega) (by decide)) dX0_landOn_41 (by rw [nI_clamp (by omega)]; rfl) (fun H locs hM => ?_)
      refine lv_aload_n hx hb dX0_landOn_42 rfl (lv_at hl 1 rfl) ?_
      refine lv_dup hx hb dX0_landOn_43 rfl ?_
      refine z_get (ci := 0) (v := .int (f 23)) (C := RX0) (T := TX0) (N := 8) hx hb hts (by decide +kernel) hown hK hM 0 rfl rfl 4 (by decide) (hts (.fieldLink RX0 31 "ShiftIsles$Board" "taken" "I") (by decide +kernel)) (fun _ h9 => h9) rfl dX0_landOn_44 ?_
      refine lv_iconst (v := 1) hx hb dX0_landOn_47 (by decide) ?_
      refine lv_iadd hx hb dX0_landOn_48 ?_
      refine z_put (ci := 0) (ty := .int) (v := .int ((f 23) + 1)) (C := RX0) (T := TX0) (N := 8) (ws' := [(a.1, .inr (0, [.ref a.2.1, .ref a.2.2.1, .ref a.2.2.2, .int (nI k), .int ((f 23) + 1), .int (f 25), .int (f 26), .int (f 27)])), (a.2.1, .inl (G.2 1, 9, .inl (fun i => f i))), (a.2.2.1, .inl (G.2 1, 9, .inl (upd (fun i => f (9 + i)) k 0))), (a.2.2.2, .inl (G.2 1, 5, .inl (fun i => f (18 + i))))]) hx hb hts (by decide +kernel) tyX0 tyX0_ok nmX0 hown hK hM 0 rfl rfl 4 (by decide) (hts (.fieldLink RX0 31 "ShiftIsles$Board" "taken" "I") (by decide +kernel)) (fun _ h9 => h9) rfl (by decide +kernel) rfl rfl (Nat.le_of_ble_eq_true rfl) dX0_landOn_49 rfl (fun H locs hM => ?_)
      refine lv_iload_n hx hb dX0_landOn_52 rfl (lv_at hl 0 rfl) ?_
      have hcond : ¬ (f (9 + k) = 0 ∨ ¬ f (9 + k) = zSo f) := fun q => q.elim c_0 (fun z => z c_e)
      exact z_iret hx hb hr hlocks dX0_landOn_53 (zM_sim (ld_fold hcond hk) hM) (Nat.le_of_ble_eq_true rfl) (Nat.le_of_ble_eq_true rfl) (by rw [zLr, if_neg hcond])
    · have c_e : ¬ f (9 + k) = zSo f := fun q => c_e0 (q.trans (zSo_ship f _).symm)
      refine lv_iconst (v := 0) hx hb dX0_landOn_33 (by decide) ?_
      exact z_iret hx hb hr hlocks dX0_landOn_34 (by rw [zLd, if_pos (Or.inr c_e)]; exact hM) (Nat.le_of_ble_eq_true rfl) (Nat.le_of_ble_eq_true rfl) (by rw [zLr, if_pos (Or.inr c_e)])

set_option maxHeartbeats 4000000 in
set_option maxRecDepth 100000 in
theorem c_bdCopy (l : Launch) (G : zC) (a c0 : zBA) (f g : Nat → Int32) : zMet l G yX0_copyFrom wsX0_copyFrom rmX0_copyFrom [.ref a.1, .ref c0.1] (bdW G a f ++ bdW G c0 g) none (bdW G a g ++ bdW G c0 g) := by
  refine zMet_of (cc := cX0_copyFrom) (maxL := 2) (ret := none) (by decide) rfl (Nat.le_of_ble_eq_true rfl) ?_
  intro p e s m below meth c A ls hx hb hr hml hown hts hK hA hE hlocks hin hM hl
  have hown : s.vm.findClass RX0 = some m.cls := hown
  have hM : zM G A s s.heap [] ([(a.1, .inr (0, [.ref a.2.1, .ref a.2.2.1, .ref a.2.2.2, .int (f 24), .int (f 23), .int (f 25), .int (f 26), .int (f 27)])), (a.2.1, .inl (G.2 1, 9, .inl (fun i => f i))), (a.2.2.1, .inl (G.2 1, 9, .inl (fun i => f (9 + i)))), (a.2.2.2, .inl (G.2 1, 5, .inl (fun i => f (18 + i)))), (c0.1, .inr (0, [.ref c0.2.1, .ref c0.2.2.1, .ref c0.2.2.2, .int (g 24), .int (g 23), .int (g 25), .int (g 26), .int (g 27)])), (c0.2.1, .inl (G.2 1, 9, .inl (fun i => g i))), (c0.2.2.1, .inl (G.2 1, 9, .inl (fun i => g (9 + i)))), (c0.2.2.2, .inl (G.2 1, 5, .inl (fun i => g (18 + i))))]) := hM
  have hl : lv_has ls 2 [(0, .ref a.1), (1, .ref c0.1)] := hl
  refine lv_aload_n hx hb dX0_copyFrom_0 rfl (lv_at hl 1 rfl) ?_
  refine z_get (ci := 0) (v := .ref c0.2.1) (C := RX0) (T := TX0) (N := 8) hx hb hts (by decide +kernel) hown hK hM 4 rfl rfl 0 (by decide) (hts (.fieldLink RX0 9 "ShiftIsles$Board" "openings" "[I") (by decide +kernel)) (fun _ h9 => h9) rfl dX0_copyFrom_1 ?_
  refine lv_iconst (v := 0) hx hb dX0_copyFrom_4 (by decide) ?_
  refine lv_aload_n hx hb dX0_copyFrom_5 rfl (lv_at hl 0 rfl) ?_
  refine z_get (ci := 0) (v := .ref a.2.1) (C := RX0) (T := TX0) (N := 8) hx hb hts (by decide +kernel) hown hK hM 0 rfl rfl 0 (by decide) (hts (.fieldLink RX0 9 "ShiftIsles$Board" "openings" "[I") (by decide +kernel)) (fun _ h9 => h9) rfl dX0_copyFrom_6 ?_
  refine lv_iconst (v := 0) hx hb dX0_copyFrom_9 (by decide) ?_
  refine lv_bipush (v := 9) hx hb dX0_copyFrom_10 (by decide) ?_
  refine z_copyi (ws' := [(a.1, .inr (0, [.ref a.2.1, .ref a.2.2.1, .ref a.2.2.2, .int (f 24), .int (f 23), .int (f 25), .int (f 26), .int (f 27)])), (a.2.1, .inl (G.2 1, 9, .inl (va_cpy (fun i => g i) (fun i => f i) 0 0 9))), (a.2.2.1, .inl (G.2 1, 9, .inl (fun i => f (9 + i)))), (a.2.2.2, .inl (G.2 1, 5, .inl (fun i => f (18 + i)))), (c0.1, .inr (0, [.ref c0.2.1, .ref c0.2.2.1, .ref c0.2.2.2, .int (g 24), .int (g 23), .int (g 25), .int (g 26), .int (g 27)])), (c0.2.1, .inl (G.2 1, 9, .inl (fun i => g i))), (c0.2.2.1, .inl (G.2 1, 9, .inl (fun i => g (9 + i)))), (c0.2.2.2, .inl (G.2 1, 5, .inl (fun i => g (18 + i))))]) hx hb (hml.trans hl.1.symm) hown (hts (.methodLink RX0 21 arraycopyName) (by decide +kernel)) (hts (.native arraycopyName) (by decide +kernel)) (hts (.static arraycopyName) (by decide +kernel)) (hts (.initialized "java/lang/System") (by decide +kernel)) hK hM 5 1 rfl rfl (by decide) (by decide) (by decide) (by decide) (by decide) (Nat.le_of_ble_eq_true rfl) (by decide) dX0_copyFrom_12 rfl (fun H locs hM => ?_)
  refine lv_aload_n hx hb dX0_copyFrom_15 rfl (lv_at hl 1 rfl) ?_
  refine z_get (ci := 0) (v := .ref c0.2.2.1) (C := RX0) (T := TX0) (N := 8) hx hb hts (by decide +kernel) hown hK hM 4 rfl rfl 1 (by decide) (hts (.fieldLink RX0 15 "ShiftIsles$Board" "treasures" "[I") (by decide +kernel)) (fun _ h9 => h9) rfl dX0_copyFrom_16 ?_
  refine lv_iconst (v := 0) hx hb dX0_copyFrom_19 (by decide) ?_
  refine lv_aload_n hx hb dX0_copyFrom_20 rfl (lv_at hl 0 rfl) ?_
  refine z_get (ci := 0) (v := .ref a.2.2.1) (C := RX0) (T := TX0) (N := 8) hx hb hts (by decide +kernel) hown hK hM 0 rfl rfl 1 (by decide) (hts (.fieldLink RX0 15 "ShiftIsles$Board" "treasures" "[I") (by decide +kernel)) (fun _ h9 => h9) rfl dX0_copyFrom_21 ?_
  refine lv_iconst (v := 0) hx hb dX0_copyFrom_24 (by decide) ?_
  refine lv_bipush (v := 9) hx hb dX0_copyFrom_25 (by decide) ?_
  refine z_copyi (ws' := [(a.1, .inr (0, [.ref a.2.1, .ref a.2.2.1, .ref a.2.2.2, .int (f 24), .int (f 23), .int (f 25), .int (f 26), .int (f 27)])), (a.2.1, .inl (G.2 1, 9, .inl (va_cpy (fun i => g i) (fun i => f i) 0 0 9))), (a.2.2.1, .inl (G.2 1, 9, .inl (va_cpy (fun i => g (9 + i)) (fun i => f (9 + i)) 0 0 9))), (a.2.2.2, .inl (G.2 1, 5, .inl (fun i => f (18 + i)))), (c0.1, .inr (0, [.ref c0.2.1, .ref c0.2.2.1, .ref c0.2.2.2, .int (g 24), .int (g 23), .int (g 25), .int (g 26), .int (g 27)])), (c0.2.1, .inl (G.2 1, 9, .inl (fun i => g i))), (c0.2.2.1, .inl (G.2 1, 9, .inl (fun i => g (9 + i)))), (c0.2.2.2, .inl (G.2 1, 5, .inl (fun i => g (18 + i))))]) hx hb (hml.trans hl.1.symm) hown (hts (.methodLink RX0 21 arraycopyName) (by decide +kernel)) (hts (.native arraycopyName) (by decide +kernel)) (hts (.static arraycopyName) (by decide +kernel)) (hts (.initialized "java/lang/System") (by decide +kernel)) hK hM 6 2 rfl rfl (by decide) (by decide) (by decide) (by decide) (by decide) (Nat.le_of_ble_eq_true rfl) (by decide) dX0_copyFrom_27 rfl (fun H locs hM => ?_)
  refine lv_aload_n hx hb dX0_copyFrom_30 rfl (lv_at hl 1 rfl) ?_
  refine z_get (ci := 0) (v := .ref c0.2.2.2) (C := RX0) (T := TX0) (N := 8) hx hb hts (by decide +kernel) hown hK hM 4 rfl rfl 2 (by decide) (hts (.fieldLink RX0 18 "ShiftIsles$Board" "order" "[I") (by decide +kernel)) (fun _ h9 => h9) rfl dX0_copyFrom_31 ?_
  refine lv_iconst (v := 0) hx hb dX0_copyFrom_34 (by decide) ?_
  refine lv_aload_n hx hb dX0_copyFrom_35 rfl (lv_at hl 0 rfl) ?_
  refine z_get (ci := 0) (v := .ref a.2.2.2) (C := RX0) (T := TX0) (N := 8) hx hb hts (by decide +kernel) hown hK hM 0 rfl rfl 2 (by decide) (hts (.fieldLink RX0 18 "ShiftIsles$Board" "order" "[I") (by decide +kernel)) (fun _ h9 => h9) rfl dX0_copyFrom_36 ?_
  refine lv_iconst (v := 0) hx hb dX0_copyFrom_39 (by decide) ?_
  refine lv_iconst (v := 5) hx hb dX0_copyFrom_40 (by decide) ?_
  refine z_copyi (ws' := [(a.1, .inr (0, [.ref a.2.1, .ref a.2.2.1, .ref a.2.2.2, .int (f 24), .int (f 23), .int (f 25), .int (f 26), .int (f 27)])), (a.2.1, .inl (G.2 1, 9, .inl (va_cpy (fun i => g i) (fun i => f i) 0 0 9))), (a.2.2.1, .inl (G.2 1, 9, .inl (va_cpy (fun i => g (9 + i)) (fun i => f (9 + i)) 0 0 9))), (a.2.2.2, .inl (G.2 1, 5, .inl (va_cpy (fun i => g (18 + i)) (fun i => f (18 + i)) 0 0 5))), (c0.1, .inr (0, [.ref c0.2.1, .ref c0.2.2.1, .ref c0.2.2.2, .int (g 24), .int (g 23), .int (g 25), .int (g 26), .int (g 27)])), (c0.2.1, .inl (G.2 1, 9, .inl (fun i => g i))), (c0.2.2.1, .inl (G.2 1, 9, .inl (fun i => g (9 + i)))), (c0.2.2.2, .inl (G.2 1, 5, .inl (fun i => g (18 + i))))]) hx hb (hml.trans hl.1.symm) hown (hts (.methodLink RX0 21 arraycopyName) (by decide +kernel)) (hts (.native arraycopyName) (by decide +kernel)) (hts (.static arraycopyName) (by decide +kernel)) (hts (.initialized "java/lang/System") (by decide +kernel)) hK hM 7 3 rfl rfl (by decide) (by decide) (by decide) (by decide) (by decide) (Nat.le_of_ble_eq_true rfl) (by decide) dX0_copyFrom_41 rfl (fun H locs hM => ?_)
  refine lv_aload_n hx hb dX0_copyFrom_44 rfl (lv_at hl 0 rfl) ?_
  refine lv_aload_n hx hb dX0_copyFrom_45 rfl (lv_at hl 1 rfl) ?_
  refine z_get (ci := 0) (v := .int (g 24)) (C := RX0) (T := TX0) (N := 8) hx hb hts (by decide +kernel) hown hK hM 4 rfl rfl 3 (by decide) (hts (.fieldLink RX0 27 "ShiftIsles$Board" "ship" "I") (by decide +kernel)) (fun _ h9 => h9) rfl dX0_copyFrom_46 ?_
  refine z_put (ci := 0) (ty := .int) (v := .int (g 24)) (C := RX0) (T := TX0) (N := 8) (ws' := [(a.1, .inr (0, [.ref a.2.1, .ref a.2.2.1, .ref a.2.2.2, .int (g 24), .int (f 23), .int (f 25), .int (f 26), .int (f 27)])), (a.2.1, .inl (G.2 1, 9, .inl (va_cpy (fun i => g i) (fun i => f i) 0 0 9))), (a.2.2.1, .inl (G.2 1, 9, .inl (va_cpy (fun i => g (9 + i)) (fun i => f (9 + i)) 0 0 9))), (a.2.2.2, .inl (G.2 1, 5, .inl (va_cpy (fun i => g (18 + i)) (fun i => f (18 + i)) 0 0 5))), (c0.1, .inr (0, [.ref c0.2.1, .ref c0.2.2.1, .ref c0.2.2.2, .int (g 24), .int (g 23), .int (g 25), .int (g 26), .int (g 27)])), (c0.2.1, .inl (G.2 1, 9, .inl (fun i => g i))), (c0.2.2.1, .inl (G.2 1, 9, .inl (fun i => g (9 + i)))), (c0.2.2.2, .inl (G.2 1, 5, .inl (fun i => g (18 + i))))]) hx hb hts (by decide +kernel) tyX0 tyX0_ok nmX0 hown hK hM 0 rfl rfl 3 (by decide) (hts (.fieldLink RX0 27 "ShiftIsles$Board" "ship" "I") (by decide +kernel)) (fun _ h9 => h9) rfl (by decide +kernel) rfl rfl (Nat.le_of_ble_eq_true rfl) dX0_copyFrom_49 rfl (fun H locs hM => ?_)
  refine lv_aload_n hx hb dX0_copyFrom_52 rfl (lv_at hl 0 rfl) ?_
  refine lv_aload_n hx hb dX0_copyFrom_53 rfl (lv_at hl 1 rfl) ?_
  refine z_get (ci := 0) (v := .int (g 23)) (C := RX0) (T := TX0) (N := 8) hx hb hts (by decide +kernel) hown hK hM 4 rfl rfl 4 (by decide) (hts (.fieldLink RX0 31 "ShiftIsles$Board" "taken" "I") (by decide +kernel)) (fun _ h9 => h9) rfl dX0_copyFrom_54 ?_
  refine z_put (ci := 0) (ty := .int) (v := .int (g 23)) (C := RX0) (T := TX0) (N := 8) (ws' := [(a.1, .inr (0, [.ref a.2.1, .ref a.2.2.1, .ref a.2.2.2, .int (g 24), .int (g 23), .int (f 25), .int (f 26), .int (f 27)])), (a.2.1, .inl (G.2 1, 9, .inl (va_cpy (fun i => g i) (fun i => f i) 0 0 9))), (a.2.2.1, .inl (G.2 1, 9, .inl (va_cpy (fun i => g (9 + i)) (fun i => f (9 + i)) 0 0 9))), (a.2.2.2, .inl (G.2 1, 5, .inl (va_cpy (fun i => g (18 + i)) (fun i => f (18 + i)) 0 0 5))), (c0.1, .inr (0, [.ref c0.2.1, .ref c0.2.2.1, .ref c0.2.2.2, .int (g 24), .int (g 23), .int (g 25), .int (g 26), .int (g 27)])), (c0.2.1, .inl (G.2 1, 9, .inl (fun i => g i))), (c0.2.2.1, .inl (G.2 1, 9, .inl (fun i => g (9 + i)))), (c0.2.2.2, .inl (G.2 1, 5, .inl (fun i => g (18 + i))))]) hx hb hts (by decide +kernel) tyX0 tyX0_ok nmX0 hown hK hM 0 rfl rfl 4 (by decide) (hts (.fieldLink RX0 31 "ShiftIsles$Board" "taken" "I") (by decide +kernel)) (fun _ h9 => h9) rfl (by decide +kernel) rfl rfl (Nat.le_of_ble_eq_true rfl) dX0_copyFrom_57 rfl (fun H locs hM => ?_)
  refine lv_aload_n hx hb dX0_copyFrom_60 rfl (lv_at hl 0 rfl) ?_
  refine lv_aload_n hx hb dX0_copyFrom_61 rfl (lv_at hl 1 rfl) ?_
  refine z_get (ci := 0) (v := .int (g 25)) (C := RX0) (T := TX0) (N := 8) hx hb hts (by decide +kernel) hown hK hM 4 rfl rfl 5 (by decide) (hts (.fieldLink RX0 34 "ShiftIsles$Board" "locked" "I") (by decide +kernel)) (fun _ h9 => h9) rfl dX0_copyFrom_62 ?_
  refine z_put (ci := 0) (ty := .int) (v := .int (g 25)) (C := RX0) (T := TX0) (N := 8) (ws' := [(a.1, .inr (0, [.ref a.2.1, .ref a.2.2.1, .ref a.2.2.2, .int (g 24), .int (g 23), .int (g 25), .int (f 26), .int (f 27)])), (a.2.1, .inl (G.2 1, 9, .inl (va_cpy (fun i => g i) (fun i => f i) 0 0 9))), (a.2.2.1, .inl (G.2 1, 9, .inl (va_cpy (fun i => g (9 + i)) (fun i => f (9 + i)) 0 0 9))), (a.2.2.2, .inl (G.2 1, 5, .inl (va_cpy (fun i => g (18 + i)) (fun i => f (18 + i)) 0 0 5))), (c0.1, .inr (0, [.ref c0.2.1, .ref c0.2.2.1, .ref c0.2.2.2, .int (g 24), .int (g 23), .int (g 25), .int (g 26), .int (g 27)])), (c0.2.1, .inl (G.2 1, 9, .inl (fun i => g i))), (c0.2.2.1, .inl (G.2 1, 9, .inl (fun i => g (9 + i)))), (c0.2.2.2, .inl (G.2 1, 5, .inl (fun i => g (18 + i))))]) hx hb hts (by decide +kernel) tyX0 tyX0_ok nmX0 hown hK hM 0 rfl rfl 5 (by decide) (hts (.fieldLink RX0 34 "ShiftIsles$Board" "locked" "I") (by decide +kernel)) (fun _ h9 => h9) rfl (by decide +kernel) rfl rfl (Nat.le_of_ble_eq_true rfl) dX0_copyFrom_65 rfl (fun H locs hM => ?_)
  refine lv_aload_n hx hb dX0_copyFrom_68 rfl (lv_at hl 0 rfl) ?_
  refine lv_aload_n hx hb dX0_copyFrom_69 rfl (lv_at hl 1 rfl) ?_
  refine z_get (ci := 0) (v := .int (g 26)) (C := RX0) (T := TX0) (N := 8) hx hb hts (by decide +kernel) hown hK hM 4 rfl rfl 6 (by decide) (hts (.fieldLink RX0 37 "ShiftIsles$Board" "lastLine" "I") (by decide +kernel)) (fun _ h9 => h9) rfl dX0_copyFrom_70 ?_
  refine z_put (ci := 0) (ty := .int) (v := .int (g 26)) (C := RX0) (T := TX0) (N := 8) (ws' := [(a.1, .inr (0, [.ref a.2.1, .ref a.2.2.1, .ref a.2.2.2, .int (g 24), .int (g 23), .int (g 25), .int (g 26), .int (f 27)])), (a.2.1, .inl (G.2 1, 9, .inl (va_cpy (fun i => g i) (fun i => f i) 0 0 9))), (a.2.2.1, .inl (G.2 1, 9, .inl (va_cpy (fun i => g (9 + i)) (fun i => f (9 + i)) 0 0 9))), (a.2.2.2, .inl (G.2 1, 5, .inl (va_cpy (fun i => g (18 + i)) (fun i => f (18 + i)) 0 0 5))), (c0.1, .inr (0, [.ref c0.2.1, .ref c0.2.2.1, .ref c0.2.2.2, .int (g 24), .int (g 23), .int (g 25), .int (g 26), .int (g 27)])), (c0.2.1, .inl (G.2 1, 9, .inl (fun i => g i))), (c0.2.2.1, .inl (G.2 1, 9, .inl (fun i => g (9 + i)))), (c0.2.2.2, .inl (G.2 1, 5, .inl (fun i => g (18 + i))))]) hx hb hts (by decide +kernel) tyX0 tyX0_ok nmX0 hown hK hM 0 rfl rfl 6 (by decide) (hts (.fieldLink RX0 37 "ShiftIsles$Board" "lastLine" "I") (by decide +kernel)) (fun _ h9 => h9) rfl (by decide +kernel) rfl rfl (Nat.le_of_ble_eq_true rfl) dX0_copyFrom_73 rfl (fun H locs hM => ?_)
  refine lv_aload_n hx hb dX0_copyFrom_76 rfl (lv_at hl 0 rfl) ?_
  refine lv_aload_n hx hb dX0_copyFrom_77 rfl (lv_at hl 1 rfl) ?_
  refine z_get (ci := 0) (v := .int (g 27)) (C := RX0) (T := TX0) (N := 8) hx hb hts (by decide +kernel) hown hK hM 4 rfl rfl 7 (by decide) (hts (.fieldLink RX0 40 "ShiftIsles$Board" "lastDirection" "I") (by decide +kernel)) (fun _ h9 => h9) rfl dX0_copyFrom_78 ?_
  refine z_put (ci := 0) (ty := .int) (v := .int (g 27)) (C := RX0) (T := TX0) (N := 8) (ws' := [(a.1, .inr (0, [.ref a.2.1, .ref a.2.2.1, .ref a.2.2.2, .int (g 24), .int (g 23), .int (g 25), .int (g 26), .int (g 27)])), (a.2.1, .inl (G.2 1, 9, .inl (va_cpy (fun i => g i) (fun i => f i) 0 0 9))), (a.2.2.1, .inl (G.2 1, 9, .inl (va_cpy (fun i => g (9 + i)) (fun i => f (9 + i)) 0 0 9))), (a.2.2.2, .inl (G.2 1, 5, .inl (va_cpy (fun i => g (18 + i)) (fun i => f (18 + i)) 0 0 5))), (c0.1, .inr (0, [.ref c0.2.1, .ref c0.2.2.1, .ref c0.2.2.2, .int (g 24), .int (g 23), .int (g 25), .int (g 26), .int (g 27)])), (c0.2.1, .inl (G.2 1, 9, .inl (fun i => g i))), (c0.2.2.1, .inl (G.2 1, 9, .inl (fun i => g (9 + i)))), (c0.2.2.2, .inl (G.2 1, 5, .inl (fun i => g (18 + i))))]) hx hb hts (by decide +kernel) tyX0 tyX0_ok nmX0 hown hK hM 0 rfl rfl 7 (by decide) (hts (.fieldLink RX0 40 "ShiftIsles$Board" "lastDirection" "I") (by decide +kernel)) (fun _ h9 => h9) rfl (by decide +kernel) rfl rfl (Nat.le_of_ble_eq_true rfl) dX0_copyFrom_81 rfl (fun H locs hM => ?_)
  exact z_vret hx hb hr hlocks dX0_copyFrom_84 (zM_sim (zSim_app cpy_fold (zSim_rf (bdW G c0 g))) hM) (Nat.le_of_ble_eq_true rfl) (Nat.le_of_ble_eq_true rfl)
