set_option maxHeartbeats 4000000 in
set_option maxRecDepth 100000 in
theorem c_isPlace (l : Launch) (G : zC) (n : Int32) : zMet l G yX6_isPlace wsX6_isPlace rmX6_isPlace [.int n] ([]) (some (.int (zb (zPl n)))) ([]) := by
  refine zMet_of (cc := cX6_isPlace) (maxL := 1) (ret := (some .boolean)) (by decide) rfl (Nat.le_of_ble_eq_true rfl) ?_
  intro p e s m below meth c A ls hx hb hr hml hown hts hK hA hE hlocks hin hM hl
  have hown : s.vm.findClass RX6 = some m.cls := hown
  have hM : zM G A s s.heap [] ([]) := hM
  have hl : lv_has ls 1 [(0, .int n)] := hl
  refine lv_iload_n hx hb dX6_isPlace_0 rfl (lv_at hl 0 rfl) ?_
  refine lv_if_lt (tgt := 14) hx hb dX6_isPlace_1 (by decide) (fun c_1 => ?_) (fun c_1 => ?_)
  · skip
    refine lv_iconst (v := 0) hx hb dX6_isPlace_14 (by decide) ?_
    exact z_zret hx hb hr hlocks dX6_isPlace_15 hM (Nat.le_of_ble_eq_true rfl) (Nat.le_of_ble_eq_true rfl) (by first | exact Or.inl rfl | exact Or.inr rfl | exact zb_01 _) (by simp only [zb, zPl, decide_eq_true c_1] <;> rfl)
  · skip
    refine lv_iload_n hx hb dX6_isPlace_4 rfl (lv_at hl 0 rfl) ?_
    refine lv_bipush (v := 9) hx hb dX6_isPlace_5 (by decide) ?_
    refine lv_icmp_ge (tgt := 14) hx hb dX6_isPlace_7 (by decide) (fun c_2 => ?_) (fun c_2 => ?_)
    · skip
      refine lv_iconst (v := 0) hx hb dX6_isPlace_14 (by decide) ?_
      exact z_zret hx hb hr hlocks dX6_isPlace_15 hM (Nat.le_of_ble_eq_true rfl) (Nat.le_of_ble_eq_true rfl) (by first | exact Or.inl rfl | exact Or.inr rfl | exact zb_01 _) (by simp only [zb, zPl, decide_eq_false c_1, decide_eq_true c_2] <;> rfl)
    · skip
      refine lv_iconst (v := 1) hx hb dX6_isPlace_10 (by decide) ?_
      refine lv_goto (tgt := 15) hx hb dX6_isPlace_11 (by decide) ?_
      exact z_zret hx hb hr hlocks dX6_isPlace_15 hM (Nat.le_of_ble_eq_true rfl) (Nat.le_of_ble_eq_true rfl) (by first | exact Or.inl rfl | exact Or.inr rfl | exact zb_01 _) (by simp only [zb, zPl, decide_eq_false c_1, decide_eq_false c_2] <;> rfl)

set_option maxHeartbeats 4000000 in
set_option maxRecDepth 100000 in
theorem c_isLine (l : Launch) (G : zC) (n : Int32) : zMet l G yX6_isLine wsX6_isLine rmX6_isLine [.int n] ([]) (some (.int (zb (zLi n)))) ([]) := by
  refine zMet_of (cc := cX6_isLine) (maxL := 1) (ret := (some .boolean)) (by decide) rfl (Nat.le_of_ble_eq_true rfl) ?_
  intro p e s m below meth c A ls hx hb hr hml hown hts hK hA hE hlocks hin hM hl
  have hown : s.vm.findClass RX6 = some m.cls := hown
  have hM : zM G A s s.heap [] ([]) := hM
  have hl : lv_has ls 1 [(0, .int n)] := hl
  refine lv_iload_n hx hb dX6_isLine_0 rfl (lv_at hl 0 rfl) ?_
  refine lv_if_lt (tgt := 14) hx hb dX6_isLine_1 (by decide) (fun c_1 => ?_) (fun c_1 => ?_)
  · skip
    refine lv_iconst (v := 0) hx hb dX6_isLine_14 (by decide) ?_
    exact z_zret hx hb hr hlocks dX6_isLine_15 hM (Nat.le_of_ble_eq_true rfl) (Nat.le_of_ble_eq_true rfl) (by first | exact Or.inl rfl | exact Or.inr rfl | exact zb_01 _) (by simp only [zb, zLi, decide_eq_true c_1] <;> rfl)
  · skip
    refine lv_iload_n hx hb dX6_isLine_4 rfl (lv_at hl 0 rfl) ?_
    refine lv_bipush (v := 6) hx hb dX6_isLine_5 (by decide) ?_
    refine lv_icmp_ge (tgt := 14) hx hb dX6_isLine_7 (by decide) (fun c_2 => ?_) (fun c_2 => ?_)
    · skip
      refine lv_iconst (v := 0) hx hb dX6_isLine_14 (by decide) ?_
      exact z_zret hx hb hr hlocks dX6_isLine_15 hM (Nat.le_of_ble_eq_true rfl) (Nat.le_of_ble_eq_true rfl) (by first | exact Or.inl rfl | exact Or.inr rfl | exact zb_01 _) (by simp only [zb, zLi, decide_eq_false c_1, decide_eq_true c_2] <;> rfl)
    · skip
      refine lv_iconst (v := 1) hx hb dX6_isLine_10 (by decide) ?_
      refine lv_goto (tgt := 15) hx hb dX6_isLine_11 (by decide) ?_
      exact z_zret hx hb hr hlocks dX6_isLine_15 hM (Nat.le_of_ble_eq_true rfl) (Nat.le_of_ble_eq_true rfl) (by first | exact Or.inl rfl | exact Or.inr rfl | exact zb_01 _) (by simp only [zb, zLi, decide_eq_false c_1, decide_eq_false c_2] <;> rfl)

set_option maxHeartbeats 4000000 in
set_option maxRecDepth 100000 in
theorem c_isDirection (l : Launch) (G : zC) (n : Int32) : zMet l G yX6_isDirection wsX6_isDirection rmX6_isDirection [.int n] ([]) (some (.int (zb (zDi n)))) ([]) := by
  refine zMet_of (cc := cX6_isDirection) (maxL := 1) (ret := (some .boolean)) (by decide) rfl (Nat.le_of_ble_eq_true rfl) ?_
  intro p e s m below meth c A ls hx hb hr hml hown hts hK hA hE hlocks hin hM hl
  have hown : s.vm.findClass RX6 = some m.cls := hown
  have hM : zM G A s s.heap [] ([]) := hM
  have hl : lv_has ls 1 [(0, .int n)] := hl
  refine lv_iload_n hx hb dX6_isDirection_0 rfl (lv_at hl 0 rfl) ?_
  refine lv_if_eq (tgt := 9) hx hb dX6_isDirection_1 (by decide) (fun c_1 => ?_) (fun c_1 => ?_)
  · skip
    refine lv_iconst (v := 1) hx hb dX6_isDirection_9 (by decide) ?_
    refine lv_goto (tgt := 14) hx hb dX6_isDirection_10 (by decide) ?_
    exact z_zret hx hb hr hlocks dX6_isDirection_14 hM (Nat.le_of_ble_eq_true rfl) (Nat.le_of_ble_eq_true rfl) (by first | exact Or.inl rfl | exact Or.inr rfl | exact zb_01 _) (by simp only [zb, zDi, decide_eq_true c_1] <;> rfl)
  · skip
    refine lv_iload_n hx hb dX6_isDirection_4 rfl (lv_at hl 0 rfl) ?_
    refine lv_iconst (v := 1) hx hb dX6_isDirection_5 (by decide) ?_
    refine lv_icmp_ne (tgt := 13) hx hb dX6_isDirection_6 (by decide) (fun c_2 => ?_) (fun c_2 => ?_)
    · skip
      refine lv_iconst (v := 0) hx hb dX6_isDirection_13 (by decide) ?_
      exact z_zret hx hb hr hlocks dX6_isDirection_14 hM (Nat.le_of_ble_eq_true rfl) (Nat.le_of_ble_eq_true rfl) (by first | exact Or.inl rfl | exact Or.inr rfl | exact zb_01 _) (by simp only [zb, zDi, decide_eq_false c_1, decide_eq_false c_2] <;> rfl)
    · skip
      refine lv_iconst (v := 1) hx hb dX6_isDirection_9 (by decide) ?_
      refine lv_goto (tgt := 14) hx hb dX6_isDirection_10 (by decide) ?_
      exact z_zret hx hb hr hlocks dX6_isDirection_14 hM (Nat.le_of_ble_eq_true rfl) (Nat.le_of_ble_eq_true rfl) (by first | exact Or.inl rfl | exact Or.inr rfl | exact zb_01 _) (by simp only [zb, zDi, decide_eq_false c_1, decide_eq_true c_2] <;> rfl)

set_option maxHeartbeats 4000000 in
set_option maxRecDepth 100000 in
theorem c_isSetting (l : Launch) (G : zC) (n : Int32) : zMet l G yX6_isSetting wsX6_isSetting rmX6_isSetting [.int n] ([]) (some (.int (zb (zSe n)))) ([]) := by
  refine zMet_of (cc := cX6_isSetting) (maxL := 1) (ret := (some .boolean)) (by decide) rfl (Nat.le_of_ble_eq_true rfl) ?_
  intro p e s m below meth c A ls hx hb hr hml hown hts hK hA hE hlocks hin hM hl
  have hown : s.vm.findClass RX6 = some m.cls := hown
  have hM : zM G A s s.heap [] ([]) := hM
  have hl : lv_has ls 1 [(0, .int n)] := hl
  refine lv_iload_n hx hb dX6_isSetting_0 rfl (lv_at hl 0 rfl) ?_
  refine lv_if_lt (tgt := 13) hx hb dX6_isSetting_1 (by decide) (fun c_1 => ?_) (fun c_1 => ?_)
  · skip
    refine lv_iconst (v := 0) hx hb dX6_isSetting_13 (by decide) ?_
    exact z_zret hx hb hr hlocks dX6_isSetting_14 hM (Nat.le_of_ble_eq_true rfl) (Nat.le_of_ble_eq_true rfl) (by first | exact Or.inl rfl | exact Or.inr rfl | exact zb_01 _) (by simp only [zb, zSe, decide_eq_true c_1] <;> rfl)
  · skip
    refine lv_iload_n hx hb dX6_isSetting_4 rfl (lv_at hl 0 rfl) ?_
    refine lv_iconst (v := 3) hx hb dX6_isSetting_5 (by decide) ?_
    refine lv_icmp_ge (tgt := 13) hx hb dX6_isSetting_6 (by decide) (fun c_2 => ?_) (fun c_2 => ?_)
    · skip
      refine lv_iconst (v := 0) hx hb dX6_isSetting_13 (by decide) ?_
      exact z_zret hx hb hr hlocks dX6_isSetting_14 hM (Nat.le_of_ble_eq_true rfl) (Nat.le_of_ble_eq_true rfl) (by first | exact Or.inl rfl | exact Or.inr rfl | exact zb_01 _) (by simp only [zb, zSe, decide_eq_false c_1, decide_eq_true c_2] <;> rfl)
    · skip
      refine lv_iconst (v := 1) hx hb dX6_isSetting_9 (by decide) ?_
      refine lv_goto (tgt := 14) hx hb dX6_isSetting_10 (by decide) ?_
      exact z_zret hx hb hr hlocks dX6_isSetting_14 hM (Nat.le_of_ble_eq_true rfl) (Nat.le_of_ble_eq_true rfl) (by first | exact Or.inl rfl | exact Or.inr rfl | exact zb_01 _) (by simp only [zb, zSe, decide_eq_false c_1, decide_eq_false c_2] <;> rfl)

set_option maxHeartbeats 4000000 in
set_option maxRecDepth 100000 in
theorem c_isSlot (l : Launch) (G : zC) (n : Int32) : zMet l G yX6_isSlot wsX6_isSlot rmX6_isSlot [.int n] ([]) (some (.int (zb (zSl n)))) ([]) := by
  refine zMet_of (cc := cX6_isSlot) (maxL := 1) (ret := (some .boolean)) (by decide) rfl (Nat.le_of_ble_eq_true rfl) ?_
  intro p e s m below meth c A ls hx hb hr hml hown hts hK hA hE hlocks hin hM hl
  have hown : s.vm.findClass RX6 = some m.cls := hown
  have hM : zM G A s s.heap [] ([]) := hM
  have hl : lv_has ls 1 [(0, .int n)] := hl
  refine lv_iload_n hx hb dX6_isSlot_0 rfl (lv_at hl 0 rfl) ?_
  refine lv_if_lt (tgt := 13) hx hb dX6_isSlot_1 (by decide) (fun c_1 => ?_) (fun c_1 => ?_)
  · skip
    refine lv_iconst (v := 0) hx hb dX6_isSlot_13 (by decide) ?_
    exact z_zret hx hb hr hlocks dX6_isSlot_14 hM (Nat.le_of_ble_eq_true rfl) (Nat.le_of_ble_eq_true rfl) (by first | exact Or.inl rfl | exact Or.inr rfl | exact zb_01 _) (by simp only [zb, zSl, decide_eq_true c_1] <;> rfl)
  · skip
    refine lv_iload_n hx hb dX6_isSlot_4 rfl (lv_at hl 0 rfl) ?_
    refine lv_iconst (v := 2) hx hb dX6_isSlot_5 (by decide) ?_
    refine lv_icmp_ge (tgt := 13) hx hb dX6_isSlot_6 (by decide) (fun c_2 => ?_) (fun c_2 => ?_)
    · skip
      refine lv_iconst (v := 0) hx hb dX6_isSlot_13 (by decide) ?_
      exact z_zret hx hb hr hlocks dX6_isSlot_14 hM (Nat.le_of_ble_eq_true rfl) (Nat.le_of_ble_eq_true rfl) (by first | exact Or.inl rfl | exact Or.inr rfl | exact zb_01 _) (by simp only [zb, zSl, decide_eq_false c_1, decide_eq_true c_2] <;> rfl)
    · skip
      refine lv_iconst (v := 1) hx hb dX6_isSlot_9 (by decide) ?_
      refine lv_goto (tgt := 14) hx hb dX6_isSlot_10 (by decide) ?_
      exact z_zret hx hb hr hlocks dX6_isSlot_14 hM (Nat.le_of_ble_eq_true rfl) (Nat.le_of_ble_eq_true rfl) (by first | exact Or.inl rfl | exact Or.inr rfl | exact zb_01 _) (by simp only [zb, zSl, decide_eq_false c_1, decide_eq_false c_2] <;> rfl)

set_option maxHeartbeats 4000000 in
set_option maxRecDepth 100000 in
theorem c_isIn (l : Launch) (G : zC) (x n : Int32) : zMet l G yX6_isIn wsX6_isIn rmX6_isIn [.int x, .int n] ([]) (some (.int (zb (zIn x n)))) ([]) := by
  refine zMet_of (cc := cX6_isIn) (maxL := 2) (ret := (some .boolean)) (by decide) rfl (Nat.le_of_ble_eq_true rfl) ?_
  intro p e s m below meth c A ls hx hb hr hml hown hts hK hA hE hlocks hin hM hl
  have hown : s.vm.findClass RX6 = some m.cls := hown
  have hM : zM G A s s.heap [] ([]) := hM
  have hl : lv_has ls 2 [(0, .int x), (1, .int n)] := hl
  refine lv_iload_n hx hb dX6_isIn_0 rfl (lv_at hl 1 rfl) ?_
  refine z_callS (As := [.int n]) (rest := []) (wc := []) (wr := []) (w1 := []) (ws' := []) ⟨hx, hb, hml, hown, hts⟩ (c_isPlace l G n) (va_cwS 1 hts gX6_isIn_X6_isPlace rfl rfl rfl (by decide +kernel) ⟨Nat.le_of_ble_eq_true rfl, Nat.le_of_ble_eq_true rfl⟩) rfl hl.1 rfl (by decide) dX6_isIn_1 ⟨Nat.le_of_ble_eq_true rfl, Nat.le_of_ble_eq_true rfl⟩ hK hE hA hM (List.Perm.refl _) (List.Perm.refl _) (fun H locs hM hz => ?_)
  refine z_ifeq (tgt := 20) hx hb dX6_isIn_4 (by decide) (fun c_1 => ?_) (fun c_1 => ?_)
  · skip
    refine lv_iconst (v := 0) hx hb dX6_isIn_20 (by decide) ?_
    exact z_zret hx hb hr hlocks dX6_isIn_21 hM (Nat.le_of_ble_eq_true rfl) (Nat.le_of_ble_eq_true rfl) (by first | exact Or.inl rfl | exact Or.inr rfl | exact zb_01 _) (by simp only [zb, zIn, c_1] <;> rfl)
  · skip
    refine lv_iload_n hx hb dX6_isIn_7 rfl (lv_at hl 0 rfl) ?_
    refine lv_iload_n hx hb dX6_isIn_8 rfl (lv_at hl 1 rfl) ?_
    refine lv_ishr hx hb dX6_isIn_9 ?_
    refine lv_iconst (v := 1) hx hb dX6_isIn_10 (by decide) ?_
    refine lv_iand hx hb dX6_isIn_11 ?_
    refine lv_iconst (v := 1) hx hb dX6_isIn_12 (by decide) ?_
    refine lv_icmp_ne (tgt := 20) hx hb dX6_isIn_13 (by decide) (fun c_2 => ?_) (fun c_2 => ?_)
    · skip
      refine lv_iconst (v := 0) hx hb dX6_isIn_20 (by decide) ?_
      exact z_zret hx hb hr hlocks dX6_isIn_21 hM (Nat.le_of_ble_eq_true rfl) (Nat.le_of_ble_eq_true rfl) (by first | exact Or.inl rfl | exact Or.inr rfl | exact zb_01 _) (by simp only [zb, zIn, c_1, decide_eq_false c_2] <;> rfl)
    · skip
      refine lv_iconst (v := 1) hx hb dX6_isIn_16 (by decide) ?_
      refine lv_goto (tgt := 21) hx hb dX6_isIn_17 (by decide) ?_
      exact z_zret hx hb hr hlocks dX6_isIn_21 hM (Nat.le_of_ble_eq_true rfl) (Nat.le_of_ble_eq_true rfl) (by first | exact Or.inl rfl | exact Or.inr rfl | exact zb_01 _) (by simp only [zb, zIn, c_1, decide_eq_true c_2] <;> rfl)

set_option maxHeartbeats 4000000 in
set_option maxRecDepth 100000 in
theorem c_ship (l : Launch) (G : zC) (a : zBA) (f : Nat → Int32) : zMet l G yX0_ship wsX0_ship rmX0_ship [.ref a.1] (bdW G a f) (some (.int (f 24))) (bdW G a f) := by
  refine zMet_of (cc := cX0_ship) (maxL := 1) (ret := (some .int)) (by decide) rfl (Nat.le_of_ble_eq_true rfl) ?_
  intro p e s m below meth c A ls hx hb hr hml hown hts hK hA hE hlocks hin hM hl
  have hown : s.vm.findClass RX0 = some m.cls := hown
  have hM : zM G A s s.heap [] ([(a.1, .inr (0, [.ref a.2.1, .ref a.2.2.1, .ref a.2.2.2, .int (f 24), .int (f 23), .int (f 25), .int (f 26), .int (f 27)])), (a.2.1, .inl (G.2 1, 9, .inl (fun i => f i))), (a.2.2.1, .inl (G.2 1, 9, .inl (fun i => f (9 + i)))), (a.2.2.2, .inl (G.2 1, 5, .inl (fun i => f (18 + i))))]) := hM
  have hl : lv_has ls 1 [(0, .ref a.1)] := hl
  refine lv_aload_n hx hb dX0_ship_0 rfl (lv_at hl 0 rfl) ?_
  refine z_get (ci := 0) (v := .int (f 24)) (C := RX0) (T := TX0) (N := 8) hx hb hts (by decide +kernel) hown hK hM 0 rfl rfl 3 (by decide) (hts (.fieldLink RX0 27 "ShiftIsles$Board" "ship" "I") (by decide +kernel)) (fun _ h9 => h9) rfl dX0_ship_1 ?_
  exact z_iret hx hb hr hlocks dX0_ship_4 hM (Nat.le_of_ble_eq_true rfl) (Nat.le_of_ble_eq_true rfl) rfl

set_option maxHeartbeats 4000000 in
set_option maxRecDepth 100000 in
theorem c_taken (l : Launch) (G : zC) (a : zBA) (f : Nat → Int32) : zMet l G yX0_taken wsX0_taken rmX0_taken [.ref a.1] (bdW G a f) (some (.int (f 23))) (bdW G a f) := by
  refine zMet_of (cc := cX0_taken) (maxL := 1) (ret := (some .int)) (by decide) rfl (Nat.le_of_ble_eq_true rfl) ?_
  intro p e s m below meth c A ls hx hb hr hml hown hts hK hA hE hlocks hin hM hl
  have hown : s.vm.findClass RX0 = some m.cls := hown
  have hM : zM G A s s.heap [] ([(a.1, .inr (0, [.ref a.2.1, .ref a.2.2.1, .ref a.2.2.2, .int (f 24), .int (f 23), .int (f 25), .int (f 26), .int (f 27)])), (a.2.1, .inl (G.2 1, 9, .inl (fun i => f i))), (a.2.2.1, .inl (G.2 1, 9, .inl (fun i => f (9 + i)))), (a.2.2.2, .inl (G.2 1, 5, .inl (fun i => f (18 + i))))]) := hM
  have hl : lv_has ls 1 [(0, .ref a.1)] := hl
  refine lv_aload_n hx hb dX0_taken_0 rfl (lv_at hl 0 rfl) ?_
  refine z_get (ci := 0) (v := .int (f 23)) (C := RX0) (T := TX0) (N := 8) hx hb hts (by decide +kernel) hown hK hM 0 rfl rfl 4 (by decide) (hts (.fieldLink RX0 31 "ShiftIsles$Board" "taken" "I") (by decide +kernel)) (fun _ h9 => h9) rfl dX0_taken_1 ?_
  exact z_iret hx hb hr hlocks dX0_taken_4 hM (Nat.le_of_ble_eq_true rfl) (Nat.le_of_ble_eq_true rfl) rfl

set_option maxHeartbeats 4000000 in
set_option maxRecDepth 100000 in
theorem c_lockedLine (l : Launch) (G : zC) (a : zBA) (f : Nat → Int32) : zMet l G yX0_lockedLine wsX0_lockedLine rmX0_lockedLine [.ref a.1] (bdW G a f) (some (.int (f 25))) (bdW G a f) := by
  refine zMet_of (cc := cX0_lockedLine) (maxL := 1) (ret := (some .int)) (by decide) rfl (Nat.le_of_ble_eq_true rfl) ?_
  intro p e s m below meth c A ls hx hb hr hml hown hts hK hA hE hlocks hin hM hl
  have hown : s.vm.findClass RX0 = some m.cls := hown
  have hM : zM G A s s.heap [] ([(a.1, .inr (0, [.ref a.2.1, .ref a.2.2.1, .ref a.2.2.2, .int (f 24), .int (f 23), .int (f 25), .int (f 26), .int (f 27)])), (a.2.1, .inl (G.2 1, 9, .inl (fun i => f i))), (a.2.2.1, .inl (G.2 1, 9, .inl (fun i => f (9 + i)))), (a.2.2.2, .inl (G.2 1, 5, .inl (fun i => f (18 + i))))]) := hM
  have hl : lv_has ls 1 [(0, .ref a.1)] := hl
  refine lv_aload_n hx hb dX0_lockedLine_0 rfl (lv_at hl 0 rfl) ?_
  refine z_get (ci := 0) (v := .int (f 25)) (C := RX0) (T := TX0) (N := 8) hx hb hts (by decide +kernel) hown hK hM 0 rfl rfl 5 (by decide) (hts (.fieldLink RX0 34 "ShiftIsles$Board" "locked" "I") (by decide +kernel)) (fun _ h9 => h9) rfl dX0_lockedLine_1 ?_
  exact z_iret hx hb hr hlocks dX0_lockedLine_4 hM (Nat.le_of_ble_eq_true rfl) (Nat.le_of_ble_eq_true rfl) rfl

set_option maxHeartbeats 4000000 in
set_option maxRecDepth 100000 in
theorem c_lastLine (l : Launch) (G : zC) (a : zBA) (f : Nat → Int32) : zMet l G yX0_lastLine wsX0_lastLine rmX0_lastLine [.ref a.1] (bdW G a f) (some (.int (f 26))) (bdW G a f) := by
  refine zMet_of (cc := cX0_lastLine) (maxL := 1) (ret := (some .int)) (by decide) rfl (Nat.le_of_ble_eq_true rfl) ?_
  intro p e s m below meth c A ls hx hb hr hml hown hts hK hA hE hlocks hin hM hl
  have hown : s.vm.findClass RX0 = some m.cls := hown
  have hM : zM G A s s.heap [] ([(a.1, .inr (0, [.ref a.2.1, .ref a.2.2.1, .ref a.2.2.2, .int (f 24), .int (f 23), .int (f 25), .int (f 26), .int (f 27)])), (a.2.1, .inl (G.2 1, 9, .inl (fun i => f i))), (a.2.2.1, .inl (G.2 1, 9, .inl (fun i => f (9 + i)))), (a.2.2.2, .inl (G.2 1, 5, .inl (fun i => f (18 + i))))]) := hM
  have hl : lv_has ls 1 [(0, .ref a.1)] := hl
  refine lv_aload_n hx hb dX0_lastLine_0 rfl (lv_at hl 0 rfl) ?_
  refine z_get (ci := 0) (v := .int (f 26)) (C := RX0) (T := TX0) (N := 8) hx hb hts (by decide +kernel) hown hK hM 0 rfl rfl 6 (by decide) (hts (.fieldLink RX0 37 "ShiftIsles$Board" "lastLine" "I") (by decide +kernel)) (fun _ h9 => h9) rfl dX0_lastLine_1 ?_
  exact z_iret hx hb hr hlocks dX0_lastLine_4 hM (Nat.le_of_ble_eq_true rfl) (Nat.le_of_ble_eq_true rfl) rfl

set_option maxHeartbeats 4000000 in
set_option maxRecDepth 100000 in
theorem c_lastDirection (l : Launch) (G : zC) (a : zBA) (f : Nat → Int32) : zMet l G yX0_lastDirection wsX0_lastDirection rmX0_lastDirection [.ref a.1] (bdW G a f) (some (.int (f 27))) (bdW G a f) := by
  refine zMet_of (cc := cX0_lastDirection) (maxL := 1) (ret := (some .int)) (by decide) rfl (Nat.le_of_ble_eq_true rfl) ?_
  intro p e s m below meth c A ls hx hb hr hml hown hts hK hA hE hlocks hin hM hl
  have hown : s.vm.findClass RX0 = some m.cls := hown
  have hM : zM G A s s.heap [] ([(a.1, .inr (0, [.ref a.2.1, .ref a.2.2.1, .ref a.2.2.2, .int (f 24), .int (f 23), .int (f 25), .int (f 26), .int (f 27)])), (a.2.1, .inl (G.2 1, 9, .inl (fun i => f i))), (a.2.2.1, .inl (G.2 1, 9, .inl (fun i => f (9 + i)))), (a.2.2.2, .inl (G.2 1, 5, .inl (fun i => f (18 + i))))]) := hM
  have hl : lv_has ls 1 [(0, .ref a.1)] := hl
  refine lv_aload_n hx hb dX0_lastDirection_0 rfl (lv_at hl 0 rfl) ?_
  refine z_get (ci := 0) (v := .int (f 27)) (C := RX0) (T := TX0) (N := 8) hx hb hts (by decide +kernel) hown hK hM 0 rfl rfl 7 (by decide) (hts (.fieldLink RX0 40 "ShiftIsles$Board" "lastDirection" "I") (by decide +kernel)) (fun _ h9 => h9) rfl dX0_lastDirection_1 ?_
  exact z_iret hx hb hr hlocks dX0_lastDirection_4 hM (Nat.le_of_ble_eq_true rfl) (Nat.le_of_ble_eq_true rfl) rfl

set_option maxHeartbeats 4000000 in
set_option maxRecDepth 100000 in
theorem c_openingsAt (l : Launch) (G : zC) (a : zBA) (f : Nat → Int32) (n : Int32) : zMet l G yX0_openingsAt wsX0_openingsAt rmX0_openingsAt [.ref a.1, .int n] (bdW G a f) (some (.int (if zPl n = true then f n.toNatClampNeg else 0))) (bdW G a f) := by
  refine zMet_of (cc := cX0_openingsAt) (maxL := 2) (ret := (some .int)) (by decide) rfl (Nat.le_of_ble_eq_true rfl) ?_
  intro p e s m below meth c A ls hx hb hr hml hown hts hK hA hE hlocks hin hM hl
  have hown : s.vm.findClass RX0 = some m.cls := hown
  have hM : zM G A s s.heap [] ([(a.1, .inr (0, [.ref a.2.1, .ref a.2.2.1, .ref a.2.2.2, .int (f 24), .int (f 23), .int (f 25), .int (f 26), .int (f 27)])), (a.2.1, .inl (G.2 1, 9, .inl (fun i => f i))), (a.2.2.1, .inl (G.2 1, 9, .inl (fun i => f (9 + i)))), (a.2.2.2, .inl (G.2 1, 5, .inl (fun i => f (18 + i))))]) := hM
  have hl : lv_has ls 2 [(0, .ref a.1), (1, .int n)] := hl
  refine lv_iload_n hx hb dX0_openingsAt_0 rfl (lv_at hl 1 rfl) ?_
  refine z_callSN (As := [.int n]) (rest := []) (wc := []) (wr := [(a.1, .inr (0, [.ref a.2.1, .ref a.2.2.1, .ref a.2.2.2, .int (f 24), .int (f 23), .int (f 25), .int (f 26), .int (f 27)])), (a.2.1, .inl (G.2 1, 9, .inl (fun i => f i))), (a.2.2.1, .inl (G.2 1, 9, .inl (fun i => f (9 + i)))), (a.2.2.2, .inl (G.2 1, 5, .inl (fun i => f (18 + i))))]) (w1 := []) (ws' := [(a.1, .inr (0, [.ref a.2.1, .ref a.2.2.1, .ref a.2.2.2, .int (f 24), .int (f 23), .int (f 25), .int (f 26), .int (f 27)])), (a.2.1, .inl (G.2 1, 9, .inl (fun i => f i))), (a.2.2.1, .inl (G.2 1, 9, .inl (fun i => f (9 + i)))), (a.2.2.2, .inl (G.2 1, 5, .inl (fun i => f (18 + i))))]) ⟨hx, hb, hml, hown, hts⟩ (c_isPlace l G n) ⟨va_cnB (host := RX6) 1 hts gX0_openingsAt_X6_isPlace_n56 rfl rfl rfl (hE.1.1 _ (List.mem_of_getElem? (i := 1) rfl)) (hts _ (by decide +kernel)) (by decide +kernel) ⟨Nat.le_of_ble_eq_true rfl, Nat.le_of_ble_eq_true rfl⟩, hts _ (by decide +kernel), trivial⟩ rfl hl.1 rfl (by decide) dX0_openingsAt_1 ⟨Nat.le_of_ble_eq_true rfl, Nat.le_of_ble_eq_true rfl⟩ hK hE hA hM (List.Perm.refl _) (List.Perm.refl _) (fun H locs hM hz => ?_)
  refine z_ifeq (tgt := 16) hx hb dX0_openingsAt_4 (by decide) (fun c_1 => ?_) (fun c_1 => ?_)
  · skip
    refine lv_iconst (v := 0) hx hb dX0_openingsAt_16 (by decide) ?_
    exact z_iret hx hb hr hlocks dX0_openingsAt_17 hM (Nat.le_of_ble_eq_true rfl) (Nat.le_of_ble_eq_true rfl) (by simp [zb, c_1])
  · skip
    refine lv_aload_n hx hb dX0_openingsAt_7 rfl (lv_at hl 0 rfl) ?_
    refine z_get (ci := 0) (v := .ref a.2.1) (C := RX0) (T := TX0) (N := 8) hx hb hts (by decide +kernel) hown hK hM 0 rfl rfl 0 (by decide) (hts (.fieldLink RX0 9 "ShiftIsles$Board" "openings" "[I") (by decide +kernel)) (fun _ h9 => h9) rfl dX0_openingsAt_8 ?_
    refine lv_iload_n hx hb dX0_openingsAt_11 rfl (lv_at hl 1 rfl) ?_
    refine z_iald hx hb hK hM 1 rfl (v := f n.toNatClampNeg) (zPl_in c_1) rfl dX0_openingsAt_12 ?_
    refine lv_goto (tgt := 17) hx hb dX0_openingsAt_13 (by decide) ?_
    exact z_iret hx hb hr hlocks dX0_openingsAt_17 hM (Nat.le_of_ble_eq_true rfl) (Nat.le_of_ble_eq_true rfl) (by simp [zb, c_1])

set_option maxHeartbeats 4000000 in
set_option maxRecDepth 100000 in
theorem c_treasureAt (l : Launch) (G : zC) (a : zBA) (f : Nat → Int32) (n : Int32) : zMet l G yX0_treasureAt wsX0_treasureAt rmX0_treasureAt [.ref a.1, .int n] (bdW G a f) (some (.int (if zPl n = true then f (9 + n.toNatClampNeg) else 0))) (bdW G a f) := by
  refine zMet_of (cc := cX0_treasureAt) (maxL := 2) (ret := (some .int)) (by decide) rfl (Nat.le_of_ble_eq_true rfl) ?_
  intro p e s m below meth c A ls hx hb hr hml hown hts hK hA hE hlocks hin hM hl
  have hown : s.vm.findClass RX0 = some m.cls := hown
  have hM : zM G A s s.heap [] ([(a.1, .inr (0, [.ref a.2.1, .ref a.2.2.1, .ref a.2.2.2, .int (f 24), .int (f 23), .int (f 25), .int (f 26), .int (f 27)])), (a.2.1, .inl (G.2 1, 9, .inl (fun i => f i))), (a.2.2.1, .inl (G.2 1, 9, .inl (fun i => f (9 + i)))), (a.2.2.2, .inl (G.2 1, 5, .inl (fun i => f (18 + i))))]) := hM
  have hl : lv_has ls 2 [(0, .ref a.1), (1, .int n)] := hl
  refine lv_iload_n hx hb dX0_treasureAt_0 rfl (lv_at hl 1 rfl) ?_
  refine z_callSN (As := [.int n]) (rest := []) (wc := []) (wr := [(a.1, .inr (0, [.ref a.2.1, .ref a.2.2.1, .ref a.2.2.2, .int (f 24), .int (f 23), .int (f 25), .int (f 26), .int (f 27)])), (a.2.1, .inl (G.2 1, 9, .inl (fun i => f i))), (a.2.2.1, .inl (G.2 1, 9, .inl (fun i => f (9 + i)))), (a.2.2.2, .inl (G.2 1, 5, .inl (fun i => f (18 + i))))]) (w1 := []) (ws' := [(a.1, .inr (0, [.ref a.2.1, .ref a.2.2.1, .ref a.2.2.2, .int (f 24), .int (f 23), .int (f 25), .int (f 26), .int (f 27)])), (a.2.1, .inl (G.2 1, 9, .inl (fun i => f i))), (a.2.2.1, .inl (G.2 1, 9, .inl (fun i => f (9 + i)))), (a.2.2.2, .inl (G.2 1, 5, .inl (fun i => f (18 + i))))]) ⟨hx, hb, hml, hown, hts⟩ (c_isPlace l G n) ⟨va_cnB (host := RX6) 1 hts gX0_treasureAt_X6_isPlace_n56 rfl rfl rfl (hE.1.1 _ (List.mem_of_getElem? (i := 1) rfl)) (hts _ (by decide +kernel)) (by decide +kernel) ⟨Nat.le_of_ble_eq_true rfl, Nat.le_of_ble_eq_true rfl⟩, hts _ (by decide +kernel), trivial⟩ rfl hl.1 rfl (by decide) dX0_treasureAt_1 ⟨Nat.le_of_ble_eq_true rfl, Nat.le_of_ble_eq_true rfl⟩ hK hE hA hM (List.Perm.refl _) (List.Perm.refl _) (fun H locs hM hz => ?_)
  refine z_ifeq (tgt := 16) hx hb dX0_treasureAt_4 (by decide) (fun c_1 => ?_) (fun c_1 => ?_)
  · skip
    refine lv_iconst (v := 0) hx hb dX0_treasureAt_16 (by decide) ?_
    exact z_iret hx hb hr hlocks dX0_treasureAt_17 hM (Nat.le_of_ble_eq_true rfl) (Nat.le_of_ble_eq_true rfl) (by simp [zb, c_1])
  · skip
    refine lv_aload_n hx hb dX0_treasureAt_7 rfl (lv_at hl 0 rfl) ?_
    refine z_get (ci := 0) (v := .ref a.2.2.1) (C := RX0) (T := TX0) (N := 8) hx hb hts (by decide +kernel) hown hK hM 0 rfl rfl 1 (by decide) (hts (.fieldLink RX0 15 "ShiftIsles$Board" "treasures" "[I") (by decide +kernel)) (fun _ h9 => h9) rfl dX0_treasureAt_8 ?_
    refine lv_iload_n hx hb dX0_treasureAt_11 rfl (lv_at hl 1 rfl) ?_
    refine z_iald hx hb hK hM 2 rfl (v := f (9 + n.toNatClampNeg)) (zPl_in c_1) rfl dX0_treasureAt_12 ?_
    refine lv_goto (tgt := 17) hx hb dX0_treasureAt_13 (by decide) ?_
    exact z_iret hx hb hr hlocks dX0_treasureAt_17 hM (Nat.le_of_ble_eq_true rfl) (Nat.le_of_ble_eq_true rfl) (by simp [zb, c_1])

set_option maxHeartbeats 4000000 in
set_option maxRecDepth 100000 in
theorem c_lockOn (l : Launch) (G : zC) (a : zBA) (f : Nat → Int32) (n : Int32) : zMet l G yX0_lockOn wsX0_lockOn rmX0_lockOn [.ref a.1, .int n] (bdW G a f) none (bdW G a (upd f 25 n)) := by
  refine zMet_of (cc := cX0_lockOn) (maxL := 2) (ret := none) (by decide) rfl (Nat.le_of_ble_eq_true rfl) ?_
  intro p e s m below meth c A ls hx hb hr hml hown hts hK hA hE hlocks hin hM hl
  have hown : s.vm.findClass RX0 = some m.cls := hown
  have hM : zM G A s s.heap [] ([(a.1, .inr (0, [.ref a.2.1, .ref a.2.2.1, .ref a.2.2.2, .int (f 24), .int (f 23), .int (f 25), .int (f 26), .int (f 27)])), (a.2.1, .inl (G.2 1, 9, .inl (fun i => f i))), (a.2.2.1, .inl (G.2 1, 9, .inl (fun i => f (9 + i)))), (a.2.2.2, .inl (G.2 1, 5, .inl (fun i => f (18 + i))))]) := hM
  have hl : lv_has ls 2 [(0, .ref a.1), (1, .int n)] := hl
  refine lv_aload_n hx hb dX0_lockOn_0 rfl (lv_at hl 0 rfl) ?_
  refine lv_iload_n hx hb dX0_lockOn_1 rfl (lv_at hl 1 rfl) ?_
  refine z_put (ci := 0) (ty := .int) (v := .int n) (C := RX0) (T := TX0) (N := 8) (ws' := [(a.1, .inr (0, [.ref a.2.1, .ref a.2.2.1, .ref a.2.2.2, .int (f 24), .int (f 23), .int n, .int (f 26), .int (f 27)])), (a.2.1, .inl (G.2 1, 9, .inl (fun i => f i))), (a.2.2.1, .inl (G.2 1, 9, .inl (fun i => f (9 + i)))), (a.2.2.2, .inl (G.2 1, 5, .inl (fun i => f (18 + i))))]) hx hb hts (by decide +kernel) tyX0 tyX0_ok nmX0 hown hK hM 0 rfl rfl 5 (by decide) (hts (.fieldLink RX0 34 "ShiftIsles$Board" "locked" "I") (by decide +kernel)) (fun _ h9 => h9) rfl (by decide +kernel) rfl rfl (Nat.le_of_ble_eq_true rfl) dX0_lockOn_2 rfl (fun H locs hM => ?_)
  exact z_vret hx hb hr hlocks dX0_lockOn_5 (zM_sim (bd_fold rfl rfl rfl rfl rfl (fun i hi => (pk_un (by omega)).symm) (fun i hi => (pk_un (by omega)).symm) (fun i hi => (pk_un (by omega)).symm)) hM) (Nat.le_of_ble_eq_true rfl) (Nat.le_of_ble_eq_true rfl)

set_option maxHeartbeats 4000000 in
set_option maxRecDepth 100000 in
theorem c_unlock (l : Launch) (G : zC) (a : zBA) (f : Nat → Int32) : zMet l G yX0_unlock wsX0_unlock rmX0_unlock [.ref a.1] (bdW G a f) none (bdW G a (upd f 25 (-1))) := by
  refine zMet_of (cc := cX0_unlock) (maxL := 1) (ret := none) (by decide) rfl (Nat.le_of_ble_eq_true rfl) ?_
  intro p e s m below meth c A ls hx hb hr hml hown hts hK hA hE hlocks hin hM hl
  have hown : s.vm.findClass RX0 = some m.cls := hown
  have hM : zM G A s s.heap [] ([(a.1, .inr (0, [.ref a.2.1, .ref a.2.2.1, .ref a.2.2.2, .int (f 24), .int (f 23), .int (f 25), .int (f 26), .int (f 27)])), (a.2.1, .inl (G.2 1, 9, .inl (fun i => f i))), (a.2.2.1, .inl (G.2 1, 9, .inl (fun i => f (9 + i)))), (a.2.2.2, .inl (G.2 1, 5, .inl (fun i => f (18 + i))))]) := hM
  have hl : lv_has ls 1 [(0, .ref a.1)] := hl
  refine lv_aload_n hx hb dX0_unlock_0 rfl (lv_at hl 0 rfl) ?_
  refine lv_iconst (v := (-1)) hx hb dX0_unlock_1 (by decide) ?_
  refine z_put (ci := 0) (ty := .int) (v := .int (-1)) (C := RX0) (T := TX0) (N := 8) (ws' := [(a.1, .inr (0, [.ref a.2.1, .ref a.2.2.1, .ref a.2.2.2, .int (f 24), .int (f 23), .int (-1), .int (f 26), .int (f 27)])), (a.2.1, .inl (G.2 1, 9, .inl (fun i => f i))), (a.2.2.1, .inl (G.2 1, 9, .inl (fun i => f (9 + i)))), (a.2.2.2, .inl (G.2 1, 5, .inl (fun i => f (18 + i))))]) hx hb hts (by decide +kernel) tyX0 tyX0_ok nmX0 hown hK hM 0 rfl rfl 5 (by decide) (hts (.fieldLink RX0 34 "ShiftIsles$Board" "locked" "I") (by decide +kernel)) (fun _ h9 => h9) rfl (by decide +kernel) rfl rfl (Nat.le_of_ble_eq_true rfl) dX0_unlock_2 rfl (fun H locs hM => ?_)
  exact z_vret hx hb hr hlocks dX0_unlock_5 (zM_sim (bd_fold rfl rfl rfl rfl rfl (fun i hi => (pk_un (by omega)).symm) (fun i hi => (pk_un (by omega)).symm) (fun i hi => (pk_un (by omega)).symm)) hM) (Nat.le_of_ble_eq_true rfl) (Nat.le_of_ble_eq_true rfl)

set_option maxHeartbeats 4000000 in
set_option maxRecDepth 100000 in
theorem c_sought (l : Launch) (G : zC) (a : zBA) (f : Nat → Int32) : zMet l G yX0_sought wsX0_sought rmX0_sought [.ref a.1] (bdW G a f) (some (.int (zSo f))) (bdW G a f) := by
  refine zMet_of (cc := cX0_sought) (maxL := 1) (ret := (some .int)) (by decide) rfl (Nat.le_of_ble_eq_true rfl) ?_
  intro p e s m below meth c A ls hx hb hr hml hown hts hK hA hE hlocks hin hM hl
  have hown : s.vm.findClass RX0 = some m.cls := hown
  have hM : zM G A s s.heap [] ([(a.1, .inr (0, [.ref a.2.1, .ref a.2.2.1, .ref a.2.2.2, .int (f 24), .int (f 23), .int (f 25), .int (f 26), .int (f 27)])), (a.2.1, .inl (G.2 1, 9, .inl (fun i => f i))), (a.2.2.1, .inl (G.2 1, 9, .inl (fun i => f (9 + i)))), (a.2.2.2, .inl (G.2 1, 5, .inl (fun i => f (18 + i))))]) := hM
  have hl : lv_has ls 1 [(0, .ref a.1)] := hl
  refine lv_aload_n hx hb dX0_sought_0 rfl (lv_at hl 0 rfl) ?_
  refine z_get (ci := 0) (v := .int (f 23)) (C := RX0) (T := TX0) (N := 8) hx hb hts (by decide +kernel) hown hK hM 0 rfl rfl 4 (by decide) (hts (.fieldLink RX0 31 "ShiftIsles$Board" "taken" "I") (by decide +kernel)) (fun _ h9 => h9) rfl dX0_sought_1 ?_
  refine lv_if_lt (tgt := 27) hx hb dX0_sought_4 (by decide) (fun c_1 => ?_) (fun c_1 => ?_)
  · skip
    refine lv_iconst (v := (-1)) hx hb dX0_sought_27 (by decide) ?_
    exact z_iret hx hb hr hlocks dX0_sought_28 hM (Nat.le_of_ble_eq_true rfl) (Nat.le_of_ble_eq_true rfl) (by simp only [zSo, decide_eq_true c_1] <;> rfl)
  · skip
    refine lv_aload_n hx hb dX0_sought_7 rfl (lv_at hl 0 rfl) ?_
    refine z_get (ci := 0) (v := .int (f 23)) (C := RX0) (T := TX0) (N := 8) hx hb hts (by decide +kernel) hown hK hM 0 rfl rfl 4 (by decide) (hts (.fieldLink RX0 31 "ShiftIsles$Board" "taken" "I") (by decide +kernel)) (fun _ h9 => h9) rfl dX0_sought_8 ?_
    refine lv_iconst (v := 5) hx hb dX0_sought_11 (by decide) ?_
    refine lv_icmp_ge (tgt := 27) hx hb dX0_sought_12 (by decide) (fun c_2 => ?_) (fun c_2 => ?_)
    · skip
      refine lv_iconst (v := (-1)) hx hb dX0_sought_27 (by decide) ?_
      exact z_iret hx hb hr hlocks dX0_sought_28 hM (Nat.le_of_ble_eq_true rfl) (Nat.le_of_ble_eq_true rfl) (by simp only [zSo, decide_eq_false c_1, decide_eq_true c_2] <;> rfl)
    · skip
      refine lv_aload_n hx hb dX0_sought_15 rfl (lv_at hl 0 rfl) ?_
      refine z_get (ci := 0) (v := .ref a.2.2.2) (C := RX0) (T := TX0) (N := 8) hx hb hts (by decide +kernel) hown hK hM 0 rfl rfl 2 (by decide) (hts (.fieldLink RX0 18 "ShiftIsles$Board" "order" "[I") (by decide +kernel)) (fun _ h9 => h9) rfl dX0_sought_16 ?_
      refine lv_aload_n hx hb dX0_sought_19 rfl (lv_at hl 0 rfl) ?_
      refine z_get (ci := 0) (v := .int (f 23)) (C := RX0) (T := TX0) (N := 8) hx hb hts (by decide +kernel) hown hK hM 0 rfl rfl 4 (by decide) (hts (.fieldLink RX0 31 "ShiftIsles$Board" "taken" "I") (by decide +kernel)) (fun _ h9 => h9) rfl dX0_sought_20 ?_
      refine z_iald hx hb hK hM 3 rfl (v := f (18 + (f 23).toNatClampNeg)) (vpin_of (n := 5) (by decide) c_1 c_2) rfl dX0_sought_23 ?_
      refine lv_goto (tgt := 28) hx hb dX0_sought_24 (by decide) ?_
      exact z_iret hx hb hr hlocks dX0_sought_28 hM (Nat.le_of_ble_eq_true rfl) (Nat.le_of_ble_eq_true rfl) (by simp only [zSo, decide_eq_false c_1, decide_eq_false c_2] <;> rfl)

set_option maxHeartbeats 4000000 in
set_option maxRecDepth 100000 in
theorem c_soughtPlace (l : Launch) (G : zC) (a : zBA) (f : Nat → Int32) : zMet l G yX0_soughtPlace wsX0_soughtPlace rmX0_soughtPlace [.ref a.1] (bdW G a f) (some (.int (zSp f))) (bdW G a f) := by
  refine zMet_of (cc := cX0_soughtPlace) (maxL := 3) (ret := (some .int)) (by decide) rfl (Nat.le_of_ble_eq_true rfl) ?_
  intro p e s m below meth c A ls hx hb hr hml hown hts hK hA hE hlocks hin hM hl
  have hown : s.vm.findClass RX0 = some m.cls := hown
  have hM : zM G A s s.heap [] ([(a.1, .inr (0, [.ref a.2.1, .ref a.2.2.1, .ref a.2.2.2, .int (f 24), .int (f 23), .int (f 25), .int (f 26), .int (f 27)])), (a.2.1, .inl (G.2 1, 9, .inl (fun i => f i))), (a.2.2.1, .inl (G.2 1, 9, .inl (fun i => f (9 + i)))), (a.2.2.2, .inl (G.2 1, 5, .inl (fun i => f (18 + i))))]) := hM
  have hl : lv_has ls 3 [(0, .ref a.1)] := hl
  refine lv_aload_n hx hb dX0_soughtPlace_0 rfl (lv_at hl 0 rfl) ?_
  refine z_callV (As := []) (rest := []) (wc := bdW G a f) (wr := []) (w1 := bdW G a f) (ws' := [(a.1, .inr (0, [.ref a.2.1, .ref a.2.2.1, .ref a.2.2.2, .int (f 24), .int (f 23), .int (f 25), .int (f 26), .int (f 27)])), (a.2.1, .inl (G.2 1, 9, .inl (fun i => f i))), (a.2.2.1, .inl (G.2 1, 9, .inl (fun i => f (9 + i)))), (a.2.2.2, .inl (G.2 1, 5, .inl (fun i => f (18 + i))))]) ⟨hx, hb, hml, hown, hts⟩ (c_sought l G a f ) (cwV 0 hts gX0_soughtPlace_X0_sought rfl rfl rfl (by decide +kernel) ⟨Nat.le_of_ble_eq_true rfl, Nat.le_of_ble_eq_true rfl⟩) 0 rfl rfl rfl rfl hl.1 rfl (by decide) dX0_soughtPlace_1 ⟨Nat.le_of_ble_eq_true rfl, Nat.le_of_ble_eq_true rfl⟩ hK hE hA hM (pm_at 4 [0, 1, 2, 3] [] rfl rfl rfl (by decide)) ((pm_at 4 [0, 1, 2, 3] [] rfl rfl rfl (by decide))).symm (fun H locs hM hz => ?_)
  refine lv_istore_n (lv' := [(1, .int (zSo f)), (0, .ref a.1)]) hx hb dX0_soughtPlace_4 rfl hl (by decide) rfl (fun ls hl => ?_)
  refine lv_iconst (v := nI 0) hx hb dX0_soughtPlace_5 (by decide) ?_
  refine lv_istore_n (lv' := [(2, .int (nI 0)), (1, .int (zSo f)), (0, .ref a.1)]) hx hb dX0_soughtPlace_6 rfl hl (by decide) rfl (fun ls hl => ?_)
  have lp7 : ∀ (k : Nat) (i : Nat), (i + k = 9) → (zSp f = zFd (fun i => f (9 + i)) (zSo f) k i) → ∀ (H : Heap) (locs : List Loc), zM G A s H locs ([(a.1, .inr (0, [.ref a.2.1, .ref a.2.2.1, .ref a.2.2.2, .int (f 24), .int (f 23), .int (f 25), .int (f 26), .int (f 27)])), (a.2.1, .inl (G.2 1, 9, .inl (fun i => f i))), (a.2.2.1, .inl (G.2 1, 9, .inl (fun i => f (9 + i)))), (a.2.2.2, .inl (G.2 1, 5, .inl (fun i => f (18 + i))))]) → ∀ ls : Array Slot, lv_has ls 3 [(0, .ref a.1), (1, .int (zSo f)), (2, .int (nI i))] → W p l e rmX0_soughtPlace s m ([.ref a.1] : List Value).toArray below meth c H locs 0 0 (zEnd G below ([.ref a.1] : List Value).toArray s rmX0_soughtPlace A (some (.int (zSp f))) (bdW G a f)) (F0 m 7 ls []) := by
    intro k
    induction k with
    | zero =>
      intro i hik hR H locs hM ls hl
      refine lv_iload_n hx hb dX0_soughtPlace_7 rfl (lv_at hl 2 rfl) ?_
      refine lv_bipush (v := nI 9) hx hb dX0_soughtPlace_8 (by decide) ?_
      refine lv_icmp_ge (tgt := 31) hx hb dX0_soughtPlace_10 (by decide) (fun c_1 => ?_) (fun c_1 => absurd (nI_le (by omega) (by omega)) c_1)
      refine lv_iconst (v := (-1)) hx hb dX0_soughtPlace_31 (by decide) ?_
      exact z_iret hx hb hr hlocks dX0_soughtPlace_32 hM (Nat.le_of_ble_eq_true rfl) (Nat.le_of_ble_eq_true rfl) (by rw [hR]; rfl)
    | succ k ih =>
      intro i hik hR H locs hM ls hl
      refine lv_iload_n hx hb dX0_soughtPlace_7 rfl (lv_at hl 2 rfl) ?_
      refine lv_bipush (v := nI 9) hx hb dX0_soughtPlace_8 (by decide) ?_
      refine lv_icmp_ge (tgt := 31) hx hb dX0_soughtPlace_10 (by decide) (fun c_2 => absurd c_2 (nI_ge (by omega) (by decide))) (fun c_2 => ?_)
      refine lv_aload_n hx hb dX0_soughtPlace_13 rfl (lv_at hl 0 rfl) ?_
      refine z_get (ci := 0) (v := .ref a.2.2.1) (C := RX0) (T := TX0) (N := 8) hx hb hts (by decide +kernel) hown hK hM 0 rfl rfl 1 (by decide) (hts (.fieldLink RX0 15 "ShiftIsles$Board" "treasures" "[I") (by decide +kernel)) (fun _ h9 => h9) rfl dX0_soughtPlace_14 ?_
      refine lv_iload_n hx hb dX0_soughtPlace_17 rfl (lv_at hl 2 rfl) ?_
      refine z_iald hx hb hK hM 2 rfl (v := f (9 + i)) (vp_in_nI (by omega) (by decide)) (by rw [nI_clamp (by omega)]) dX0_soughtPlace_18 ?_
      refine lv_iload_n hx hb dX0_soughtPlace_19 rfl (lv_at hl 1 rfl) ?_
      refine lv_icmp_ne (tgt := 25) hx hb dX0_soughtPlace_20 (by decide) (fun c_3 => ?_) (fun c_3 => ?_)
      · skip
        refine lv_iinc (v := nI (i + 1)) (lv' := [(2, .int (nI (i + 1))), (0, .ref a.1), (1, .int (zSo f))]) hx hb dX0_soughtPlace_25 hl (k := 2) rfl (nI_1 i) (by decide) rfl (fun ls hl => ?_)
        refine lv_goto (tgt := 7) hx hb dX0_soughtPlace_28 (by decide) ?_
        exact ih (i + 1) (by omega) (by rw [hR]; simp only [zFd, if_neg c_3]) _ _ hM _ (lv_sub hl [1, 2, 0] rfl)
      · skip
        refine lv_iload_n hx hb dX0_soughtPlace_23 rfl (lv_at hl 2 rfl) ?_
        exact z_iret hx hb hr hlocks dX0_soughtPlace_24 hM (Nat.le_of_ble_eq_true rfl) (Nat.le_of_ble_eq_true rfl) (by rw [hR]; simp only [zFd, if_pos c_3])
  exact lp7 9 0 rfl rfl _ _ hM _ (lv_sub hl [2, 1, 0] rfl)

set_option maxHeartbeats 4000000 in
set_option maxRecDepth 100000 in
theorem c_allows (l : Launch) (G : zC) (a : zBA) (f : Nat → Int32) (n d : Int32) : zMet l G yX0_allows wsX0_allows rmX0_allows [.ref a.1, .int n, .int d] (bdW G a f) (some (.int (zb (zAl f n d)))) (bdW G a f) := by
  refine zMet_of (cc := cX0_allows) (maxL := 3) (ret := (some .boolean)) (by decide) rfl (Nat.le_of_ble_eq_true rfl) ?_
  intro p e s m below meth c A ls hx hb hr hml hown hts hK hA hE hlocks hin hM hl
  have hown : s.vm.findClass RX0 = some m.cls := hown
  have hM : zM G A s s.heap [] ([(a.1, .inr (0, [.ref a.2.1, .ref a.2.2.1, .ref a.2.2.2, .int (f 24), .int (f 23), .int (f 25), .int (f 26), .int (f 27)])), (a.2.1, .inl (G.2 1, 9, .inl (fun i => f i))), (a.2.2.1, .inl (G.2 1, 9, .inl (fun i => f (9 + i)))), (a.2.2.2, .inl (G.2 1, 5, .inl (fun i => f (18 + i))))]) := hM
  have hl : lv_has ls 3 [(0, .ref a.1), (1, .int n), (2, .int d)] := hl
  refine lv_iload_n hx hb dX0_allows_0 rfl (lv_at hl 1 rfl) ?_
  refine lv_aload_n hx hb dX0_allows_1 rfl (lv_at hl 0 rfl) ?_
  refine z_get (ci := 0) (v := .int (f 25)) (C := RX0) (T := TX0) (N := 8) hx hb hts (by decide +kernel) hown hK hM 0 rfl rfl 5 (by decide) (hts (.fieldLink RX0 34 "ShiftIsles$Board" "locked" "I") (by decide +kernel)) (fun _ h9 => h9) rfl dX0_allows_2 ?_
  refine lv_icmp_eq (tgt := 28) hx hb dX0_allows_5 (by decide) (fun c_1 => ?_) (fun c_1 => ?_)
  · skip
    refine lv_iconst (v := 0) hx hb dX0_allows_28 (by decide) ?_
    exact z_zret hx hb hr hlocks dX0_allows_29 hM (Nat.le_of_ble_eq_true rfl) (Nat.le_of_ble_eq_true rfl) (by first | exact Or.inl rfl | exact Or.inr rfl | exact zb_01 _) (by simp only [zb, zAl, decide_eq_true c_1] <;> rfl)
  · skip
    refine lv_iload_n hx hb dX0_allows_8 rfl (lv_at hl 1 rfl) ?_
    refine lv_aload_n hx hb dX0_allows_9 rfl (lv_at hl 0 rfl) ?_
    refine z_get (ci := 0) (v := .int (f 26)) (C := RX0) (T := TX0) (N := 8) hx hb hts (by decide +kernel) hown hK hM 0 rfl rfl 6 (by decide) (hts (.fieldLink RX0 37 "ShiftIsles$Board" "lastLine" "I") (by decide +kernel)) (fun _ h9 => h9) rfl dX0_allows_10 ?_
    refine lv_icmp_ne (tgt := 24) hx hb dX0_allows_13 (by decide) (fun c_2 => ?_) (fun c_2 => ?_)
    · skip
      refine lv_iconst (v := 1) hx hb dX0_allows_24 (by decide) ?_
      refine lv_goto (tgt := 29) hx hb dX0_allows_25 (by decide) ?_
      exact z_zret hx hb hr hlocks dX0_allows_29 hM (Nat.le_of_ble_eq_true rfl) (Nat.le_of_ble_eq_true rfl) (by first | exact Or.inl rfl | exact Or.inr rfl | exact zb_01 _) (by simp only [zb, zAl, decide_eq_false c_1, decide_eq_false c_2] <;> rfl)
    · skip
      refine lv_iload_n hx hb dX0_allows_16 rfl (lv_at hl 2 rfl) ?_
      refine lv_aload_n hx hb dX0_allows_17 rfl (lv_at hl 0 rfl) ?_
      refine z_get (ci := 0) (v := .int (f 27)) (C := RX0) (T := TX0) (N := 8) hx hb hts (by decide +kernel) hown hK hM 0 rfl rfl 7 (by decide) (hts (.fieldLink RX0 40 "ShiftIsles$Board" "lastDirection" "I") (by decide +kernel)) (fun _ h9 => h9) rfl dX0_allows_18 ?_
      refine lv_icmp_ne (tgt := 28) hx hb dX0_allows_21 (by decide) (fun c_3 => ?_) (fun c_3 => ?_)
      · skip
        refine lv_iconst (v := 0) hx hb dX0_allows_28 (by decide) ?_
        exact z_zret hx hb hr hlocks dX0_allows_29 hM (Nat.le_of_ble_eq_true rfl) (Nat.le_of_ble_eq_true rfl) (by first | exact Or.inl rfl | exact Or.inr rfl | exact zb_01 _) (by simp only [zb, zAl, decide_eq_false c_1, decide_eq_true c_2, decide_eq_false c_3] <;> rfl)
      · skip
        refine lv_iconst (v := 1) hx hb dX0_allows_24 (by decide) ?_
        refine lv_goto (tgt := 29) hx hb dX0_allows_25 (by decide) ?_
        exact z_zret hx hb hr hlocks dX0_allows_29 hM (Nat.le_of_ble_eq_true rfl) (Nat.le_of_ble_eq_true rfl) (by first | exact Or.inl rfl | exact Or.inr rfl | exact zb_01 _) (by simp only [zb, zAl, decide_eq_false c_1, decide_eq_true c_2, decide_eq_true c_3] <;> rfl)

set_option maxHeartbeats 4000000 in
set_option maxRecDepth 100000 in
theorem c_widened (l : Launch) (G : zC) (x a d : Int32) : zMet l G yX0_widened wsX0_widened rmX0_widened [.int x, .int a, .int d] ([]) (some (.int (zWi x a d))) ([]) := by
  refine zMet_of (cc := cX0_widened) (maxL := 5) (ret := (some .int)) (by decide) rfl (Nat.le_of_ble_eq_true rfl) ?_
  intro p e s m below meth c A ls hx hb hr hml hown hts hK hA hE hlocks hin hM hl
  have hown : s.vm.findClass RX0 = some m.cls := hown
  have hM : zM G A s s.heap [] ([]) := hM
  have hl : lv_has ls 5 [(0, .int x), (1, .int a), (2, .int d)] := hl
  refine lv_iload_n hx hb dX0_widened_0 rfl (lv_at hl 0 rfl) ?_
  refine lv_iload_n hx hb dX0_widened_1 rfl (lv_at hl 1 rfl) ?_
  refine lv_iand hx hb dX0_widened_2 ?_
  refine lv_iconst (v := 1) hx hb dX0_widened_3 (by decide) ?_
  refine lv_ishl hx hb dX0_widened_4 ?_
  refine lv_iload_n hx hb dX0_widened_5 rfl (lv_at hl 0 rfl) ?_
  refine lv_iconst (v := 1) hx hb dX0_widened_6 (by decide) ?_
  refine lv_ishr hx hb dX0_widened_7 ?_
  refine lv_iload_n hx hb dX0_widened_8 rfl (lv_at hl 1 rfl) ?_
  refine lv_iand hx hb dX0_widened_9 ?_
  refine lv_ior hx hb dX0_widened_10 ?_
  refine lv_istore_n (lv' := [(3, .int (((x &&& a) <<< (1 &&& 31)) ||| ((x >>> (1 &&& 31)) &&& a))), (0, .int x), (1, .int a), (2, .int d)]) hx hb dX0_widened_11 rfl hl (by decide) rfl (fun ls hl => ?_)
  refine lv_iload_n hx hb dX0_widened_12 rfl (lv_at hl 1 rfl) ?_
  refine lv_iload_n hx hb dX0_widened_13 rfl (lv_at hl 3 rfl) ?_
  refine lv_iand hx hb dX0_widened_14 ?_
  refine lv_iconst (v := 3) hx hb dX0_widened_15 (by decide) ?_
  refine lv_ishl hx hb dX0_widened_16 ?_
  refine lv_iload_n hx hb dX0_widened_17 rfl (lv_at hl 1 rfl) ?_
  refine lv_iconst (v := 3) hx hb dX0_widened_18 (by decide) ?_
  refine lv_ishr hx hb dX0_widened_19 ?_
  refine lv_iload_n hx hb dX0_widened_20 rfl (lv_at hl 3 rfl) ?_
  refine lv_iand hx hb dX0_widened_21 ?_
  refine lv_ior hx hb dX0_widened_22 ?_
  refine lv_istore (lv' := [(4, .int (((x &&& d) <<< (3 &&& 31)) ||| ((x >>> (3 &&& 31)) &&& d))), (3, .int (((x &&& a) <<< (1 &&& 31)) ||| ((x >>> (1 &&& 31)) &&& a))), (0, .int x), (1, .int a), (2, .int d)]) hx hb dX0_widened_23 hl (by decide) rfl (fun ls hl => ?_)
  refine lv_iload_n hx hb dX0_widened_25 rfl (lv_at hl 2 rfl) ?_
  refine lv_iload_n hx hb dX0_widened_26 rfl (lv_at hl 1 rfl) ?_
  refine lv_ior hx hb dX0_widened_27 ?_
  refine lv_iload hx hb dX0_widened_28 (lv_at hl 0 rfl) ?_
  refine lv_ior hx hb dX0_widened_30 ?_
  exact z_iret hx hb hr hlocks dX0_widened_31 hM (Nat.le_of_ble_eq_true rfl) (Nat.le_of_ble_eq_true rfl) rfl
