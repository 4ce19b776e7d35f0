section ZY
variable {p : Program} {l : Launch} {e : Env} {R : Room} {s : State} {m : MethodId} {args : Array Value} {below : List Frame} {meth : Method} {c : Code} {H : Heap} {locs : List Loc} {cells slots : Nat} {Q : State → Prop}
variable {cc bytes : ByteArray} {pc nL n index maxL : Nat} {ls : Array Slot} {As rest st0 : List Value} {G : zC} {A : Nat → Prop} {ws wc wr w1 ws' : va_W} {y : MethodName} {w Ts : List Cond} {rm : Room} {rv : Option Value} {ret : Option FieldType} {own C host E : String} {b : Nat} {W1 : va_W → Prop}
/-- the same, the text by a wide index -/
theorem z_throwW (hexec : p.tables.exec = Jvm.exec) (hb : c.code = cc) (hl9 : l.stackTraces = false) {text : String} {ik is ic : Nat} (htb : ∀ x ∈ c.exceptionTable.toList, False) (hlocks : meth.locks = false)
    (hown : s.vm.findClass own = some m.cls) (hfit : Bundle.fit E = true) (hk : (Cond.classLink own ik E).before args s = true) (hini : (Cond.initialized E).before args s = true) (hstr : ∃ a, vk_R own is text a s) (hTh : zTh s) (hEm : E ∈ zExs) (hat1 : ∀ w ∈ (vx_atS own ic E ["java/lang/RuntimeException", "java/lang/Exception"]).filter goodWord, w.before args s = true) (hat2 : ∀ w ∈ (vx_atS own ic E ["java/lang/RuntimeException", "java/lang/Exception"]).filter (fun w => !goodWord w), w ∈ zTw E)
    (hgood : ∀ w ∈ Cond.classLink own ik E :: Cond.initialized E :: vx_atS own ic E ["java/lang/RuntimeException", "java/lang/Exception"], vx_ot w = true)
    (hE : zE A s s.heap) (hA : ∀ q, s.heap.size ≤ q → A q) (hM : zM G A s H locs ws) (hsize : ls.size = c.maxLocals)
    (d0 : decode cc pc = .ok (.new ik, 3)) (d3 : decode cc (pc + 3) = .ok (.dup, 1)) (d4 : decode cc (pc + 4) = .ok (.ldc_w is, 3)) (d6 : decode cc (pc + 7) = .ok (.invokespecial ic, 3)) (d9 : decode cc (pc + 10) = .ok (.athrow, 1))
    (hRf : 5 < R.frames) (hRl : (rest.map fun v => v.category).sum + 82 ≤ R.locals) (hRc : cells + 1 ≤ R.cells) (hRs : slots + 6 ≤ R.slots) (hc : cells + 1 ≤ rm.cells) (hs : slots + 6 ≤ rm.slots) :
    W p l e R s m args below meth c H locs cells slots (zEndT G below args s rm A ws E) (F0 m pc ls rest) := by
  obtain ⟨sa, hsa⟩ := hstr
  refine vx_throwSW hexec hb hl9 hown hfit (by decide) hk hini hsa (vx_hat hat1 hat2 (zTh_use hTh hEm)) hgood hE.2.2.1 hE.2.2.2 hM.2.2 hsize d0 d3 d4 d6 d9 (fun x hx => (htb x hx).elim) hRf hRl hRc hRs hlocks (fun t _ hz hq => ⟨rfl, ⟨hM.1.kept (fun k q hk9 => hq q.1 (hM.1 k q hk9).lt), hM.2.1⟩, Nat.le_trans hM.2.2.1 hz, fun q h1 h2 => ?_⟩) hM.2.2.2.2 hc hs
  rw [hq q (Nat.lt_of_lt_of_le h1 hM.2.2.1)]
  exact hM.2.2.2.1 q h1 h2
end ZY
/-! CLASS: the cells of an object of it -/
theorem zI0_32 (n lo hi : Int32) : zI0 n.toInt64 lo.toInt64 hi.toInt64 = (!decide (n < lo) && !decide (hi < n)) := by
  rw [zI0_i, Int32.toInt_toInt64, Int32.toInt_toInt64]
  have h1 : n < lo ↔ n.toInt < lo.toInt := Int32.lt_iff_toInt_lt
  have h2 : hi < n ↔ hi.toInt < n.toInt := Int32.lt_iff_toInt_lt
  by_cases q1 : n.toInt < lo.toInt <;> by_cases q2 : hi.toInt < n.toInt <;> simp [h1, h2, q1, q2] <;> omega
theorem i2c_nI {k : Nat} (hk : k < 65536) : ((nI k).toUInt32 % 65536).toInt32 = nI k := by
  refine Int32.toBitVec_inj.mp ?_
  refine BitVec.eq_of_toNat_eq ?_
  show ((nI k).toUInt32 % 65536).toNat = (nI k).toBitVec.toNat
  rw [UInt32.toNat_mod]
  show (nI k).toBitVec.toNat % 65536 = _
  rw [pk_tn (by omega)]
  omega
set_option maxHeartbeats 4000000 in
set_option maxRecDepth 100000 in
theorem c_x_append1 (l : Launch) (G : zC) (hl0 : l.stackTraces = false) (o9 : Nat) (u1 u2 u3 u4 u5 u6 u7 : Value) (t9 z9 n : Nat) (v : Nat → Int32) (k9 : Int32) (hc : k9 < 0 ∨ 255 < k9) : zMetT l G yX6_append wsX6_append rmX6_append [.ref o9, .int k9] ([(o9, .inr (6, [.ref t9, u1, u2, u3, u4, u5, u6, u7])), (t9, .inr (5, [.ref z9, .int (nI n)])), (z9, .inl (G.2 0, 120, .inl v))]) "java/lang/IllegalArgumentException" := by
  refine zMetT_of (cc := cX6_append) (maxL := 2) (ret := (some .int)) (by decide) rfl (Nat.le_of_ble_eq_true rfl) ?_
  intro p e s m below meth c A ls hx hb htb hml hown hts hK hA hE hTh hlocks hin hM hl
  have hown : s.vm.findClass RX6 = some m.cls := hown
  have hM : zM G A s s.heap [] ([(o9, .inr (6, [.ref t9, u1, u2, u3, u4, u5, u6, u7])), (t9, .inr (5, [.ref z9, .int (nI n)])), (z9, .inl (G.2 0, 120, .inl v))]) := hM
  have hl : lv_has ls 2 [(0, .ref o9), (1, .int k9)] := hl
  refine lv_iload_n hx hb dX6_append_0 rfl (lv_at hl 1 rfl) ?_
  refine lv_if_lt (tgt := 11) hx hb dX6_append_1 (by decide) (fun c_0 => ?_) (fun c_0 => ?_)
  · skip
    exact z_throw (text := "a character code is 0 to 255") (ik := 55) (is := 57) (ic := 59) hx hb hl0 htb hlocks hown (by decide) (hts (.classLink RX6 55 "java/lang/IllegalArgumentException") (by decide +kernel)) (hts (.initialized "java/lang/IllegalArgumentException") (by decide +kernel)) (hE.1.2.2 (57, "a character code is 0 to 255") (List.mem_of_getElem? (i := 0) rfl)) hTh (List.mem_of_getElem? (i := 0) rfl) (fun w9 hw9 => hts w9 (List.mem_cons_of_mem _ (List.mem_append_left _ (List.mem_append_right _ hw9)))) (by decide +kernel) (by decide +kernel) hE hA hM (hl.1.trans hml.symm) dX6_append_11 dX6_append_14 dX6_append_15 dX6_append_17 dX6_append_20 (Nat.le_of_ble_eq_true rfl) (Nat.le_of_ble_eq_true rfl) (Nat.le_of_ble_eq_true rfl) (Nat.le_of_ble_eq_true rfl) (Nat.le_of_ble_eq_true rfl) (Nat.le_of_ble_eq_true rfl)
  · skip
    refine lv_iload_n hx hb dX6_append_4 rfl (lv_at hl 1 rfl) ?_
    refine lv_sipush (v := 255) hx hb dX6_append_5 (by decide) ?_
    refine lv_icmp_le (tgt := 21) hx hb dX6_append_8 (by decide) (fun c_1 => absurd (hc.resolve_left c_0) (Int32.not_lt.mpr c_1)) (fun c_1 => ?_)
    exact z_throw (text := "a character code is 0 to 255") (ik := 55) (is := 57) (ic := 59) hx hb hl0 htb hlocks hown (by decide) (hts (.classLink RX6 55 "java/lang/IllegalArgumentException") (by decide +kernel)) (hts (.initialized "java/lang/IllegalArgumentException") (by decide +kernel)) (hE.1.2.2 (57, "a character code is 0 to 255") (List.mem_of_getElem? (i := 0) rfl)) hTh (List.mem_of_getElem? (i := 0) rfl) (fun w9 hw9 => hts w9 (List.mem_cons_of_mem _ (List.mem_append_left _ (List.mem_append_right _ hw9)))) (by decide +kernel) (by decide +kernel) hE hA hM (hl.1.trans hml.symm) dX6_append_11 dX6_append_14 dX6_append_15 dX6_append_17 dX6_append_20 (Nat.le_of_ble_eq_true rfl) (Nat.le_of_ble_eq_true rfl) (Nat.le_of_ble_eq_true rfl) (Nat.le_of_ble_eq_true rfl) (Nat.le_of_ble_eq_true rfl) (Nat.le_of_ble_eq_true rfl)

set_option maxHeartbeats 4000000 in
set_option maxRecDepth 100000 in
theorem c_x_append2 (l : Launch) (G : zC) (hl0 : l.stackTraces = false) (o9 : Nat) (u1 u2 u3 u4 u5 u6 u7 : Value) (t9 z9 n : Nat) (v : Nat → Int32) (k9 : Nat) (hk9 : k9 < 256) (hn : n = 120) : zMetT l G yX6_append wsX6_append rmX6_append [.ref o9, .int (nI k9)] ([(o9, .inr (6, [.ref t9, u1, u2, u3, u4, u5, u6, u7])), (t9, .inr (5, [.ref z9, .int (nI n)])), (z9, .inl (G.2 0, 120, .inl v))]) "java/lang/IllegalStateException" := by
  refine zMetT_of (cc := cX6_append) (maxL := 2) (ret := (some .int)) (by decide) rfl (Nat.le_of_ble_eq_true rfl) ?_
  intro p e s m below meth c A ls hx hb htb hml hown hts hK hA hE hTh hlocks hin hM hl
  have hown : s.vm.findClass RX6 = some m.cls := hown
  have hM : zM G A s s.heap [] ([(o9, .inr (6, [.ref t9, u1, u2, u3, u4, u5, u6, u7])), (t9, .inr (5, [.ref z9, .int (nI n)])), (z9, .inl (G.2 0, 120, .inl v))]) := hM
  have hl : lv_has ls 2 [(0, .ref o9), (1, .int (nI k9))] := hl
  refine lv_iload_n hx hb dX6_append_0 rfl (lv_at hl 1 rfl) ?_
  refine lv_if_lt (tgt := 11) hx hb dX6_append_1 (by decide) (fun c_1 => absurd c_1 (nI_pos (by omega))) (fun c_1 => ?_)
  refine lv_iload_n hx hb dX6_append_4 rfl (lv_at hl 1 rfl) ?_
  refine lv_sipush (v := nI 255) hx hb dX6_append_5 (by decide) ?_
  refine lv_icmp_le (tgt := 21) hx hb dX6_append_8 (by decide) (fun c_2 => ?_) (fun c_2 => absurd (nI_le (by omega) (by decide)) c_2)
  refine lv_aload_n hx hb dX6_append_21 rfl (lv_at hl 0 rfl) ?_
  refine z_get (ci := 6) (v := .ref t9) (C := RX6) (T := TX6) (N := 8) hx hb hts (by decide +kernel) hown hK hM 0 rfl rfl 0 (by decide) (hts (.fieldLink RX6 10 "ShiftIsles" "text" "LShiftIsles$Text;") (by decide +kernel)) (fun _ h9 => h9) rfl dX6_append_22 ?_
  have hp9 : List.Perm ([(o9, .inr (6, [.ref t9, u1, u2, u3, u4, u5, u6, u7])), (t9, .inr (5, [.ref z9, .int (nI n)])), (z9, .inl (G.2 0, 120, .inl v))] : va_W) ((txW G t9 z9 n v) ++ ([(o9, .inr (6, [.ref t9, u1, u2, u3, u4, u5, u6, u7]))])) := (pm_cut (cs := [[(o9, .inr (6, [.ref t9, u1, u2, u3, u4, u5, u6, u7]))], [(t9, .inr (5, [.ref z9, .int (nI n)]))], [(z9, .inl (G.2 0, 120, .inl v))]]) (sub := [[(t9, .inr (5, [.ref z9, .int (nI n)]))], [(z9, .inl (G.2 0, 120, .inl v))]]) (rest := [[(o9, .inr (6, [.ref t9, u1, u2, u3, u4, u5, u6, u7]))]]) 3 [1, 2] [0] rfl rfl rfl (by decide))
  have hq9 : List.Perm ((txW G t9 z9 n v) ++ ([(o9, .inr (6, [.ref t9, u1, u2, u3, u4, u5, u6, u7]))])) ([(o9, .inr (6, [.ref t9, u1, u2, u3, u4, u5, u6, u7])), (t9, .inr (5, [.ref z9, .int (nI n)])), (z9, .inl (G.2 0, 120, .inl v))] : va_W) := (pm_put (cs := [[(o9, .inr (6, [.ref t9, u1, u2, u3, u4, u5, u6, u7]))], [(t9, .inr (5, [.ref z9, .int (nI n)]))], [(z9, .inl (G.2 0, 120, .inl v))]]) (sub := [[(t9, .inr (5, [.ref z9, .int (nI n)]))], [(z9, .inl (G.2 0, 120, .inl v))]]) (rest := [[(o9, .inr (6, [.ref t9, u1, u2, u3, u4, u5, u6, u7]))]]) 3 [1, 2] [0] rfl rfl rfl (by decide))
  refine z_callV (As := []) (rest := []) (wc := txW G t9 z9 n v) (wr := [(o9, .inr (6, [.ref t9, u1, u2, u3, u4, u5, u6, u7]))]) (w1 := txW G t9 z9 n v) (ws' := [(o9, .inr (6, [.ref t9, u1, u2, u3, u4, u5, u6, u7])), (t9, .inr (5, [.ref z9, .int (nI n)])), (z9, .inl (G.2 0, 120, .inl v))]) ⟨hx, hb, hml, hown, hts⟩ (c_isFull l G t9 z9 n v  (by omega)) (cwV 0 hts gX6_append_X5_isFull rfl rfl rfl (by decide +kernel) ⟨Nat.le_of_ble_eq_true rfl, Nat.le_of_ble_eq_true rfl⟩) 5 rfl rfl rfl rfl hl.1 rfl (Nat.le_of_ble_eq_true rfl) dX6_append_25 ⟨Nat.le_of_ble_eq_true rfl, Nat.le_of_ble_eq_true rfl⟩ hK hE hA hM hp9 hq9 (fun H locs hM hz => ?_)
  refine z_ifeq (tgt := 41) hx hb dX6_append_28 (by decide) (fun c_3 => Bool.noConfusion (c_3.symm.trans (decide_eq_true (by omega)))) (fun c_3 => ?_)
  exact z_throw (text := "the text is full") (ik := 66) (is := 68) (ic := 70) hx hb hl0 htb hlocks hown (by decide) (hts (.classLink RX6 66 "java/lang/IllegalStateException") (by decide +kernel)) (hts (.initialized "java/lang/IllegalStateException") (by decide +kernel)) (hE.1.2.2 (68, "the text is full") (List.mem_of_getElem? (i := 1) rfl)) hTh (List.mem_of_getElem? (i := 1) rfl) (fun w9 hw9 => hts w9 (List.mem_cons_of_mem _ (List.mem_append_right _ hw9))) (by decide +kernel) (by decide +kernel) hE hA hM (hl.1.trans hml.symm) dX6_append_31 dX6_append_34 dX6_append_35 dX6_append_37 dX6_append_40 (Nat.le_of_ble_eq_true rfl) (Nat.le_of_ble_eq_true rfl) (Nat.le_of_ble_eq_true rfl) (Nat.le_of_ble_eq_true rfl) (Nat.le_of_ble_eq_true rfl) (Nat.le_of_ble_eq_true rfl)

set_option maxHeartbeats 4000000 in
set_option maxRecDepth 100000 in
theorem c_x_append0 (l : Launch) (G : zC) (o9 : Nat) (u1 u2 u3 u4 u5 u6 u7 : Value) (t9 z9 n : Nat) (v : Nat → Int32) (k9 : Nat) (hk9 : k9 < 256) (hn : n < 120) : zMet l G yX6_append wsX6_append rmX6_append [.ref o9, .int (nI k9)] ([(o9, .inr (6, [.ref t9, u1, u2, u3, u4, u5, u6, u7])), (t9, .inr (5, [.ref z9, .int (nI n)])), (z9, .inl (G.2 0, 120, .inl v))]) (some (.int (nI (n + 1)))) ([(o9, .inr (6, [.ref t9, u1, u2, u3, u4, u5, u6, u7])), (t9, .inr (5, [.ref z9, .int (nI (n + 1))])), (z9, .inl (G.2 0, 120, .inl (upd v n (nI k9))))]) := by
  refine zMet_of (cc := cX6_append) (maxL := 2) (ret := (some .int)) (by decide) rfl (Nat.le_of_ble_eq_true rfl) ?_
  intro p e s m below meth c A ls hx hb hr hml hown hts hK hA hE hlocks hin hM hl
  have hown : s.vm.findClass RX6 = some m.cls := hown
  have hM : zM G A s s.heap [] ([(o9, .inr (6, [.ref t9, u1, u2, u3, u4, u5, u6, u7])), (t9, .inr (5, [.ref z9, .int (nI n)])), (z9, .inl (G.2 0, 120, .inl v))]) := hM
  have hl : lv_has ls 2 [(0, .ref o9), (1, .int (nI k9))] := hl
  refine lv_iload_n hx hb dX6_append_0 rfl (lv_at hl 1 rfl) ?_
  refine lv_if_lt (tgt := 11) hx hb dX6_append_1 (by decide) (fun c_1 => absurd c_1 (nI_pos (by omega))) (fun c_1 => ?_)
  refine lv_iload_n hx hb dX6_append_4 rfl (lv_at hl 1 rfl) ?_
  refine lv_sipush (v := nI 255) hx hb dX6_append_5 (by decide) ?_
  refine lv_icmp_le (tgt := 21) hx hb dX6_append_8 (by decide) (fun c_2 => ?_) (fun c_2 => absurd (nI_le (by omega) (by decide)) c_2)
  refine lv_aload_n hx hb dX6_append_21 rfl (lv_at hl 0 rfl) ?_
  refine z_get (ci := 6) (v := .ref t9) (C := RX6) (T := TX6) (N := 8) hx hb hts (by decide +kernel) hown hK hM 0 rfl rfl 0 (by decide) (hts (.fieldLink RX6 10 "ShiftIsles" "text" "LShiftIsles$Text;") (by decide +kernel)) (fun _ h9 => h9) rfl dX6_append_22 ?_
  have hp9 : List.Perm ([(o9, .inr (6, [.ref t9, u1, u2, u3, u4, u5, u6, u7])), (t9, .inr (5, [.ref z9, .int (nI n)])), (z9, .inl (G.2 0, 120, .inl v))] : va_W) ((txW G t9 z9 n v) ++ ([(o9, .inr (6, [.ref t9, u1, u2, u3, u4, u5, u6, u7]))])) := (pm_cut (cs := [[(o9, .inr (6, [.ref t9, u1, u2, u3, u4, u5, u6, u7]))], [(t9, .inr (5, [.ref z9, .int (nI n)]))], [(z9, .inl (G.2 0, 120, .inl v))]]) (sub := [[(t9, .inr (5, [.ref z9, .int (nI n)]))], [(z9, .inl (G.2 0, 120, .inl v))]]) (rest := [[(o9, .inr (6, [.ref t9, u1, u2, u3, u4, u5, u6, u7]))]]) 3 [1, 2] [0] rfl rfl rfl (by decide))
  have hq9 : List.Perm ((txW G t9 z9 n v) ++ ([(o9, .inr (6, [.ref t9, u1, u2, u3, u4, u5, u6, u7]))])) ([(o9, .inr (6, [.ref t9, u1, u2, u3, u4, u5, u6, u7])), (t9, .inr (5, [.ref z9, .int (nI n)])), (z9, .inl (G.2 0, 120, .inl v))] : va_W) := (pm_put (cs := [[(o9, .inr (6, [.ref t9, u1, u2, u3, u4, u5, u6, u7]))], [(t9, .inr (5, [.ref z9, .int (nI n)]))], [(z9, .inl (G.2 0, 120, .inl v))]]) (sub := [[(t9, .inr (5, [.ref z9, .int (nI n)]))], [(z9, .inl (G.2 0, 120, .inl v))]]) (rest := [[(o9, .inr (6, [.ref t9, u1, u2, u3, u4, u5, u6, u7]))]]) 3 [1, 2] [0] rfl rfl rfl (by decide))
  refine z_callV (As := []) (rest := []) (wc := txW G t9 z9 n v) (wr := [(o9, .inr (6, [.ref t9, u1, u2, u3, u4, u5, u6, u7]))]) (w1 := txW G t9 z9 n v) (ws' := [(o9, .inr (6, [.ref t9, u1, u2, u3, u4, u5, u6, u7])), (t9, .inr (5, [.ref z9, .int (nI n)])), (z9, .inl (G.2 0, 120, .inl v))]) ⟨hx, hb, hml, hown, hts⟩ (c_isFull l G t9 z9 n v  (by omega)) (cwV 0 hts gX6_append_X5_isFull rfl rfl rfl (by decide +kernel) ⟨Nat.le_of_ble_eq_true rfl, Nat.le_of_ble_eq_true rfl⟩) 5 rfl rfl rfl rfl hl.1 rfl (Nat.le_of_ble_eq_true rfl) dX6_append_25 ⟨Nat.le_of_ble_eq_true rfl, Nat.le_of_ble_eq_true rfl⟩ hK hE hA hM hp9 hq9 (fun H locs hM hz => ?_)
  refine z_ifeq (tgt := 41) hx hb dX6_append_28 (by decide) (fun c_3 => ?_) (fun c_3 => Bool.noConfusion (c_3.symm.trans (decide_eq_false (by omega))))
  refine lv_aload_n hx hb dX6_append_41 rfl (lv_at hl 0 rfl) ?_
  refine z_get (ci := 6) (v := .ref t9) (C := RX6) (T := TX6) (N := 8) hx hb hts (by decide +kernel) hown hK hM 0 rfl rfl 0 (by decide) (hts (.fieldLink RX6 10 "ShiftIsles" "text" "LShiftIsles$Text;") (by decide +kernel)) (fun _ h9 => h9) rfl dX6_append_42 ?_
  refine lv_iload_n hx hb dX6_append_45 rfl (lv_at hl 1 rfl) ?_
  refine lv_i2c (v := nI k9) hx hb dX6_append_46 (i2c_nI (by omega)) ?_
  have hp9 : List.Perm ([(o9, .inr (6, [.ref t9, u1, u2, u3, u4, u5, u6, u7])), (t9, .inr (5, [.ref z9, .int (nI n)])), (z9, .inl (G.2 0, 120, .inl v))] : va_W) ((txW G t9 z9 n v) ++ ([(o9, .inr (6, [.ref t9, u1, u2, u3, u4, u5, u6, u7]))])) := (pm_cut (cs := [[(o9, .inr (6, [.ref t9, u1, u2, u3, u4, u5, u6, u7]))], [(t9, .inr (5, [.ref z9, .int (nI n)]))], [(z9, .inl (G.2 0, 120, .inl v))]]) (sub := [[(t9, .inr (5, [.ref z9, .int (nI n)]))], [(z9, .inl (G.2 0, 120, .inl v))]]) (rest := [[(o9, .inr (6, [.ref t9, u1, u2, u3, u4, u5, u6, u7]))]]) 3 [1, 2] [0] rfl rfl rfl (by decide))
  have hq9 : List.Perm ((txW G t9 z9 (n + 1) (upd v n (nI k9))) ++ ([(o9, .inr (6, [.ref t9, u1, u2, u3, u4, u5, u6, u7]))])) ([(o9, .inr (6, [.ref t9, u1, u2, u3, u4, u5, u6, u7])), (t9, .inr (5, [.ref z9, .int (nI (n + 1))])), (z9, .inl (G.2 0, 120, .inl (upd v n (nI k9))))] : va_W) := (pm_put (cs := [[(o9, .inr (6, [.ref t9, u1, u2, u3, u4, u5, u6, u7]))], [(t9, .inr (5, [.ref z9, .int (nI (n + 1))]))], [(z9, .inl (G.2 0, 120, .inl (upd v n (nI k9))))]]) (sub := [[(t9, .inr (5, [.ref z9, .int (nI (n + 1))]))], [(z9, .inl (G.2 0, 120, .inl (upd v n (nI k9))))]]) (rest := [[(o9, .inr (6, [.ref t9, u1, u2, u3, u4, u5, u6, u7]))]]) 3 [1, 2] [0] rfl rfl rfl (by decide))
  refine z_callV (As := [.int (nI k9)]) (rest := []) (wc := txW G t9 z9 n v) (wr := [(o9, .inr (6, [.ref t9, u1, u2, u3, u4, u5, u6, u7]))]) (w1 := txW G t9 z9 (n + 1) (upd v n (nI k9))) (ws' := [(o9, .inr (6, [.ref t9, u1, u2, u3, u4, u5, u6, u7])), (t9, .inr (5, [.ref z9, .int (nI (n + 1))])), (z9, .inl (G.2 0, 120, .inl (upd v n (nI k9))))]) ⟨hx, hb, hml, hown, hts⟩ (c_txAdd l G t9 z9 n v k9 (by omega) (by omega)) (cwV 1 hts gX6_append_X5_add rfl rfl rfl (by decide +kernel) ⟨Nat.le_of_ble_eq_true rfl, Nat.le_of_ble_eq_true rfl⟩) 5 rfl rfl rfl rfl hl.1 rfl (Nat.le_of_ble_eq_true rfl) dX6_append_47 ⟨Nat.le_of_ble_eq_true rfl, Nat.le_of_ble_eq_true rfl⟩ hK hE hA hM hp9 hq9 (fun H locs hM hz => ?_)
  exact z_iret hx hb hr hlocks dX6_append_50 hM (Nat.le_of_ble_eq_true rfl) (Nat.le_of_ble_eq_true rfl) rfl

set_option maxHeartbeats 4000000 in
set_option maxRecDepth 100000 in
theorem c_x_clearText (l : Launch) (G : zC) (o9 : Nat) (u1 u2 u3 u4 u5 u6 u7 : Value) (t9 z9 n : Nat) (v : Nat → Int32) : zMet l G yX6_clearText wsX6_clearText rmX6_clearText [.ref o9] ([(o9, .inr (6, [.ref t9, u1, u2, u3, u4, u5, u6, u7])), (t9, .inr (5, [.ref z9, .int (nI n)])), (z9, .inl (G.2 0, 120, .inl v))]) (some (.int (nI n))) ([(o9, .inr (6, [.ref t9, u1, u2, u3, u4, u5, u6, u7])), (t9, .inr (5, [.ref z9, .int (nI 0)])), (z9, .inl (G.2 0, 120, .inl v))]) := by
  refine zMet_of (cc := cX6_clearText) (maxL := 1) (ret := (some .int)) (by decide) rfl (Nat.le_of_ble_eq_true rfl) ?_
  intro p e s m below meth c A ls hx hb hr hml hown hts hK hA hE hlocks hin hM hl
  have hown : s.vm.findClass RX6 = some m.cls := hown
  have hM : zM G A s s.heap [] ([(o9, .inr (6, [.ref t9, u1, u2, u3, u4, u5, u6, u7])), (t9, .inr (5, [.ref z9, .int (nI n)])), (z9, .inl (G.2 0, 120, .inl v))]) := hM
  have hl : lv_has ls 1 [(0, .ref o9)] := hl
  refine lv_aload_n hx hb dX6_clearText_0 rfl (lv_at hl 0 rfl) ?_
  refine z_get (ci := 6) (v := .ref t9) (C := RX6) (T := TX6) (N := 8) hx hb hts (by decide +kernel) hown hK hM 0 rfl rfl 0 (by decide) (hts (.fieldLink RX6 10 "ShiftIsles" "text" "LShiftIsles$Text;") (by decide +kernel)) (fun _ h9 => h9) rfl dX6_clearText_1 ?_
  have hp9 : List.Perm ([(o9, .inr (6, [.ref t9, u1, u2, u3, u4, u5, u6, u7])), (t9, .inr (5, [.ref z9, .int (nI n)])), (z9, .inl (G.2 0, 120, .inl v))] : va_W) ((txW G t9 z9 n v) ++ ([(o9, .inr (6, [.ref t9, u1, u2, u3, u4, u5, u6, u7]))])) := (pm_cut (cs := [[(o9, .inr (6, [.ref t9, u1, u2, u3, u4, u5, u6, u7]))], [(t9, .inr (5, [.ref z9, .int (nI n)]))], [(z9, .inl (G.2 0, 120, .inl v))]]) (sub := [[(t9, .inr (5, [.ref z9, .int (nI n)]))], [(z9, .inl (G.2 0, 120, .inl v))]]) (rest := [[(o9, .inr (6, [.ref t9, u1, u2, u3, u4, u5, u6, u7]))]]) 3 [1, 2] [0] rfl rfl rfl (by decide))
  have hq9 : List.Perm ((txW G t9 z9 0 v) ++ ([(o9, .inr (6, [.ref t9, u1, u2, u3, u4, u5, u6, u7]))])) ([(o9, .inr (6, [.ref t9, u1, u2, u3, u4, u5, u6, u7])), (t9, .inr (5, [.ref z9, .int (nI 0)])), (z9, .inl (G.2 0, 120, .inl v))] : va_W) := (pm_put (cs := [[(o9, .inr (6, [.ref t9, u1, u2, u3, u4, u5, u6, u7]))], [(t9, .inr (5, [.ref z9, .int (nI 0)]))], [(z9, .inl (G.2 0, 120, .inl v))]]) (sub := [[(t9, .inr (5, [.ref z9, .int (nI 0)]))], [(z9, .inl (G.2 0, 120, .inl v))]]) (rest := [[(o9, .inr (6, [.ref t9, u1, u2, u3, u4, u5, u6, u7]))]]) 3 [1, 2] [0] rfl rfl rfl (by decide))
  refine z_callV (As := []) (rest := []) (wc := txW G t9 z9 n v) (wr := [(o9, .inr (6, [.ref t9, u1, u2, u3, u4, u5, u6, u7]))]) (w1 := txW G t9 z9 0 v) (ws' := [(o9, .inr (6, [.ref t9, u1, u2, u3, u4, u5, u6, u7])), (t9, .inr (5, [.ref z9, .int (nI 0)])), (z9, .inl (G.2 0, 120, .inl v))]) ⟨hx, hb, hml, hown, hts⟩ (c_txEmpty l G t9 z9 n v  ) (cwV 0 hts gX6_clearText_X5_empty rfl rfl rfl (by decide +kernel) ⟨Nat.le_of_ble_eq_true rfl, Nat.le_of_ble_eq_true rfl⟩) 5 rfl rfl rfl rfl hl.1 rfl (Nat.le_of_ble_eq_true rfl) dX6_clearText_4 ⟨Nat.le_of_ble_eq_true rfl, Nat.le_of_ble_eq_true rfl⟩ hK hE hA hM hp9 hq9 (fun H locs hM hz => ?_)
  exact z_iret hx hb hr hlocks dX6_clearText_7 hM (Nat.le_of_ble_eq_true rfl) (Nat.le_of_ble_eq_true rfl) rfl

set_option maxHeartbeats 4000000 in
set_option maxRecDepth 100000 in
theorem c_x_errorPosition (l : Launch) (G : zC) (o9 : Nat) (u1 u2 u3 u4 u5 u6 u7 : Value) (t9 z9 n : Nat) (v : Nat → Int32) (hu : zTu v) (hn : n ≤ 120) : zMet l G yX6_errorPosition wsX6_errorPosition rmX6_errorPosition [.ref o9] ([(o9, .inr (6, [.ref t9, u1, u2, u3, u4, u5, u6, u7])), (t9, .inr (5, [.ref z9, .int (nI n)])), (z9, .inl (G.2 0, 120, .inl v))]) (some (.int (zWr v n n 0 0))) ([(o9, .inr (6, [.ref t9, u1, u2, u3, u4, u5, u6, u7])), (t9, .inr (5, [.ref z9, .int (nI n)])), (z9, .inl (G.2 0, 120, .inl v))]) := by
  refine zMet_of (cc := cX6_errorPosition) (maxL := 1) (ret := (some .int)) (by decide) rfl (Nat.le_of_ble_eq_true rfl) ?_
  intro p e s m below meth c A ls hx hb hr hml hown hts hK hA hE hlocks hin hM hl
  have hown : s.vm.findClass RX6 = some m.cls := hown
  have hM : zM G A s s.heap [] ([(o9, .inr (6, [.ref t9, u1, u2, u3, u4, u5, u6, u7])), (t9, .inr (5, [.ref z9, .int (nI n)])), (z9, .inl (G.2 0, 120, .inl v))]) := hM
  have hl : lv_has ls 1 [(0, .ref o9)] := hl
  refine lv_aload_n hx hb dX6_errorPosition_0 rfl (lv_at hl 0 rfl) ?_
  refine z_get (ci := 6) (v := .ref t9) (C := RX6) (T := TX6) (N := 8) hx hb hts (by decide +kernel) hown hK hM 0 rfl rfl 0 (by decide) (hts (.fieldLink RX6 10 "ShiftIsles" "text" "LShiftIsles$Text;") (by decide +kernel)) (fun _ h9 => h9) rfl dX6_errorPosition_1 ?_
  have hp9 : List.Perm ([(o9, .inr (6, [.ref t9, u1, u2, u3, u4, u5, u6, u7])), (t9, .inr (5, [.ref z9, .int (nI n)])), (z9, .inl (G.2 0, 120, .inl v))] : va_W) ((txW G t9 z9 n v) ++ ([(o9, .inr (6, [.ref t9, u1, u2, u3, u4, u5, u6, u7]))])) := (pm_cut (cs := [[(o9, .inr (6, [.ref t9, u1, u2, u3, u4, u5, u6, u7]))], [(t9, .inr (5, [.ref z9, .int (nI n)]))], [(z9, .inl (G.2 0, 120, .inl v))]]) (sub := [[(t9, .inr (5, [.ref z9, .int (nI n)]))], [(z9, .inl (G.2 0, 120, .inl v))]]) (rest := [[(o9, .inr (6, [.ref t9, u1, u2, u3, u4, u5, u6, u7]))]]) 3 [1, 2] [0] rfl rfl rfl (by decide))
  have hq9 : List.Perm ((txW G t9 z9 n v) ++ ([(o9, .inr (6, [.ref t9, u1, u2, u3, u4, u5, u6, u7]))])) ([(o9, .inr (6, [.ref t9, u1, u2, u3, u4, u5, u6, u7])), (t9, .inr (5, [.ref z9, .int (nI n)])), (z9, .inl (G.2 0, 120, .inl v))] : va_W) := (pm_put (cs := [[(o9, .inr (6, [.ref t9, u1, u2, u3, u4, u5, u6, u7]))], [(t9, .inr (5, [.ref z9, .int (nI n)]))], [(z9, .inl (G.2 0, 120, .inl v))]]) (sub := [[(t9, .inr (5, [.ref z9, .int (nI n)]))], [(z9, .inl (G.2 0, 120, .inl v))]]) (rest := [[(o9, .inr (6, [.ref t9, u1, u2, u3, u4, u5, u6, u7]))]]) 3 [1, 2] [0] rfl rfl rfl (by decide))
  refine z_callV (As := []) (rest := []) (wc := txW G t9 z9 n v) (wr := [(o9, .inr (6, [.ref t9, u1, u2, u3, u4, u5, u6, u7]))]) (w1 := txW G t9 z9 n v) (ws' := [(o9, .inr (6, [.ref t9, u1, u2, u3, u4, u5, u6, u7])), (t9, .inr (5, [.ref z9, .int (nI n)])), (z9, .inl (G.2 0, 120, .inl v))]) ⟨hx, hb, hml, hown, hts⟩ (c_wrongAt l G t9 z9 n v hu hn ) (cwV 0 hts gX6_errorPosition_X5_wrongAt rfl rfl rfl (by decide +kernel) ⟨Nat.le_of_ble_eq_true rfl, Nat.le_of_ble_eq_true rfl⟩) 5 rfl rfl rfl rfl hl.1 rfl (Nat.le_of_ble_eq_true rfl) dX6_errorPosition_4 ⟨Nat.le_of_ble_eq_true rfl, Nat.le_of_ble_eq_true rfl⟩ hK hE hA hM hp9 hq9 (fun H locs hM hz => ?_)
  exact z_iret hx hb hr hlocks dX6_errorPosition_7 hM (Nat.le_of_ble_eq_true rfl) (Nat.le_of_ble_eq_true rfl) rfl
