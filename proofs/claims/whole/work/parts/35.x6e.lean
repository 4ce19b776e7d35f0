/-! CLASS: scripts -/
theorem zTw_no {h : Nat → Int32} {P j : Nat} (h0 : h 0 = nI P) (hP4 : P ≤ 4) (hj : j < 2 ^ 31) (hp : zHp h (nI j) = true) (hc : (if h 4 = 0 then h 1 else -1) = nI j) : ¬ (zRu h && decide (h 1 = nI j)) = false := by
  have hlt := (zHp_lt h0 hP4 hj).mp hp
  by_cases h4 : h 4 = 0
  · rw [if_pos h4] at hc
    rw [zRu_of h0 (by omega) hP4 h4, decide_eq_true hc]
    decide
  · rw [if_neg h4] at hc
    exact absurd hc.symm (nI_m1 hj)
/-! a number without its last groups of four digits -/
theorem z_lret {p : Program} {l : Launch} {e : Env} {R : Room} {s : State} {m : MethodId} {args : Array Value} {below : List Frame} {meth : Method} {c : Code} {H : Heap} {locs : List Loc} {cells slots : Nat} {cc : ByteArray} {pc : Nat} {ls : Array Slot} {G : zC} {A : Nat → Prop} {w1 : va_W} {rm : Room} {rv : Option Value} {v : Int64} (hexec : p.tables.exec = Jvm.exec) (hb : c.code = cc) (hr : meth.sig.returnType = some .long) (hlocks : meth.locks = false) (hdg : decode cc pc = .ok (.lreturn, 1)) (hM : zM G A s H locs w1) (hc : cells ≤ rm.cells) (hs : slots ≤ rm.slots) (hv : rv = some (.long v)) : W p l e R s m args below meth c H locs cells slots (zEnd G below args s rm A rv w1) (F0 m pc ls [.long v]) := by
  subst hv
  exact W.widen hc hs (W.lret hexec hb hr (fun t ht hW => ⟨rfl, ⟨by rw [ht]; exact hM.1, hM.2.1⟩, hM.2.2.F ht⟩) hM.2.2.2.2 hdg hlocks)
def zWl (x : Int64) : Nat → Int64
  | 0 => x
  | k + 1 => zWl x k / 10000
theorem zWl_d {x : Int64} {k : Nat} (h : 0 ≤ (zWl x k).toInt) : (zWl x (k + 1)).toInt = (zWl x k).toInt / 10000 := by
  have e : (10000 : Int64).toInt = 10000 := by decide
  rw [zWl, i64_div h (by rw [e]; decide), e]
theorem zWl_0 {x : Int64} (h : 0 ≤ x.toInt) : ∀ k, 0 ≤ (zWl x k).toInt
  | 0 => h
  | k + 1 => by
    rw [zWl_d (zWl_0 h k)]
    exact Int.ediv_nonneg (zWl_0 h k) (by decide)
theorem zPw_i : (zPw 0).toInt = 1 ∧ (zPw 1).toInt = 10000 ∧ (zPw 2).toInt = 100000000 ∧ (zPw 3).toInt = 1000000000000 := by decide
theorem zWl_e {x : Int64} (h : 0 ≤ x.toInt) {k : Nat} (hk : k ≤ 3) : (zWl x k).toInt = x.toInt / (zPw k).toInt := by
  have a0 : (zWl x 0).toInt = x.toInt := rfl
  have a1 : (zWl x 1).toInt = (zWl x 0).toInt / 10000 := zWl_d (zWl_0 h 0)
  have a2 : (zWl x 2).toInt = (zWl x 1).toInt / 10000 := zWl_d (zWl_0 h 1)
  have a3 : (zWl x 3).toInt = (zWl x 2).toInt / 10000 := zWl_d (zWl_0 h 2)
  obtain ⟨p0, p1, p2, p3⟩ := zPw_i
  have h4 : k = 0 ∨ k = 1 ∨ k = 2 ∨ k = 3 := by omega
  rcases h4 with rfl | rfl | rfl | rfl
  · rw [p0, a0, Int.ediv_one]
  · rw [p1, a1, a0]
  · rw [p2, a2, a1, a0]
    omega
  · rw [p3, a3, a2, a1, a0]
    omega
theorem zWl_g {x : Int64} {k : Nat} (h : 0 ≤ x.toInt) (hk : k < 3) : (zWl x k - zWl x k / 10000 * 10000).toInt32 = nI (zGn x k) := by
  have e : zWl x k = x / zPw k := Int64.toInt_inj.mp ((zWl_e h (by omega)).trans (i64_div h (zPw_t hk)).symm)
  rw [e]
  exact zGn_e h hk
theorem zWl_z {x : Int64} {N : Nat} (h1 : 1 ≤ N) (h3 : N ≤ 3) (h : 0 ≤ x.toInt) : zWl x N = 0 ↔ x.toInt < 10000 * (zPw (N - 1)).toInt := by
  obtain ⟨p0, p1, p2, p3⟩ := zPw_i
  rw [← Int64.toInt_inj, zWl_e h h3, show (0 : Int64).toInt = 0 from rfl]
  have h4 : N = 1 ∨ N = 2 ∨ N = 3 := by omega
  rcases h4 with rfl | rfl | rfl
  · rw [p1, show 1 - 1 = 0 from rfl, p0]
    omega
  · rw [p2, show 2 - 1 = 1 from rfl, p1]
    omega
  · rw [p3, show 3 - 1 = 2 from rfl, p2]
    omega
set_option maxHeartbeats 4000000 in
set_option maxRecDepth 100000 in
theorem c_su1 (l : Launch) (G : zC) (o9 : Nat) (u0 u1 u4 u5 u6 u7 : Value) (r9 : Nat) (sa : zBA) (u : zRU) (ta : zGA) (h : Nat → Int32) (b : Nat → Nat → Int32) (P t S e0 : Nat) (hG : zGs h b P t S e0) (o i j : Nat) (ho9 : o < 10) (hi9 : i < 10) (hj9 : j < 10) : zMet l G yX6_succeeds wsX6_succeeds rmX6_succeeds [.ref o9, .int (nI (1000 * 1 + 100 * o + 10 * i + j))] ([(o9, .inr (6, [u0, u1, .ref ta.1, .ref r9, u4, u5, u6, u7]))] ++ ((ruW G r9 sa u) ++ (gmW G ta h b))) (some (.int (zb (zMs h b o (nI i) (nI j))))) ([(o9, .inr (6, [u0, u1, .ref ta.1, .ref r9, u4, u5, u6, u7]))] ++ ((ruW G r9 sa u) ++ (gmW G ta (zTsH h b o i (nI j)) (zTsB h b o i (nI j))))) := by
  refine zMet_of (cc := cX6_succeeds) (maxL := 6) (ret := (some .boolean)) (by decide) rfl (Nat.le_of_ble_eq_true rfl) ?_
  intro p e s m below meth c A ls hx hb hr hml hown hts hK hA hE hlocks hin hM hl
  have hown : s.vm.findClass RX6 = some m.cls := hown
  have hM : zM G A s s.heap [] ([(o9, .inr (6, [u0, u1, .ref ta.1, .ref r9, u4, u5, u6, u7]))] ++ ((ruW G r9 sa u) ++ (gmW G ta h b))) := hM
  have hl : lv_has ls 6 [(0, .ref o9), (1, .int (nI (1000 * 1 + 100 * o + 10 * i + j)))] := hl
  have hP4 := hG.1.1.2.1
  have hP := hG.1.1.1
  refine lv_iload_n hx hb dX6_succeeds_0 rfl (lv_at hl 1 rfl) ?_
  refine lv_bipush (v := 100) hx hb dX6_succeeds_1 (by decide) ?_
  refine lv_idiv hx hb dX6_succeeds_3 (by decide) ?_
  refine z_topi (y := nI ((1000 * 1 + 100 * o + 10 * i + j) / 100)) (pk_div (a := (1000 * 1 + 100 * o + 10 * i + j)) (d := 100) (by omega) (by decide) (by decide)) ?_
  refine lv_bipush (v := 10) hx hb dX6_succeeds_4 (by decide) ?_
  refine lv_irem hx hb dX6_succeeds_6 (by decide) ?_
  refine z_topi (y := nI (((1000 * 1 + 100 * o + 10 * i + j) / 100) % 10)) (pk_rem (a := ((1000 * 1 + 100 * o + 10 * i + j) / 100)) (d := 10) (by omega) (by decide) (by decide)) ?_
  refine z_topi (y := nI o) (by rw [show (1000 * 1 + 100 * o + 10 * i + j) / 100 % 10 = o by omega]) ?_
  refine lv_istore_n (lv' := [(2, .int (nI o)), (0, .ref o9), (1, .int (nI (1000 * 1 + 100 * o + 10 * i + j)))]) hx hb dX6_succeeds_7 rfl hl (by decide) rfl (fun ls hl => ?_)
  refine lv_iload_n hx hb dX6_succeeds_8 rfl (lv_at hl 2 rfl) ?_
  refine lv_bipush (v := 10) hx hb dX6_succeeds_9 (by decide) ?_
  refine lv_idiv hx hb dX6_succeeds_11 (by decide) ?_
  refine z_topi (y := nI ((1000 * 1 + 100 * o + 10 * i + j) / 10)) (pk_div (a := (1000 * 1 + 100 * o + 10 * i + j)) (d := 10) (by omega) (by decide) (by decide)) ?_
  refine lv_bipush (v := 10) hx hb dX6_succeeds_12 (by decide) ?_
  refine lv_irem hx hb dX6_succeeds_14 (by decide) ?_
  refine z_topi (y := nI (((1000 * 1 + 100 * o + 10 * i + j) / 10) % 10)) (pk_rem (a := ((1000 * 1 + 100 * o + 10 * i + j) / 10)) (d := 10) (by omega) (by decide) (by decide)) ?_
  refine z_topi (y := nI i) (by rw [show (1000 * 1 + 100 * o + 10 * i + j) / 10 % 10 = i by omega]) ?_
  refine lv_istore_n (lv' := [(3, .int (nI i)), (2, .int (nI o)), (0, .ref o9), (1, .int (nI (1000 * 1 + 100 * o + 10 * i + j)))]) hx hb dX6_succeeds_15 rfl hl (by decide) rfl (fun ls hl => ?_)
  refine lv_iload_n hx hb dX6_succeeds_16 rfl (lv_at hl 3 rfl) ?_
  refine lv_bipush (v := 10) hx hb dX6_succeeds_17 (by decide) ?_
  refine lv_irem hx hb dX6_succeeds_19 (by decide) ?_
  refine z_topi (y := nI ((1000 * 1 + 100 * o + 10 * i + j) % 10)) (pk_rem (a := (1000 * 1 + 100 * o + 10 * i + j)) (d := 10) (by omega) (by decide) (by decide)) ?_
  refine z_topi (y := nI j) (by rw [show (1000 * 1 + 100 * o + 10 * i + j) % 10 = j by omega]) ?_
  refine lv_istore (lv' := [(4, .int (nI j)), (3, .int (nI i)), (2, .int (nI o)), (0, .ref o9), (1, .int (nI (1000 * 1 + 100 * o + 10 * i + j)))]) hx hb dX6_succeeds_20 hl (by decide) rfl (fun ls hl => ?_)
  refine lv_iload_n hx hb dX6_succeeds_22 rfl (lv_at hl 2 rfl) ?_
  refine lv_if_ne (tgt := 34) hx hb dX6_succeeds_23 (by decide) (fun c_z1 => ?_) (fun c_z1 => ?_)
  · skip
    refine lv_iconst (v := 0) hx hb dX6_succeeds_34 (by decide) ?_
    refine lv_istore (lv' := [(5, .int 0), (4, .int (nI j)), (3, .int (nI i)), (2, .int (nI o)), (0, .ref o9), (1, .int (nI (1000 * 1 + 100 * o + 10 * i + j)))]) hx hb dX6_succeeds_35 hl (by decide) rfl (fun ls hl => ?_)
    refine lv_iload_n hx hb dX6_succeeds_37 rfl (lv_at hl 5 rfl) ?_
    refine lv_sipush (v := 1000) hx hb dX6_succeeds_38 (by decide) ?_
    refine lv_idiv hx hb dX6_succeeds_41 (by decide) ?_
    refine z_topi (y := nI ((1000 * 1 + 100 * o + 10 * i + j) / 1000)) (pk_div (a := (1000 * 1 + 100 * o + 10 * i + j)) (d := 1000) (by omega) (by decide) (by decide)) ?_
    refine z_topi (y := 1) (by rw [show (1000 * 1 + 100 * o + 10 * i + j) / 1000 = 1 by omega]; rfl) ?_
    refine lv_tableIn (off := 50) (tgt := 92) hx hb dX6_succeeds_42 (by decide) (by decide) rfl (by decide) ?_
    refine lv_aload_n hx hb dX6_succeeds_92 rfl (lv_at hl 4 rfl) ?_
    refine z_get (ci := 6) (v := .ref ta.1) (C := RX6) (T := TX6) (N := 8) hx hb hts (by decide +kernel) hown hK hM 0 rfl rfl 2 (by decide) (hts (.fieldLink RX6 23 "ShiftIsles" "trial" "LShiftIsles$Game;") (by decide +kernel)) (fun _ h9 => h9) rfl dX6_succeeds_93 ?_
    refine lv_iload_n hx hb dX6_succeeds_96 rfl (lv_at hl 3 rfl) ?_
    refine lv_iload_n hx hb dX6_succeeds_97 rfl (lv_at hl 2 rfl) ?_
    refine lv_iload hx hb dX6_succeeds_98 (lv_at hl 1 rfl) ?_
    have hp9 : List.Perm ([(o9, .inr (6, [u0, u1, .ref ta.1, .ref r9, u4, u5, u6, u7]))] ++ ((ruW G r9 sa u) ++ (gmW G ta h b)) : va_W) ((gmW G ta h b) ++ ([(o9, .inr (6, [u0, u1, .ref ta.1, .ref r9, u4, u5, u6, u7]))] ++ (ruW G r9 sa u))) := (pm_cut (cs := [[(o9, .inr (6, [u0, u1, .ref ta.1, .ref r9, u4, u5, u6, u7]))], ruW G r9 sa u, gmW G ta h b]) (sub := [gmW G ta h b]) (rest := [[(o9, .inr (6, [u0, u1, .ref ta.1, .ref r9, u4, u5, u6, u7]))], ruW G r9 sa u]) 3 [2] [0, 1] rfl rfl rfl (by decide))
    have hq9 : List.Perm ((gmW G ta (zTsH h b o i (nI j)) (zTsB h b o i (nI j))) ++ ([(o9, .inr (6, [u0, u1, .ref ta.1, .ref r9, u4, u5, u6, u7]))] ++ (ruW G r9 sa u))) ([(o9, .inr (6, [u0, u1, .ref ta.1, .ref r9, u4, u5, u6, u7]))] ++ ((ruW G r9 sa u) ++ (gmW G ta (zTsH h b o i (nI j)) (zTsB h b o i (nI j)))) : va_W) := (pm_put (cs := [[(o9, .inr (6, [u0, u1, .ref ta.1, .ref r9, u4, u5, u6, u7]))], ruW G r9 sa u, gmW G ta (zTsH h b o i (nI j)) (zTsB h b o i (nI j))]) (sub := [gmW G ta (zTsH h b o i (nI j)) (zTsB h b o i (nI j))]) (rest := [[(o9, .inr (6, [u0, u1, .ref ta.1, .ref r9, u4, u5, u6, u7]))], ruW G r9 sa u]) 3 [2] [0, 1] rfl rfl rfl (by decide))
    refine z_callV (As := [.int (nI o), .int (nI i), .int (nI j)]) (rest := []) (wc := gmW G ta h b) (wr := [(o9, .inr (6, [u0, u1, .ref ta.1, .ref r9, u4, u5, u6, u7]))] ++ (ruW G r9 sa u)) (w1 := gmW G ta (zTsH h b o i (nI j)) (zTsB h b o i (nI j))) (ws' := [(o9, .inr (6, [u0, u1, .ref ta.1, .ref r9, u4, u5, u6, u7]))] ++ ((ruW G r9 sa u) ++ (gmW G ta (zTsH h b o i (nI j)) (zTsB h b o i (nI j))))) ⟨hx, hb, hml, hown, hts⟩ (c_tryShift l G ta h b o i (nI j) (by omega) (by omega) P t S hG.1.1 ) (cwV 3 hts gX6_succeeds_X2_tryShift rfl rfl rfl (by decide +kernel) ⟨Nat.le_of_ble_eq_true rfl, Nat.le_of_ble_eq_true rfl⟩) 2 rfl rfl rfl rfl hl.1 rfl (Nat.le_of_ble_eq_true rfl) dX6_succeeds_100 ⟨Nat.le_of_ble_eq_true rfl, Nat.le_of_ble_eq_true rfl⟩ hK hE hA hM hp9 hq9 (fun H locs hM hz => ?_)
    exact z_zret hx hb hr hlocks dX6_succeeds_103 hM (Nat.le_of_ble_eq_true rfl) (Nat.le_of_ble_eq_true rfl) (by first | exact Or.inl rfl | exact Or.inr rfl | exact zb_01 _) rfl
  · skip
    refine lv_iload_n hx hb dX6_succeeds_26 rfl (lv_at hl 1 rfl) ?_
    refine lv_if_ne (tgt := 34) hx hb dX6_succeeds_27 (by decide) (fun c_z2 => ?_) (fun c_z2 => ?_)
    · skip
      refine lv_iconst (v := 0) hx hb dX6_succeeds_34 (by decide) ?_
      refine lv_istore (lv' := [(5, .int 0), (4, .int (nI j)), (3, .int (nI i)), (2, .int (nI o)), (0, .ref o9), (1, .int (nI (1000 * 1 + 100 * o + 10 * i + j)))]) hx hb dX6_succeeds_35 hl (by decide) rfl (fun ls hl => ?_)
      refine lv_iload_n hx hb dX6_succeeds_37 rfl (lv_at hl 5 rfl) ?_
      refine lv_sipush (v := 1000) hx hb dX6_succeeds_38 (by decide) ?_
      refine lv_idiv hx hb dX6_succeeds_41 (by decide) ?_
      refine z_topi (y := nI ((1000 * 1 + 100 * o + 10 * i + j) / 1000)) (pk_div (a := (1000 * 1 + 100 * o + 10 * i + j)) (d := 1000) (by omega) (by decide) (by decide)) ?_
      refine z_topi (y := 1) (by rw [show (1000 * 1 + 100 * o + 10 * i + j) / 1000 = 1 by omega]; rfl) ?_
      refine lv_tableIn (off := 50) (tgt := 92) hx hb dX6_succeeds_42 (by decide) (by decide) rfl (by decide) ?_
      refine lv_aload_n hx hb dX6_succeeds_92 rfl (lv_at hl 4 rfl) ?_
      refine z_get (ci := 6) (v := .ref ta.1) (C := RX6) (T := TX6) (N := 8) hx hb hts (by decide +kernel) hown hK hM 0 rfl rfl 2 (by decide) (hts (.fieldLink RX6 23 "ShiftIsles" "trial" "LShiftIsles$Game;") (by decide +kernel)) (fun _ h9 => h9) rfl dX6_succeeds_93 ?_
      refine lv_iload_n hx hb dX6_succeeds_96 rfl (lv_at hl 3 rfl) ?_
      refine lv_iload_n hx hb dX6_succeeds_97 rfl (lv_at hl 2 rfl) ?_
      refine lv_iload hx hb dX6_succeeds_98 (lv_at hl 1 rfl) ?_
      have hp9 : List.Perm ([(o9, .inr (6, [u0, u1, .ref ta.1, .ref r9, u4, u5, u6, u7]))] ++ ((ruW G r9 sa u) ++ (gmW G ta h b)) : va_W) ((gmW G ta h b) ++ ([(o9, .inr (6, [u0, u1, .ref ta.1, .ref r9, u4, u5, u6, u7]))] ++ (ruW G r9 sa u))) := (pm_cut (cs := [[(o9, .inr (6, [u0, u1, .ref ta.1, .ref r9, u4, u5, u6, u7]))], ruW G r9 sa u, gmW G ta h b]) (sub := [gmW G ta h b]) (rest := [[(o9, .inr (6, [u0, u1, .ref ta.1, .ref r9, u4, u5, u6, u7]))], ruW G r9 sa u]) 3 [2] [0, 1] rfl rfl rfl (by decide))
      have hq9 : List.Perm ((gmW G ta (zTsH h b o i (nI j)) (zTsB h b o i (nI j))) ++ ([(o9, .inr (6, [u0, u1, .ref ta.1, .ref r9, u4, u5, u6, u7]))] ++ (ruW G r9 sa u))) ([(o9, .inr (6, [u0, u1, .ref ta.1, .ref r9, u4, u5, u6, u7]))] ++ ((ruW G r9 sa u) ++ (gmW G ta (zTsH h b o i (nI j)) (zTsB h b o i (nI j)))) : va_W) := (pm_put (cs := [[(o9, .inr (6, [u0, u1, .ref ta.1, .ref r9, u4, u5, u6, u7]))], ruW G r9 sa u, gmW G ta (zTsH h b o i (nI j)) (zTsB h b o i (nI j))]) (sub := [gmW G ta (zTsH h b o i (nI j)) (zTsB h b o i (nI j))]) (rest := [[(o9, .inr (6, [u0, u1, .ref ta.1, .ref r9, u4, u5, u6, u7]))], ruW G r9 sa u]) 3 [2] [0, 1] rfl rfl rfl (by decide))
      refine z_callV (As := [.int (nI o), .int (nI i), .int (nI j)]) (rest := []) (wc := gmW G ta h b) (wr := [(o9, .inr (6, [u0, u1, .ref ta.1, .ref r9, u4, u5, u6, u7]))] ++ (ruW G r9 sa u)) (w1 := gmW G ta (zTsH h b o i (nI j)) (zTsB h b o i (nI j))) (ws' := [(o9, .inr (6, [u0, u1, .ref ta.1, .ref r9, u4, u5, u6, u7]))] ++ ((ruW G r9 sa u) ++ (gmW G ta (zTsH h b o i (nI j)) (zTsB h b o i (nI j))))) ⟨hx, hb, hml, hown, hts⟩ (c_tryShift l G ta h b o i (nI j) (by omega) (by omega) P t S hG.1.1 ) (cwV 3 hts gX6_succeeds_X2_tryShift rfl rfl rfl (by decide +kernel) ⟨Nat.le_of_ble_eq_true rfl, Nat.le_of_ble_eq_true rfl⟩) 2 rfl rfl rfl rfl hl.1 rfl (Nat.le_of_ble_eq_true rfl) dX6_succeeds_100 ⟨Nat.le_of_ble_eq_true rfl, Nat.le_of_ble_eq_true rfl⟩ hK hE hA hM hp9 hq9 (fun H locs hM hz => ?_)
      exact z_zret hx hb hr hlocks dX6_succeeds_103 hM (Nat.le_of_ble_eq_true rfl) (Nat.le_of_ble_eq_true rfl) (by first | exact Or.inl rfl | exact Or.inr rfl | exact zb_01 _) rfl
    · skip
      refine lv_iconst (v := 1) hx hb dX6_succeeds_30 (by decide) ?_
      refine lv_goto (tgt := 35) hx hb dX6_succeeds_31 (by decide) ?_
      refine lv_istore (lv' := [(5, .int 1), (4, .int (nI j)), (3, .int (nI i)), (2, .int (nI o)), (0, .ref o9), (1, .int (nI (1000 * 1 + 100 * o + 10 * i + j)))]) hx hb dX6_succeeds_35 hl (by decide) rfl (fun ls hl => ?_)
      refine lv_iload_n hx hb dX6_succeeds_37 rfl (lv_at hl 5 rfl) ?_
      refine lv_sipush (v := 1000) hx hb dX6_succeeds_38 (by decide) ?_
      refine lv_idiv hx hb dX6_succeeds_41 (by decide) ?_
      refine z_topi (y := nI ((1000 * 1 + 100 * o + 10 * i + j) / 1000)) (pk_div (a := (1000 * 1 + 100 * o + 10 * i + j)) (d := 1000) (by omega) (by decide) (by decide)) ?_
      refine z_topi (y := 1) (by rw [show (1000 * 1 + 100 * o + 10 * i + j) / 1000 = 1 by omega]; rfl) ?_
      refine lv_tableIn (off := 50) (tgt := 92) hx hb dX6_succeeds_42 (by decide) (by decide) rfl (by decide) ?_
      refine lv_aload_n hx hb dX6_succeeds_92 rfl (lv_at hl 4 rfl) ?_
      refine z_get (ci := 6) (v := .ref ta.1) (C := RX6) (T := TX6) (N := 8) hx hb hts (by decide +kernel) hown hK hM 0 rfl rfl 2 (by decide) (hts (.fieldLink RX6 23 "ShiftIsles" "trial" "LShiftIsles$Game;") (by decide +kernel)) (fun _ h9 => h9) rfl dX6_succeeds_93 ?_
      refine lv_iload_n hx hb dX6_succeeds_96 rfl (lv_at hl 3 rfl) ?_
      refine lv_iload_n hx hb dX6_succeeds_97 rfl (lv_at hl 2 rfl) ?_
      refine lv_iload hx hb dX6_succeeds_98 (lv_at hl 1 rfl) ?_
      have hp9 : List.Perm ([(o9, .inr (6, [u0, u1, .ref ta.1, .ref r9, u4, u5, u6, u7]))] ++ ((ruW G r9 sa u) ++ (gmW G ta h b)) : va_W) ((gmW G ta h b) ++ ([(o9, .inr (6, [u0, u1, .ref ta.1, .ref r9, u4, u5, u6, u7]))] ++ (ruW G r9 sa u))) := (pm_cut (cs := [[(o9, .inr (6, [u0, u1, .ref ta.1, .ref r9, u4, u5, u6, u7]))], ruW G r9 sa u, gmW G ta h b]) (sub := [gmW G ta h b]) (rest := [[(o9, .inr (6, [u0, u1, .ref ta.1, .ref r9, u4, u5, u6, u7]))], ruW G r9 sa u]) 3 [2] [0, 1] rfl rfl rfl (by decide))
      have hq9 : List.Perm ((gmW G ta (zTsH h b o i (nI j)) (zTsB h b o i (nI j))) ++ ([(o9, .inr (6, [u0, u1, .ref ta.1, .ref r9, u4, u5, u6, u7]))] ++ (ruW G r9 sa u))) ([(o9, .inr (6, [u0, u1, .ref ta.1, .ref r9, u4, u5, u6, u7]))] ++ ((ruW G r9 sa u) ++ (gmW G ta (zTsH h b o i (nI j)) (zTsB h b o i (nI j)))) : va_W) := (pm_put (cs := [[(o9, .inr (6, [u0, u1, .ref ta.1, .ref r9, u4, u5, u6, u7]))], ruW G r9 sa u, gmW G ta (zTsH h b o i (nI j)) (zTsB h b o i (nI j))]) (sub := [gmW G ta (zTsH h b o i (nI j)) (zTsB h b o i (nI j))]) (rest := [[(o9, .inr (6, [u0, u1, .ref ta.1, .ref r9, u4, u5, u6, u7]))], ruW G r9 sa u]) 3 [2] [0, 1] rfl rfl rfl (by decide))
      refine z_callV (As := [.int (nI o), .int (nI i), .int (nI j)]) (rest := []) (wc := gmW G ta h b) (wr := [(o9, .inr (6, [u0, u1, .ref ta.1, .ref r9, u4, u5, u6, u7]))] ++ (ruW G r9 sa u)) (w1 := gmW G ta (zTsH h b o i (nI j)) (zTsB h b o i (nI j))) (ws' := [(o9, .inr (6, [u0, u1, .ref ta.1, .ref r9, u4, u5, u6, u7]))] ++ ((ruW G r9 sa u) ++ (gmW G ta (zTsH h b o i (nI j)) (zTsB h b o i (nI j))))) ⟨hx, hb, hml, hown, hts⟩ (c_tryShift l G ta h b o i (nI j) (by omega) (by omega) P t S hG.1.1 ) (cwV 3 hts gX6_succeeds_X2_tryShift rfl rfl rfl (by decide +kernel) ⟨Nat.le_of_ble_eq_true rfl, Nat.le_of_ble_eq_true rfl⟩) 2 rfl rfl rfl rfl hl.1 rfl (Nat.le_of_ble_eq_true rfl) dX6_succeeds_100 ⟨Nat.le_of_ble_eq_true rfl, Nat.le_of_ble_eq_true rfl⟩ hK hE hA hM hp9 hq9 (fun H locs hM hz => ?_)
      exact z_zret hx hb hr hlocks dX6_succeeds_103 hM (Nat.le_of_ble_eq_true rfl) (Nat.le_of_ble_eq_true rfl) (by first | exact Or.inl rfl | exact Or.inr rfl | exact zb_01 _) rfl

set_option maxHeartbeats 4000000 in
set_option maxRecDepth 100000 in
theorem c_su2 (l : Launch) (G : zC) (o9 : Nat) (u0 u1 u4 u5 u6 u7 : Value) (r9 : Nat) (sa : zBA) (u : zRU) (ta : zGA) (h : Nat → Int32) (b : Nat → Nat → Int32) (P t S e0 : Nat) (hG : zGs h b P t S e0) (o i j : Nat) (ho9 : o < 10) (hi9 : i < 10) (hj9 : j < 10) : zMet l G yX6_succeeds wsX6_succeeds rmX6_succeeds [.ref o9, .int (nI (1000 * 2 + 100 * 0 + 10 * 0 + j))] ([(o9, .inr (6, [u0, u1, .ref ta.1, .ref r9, u4, u5, u6, u7]))] ++ ((ruW G r9 sa u) ++ (gmW G ta h b))) (some (.int (zb (zMg h b S t (nI j))))) ([(o9, .inr (6, [u0, u1, .ref ta.1, .ref r9, u4, u5, u6, u7]))] ++ ((ruW G r9 sa u) ++ (gmW G ta (if zMg h b S t (nI j) = true then zEtH h (zGoB b t j) t P else h) (if zMg h b S t (nI j) = true then zEtB h (zGoB b t j) t P else b)))) := by
  refine zMet_of (cc := cX6_succeeds) (maxL := 6) (ret := (some .boolean)) (by decide) rfl (Nat.le_of_ble_eq_true rfl) ?_
  intro p e s m below meth c A ls hx hb hr hml hown hts hK hA hE hlocks hin hM hl
  have hown : s.vm.findClass RX6 = some m.cls := hown
  have hM : zM G A s s.heap [] ([(o9, .inr (6, [u0, u1, .ref ta.1, .ref r9, u4, u5, u6, u7]))] ++ ((ruW G r9 sa u) ++ (gmW G ta h b))) := hM
  have hl : lv_has ls 6 [(0, .ref o9), (1, .int (nI (1000 * 2 + 100 * 0 + 10 * 0 + j)))] := hl
  have hP4 := hG.1.1.2.1
  have hP := hG.1.1.1
  refine lv_iload_n hx hb dX6_succeeds_0 rfl (lv_at hl 1 rfl) ?_
  refine lv_bipush (v := 100) hx hb dX6_succeeds_1 (by decide) ?_
  refine lv_idiv hx hb dX6_succeeds_3 (by decide) ?_
  refine z_topi (y := nI ((1000 * 2 + 100 * 0 + 10 * 0 + j) / 100)) (pk_div (a := (1000 * 2 + 100 * 0 + 10 * 0 + j)) (d := 100) (by omega) (by decide) (by decide)) ?_
  refine lv_bipush (v := 10) hx hb dX6_succeeds_4 (by decide) ?_
  refine lv_irem hx hb dX6_succeeds_6 (by decide) ?_
  refine z_topi (y := nI (((1000 * 2 + 100 * 0 + 10 * 0 + j) / 100) % 10)) (pk_rem (a := ((1000 * 2 + 100 * 0 + 10 * 0 + j) / 100)) (d := 10) (by omega) (by decide) (by decide)) ?_
  refine z_topi (y := nI 0) (by rw [show (1000 * 2 + 100 * 0 + 10 * 0 + j) / 100 % 10 = 0 by omega]) ?_
  refine lv_istore_n (lv' := [(2, .int (nI 0)), (0, .ref o9), (1, .int (nI (1000 * 2 + 100 * 0 + 10 * 0 + j)))]) hx hb dX6_succeeds_7 rfl hl (by decide) rfl (fun ls hl => ?_)
  refine lv_iload_n hx hb dX6_succeeds_8 rfl (lv_at hl 2 rfl) ?_
  refine lv_bipush (v := 10) hx hb dX6_succeeds_9 (by decide) ?_
  refine lv_idiv hx hb dX6_succeeds_11 (by decide) ?_
  refine z_topi (y := nI ((1000 * 2 + 100 * 0 + 10 * 0 + j) / 10)) (pk_div (a := (1000 * 2 + 100 * 0 + 10 * 0 + j)) (d := 10) (by omega) (by decide) (by decide)) ?_
  refine lv_bipush (v := 10) hx hb dX6_succeeds_12 (by decide) ?_
  refine lv_irem hx hb dX6_succeeds_14 (by decide) ?_
  refine z_topi (y := nI (((1000 * 2 + 100 * 0 + 10 * 0 + j) / 10) % 10)) (pk_rem (a := ((1000 * 2 + 100 * 0 + 10 * 0 + j) / 10)) (d := 10) (by omega) (by decide) (by decide)) ?_
  refine z_topi (y := nI 0) (by rw [show (1000 * 2 + 100 * 0 + 10 * 0 + j) / 10 % 10 = 0 by omega]) ?_
  refine lv_istore_n (lv' := [(3, .int (nI 0)), (2, .int (nI 0)), (0, .ref o9), (1, .int (nI (1000 * 2 + 100 * 0 + 10 * 0 + j)))]) hx hb dX6_succeeds_15 rfl hl (by decide) rfl (fun ls hl => ?_)
  refine lv_iload_n hx hb dX6_succeeds_16 rfl (lv_at hl 3 rfl) ?_
  refine lv_bipush (v := 10) hx hb dX6_succeeds_17 (by decide) ?_
  refine lv_irem hx hb dX6_succeeds_19 (by decide) ?_
  refine z_topi (y := nI ((1000 * 2 + 100 * 0 + 10 * 0 + j) % 10)) (pk_rem (a := (1000 * 2 + 100 * 0 + 10 * 0 + j)) (d := 10) (by omega) (by decide) (by decide)) ?_
  refine z_topi (y := nI j) (by rw [show (1000 * 2 + 100 * 0 + 10 * 0 + j) % 10 = j by omega]) ?_
  refine lv_istore (lv' := [(4, .int (nI j)), (3, .int (nI 0)), (2, .int (nI 0)), (0, .ref o9), (1, .int (nI (1000 * 2 + 100 * 0 + 10 * 0 + j)))]) hx hb dX6_succeeds_20 hl (by decide) rfl (fun ls hl => ?_)
  refine lv_iload_n hx hb dX6_succeeds_22 rfl (lv_at hl 2 rfl) ?_
  refine lv_if_ne (tgt := 34) hx hb dX6_succeeds_23 (by decide) (fun c_1 => absurd rfl c_1) (fun c_1 => ?_)
  refine lv_iload_n hx hb dX6_succeeds_26 rfl (lv_at hl 1 rfl) ?_
  refine lv_if_ne (tgt := 34) hx hb dX6_succeeds_27 (by decide) (fun c_2 => absurd rfl c_2) (fun c_2 => ?_)
  refine lv_iconst (v := 1) hx hb dX6_succeeds_30 (by decide) ?_
  refine lv_goto (tgt := 35) hx hb dX6_succeeds_31 (by decide) ?_
  refine lv_istore (lv' := [(5, .int 1), (4, .int (nI j)), (3, .int (nI 0)), (2, .int (nI 0)), (0, .ref o9), (1, .int (nI (1000 * 2 + 100 * 0 + 10 * 0 + j)))]) hx hb dX6_succeeds_35 hl (by decide) rfl (fun ls hl => ?_)
  refine lv_iload_n hx hb dX6_succeeds_37 rfl (lv_at hl 5 rfl) ?_
  refine lv_sipush (v := 1000) hx hb dX6_succeeds_38 (by decide) ?_
  refine lv_idiv hx hb dX6_succeeds_41 (by decide) ?_
  refine z_topi (y := nI ((1000 * 2 + 100 * 0 + 10 * 0 + j) / 1000)) (pk_div (a := (1000 * 2 + 100 * 0 + 10 * 0 + j)) (d := 1000) (by omega) (by decide) (by decide)) ?_
  refine z_topi (y := 2) (by rw [show (1000 * 2 + 100 * 0 + 10 * 0 + j) / 1000 = 2 by omega]; rfl) ?_
  refine lv_tableIn (off := 62) (tgt := 104) hx hb dX6_succeeds_42 (by decide) (by decide) rfl (by decide) ?_
  refine lv_iload hx hb dX6_succeeds_104 (lv_at hl 0 rfl) ?_
  refine lv_if_eq (tgt := 125) hx hb dX6_succeeds_106 (by decide) (fun c_3 => absurd c_3 (by decide)) (fun c_3 => ?_)
  refine lv_aload_n hx hb dX6_succeeds_109 rfl (lv_at hl 4 rfl) ?_
  refine z_get (ci := 6) (v := .ref ta.1) (C := RX6) (T := TX6) (N := 8) hx hb hts (by decide +kernel) hown hK hM 0 rfl rfl 2 (by decide) (hts (.fieldLink RX6 23 "ShiftIsles" "trial" "LShiftIsles$Game;") (by decide +kernel)) (fun _ h9 => h9) rfl dX6_succeeds_110 ?_
  refine lv_iload hx hb dX6_succeeds_113 (lv_at hl 1 rfl) ?_
  have hp9 : List.Perm ([(o9, .inr (6, [u0, u1, .ref ta.1, .ref r9, u4, u5, u6, u7]))] ++ ((ruW G r9 sa u) ++ (gmW G ta h b)) : va_W) ((gmW G ta h b) ++ ([(o9, .inr (6, [u0, u1, .ref ta.1, .ref r9, u4, u5, u6, u7]))] ++ (ruW G r9 sa u))) := (pm_cut (cs := [[(o9, .inr (6, [u0, u1, .ref ta.1, .ref r9, u4, u5, u6, u7]))], ruW G r9 sa u, gmW G ta h b]) (sub := [gmW G ta h b]) (rest := [[(o9, .inr (6, [u0, u1, .ref ta.1, .ref r9, u4, u5, u6, u7]))], ruW G r9 sa u]) 3 [2] [0, 1] rfl rfl rfl (by decide))
  have hq9 : List.Perm ((gmW G ta (if zMg h b S t (nI j) = true then zEtH h (zGoB b t j) t P else h) (if zMg h b S t (nI j) = true then zEtB h (zGoB b t j) t P else b)) ++ ([(o9, .inr (6, [u0, u1, .ref ta.1, .ref r9, u4, u5, u6, u7]))] ++ (ruW G r9 sa u))) ([(o9, .inr (6, [u0, u1, .ref ta.1, .ref r9, u4, u5, u6, u7]))] ++ ((ruW G r9 sa u) ++ (gmW G ta (if zMg h b S t (nI j) = true then zEtH h (zGoB b t j) t P else h) (if zMg h b S t (nI j) = true then zEtB h (zGoB b t j) t P else b))) : va_W) := (pm_put (cs := [[(o9, .inr (6, [u0, u1, .ref ta.1, .ref r9, u4, u5, u6, u7]))], ruW G r9 sa u, gmW G ta (if zMg h b S t (nI j) = true then zEtH h (zGoB b t j) t P else h) (if zMg h b S t (nI j) = true then zEtB h (zGoB b t j) t P else b)]) (sub := [gmW G ta (if zMg h b S t (nI j) = true then zEtH h (zGoB b t j) t P else h) (if zMg h b S t (nI j) = true then zEtB h (zGoB b t j) t P else b)]) (rest := [[(o9, .inr (6, [u0, u1, .ref ta.1, .ref r9, u4, u5, u6, u7]))], ruW G r9 sa u]) 3 [2] [0, 1] rfl rfl rfl (by decide))
  refine z_callV (As := [.int (nI j)]) (rest := []) (wc := gmW G ta h b) (wr := [(o9, .inr (6, [u0, u1, .ref ta.1, .ref r9, u4, u5, u6, u7]))] ++ (ruW G r9 sa u)) (w1 := gmW G ta (if zMg h b S t (nI j) = true then zEtH h (zGoB b t j) t P else h) (if zMg h b S t (nI j) = true then zEtB h (zGoB b t j) t P else b)) (ws' := [(o9, .inr (6, [u0, u1, .ref ta.1, .ref r9, u4, u5, u6, u7]))] ++ ((ruW G r9 sa u) ++ (gmW G ta (if zMg h b S t (nI j) = true then zEtH h (zGoB b t j) t P else h) (if zMg h b S t (nI j) = true then zEtB h (zGoB b t j) t P else b)))) ⟨hx, hb, hml, hown, hts⟩ (c_tryGo l G ta h b j (by omega) P t S hG.1.1 ) (cwV 1 hts gX6_succeeds_X2_tryGo rfl rfl rfl (by decide +kernel) ⟨Nat.le_of_ble_eq_true rfl, Nat.le_of_ble_eq_true rfl⟩) 2 rfl rfl rfl rfl hl.1 rfl (Nat.le_of_ble_eq_true rfl) dX6_succeeds_115 ⟨Nat.le_of_ble_eq_true rfl, Nat.le_of_ble_eq_true rfl⟩ hK hE hA hM hp9 hq9 (fun H locs hM hz => ?_)
  refine z_ifeq (tgt := 125) hx hb dX6_succeeds_118 (by decide) (fun c_g => ?_) (fun c_g => ?_)
  · skip
    refine lv_iconst (v := 0) hx hb dX6_succeeds_125 (by decide) ?_
    exact z_zret hx hb hr hlocks dX6_succeeds_126 hM (Nat.le_of_ble_eq_true rfl) (Nat.le_of_ble_eq_true rfl) (by first | exact Or.inl rfl | exact Or.inr rfl | exact zb_01 _) (by rw [c_g]; rfl)
  · skip
    refine lv_iconst (v := 1) hx hb dX6_succeeds_121 (by decide) ?_
    refine lv_goto (tgt := 126) hx hb dX6_succeeds_122 (by decide) ?_
    exact z_zret hx hb hr hlocks dX6_succeeds_126 hM (Nat.le_of_ble_eq_true rfl) (Nat.le_of_ble_eq_true rfl) (by first | exact Or.inl rfl | exact Or.inr rfl | exact zb_01 _) (by rw [c_g]; rfl)

set_option maxHeartbeats 4000000 in
set_option maxRecDepth 100000 in
theorem c_su2n (l : Launch) (G : zC) (o9 : Nat) (u0 u1 u4 u5 u6 u7 : Value) (r9 : Nat) (sa : zBA) (u : zRU) (ta : zGA) (h : Nat → Int32) (b : Nat → Nat → Int32) (P t S e0 : Nat) (hG : zGs h b P t S e0) (o i j : Nat) (ho9 : o < 10) (hi9 : i < 10) (hj9 : j < 10) (hc : (decide (o = 0) && decide (i = 0)) = false) : zMet l G yX6_succeeds wsX6_succeeds rmX6_succeeds [.ref o9, .int (nI (1000 * 2 + 100 * o + 10 * i + j))] ([(o9, .inr (6, [u0, u1, .ref ta.1, .ref r9, u4, u5, u6, u7]))] ++ ((ruW G r9 sa u) ++ (gmW G ta h b))) (some (.int 0)) ([(o9, .inr (6, [u0, u1, .ref ta.1, .ref r9, u4, u5, u6, u7]))] ++ ((ruW G r9 sa u) ++ (gmW G ta h b))) := by
  refine zMet_of (cc := cX6_succeeds) (maxL := 6) (ret := (some .boolean)) (by decide) rfl (Nat.le_of_ble_eq_true rfl) ?_
  intro p e s m below meth c A ls hx hb hr hml hown hts hK hA hE hlocks hin hM hl
  have hown : s.vm.findClass RX6 = some m.cls := hown
  have hM : zM G A s s.heap [] ([(o9, .inr (6, [u0, u1, .ref ta.1, .ref r9, u4, u5, u6, u7]))] ++ ((ruW G r9 sa u) ++ (gmW G ta h b))) := hM
  have hl : lv_has ls 6 [(0, .ref o9), (1, .int (nI (1000 * 2 + 100 * o + 10 * i + j)))] := hl
  have hP4 := hG.1.1.2.1
  have hP := hG.1.1.1
  refine lv_iload_n hx hb dX6_succeeds_0 rfl (lv_at hl 1 rfl) ?_
  refine lv_bipush (v := 100) hx hb dX6_succeeds_1 (by decide) ?_
  refine lv_idiv hx hb dX6_succeeds_3 (by decide) ?_
  refine z_topi (y := nI ((1000 * 2 + 100 * o + 10 * i + j) / 100)) (pk_div (a := (1000 * 2 + 100 * o + 10 * i + j)) (d := 100) (by omega) (by decide) (by decide)) ?_
  refine lv_bipush (v := 10) hx hb dX6_succeeds_4 (by decide) ?_
  refine lv_irem hx hb dX6_succeeds_6 (by decide) ?_
  refine z_topi (y := nI (((1000 * 2 + 100 * o + 10 * i + j) / 100) % 10)) (pk_rem (a := ((1000 * 2 + 100 * o + 10 * i + j) / 100)) (d := 10) (by omega) (by decide) (by decide)) ?_
  refine z_topi (y := nI o) (by rw [show (1000 * 2 + 100 * o + 10 * i + j) / 100 % 10 = o by omega]) ?_
  refine lv_istore_n (lv' := [(2, .int (nI o)), (0, .ref o9), (1, .int (nI (1000 * 2 + 100 * o + 10 * i + j)))]) hx hb dX6_succeeds_7 rfl hl (by decide) rfl (fun ls hl => ?_)
  refine lv_iload_n hx hb dX6_succeeds_8 rfl (lv_at hl 2 rfl) ?_
  refine lv_bipush (v := 10) hx hb dX6_succeeds_9 (by decide) ?_
  refine lv_idiv hx hb dX6_succeeds_11 (by decide) ?_
  refine z_topi (y := nI ((1000 * 2 + 100 * o + 10 * i + j) / 10)) (pk_div (a := (1000 * 2 + 100 * o + 10 * i + j)) (d := 10) (by omega) (by decide) (by decide)) ?_
  refine lv_bipush (v := 10) hx hb dX6_succeeds_12 (by decide) ?_
  refine lv_irem hx hb dX6_succeeds_14 (by decide) ?_
  refine z_topi (y := nI (((1000 * 2 + 100 * o + 10 * i + j) / 10) % 10)) (pk_rem (a := ((1000 * 2 + 100 * o + 10 * i + j) / 10)) (d := 10) (by omega) (by decide) (by decide)) ?_
  refine z_topi (y := nI i) (by rw [show (1000 * 2 + 100 * o + 10 * i + j) / 10 % 10 = i by omega]) ?_
  refine lv_istore_n (lv' := [(3, .int (nI i)), (2, .int (nI o)), (0, .ref o9), (1, .int (nI (1000 * 2 + 100 * o + 10 * i + j)))]) hx hb dX6_succeeds_15 rfl hl (by decide) rfl (fun ls hl => ?_)
  refine lv_iload_n hx hb dX6_succeeds_16 rfl (lv_at hl 3 rfl) ?_
  refine lv_bipush (v := 10) hx hb dX6_succeeds_17 (by decide) ?_
  refine lv_irem hx hb dX6_succeeds_19 (by decide) ?_
  refine z_topi (y := nI ((1000 * 2 + 100 * o + 10 * i + j) % 10)) (pk_rem (a := (1000 * 2 + 100 * o + 10 * i + j)) (d := 10) (by omega) (by decide) (by decide)) ?_
  refine z_topi (y := nI j) (by rw [show (1000 * 2 + 100 * o + 10 * i + j) % 10 = j by omega]) ?_
  refine lv_istore (lv' := [(4, .int (nI j)), (3, .int (nI i)), (2, .int (nI o)), (0, .ref o9), (1, .int (nI (1000 * 2 + 100 * o + 10 * i + j)))]) hx hb dX6_succeeds_20 hl (by decide) rfl (fun ls hl => ?_)
  refine lv_iload_n hx hb dX6_succeeds_22 rfl (lv_at hl 2 rfl) ?_
  refine lv_if_ne (tgt := 34) hx hb dX6_succeeds_23 (by decide) (fun c_z1 => ?_) (fun c_z1 => ?_)
  · skip
    refine lv_iconst (v := 0) hx hb dX6_succeeds_34 (by decide) ?_
    refine lv_istore (lv' := [(5, .int 0), (4, .int (nI j)), (3, .int (nI i)), (2, .int (nI o)), (0, .ref o9), (1, .int (nI (1000 * 2 + 100 * o + 10 * i + j)))]) hx hb dX6_succeeds_35 hl (by decide) rfl (fun ls hl => ?_)
    refine lv_iload_n hx hb dX6_succeeds_37 rfl (lv_at hl 5 rfl) ?_
    refine lv_sipush (v := 1000) hx hb dX6_succeeds_38 (by decide) ?_
    refine lv_idiv hx hb dX6_succeeds_41 (by decide) ?_
    refine z_topi (y := nI ((1000 * 2 + 100 * o + 10 * i + j) / 1000)) (pk_div (a := (1000 * 2 + 100 * o + 10 * i + j)) (d := 1000) (by omega) (by decide) (by decide)) ?_
    refine z_topi (y := 2) (by rw [show (1000 * 2 + 100 * o + 10 * i + j) / 1000 = 2 by omega]; rfl) ?_
    refine lv_tableIn (off := 62) (tgt := 104) hx hb dX6_succeeds_42 (by decide) (by decide) rfl (by decide) ?_
    refine lv_iload hx hb dX6_succeeds_104 (lv_at hl 0 rfl) ?_
    refine lv_if_eq (tgt := 125) hx hb dX6_succeeds_106 (by decide) (fun c_1 => ?_) (fun c_1 => absurd rfl c_1)
    refine lv_iconst (v := 0) hx hb dX6_succeeds_125 (by decide) ?_
    exact z_zret hx hb hr hlocks dX6_succeeds_126 hM (Nat.le_of_ble_eq_true rfl) (Nat.le_of_ble_eq_true rfl) (by first | exact Or.inl rfl | exact Or.inr rfl | exact zb_01 _) rfl
  · skip
    refine lv_iload_n hx hb dX6_succeeds_26 rfl (lv_at hl 1 rfl) ?_
    refine lv_if_ne (tgt := 34) hx hb dX6_succeeds_27 (by decide) (fun c_2 => ?_) (fun c_2 => (by rw [decide_eq_true ((nI_eq (a := o) (b := 0) (by omega) (by decide)).mp c_z1), decide_eq_true ((nI_eq (a := i) (b := 0) (by omega) (by decide)).mp c_2)] at hc; exact Bool.noConfusion hc))
    refine lv_iconst (v := 0) hx hb dX6_succeeds_34 (by decide) ?_
    refine lv_istore (lv' := [(5, .int 0), (4, .int (nI j)), (3, .int (nI i)), (2, .int (nI o)), (0, .ref o9), (1, .int (nI (1000 * 2 + 100 * o + 10 * i + j)))]) hx hb dX6_succeeds_35 hl (by decide) rfl (fun ls hl => ?_)
    refine lv_iload_n hx hb dX6_succeeds_37 rfl (lv_at hl 5 rfl) ?_
    refine lv_sipush (v := 1000) hx hb dX6_succeeds_38 (by decide) ?_
    refine lv_idiv hx hb dX6_succeeds_41 (by decide) ?_
    refine z_topi (y := nI ((1000 * 2 + 100 * o + 10 * i + j) / 1000)) (pk_div (a := (1000 * 2 + 100 * o + 10 * i + j)) (d := 1000) (by omega) (by decide) (by decide)) ?_
    refine z_topi (y := 2) (by rw [show (1000 * 2 + 100 * o + 10 * i + j) / 1000 = 2 by omega]; rfl) ?_
    refine lv_tableIn (off := 62) (tgt := 104) hx hb dX6_succeeds_42 (by decide) (by decide) rfl (by decide) ?_
    refine lv_iload hx hb dX6_succeeds_104 (lv_at hl 0 rfl) ?_
    refine lv_if_eq (tgt := 125) hx hb dX6_succeeds_106 (by decide) (fun c_3 => ?_) (fun c_3 => absurd rfl c_3)
    refine lv_iconst (v := 0) hx hb dX6_succeeds_125 (by decide) ?_
    exact z_zret hx hb hr hlocks dX6_succeeds_126 hM (Nat.le_of_ble_eq_true rfl) (Nat.le_of_ble_eq_true rfl) (by first | exact Or.inl rfl | exact Or.inr rfl | exact zb_01 _) rfl

set_option maxHeartbeats 4000000 in
set_option maxRecDepth 100000 in
theorem c_su3n (l : Launch) (G : zC) (o9 : Nat) (u0 u1 u4 u5 u6 u7 : Value) (r9 : Nat) (sa : zBA) (u : zRU) (ta : zGA) (h : Nat → Int32) (b : Nat → Nat → Int32) (P t S e0 : Nat) (hG : zGs h b P t S e0) (o i j : Nat) (ho9 : o < 10) (hi9 : i < 10) (hj9 : j < 10) (hc : (decide (o = 0) && decide (i = 0)) = false) : zMet l G yX6_succeeds wsX6_succeeds rmX6_succeeds [.ref o9, .int (nI (1000 * 3 + 100 * o + 10 * i + j))] ([(o9, .inr (6, [u0, u1, .ref ta.1, .ref r9, u4, u5, u6, u7]))] ++ ((ruW G r9 sa u) ++ (gmW G ta h b))) (some (.int 0)) ([(o9, .inr (6, [u0, u1, .ref ta.1, .ref r9, u4, u5, u6, u7]))] ++ ((ruW G r9 sa u) ++ (gmW G ta h b))) := by
  refine zMet_of (cc := cX6_succeeds) (maxL := 6) (ret := (some .boolean)) (by decide) rfl (Nat.le_of_ble_eq_true rfl) ?_
  intro p e s m below meth c A ls hx hb hr hml hown hts hK hA hE hlocks hin hM hl
  have hown : s.vm.findClass RX6 = some m.cls := hown
  have hM : zM G A s s.heap [] ([(o9, .inr (6, [u0, u1, .ref ta.1, .ref r9, u4, u5, u6, u7]))] ++ ((ruW G r9 sa u) ++ (gmW G ta h b))) := hM
  have hl : lv_has ls 6 [(0, .ref o9), (1, .int (nI (1000 * 3 + 100 * o + 10 * i + j)))] := hl
  have hP4 := hG.1.1.2.1
  have hP := hG.1.1.1
  refine lv_iload_n hx hb dX6_succeeds_0 rfl (lv_at hl 1 rfl) ?_
  refine lv_bipush (v := 100) hx hb dX6_succeeds_1 (by decide) ?_
  refine lv_idiv hx hb dX6_succeeds_3 (by decide) ?_
  refine z_topi (y := nI ((1000 * 3 + 100 * o + 10 * i + j) / 100)) (pk_div (a := (1000 * 3 + 100 * o + 10 * i + j)) (d := 100) (by omega) (by decide) (by decide)) ?_
  refine lv_bipush (v := 10) hx hb dX6_succeeds_4 (by decide) ?_
  refine lv_irem hx hb dX6_succeeds_6 (by decide) ?_
  refine z_topi (y := nI (((1000 * 3 + 100 * o + 10 * i + j) / 100) % 10)) (pk_rem (a := ((1000 * 3 + 100 * o + 10 * i + j) / 100)) (d := 10) (by omega) (by decide) (by decide)) ?_
  refine z_topi (y := nI o) (by rw [show (1000 * 3 + 100 * o + 10 * i + j) / 100 % 10 = o by omega]) ?_
  refine lv_istore_n (lv' := [(2, .int (nI o)), (0, .ref o9), (1, .int (nI (1000 * 3 + 100 * o + 10 * i + j)))]) hx hb dX6_succeeds_7 rfl hl (by decide) rfl (fun ls hl => ?_)
  refine lv_iload_n hx hb dX6_succeeds_8 rfl (lv_at hl 2 rfl) ?_
  refine lv_bipush (v := 10) hx hb dX6_succeeds_9 (by decide) ?_
  refine lv_idiv hx hb dX6_succeeds_11 (by decide) ?_
  refine z_topi (y := nI ((1000 * 3 + 100 * o + 10 * i + j) / 10)) (pk_div (a := (1000 * 3 + 100 * o + 10 * i + j)) (d := 10) (by omega) (by decide) (by decide)) ?_
  refine lv_bipush (v := 10) hx hb dX6_succeeds_12 (by decide) ?_
  refine lv_irem hx hb dX6_succeeds_14 (by decide) ?_
  refine z_topi (y := nI (((1000 * 3 + 100 * o + 10 * i + j) / 10) % 10)) (pk_rem (a := ((1000 * 3 + 100 * o + 10 * i + j) / 10)) (d := 10) (by omega) (by decide) (by decide)) ?_
  refine z_topi (y := nI i) (by rw [show (1000 * 3 + 100 * o + 10 * i + j) / 10 % 10 = i by omega]) ?_
  refine lv_istore_n (lv' := [(3, .int (nI i)), (2, .int (nI o)), (0, .ref o9), (1, .int (nI (1000 * 3 + 100 * o + 10 * i + j)))]) hx hb dX6_succeeds_15 rfl hl (by decide) rfl (fun ls hl => ?_)
  refine lv_iload_n hx hb dX6_succeeds_16 rfl (lv_at hl 3 rfl) ?_
  refine lv_bipush (v := 10) hx hb dX6_succeeds_17 (by decide) ?_
  refine lv_irem hx hb dX6_succeeds_19 (by decide) ?_
  refine z_topi (y := nI ((1000 * 3 + 100 * o + 10 * i + j) % 10)) (pk_rem (a := (1000 * 3 + 100 * o + 10 * i + j)) (d := 10) (by omega) (by decide) (by decide)) ?_
  refine z_topi (y := nI j) (by rw [show (1000 * 3 + 100 * o + 10 * i + j) % 10 = j by omega]) ?_
  refine lv_istore (lv' := [(4, .int (nI j)), (3, .int (nI i)), (2, .int (nI o)), (0, .ref o9), (1, .int (nI (1000 * 3 + 100 * o + 10 * i + j)))]) hx hb dX6_succeeds_20 hl (by decide) rfl (fun ls hl => ?_)
  refine lv_iload_n hx hb dX6_succeeds_22 rfl (lv_at hl 2 rfl) ?_
  refine lv_if_ne (tgt := 34) hx hb dX6_succeeds_23 (by decide) (fun c_z1 => ?_) (fun c_z1 => ?_)
  · skip
    refine lv_iconst (v := 0) hx hb dX6_succeeds_34 (by decide) ?_
    refine lv_istore (lv' := [(5, .int 0), (4, .int (nI j)), (3, .int (nI i)), (2, .int (nI o)), (0, .ref o9), (1, .int (nI (1000 * 3 + 100 * o + 10 * i + j)))]) hx hb dX6_succeeds_35 hl (by decide) rfl (fun ls hl => ?_)
    refine lv_iload_n hx hb dX6_succeeds_37 rfl (lv_at hl 5 rfl) ?_
    refine lv_sipush (v := 1000) hx hb dX6_succeeds_38 (by decide) ?_
    refine lv_idiv hx hb dX6_succeeds_41 (by decide) ?_
    refine z_topi (y := nI ((1000 * 3 + 100 * o + 10 * i + j) / 1000)) (pk_div (a := (1000 * 3 + 100 * o + 10 * i + j)) (d := 1000) (by omega) (by decide) (by decide)) ?_
    refine z_topi (y := 3) (by rw [show (1000 * 3 + 100 * o + 10 * i + j) / 1000 = 3 by omega]; rfl) ?_
    refine lv_tableIn (off := 85) (tgt := 127) hx hb dX6_succeeds_42 (by decide) (by decide) rfl (by decide) ?_
    refine lv_iload hx hb dX6_succeeds_127 (lv_at hl 0 rfl) ?_
    refine lv_if_eq (tgt := 148) hx hb dX6_succeeds_129 (by decide) (fun c_1 => ?_) (fun c_1 => absurd rfl c_1)
    refine lv_iconst (v := 0) hx hb dX6_succeeds_148 (by decide) ?_
    exact z_zret hx hb hr hlocks dX6_succeeds_149 hM (Nat.le_of_ble_eq_true rfl) (Nat.le_of_ble_eq_true rfl) (by first | exact Or.inl rfl | exact Or.inr rfl | exact zb_01 _) rfl
  · skip
    refine lv_iload_n hx hb dX6_succeeds_26 rfl (lv_at hl 1 rfl) ?_
    refine lv_if_ne (tgt := 34) hx hb dX6_succeeds_27 (by decide) (fun c_2 => ?_) (fun c_2 => (by rw [decide_eq_true ((nI_eq (a := o) (b := 0) (by omega) (by decide)).mp c_z1), decide_eq_true ((nI_eq (a := i) (b := 0) (by omega) (by decide)).mp c_2)] at hc; exact Bool.noConfusion hc))
    refine lv_iconst (v := 0) hx hb dX6_succeeds_34 (by decide) ?_
    refine lv_istore (lv' := [(5, .int 0), (4, .int (nI j)), (3, .int (nI i)), (2, .int (nI o)), (0, .ref o9), (1, .int (nI (1000 * 3 + 100 * o + 10 * i + j)))]) hx hb dX6_succeeds_35 hl (by decide) rfl (fun ls hl => ?_)
    refine lv_iload_n hx hb dX6_succeeds_37 rfl (lv_at hl 5 rfl) ?_
    refine lv_sipush (v := 1000) hx hb dX6_succeeds_38 (by decide) ?_
    refine lv_idiv hx hb dX6_succeeds_41 (by decide) ?_
    refine z_topi (y := nI ((1000 * 3 + 100 * o + 10 * i + j) / 1000)) (pk_div (a := (1000 * 3 + 100 * o + 10 * i + j)) (d := 1000) (by omega) (by decide) (by decide)) ?_
    refine z_topi (y := 3) (by rw [show (1000 * 3 + 100 * o + 10 * i + j) / 1000 = 3 by omega]; rfl) ?_
    refine lv_tableIn (off := 85) (tgt := 127) hx hb dX6_succeeds_42 (by decide) (by decide) rfl (by decide) ?_
    refine lv_iload hx hb dX6_succeeds_127 (lv_at hl 0 rfl) ?_
    refine lv_if_eq (tgt := 148) hx hb dX6_succeeds_129 (by decide) (fun c_3 => ?_) (fun c_3 => absurd rfl c_3)
    refine lv_iconst (v := 0) hx hb dX6_succeeds_148 (by decide) ?_
    exact z_zret hx hb hr hlocks dX6_succeeds_149 hM (Nat.le_of_ble_eq_true rfl) (Nat.le_of_ble_eq_true rfl) (by first | exact Or.inl rfl | exact Or.inr rfl | exact zb_01 _) rfl

set_option maxHeartbeats 4000000 in
set_option maxRecDepth 100000 in
theorem c_su4n (l : Launch) (G : zC) (o9 : Nat) (u0 u1 u4 u5 u6 u7 : Value) (r9 : Nat) (sa : zBA) (u : zRU) (ta : zGA) (h : Nat → Int32) (b : Nat → Nat → Int32) (P t S e0 : Nat) (hG : zGs h b P t S e0) (o i j : Nat) (ho9 : o < 10) (hi9 : i < 10) (hj9 : j < 10) (hc : (decide (o = 0) && decide (i = 0)) = false) : zMet l G yX6_succeeds wsX6_succeeds rmX6_succeeds [.ref o9, .int (nI (1000 * 4 + 100 * o + 10 * i + j))] ([(o9, .inr (6, [u0, u1, .ref ta.1, .ref r9, u4, u5, u6, u7]))] ++ ((ruW G r9 sa u) ++ (gmW G ta h b))) (some (.int 0)) ([(o9, .inr (6, [u0, u1, .ref ta.1, .ref r9, u4, u5, u6, u7]))] ++ ((ruW G r9 sa u) ++ (gmW G ta h b))) := by
  refine zMet_of (cc := cX6_succeeds) (maxL := 6) (ret := (some .boolean)) (by decide) rfl (Nat.le_of_ble_eq_true rfl) ?_
  intro p e s m below meth c A ls hx hb hr hml hown hts hK hA hE hlocks hin hM hl
  have hown : s.vm.findClass RX6 = some m.cls := hown
  have hM : zM G A s s.heap [] ([(o9, .inr (6, [u0, u1, .ref ta.1, .ref r9, u4, u5, u6, u7]))] ++ ((ruW G r9 sa u) ++ (gmW G ta h b))) := hM
  have hl : lv_has ls 6 [(0, .ref o9), (1, .int (nI (1000 * 4 + 100 * o + 10 * i + j)))] := hl
  have hP4 := hG.1.1.2.1
  have hP := hG.1.1.1
  refine lv_iload_n hx hb dX6_succeeds_0 rfl (lv_at hl 1 rfl) ?_
  refine lv_bipush (v := 100) hx hb dX6_succeeds_1 (by decide) ?_
  refine lv_idiv hx hb dX6_succeeds_3 (by decide) ?_
  refine z_topi (y := nI ((1000 * 4 + 100 * o + 10 * i + j) / 100)) (pk_div (a := (1000 * 4 + 100 * o + 10 * i + j)) (d := 100) (by omega) (by decide) (by decide)) ?_
  refine lv_bipush (v := 10) hx hb dX6_succeeds_4 (by decide) ?_
  refine lv_irem hx hb dX6_succeeds_6 (by decide) ?_
  refine z_topi (y := nI (((1000 * 4 + 100 * o + 10 * i + j) / 100) % 10)) (pk_rem (a := ((1000 * 4 + 100 * o + 10 * i + j) / 100)) (d := 10) (by omega) (by decide) (by decide)) ?_
  refine z_topi (y := nI o) (by rw [show (1000 * 4 + 100 * o + 10 * i + j) / 100 % 10 = o by omega]) ?_
  refine lv_istore_n (lv' := [(2, .int (nI o)), (0, .ref o9), (1, .int (nI (1000 * 4 + 100 * o + 10 * i + j)))]) hx hb dX6_succeeds_7 rfl hl (by decide) rfl (fun ls hl => ?_)
  refine lv_iload_n hx hb dX6_succeeds_8 rfl (lv_at hl 2 rfl) ?_
  refine lv_bipush (v := 10) hx hb dX6_succeeds_9 (by decide) ?_
  refine lv_idiv hx hb dX6_succeeds_11 (by decide) ?_
  refine z_topi (y := nI ((1000 * 4 + 100 * o + 10 * i + j) / 10)) (pk_div (a := (1000 * 4 + 100 * o + 10 * i + j)) (d := 10) (by omega) (by decide) (by decide)) ?_
  refine lv_bipush (v := 10) hx hb dX6_succeeds_12 (by decide) ?_
  refine lv_irem hx hb dX6_succeeds_14 (by decide) ?_
  refine z_topi (y := nI (((1000 * 4 + 100 * o + 10 * i + j) / 10) % 10)) (pk_rem (a := ((1000 * 4 + 100 * o + 10 * i + j) / 10)) (d := 10) (by omega) (by decide) (by decide)) ?_
  refine z_topi (y := nI i) (by rw [show (1000 * 4 + 100 * o + 10 * i + j) / 10 % 10 = i by omega]) ?_
  refine lv_istore_n (lv' := [(3, .int (nI i)), (2, .int (nI o)), (0, .ref o9), (1, .int (nI (1000 * 4 + 100 * o + 10 * i + j)))]) hx hb dX6_succeeds_15 rfl hl (by decide) rfl (fun ls hl => ?_)
  refine lv_iload_n hx hb dX6_succeeds_16 rfl (lv_at hl 3 rfl) ?_
  refine lv_bipush (v := 10) hx hb dX6_succeeds_17 (by decide) ?_
  refine lv_irem hx hb dX6_succeeds_19 (by decide) ?_
  refine z_topi (y := nI ((1000 * 4 + 100 * o + 10 * i + j) % 10)) (pk_rem (a := (1000 * 4 + 100 * o + 10 * i + j)) (d := 10) (by omega) (by decide) (by decide)) ?_
  refine z_topi (y := nI j) (by rw [show (1000 * 4 + 100 * o + 10 * i + j) % 10 = j by omega]) ?_
  refine lv_istore (lv' := [(4, .int (nI j)), (3, .int (nI i)), (2, .int (nI o)), (0, .ref o9), (1, .int (nI (1000 * 4 + 100 * o + 10 * i + j)))]) hx hb dX6_succeeds_20 hl (by decide) rfl (fun ls hl => ?_)
  refine lv_iload_n hx hb dX6_succeeds_22 rfl (lv_at hl 2 rfl) ?_
  refine lv_if_ne (tgt := 34) hx hb dX6_succeeds_23 (by decide) (fun c_z1 => ?_) (fun c_z1 => ?_)
  · skip
    refine lv_iconst (v := 0) hx hb dX6_succeeds_34 (by decide) ?_
    refine lv_istore (lv' := [(5, .int 0), (4, .int (nI j)), (3, .int (nI i)), (2, .int (nI o)), (0, .ref o9), (1, .int (nI (1000 * 4 + 100 * o + 10 * i + j)))]) hx hb dX6_succeeds_35 hl (by decide) rfl (fun ls hl => ?_)
    refine lv_iload_n hx hb dX6_succeeds_37 rfl (lv_at hl 5 rfl) ?_
    refine lv_sipush (v := 1000) hx hb dX6_succeeds_38 (by decide) ?_
    refine lv_idiv hx hb dX6_succeeds_41 (by decide) ?_
    refine z_topi (y := nI ((1000 * 4 + 100 * o + 10 * i + j) / 1000)) (pk_div (a := (1000 * 4 + 100 * o + 10 * i + j)) (d := 1000) (by omega) (by decide) (by decide)) ?_
    refine z_topi (y := 4) (by rw [show (1000 * 4 + 100 * o + 10 * i + j) / 1000 = 4 by omega]; rfl) ?_
    refine lv_tableIn (off := 108) (tgt := 150) hx hb dX6_succeeds_42 (by decide) (by decide) rfl (by decide) ?_
    refine lv_iload hx hb dX6_succeeds_150 (lv_at hl 0 rfl) ?_
    refine lv_if_eq (tgt := 179) hx hb dX6_succeeds_152 (by decide) (fun c_1 => ?_) (fun c_1 => absurd rfl c_1)
    refine lv_iconst (v := 0) hx hb dX6_succeeds_179 (by decide) ?_
    exact z_zret hx hb hr hlocks dX6_succeeds_180 hM (Nat.le_of_ble_eq_true rfl) (Nat.le_of_ble_eq_true rfl) (by first | exact Or.inl rfl | exact Or.inr rfl | exact zb_01 _) rfl
  · skip
    refine lv_iload_n hx hb dX6_succeeds_26 rfl (lv_at hl 1 rfl) ?_
    refine lv_if_ne (tgt := 34) hx hb dX6_succeeds_27 (by decide) (fun c_2 => ?_) (fun c_2 => (by rw [decide_eq_true ((nI_eq (a := o) (b := 0) (by omega) (by decide)).mp c_z1), decide_eq_true ((nI_eq (a := i) (b := 0) (by omega) (by decide)).mp c_2)] at hc; exact Bool.noConfusion hc))
    refine lv_iconst (v := 0) hx hb dX6_succeeds_34 (by decide) ?_
    refine lv_istore (lv' := [(5, .int 0), (4, .int (nI j)), (3, .int (nI i)), (2, .int (nI o)), (0, .ref o9), (1, .int (nI (1000 * 4 + 100 * o + 10 * i + j)))]) hx hb dX6_succeeds_35 hl (by decide) rfl (fun ls hl => ?_)
    refine lv_iload_n hx hb dX6_succeeds_37 rfl (lv_at hl 5 rfl) ?_
    refine lv_sipush (v := 1000) hx hb dX6_succeeds_38 (by decide) ?_
    refine lv_idiv hx hb dX6_succeeds_41 (by decide) ?_
    refine z_topi (y := nI ((1000 * 4 + 100 * o + 10 * i + j) / 1000)) (pk_div (a := (1000 * 4 + 100 * o + 10 * i + j)) (d := 1000) (by omega) (by decide) (by decide)) ?_
    refine z_topi (y := 4) (by rw [show (1000 * 4 + 100 * o + 10 * i + j) / 1000 = 4 by omega]; rfl) ?_
    refine lv_tableIn (off := 108) (tgt := 150) hx hb dX6_succeeds_42 (by decide) (by decide) rfl (by decide) ?_
    refine lv_iload hx hb dX6_succeeds_150 (lv_at hl 0 rfl) ?_
    refine lv_if_eq (tgt := 179) hx hb dX6_succeeds_152 (by decide) (fun c_3 => ?_) (fun c_3 => absurd rfl c_3)
    refine lv_iconst (v := 0) hx hb dX6_succeeds_179 (by decide) ?_
    exact z_zret hx hb hr hlocks dX6_succeeds_180 hM (Nat.le_of_ble_eq_true rfl) (Nat.le_of_ble_eq_true rfl) (by first | exact Or.inl rfl | exact Or.inr rfl | exact zb_01 _) rfl

set_option maxHeartbeats 4000000 in
set_option maxRecDepth 100000 in
theorem c_su8n (l : Launch) (G : zC) (o9 : Nat) (u0 u1 u4 u5 u6 u7 : Value) (r9 : Nat) (sa : zBA) (u : zRU) (ta : zGA) (h : Nat → Int32) (b : Nat → Nat → Int32) (P t S e0 : Nat) (hG : zGs h b P t S e0) (o i j : Nat) (ho9 : o < 10) (hi9 : i < 10) (hj9 : j < 10) (hc : (decide (o = 0) && decide (i = 0)) = false) : zMet l G yX6_succeeds wsX6_succeeds rmX6_succeeds [.ref o9, .int (nI (1000 * 8 + 100 * o + 10 * i + j))] ([(o9, .inr (6, [u0, u1, .ref ta.1, .ref r9, u4, u5, u6, u7]))] ++ ((ruW G r9 sa u) ++ (gmW G ta h b))) (some (.int 0)) ([(o9, .inr (6, [u0, u1, .ref ta.1, .ref r9, u4, u5, u6, u7]))] ++ ((ruW G r9 sa u) ++ (gmW G ta h b))) := by
  refine zMet_of (cc := cX6_succeeds) (maxL := 6) (ret := (some .boolean)) (by decide) rfl (Nat.le_of_ble_eq_true rfl) ?_
  intro p e s m below meth c A ls hx hb hr hml hown hts hK hA hE hlocks hin hM hl
  have hown : s.vm.findClass RX6 = some m.cls := hown
  have hM : zM G A s s.heap [] ([(o9, .inr (6, [u0, u1, .ref ta.1, .ref r9, u4, u5, u6, u7]))] ++ ((ruW G r9 sa u) ++ (gmW G ta h b))) := hM
  have hl : lv_has ls 6 [(0, .ref o9), (1, .int (nI (1000 * 8 + 100 * o + 10 * i + j)))] := hl
  have hP4 := hG.1.1.2.1
  have hP := hG.1.1.1
  refine lv_iload_n hx hb dX6_succeeds_0 rfl (lv_at hl 1 rfl) ?_
  refine lv_bipush (v := 100) hx hb dX6_succeeds_1 (by decide) ?_
  refine lv_idiv hx hb dX6_succeeds_3 (by decide) ?_
  refine z_topi (y := nI ((1000 * 8 + 100 * o + 10 * i + j) / 100)) (pk_div (a := (1000 * 8 + 100 * o + 10 * i + j)) (d := 100) (by omega) (by decide) (by decide)) ?_
  refine lv_bipush (v := 10) hx hb dX6_succeeds_4 (by decide) ?_
  refine lv_irem hx hb dX6_succeeds_6 (by decide) ?_
  refine z_topi (y := nI (((1000 * 8 + 100 * o + 10 * i + j) / 100) % 10)) (pk_rem (a := ((1000 * 8 + 100 * o + 10 * i + j) / 100)) (d := 10) (by omega) (by decide) (by decide)) ?_
  refine z_topi (y := nI o) (by rw [show (1000 * 8 + 100 * o + 10 * i + j) / 100 % 10 = o by omega]) ?_
  refine lv_istore_n (lv' := [(2, .int (nI o)), (0, .ref o9), (1, .int (nI (1000 * 8 + 100 * o + 10 * i + j)))]) hx hb dX6_succeeds_7 rfl hl (by decide) rfl (fun ls hl => ?_)
  refine lv_iload_n hx hb dX6_succeeds_8 rfl (lv_at hl 2 rfl) ?_
  refine lv_bipush (v := 10) hx hb dX6_succeeds_9 (by decide) ?_
  refine lv_idiv hx hb dX6_succeeds_11 (by decide) ?_
  refine z_topi (y := nI ((1000 * 8 + 100 * o + 10 * i + j) / 10)) (pk_div (a := (1000 * 8 + 100 * o + 10 * i + j)) (d := 10) (by omega) (by decide) (by decide)) ?_
  refine lv_bipush (v := 10) hx hb dX6_succeeds_12 (by decide) ?_
  refine lv_irem hx hb dX6_succeeds_14 (by decide) ?_
  refine z_topi (y := nI (((1000 * 8 + 100 * o + 10 * i + j) / 10) % 10)) (pk_rem (a := ((1000 * 8 + 100 * o + 10 * i + j) / 10)) (d := 10) (by omega) (by decide) (by decide)) ?_
  refine z_topi (y := nI i) (by rw [show (1000 * 8 + 100 * o + 10 * i + j) / 10 % 10 = i by omega]) ?_
  refine lv_istore_n (lv' := [(3, .int (nI i)), (2, .int (nI o)), (0, .ref o9), (1, .int (nI (1000 * 8 + 100 * o + 10 * i + j)))]) hx hb dX6_succeeds_15 rfl hl (by decide) rfl (fun ls hl => ?_)
  refine lv_iload_n hx hb dX6_succeeds_16 rfl (lv_at hl 3 rfl) ?_
  refine lv_bipush (v := 10) hx hb dX6_succeeds_17 (by decide) ?_
  refine lv_irem hx hb dX6_succeeds_19 (by decide) ?_
  refine z_topi (y := nI ((1000 * 8 + 100 * o + 10 * i + j) % 10)) (pk_rem (a := (1000 * 8 + 100 * o + 10 * i + j)) (d := 10) (by omega) (by decide) (by decide)) ?_
  refine z_topi (y := nI j) (by rw [show (1000 * 8 + 100 * o + 10 * i + j) % 10 = j by omega]) ?_
  refine lv_istore (lv' := [(4, .int (nI j)), (3, .int (nI i)), (2, .int (nI o)), (0, .ref o9), (1, .int (nI (1000 * 8 + 100 * o + 10 * i + j)))]) hx hb dX6_succeeds_20 hl (by decide) rfl (fun ls hl => ?_)
  refine lv_iload_n hx hb dX6_succeeds_22 rfl (lv_at hl 2 rfl) ?_
  refine lv_if_ne (tgt := 34) hx hb dX6_succeeds_23 (by decide) (fun c_z1 => ?_) (fun c_z1 => ?_)
  · skip
    refine lv_iconst (v := 0) hx hb dX6_succeeds_34 (by decide) ?_
    refine lv_istore (lv' := [(5, .int 0), (4, .int (nI j)), (3, .int (nI i)), (2, .int (nI o)), (0, .ref o9), (1, .int (nI (1000 * 8 + 100 * o + 10 * i + j)))]) hx hb dX6_succeeds_35 hl (by decide) rfl (fun ls hl => ?_)
    refine lv_iload_n hx hb dX6_succeeds_37 rfl (lv_at hl 5 rfl) ?_
    refine lv_sipush (v := 1000) hx hb dX6_succeeds_38 (by decide) ?_
    refine lv_idiv hx hb dX6_succeeds_41 (by decide) ?_
    refine z_topi (y := nI ((1000 * 8 + 100 * o + 10 * i + j) / 1000)) (pk_div (a := (1000 * 8 + 100 * o + 10 * i + j)) (d := 1000) (by omega) (by decide) (by decide)) ?_
    refine z_topi (y := 8) (by rw [show (1000 * 8 + 100 * o + 10 * i + j) / 1000 = 8 by omega]; rfl) ?_
    refine lv_tableIn (off := 243) (tgt := 285) hx hb dX6_succeeds_42 (by decide) (by decide) rfl (by decide) ?_
    refine lv_iload hx hb dX6_succeeds_285 (lv_at hl 0 rfl) ?_
    refine lv_if_eq (tgt := 318) hx hb dX6_succeeds_287 (by decide) (fun c_1 => ?_) (fun c_1 => absurd rfl c_1)
    refine lv_iconst (v := 0) hx hb dX6_succeeds_318 (by decide) ?_
    exact z_zret hx hb hr hlocks dX6_succeeds_319 hM (Nat.le_of_ble_eq_true rfl) (Nat.le_of_ble_eq_true rfl) (by first | exact Or.inl rfl | exact Or.inr rfl | exact zb_01 _) rfl
  · skip
    refine lv_iload_n hx hb dX6_succeeds_26 rfl (lv_at hl 1 rfl) ?_
    refine lv_if_ne (tgt := 34) hx hb dX6_succeeds_27 (by decide) (fun c_2 => ?_) (fun c_2 => (by rw [decide_eq_true ((nI_eq (a := o) (b := 0) (by omega) (by decide)).mp c_z1), decide_eq_true ((nI_eq (a := i) (b := 0) (by omega) (by decide)).mp c_2)] at hc; exact Bool.noConfusion hc))
    refine lv_iconst (v := 0) hx hb dX6_succeeds_34 (by decide) ?_
    refine lv_istore (lv' := [(5, .int 0), (4, .int (nI j)), (3, .int (nI i)), (2, .int (nI o)), (0, .ref o9), (1, .int (nI (1000 * 8 + 100 * o + 10 * i + j)))]) hx hb dX6_succeeds_35 hl (by decide) rfl (fun ls hl => ?_)
    refine lv_iload_n hx hb dX6_succeeds_37 rfl (lv_at hl 5 rfl) ?_
    refine lv_sipush (v := 1000) hx hb dX6_succeeds_38 (by decide) ?_
    refine lv_idiv hx hb dX6_succeeds_41 (by decide) ?_
    refine z_topi (y := nI ((1000 * 8 + 100 * o + 10 * i + j) / 1000)) (pk_div (a := (1000 * 8 + 100 * o + 10 * i + j)) (d := 1000) (by omega) (by decide) (by decide)) ?_
    refine z_topi (y := 8) (by rw [show (1000 * 8 + 100 * o + 10 * i + j) / 1000 = 8 by omega]; rfl) ?_
    refine lv_tableIn (off := 243) (tgt := 285) hx hb dX6_succeeds_42 (by decide) (by decide) rfl (by decide) ?_
    refine lv_iload hx hb dX6_succeeds_285 (lv_at hl 0 rfl) ?_
    refine lv_if_eq (tgt := 318) hx hb dX6_succeeds_287 (by decide) (fun c_3 => ?_) (fun c_3 => absurd rfl c_3)
    refine lv_iconst (v := 0) hx hb dX6_succeeds_318 (by decide) ?_
    exact z_zret hx hb hr hlocks dX6_succeeds_319 hM (Nat.le_of_ble_eq_true rfl) (Nat.le_of_ble_eq_true rfl) (by first | exact Or.inl rfl | exact Or.inr rfl | exact zb_01 _) rfl

set_option maxHeartbeats 4000000 in
set_option maxRecDepth 100000 in
theorem c_su3 (l : Launch) (G : zC) (o9 : Nat) (u0 u1 u4 u5 u6 u7 : Value) (r9 : Nat) (sa : zBA) (u : zRU) (ta : zGA) (h : Nat → Int32) (b : Nat → Nat → Int32) (P t S e0 : Nat) (hG : zGs h b P t S e0) (o i j : Nat) (ho9 : o < 10) (hi9 : i < 10) (hj9 : j < 10) : zMet l G yX6_succeeds wsX6_succeeds rmX6_succeeds [.ref o9, .int (nI (1000 * 3 + 100 * 0 + 10 * 0 + j))] ([(o9, .inr (6, [u0, u1, .ref ta.1, .ref r9, u4, u5, u6, u7]))] ++ ((ruW G r9 sa u) ++ (gmW G ta h b))) (some (.int (zb (zMe h && zLi (nI j))))) ([(o9, .inr (6, [u0, u1, .ref ta.1, .ref r9, u4, u5, u6, u7]))] ++ ((ruW G r9 sa u) ++ (gmW G ta (if (zMe h && zLi (nI j)) = true then zEtH h (zLkB b t (nI j)) t P else h) (if (zMe h && zLi (nI j)) = true then zEtB h (zLkB b t (nI j)) t P else b)))) := by
  refine zMet_of (cc := cX6_succeeds) (maxL := 6) (ret := (some .boolean)) (by decide) rfl (Nat.le_of_ble_eq_true rfl) ?_
  intro p e s m below meth c A ls hx hb hr hml hown hts hK hA hE hlocks hin hM hl
  have hown : s.vm.findClass RX6 = some m.cls := hown
  have hM : zM G A s s.heap [] ([(o9, .inr (6, [u0, u1, .ref ta.1, .ref r9, u4, u5, u6, u7]))] ++ ((ruW G r9 sa u) ++ (gmW G ta h b))) := hM
  have hl : lv_has ls 6 [(0, .ref o9), (1, .int (nI (1000 * 3 + 100 * 0 + 10 * 0 + j)))] := hl
  have hP4 := hG.1.1.2.1
  have hP := hG.1.1.1
  refine lv_iload_n hx hb dX6_succeeds_0 rfl (lv_at hl 1 rfl) ?_
  refine lv_bipush (v := 100) hx hb dX6_succeeds_1 (by decide) ?_
  refine lv_idiv hx hb dX6_succeeds_3 (by decide) ?_
  refine z_topi (y := nI ((1000 * 3 + 100 * 0 + 10 * 0 + j) / 100)) (pk_div (a := (1000 * 3 + 100 * 0 + 10 * 0 + j)) (d := 100) (by omega) (by decide) (by decide)) ?_
  refine lv_bipush (v := 10) hx hb dX6_succeeds_4 (by decide) ?_
  refine lv_irem hx hb dX6_succeeds_6 (by decide) ?_
  refine z_topi (y := nI (((1000 * 3 + 100 * 0 + 10 * 0 + j) / 100) % 10)) (pk_rem (a := ((1000 * 3 + 100 * 0 + 10 * 0 + j) / 100)) (d := 10) (by omega) (by decide) (by decide)) ?_
  refine z_topi (y := nI 0) (by rw [show (1000 * 3 + 100 * 0 + 10 * 0 + j) / 100 % 10 = 0 by omega]) ?_
  refine lv_istore_n (lv' := [(2, .int (nI 0)), (0, .ref o9), (1, .int (nI (1000 * 3 + 100 * 0 + 10 * 0 + j)))]) hx hb dX6_succeeds_7 rfl hl (by decide) rfl (fun ls hl => ?_)
  refine lv_iload_n hx hb dX6_succeeds_8 rfl (lv_at hl 2 rfl) ?_
  refine lv_bipush (v := 10) hx hb dX6_succeeds_9 (by decide) ?_
  refine lv_idiv hx hb dX6_succeeds_11 (by decide) ?_
  refine z_topi (y := nI ((1000 * 3 + 100 * 0 + 10 * 0 + j) / 10)) (pk_div (a := (1000 * 3 + 100 * 0 + 10 * 0 + j)) (d := 10) (by omega) (by decide) (by decide)) ?_
  refine lv_bipush (v := 10) hx hb dX6_succeeds_12 (by decide) ?_
  refine lv_irem hx hb dX6_succeeds_14 (by decide) ?_
  refine z_topi (y := nI (((1000 * 3 + 100 * 0 + 10 * 0 + j) / 10) % 10)) (pk_rem (a := ((1000 * 3 + 100 * 0 + 10 * 0 + j) / 10)) (d := 10) (by omega) (by decide) (by decide)) ?_
  refine z_topi (y := nI 0) (by rw [show (1000 * 3 + 100 * 0 + 10 * 0 + j) / 10 % 10 = 0 by omega]) ?_
  refine lv_istore_n (lv' := [(3, .int (nI 0)), (2, .int (nI 0)), (0, .ref o9), (1, .int (nI (1000 * 3 + 100 * 0 + 10 * 0 + j)))]) hx hb dX6_succeeds_15 rfl hl (by decide) rfl (fun ls hl => ?_)
  refine lv_iload_n hx hb dX6_succeeds_16 rfl (lv_at hl 3 rfl) ?_
  refine lv_bipush (v := 10) hx hb dX6_succeeds_17 (by decide) ?_
  refine lv_irem hx hb dX6_succeeds_19 (by decide) ?_
  refine z_topi (y := nI ((1000 * 3 + 100 * 0 + 10 * 0 + j) % 10)) (pk_rem (a := (1000 * 3 + 100 * 0 + 10 * 0 + j)) (d := 10) (by omega) (by decide) (by decide)) ?_
  refine z_topi (y := nI j) (by rw [show (1000 * 3 + 100 * 0 + 10 * 0 + j) % 10 = j by omega]) ?_
  refine lv_istore (lv' := [(4, .int (nI j)), (3, .int (nI 0)), (2, .int (nI 0)), (0, .ref o9), (1, .int (nI (1000 * 3 + 100 * 0 + 10 * 0 + j)))]) hx hb dX6_succeeds_20 hl (by decide) rfl (fun ls hl => ?_)
  refine lv_iload_n hx hb dX6_succeeds_22 rfl (lv_at hl 2 rfl) ?_
  refine lv_if_ne (tgt := 34) hx hb dX6_succeeds_23 (by decide) (fun c_1 => absurd rfl c_1) (fun c_1 => ?_)
  refine lv_iload_n hx hb dX6_succeeds_26 rfl (lv_at hl 1 rfl) ?_
  refine lv_if_ne (tgt := 34) hx hb dX6_succeeds_27 (by decide) (fun c_2 => absurd rfl c_2) (fun c_2 => ?_)
  refine lv_iconst (v := 1) hx hb dX6_succeeds_30 (by decide) ?_
  refine lv_goto (tgt := 35) hx hb dX6_succeeds_31 (by decide) ?_
  refine lv_istore (lv' := [(5, .int 1), (4, .int (nI j)), (3, .int (nI 0)), (2, .int (nI 0)), (0, .ref o9), (1, .int (nI (1000 * 3 + 100 * 0 + 10 * 0 + j)))]) hx hb dX6_succeeds_35 hl (by decide) rfl (fun ls hl => ?_)
  refine lv_iload_n hx hb dX6_succeeds_37 rfl (lv_at hl 5 rfl) ?_
  refine lv_sipush (v := 1000) hx hb dX6_succeeds_38 (by decide) ?_
  refine lv_idiv hx hb dX6_succeeds_41 (by decide) ?_
  refine z_topi (y := nI ((1000 * 3 + 100 * 0 + 10 * 0 + j) / 1000)) (pk_div (a := (1000 * 3 + 100 * 0 + 10 * 0 + j)) (d := 1000) (by omega) (by decide) (by decide)) ?_
  refine z_topi (y := 3) (by rw [show (1000 * 3 + 100 * 0 + 10 * 0 + j) / 1000 = 3 by omega]; rfl) ?_
  refine lv_tableIn (off := 85) (tgt := 127) hx hb dX6_succeeds_42 (by decide) (by decide) rfl (by decide) ?_
  refine lv_iload hx hb dX6_succeeds_127 (lv_at hl 0 rfl) ?_
  refine lv_if_eq (tgt := 148) hx hb dX6_succeeds_129 (by decide) (fun c_3 => absurd c_3 (by decide)) (fun c_3 => ?_)
  refine lv_aload_n hx hb dX6_succeeds_132 rfl (lv_at hl 4 rfl) ?_
  refine z_get (ci := 6) (v := .ref ta.1) (C := RX6) (T := TX6) (N := 8) hx hb hts (by decide +kernel) hown hK hM 0 rfl rfl 2 (by decide) (hts (.fieldLink RX6 23 "ShiftIsles" "trial" "LShiftIsles$Game;") (by decide +kernel)) (fun _ h9 => h9) rfl dX6_succeeds_133 ?_
  refine lv_iload hx hb dX6_succeeds_136 (lv_at hl 1 rfl) ?_
  have hp9 : List.Perm ([(o9, .inr (6, [u0, u1, .ref ta.1, .ref r9, u4, u5, u6, u7]))] ++ ((ruW G r9 sa u) ++ (gmW G ta h b)) : va_W) ((gmW G ta h b) ++ ([(o9, .inr (6, [u0, u1, .ref ta.1, .ref r9, u4, u5, u6, u7]))] ++ (ruW G r9 sa u))) := (pm_cut (cs := [[(o9, .inr (6, [u0, u1, .ref ta.1, .ref r9, u4, u5, u6, u7]))], ruW G r9 sa u, gmW G ta h b]) (sub := [gmW G ta h b]) (rest := [[(o9, .inr (6, [u0, u1, .ref ta.1, .ref r9, u4, u5, u6, u7]))], ruW G r9 sa u]) 3 [2] [0, 1] rfl rfl rfl (by decide))
  have hq9 : List.Perm ((gmW G ta (if (zMe h && zLi (nI j)) = true then zEtH h (zLkB b t (nI j)) t P else h) (if (zMe h && zLi (nI j)) = true then zEtB h (zLkB b t (nI j)) t P else b)) ++ ([(o9, .inr (6, [u0, u1, .ref ta.1, .ref r9, u4, u5, u6, u7]))] ++ (ruW G r9 sa u))) ([(o9, .inr (6, [u0, u1, .ref ta.1, .ref r9, u4, u5, u6, u7]))] ++ ((ruW G r9 sa u) ++ (gmW G ta (if (zMe h && zLi (nI j)) = true then zEtH h (zLkB b t (nI j)) t P else h) (if (zMe h && zLi (nI j)) = true then zEtB h (zLkB b t (nI j)) t P else b))) : va_W) := (pm_put (cs := [[(o9, .inr (6, [u0, u1, .ref ta.1, .ref r9, u4, u5, u6, u7]))], ruW G r9 sa u, gmW G ta (if (zMe h && zLi (nI j)) = true then zEtH h (zLkB b t (nI j)) t P else h) (if (zMe h && zLi (nI j)) = true then zEtB h (zLkB b t (nI j)) t P else b)]) (sub := [gmW G ta (if (zMe h && zLi (nI j)) = true then zEtH h (zLkB b t (nI j)) t P else h) (if (zMe h && zLi (nI j)) = true then zEtB h (zLkB b t (nI j)) t P else b)]) (rest := [[(o9, .inr (6, [u0, u1, .ref ta.1, .ref r9, u4, u5, u6, u7]))], ruW G r9 sa u]) 3 [2] [0, 1] rfl rfl rfl (by decide))
  refine z_callV (As := [.int (nI j)]) (rest := []) (wc := gmW G ta h b) (wr := [(o9, .inr (6, [u0, u1, .ref ta.1, .ref r9, u4, u5, u6, u7]))] ++ (ruW G r9 sa u)) (w1 := gmW G ta (if (zMe h && zLi (nI j)) = true then zEtH h (zLkB b t (nI j)) t P else h) (if (zMe h && zLi (nI j)) = true then zEtB h (zLkB b t (nI j)) t P else b)) (ws' := [(o9, .inr (6, [u0, u1, .ref ta.1, .ref r9, u4, u5, u6, u7]))] ++ ((ruW G r9 sa u) ++ (gmW G ta (if (zMe h && zLi (nI j)) = true then zEtH h (zLkB b t (nI j)) t P else h) (if (zMe h && zLi (nI j)) = true then zEtB h (zLkB b t (nI j)) t P else b)))) ⟨hx, hb, hml, hown, hts⟩ (c_tryLock l G ta h b (nI j) P t S hG.1.1 ) (cwV 1 hts gX6_succeeds_X2_tryLock rfl rfl rfl (by decide +kernel) ⟨Nat.le_of_ble_eq_true rfl, Nat.le_of_ble_eq_true rfl⟩) 2 rfl rfl rfl rfl hl.1 rfl (Nat.le_of_ble_eq_true rfl) dX6_succeeds_138 ⟨Nat.le_of_ble_eq_true rfl, Nat.le_of_ble_eq_true rfl⟩ hK hE hA hM hp9 hq9 (fun H locs hM hz => ?_)
  refine z_ifeq (tgt := 148) hx hb dX6_succeeds_141 (by decide) (fun c_g => ?_) (fun c_g => ?_)
  · skip
    refine lv_iconst (v := 0) hx hb dX6_succeeds_148 (by decide) ?_
    exact z_zret hx hb hr hlocks dX6_succeeds_149 hM (Nat.le_of_ble_eq_true rfl) (Nat.le_of_ble_eq_true rfl) (by first | exact Or.inl rfl | exact Or.inr rfl | exact zb_01 _) (by rw [c_g]; rfl)
  · skip
    refine lv_iconst (v := 1) hx hb dX6_succeeds_144 (by decide) ?_
    refine lv_goto (tgt := 149) hx hb dX6_succeeds_145 (by decide) ?_
    exact z_zret hx hb hr hlocks dX6_succeeds_149 hM (Nat.le_of_ble_eq_true rfl) (Nat.le_of_ble_eq_true rfl) (by first | exact Or.inl rfl | exact Or.inr rfl | exact zb_01 _) (by rw [c_g]; rfl)

set_option maxHeartbeats 4000000 in
set_option maxRecDepth 100000 in
theorem c_su4y (l : Launch) (G : zC) (o9 : Nat) (u0 u1 u4 u5 u6 u7 : Value) (r9 : Nat) (sa : zBA) (u : zRU) (ta : zGA) (h : Nat → Int32) (b : Nat → Nat → Int32) (P t S e0 : Nat) (hG : zGs h b P t S e0) (o i j : Nat) (ho9 : o < 10) (hi9 : i < 10) (hj9 : j < 10) (hru : zRu h = true) : zMet l G yX6_succeeds wsX6_succeeds rmX6_succeeds [.ref o9, .int (nI (1000 * 4 + 100 * 0 + 10 * 0 + 0))] ([(o9, .inr (6, [u0, u1, .ref ta.1, .ref r9, u4, u5, u6, u7]))] ++ ((ruW G r9 sa u) ++ (gmW G ta h b))) (some (.int 1)) ([(o9, .inr (6, [u0, u1, .ref ta.1, .ref r9, u4, u5, u6, u7]))] ++ ((ruW G r9 sa (zCs h b S P u.2.2.2.2)) ++ (gmW G ta (zFtH h b P t S u.2.2.2.2) (zFtB h b P t S u.2.2.2.2)))) := by
  refine zMet_of (cc := cX6_succeeds) (maxL := 6) (ret := (some .boolean)) (by decide) rfl (Nat.le_of_ble_eq_true rfl) ?_
  intro p e s m below meth c A ls hx hb hr hml hown hts hK hA hE hlocks hin hM hl
  have hown : s.vm.findClass RX6 = some m.cls := hown
  have hM : zM G A s s.heap [] ([(o9, .inr (6, [u0, u1, .ref ta.1, .ref r9, u4, u5, u6, u7]))] ++ ((ruW G r9 sa u) ++ (gmW G ta h b))) := hM
  have hl : lv_has ls 6 [(0, .ref o9), (1, .int (nI (1000 * 4 + 100 * 0 + 10 * 0 + 0)))] := hl
  have hP4 := hG.1.1.2.1
  have hP := hG.1.1.1
  refine lv_iload_n hx hb dX6_succeeds_0 rfl (lv_at hl 1 rfl) ?_
  refine lv_bipush (v := 100) hx hb dX6_succeeds_1 (by decide) ?_
  refine lv_idiv hx hb dX6_succeeds_3 (by decide) ?_
  refine z_topi (y := nI ((1000 * 4 + 100 * 0 + 10 * 0 + 0) / 100)) (pk_div (a := (1000 * 4 + 100 * 0 + 10 * 0 + 0)) (d := 100) (by omega) (by decide) (by decide)) ?_
  refine lv_bipush (v := 10) hx hb dX6_succeeds_4 (by decide) ?_
  refine lv_irem hx hb dX6_succeeds_6 (by decide) ?_
  refine z_topi (y := nI (((1000 * 4 + 100 * 0 + 10 * 0 + 0) / 100) % 10)) (pk_rem (a := ((1000 * 4 + 100 * 0 + 10 * 0 + 0) / 100)) (d := 10) (by omega) (by decide) (by decide)) ?_
  refine z_topi (y := nI 0) (by rw [show (1000 * 4 + 100 * 0 + 10 * 0 + 0) / 100 % 10 = 0 by omega]) ?_
  refine lv_istore_n (lv' := [(2, .int (nI 0)), (0, .ref o9), (1, .int (nI (1000 * 4 + 100 * 0 + 10 * 0 + 0)))]) hx hb dX6_succeeds_7 rfl hl (by decide) rfl (fun ls hl => ?_)
  refine lv_iload_n hx hb dX6_succeeds_8 rfl (lv_at hl 2 rfl) ?_
  refine lv_bipush (v := 10) hx hb dX6_succeeds_9 (by decide) ?_
  refine lv_idiv hx hb dX6_succeeds_11 (by decide) ?_
  refine z_topi (y := nI ((1000 * 4 + 100 * 0 + 10 * 0 + 0) / 10)) (pk_div (a := (1000 * 4 + 100 * 0 + 10 * 0 + 0)) (d := 10) (by omega) (by decide) (by decide)) ?_
  refine lv_bipush (v := 10) hx hb dX6_succeeds_12 (by decide) ?_
  refine lv_irem hx hb dX6_succeeds_14 (by decide) ?_
  refine z_topi (y := nI (((1000 * 4 + 100 * 0 + 10 * 0 + 0) / 10) % 10)) (pk_rem (a := ((1000 * 4 + 100 * 0 + 10 * 0 + 0) / 10)) (d := 10) (by omega) (by decide) (by decide)) ?_
  refine z_topi (y := nI 0) (by rw [show (1000 * 4 + 100 * 0 + 10 * 0 + 0) / 10 % 10 = 0 by omega]) ?_
  refine lv_istore_n (lv' := [(3, .int (nI 0)), (2, .int (nI 0)), (0, .ref o9), (1, .int (nI (1000 * 4 + 100 * 0 + 10 * 0 + 0)))]) hx hb dX6_succeeds_15 rfl hl (by decide) rfl (fun ls hl => ?_)
  refine lv_iload_n hx hb dX6_succeeds_16 rfl (lv_at hl 3 rfl) ?_
  refine lv_bipush (v := 10) hx hb dX6_succeeds_17 (by decide) ?_
  refine lv_irem hx hb dX6_succeeds_19 (by decide) ?_
  refine z_topi (y := nI ((1000 * 4 + 100 * 0 + 10 * 0 + 0) % 10)) (pk_rem (a := (1000 * 4 + 100 * 0 + 10 * 0 + 0)) (d := 10) (by omega) (by decide) (by decide)) ?_
  refine z_topi (y := nI 0) (by rw [show (1000 * 4 + 100 * 0 + 10 * 0 + 0) % 10 = 0 by omega]) ?_
  refine lv_istore (lv' := [(4, .int (nI 0)), (3, .int (nI 0)), (2, .int (nI 0)), (0, .ref o9), (1, .int (nI (1000 * 4 + 100 * 0 + 10 * 0 + 0)))]) hx hb dX6_succeeds_20 hl (by decide) rfl (fun ls hl => ?_)
  refine lv_iload_n hx hb dX6_succeeds_22 rfl (lv_at hl 2 rfl) ?_
  refine lv_if_ne (tgt := 34) hx hb dX6_succeeds_23 (by decide) (fun c_1 => absurd rfl c_1) (fun c_1 => ?_)
  refine lv_iload_n hx hb dX6_succeeds_26 rfl (lv_at hl 1 rfl) ?_
  refine lv_if_ne (tgt := 34) hx hb dX6_succeeds_27 (by decide) (fun c_2 => absurd rfl c_2) (fun c_2 => ?_)
  refine lv_iconst (v := 1) hx hb dX6_succeeds_30 (by decide) ?_
  refine lv_goto (tgt := 35) hx hb dX6_succeeds_31 (by decide) ?_
  refine lv_istore (lv' := [(5, .int 1), (4, .int (nI 0)), (3, .int (nI 0)), (2, .int (nI 0)), (0, .ref o9), (1, .int (nI (1000 * 4 + 100 * 0 + 10 * 0 + 0)))]) hx hb dX6_succeeds_35 hl (by decide) rfl (fun ls hl => ?_)
  refine lv_iload_n hx hb dX6_succeeds_37 rfl (lv_at hl 5 rfl) ?_
  refine lv_sipush (v := 1000) hx hb dX6_succeeds_38 (by decide) ?_
  refine lv_idiv hx hb dX6_succeeds_41 (by decide) ?_
  refine z_topi (y := nI ((1000 * 4 + 100 * 0 + 10 * 0 + 0) / 1000)) (pk_div (a := (1000 * 4 + 100 * 0 + 10 * 0 + 0)) (d := 1000) (by omega) (by decide) (by decide)) ?_
  refine z_topi (y := 4) (by rw [show (1000 * 4 + 100 * 0 + 10 * 0 + 0) / 1000 = 4 by omega]; rfl) ?_
  refine lv_tableIn (off := 108) (tgt := 150) hx hb dX6_succeeds_42 (by decide) (by decide) rfl (by decide) ?_
  refine lv_iload hx hb dX6_succeeds_150 (lv_at hl 0 rfl) ?_
  refine lv_if_eq (tgt := 179) hx hb dX6_succeeds_152 (by decide) (fun c_3 => absurd c_3 (by decide)) (fun c_3 => ?_)
  refine lv_iload hx hb dX6_succeeds_155 (lv_at hl 1 rfl) ?_
  refine lv_if_ne (tgt := 179) hx hb dX6_succeeds_157 (by decide) (fun c_4 => absurd rfl c_4) (fun c_4 => ?_)
  refine lv_aload_n hx hb dX6_succeeds_160 rfl (lv_at hl 4 rfl) ?_
  refine z_get (ci := 6) (v := .ref r9) (C := RX6) (T := TX6) (N := 8) hx hb hts (by decide +kernel) hown hK hM 0 rfl rfl 3 (by decide) (hts (.fieldLink RX6 29 "ShiftIsles" "rule" "LShiftIsles$Rule;") (by decide +kernel)) (fun _ h9 => h9) rfl dX6_succeeds_161 ?_
  refine lv_aload_n hx hb dX6_succeeds_164 rfl (lv_at hl 4 rfl) ?_
  refine z_get (ci := 6) (v := .ref ta.1) (C := RX6) (T := TX6) (N := 8) hx hb hts (by decide +kernel) hown hK hM 0 rfl rfl 2 (by decide) (hts (.fieldLink RX6 23 "ShiftIsles" "trial" "LShiftIsles$Game;") (by decide +kernel)) (fun _ h9 => h9) rfl dX6_succeeds_165 ?_
  have hp9 : List.Perm ([(o9, .inr (6, [u0, u1, .ref ta.1, .ref r9, u4, u5, u6, u7]))] ++ ((ruW G r9 sa u) ++ (gmW G ta h b)) : va_W) ((ruW G r9 sa u ++ gmW G ta h b) ++ ([(o9, .inr (6, [u0, u1, .ref ta.1, .ref r9, u4, u5, u6, u7]))])) := (pm_cut (cs := [[(o9, .inr (6, [u0, u1, .ref ta.1, .ref r9, u4, u5, u6, u7]))], ruW G r9 sa u, gmW G ta h b]) (sub := [ruW G r9 sa u, gmW G ta h b]) (rest := [[(o9, .inr (6, [u0, u1, .ref ta.1, .ref r9, u4, u5, u6, u7]))]]) 3 [1, 2] [0] rfl rfl rfl (by decide))
  have hq9 : List.Perm ((ruW G r9 sa (zCs h b S P u.2.2.2.2) ++ gmW G ta (zFtH h b P t S u.2.2.2.2) (zFtB h b P t S u.2.2.2.2)) ++ ([(o9, .inr (6, [u0, u1, .ref ta.1, .ref r9, u4, u5, u6, u7]))])) ([(o9, .inr (6, [u0, u1, .ref ta.1, .ref r9, u4, u5, u6, u7]))] ++ ((ruW G r9 sa (zCs h b S P u.2.2.2.2)) ++ (gmW G ta (zFtH h b P t S u.2.2.2.2) (zFtB h b P t S u.2.2.2.2))) : va_W) := (pm_put (cs := [[(o9, .inr (6, [u0, u1, .ref ta.1, .ref r9, u4, u5, u6, u7]))], ruW G r9 sa (zCs h b S P u.2.2.2.2), gmW G ta (zFtH h b P t S u.2.2.2.2) (zFtB h b P t S u.2.2.2.2)]) (sub := [ruW G r9 sa (zCs h b S P u.2.2.2.2), gmW G ta (zFtH h b P t S u.2.2.2.2) (zFtB h b P t S u.2.2.2.2)]) (rest := [[(o9, .inr (6, [u0, u1, .ref ta.1, .ref r9, u4, u5, u6, u7]))]]) 3 [1, 2] [0] rfl rfl rfl (by decide))
  refine z_callV (As := [.ref ta.1]) (rest := []) (wc := ruW G r9 sa u ++ gmW G ta h b) (wr := [(o9, .inr (6, [u0, u1, .ref ta.1, .ref r9, u4, u5, u6, u7]))]) (w1 := ruW G r9 sa (zCs h b S P u.2.2.2.2) ++ gmW G ta (zFtH h b P t S u.2.2.2.2) (zFtB h b P t S u.2.2.2.2)) (ws' := [(o9, .inr (6, [u0, u1, .ref ta.1, .ref r9, u4, u5, u6, u7]))] ++ ((ruW G r9 sa (zCs h b S P u.2.2.2.2)) ++ (gmW G ta (zFtH h b P t S u.2.2.2.2) (zFtB h b P t S u.2.2.2.2)))) ⟨hx, hb, hml, hown, hts⟩ (c_finish1 l G r9 sa u ta h b P t S hG.1.1 hru (hG.1.2.2 t (hG.1.2.1 (zRu_P hG.1.1.1 hG.1.1.2.1 hru)).1).2.1) (cwV 1 hts gX6_succeeds_X4_finishTurn rfl rfl rfl (by decide +kernel) ⟨Nat.le_of_ble_eq_true rfl, Nat.le_of_ble_eq_true rfl⟩) 4 rfl rfl rfl rfl hl.1 rfl (Nat.le_of_ble_eq_true rfl) dX6_succeeds_168 ⟨Nat.le_of_ble_eq_true rfl, Nat.le_of_ble_eq_true rfl⟩ hK hE hA hM hp9 hq9 (fun H locs hM hz => ?_)
  refine lv_iconst (v := (-1)) hx hb dX6_succeeds_171 (by decide) ?_
  refine lv_icmp_eq (tgt := 179) hx hb dX6_succeeds_172 (by decide) (fun c_5 => absurd (by rw [c_5]; decide) (zFtR_ge u.2.2.2.2 hG hru)) (fun c_5 => ?_)
  refine lv_iconst (v := 1) hx hb dX6_succeeds_175 (by decide) ?_
  refine lv_goto (tgt := 180) hx hb dX6_succeeds_176 (by decide) ?_
  exact z_zret hx hb hr hlocks dX6_succeeds_180 hM (Nat.le_of_ble_eq_true rfl) (Nat.le_of_ble_eq_true rfl) (by first | exact Or.inl rfl | exact Or.inr rfl | exact zb_01 _) rfl

set_option maxHeartbeats 4000000 in
set_option maxRecDepth 100000 in
theorem c_su4f (l : Launch) (G : zC) (o9 : Nat) (u0 u1 u4 u5 u6 u7 : Value) (r9 : Nat) (sa : zBA) (u : zRU) (ta : zGA) (h : Nat → Int32) (b : Nat → Nat → Int32) (P t S e0 : Nat) (hG : zGs h b P t S e0) (o i j : Nat) (ho9 : o < 10) (hi9 : i < 10) (hj9 : j < 10) (hru : zRu h = false) : zMet l G yX6_succeeds wsX6_succeeds rmX6_succeeds [.ref o9, .int (nI (1000 * 4 + 100 * 0 + 10 * 0 + 0))] ([(o9, .inr (6, [u0, u1, .ref ta.1, .ref r9, u4, u5, u6, u7]))] ++ ((ruW G r9 sa u) ++ (gmW G ta h b))) (some (.int 0)) ([(o9, .inr (6, [u0, u1, .ref ta.1, .ref r9, u4, u5, u6, u7]))] ++ ((ruW G r9 sa u) ++ (gmW G ta h b))) := by
  refine zMet_of (cc := cX6_succeeds) (maxL := 6) (ret := (some .boolean)) (by decide) rfl (Nat.le_of_ble_eq_true rfl) ?_
  intro p e s m below meth c A ls hx hb hr hml hown hts hK hA hE hlocks hin hM hl
  have hown : s.vm.findClass RX6 = some m.cls := hown
  have hM : zM G A s s.heap [] ([(o9, .inr (6, [u0, u1, .ref ta.1, .ref r9, u4, u5, u6, u7]))] ++ ((ruW G r9 sa u) ++ (gmW G ta h b))) := hM
  have hl : lv_has ls 6 [(0, .ref o9), (1, .int (nI (1000 * 4 + 100 * 0 + 10 * 0 + 0)))] := hl
  have hP4 := hG.1.1.2.1
  have hP := hG.1.1.1
  refine lv_iload_n hx hb dX6_succeeds_0 rfl (lv_at hl 1 rfl) ?_
  refine lv_bipush (v := 100) hx hb dX6_succeeds_1 (by decide) ?_
  refine lv_idiv hx hb dX6_succeeds_3 (by decide) ?_
  refine z_topi (y := nI ((1000 * 4 + 100 * 0 + 10 * 0 + 0) / 100)) (pk_div (a := (1000 * 4 + 100 * 0 + 10 * 0 + 0)) (d := 100) (by omega) (by decide) (by decide)) ?_
  refine lv_bipush (v := 10) hx hb dX6_succeeds_4 (by decide) ?_
  refine lv_irem hx hb dX6_succeeds_6 (by decide) ?_
  refine z_topi (y := nI (((1000 * 4 + 100 * 0 + 10 * 0 + 0) / 100) % 10)) (pk_rem (a := ((1000 * 4 + 100 * 0 + 10 * 0 + 0) / 100)) (d := 10) (by omega) (by decide) (by decide)) ?_
  refine z_topi (y := nI 0) (by rw [show (1000 * 4 + 100 * 0 + 10 * 0 + 0) / 100 % 10 = 0 by omega]) ?_
  refine lv_istore_n (lv' := [(2, .int (nI 0)), (0, .ref o9), (1, .int (nI (1000 * 4 + 100 * 0 + 10 * 0 + 0)))]) hx hb dX6_succeeds_7 rfl hl (by decide) rfl (fun ls hl => ?_)
  refine lv_iload_n hx hb dX6_succeeds_8 rfl (lv_at hl 2 rfl) ?_
  refine lv_bipush (v := 10) hx hb dX6_succeeds_9 (by decide) ?_
  refine lv_idiv hx hb dX6_succeeds_11 (by decide) ?_
  refine z_topi (y := nI ((1000 * 4 + 100 * 0 + 10 * 0 + 0) / 10)) (pk_div (a := (1000 * 4 + 100 * 0 + 10 * 0 + 0)) (d := 10) (by omega) (by decide) (by decide)) ?_
  refine lv_bipush (v := 10) hx hb dX6_succeeds_12 (by decide) ?_
  refine lv_irem hx hb dX6_succeeds_14 (by decide) ?_
  refine z_topi (y := nI (((1000 * 4 + 100 * 0 + 10 * 0 + 0) / 10) % 10)) (pk_rem (a := ((1000 * 4 + 100 * 0 + 10 * 0 + 0) / 10)) (d := 10) (by omega) (by decide) (by decide)) ?_
  refine z_topi (y := nI 0) (by rw [show (1000 * 4 + 100 * 0 + 10 * 0 + 0) / 10 % 10 = 0 by omega]) ?_
  refine lv_istore_n (lv' := [(3, .int (nI 0)), (2, .int (nI 0)), (0, .ref o9), (1, .int (nI (1000 * 4 + 100 * 0 + 10 * 0 + 0)))]) hx hb dX6_succeeds_15 rfl hl (by decide) rfl (fun ls hl => ?_)
  refine lv_iload_n hx hb dX6_succeeds_16 rfl (lv_at hl 3 rfl) ?_
  refine lv_bipush (v := 10) hx hb dX6_succeeds_17 (by decide) ?_
  refine lv_irem hx hb dX6_succeeds_19 (by decide) ?_
  refine z_topi (y := nI ((1000 * 4 + 100 * 0 + 10 * 0 + 0) % 10)) (pk_rem (a := (1000 * 4 + 100 * 0 + 10 * 0 + 0)) (d := 10) (by omega) (by decide) (by decide)) ?_
  refine z_topi (y := nI 0) (by rw [show (1000 * 4 + 100 * 0 + 10 * 0 + 0) % 10 = 0 by omega]) ?_
  refine lv_istore (lv' := [(4, .int (nI 0)), (3, .int (nI 0)), (2, .int (nI 0)), (0, .ref o9), (1, .int (nI (1000 * 4 + 100 * 0 + 10 * 0 + 0)))]) hx hb dX6_succeeds_20 hl (by decide) rfl (fun ls hl => ?_)
  refine lv_iload_n hx hb dX6_succeeds_22 rfl (lv_at hl 2 rfl) ?_
  refine lv_if_ne (tgt := 34) hx hb dX6_succeeds_23 (by decide) (fun c_1 => absurd rfl c_1) (fun c_1 => ?_)
  refine lv_iload_n hx hb dX6_succeeds_26 rfl (lv_at hl 1 rfl) ?_
  refine lv_if_ne (tgt := 34) hx hb dX6_succeeds_27 (by decide) (fun c_2 => absurd rfl c_2) (fun c_2 => ?_)
  refine lv_iconst (v := 1) hx hb dX6_succeeds_30 (by decide) ?_
  refine lv_goto (tgt := 35) hx hb dX6_succeeds_31 (by decide) ?_
  refine lv_istore (lv' := [(5, .int 1), (4, .int (nI 0)), (3, .int (nI 0)), (2, .int (nI 0)), (0, .ref o9), (1, .int (nI (1000 * 4 + 100 * 0 + 10 * 0 + 0)))]) hx hb dX6_succeeds_35 hl (by decide) rfl (fun ls hl => ?_)
  refine lv_iload_n hx hb dX6_succeeds_37 rfl (lv_at hl 5 rfl) ?_
  refine lv_sipush (v := 1000) hx hb dX6_succeeds_38 (by decide) ?_
  refine lv_idiv hx hb dX6_succeeds_41 (by decide) ?_
  refine z_topi (y := nI ((1000 * 4 + 100 * 0 + 10 * 0 + 0) / 1000)) (pk_div (a := (1000 * 4 + 100 * 0 + 10 * 0 + 0)) (d := 1000) (by omega) (by decide) (by decide)) ?_
  refine z_topi (y := 4) (by rw [show (1000 * 4 + 100 * 0 + 10 * 0 + 0) / 1000 = 4 by omega]; rfl) ?_
  refine lv_tableIn (off := 108) (tgt := 150) hx hb dX6_succeeds_42 (by decide) (by decide) rfl (by decide) ?_
  refine lv_iload hx hb dX6_succeeds_150 (lv_at hl 0 rfl) ?_
  refine lv_if_eq (tgt := 179) hx hb dX6_succeeds_152 (by decide) (fun c_3 => absurd c_3 (by decide)) (fun c_3 => ?_)
  refine lv_iload hx hb dX6_succeeds_155 (lv_at hl 1 rfl) ?_
  refine lv_if_ne (tgt := 179) hx hb dX6_succeeds_157 (by decide) (fun c_4 => absurd rfl c_4) (fun c_4 => ?_)
  refine lv_aload_n hx hb dX6_succeeds_160 rfl (lv_at hl 4 rfl) ?_
  refine z_get (ci := 6) (v := .ref r9) (C := RX6) (T := TX6) (N := 8) hx hb hts (by decide +kernel) hown hK hM 0 rfl rfl 3 (by decide) (hts (.fieldLink RX6 29 "ShiftIsles" "rule" "LShiftIsles$Rule;") (by decide +kernel)) (fun _ h9 => h9) rfl dX6_succeeds_161 ?_
  refine lv_aload_n hx hb dX6_succeeds_164 rfl (lv_at hl 4 rfl) ?_
  refine z_get (ci := 6) (v := .ref ta.1) (C := RX6) (T := TX6) (N := 8) hx hb hts (by decide +kernel) hown hK hM 0 rfl rfl 2 (by decide) (hts (.fieldLink RX6 23 "ShiftIsles" "trial" "LShiftIsles$Game;") (by decide +kernel)) (fun _ h9 => h9) rfl dX6_succeeds_165 ?_
  have hp9 : List.Perm ([(o9, .inr (6, [u0, u1, .ref ta.1, .ref r9, u4, u5, u6, u7]))] ++ ((ruW G r9 sa u) ++ (gmW G ta h b)) : va_W) ((ruW G r9 sa u ++ gmW G ta h b) ++ ([(o9, .inr (6, [u0, u1, .ref ta.1, .ref r9, u4, u5, u6, u7]))])) := (pm_cut (cs := [[(o9, .inr (6, [u0, u1, .ref ta.1, .ref r9, u4, u5, u6, u7]))], ruW G r9 sa u, gmW G ta h b]) (sub := [ruW G r9 sa u, gmW G ta h b]) (rest := [[(o9, .inr (6, [u0, u1, .ref ta.1, .ref r9, u4, u5, u6, u7]))]]) 3 [1, 2] [0] rfl rfl rfl (by decide))
  have hq9 : List.Perm ((ruW G r9 sa u ++ gmW G ta h b) ++ ([(o9, .inr (6, [u0, u1, .ref ta.1, .ref r9, u4, u5, u6, u7]))])) ([(o9, .inr (6, [u0, u1, .ref ta.1, .ref r9, u4, u5, u6, u7]))] ++ ((ruW G r9 sa u) ++ (gmW G ta h b)) : va_W) := (pm_put (cs := [[(o9, .inr (6, [u0, u1, .ref ta.1, .ref r9, u4, u5, u6, u7]))], ruW G r9 sa u, gmW G ta h b]) (sub := [ruW G r9 sa u, gmW G ta h b]) (rest := [[(o9, .inr (6, [u0, u1, .ref ta.1, .ref r9, u4, u5, u6, u7]))]]) 3 [1, 2] [0] rfl rfl rfl (by decide))
  refine z_callV (As := [.ref ta.1]) (rest := []) (wc := ruW G r9 sa u ++ gmW G ta h b) (wr := [(o9, .inr (6, [u0, u1, .ref ta.1, .ref r9, u4, u5, u6, u7]))]) (w1 := ruW G r9 sa u ++ gmW G ta h b) (ws' := [(o9, .inr (6, [u0, u1, .ref ta.1, .ref r9, u4, u5, u6, u7]))] ++ ((ruW G r9 sa u) ++ (gmW G ta h b))) ⟨hx, hb, hml, hown, hts⟩ (c_finish0 l G r9 sa u ta h b hru) (cwV 1 hts gX6_succeeds_X4_finishTurn rfl rfl rfl (by decide +kernel) ⟨Nat.le_of_ble_eq_true rfl, Nat.le_of_ble_eq_true rfl⟩) 4 rfl rfl rfl rfl hl.1 rfl (Nat.le_of_ble_eq_true rfl) dX6_succeeds_168 ⟨Nat.le_of_ble_eq_true rfl, Nat.le_of_ble_eq_true rfl⟩ hK hE hA hM hp9 hq9 (fun H locs hM hz => ?_)
  refine lv_iconst (v := (-1)) hx hb dX6_succeeds_171 (by decide) ?_
  refine lv_icmp_eq (tgt := 179) hx hb dX6_succeeds_172 (by decide) (fun c_5 => ?_) (fun c_5 => absurd rfl c_5)
  refine lv_iconst (v := 0) hx hb dX6_succeeds_179 (by decide) ?_
  exact z_zret hx hb hr hlocks dX6_succeeds_180 hM (Nat.le_of_ble_eq_true rfl) (Nat.le_of_ble_eq_true rfl) (by first | exact Or.inl rfl | exact Or.inr rfl | exact zb_01 _) rfl

set_option maxHeartbeats 4000000 in
set_option maxRecDepth 100000 in
theorem c_su4j (l : Launch) (G : zC) (o9 : Nat) (u0 u1 u4 u5 u6 u7 : Value) (r9 : Nat) (sa : zBA) (u : zRU) (ta : zGA) (h : Nat → Int32) (b : Nat → Nat → Int32) (P t S e0 : Nat) (hG : zGs h b P t S e0) (o i j : Nat) (ho9 : o < 10) (hi9 : i < 10) (hj9 : j < 10) (hjn : ¬ j = 0) : zMet l G yX6_succeeds wsX6_succeeds rmX6_succeeds [.ref o9, .int (nI (1000 * 4 + 100 * 0 + 10 * 0 + j))] ([(o9, .inr (6, [u0, u1, .ref ta.1, .ref r9, u4, u5, u6, u7]))] ++ ((ruW G r9 sa u) ++ (gmW G ta h b))) (some (.int 0)) ([(o9, .inr (6, [u0, u1, .ref ta.1, .ref r9, u4, u5, u6, u7]))] ++ ((ruW G r9 sa u) ++ (gmW G ta h b))) := by
  refine zMet_of (cc := cX6_succeeds) (maxL := 6) (ret := (some .boolean)) (by decide) rfl (Nat.le_of_ble_eq_true rfl) ?_
  intro p e s m below meth c A ls hx hb hr hml hown hts hK hA hE hlocks hin hM hl
  have hown : s.vm.findClass RX6 = some m.cls := hown
  have hM : zM G A s s.heap [] ([(o9, .inr (6, [u0, u1, .ref ta.1, .ref r9, u4, u5, u6, u7]))] ++ ((ruW G r9 sa u) ++ (gmW G ta h b))) := hM
  have hl : lv_has ls 6 [(0, .ref o9), (1, .int (nI (1000 * 4 + 100 * 0 + 10 * 0 + j)))] := hl
  have hP4 := hG.1.1.2.1
  have hP := hG.1.1.1
  refine lv_iload_n hx hb dX6_succeeds_0 rfl (lv_at hl 1 rfl) ?_
  refine lv_bipush (v := 100) hx hb dX6_succeeds_1 (by decide) ?_
  refine lv_idiv hx hb dX6_succeeds_3 (by decide) ?_
  refine z_topi (y := nI ((1000 * 4 + 100 * 0 + 10 * 0 + j) / 100)) (pk_div (a := (1000 * 4 + 100 * 0 + 10 * 0 + j)) (d := 100) (by omega) (by decide) (by decide)) ?_
  refine lv_bipush (v := 10) hx hb dX6_succeeds_4 (by decide) ?_
  refine lv_irem hx hb dX6_succeeds_6 (by decide) ?_
  refine z_topi (y := nI (((1000 * 4 + 100 * 0 + 10 * 0 + j) / 100) % 10)) (pk_rem (a := ((1000 * 4 + 100 * 0 + 10 * 0 + j) / 100)) (d := 10) (by omega) (by decide) (by decide)) ?_
  refine z_topi (y := nI 0) (by rw [show (1000 * 4 + 100 * 0 + 10 * 0 + j) / 100 % 10 = 0 by omega]) ?_
  refine lv_istore_n (lv' := [(2, .int (nI 0)), (0, .ref o9), (1, .int (nI (1000 * 4 + 100 * 0 + 10 * 0 + j)))]) hx hb dX6_succeeds_7 rfl hl (by decide) rfl (fun ls hl => ?_)
  refine lv_iload_n hx hb dX6_succeeds_8 rfl (lv_at hl 2 rfl) ?_
  refine lv_bipush (v := 10) hx hb dX6_succeeds_9 (by decide) ?_
  refine lv_idiv hx hb dX6_succeeds_11 (by decide) ?_
  refine z_topi (y := nI ((1000 * 4 + 100 * 0 + 10 * 0 + j) / 10)) (pk_div (a := (1000 * 4 + 100 * 0 + 10 * 0 + j)) (d := 10) (by omega) (by decide) (by decide)) ?_
  refine lv_bipush (v := 10) hx hb dX6_succeeds_12 (by decide) ?_
  refine lv_irem hx hb dX6_succeeds_14 (by decide) ?_
  refine z_topi (y := nI (((1000 * 4 + 100 * 0 + 10 * 0 + j) / 10) % 10)) (pk_rem (a := ((1000 * 4 + 100 * 0 + 10 * 0 + j) / 10)) (d := 10) (by omega) (by decide) (by decide)) ?_
  refine z_topi (y := nI 0) (by rw [show (1000 * 4 + 100 * 0 + 10 * 0 + j) / 10 % 10 = 0 by omega]) ?_
  refine lv_istore_n (lv' := [(3, .int (nI 0)), (2, .int (nI 0)), (0, .ref o9), (1, .int (nI (1000 * 4 + 100 * 0 + 10 * 0 + j)))]) hx hb dX6_succeeds_15 rfl hl (by decide) rfl (fun ls hl => ?_)
  refine lv_iload_n hx hb dX6_succeeds_16 rfl (lv_at hl 3 rfl) ?_
  refine lv_bipush (v := 10) hx hb dX6_succeeds_17 (by decide) ?_
  refine lv_irem hx hb dX6_succeeds_19 (by decide) ?_
  refine z_topi (y := nI ((1000 * 4 + 100 * 0 + 10 * 0 + j) % 10)) (pk_rem (a := (1000 * 4 + 100 * 0 + 10 * 0 + j)) (d := 10) (by omega) (by decide) (by decide)) ?_
  refine z_topi (y := nI j) (by rw [show (1000 * 4 + 100 * 0 + 10 * 0 + j) % 10 = j by omega]) ?_
  refine lv_istore (lv' := [(4, .int (nI j)), (3, .int (nI 0)), (2, .int (nI 0)), (0, .ref o9), (1, .int (nI (1000 * 4 + 100 * 0 + 10 * 0 + j)))]) hx hb dX6_succeeds_20 hl (by decide) rfl (fun ls hl => ?_)
  refine lv_iload_n hx hb dX6_succeeds_22 rfl (lv_at hl 2 rfl) ?_
  refine lv_if_ne (tgt := 34) hx hb dX6_succeeds_23 (by decide) (fun c_1 => absurd rfl c_1) (fun c_1 => ?_)
  refine lv_iload_n hx hb dX6_succeeds_26 rfl (lv_at hl 1 rfl) ?_
  refine lv_if_ne (tgt := 34) hx hb dX6_succeeds_27 (by decide) (fun c_2 => absurd rfl c_2) (fun c_2 => ?_)
  refine lv_iconst (v := 1) hx hb dX6_succeeds_30 (by decide) ?_
  refine lv_goto (tgt := 35) hx hb dX6_succeeds_31 (by decide) ?_
  refine lv_istore (lv' := [(5, .int 1), (4, .int (nI j)), (3, .int (nI 0)), (2, .int (nI 0)), (0, .ref o9), (1, .int (nI (1000 * 4 + 100 * 0 + 10 * 0 + j)))]) hx hb dX6_succeeds_35 hl (by decide) rfl (fun ls hl => ?_)
  refine lv_iload_n hx hb dX6_succeeds_37 rfl (lv_at hl 5 rfl) ?_
  refine lv_sipush (v := 1000) hx hb dX6_succeeds_38 (by decide) ?_
  refine lv_idiv hx hb dX6_succeeds_41 (by decide) ?_
  refine z_topi (y := nI ((1000 * 4 + 100 * 0 + 10 * 0 + j) / 1000)) (pk_div (a := (1000 * 4 + 100 * 0 + 10 * 0 + j)) (d := 1000) (by omega) (by decide) (by decide)) ?_
  refine z_topi (y := 4) (by rw [show (1000 * 4 + 100 * 0 + 10 * 0 + j) / 1000 = 4 by omega]; rfl) ?_
  refine lv_tableIn (off := 108) (tgt := 150) hx hb dX6_succeeds_42 (by decide) (by decide) rfl (by decide) ?_
  refine lv_iload hx hb dX6_succeeds_150 (lv_at hl 0 rfl) ?_
  refine lv_if_eq (tgt := 179) hx hb dX6_succeeds_152 (by decide) (fun c_3 => absurd c_3 (by decide)) (fun c_3 => ?_)
  refine lv_iload hx hb dX6_succeeds_155 (lv_at hl 1 rfl) ?_
  refine lv_if_ne (tgt := 179) hx hb dX6_succeeds_157 (by decide) (fun c_4 => ?_) (fun c_4 => absurd ((nI_eq (a := j) (b := 0) (by omega) (by decide)).mp c_4) hjn)
  refine lv_iconst (v := 0) hx hb dX6_succeeds_179 (by decide) ?_
  exact z_zret hx hb hr hlocks dX6_succeeds_180 hM (Nat.le_of_ble_eq_true rfl) (Nat.le_of_ble_eq_true rfl) (by first | exact Or.inl rfl | exact Or.inr rfl | exact zb_01 _) rfl

set_option maxHeartbeats 4000000 in
set_option maxRecDepth 100000 in
theorem c_su5 (l : Launch) (G : zC) (o9 : Nat) (u0 u1 u4 u5 u6 u7 : Value) (r9 : Nat) (sa : zBA) (u : zRU) (ta : zGA) (h : Nat → Int32) (b : Nat → Nat → Int32) (P t S e0 : Nat) (hG : zGs h b P t S e0) (o i j : Nat) (ho9 : o < 10) (hi9 : i < 10) (hj9 : j < 10) : zMet l G yX6_succeeds wsX6_succeeds rmX6_succeeds [.ref o9, .int (nI (1000 * 5 + 100 * o + 10 * i + 0))] ([(o9, .inr (6, [u0, u1, .ref ta.1, .ref r9, u4, u5, u6, u7]))] ++ ((ruW G r9 sa u) ++ (gmW G ta h b))) (some (.int (zb (zRs h b S o (nI i))))) ([(o9, .inr (6, [u0, u1, .ref ta.1, .ref r9, u4, u5, u6, u7]))] ++ ((ruW G r9 sa u) ++ (gmW G ta h b))) := by
  refine zMet_of (cc := cX6_succeeds) (maxL := 6) (ret := (some .boolean)) (by decide) rfl (Nat.le_of_ble_eq_true rfl) ?_
  intro p e s m below meth c A ls hx hb hr hml hown hts hK hA hE hlocks hin hM hl
  have hown : s.vm.findClass RX6 = some m.cls := hown
  have hM : zM G A s s.heap [] ([(o9, .inr (6, [u0, u1, .ref ta.1, .ref r9, u4, u5, u6, u7]))] ++ ((ruW G r9 sa u) ++ (gmW G ta h b))) := hM
  have hl : lv_has ls 6 [(0, .ref o9), (1, .int (nI (1000 * 5 + 100 * o + 10 * i + 0)))] := hl
  have hP4 := hG.1.1.2.1
  have hP := hG.1.1.1
  refine lv_iload_n hx hb dX6_succeeds_0 rfl (lv_at hl 1 rfl) ?_
  refine lv_bipush (v := 100) hx hb dX6_succeeds_1 (by decide) ?_
  refine lv_idiv hx hb dX6_succeeds_3 (by decide) ?_
  refine z_topi (y := nI ((1000 * 5 + 100 * o + 10 * i + 0) / 100)) (pk_div (a := (1000 * 5 + 100 * o + 10 * i + 0)) (d := 100) (by omega) (by decide) (by decide)) ?_
  refine lv_bipush (v := 10) hx hb dX6_succeeds_4 (by decide) ?_
  refine lv_irem hx hb dX6_succeeds_6 (by decide) ?_
  refine z_topi (y := nI (((1000 * 5 + 100 * o + 10 * i + 0) / 100) % 10)) (pk_rem (a := ((1000 * 5 + 100 * o + 10 * i + 0) / 100)) (d := 10) (by omega) (by decide) (by decide)) ?_
  refine z_topi (y := nI o) (by rw [show (1000 * 5 + 100 * o + 10 * i + 0) / 100 % 10 = o by omega]) ?_
  refine lv_istore_n (lv' := [(2, .int (nI o)), (0, .ref o9), (1, .int (nI (1000 * 5 + 100 * o + 10 * i + 0)))]) hx hb dX6_succeeds_7 rfl hl (by decide) rfl (fun ls hl => ?_)
  refine lv_iload_n hx hb dX6_succeeds_8 rfl (lv_at hl 2 rfl) ?_
  refine lv_bipush (v := 10) hx hb dX6_succeeds_9 (by decide) ?_
  refine lv_idiv hx hb dX6_succeeds_11 (by decide) ?_
  refine z_topi (y := nI ((1000 * 5 + 100 * o + 10 * i + 0) / 10)) (pk_div (a := (1000 * 5 + 100 * o + 10 * i + 0)) (d := 10) (by omega) (by decide) (by decide)) ?_
  refine lv_bipush (v := 10) hx hb dX6_succeeds_12 (by decide) ?_
  refine lv_irem hx hb dX6_succeeds_14 (by decide) ?_
  refine z_topi (y := nI (((1000 * 5 + 100 * o + 10 * i + 0) / 10) % 10)) (pk_rem (a := ((1000 * 5 + 100 * o + 10 * i + 0) / 10)) (d := 10) (by omega) (by decide) (by decide)) ?_
  refine z_topi (y := nI i) (by rw [show (1000 * 5 + 100 * o + 10 * i + 0) / 10 % 10 = i by omega]) ?_
  refine lv_istore_n (lv' := [(3, .int (nI i)), (2, .int (nI o)), (0, .ref o9), (1, .int (nI (1000 * 5 + 100 * o + 10 * i + 0)))]) hx hb dX6_succeeds_15 rfl hl (by decide) rfl (fun ls hl => ?_)
  refine lv_iload_n hx hb dX6_succeeds_16 rfl (lv_at hl 3 rfl) ?_
  refine lv_bipush (v := 10) hx hb dX6_succeeds_17 (by decide) ?_
  refine lv_irem hx hb dX6_succeeds_19 (by decide) ?_
  refine z_topi (y := nI ((1000 * 5 + 100 * o + 10 * i + 0) % 10)) (pk_rem (a := (1000 * 5 + 100 * o + 10 * i + 0)) (d := 10) (by omega) (by decide) (by decide)) ?_
  refine z_topi (y := nI 0) (by rw [show (1000 * 5 + 100 * o + 10 * i + 0) % 10 = 0 by omega]) ?_
  refine lv_istore (lv' := [(4, .int (nI 0)), (3, .int (nI i)), (2, .int (nI o)), (0, .ref o9), (1, .int (nI (1000 * 5 + 100 * o + 10 * i + 0)))]) hx hb dX6_succeeds_20 hl (by decide) rfl (fun ls hl => ?_)
  refine lv_iload_n hx hb dX6_succeeds_22 rfl (lv_at hl 2 rfl) ?_
  refine lv_if_ne (tgt := 34) hx hb dX6_succeeds_23 (by decide) (fun c_z1 => ?_) (fun c_z1 => ?_)
  · skip
    refine lv_iconst (v := 0) hx hb dX6_succeeds_34 (by decide) ?_
    refine lv_istore (lv' := [(5, .int 0), (4, .int (nI 0)), (3, .int (nI i)), (2, .int (nI o)), (0, .ref o9), (1, .int (nI (1000 * 5 + 100 * o + 10 * i + 0)))]) hx hb dX6_succeeds_35 hl (by decide) rfl (fun ls hl => ?_)
    refine lv_iload_n hx hb dX6_succeeds_37 rfl (lv_at hl 5 rfl) ?_
    refine lv_sipush (v := 1000) hx hb dX6_succeeds_38 (by decide) ?_
    refine lv_idiv hx hb dX6_succeeds_41 (by decide) ?_
    refine z_topi (y := nI ((1000 * 5 + 100 * o + 10 * i + 0) / 1000)) (pk_div (a := (1000 * 5 + 100 * o + 10 * i + 0)) (d := 1000) (by omega) (by decide) (by decide)) ?_
    refine z_topi (y := 5) (by rw [show (1000 * 5 + 100 * o + 10 * i + 0) / 1000 = 5 by omega]; rfl) ?_
    refine lv_tableIn (off := 139) (tgt := 181) hx hb dX6_succeeds_42 (by decide) (by decide) rfl (by decide) ?_
    refine lv_iload hx hb dX6_succeeds_181 (lv_at hl 1 rfl) ?_
    refine lv_if_ne (tgt := 202) hx hb dX6_succeeds_183 (by decide) (fun c_1 => absurd rfl c_1) (fun c_1 => ?_)
    refine lv_aload_n hx hb dX6_succeeds_186 rfl (lv_at hl 4 rfl) ?_
    refine z_get (ci := 6) (v := .ref ta.1) (C := RX6) (T := TX6) (N := 8) hx hb hts (by decide +kernel) hown hK hM 0 rfl rfl 2 (by decide) (hts (.fieldLink RX6 23 "ShiftIsles" "trial" "LShiftIsles$Game;") (by decide +kernel)) (fun _ h9 => h9) rfl dX6_succeeds_187 ?_
    refine lv_iload_n hx hb dX6_succeeds_190 rfl (lv_at hl 3 rfl) ?_
    refine lv_iload_n hx hb dX6_succeeds_191 rfl (lv_at hl 2 rfl) ?_
    have hp9 : List.Perm ([(o9, .inr (6, [u0, u1, .ref ta.1, .ref r9, u4, u5, u6, u7]))] ++ ((ruW G r9 sa u) ++ (gmW G ta h b)) : va_W) ((gmW G ta h b) ++ ([(o9, .inr (6, [u0, u1, .ref ta.1, .ref r9, u4, u5, u6, u7]))] ++ (ruW G r9 sa u))) := (pm_cut (cs := [[(o9, .inr (6, [u0, u1, .ref ta.1, .ref r9, u4, u5, u6, u7]))], ruW G r9 sa u, gmW G ta h b]) (sub := [gmW G ta h b]) (rest := [[(o9, .inr (6, [u0, u1, .ref ta.1, .ref r9, u4, u5, u6, u7]))], ruW G r9 sa u]) 3 [2] [0, 1] rfl rfl rfl (by decide))
    have hq9 : List.Perm ((gmW G ta h b) ++ ([(o9, .inr (6, [u0, u1, .ref ta.1, .ref r9, u4, u5, u6, u7]))] ++ (ruW G r9 sa u))) ([(o9, .inr (6, [u0, u1, .ref ta.1, .ref r9, u4, u5, u6, u7]))] ++ ((ruW G r9 sa u) ++ (gmW G ta h b)) : va_W) := (pm_put (cs := [[(o9, .inr (6, [u0, u1, .ref ta.1, .ref r9, u4, u5, u6, u7]))], ruW G r9 sa u, gmW G ta h b]) (sub := [gmW G ta h b]) (rest := [[(o9, .inr (6, [u0, u1, .ref ta.1, .ref r9, u4, u5, u6, u7]))], ruW G r9 sa u]) 3 [2] [0, 1] rfl rfl rfl (by decide))
    refine z_callV (As := [.int (nI o), .int (nI i)]) (rest := []) (wc := gmW G ta h b) (wr := [(o9, .inr (6, [u0, u1, .ref ta.1, .ref r9, u4, u5, u6, u7]))] ++ (ruW G r9 sa u)) (w1 := gmW G ta h b) (ws' := [(o9, .inr (6, [u0, u1, .ref ta.1, .ref r9, u4, u5, u6, u7]))] ++ ((ruW G r9 sa u) ++ (gmW G ta h b))) ⟨hx, hb, hml, hown, hts⟩ (c_reaches l G ta h b o (nI i) (by omega) P t S hG.1.1 ) (cwV 2 hts gX6_succeeds_X2_reaches rfl rfl rfl (by decide +kernel) ⟨Nat.le_of_ble_eq_true rfl, Nat.le_of_ble_eq_true rfl⟩) 2 rfl rfl rfl rfl hl.1 rfl (Nat.le_of_ble_eq_true rfl) dX6_succeeds_192 ⟨Nat.le_of_ble_eq_true rfl, Nat.le_of_ble_eq_true rfl⟩ hK hE hA hM hp9 hq9 (fun H locs hM hz => ?_)
    refine z_ifeq (tgt := 202) hx hb dX6_succeeds_195 (by decide) (fun c_g => ?_) (fun c_g => ?_)
    · skip
      refine lv_iconst (v := 0) hx hb dX6_succeeds_202 (by decide) ?_
      exact z_zret hx hb hr hlocks dX6_succeeds_203 hM (Nat.le_of_ble_eq_true rfl) (Nat.le_of_ble_eq_true rfl) (by first | exact Or.inl rfl | exact Or.inr rfl | exact zb_01 _) (by rw [c_g]; rfl)
    · skip
      refine lv_iconst (v := 1) hx hb dX6_succeeds_198 (by decide) ?_
      refine lv_goto (tgt := 203) hx hb dX6_succeeds_199 (by decide) ?_
      exact z_zret hx hb hr hlocks dX6_succeeds_203 hM (Nat.le_of_ble_eq_true rfl) (Nat.le_of_ble_eq_true rfl) (by first | exact Or.inl rfl | exact Or.inr rfl | exact zb_01 _) (by rw [c_g]; rfl)
  · skip
    refine lv_iload_n hx hb dX6_succeeds_26 rfl (lv_at hl 1 rfl) ?_
    refine lv_if_ne (tgt := 34) hx hb dX6_succeeds_27 (by decide) (fun c_z2 => ?_) (fun c_z2 => ?_)
    · skip
      refine lv_iconst (v := 0) hx hb dX6_succeeds_34 (by decide) ?_
      refine lv_istore (lv' := [(5, .int 0), (4, .int (nI 0)), (3, .int (nI i)), (2, .int (nI o)), (0, .ref o9), (1, .int (nI (1000 * 5 + 100 * o + 10 * i + 0)))]) hx hb dX6_succeeds_35 hl (by decide) rfl (fun ls hl => ?_)
      refine lv_iload_n hx hb dX6_succeeds_37 rfl (lv_at hl 5 rfl) ?_
      refine lv_sipush (v := 1000) hx hb dX6_succeeds_38 (by decide) ?_
      refine lv_idiv hx hb dX6_succeeds_41 (by decide) ?_
      refine z_topi (y := nI ((1000 * 5 + 100 * o + 10 * i + 0) / 1000)) (pk_div (a := (1000 * 5 + 100 * o + 10 * i + 0)) (d := 1000) (by omega) (by decide) (by decide)) ?_
      refine z_topi (y := 5) (by rw [show (1000 * 5 + 100 * o + 10 * i + 0) / 1000 = 5 by omega]; rfl) ?_
      refine lv_tableIn (off := 139) (tgt := 181) hx hb dX6_succeeds_42 (by decide) (by decide) rfl (by decide) ?_
      refine lv_iload hx hb dX6_succeeds_181 (lv_at hl 1 rfl) ?_
      refine lv_if_ne (tgt := 202) hx hb dX6_succeeds_183 (by decide) (fun c_2 => absurd rfl c_2) (fun c_2 => ?_)
      refine lv_aload_n hx hb dX6_succeeds_186 rfl (lv_at hl 4 rfl) ?_
      refine z_get (ci := 6) (v := .ref ta.1) (C := RX6) (T := TX6) (N := 8) hx hb hts (by decide +kernel) hown hK hM 0 rfl rfl 2 (by decide) (hts (.fieldLink RX6 23 "ShiftIsles" "trial" "LShiftIsles$Game;") (by decide +kernel)) (fun _ h9 => h9) rfl dX6_succeeds_187 ?_
      refine lv_iload_n hx hb dX6_succeeds_190 rfl (lv_at hl 3 rfl) ?_
      refine lv_iload_n hx hb dX6_succeeds_191 rfl (lv_at hl 2 rfl) ?_
      have hp9 : List.Perm ([(o9, .inr (6, [u0, u1, .ref ta.1, .ref r9, u4, u5, u6, u7]))] ++ ((ruW G r9 sa u) ++ (gmW G ta h b)) : va_W) ((gmW G ta h b) ++ ([(o9, .inr (6, [u0, u1, .ref ta.1, .ref r9, u4, u5, u6, u7]))] ++ (ruW G r9 sa u))) := (pm_cut (cs := [[(o9, .inr (6, [u0, u1, .ref ta.1, .ref r9, u4, u5, u6, u7]))], ruW G r9 sa u, gmW G ta h b]) (sub := [gmW G ta h b]) (rest := [[(o9, .inr (6, [u0, u1, .ref ta.1, .ref r9, u4, u5, u6, u7]))], ruW G r9 sa u]) 3 [2] [0, 1] rfl rfl rfl (by decide))
      have hq9 : List.Perm ((gmW G ta h b) ++ ([(o9, .inr (6, [u0, u1, .ref ta.1, .ref r9, u4, u5, u6, u7]))] ++ (ruW G r9 sa u))) ([(o9, .inr (6, [u0, u1, .ref ta.1, .ref r9, u4, u5, u6, u7]))] ++ ((ruW G r9 sa u) ++ (gmW G ta h b)) : va_W) := (pm_put (cs := [[(o9, .inr (6, [u0, u1, .ref ta.1, .ref r9, u4, u5, u6, u7]))], ruW G r9 sa u, gmW G ta h b]) (sub := [gmW G ta h b]) (rest := [[(o9, .inr (6, [u0, u1, .ref ta.1, .ref r9, u4, u5, u6, u7]))], ruW G r9 sa u]) 3 [2] [0, 1] rfl rfl rfl (by decide))
      refine z_callV (As := [.int (nI o), .int (nI i)]) (rest := []) (wc := gmW G ta h b) (wr := [(o9, .inr (6, [u0, u1, .ref ta.1, .ref r9, u4, u5, u6, u7]))] ++ (ruW G r9 sa u)) (w1 := gmW G ta h b) (ws' := [(o9, .inr (6, [u0, u1, .ref ta.1, .ref r9, u4, u5, u6, u7]))] ++ ((ruW G r9 sa u) ++ (gmW G ta h b))) ⟨hx, hb, hml, hown, hts⟩ (c_reaches l G ta h b o (nI i) (by omega) P t S hG.1.1 ) (cwV 2 hts gX6_succeeds_X2_reaches rfl rfl rfl (by decide +kernel) ⟨Nat.le_of_ble_eq_true rfl, Nat.le_of_ble_eq_true rfl⟩) 2 rfl rfl rfl rfl hl.1 rfl (Nat.le_of_ble_eq_true rfl) dX6_succeeds_192 ⟨Nat.le_of_ble_eq_true rfl, Nat.le_of_ble_eq_true rfl⟩ hK hE hA hM hp9 hq9 (fun H locs hM hz => ?_)
      refine z_ifeq (tgt := 202) hx hb dX6_succeeds_195 (by decide) (fun c_g => ?_) (fun c_g => ?_)
      · skip
        refine lv_iconst (v := 0) hx hb dX6_succeeds_202 (by decide) ?_
        exact z_zret hx hb hr hlocks dX6_succeeds_203 hM (Nat.le_of_ble_eq_true rfl) (Nat.le_of_ble_eq_true rfl) (by first | exact Or.inl rfl | exact Or.inr rfl | exact zb_01 _) (by rw [c_g]; rfl)
      · skip
        refine lv_iconst (v := 1) hx hb dX6_succeeds_198 (by decide) ?_
        refine lv_goto (tgt := 203) hx hb dX6_succeeds_199 (by decide) ?_
        exact z_zret hx hb hr hlocks dX6_succeeds_203 hM (Nat.le_of_ble_eq_true rfl) (Nat.le_of_ble_eq_true rfl) (by first | exact Or.inl rfl | exact Or.inr rfl | exact zb_01 _) (by rw [c_g]; rfl)
    · skip
      refine lv_iconst (v := 1) hx hb dX6_succeeds_30 (by decide) ?_
      refine lv_goto (tgt := 35) hx hb dX6_succeeds_31 (by decide) ?_
      refine lv_istore (lv' := [(5, .int 1), (4, .int (nI 0)), (3, .int (nI i)), (2, .int (nI o)), (0, .ref o9), (1, .int (nI (1000 * 5 + 100 * o + 10 * i + 0)))]) hx hb dX6_succeeds_35 hl (by decide) rfl (fun ls hl => ?_)
      refine lv_iload_n hx hb dX6_succeeds_37 rfl (lv_at hl 5 rfl) ?_
      refine lv_sipush (v := 1000) hx hb dX6_succeeds_38 (by decide) ?_
      refine lv_idiv hx hb dX6_succeeds_41 (by decide) ?_
      refine z_topi (y := nI ((1000 * 5 + 100 * o + 10 * i + 0) / 1000)) (pk_div (a := (1000 * 5 + 100 * o + 10 * i + 0)) (d := 1000) (by omega) (by decide) (by decide)) ?_
      refine z_topi (y := 5) (by rw [show (1000 * 5 + 100 * o + 10 * i + 0) / 1000 = 5 by omega]; rfl) ?_
      refine lv_tableIn (off := 139) (tgt := 181) hx hb dX6_succeeds_42 (by decide) (by decide) rfl (by decide) ?_
      refine lv_iload hx hb dX6_succeeds_181 (lv_at hl 1 rfl) ?_
      refine lv_if_ne (tgt := 202) hx hb dX6_succeeds_183 (by decide) (fun c_3 => absurd rfl c_3) (fun c_3 => ?_)
      refine lv_aload_n hx hb dX6_succeeds_186 rfl (lv_at hl 4 rfl) ?_
      refine z_get (ci := 6) (v := .ref ta.1) (C := RX6) (T := TX6) (N := 8) hx hb hts (by decide +kernel) hown hK hM 0 rfl rfl 2 (by decide) (hts (.fieldLink RX6 23 "ShiftIsles" "trial" "LShiftIsles$Game;") (by decide +kernel)) (fun _ h9 => h9) rfl dX6_succeeds_187 ?_
      refine lv_iload_n hx hb dX6_succeeds_190 rfl (lv_at hl 3 rfl) ?_
      refine lv_iload_n hx hb dX6_succeeds_191 rfl (lv_at hl 2 rfl) ?_
      have hp9 : List.Perm ([(o9, .inr (6, [u0, u1, .ref ta.1, .ref r9, u4, u5, u6, u7]))] ++ ((ruW G r9 sa u) ++ (gmW G ta h b)) : va_W) ((gmW G ta h b) ++ ([(o9, .inr (6, [u0, u1, .ref ta.1, .ref r9, u4, u5, u6, u7]))] ++ (ruW G r9 sa u))) := (pm_cut (cs := [[(o9, .inr (6, [u0, u1, .ref ta.1, .ref r9, u4, u5, u6, u7]))], ruW G r9 sa u, gmW G ta h b]) (sub := [gmW G ta h b]) (rest := [[(o9, .inr (6, [u0, u1, .ref ta.1, .ref r9, u4, u5, u6, u7]))], ruW G r9 sa u]) 3 [2] [0, 1] rfl rfl rfl (by decide))
      have hq9 : List.Perm ((gmW G ta h b) ++ ([(o9, .inr (6, [u0, u1, .ref ta.1, .ref r9, u4, u5, u6, u7]))] ++ (ruW G r9 sa u))) ([(o9, .inr (6, [u0, u1, .ref ta.1, .ref r9, u4, u5, u6, u7]))] ++ ((ruW G r9 sa u) ++ (gmW G ta h b)) : va_W) := (pm_put (cs := [[(o9, .inr (6, [u0, u1, .ref ta.1, .ref r9, u4, u5, u6, u7]))], ruW G r9 sa u, gmW G ta h b]) (sub := [gmW G ta h b]) (rest := [[(o9, .inr (6, [u0, u1, .ref ta.1, .ref r9, u4, u5, u6, u7]))], ruW G r9 sa u]) 3 [2] [0, 1] rfl rfl rfl (by decide))
      refine z_callV (As := [.int (nI o), .int (nI i)]) (rest := []) (wc := gmW G ta h b) (wr := [(o9, .inr (6, [u0, u1, .ref ta.1, .ref r9, u4, u5, u6, u7]))] ++ (ruW G r9 sa u)) (w1 := gmW G ta h b) (ws' := [(o9, .inr (6, [u0, u1, .ref ta.1, .ref r9, u4, u5, u6, u7]))] ++ ((ruW G r9 sa u) ++ (gmW G ta h b))) ⟨hx, hb, hml, hown, hts⟩ (c_reaches l G ta h b o (nI i) (by omega) P t S hG.1.1 ) (cwV 2 hts gX6_succeeds_X2_reaches rfl rfl rfl (by decide +kernel) ⟨Nat.le_of_ble_eq_true rfl, Nat.le_of_ble_eq_true rfl⟩) 2 rfl rfl rfl rfl hl.1 rfl (Nat.le_of_ble_eq_true rfl) dX6_succeeds_192 ⟨Nat.le_of_ble_eq_true rfl, Nat.le_of_ble_eq_true rfl⟩ hK hE hA hM hp9 hq9 (fun H locs hM hz => ?_)
      refine z_ifeq (tgt := 202) hx hb dX6_succeeds_195 (by decide) (fun c_g => ?_) (fun c_g => ?_)
      · skip
        refine lv_iconst (v := 0) hx hb dX6_succeeds_202 (by decide) ?_
        exact z_zret hx hb hr hlocks dX6_succeeds_203 hM (Nat.le_of_ble_eq_true rfl) (Nat.le_of_ble_eq_true rfl) (by first | exact Or.inl rfl | exact Or.inr rfl | exact zb_01 _) (by rw [c_g]; rfl)
      · skip
        refine lv_iconst (v := 1) hx hb dX6_succeeds_198 (by decide) ?_
        refine lv_goto (tgt := 203) hx hb dX6_succeeds_199 (by decide) ?_
        exact z_zret hx hb hr hlocks dX6_succeeds_203 hM (Nat.le_of_ble_eq_true rfl) (Nat.le_of_ble_eq_true rfl) (by first | exact Or.inl rfl | exact Or.inr rfl | exact zb_01 _) (by rw [c_g]; rfl)

set_option maxHeartbeats 4000000 in
set_option maxRecDepth 100000 in
theorem c_su5j (l : Launch) (G : zC) (o9 : Nat) (u0 u1 u4 u5 u6 u7 : Value) (r9 : Nat) (sa : zBA) (u : zRU) (ta : zGA) (h : Nat → Int32) (b : Nat → Nat → Int32) (P t S e0 : Nat) (hG : zGs h b P t S e0) (o i j : Nat) (ho9 : o < 10) (hi9 : i < 10) (hj9 : j < 10) (hjn : ¬ j = 0) : zMet l G yX6_succeeds wsX6_succeeds rmX6_succeeds [.ref o9, .int (nI (1000 * 5 + 100 * o + 10 * i + j))] ([(o9, .inr (6, [u0, u1, .ref ta.1, .ref r9, u4, u5, u6, u7]))] ++ ((ruW G r9 sa u) ++ (gmW G ta h b))) (some (.int 0)) ([(o9, .inr (6, [u0, u1, .ref ta.1, .ref r9, u4, u5, u6, u7]))] ++ ((ruW G r9 sa u) ++ (gmW G ta h b))) := by
  refine zMet_of (cc := cX6_succeeds) (maxL := 6) (ret := (some .boolean)) (by decide) rfl (Nat.le_of_ble_eq_true rfl) ?_
  intro p e s m below meth c A ls hx hb hr hml hown hts hK hA hE hlocks hin hM hl
  have hown : s.vm.findClass RX6 = some m.cls := hown
  have hM : zM G A s s.heap [] ([(o9, .inr (6, [u0, u1, .ref ta.1, .ref r9, u4, u5, u6, u7]))] ++ ((ruW G r9 sa u) ++ (gmW G ta h b))) := hM
  have hl : lv_has ls 6 [(0, .ref o9), (1, .int (nI (1000 * 5 + 100 * o + 10 * i + j)))] := hl
  have hP4 := hG.1.1.2.1
  have hP := hG.1.1.1
  refine lv_iload_n hx hb dX6_succeeds_0 rfl (lv_at hl 1 rfl) ?_
  refine lv_bipush (v := 100) hx hb dX6_succeeds_1 (by decide) ?_
  refine lv_idiv hx hb dX6_succeeds_3 (by decide) ?_
  refine z_topi (y := nI ((1000 * 5 + 100 * o + 10 * i + j) / 100)) (pk_div (a := (1000 * 5 + 100 * o + 10 * i + j)) (d := 100) (by omega) (by decide) (by decide)) ?_
  refine lv_bipush (v := 10) hx hb dX6_succeeds_4 (by decide) ?_
  refine lv_irem hx hb dX6_succeeds_6 (by decide) ?_
  refine z_topi (y := nI (((1000 * 5 + 100 * o + 10 * i + j) / 100) % 10)) (pk_rem (a := ((1000 * 5 + 100 * o + 10 * i + j) / 100)) (d := 10) (by omega) (by decide) (by decide)) ?_
  refine z_topi (y := nI o) (by rw [show (1000 * 5 + 100 * o + 10 * i + j) / 100 % 10 = o by omega]) ?_
  refine lv_istore_n (lv' := [(2, .int (nI o)), (0, .ref o9), (1, .int (nI (1000 * 5 + 100 * o + 10 * i + j)))]) hx hb dX6_succeeds_7 rfl hl (by decide) rfl (fun ls hl => ?_)
  refine lv_iload_n hx hb dX6_succeeds_8 rfl (lv_at hl 2 rfl) ?_
  refine lv_bipush (v := 10) hx hb dX6_succeeds_9 (by decide) ?_
  refine lv_idiv hx hb dX6_succeeds_11 (by decide) ?_
  refine z_topi (y := nI ((1000 * 5 + 100 * o + 10 * i + j) / 10)) (pk_div (a := (1000 * 5 + 100 * o + 10 * i + j)) (d := 10) (by omega) (by decide) (by decide)) ?_
  refine lv_bipush (v := 10) hx hb dX6_succeeds_12 (by decide) ?_
  refine lv_irem hx hb dX6_succeeds_14 (by decide) ?_
  refine z_topi (y := nI (((1000 * 5 + 100 * o + 10 * i + j) / 10) % 10)) (pk_rem (a := ((1000 * 5 + 100 * o + 10 * i + j) / 10)) (d := 10) (by omega) (by decide) (by decide)) ?_
  refine z_topi (y := nI i) (by rw [show (1000 * 5 + 100 * o + 10 * i + j) / 10 % 10 = i by omega]) ?_
  refine lv_istore_n (lv' := [(3, .int (nI i)), (2, .int (nI o)), (0, .ref o9), (1, .int (nI (1000 * 5 + 100 * o + 10 * i + j)))]) hx hb dX6_succeeds_15 rfl hl (by decide) rfl (fun ls hl => ?_)
  refine lv_iload_n hx hb dX6_succeeds_16 rfl (lv_at hl 3 rfl) ?_
  refine lv_bipush (v := 10) hx hb dX6_succeeds_17 (by decide) ?_
  refine lv_irem hx hb dX6_succeeds_19 (by decide) ?_
  refine z_topi (y := nI ((1000 * 5 + 100 * o + 10 * i + j) % 10)) (pk_rem (a := (1000 * 5 + 100 * o + 10 * i + j)) (d := 10) (by omega) (by decide) (by decide)) ?_
  refine z_topi (y := nI j) (by rw [show (1000 * 5 + 100 * o + 10 * i + j) % 10 = j by omega]) ?_
  refine lv_istore (lv' := [(4, .int (nI j)), (3, .int (nI i)), (2, .int (nI o)), (0, .ref o9), (1, .int (nI (1000 * 5 + 100 * o + 10 * i + j)))]) hx hb dX6_succeeds_20 hl (by decide) rfl (fun ls hl => ?_)
  refine lv_iload_n hx hb dX6_succeeds_22 rfl (lv_at hl 2 rfl) ?_
  refine lv_if_ne (tgt := 34) hx hb dX6_succeeds_23 (by decide) (fun c_z1 => ?_) (fun c_z1 => ?_)
  · skip
    refine lv_iconst (v := 0) hx hb dX6_succeeds_34 (by decide) ?_
    refine lv_istore (lv' := [(5, .int 0), (4, .int (nI j)), (3, .int (nI i)), (2, .int (nI o)), (0, .ref o9), (1, .int (nI (1000 * 5 + 100 * o + 10 * i + j)))]) hx hb dX6_succeeds_35 hl (by decide) rfl (fun ls hl => ?_)
    refine lv_iload_n hx hb dX6_succeeds_37 rfl (lv_at hl 5 rfl) ?_
    refine lv_sipush (v := 1000) hx hb dX6_succeeds_38 (by decide) ?_
    refine lv_idiv hx hb dX6_succeeds_41 (by decide) ?_
    refine z_topi (y := nI ((1000 * 5 + 100 * o + 10 * i + j) / 1000)) (pk_div (a := (1000 * 5 + 100 * o + 10 * i + j)) (d := 1000) (by omega) (by decide) (by decide)) ?_
    refine z_topi (y := 5) (by rw [show (1000 * 5 + 100 * o + 10 * i + j) / 1000 = 5 by omega]; rfl) ?_
    refine lv_tableIn (off := 139) (tgt := 181) hx hb dX6_succeeds_42 (by decide) (by decide) rfl (by decide) ?_
    refine lv_iload hx hb dX6_succeeds_181 (lv_at hl 1 rfl) ?_
    refine lv_if_ne (tgt := 202) hx hb dX6_succeeds_183 (by decide) (fun c_1 => ?_) (fun c_1 => absurd ((nI_eq (a := j) (b := 0) (by omega) (by decide)).mp c_1) hjn)
    refine lv_iconst (v := 0) hx hb dX6_succeeds_202 (by decide) ?_
    exact z_zret hx hb hr hlocks dX6_succeeds_203 hM (Nat.le_of_ble_eq_true rfl) (Nat.le_of_ble_eq_true rfl) (by first | exact Or.inl rfl | exact Or.inr rfl | exact zb_01 _) rfl
  · skip
    refine lv_iload_n hx hb dX6_succeeds_26 rfl (lv_at hl 1 rfl) ?_
    refine lv_if_ne (tgt := 34) hx hb dX6_succeeds_27 (by decide) (fun c_z2 => ?_) (fun c_z2 => ?_)
    · skip
      refine lv_iconst (v := 0) hx hb dX6_succeeds_34 (by decide) ?_
      refine lv_istore (lv' := [(5, .int 0), (4, .int (nI j)), (3, .int (nI i)), (2, .int (nI o)), (0, .ref o9), (1, .int (nI (1000 * 5 + 100 * o + 10 * i + j)))]) hx hb dX6_succeeds_35 hl (by decide) rfl (fun ls hl => ?_)
      refine lv_iload_n hx hb dX6_succeeds_37 rfl (lv_at hl 5 rfl) ?_
      refine lv_sipush (v := 1000) hx hb dX6_succeeds_38 (by decide) ?_
      refine lv_idiv hx hb dX6_succeeds_41 (by decide) ?_
      refine z_topi (y := nI ((1000 * 5 + 100 * o + 10 * i + j) / 1000)) (pk_div (a := (1000 * 5 + 100 * o + 10 * i + j)) (d := 1000) (by omega) (by decide) (by decide)) ?_
      refine z_topi (y := 5) (by rw [show (1000 * 5 + 100 * o + 10 * i + j) / 1000 = 5 by omega]; rfl) ?_
      refine lv_tableIn (off := 139) (tgt := 181) hx hb dX6_succeeds_42 (by decide) (by decide) rfl (by decide) ?_
      refine lv_iload hx hb dX6_succeeds_181 (lv_at hl 1 rfl) ?_
      refine lv_if_ne (tgt := 202) hx hb dX6_succeeds_183 (by decide) (fun c_2 => ?_) (fun c_2 => absurd ((nI_eq (a := j) (b := 0) (by omega) (by decide)).mp c_2) hjn)
      refine lv_iconst (v := 0) hx hb dX6_succeeds_202 (by decide) ?_
      exact z_zret hx hb hr hlocks dX6_succeeds_203 hM (Nat.le_of_ble_eq_true rfl) (Nat.le_of_ble_eq_true rfl) (by first | exact Or.inl rfl | exact Or.inr rfl | exact zb_01 _) rfl
    · skip
      refine lv_iconst (v := 1) hx hb dX6_succeeds_30 (by decide) ?_
      refine lv_goto (tgt := 35) hx hb dX6_succeeds_31 (by decide) ?_
      refine lv_istore (lv' := [(5, .int 1), (4, .int (nI j)), (3, .int (nI i)), (2, .int (nI o)), (0, .ref o9), (1, .int (nI (1000 * 5 + 100 * o + 10 * i + j)))]) hx hb dX6_succeeds_35 hl (by decide) rfl (fun ls hl => ?_)
      refine lv_iload_n hx hb dX6_succeeds_37 rfl (lv_at hl 5 rfl) ?_
      refine lv_sipush (v := 1000) hx hb dX6_succeeds_38 (by decide) ?_
      refine lv_idiv hx hb dX6_succeeds_41 (by decide) ?_
      refine z_topi (y := nI ((1000 * 5 + 100 * o + 10 * i + j) / 1000)) (pk_div (a := (1000 * 5 + 100 * o + 10 * i + j)) (d := 1000) (by omega) (by decide) (by decide)) ?_
      refine z_topi (y := 5) (by rw [show (1000 * 5 + 100 * o + 10 * i + j) / 1000 = 5 by omega]; rfl) ?_
      refine lv_tableIn (off := 139) (tgt := 181) hx hb dX6_succeeds_42 (by decide) (by decide) rfl (by decide) ?_
      refine lv_iload hx hb dX6_succeeds_181 (lv_at hl 1 rfl) ?_
      refine lv_if_ne (tgt := 202) hx hb dX6_succeeds_183 (by decide) (fun c_3 => ?_) (fun c_3 => absurd ((nI_eq (a := j) (b := 0) (by omega) (by decide)).mp c_3) hjn)
      refine lv_iconst (v := 0) hx hb dX6_succeeds_202 (by decide) ?_
      exact z_zret hx hb hr hlocks dX6_succeeds_203 hM (Nat.le_of_ble_eq_true rfl) (Nat.le_of_ble_eq_true rfl) (by first | exact Or.inl rfl | exact Or.inr rfl | exact zb_01 _) rfl

set_option maxHeartbeats 4000000 in
set_option maxRecDepth 100000 in
theorem c_su6p (l : Launch) (G : zC) (o9 : Nat) (u0 u1 u4 u5 u6 u7 : Value) (r9 : Nat) (sa : zBA) (u : zRU) (ta : zGA) (h : Nat → Int32) (b : Nat → Nat → Int32) (P t S e0 : Nat) (hG : zGs h b P t S e0) (o i j : Nat) (ho9 : o < 10) (hi9 : i < 10) (hj9 : j < 10) (hpq : zHp h (nI o) = false) : zMet l G yX6_succeeds wsX6_succeeds rmX6_succeeds [.ref o9, .int (nI (1000 * 6 + 100 * o + 10 * i + j))] ([(o9, .inr (6, [u0, u1, .ref ta.1, .ref r9, u4, u5, u6, u7]))] ++ ((ruW G r9 sa u) ++ (gmW G ta h b))) (some (.int 0)) ([(o9, .inr (6, [u0, u1, .ref ta.1, .ref r9, u4, u5, u6, u7]))] ++ ((ruW G r9 sa u) ++ (gmW G ta h b))) := by
  refine zMet_of (cc := cX6_succeeds) (maxL := 6) (ret := (some .boolean)) (by decide) rfl (Nat.le_of_ble_eq_true rfl) ?_
  intro p e s m below meth c A ls hx hb hr hml hown hts hK hA hE hlocks hin hM hl
  have hown : s.vm.findClass RX6 = some m.cls := hown
  have hM : zM G A s s.heap [] ([(o9, .inr (6, [u0, u1, .ref ta.1, .ref r9, u4, u5, u6, u7]))] ++ ((ruW G r9 sa u) ++ (gmW G ta h b))) := hM
  have hl : lv_has ls 6 [(0, .ref o9), (1, .int (nI (1000 * 6 + 100 * o + 10 * i + j)))] := hl
  have hP4 := hG.1.1.2.1
  have hP := hG.1.1.1
  refine lv_iload_n hx hb dX6_succeeds_0 rfl (lv_at hl 1 rfl) ?_
  refine lv_bipush (v := 100) hx hb dX6_succeeds_1 (by decide) ?_
  refine lv_idiv hx hb dX6_succeeds_3 (by decide) ?_
  refine z_topi (y := nI ((1000 * 6 + 100 * o + 10 * i + j) / 100)) (pk_div (a := (1000 * 6 + 100 * o + 10 * i + j)) (d := 100) (by omega) (by decide) (by decide)) ?_
  refine lv_bipush (v := 10) hx hb dX6_succeeds_4 (by decide) ?_
  refine lv_irem hx hb dX6_succeeds_6 (by decide) ?_
  refine z_topi (y := nI (((1000 * 6 + 100 * o + 10 * i + j) / 100) % 10)) (pk_rem (a := ((1000 * 6 + 100 * o + 10 * i + j) / 100)) (d := 10) (by omega) (by decide) (by decide)) ?_
  refine z_topi (y := nI o) (by rw [show (1000 * 6 + 100 * o + 10 * i + j) / 100 % 10 = o by omega]) ?_
  refine lv_istore_n (lv' := [(2, .int (nI o)), (0, .ref o9), (1, .int (nI (1000 * 6 + 100 * o + 10 * i + j)))]) hx hb dX6_succeeds_7 rfl hl (by decide) rfl (fun ls hl => ?_)
  refine lv_iload_n hx hb dX6_succeeds_8 rfl (lv_at hl 2 rfl) ?_
  refine lv_bipush (v := 10) hx hb dX6_succeeds_9 (by decide) ?_
  refine lv_idiv hx hb dX6_succeeds_11 (by decide) ?_
  refine z_topi (y := nI ((1000 * 6 + 100 * o + 10 * i + j) / 10)) (pk_div (a := (1000 * 6 + 100 * o + 10 * i + j)) (d := 10) (by omega) (by decide) (by decide)) ?_
  refine lv_bipush (v := 10) hx hb dX6_succeeds_12 (by decide) ?_
  refine lv_irem hx hb dX6_succeeds_14 (by decide) ?_
  refine z_topi (y := nI (((1000 * 6 + 100 * o + 10 * i + j) / 10) % 10)) (pk_rem (a := ((1000 * 6 + 100 * o + 10 * i + j) / 10)) (d := 10) (by omega) (by decide) (by decide)) ?_
  refine z_topi (y := nI i) (by rw [show (1000 * 6 + 100 * o + 10 * i + j) / 10 % 10 = i by omega]) ?_
  refine lv_istore_n (lv' := [(3, .int (nI i)), (2, .int (nI o)), (0, .ref o9), (1, .int (nI (1000 * 6 + 100 * o + 10 * i + j)))]) hx hb dX6_succeeds_15 rfl hl (by decide) rfl (fun ls hl => ?_)
  refine lv_iload_n hx hb dX6_succeeds_16 rfl (lv_at hl 3 rfl) ?_
  refine lv_bipush (v := 10) hx hb dX6_succeeds_17 (by decide) ?_
  refine lv_irem hx hb dX6_succeeds_19 (by decide) ?_
  refine z_topi (y := nI ((1000 * 6 + 100 * o + 10 * i + j) % 10)) (pk_rem (a := (1000 * 6 + 100 * o + 10 * i + j)) (d := 10) (by omega) (by decide) (by decide)) ?_
  refine z_topi (y := nI j) (by rw [show (1000 * 6 + 100 * o + 10 * i + j) % 10 = j by omega]) ?_
  refine lv_istore (lv' := [(4, .int (nI j)), (3, .int (nI i)), (2, .int (nI o)), (0, .ref o9), (1, .int (nI (1000 * 6 + 100 * o + 10 * i + j)))]) hx hb dX6_succeeds_20 hl (by decide) rfl (fun ls hl => ?_)
  refine lv_iload_n hx hb dX6_succeeds_22 rfl (lv_at hl 2 rfl) ?_
  refine lv_if_ne (tgt := 34) hx hb dX6_succeeds_23 (by decide) (fun c_z1 => ?_) (fun c_z1 => ?_)
  · skip
    refine lv_iconst (v := 0) hx hb dX6_succeeds_34 (by decide) ?_
    refine lv_istore (lv' := [(5, .int 0), (4, .int (nI j)), (3, .int (nI i)), (2, .int (nI o)), (0, .ref o9), (1, .int (nI (1000 * 6 + 100 * o + 10 * i + j)))]) hx hb dX6_succeeds_35 hl (by decide) rfl (fun ls hl => ?_)
    refine lv_iload_n hx hb dX6_succeeds_37 rfl (lv_at hl 5 rfl) ?_
    refine lv_sipush (v := 1000) hx hb dX6_succeeds_38 (by decide) ?_
    refine lv_idiv hx hb dX6_succeeds_41 (by decide) ?_
    refine z_topi (y := nI ((1000 * 6 + 100 * o + 10 * i + j) / 1000)) (pk_div (a := (1000 * 6 + 100 * o + 10 * i + j)) (d := 1000) (by omega) (by decide) (by decide)) ?_
    refine z_topi (y := 6) (by rw [show (1000 * 6 + 100 * o + 10 * i + j) / 1000 = 6 by omega]; rfl) ?_
    refine lv_tableIn (off := 162) (tgt := 204) hx hb dX6_succeeds_42 (by decide) (by decide) rfl (by decide) ?_
    refine lv_iload_n hx hb dX6_succeeds_204 rfl (lv_at hl 2 rfl) ?_
    refine lv_if_ne (tgt := 239) hx hb dX6_succeeds_205 (by decide) (fun c_z3 => ?_) (fun c_z3 => ?_)
    · skip
      refine lv_iconst (v := 0) hx hb dX6_succeeds_239 (by decide) ?_
      exact z_zret hx hb hr hlocks dX6_succeeds_240 hM (Nat.le_of_ble_eq_true rfl) (Nat.le_of_ble_eq_true rfl) (by first | exact Or.inl rfl | exact Or.inr rfl | exact zb_01 _) rfl
    · skip
      refine lv_aload_n hx hb dX6_succeeds_208 rfl (lv_at hl 4 rfl) ?_
      refine z_get (ci := 6) (v := .ref ta.1) (C := RX6) (T := TX6) (N := 8) hx hb hts (by decide +kernel) hown hK hM 0 rfl rfl 2 (by decide) (hts (.fieldLink RX6 23 "ShiftIsles" "trial" "LShiftIsles$Game;") (by decide +kernel)) (fun _ h9 => h9) rfl dX6_succeeds_209 ?_
      refine lv_iload_n hx hb dX6_succeeds_212 rfl (lv_at hl 3 rfl) ?_
      have hp9 : List.Perm ([(o9, .inr (6, [u0, u1, .ref ta.1, .ref r9, u4, u5, u6, u7]))] ++ ((ruW G r9 sa u) ++ (gmW G ta h b)) : va_W) ((gmW G ta h b) ++ ([(o9, .inr (6, [u0, u1, .ref ta.1, .ref r9, u4, u5, u6, u7]))] ++ (ruW G r9 sa u))) := (pm_cut (cs := [[(o9, .inr (6, [u0, u1, .ref ta.1, .ref r9, u4, u5, u6, u7]))], ruW G r9 sa u, gmW G ta h b]) (sub := [gmW G ta h b]) (rest := [[(o9, .inr (6, [u0, u1, .ref ta.1, .ref r9, u4, u5, u6, u7]))], ruW G r9 sa u]) 3 [2] [0, 1] rfl rfl rfl (by decide))
      have hq9 : List.Perm ((gmW G ta h b) ++ ([(o9, .inr (6, [u0, u1, .ref ta.1, .ref r9, u4, u5, u6, u7]))] ++ (ruW G r9 sa u))) ([(o9, .inr (6, [u0, u1, .ref ta.1, .ref r9, u4, u5, u6, u7]))] ++ ((ruW G r9 sa u) ++ (gmW G ta h b)) : va_W) := (pm_put (cs := [[(o9, .inr (6, [u0, u1, .ref ta.1, .ref r9, u4, u5, u6, u7]))], ruW G r9 sa u, gmW G ta h b]) (sub := [gmW G ta h b]) (rest := [[(o9, .inr (6, [u0, u1, .ref ta.1, .ref r9, u4, u5, u6, u7]))], ruW G r9 sa u]) 3 [2] [0, 1] rfl rfl rfl (by decide))
      refine z_callV (As := [.int (nI o)]) (rest := []) (wc := gmW G ta h b) (wr := [(o9, .inr (6, [u0, u1, .ref ta.1, .ref r9, u4, u5, u6, u7]))] ++ (ruW G r9 sa u)) (w1 := gmW G ta h b) (ws' := [(o9, .inr (6, [u0, u1, .ref ta.1, .ref r9, u4, u5, u6, u7]))] ++ ((ruW G r9 sa u) ++ (gmW G ta h b))) ⟨hx, hb, hml, hown, hts⟩ (c_hasPlayer l G ta h b (nI o) ) (cwV 1 hts gX6_succeeds_X2_hasPlayer rfl rfl rfl (by decide +kernel) ⟨Nat.le_of_ble_eq_true rfl, Nat.le_of_ble_eq_true rfl⟩) 2 rfl rfl rfl rfl hl.1 rfl (Nat.le_of_ble_eq_true rfl) dX6_succeeds_213 ⟨Nat.le_of_ble_eq_true rfl, Nat.le_of_ble_eq_true rfl⟩ hK hE hA hM hp9 hq9 (fun H locs hM hz => ?_)
      refine z_ifeq (tgt := 239) hx hb dX6_succeeds_216 (by decide) (fun c_1 => ?_) (fun c_1 => Bool.noConfusion (hpq.symm.trans c_1))
      refine lv_iconst (v := 0) hx hb dX6_succeeds_239 (by decide) ?_
      exact z_zret hx hb hr hlocks dX6_succeeds_240 hM (Nat.le_of_ble_eq_true rfl) (Nat.le_of_ble_eq_true rfl) (by first | exact Or.inl rfl | exact Or.inr rfl | exact zb_01 _) rfl
  · skip
    refine lv_iload_n hx hb dX6_succeeds_26 rfl (lv_at hl 1 rfl) ?_
    refine lv_if_ne (tgt := 34) hx hb dX6_succeeds_27 (by decide) (fun c_z2 => ?_) (fun c_z2 => ?_)
    · skip
      refine lv_iconst (v := 0) hx hb dX6_succeeds_34 (by decide) ?_
      refine lv_istore (lv' := [(5, .int 0), (4, .int (nI j)), (3, .int (nI i)), (2, .int (nI o)), (0, .ref o9), (1, .int (nI (1000 * 6 + 100 * o + 10 * i + j)))]) hx hb dX6_succeeds_35 hl (by decide) rfl (fun ls hl => ?_)
      refine lv_iload_n hx hb dX6_succeeds_37 rfl (lv_at hl 5 rfl) ?_
      refine lv_sipush (v := 1000) hx hb dX6_succeeds_38 (by decide) ?_
      refine lv_idiv hx hb dX6_succeeds_41 (by decide) ?_
      refine z_topi (y := nI ((1000 * 6 + 100 * o + 10 * i + j) / 1000)) (pk_div (a := (1000 * 6 + 100 * o + 10 * i + j)) (d := 1000) (by omega) (by decide) (by decide)) ?_
      refine z_topi (y := 6) (by rw [show (1000 * 6 + 100 * o + 10 * i + j) / 1000 = 6 by omega]; rfl) ?_
      refine lv_tableIn (off := 162) (tgt := 204) hx hb dX6_succeeds_42 (by decide) (by decide) rfl (by decide) ?_
      refine lv_iload_n hx hb dX6_succeeds_204 rfl (lv_at hl 2 rfl) ?_
      refine lv_if_ne (tgt := 239) hx hb dX6_succeeds_205 (by decide) (fun c_z3 => ?_) (fun c_z3 => ?_)
      · skip
        refine lv_iconst (v := 0) hx hb dX6_succeeds_239 (by decide) ?_
        exact z_zret hx hb hr hlocks dX6_succeeds_240 hM (Nat.le_of_ble_eq_true rfl) (Nat.le_of_ble_eq_true rfl) (by first | exact Or.inl rfl | exact Or.inr rfl | exact zb_01 _) rfl
      · skip
        refine lv_aload_n hx hb dX6_succeeds_208 rfl (lv_at hl 4 rfl) ?_
        refine z_get (ci := 6) (v := .ref ta.1) (C := RX6) (T := TX6) (N := 8) hx hb hts (by decide +kernel) hown hK hM 0 rfl rfl 2 (by decide) (hts (.fieldLink RX6 23 "ShiftIsles" "trial" "LShiftIsles$Game;") (by decide +kernel)) (fun _ h9 => h9) rfl dX6_succeeds_209 ?_
        refine lv_iload_n hx hb dX6_succeeds_212 rfl (lv_at hl 3 rfl) ?_
        have hp9 : List.Perm ([(o9, .inr (6, [u0, u1, .ref ta.1, .ref r9, u4, u5, u6, u7]))] ++ ((ruW G r9 sa u) ++ (gmW G ta h b)) : va_W) ((gmW G ta h b) ++ ([(o9, .inr (6, [u0, u1, .ref ta.1, .ref r9, u4, u5, u6, u7]))] ++ (ruW G r9 sa u))) := (pm_cut (cs := [[(o9, .inr (6, [u0, u1, .ref ta.1, .ref r9, u4, u5, u6, u7]))], ruW G r9 sa u, gmW G ta h b]) (sub := [gmW G ta h b]) (rest := [[(o9, .inr (6, [u0, u1, .ref ta.1, .ref r9, u4, u5, u6, u7]))], ruW G r9 sa u]) 3 [2] [0, 1] rfl rfl rfl (by decide))
        have hq9 : List.Perm ((gmW G ta h b) ++ ([(o9, .inr (6, [u0, u1, .ref ta.1, .ref r9, u4, u5, u6, u7]))] ++ (ruW G r9 sa u))) ([(o9, .inr (6, [u0, u1, .ref ta.1, .ref r9, u4, u5, u6, u7]))] ++ ((ruW G r9 sa u) ++ (gmW G ta h b)) : va_W) := (pm_put (cs := [[(o9, .inr (6, [u0, u1, .ref ta.1, .ref r9, u4, u5, u6, u7]))], ruW G r9 sa u, gmW G ta h b]) (sub := [gmW G ta h b]) (rest := [[(o9, .inr (6, [u0, u1, .ref ta.1, .ref r9, u4, u5, u6, u7]))], ruW G r9 sa u]) 3 [2] [0, 1] rfl rfl rfl (by decide))
        refine z_callV (As := [.int (nI o)]) (rest := []) (wc := gmW G ta h b) (wr := [(o9, .inr (6, [u0, u1, .ref ta.1, .ref r9, u4, u5, u6, u7]))] ++ (ruW G r9 sa u)) (w1 := gmW G ta h b) (ws' := [(o9, .inr (6, [u0, u1, .ref ta.1, .ref r9, u4, u5, u6, u7]))] ++ ((ruW G r9 sa u) ++ (gmW G ta h b))) ⟨hx, hb, hml, hown, hts⟩ (c_hasPlayer l G ta h b (nI o) ) (cwV 1 hts gX6_succeeds_X2_hasPlayer rfl rfl rfl (by decide +kernel) ⟨Nat.le_of_ble_eq_true rfl, Nat.le_of_ble_eq_true rfl⟩) 2 rfl rfl rfl rfl hl.1 rfl (Nat.le_of_ble_eq_true rfl) dX6_succeeds_213 ⟨Nat.le_of_ble_eq_true rfl, Nat.le_of_ble_eq_true rfl⟩ hK hE hA hM hp9 hq9 (fun H locs hM hz => ?_)
        refine z_ifeq (tgt := 239) hx hb dX6_succeeds_216 (by decide) (fun c_2 => ?_) (fun c_2 => Bool.noConfusion (hpq.symm.trans c_2))
        refine lv_iconst (v := 0) hx hb dX6_succeeds_239 (by decide) ?_
        exact z_zret hx hb hr hlocks dX6_succeeds_240 hM (Nat.le_of_ble_eq_true rfl) (Nat.le_of_ble_eq_true rfl) (by first | exact Or.inl rfl | exact Or.inr rfl | exact zb_01 _) rfl
    · skip
      refine lv_iconst (v := 1) hx hb dX6_succeeds_30 (by decide) ?_
      refine lv_goto (tgt := 35) hx hb dX6_succeeds_31 (by decide) ?_
      refine lv_istore (lv' := [(5, .int 1), (4, .int (nI j)), (3, .int (nI i)), (2, .int (nI o)), (0, .ref o9), (1, .int (nI (1000 * 6 + 100 * o + 10 * i + j)))]) hx hb dX6_succeeds_35 hl (by decide) rfl (fun ls hl => ?_)
      refine lv_iload_n hx hb dX6_succeeds_37 rfl (lv_at hl 5 rfl) ?_
      refine lv_sipush (v := 1000) hx hb dX6_succeeds_38 (by decide) ?_
      refine lv_idiv hx hb dX6_succeeds_41 (by decide) ?_
      refine z_topi (y := nI ((1000 * 6 + 100 * o + 10 * i + j) / 1000)) (pk_div (a := (1000 * 6 + 100 * o + 10 * i + j)) (d := 1000) (by omega) (by decide) (by decide)) ?_
      refine z_topi (y := 6) (by rw [show (1000 * 6 + 100 * o + 10 * i + j) / 1000 = 6 by omega]; rfl) ?_
      refine lv_tableIn (off := 162) (tgt := 204) hx hb dX6_succeeds_42 (by decide) (by decide) rfl (by decide) ?_
      refine lv_iload_n hx hb dX6_succeeds_204 rfl (lv_at hl 2 rfl) ?_
      refine lv_if_ne (tgt := 239) hx hb dX6_succeeds_205 (by decide) (fun c_z3 => ?_) (fun c_z3 => ?_)
      · skip
        refine lv_iconst (v := 0) hx hb dX6_succeeds_239 (by decide) ?_
        exact z_zret hx hb hr hlocks dX6_succeeds_240 hM (Nat.le_of_ble_eq_true rfl) (Nat.le_of_ble_eq_true rfl) (by first | exact Or.inl rfl | exact Or.inr rfl | exact zb_01 _) rfl
      · skip
        refine lv_aload_n hx hb dX6_succeeds_208 rfl (lv_at hl 4 rfl) ?_
        refine z_get (ci := 6) (v := .ref ta.1) (C := RX6) (T := TX6) (N := 8) hx hb hts (by decide +kernel) hown hK hM 0 rfl rfl 2 (by decide) (hts (.fieldLink RX6 23 "ShiftIsles" "trial" "LShiftIsles$Game;") (by decide +kernel)) (fun _ h9 => h9) rfl dX6_succeeds_209 ?_
        refine lv_iload_n hx hb dX6_succeeds_212 rfl (lv_at hl 3 rfl) ?_
        have hp9 : List.Perm ([(o9, .inr (6, [u0, u1, .ref ta.1, .ref r9, u4, u5, u6, u7]))] ++ ((ruW G r9 sa u) ++ (gmW G ta h b)) : va_W) ((gmW G ta h b) ++ ([(o9, .inr (6, [u0, u1, .ref ta.1, .ref r9, u4, u5, u6, u7]))] ++ (ruW G r9 sa u))) := (pm_cut (cs := [[(o9, .inr (6, [u0, u1, .ref ta.1, .ref r9, u4, u5, u6, u7]))], ruW G r9 sa u, gmW G ta h b]) (sub := [gmW G ta h b]) (rest := [[(o9, .inr (6, [u0, u1, .ref ta.1, .ref r9, u4, u5, u6, u7]))], ruW G r9 sa u]) 3 [2] [0, 1] rfl rfl rfl (by decide))
        have hq9 : List.Perm ((gmW G ta h b) ++ ([(o9, .inr (6, [u0, u1, .ref ta.1, .ref r9, u4, u5, u6, u7]))] ++ (ruW G r9 sa u))) ([(o9, .inr (6, [u0, u1, .ref ta.1, .ref r9, u4, u5, u6, u7]))] ++ ((ruW G r9 sa u) ++ (gmW G ta h b)) : va_W) := (pm_put (cs := [[(o9, .inr (6, [u0, u1, .ref ta.1, .ref r9, u4, u5, u6, u7]))], ruW G r9 sa u, gmW G ta h b]) (sub := [gmW G ta h b]) (rest := [[(o9, .inr (6, [u0, u1, .ref ta.1, .ref r9, u4, u5, u6, u7]))], ruW G r9 sa u]) 3 [2] [0, 1] rfl rfl rfl (by decide))
        refine z_callV (As := [.int (nI o)]) (rest := []) (wc := gmW G ta h b) (wr := [(o9, .inr (6, [u0, u1, .ref ta.1, .ref r9, u4, u5, u6, u7]))] ++ (ruW G r9 sa u)) (w1 := gmW G ta h b) (ws' := [(o9, .inr (6, [u0, u1, .ref ta.1, .ref r9, u4, u5, u6, u7]))] ++ ((ruW G r9 sa u) ++ (gmW G ta h b))) ⟨hx, hb, hml, hown, hts⟩ (c_hasPlayer l G ta h b (nI o) ) (cwV 1 hts gX6_succeeds_X2_hasPlayer rfl rfl rfl (by decide +kernel) ⟨Nat.le_of_ble_eq_true rfl, Nat.le_of_ble_eq_true rfl⟩) 2 rfl rfl rfl rfl hl.1 rfl (Nat.le_of_ble_eq_true rfl) dX6_succeeds_213 ⟨Nat.le_of_ble_eq_true rfl, Nat.le_of_ble_eq_true rfl⟩ hK hE hA hM hp9 hq9 (fun H locs hM hz => ?_)
        refine z_ifeq (tgt := 239) hx hb dX6_succeeds_216 (by decide) (fun c_3 => ?_) (fun c_3 => Bool.noConfusion (hpq.symm.trans c_3))
        refine lv_iconst (v := 0) hx hb dX6_succeeds_239 (by decide) ?_
        exact z_zret hx hb hr hlocks dX6_succeeds_240 hM (Nat.le_of_ble_eq_true rfl) (Nat.le_of_ble_eq_true rfl) (by first | exact Or.inl rfl | exact Or.inr rfl | exact zb_01 _) rfl

set_option maxHeartbeats 4000000 in
set_option maxRecDepth 100000 in
theorem c_su6i (l : Launch) (G : zC) (o9 : Nat) (u0 u1 u4 u5 u6 u7 : Value) (r9 : Nat) (sa : zBA) (u : zRU) (ta : zGA) (h : Nat → Int32) (b : Nat → Nat → Int32) (P t S e0 : Nat) (hG : zGs h b P t S e0) (o i j : Nat) (ho9 : o < 10) (hi9 : i < 10) (hj9 : j < 10) (hin9 : ¬ i = 0) : zMet l G yX6_succeeds wsX6_succeeds rmX6_succeeds [.ref o9, .int (nI (1000 * 6 + 100 * o + 10 * i + j))] ([(o9, .inr (6, [u0, u1, .ref ta.1, .ref r9, u4, u5, u6, u7]))] ++ ((ruW G r9 sa u) ++ (gmW G ta h b))) (some (.int 0)) ([(o9, .inr (6, [u0, u1, .ref ta.1, .ref r9, u4, u5, u6, u7]))] ++ ((ruW G r9 sa u) ++ (gmW G ta h b))) := by
  refine zMet_of (cc := cX6_succeeds) (maxL := 6) (ret := (some .boolean)) (by decide) rfl (Nat.le_of_ble_eq_true rfl) ?_
  intro p e s m below meth c A ls hx hb hr hml hown hts hK hA hE hlocks hin hM hl
  have hown : s.vm.findClass RX6 = some m.cls := hown
  have hM : zM G A s s.heap [] ([(o9, .inr (6, [u0, u1, .ref ta.1, .ref r9, u4, u5, u6, u7]))] ++ ((ruW G r9 sa u) ++ (gmW G ta h b))) := hM
  have hl : lv_has ls 6 [(0, .ref o9), (1, .int (nI (1000 * 6 + 100 * o + 10 * i + j)))] := hl
  have hP4 := hG.1.1.2.1
  have hP := hG.1.1.1
  refine lv_iload_n hx hb dX6_succeeds_0 rfl (lv_at hl 1 rfl) ?_
  refine lv_bipush (v := 100) hx hb dX6_succeeds_1 (by decide) ?_
  refine lv_idiv hx hb dX6_succeeds_3 (by decide) ?_
  refine z_topi (y := nI ((1000 * 6 + 100 * o + 10 * i + j) / 100)) (pk_div (a := (1000 * 6 + 100 * o + 10 * i + j)) (d := 100) (by omega) (by decide) (by decide)) ?_
  refine lv_bipush (v := 10) hx hb dX6_succeeds_4 (by decide) ?_
  refine lv_irem hx hb dX6_succeeds_6 (by decide) ?_
  refine z_topi (y := nI (((1000 * 6 + 100 * o + 10 * i + j) / 100) % 10)) (pk_rem (a := ((1000 * 6 + 100 * o + 10 * i + j) / 100)) (d := 10) (by omega) (by decide) (by decide)) ?_
  refine z_topi (y := nI o) (by rw [show (1000 * 6 + 100 * o + 10 * i + j) / 100 % 10 = o by omega]) ?_
  refine lv_istore_n (lv' := [(2, .int (nI o)), (0, .ref o9), (1, .int (nI (1000 * 6 + 100 * o + 10 * i + j)))]) hx hb dX6_succeeds_7 rfl hl (by decide) rfl (fun ls hl => ?_)
  refine lv_iload_n hx hb dX6_succeeds_8 rfl (lv_at hl 2 rfl) ?_
  refine lv_bipush (v := 10) hx hb dX6_succeeds_9 (by decide) ?_
  refine lv_idiv hx hb dX6_succeeds_11 (by decide) ?_
  refine z_topi (y := nI ((1000 * 6 + 100 * o + 10 * i + j) / 10)) (pk_div (a := (1000 * 6 + 100 * o + 10 * i + j)) (d := 10) (by omega) (by decide) (by decide)) ?_
  refine lv_bipush (v := 10) hx hb dX6_succeeds_12 (by decide) ?_
  refine lv_irem hx hb dX6_succeeds_14 (by decide) ?_
  refine z_topi (y := nI (((1000 * 6 + 100 * o + 10 * i + j) / 10) % 10)) (pk_rem (a := ((1000 * 6 + 100 * o + 10 * i + j) / 10)) (d := 10) (by omega) (by decide) (by decide)) ?_
  refine z_topi (y := nI i) (by rw [show (1000 * 6 + 100 * o + 10 * i + j) / 10 % 10 = i by omega]) ?_
  refine lv_istore_n (lv' := [(3, .int (nI i)), (2, .int (nI o)), (0, .ref o9), (1, .int (nI (1000 * 6 + 100 * o + 10 * i + j)))]) hx hb dX6_succeeds_15 rfl hl (by decide) rfl (fun ls hl => ?_)
  refine lv_iload_n hx hb dX6_succeeds_16 rfl (lv_at hl 3 rfl) ?_
  refine lv_bipush (v := 10) hx hb dX6_succeeds_17 (by decide) ?_
  refine lv_irem hx hb dX6_succeeds_19 (by decide) ?_
  refine z_topi (y := nI ((1000 * 6 + 100 * o + 10 * i + j) % 10)) (pk_rem (a := (1000 * 6 + 100 * o + 10 * i + j)) (d := 10) (by omega) (by decide) (by decide)) ?_
  refine z_topi (y := nI j) (by rw [show (1000 * 6 + 100 * o + 10 * i + j) % 10 = j by omega]) ?_
  refine lv_istore (lv' := [(4, .int (nI j)), (3, .int (nI i)), (2, .int (nI o)), (0, .ref o9), (1, .int (nI (1000 * 6 + 100 * o + 10 * i + j)))]) hx hb dX6_succeeds_20 hl (by decide) rfl (fun ls hl => ?_)
  refine lv_iload_n hx hb dX6_succeeds_22 rfl (lv_at hl 2 rfl) ?_
  refine lv_if_ne (tgt := 34) hx hb dX6_succeeds_23 (by decide) (fun c_z1 => ?_) (fun c_z1 => ?_)
  · skip
    refine lv_iconst (v := 0) hx hb dX6_succeeds_34 (by decide) ?_
    refine lv_istore (lv' := [(5, .int 0), (4, .int (nI j)), (3, .int (nI i)), (2, .int (nI o)), (0, .ref o9), (1, .int (nI (1000 * 6 + 100 * o + 10 * i + j)))]) hx hb dX6_succeeds_35 hl (by decide) rfl (fun ls hl => ?_)
    refine lv_iload_n hx hb dX6_succeeds_37 rfl (lv_at hl 5 rfl) ?_
    refine lv_sipush (v := 1000) hx hb dX6_succeeds_38 (by decide) ?_
    refine lv_idiv hx hb dX6_succeeds_41 (by decide) ?_
    refine z_topi (y := nI ((1000 * 6 + 100 * o + 10 * i + j) / 1000)) (pk_div (a := (1000 * 6 + 100 * o + 10 * i + j)) (d := 1000) (by omega) (by decide) (by decide)) ?_
    refine z_topi (y := 6) (by rw [show (1000 * 6 + 100 * o + 10 * i + j) / 1000 = 6 by omega]; rfl) ?_
    refine lv_tableIn (off := 162) (tgt := 204) hx hb dX6_succeeds_42 (by decide) (by decide) rfl (by decide) ?_
    refine lv_iload_n hx hb dX6_succeeds_204 rfl (lv_at hl 2 rfl) ?_
    refine lv_if_ne (tgt := 239) hx hb dX6_succeeds_205 (by decide) (fun c_1 => ?_) (fun c_1 => absurd ((nI_eq (a := i) (b := 0) (by omega) (by decide)).mp c_1) hin9)
    refine lv_iconst (v := 0) hx hb dX6_succeeds_239 (by decide) ?_
    exact z_zret hx hb hr hlocks dX6_succeeds_240 hM (Nat.le_of_ble_eq_true rfl) (Nat.le_of_ble_eq_true rfl) (by first | exact Or.inl rfl | exact Or.inr rfl | exact zb_01 _) rfl
  · skip
    refine lv_iload_n hx hb dX6_succeeds_26 rfl (lv_at hl 1 rfl) ?_
    refine lv_if_ne (tgt := 34) hx hb dX6_succeeds_27 (by decide) (fun c_z2 => ?_) (fun c_z2 => ?_)
    · skip
      refine lv_iconst (v := 0) hx hb dX6_succeeds_34 (by decide) ?_
      refine lv_istore (lv' := [(5, .int 0), (4, .int (nI j)), (3, .int (nI i)), (2, .int (nI o)), (0, .ref o9), (1, .int (nI (1000 * 6 + 100 * o + 10 * i + j)))]) hx hb dX6_succeeds_35 hl (by decide) rfl (fun ls hl => ?_)
      refine lv_iload_n hx hb dX6_succeeds_37 rfl (lv_at hl 5 rfl) ?_
      refine lv_sipush (v := 1000) hx hb dX6_succeeds_38 (by decide) ?_
      refine lv_idiv hx hb dX6_succeeds_41 (by decide) ?_
      refine z_topi (y := nI ((1000 * 6 + 100 * o + 10 * i + j) / 1000)) (pk_div (a := (1000 * 6 + 100 * o + 10 * i + j)) (d := 1000) (by omega) (by decide) (by decide)) ?_
      refine z_topi (y := 6) (by rw [show (1000 * 6 + 100 * o + 10 * i + j) / 1000 = 6 by omega]; rfl) ?_
      refine lv_tableIn (off := 162) (tgt := 204) hx hb dX6_succeeds_42 (by decide) (by decide) rfl (by decide) ?_
      refine lv_iload_n hx hb dX6_succeeds_204 rfl (lv_at hl 2 rfl) ?_
      refine lv_if_ne (tgt := 239) hx hb dX6_succeeds_205 (by decide) (fun c_2 => ?_) (fun c_2 => absurd ((nI_eq (a := i) (b := 0) (by omega) (by decide)).mp c_2) hin9)
      refine lv_iconst (v := 0) hx hb dX6_succeeds_239 (by decide) ?_
      exact z_zret hx hb hr hlocks dX6_succeeds_240 hM (Nat.le_of_ble_eq_true rfl) (Nat.le_of_ble_eq_true rfl) (by first | exact Or.inl rfl | exact Or.inr rfl | exact zb_01 _) rfl
    · skip
      refine lv_iconst (v := 1) hx hb dX6_succeeds_30 (by decide) ?_
      refine lv_goto (tgt := 35) hx hb dX6_succeeds_31 (by decide) ?_
      refine lv_istore (lv' := [(5, .int 1), (4, .int (nI j)), (3, .int (nI i)), (2, .int (nI o)), (0, .ref o9), (1, .int (nI (1000 * 6 + 100 * o + 10 * i + j)))]) hx hb dX6_succeeds_35 hl (by decide) rfl (fun ls hl => ?_)
      refine lv_iload_n hx hb dX6_succeeds_37 rfl (lv_at hl 5 rfl) ?_
      refine lv_sipush (v := 1000) hx hb dX6_succeeds_38 (by decide) ?_
      refine lv_idiv hx hb dX6_succeeds_41 (by decide) ?_
      refine z_topi (y := nI ((1000 * 6 + 100 * o + 10 * i + j) / 1000)) (pk_div (a := (1000 * 6 + 100 * o + 10 * i + j)) (d := 1000) (by omega) (by decide) (by decide)) ?_
      refine z_topi (y := 6) (by rw [show (1000 * 6 + 100 * o + 10 * i + j) / 1000 = 6 by omega]; rfl) ?_
      refine lv_tableIn (off := 162) (tgt := 204) hx hb dX6_succeeds_42 (by decide) (by decide) rfl (by decide) ?_
      refine lv_iload_n hx hb dX6_succeeds_204 rfl (lv_at hl 2 rfl) ?_
      refine lv_if_ne (tgt := 239) hx hb dX6_succeeds_205 (by decide) (fun c_3 => ?_) (fun c_3 => absurd ((nI_eq (a := i) (b := 0) (by omega) (by decide)).mp c_3) hin9)
      refine lv_iconst (v := 0) hx hb dX6_succeeds_239 (by decide) ?_
      exact z_zret hx hb hr hlocks dX6_succeeds_240 hM (Nat.le_of_ble_eq_true rfl) (Nat.le_of_ble_eq_true rfl) (by first | exact Or.inl rfl | exact Or.inr rfl | exact zb_01 _) rfl

set_option maxHeartbeats 4000000 in
set_option maxRecDepth 100000 in
theorem c_su6 (l : Launch) (G : zC) (o9 : Nat) (u0 u1 u4 u5 u6 u7 : Value) (r9 : Nat) (sa : zBA) (u : zRU) (ta : zGA) (h : Nat → Int32) (b : Nat → Nat → Int32) (P t S e0 : Nat) (hG : zGs h b P t S e0) (o i j : Nat) (ho9 : o < 10) (hi9 : i < 10) (hj9 : j < 10) (hpq : zHp h (nI o) = true) : zMet l G yX6_succeeds wsX6_succeeds rmX6_succeeds [.ref o9, .int (nI (1000 * 6 + 100 * o + 10 * 0 + j))] ([(o9, .inr (6, [u0, u1, .ref ta.1, .ref r9, u4, u5, u6, u7]))] ++ ((ruW G r9 sa u) ++ (gmW G ta h b))) (some (.int (zb (decide (nI j ≤ b o 23))))) ([(o9, .inr (6, [u0, u1, .ref ta.1, .ref r9, u4, u5, u6, u7]))] ++ ((ruW G r9 sa u) ++ (gmW G ta h b))) := by
  refine zMet_of (cc := cX6_succeeds) (maxL := 6) (ret := (some .boolean)) (by decide) rfl (Nat.le_of_ble_eq_true rfl) ?_
  intro p e s m below meth c A ls hx hb hr hml hown hts hK hA hE hlocks hin hM hl
  have hown : s.vm.findClass RX6 = some m.cls := hown
  have hM : zM G A s s.heap [] ([(o9, .inr (6, [u0, u1, .ref ta.1, .ref r9, u4, u5, u6, u7]))] ++ ((ruW G r9 sa u) ++ (gmW G ta h b))) := hM
  have hl : lv_has ls 6 [(0, .ref o9), (1, .int (nI (1000 * 6 + 100 * o + 10 * 0 + j)))] := hl
  have hP4 := hG.1.1.2.1
  have hP := hG.1.1.1
  refine lv_iload_n hx hb dX6_succeeds_0 rfl (lv_at hl 1 rfl) ?_
  refine lv_bipush (v := 100) hx hb dX6_succeeds_1 (by decide) ?_
  refine lv_idiv hx hb dX6_succeeds_3 (by decide) ?_
  refine z_topi (y := nI ((1000 * 6 + 100 * o + 10 * 0 + j) / 100)) (pk_div (a := (1000 * 6 + 100 * o + 10 * 0 + j)) (d := 100) (by omega) (by decide) (by decide)) ?_
  refine lv_bipush (v := 10) hx hb dX6_succeeds_4 (by decide) ?_
  refine lv_irem hx hb dX6_succeeds_6 (by decide) ?_
  refine z_topi (y := nI (((1000 * 6 + 100 * o + 10 * 0 + j) / 100) % 10)) (pk_rem (a := ((1000 * 6 + 100 * o + 10 * 0 + j) / 100)) (d := 10) (by omega) (by decide) (by decide)) ?_
  refine z_topi (y := nI o) (by rw [show (1000 * 6 + 100 * o + 10 * 0 + j) / 100 % 10 = o by omega]) ?_
  refine lv_istore_n (lv' := [(2, .int (nI o)), (0, .ref o9), (1, .int (nI (1000 * 6 + 100 * o + 10 * 0 + j)))]) hx hb dX6_succeeds_7 rfl hl (by decide) rfl (fun ls hl => ?_)
  refine lv_iload_n hx hb dX6_succeeds_8 rfl (lv_at hl 2 rfl) ?_
  refine lv_bipush (v := 10) hx hb dX6_succeeds_9 (by decide) ?_
  refine lv_idiv hx hb dX6_succeeds_11 (by decide) ?_
  refine z_topi (y := nI ((1000 * 6 + 100 * o + 10 * 0 + j) / 10)) (pk_div (a := (1000 * 6 + 100 * o + 10 * 0 + j)) (d := 10) (by omega) (by decide) (by decide)) ?_
  refine lv_bipush (v := 10) hx hb dX6_succeeds_12 (by decide) ?_
  refine lv_irem hx hb dX6_succeeds_14 (by decide) ?_
  refine z_topi (y := nI (((1000 * 6 + 100 * o + 10 * 0 + j) / 10) % 10)) (pk_rem (a := ((1000 * 6 + 100 * o + 10 * 0 + j) / 10)) (d := 10) (by omega) (by decide) (by decide)) ?_
  refine z_topi (y := nI 0) (by rw [show (1000 * 6 + 100 * o + 10 * 0 + j) / 10 % 10 = 0 by omega]) ?_
  refine lv_istore_n (lv' := [(3, .int (nI 0)), (2, .int (nI o)), (0, .ref o9), (1, .int (nI (1000 * 6 + 100 * o + 10 * 0 + j)))]) hx hb dX6_succeeds_15 rfl hl (by decide) rfl (fun ls hl => ?_)
  refine lv_iload_n hx hb dX6_succeeds_16 rfl (lv_at hl 3 rfl) ?_
  refine lv_bipush (v := 10) hx hb dX6_succeeds_17 (by decide) ?_
  refine lv_irem hx hb dX6_succeeds_19 (by decide) ?_
  refine z_topi (y := nI ((1000 * 6 + 100 * o + 10 * 0 + j) % 10)) (pk_rem (a := (1000 * 6 + 100 * o + 10 * 0 + j)) (d := 10) (by omega) (by decide) (by decide)) ?_
  refine z_topi (y := nI j) (by rw [show (1000 * 6 + 100 * o + 10 * 0 + j) % 10 = j by omega]) ?_
  refine lv_istore (lv' := [(4, .int (nI j)), (3, .int (nI 0)), (2, .int (nI o)), (0, .ref o9), (1, .int (nI (1000 * 6 + 100 * o + 10 * 0 + j)))]) hx hb dX6_succeeds_20 hl (by decide) rfl (fun ls hl => ?_)
  refine lv_iload_n hx hb dX6_succeeds_22 rfl (lv_at hl 2 rfl) ?_
  refine lv_if_ne (tgt := 34) hx hb dX6_succeeds_23 (by decide) (fun c_z1 => ?_) (fun c_z1 => ?_)
  · skip
    refine lv_iconst (v := 0) hx hb dX6_succeeds_34 (by decide) ?_
    refine lv_istore (lv' := [(5, .int 0), (4, .int (nI j)), (3, .int (nI 0)), (2, .int (nI o)), (0, .ref o9), (1, .int (nI (1000 * 6 + 100 * o + 10 * 0 + j)))]) hx hb dX6_succeeds_35 hl (by decide) rfl (fun ls hl => ?_)
    refine lv_iload_n hx hb dX6_succeeds_37 rfl (lv_at hl 5 rfl) ?_
    refine lv_sipush (v := 1000) hx hb dX6_succeeds_38 (by decide) ?_
    refine lv_idiv hx hb dX6_succeeds_41 (by decide) ?_
    refine z_topi (y := nI ((1000 * 6 + 100 * o + 10 * 0 + j) / 1000)) (pk_div (a := (1000 * 6 + 100 * o + 10 * 0 + j)) (d := 1000) (by omega) (by decide) (by decide)) ?_
    refine z_topi (y := 6) (by rw [show (1000 * 6 + 100 * o + 10 * 0 + j) / 1000 = 6 by omega]; rfl) ?_
    refine lv_tableIn (off := 162) (tgt := 204) hx hb dX6_succeeds_42 (by decide) (by decide) rfl (by decide) ?_
    refine lv_iload_n hx hb dX6_succeeds_204 rfl (lv_at hl 2 rfl) ?_
    refine lv_if_ne (tgt := 239) hx hb dX6_succeeds_205 (by decide) (fun c_1 => absurd rfl c_1) (fun c_1 => ?_)
    refine lv_aload_n hx hb dX6_succeeds_208 rfl (lv_at hl 4 rfl) ?_
    refine z_get (ci := 6) (v := .ref ta.1) (C := RX6) (T := TX6) (N := 8) hx hb hts (by decide +kernel) hown hK hM 0 rfl rfl 2 (by decide) (hts (.fieldLink RX6 23 "ShiftIsles" "trial" "LShiftIsles$Game;") (by decide +kernel)) (fun _ h9 => h9) rfl dX6_succeeds_209 ?_
    refine lv_iload_n hx hb dX6_succeeds_212 rfl (lv_at hl 3 rfl) ?_
    have hp9 : List.Perm ([(o9, .inr (6, [u0, u1, .ref ta.1, .ref r9, u4, u5, u6, u7]))] ++ ((ruW G r9 sa u) ++ (gmW G ta h b)) : va_W) ((gmW G ta h b) ++ ([(o9, .inr (6, [u0, u1, .ref ta.1, .ref r9, u4, u5, u6, u7]))] ++ (ruW G r9 sa u))) := (pm_cut (cs := [[(o9, .inr (6, [u0, u1, .ref ta.1, .ref r9, u4, u5, u6, u7]))], ruW G r9 sa u, gmW G ta h b]) (sub := [gmW G ta h b]) (rest := [[(o9, .inr (6, [u0, u1, .ref ta.1, .ref r9, u4, u5, u6, u7]))], ruW G r9 sa u]) 3 [2] [0, 1] rfl rfl rfl (by decide))
    have hq9 : List.Perm ((gmW G ta h b) ++ ([(o9, .inr (6, [u0, u1, .ref ta.1, .ref r9, u4, u5, u6, u7]))] ++ (ruW G r9 sa u))) ([(o9, .inr (6, [u0, u1, .ref ta.1, .ref r9, u4, u5, u6, u7]))] ++ ((ruW G r9 sa u) ++ (gmW G ta h b)) : va_W) := (pm_put (cs := [[(o9, .inr (6, [u0, u1, .ref ta.1, .ref r9, u4, u5, u6, u7]))], ruW G r9 sa u, gmW G ta h b]) (sub := [gmW G ta h b]) (rest := [[(o9, .inr (6, [u0, u1, .ref ta.1, .ref r9, u4, u5, u6, u7]))], ruW G r9 sa u]) 3 [2] [0, 1] rfl rfl rfl (by decide))
    refine z_callV (As := [.int (nI o)]) (rest := []) (wc := gmW G ta h b) (wr := [(o9, .inr (6, [u0, u1, .ref ta.1, .ref r9, u4, u5, u6, u7]))] ++ (ruW G r9 sa u)) (w1 := gmW G ta h b) (ws' := [(o9, .inr (6, [u0, u1, .ref ta.1, .ref r9, u4, u5, u6, u7]))] ++ ((ruW G r9 sa u) ++ (gmW G ta h b))) ⟨hx, hb, hml, hown, hts⟩ (c_hasPlayer l G ta h b (nI o) ) (cwV 1 hts gX6_succeeds_X2_hasPlayer rfl rfl rfl (by decide +kernel) ⟨Nat.le_of_ble_eq_true rfl, Nat.le_of_ble_eq_true rfl⟩) 2 rfl rfl rfl rfl hl.1 rfl (Nat.le_of_ble_eq_true rfl) dX6_succeeds_213 ⟨Nat.le_of_ble_eq_true rfl, Nat.le_of_ble_eq_true rfl⟩ hK hE hA hM hp9 hq9 (fun H locs hM hz => ?_)
    refine z_ifeq (tgt := 239) hx hb dX6_succeeds_216 (by decide) (fun c_2 => Bool.noConfusion (hpq.symm.trans c_2)) (fun c_2 => ?_)
    have hoP : o < P := (zHp_lt hP hP4 (by omega)).mp hpq
    refine lv_aload_n hx hb dX6_succeeds_219 rfl (lv_at hl 4 rfl) ?_
    refine z_get (ci := 6) (v := .ref ta.1) (C := RX6) (T := TX6) (N := 8) hx hb hts (by decide +kernel) hown hK hM 0 rfl rfl 2 (by decide) (hts (.fieldLink RX6 23 "ShiftIsles" "trial" "LShiftIsles$Game;") (by decide +kernel)) (fun _ h9 => h9) rfl dX6_succeeds_220 ?_
    refine lv_iload_n hx hb dX6_succeeds_223 rfl (lv_at hl 3 rfl) ?_
    have hp9 : List.Perm ([(o9, .inr (6, [u0, u1, .ref ta.1, .ref r9, u4, u5, u6, u7]))] ++ ((ruW G r9 sa u) ++ (gmW G ta h b)) : va_W) ((gmW G ta h b) ++ ([(o9, .inr (6, [u0, u1, .ref ta.1, .ref r9, u4, u5, u6, u7]))] ++ (ruW G r9 sa u))) := (pm_cut (cs := [[(o9, .inr (6, [u0, u1, .ref ta.1, .ref r9, u4, u5, u6, u7]))], ruW G r9 sa u, gmW G ta h b]) (sub := [gmW G ta h b]) (rest := [[(o9, .inr (6, [u0, u1, .ref ta.1, .ref r9, u4, u5, u6, u7]))], ruW G r9 sa u]) 3 [2] [0, 1] rfl rfl rfl (by decide))
    have hq9 : List.Perm ((gmW G ta h b) ++ ([(o9, .inr (6, [u0, u1, .ref ta.1, .ref r9, u4, u5, u6, u7]))] ++ (ruW G r9 sa u))) ([(o9, .inr (6, [u0, u1, .ref ta.1, .ref r9, u4, u5, u6, u7]))] ++ ((ruW G r9 sa u) ++ (gmW G ta h b)) : va_W) := (pm_put (cs := [[(o9, .inr (6, [u0, u1, .ref ta.1, .ref r9, u4, u5, u6, u7]))], ruW G r9 sa u, gmW G ta h b]) (sub := [gmW G ta h b]) (rest := [[(o9, .inr (6, [u0, u1, .ref ta.1, .ref r9, u4, u5, u6, u7]))], ruW G r9 sa u]) 3 [2] [0, 1] rfl rfl rfl (by decide))
    refine z_callV (As := [.int (nI o)]) (rest := []) (wc := gmW G ta h b) (wr := [(o9, .inr (6, [u0, u1, .ref ta.1, .ref r9, u4, u5, u6, u7]))] ++ (ruW G r9 sa u)) (w1 := gmW G ta h b) (ws' := [(o9, .inr (6, [u0, u1, .ref ta.1, .ref r9, u4, u5, u6, u7]))] ++ ((ruW G r9 sa u) ++ (gmW G ta h b))) ⟨hx, hb, hml, hown, hts⟩ (c_boardOf l G ta h b o (by omega) ) (cwV 1 hts gX6_succeeds_X2_boardOf rfl rfl rfl (by decide +kernel) ⟨Nat.le_of_ble_eq_true rfl, Nat.le_of_ble_eq_true rfl⟩) 2 rfl rfl rfl rfl hl.1 rfl (Nat.le_of_ble_eq_true rfl) dX6_succeeds_224 ⟨Nat.le_of_ble_eq_true rfl, Nat.le_of_ble_eq_true rfl⟩ hK hE hA hM hp9 hq9 (fun H locs hM hz => ?_)
    have hM : zM G A s H locs ([(o9, .inr (6, [u0, u1, .ref ta.1, .ref r9, u4, u5, u6, u7]))] ++ ((ruW G r9 sa u) ++ ((gmX G ta h) ++ ((bdW G (ta.2.2.2 o) (b o)) ++ (bdsR G ta.2.2.2 b o))))) := zM_perm (List.Perm.append_left ([(o9, .inr (6, [u0, u1, .ref ta.1, .ref r9, u4, u5, u6, u7]))] ++ (ruW G r9 sa u)) (List.Perm.append_left (gmX G ta h) (bds_pm (show o < 4 by omega)))) hM
    have hp9 : List.Perm ([(o9, .inr (6, [u0, u1, .ref ta.1, .ref r9, u4, u5, u6, u7]))] ++ ((ruW G r9 sa u) ++ ((gmX G ta h) ++ ((bdW G (ta.2.2.2 o) (b o)) ++ (bdsR G ta.2.2.2 b o)))) : va_W) ((bdW G (ta.2.2.2 o) (b o)) ++ ([(o9, .inr (6, [u0, u1, .ref ta.1, .ref r9, u4, u5, u6, u7]))] ++ ((ruW G r9 sa u) ++ ((gmX G ta h) ++ (bdsR G ta.2.2.2 b o))))) := (pm_cut (cs := [[(o9, .inr (6, [u0, u1, .ref ta.1, .ref r9, u4, u5, u6, u7]))], ruW G r9 sa u, gmX G ta h, bdW G (ta.2.2.2 o) (b o), bdsR G ta.2.2.2 b o]) (sub := [bdW G (ta.2.2.2 o) (b o)]) (rest := [[(o9, .inr (6, [u0, u1, .ref ta.1, .ref r9, u4, u5, u6, u7]))], ruW G r9 sa u, gmX G ta h, bdsR G ta.2.2.2 b o]) 5 [3] [0, 1, 2, 4] rfl rfl rfl (by decide))
    have hq9 : List.Perm ((bdW G (ta.2.2.2 o) (b o)) ++ ([(o9, .inr (6, [u0, u1, .ref ta.1, .ref r9, u4, u5, u6, u7]))] ++ ((ruW G r9 sa u) ++ ((gmX G ta h) ++ (bdsR G ta.2.2.2 b o))))) ([(o9, .inr (6, [u0, u1, .ref ta.1, .ref r9, u4, u5, u6, u7]))] ++ ((ruW G r9 sa u) ++ ((gmX G ta h) ++ ((bdW G (ta.2.2.2 o) (b o)) ++ (bdsR G ta.2.2.2 b o)))) : va_W) := (pm_put (cs := [[(o9, .inr (6, [u0, u1, .ref ta.1, .ref r9, u4, u5, u6, u7]))], ruW G r9 sa u, gmX G ta h, bdW G (ta.2.2.2 o) (b o), bdsR G ta.2.2.2 b o]) (sub := [bdW G (ta.2.2.2 o) (b o)]) (rest := [[(o9, .inr (6, [u0, u1, .ref ta.1, .ref r9, u4, u5, u6, u7]))], ruW G r9 sa u, gmX G ta h, bdsR G ta.2.2.2 b o]) 5 [3] [0, 1, 2, 4] rfl rfl rfl (by decide))
    refine z_callV (As := []) (rest := []) (wc := bdW G (ta.2.2.2 o) (b o)) (wr := [(o9, .inr (6, [u0, u1, .ref ta.1, .ref r9, u4, u5, u6, u7]))] ++ ((ruW G r9 sa u) ++ ((gmX G ta h) ++ (bdsR G ta.2.2.2 b o)))) (w1 := bdW G (ta.2.2.2 o) (b o)) (ws' := [(o9, .inr (6, [u0, u1, .ref ta.1, .ref r9, u4, u5, u6, u7]))] ++ ((ruW G r9 sa u) ++ ((gmX G ta h) ++ ((bdW G (ta.2.2.2 o) (b o)) ++ (bdsR G ta.2.2.2 b o))))) ⟨hx, hb, hml, hown, hts⟩ (c_taken l G (ta.2.2.2 o) (b o)  ) (cwV 0 hts gX6_succeeds_X0_taken rfl rfl rfl (by decide +kernel) ⟨Nat.le_of_ble_eq_true rfl, Nat.le_of_ble_eq_true rfl⟩) 0 rfl rfl rfl rfl hl.1 rfl (Nat.le_of_ble_eq_true rfl) dX6_succeeds_227 ⟨Nat.le_of_ble_eq_true rfl, Nat.le_of_ble_eq_true rfl⟩ hK hE hA hM hp9 hq9 (fun H locs hM hz => ?_)
    have hM : zM G A s H locs ([(o9, .inr (6, [u0, u1, .ref ta.1, .ref r9, u4, u5, u6, u7]))] ++ ((ruW G r9 sa u) ++ (gmW G ta h b))) := zM_perm (List.Perm.append_left ([(o9, .inr (6, [u0, u1, .ref ta.1, .ref r9, u4, u5, u6, u7]))] ++ (ruW G r9 sa u)) (List.Perm.append_left (gmX G ta h) (bds_pm (show o < 4 by omega)).symm)) hM
    refine lv_iload hx hb dX6_succeeds_230 (lv_at hl 1 rfl) ?_
    refine lv_icmp_lt (tgt := 239) hx hb dX6_succeeds_232 (by decide) (fun c_l => ?_) (fun c_l => ?_)
    · skip
      refine lv_iconst (v := 0) hx hb dX6_succeeds_239 (by decide) ?_
      exact z_zret hx hb hr hlocks dX6_succeeds_240 hM (Nat.le_of_ble_eq_true rfl) (Nat.le_of_ble_eq_true rfl) (by first | exact Or.inl rfl | exact Or.inr rfl | exact zb_01 _) (by rw [decide_eq_false (Int32.not_le.mpr c_l)]; rfl)
    · skip
      refine lv_iconst (v := 1) hx hb dX6_succeeds_235 (by decide) ?_
      refine lv_goto (tgt := 240) hx hb dX6_succeeds_236 (by decide) ?_
      exact z_zret hx hb hr hlocks dX6_succeeds_240 hM (Nat.le_of_ble_eq_true rfl) (Nat.le_of_ble_eq_true rfl) (by first | exact Or.inl rfl | exact Or.inr rfl | exact zb_01 _) (by rw [decide_eq_true (Int32.not_lt.mp c_l)]; rfl)
  · skip
    refine lv_iload_n hx hb dX6_succeeds_26 rfl (lv_at hl 1 rfl) ?_
    refine lv_if_ne (tgt := 34) hx hb dX6_succeeds_27 (by decide) (fun c_z2 => ?_) (fun c_z2 => ?_)
    · skip
      refine lv_iconst (v := 0) hx hb dX6_succeeds_34 (by decide) ?_
      refine lv_istore (lv' := [(5, .int 0), (4, .int (nI j)), (3, .int (nI 0)), (2, .int (nI o)), (0, .ref o9), (1, .int (nI (1000 * 6 + 100 * o + 10 * 0 + j)))]) hx hb dX6_succeeds_35 hl (by decide) rfl (fun ls hl => ?_)
      refine lv_iload_n hx hb dX6_succeeds_37 rfl (lv_at hl 5 rfl) ?_
      refine lv_sipush (v := 1000) hx hb dX6_succeeds_38 (by decide) ?_
      refine lv_idiv hx hb dX6_succeeds_41 (by decide) ?_
      refine z_topi (y := nI ((1000 * 6 + 100 * o + 10 * 0 + j) / 1000)) (pk_div (a := (1000 * 6 + 100 * o + 10 * 0 + j)) (d := 1000) (by omega) (by decide) (by decide)) ?_
      refine z_topi (y := 6) (by rw [show (1000 * 6 + 100 * o + 10 * 0 + j) / 1000 = 6 by omega]; rfl) ?_
      refine lv_tableIn (off := 162) (tgt := 204) hx hb dX6_succeeds_42 (by decide) (by decide) rfl (by decide) ?_
      refine lv_iload_n hx hb dX6_succeeds_204 rfl (lv_at hl 2 rfl) ?_
      refine lv_if_ne (tgt := 239) hx hb dX6_succeeds_205 (by decide) (fun c_3 => absurd rfl c_3) (fun c_3 => ?_)
      refine lv_aload_n hx hb dX6_succeeds_208 rfl (lv_at hl 4 rfl) ?_
      refine z_get (ci := 6) (v := .ref ta.1) (C := RX6) (T := TX6) (N := 8) hx hb hts (by decide +kernel) hown hK hM 0 rfl rfl 2 (by decide) (hts (.fieldLink RX6 23 "ShiftIsles" "trial" "LShiftIsles$Game;") (by decide +kernel)) (fun _ h9 => h9) rfl dX6_succeeds_209 ?_
      refine lv_iload_n hx hb dX6_succeeds_212 rfl (lv_at hl 3 rfl) ?_
      have hp9 : List.Perm ([(o9, .inr (6, [u0, u1, .ref ta.1, .ref r9, u4, u5, u6, u7]))] ++ ((ruW G r9 sa u) ++ (gmW G ta h b)) : va_W) ((gmW G ta h b) ++ ([(o9, .inr (6, [u0, u1, .ref ta.1, .ref r9, u4, u5, u6, u7]))] ++ (ruW G r9 sa u))) := (pm_cut (cs := [[(o9, .inr (6, [u0, u1, .ref ta.1, .ref r9, u4, u5, u6, u7]))], ruW G r9 sa u, gmW G ta h b]) (sub := [gmW G ta h b]) (rest := [[(o9, .inr (6, [u0, u1, .ref ta.1, .ref r9, u4, u5, u6, u7]))], ruW G r9 sa u]) 3 [2] [0, 1] rfl rfl rfl (by decide))
      have hq9 : List.Perm ((gmW G ta h b) ++ ([(o9, .inr (6, [u0, u1, .ref ta.1, .ref r9, u4, u5, u6, u7]))] ++ (ruW G r9 sa u))) ([(o9, .inr (6, [u0, u1, .ref ta.1, .ref r9, u4, u5, u6, u7]))] ++ ((ruW G r9 sa u) ++ (gmW G ta h b)) : va_W) := (pm_put (cs := [[(o9, .inr (6, [u0, u1, .ref ta.1, .ref r9, u4, u5, u6, u7]))], ruW G r9 sa u, gmW G ta h b]) (sub := [gmW G ta h b]) (rest := [[(o9, .inr (6, [u0, u1, .ref ta.1, .ref r9, u4, u5, u6, u7]))], ruW G r9 sa u]) 3 [2] [0, 1] rfl rfl rfl (by decide))
      refine z_callV (As := [.int (nI o)]) (rest := []) (wc := gmW G ta h b) (wr := [(o9, .inr (6, [u0, u1, .ref ta.1, .ref r9, u4, u5, u6, u7]))] ++ (ruW G r9 sa u)) (w1 := gmW G ta h b) (ws' := [(o9, .inr (6, [u0, u1, .ref ta.1, .ref r9, u4, u5, u6, u7]))] ++ ((ruW G r9 sa u) ++ (gmW G ta h b))) ⟨hx, hb, hml, hown, hts⟩ (c_hasPlayer l G ta h b (nI o) ) (cwV 1 hts gX6_succeeds_X2_hasPlayer rfl rfl rfl (by decide +kernel) ⟨Nat.le_of_ble_eq_true rfl, Nat.le_of_ble_eq_true rfl⟩) 2 rfl rfl rfl rfl hl.1 rfl (Nat.le_of_ble_eq_true rfl) dX6_succeeds_213 ⟨Nat.le_of_ble_eq_true rfl, Nat.le_of_ble_eq_true rfl⟩ hK hE hA hM hp9 hq9 (fun H locs hM hz => ?_)
      refine z_ifeq (tgt := 239) hx hb dX6_succeeds_216 (by decide) (fun c_4 => Bool.noConfusion (hpq.symm.trans c_4)) (fun c_4 => ?_)
      have hoP : o < P := (zHp_lt hP hP4 (by omega)).mp hpq
      refine lv_aload_n hx hb dX6_succeeds_219 rfl (lv_at hl 4 rfl) ?_
      refine z_get (ci := 6) (v := .ref ta.1) (C := RX6) (T := TX6) (N := 8) hx hb hts (by decide +kernel) hown hK hM 0 rfl rfl 2 (by decide) (hts (.fieldLink RX6 23 "ShiftIsles" "trial" "LShiftIsles$Game;") (by decide +kernel)) (fun _ h9 => h9) rfl dX6_succeeds_220 ?_
      refine lv_iload_n hx hb dX6_succeeds_223 rfl (lv_at hl 3 rfl) ?_
      have hp9 : List.Perm ([(o9, .inr (6, [u0, u1, .ref ta.1, .ref r9, u4, u5, u6, u7]))] ++ ((ruW G r9 sa u) ++ (gmW G ta h b)) : va_W) ((gmW G ta h b) ++ ([(o9, .inr (6, [u0, u1, .ref ta.1, .ref r9, u4, u5, u6, u7]))] ++ (ruW G r9 sa u))) := (pm_cut (cs := [[(o9, .inr (6, [u0, u1, .ref ta.1, .ref r9, u4, u5, u6, u7]))], ruW G r9 sa u, gmW G ta h b]) (sub := [gmW G ta h b]) (rest := [[(o9, .inr (6, [u0, u1, .ref ta.1, .ref r9, u4, u5, u6, u7]))], ruW G r9 sa u]) 3 [2] [0, 1] rfl rfl rfl (by decide))
      have hq9 : List.Perm ((gmW G ta h b) ++ ([(o9, .inr (6, [u0, u1, .ref ta.1, .ref r9, u4, u5, u6, u7]))] ++ (ruW G r9 sa u))) ([(o9, .inr (6, [u0, u1, .ref ta.1, .ref r9, u4, u5, u6, u7]))] ++ ((ruW G r9 sa u) ++ (gmW G ta h b)) : va_W) := (pm_put (cs := [[(o9, .inr (6, [u0, u1, .ref ta.1, .ref r9, u4, u5, u6, u7]))], ruW G r9 sa u, gmW G ta h b]) (sub := [gmW G ta h b]) (rest := [[(o9, .inr (6, [u0, u1, .ref ta.1, .ref r9, u4, u5, u6, u7]))], ruW G r9 sa u]) 3 [2] [0, 1] rfl rfl rfl (by decide))
      refine z_callV (As := [.int (nI o)]) (rest := []) (wc := gmW G ta h b) (wr := [(o9, .inr (6, [u0, u1, .ref ta.1, .ref r9, u4, u5, u6, u7]))] ++ (ruW G r9 sa u)) (w1 := gmW G ta h b) (ws' := [(o9, .inr (6, [u0, u1, .ref ta.1, .ref r9, u4, u5, u6, u7]))] ++ ((ruW G r9 sa u) ++ (gmW G ta h b))) ⟨hx, hb, hml, hown, hts⟩ (c_boardOf l G ta h b o (by omega) ) (cwV 1 hts gX6_succeeds_X2_boardOf rfl rfl rfl (by decide +kernel) ⟨Nat.le_of_ble_eq_true rfl, Nat.le_of_ble_eq_true rfl⟩) 2 rfl rfl rfl rfl hl.1 rfl (Nat.le_of_ble_eq_true rfl) dX6_succeeds_224 ⟨Nat.le_of_ble_eq_true rfl, Nat.le_of_ble_eq_true rfl⟩ hK hE hA hM hp9 hq9 (fun H locs hM hz => ?_)
      have hM : zM G A s H locs ([(o9, .inr (6, [u0, u1, .ref ta.1, .ref r9, u4, u5, u6, u7]))] ++ ((ruW G r9 sa u) ++ ((gmX G ta h) ++ ((bdW G (ta.2.2.2 o) (b o)) ++ (bdsR G ta.2.2.2 b o))))) := zM_perm (List.Perm.append_left ([(o9, .inr (6, [u0, u1, .ref ta.1, .ref r9, u4, u5, u6, u7]))] ++ (ruW G r9 sa u)) (List.Perm.append_left (gmX G ta h) (bds_pm (show o < 4 by omega)))) hM
      have hp9 : List.Perm ([(o9, .inr (6, [u0, u1, .ref ta.1, .ref r9, u4, u5, u6, u7]))] ++ ((ruW G r9 sa u) ++ ((gmX G ta h) ++ ((bdW G (ta.2.2.2 o) (b o)) ++ (bdsR G ta.2.2.2 b o)))) : va_W) ((bdW G (ta.2.2.2 o) (b o)) ++ ([(o9, .inr (6, [u0, u1, .ref ta.1, .ref r9, u4, u5, u6, u7]))] ++ ((ruW G r9 sa u) ++ ((gmX G ta h) ++ (bdsR G ta.2.2.2 b o))))) := (pm_cut (cs := [[(o9, .inr (6, [u0, u1, .ref ta.1, .ref r9, u4, u5, u6, u7]))], ruW G r9 sa u, gmX G ta h, bdW G (ta.2.2.2 o) (b o), bdsR G ta.2.2.2 b o]) (sub := [bdW G (ta.2.2.2 o) (b o)]) (rest := [[(o9, .inr (6, [u0, u1, .ref ta.1, .ref r9, u4, u5, u6, u7]))], ruW G r9 sa u, gmX G ta h, bdsR G ta.2.2.2 b o]) 5 [3] [0, 1, 2, 4] rfl rfl rfl (by decide))
      have hq9 : List.Perm ((bdW G (ta.2.2.2 o) (b o)) ++ ([(o9, .inr (6, [u0, u1, .ref ta.1, .ref r9, u4, u5, u6, u7]))] ++ ((ruW G r9 sa u) ++ ((gmX G ta h) ++ (bdsR G ta.2.2.2 b o))))) ([(o9, .inr (6, [u0, u1, .ref ta.1, .ref r9, u4, u5, u6, u7]))] ++ ((ruW G r9 sa u) ++ ((gmX G ta h) ++ ((bdW G (ta.2.2.2 o) (b o)) ++ (bdsR G ta.2.2.2 b o)))) : va_W) := (pm_put (cs := [[(o9, .inr (6, [u0, u1, .ref ta.1, .ref r9, u4, u5, u6, u7]))], ruW G r9 sa u, gmX G ta h, bdW G (ta.2.2.2 o) (b o), bdsR G ta.2.2.2 b o]) (sub := [bdW G (ta.2.2.2 o) (b o)]) (rest := [[(o9, .inr (6, [u0, u1, .ref ta.1, .ref r9, u4, u5, u6, u7]))], ruW G r9 sa u, gmX G ta h, bdsR G ta.2.2.2 b o]) 5 [3] [0, 1, 2, 4] rfl rfl rfl (by decide))
      refine z_callV (As := []) (rest := []) (wc := bdW G (ta.2.2.2 o) (b o)) (wr := [(o9, .inr (6, [u0, u1, .ref ta.1, .ref r9, u4, u5, u6, u7]))] ++ ((ruW G r9 sa u) ++ ((gmX G ta h) ++ (bdsR G ta.2.2.2 b o)))) (w1 := bdW G (ta.2.2.2 o) (b o)) (ws' := [(o9, .inr (6, [u0, u1, .ref ta.1, .ref r9, u4, u5, u6, u7]))] ++ ((ruW G r9 sa u) ++ ((gmX G ta h) ++ ((bdW G (ta.2.2.2 o) (b o)) ++ (bdsR G ta.2.2.2 b o))))) ⟨hx, hb, hml, hown, hts⟩ (c_taken l G (ta.2.2.2 o) (b o)  ) (cwV 0 hts gX6_succeeds_X0_taken rfl rfl rfl (by decide +kernel) ⟨Nat.le_of_ble_eq_true rfl, Nat.le_of_ble_eq_true rfl⟩) 0 rfl rfl rfl rfl hl.1 rfl (Nat.le_of_ble_eq_true rfl) dX6_succeeds_227 ⟨Nat.le_of_ble_eq_true rfl, Nat.le_of_ble_eq_true rfl⟩ hK hE hA hM hp9 hq9 (fun H locs hM hz => ?_)
      have hM : zM G A s H locs ([(o9, .inr (6, [u0, u1, .ref ta.1, .ref r9, u4, u5, u6, u7]))] ++ ((ruW G r9 sa u) ++ (gmW G ta h b))) := zM_perm (List.Perm.append_left ([(o9, .inr (6, [u0, u1, .ref ta.1, .ref r9, u4, u5, u6, u7]))] ++ (ruW G r9 sa u)) (List.Perm.append_left (gmX G ta h) (bds_pm (show o < 4 by omega)).symm)) hM
      refine lv_iload hx hb dX6_succeeds_230 (lv_at hl 1 rfl) ?_
      refine lv_icmp_lt (tgt := 239) hx hb dX6_succeeds_232 (by decide) (fun c_l => ?_) (fun c_l => ?_)
      · skip
        refine lv_iconst (v := 0) hx hb dX6_succeeds_239 (by decide) ?_
        exact z_zret hx hb hr hlocks dX6_succeeds_240 hM (Nat.le_of_ble_eq_true rfl) (Nat.le_of_ble_eq_true rfl) (by first | exact Or.inl rfl | exact Or.inr rfl | exact zb_01 _) (by rw [decide_eq_false (Int32.not_le.mpr c_l)]; rfl)
      · skip
        refine lv_iconst (v := 1) hx hb dX6_succeeds_235 (by decide) ?_
        refine lv_goto (tgt := 240) hx hb dX6_succeeds_236 (by decide) ?_
        exact z_zret hx hb hr hlocks dX6_succeeds_240 hM (Nat.le_of_ble_eq_true rfl) (Nat.le_of_ble_eq_true rfl) (by first | exact Or.inl rfl | exact Or.inr rfl | exact zb_01 _) (by rw [decide_eq_true (Int32.not_lt.mp c_l)]; rfl)
    · skip
      refine lv_iconst (v := 1) hx hb dX6_succeeds_30 (by decide) ?_
      refine lv_goto (tgt := 35) hx hb dX6_succeeds_31 (by decide) ?_
      refine lv_istore (lv' := [(5, .int 1), (4, .int (nI j)), (3, .int (nI 0)), (2, .int (nI o)), (0, .ref o9), (1, .int (nI (1000 * 6 + 100 * o + 10 * 0 + j)))]) hx hb dX6_succeeds_35 hl (by decide) rfl (fun ls hl => ?_)
      refine lv_iload_n hx hb dX6_succeeds_37 rfl (lv_at hl 5 rfl) ?_
      refine lv_sipush (v := 1000) hx hb dX6_succeeds_38 (by decide) ?_
      refine lv_idiv hx hb dX6_succeeds_41 (by decide) ?_
      refine z_topi (y := nI ((1000 * 6 + 100 * o + 10 * 0 + j) / 1000)) (pk_div (a := (1000 * 6 + 100 * o + 10 * 0 + j)) (d := 1000) (by omega) (by decide) (by decide)) ?_
      refine z_topi (y := 6) (by rw [show (1000 * 6 + 100 * o + 10 * 0 + j) / 1000 = 6 by omega]; rfl) ?_
      refine lv_tableIn (off := 162) (tgt := 204) hx hb dX6_succeeds_42 (by decide) (by decide) rfl (by decide) ?_
      refine lv_iload_n hx hb dX6_succeeds_204 rfl (lv_at hl 2 rfl) ?_
      refine lv_if_ne (tgt := 239) hx hb dX6_succeeds_205 (by decide) (fun c_5 => absurd rfl c_5) (fun c_5 => ?_)
      refine lv_aload_n hx hb dX6_succeeds_208 rfl (lv_at hl 4 rfl) ?_
      refine z_get (ci := 6) (v := .ref ta.1) (C := RX6) (T := TX6) (N := 8) hx hb hts (by decide +kernel) hown hK hM 0 rfl rfl 2 (by decide) (hts (.fieldLink RX6 23 "ShiftIsles" "trial" "LShiftIsles$Game;") (by decide +kernel)) (fun _ h9 => h9) rfl dX6_succeeds_209 ?_
      refine lv_iload_n hx hb dX6_succeeds_212 rfl (lv_at hl 3 rfl) ?_
      have hp9 : List.Perm ([(o9, .inr (6, [u0, u1, .ref ta.1, .ref r9, u4, u5, u6, u7]))] ++ ((ruW G r9 sa u) ++ (gmW G ta h b)) : va_W) ((gmW G ta h b) ++ ([(o9, .inr (6, [u0, u1, .ref ta.1, .ref r9, u4, u5, u6, u7]))] ++ (ruW G r9 sa u))) := (pm_cut (cs := [[(o9, .inr (6, [u0, u1, .ref ta.1, .ref r9, u4, u5, u6, u7]))], ruW G r9 sa u, gmW G ta h b]) (sub := [gmW G ta h b]) (rest := [[(o9, .inr (6, [u0, u1, .ref ta.1, .ref r9, u4, u5, u6, u7]))], ruW G r9 sa u]) 3 [2] [0, 1] rfl rfl rfl (by decide))
      have hq9 : List.Perm ((gmW G ta h b) ++ ([(o9, .inr (6, [u0, u1, .ref ta.1, .ref r9, u4, u5, u6, u7]))] ++ (ruW G r9 sa u))) ([(o9, .inr (6, [u0, u1, .ref ta.1, .ref r9, u4, u5, u6, u7]))] ++ ((ruW G r9 sa u) ++ (gmW G ta h b)) : va_W) := (pm_put (cs := [[(o9, .inr (6, [u0, u1, .ref ta.1, .ref r9, u4, u5, u6, u7]))], ruW G r9 sa u, gmW G ta h b]) (sub := [gmW G ta h b]) (rest := [[(o9, .inr (6, [u0, u1, .ref ta.1, .ref r9, u4, u5, u6, u7]))], ruW G r9 sa u]) 3 [2] [0, 1] rfl rfl rfl (by decide))
      refine z_callV (As := [.int (nI o)]) (rest := []) (wc := gmW G ta h b) (wr := [(o9, .inr (6, [u0, u1, .ref ta.1, .ref r9, u4, u5, u6, u7]))] ++ (ruW G r9 sa u)) (w1 := gmW G ta h b) (ws' := [(o9, .inr (6, [u0, u1, .ref ta.1, .ref r9, u4, u5, u6, u7]))] ++ ((ruW G r9 sa u) ++ (gmW G ta h b))) ⟨hx, hb, hml, hown, hts⟩ (c_hasPlayer l G ta h b (nI o) ) (cwV 1 hts gX6_succeeds_X2_hasPlayer rfl rfl rfl (by decide +kernel) ⟨Nat.le_of_ble_eq_true rfl, Nat.le_of_ble_eq_true rfl⟩) 2 rfl rfl rfl rfl hl.1 rfl (Nat.le_of_ble_eq_true rfl) dX6_succeeds_213 ⟨Nat.le_of_ble_eq_true rfl, Nat.le_of_ble_eq_true rfl⟩ hK hE hA hM hp9 hq9 (fun H locs hM hz => ?_)
      refine z_ifeq (tgt := 239) hx hb dX6_succeeds_216 (by decide) (fun c_6 => Bool.noConfusion (hpq.symm.trans c_6)) (fun c_6 => ?_)
      have hoP : o < P := (zHp_lt hP hP4 (by omega)).mp hpq
      refine lv_aload_n hx hb dX6_succeeds_219 rfl (lv_at hl 4 rfl) ?_
      refine z_get (ci := 6) (v := .ref ta.1) (C := RX6) (T := TX6) (N := 8) hx hb hts (by decide +kernel) hown hK hM 0 rfl rfl 2 (by decide) (hts (.fieldLink RX6 23 "ShiftIsles" "trial" "LShiftIsles$Game;") (by decide +kernel)) (fun _ h9 => h9) rfl dX6_succeeds_220 ?_
      refine lv_iload_n hx hb dX6_succeeds_223 rfl (lv_at hl 3 rfl) ?_
      have hp9 : List.Perm ([(o9, .inr (6, [u0, u1, .ref ta.1, .ref r9, u4, u5, u6, u7]))] ++ ((ruW G r9 sa u) ++ (gmW G ta h b)) : va_W) ((gmW G ta h b) ++ ([(o9, .inr (6, [u0, u1, .ref ta.1, .ref r9, u4, u5, u6, u7]))] ++ (ruW G r9 sa u))) := (pm_cut (cs := [[(o9, .inr (6, [u0, u1, .ref ta.1, .ref r9, u4, u5, u6, u7]))], ruW G r9 sa u, gmW G ta h b]) (sub := [gmW G ta h b]) (rest := [[(o9, .inr (6, [u0, u1, .ref ta.1, .ref r9, u4, u5, u6, u7]))], ruW G r9 sa u]) 3 [2] [0, 1] rfl rfl rfl (by decide))
      have hq9 : List.Perm ((gmW G ta h b) ++ ([(o9, .inr (6, [u0, u1, .ref ta.1, .ref r9, u4, u5, u6, u7]))] ++ (ruW G r9 sa u))) ([(o9, .inr (6, [u0, u1, .ref ta.1, .ref r9, u4, u5, u6, u7]))] ++ ((ruW G r9 sa u) ++ (gmW G ta h b)) : va_W) := (pm_put (cs := [[(o9, .inr (6, [u0, u1, .ref ta.1, .ref r9, u4, u5, u6, u7]))], ruW G r9 sa u, gmW G ta h b]) (sub := [gmW G ta h b]) (rest := [[(o9, .inr (6, [u0, u1, .ref ta.1, .ref r9, u4, u5, u6, u7]))], ruW G r9 sa u]) 3 [2] [0, 1] rfl rfl rfl (by decide))
      refine z_callV (As := [.int (nI o)]) (rest := []) (wc := gmW G ta h b) (wr := [(o9, .inr (6, [u0, u1, .ref ta.1, .ref r9, u4, u5, u6, u7]))] ++ (ruW G r9 sa u)) (w1 := gmW G ta h b) (ws' := [(o9, .inr (6, [u0, u1, .ref ta.1, .ref r9, u4, u5, u6, u7]))] ++ ((ruW G r9 sa u) ++ (gmW G ta h b))) ⟨hx, hb, hml, hown, hts⟩ (c_boardOf l G ta h b o (by omega) ) (cwV 1 hts gX6_succeeds_X2_boardOf rfl rfl rfl (by decide +kernel) ⟨Nat.le_of_ble_eq_true rfl, Nat.le_of_ble_eq_true rfl⟩) 2 rfl rfl rfl rfl hl.1 rfl (Nat.le_of_ble_eq_true rfl) dX6_succeeds_224 ⟨Nat.le_of_ble_eq_true rfl, Nat.le_of_ble_eq_true rfl⟩ hK hE hA hM hp9 hq9 (fun H locs hM hz => ?_)
      have hM : zM G A s H locs ([(o9, .inr (6, [u0, u1, .ref ta.1, .ref r9, u4, u5, u6, u7]))] ++ ((ruW G r9 sa u) ++ ((gmX G ta h) ++ ((bdW G (ta.2.2.2 o) (b o)) ++ (bdsR G ta.2.2.2 b o))))) := zM_perm (List.Perm.append_left ([(o9, .inr (6, [u0, u1, .ref ta.1, .ref r9, u4, u5, u6, u7]))] ++ (ruW G r9 sa u)) (List.Perm.append_left (gmX G ta h) (bds_pm (show o < 4 by omega)))) hM
      have hp9 : List.Perm ([(o9, .inr (6, [u0, u1, .ref ta.1, .ref r9, u4, u5, u6, u7]))] ++ ((ruW G r9 sa u) ++ ((gmX G ta h) ++ ((bdW G (ta.2.2.2 o) (b o)) ++ (bdsR G ta.2.2.2 b o)))) : va_W) ((bdW G (ta.2.2.2 o) (b o)) ++ ([(o9, .inr (6, [u0, u1, .ref ta.1, .ref r9, u4, u5, u6, u7]))] ++ ((ruW G r9 sa u) ++ ((gmX G ta h) ++ (bdsR G ta.2.2.2 b o))))) := (pm_cut (cs := [[(o9, .inr (6, [u0, u1, .ref ta.1, .ref r9, u4, u5, u6, u7]))], ruW G r9 sa u, gmX G ta h, bdW G (ta.2.2.2 o) (b o), bdsR G ta.2.2.2 b o]) (sub := [bdW G (ta.2.2.2 o) (b o)]) (rest := [[(o9, .inr (6, [u0, u1, .ref ta.1, .ref r9, u4, u5, u6, u7]))], ruW G r9 sa u, gmX G ta h, bdsR G ta.2.2.2 b o]) 5 [3] [0, 1, 2, 4] rfl rfl rfl (by decide))
      have hq9 : List.Perm ((bdW G (ta.2.2.2 o) (b o)) ++ ([(o9, .inr (6, [u0, u1, .ref ta.1, .ref r9, u4, u5, u6, u7]))] ++ ((ruW G r9 sa u) ++ ((gmX G ta h) ++ (bdsR G ta.2.2.2 b o))))) ([(o9, .inr (6, [u0, u1, .ref ta.1, .ref r9, u4, u5, u6, u7]))] ++ ((ruW G r9 sa u) ++ ((gmX G ta h) ++ ((bdW G (ta.2.2.2 o) (b o)) ++ (bdsR G ta.2.2.2 b o)))) : va_W) := (pm_put (cs := [[(o9, .inr (6, [u0, u1, .ref ta.1, .ref r9, u4, u5, u6, u7]))], ruW G r9 sa u, gmX G ta h, bdW G (ta.2.2.2 o) (b o), bdsR G ta.2.2.2 b o]) (sub := [bdW G (ta.2.2.2 o) (b o)]) (rest := [[(o9, .inr (6, [u0, u1, .ref ta.1, .ref r9, u4, u5, u6, u7]))], ruW G r9 sa u, gmX G ta h, bdsR G ta.2.2.2 b o]) 5 [3] [0, 1, 2, 4] rfl rfl rfl (by decide))
      refine z_callV (As := []) (rest := []) (wc := bdW G (ta.2.2.2 o) (b o)) (wr := [(o9, .inr (6, [u0, u1, .ref ta.1, .ref r9, u4, u5, u6, u7]))] ++ ((ruW G r9 sa u) ++ ((gmX G ta h) ++ (bdsR G ta.2.2.2 b o)))) (w1 := bdW G (ta.2.2.2 o) (b o)) (ws' := [(o9, .inr (6, [u0, u1, .ref ta.1, .ref r9, u4, u5, u6, u7]))] ++ ((ruW G r9 sa u) ++ ((gmX G ta h) ++ ((bdW G (ta.2.2.2 o) (b o)) ++ (bdsR G ta.2.2.2 b o))))) ⟨hx, hb, hml, hown, hts⟩ (c_taken l G (ta.2.2.2 o) (b o)  ) (cwV 0 hts gX6_succeeds_X0_taken rfl rfl rfl (by decide +kernel) ⟨Nat.le_of_ble_eq_true rfl, Nat.le_of_ble_eq_true rfl⟩) 0 rfl rfl rfl rfl hl.1 rfl (Nat.le_of_ble_eq_true rfl) dX6_succeeds_227 ⟨Nat.le_of_ble_eq_true rfl, Nat.le_of_ble_eq_true rfl⟩ hK hE hA hM hp9 hq9 (fun H locs hM hz => ?_)
      have hM : zM G A s H locs ([(o9, .inr (6, [u0, u1, .ref ta.1, .ref r9, u4, u5, u6, u7]))] ++ ((ruW G r9 sa u) ++ (gmW G ta h b))) := zM_perm (List.Perm.append_left ([(o9, .inr (6, [u0, u1, .ref ta.1, .ref r9, u4, u5, u6, u7]))] ++ (ruW G r9 sa u)) (List.Perm.append_left (gmX G ta h) (bds_pm (show o < 4 by omega)).symm)) hM
      refine lv_iload hx hb dX6_succeeds_230 (lv_at hl 1 rfl) ?_
      refine lv_icmp_lt (tgt := 239) hx hb dX6_succeeds_232 (by decide) (fun c_l => ?_) (fun c_l => ?_)
      · skip
        refine lv_iconst (v := 0) hx hb dX6_succeeds_239 (by decide) ?_
        exact z_zret hx hb hr hlocks dX6_succeeds_240 hM (Nat.le_of_ble_eq_true rfl) (Nat.le_of_ble_eq_true rfl) (by first | exact Or.inl rfl | exact Or.inr rfl | exact zb_01 _) (by rw [decide_eq_false (Int32.not_le.mpr c_l)]; rfl)
      · skip
        refine lv_iconst (v := 1) hx hb dX6_succeeds_235 (by decide) ?_
        refine lv_goto (tgt := 240) hx hb dX6_succeeds_236 (by decide) ?_
        exact z_zret hx hb hr hlocks dX6_succeeds_240 hM (Nat.le_of_ble_eq_true rfl) (Nat.le_of_ble_eq_true rfl) (by first | exact Or.inl rfl | exact Or.inr rfl | exact zb_01 _) (by rw [decide_eq_true (Int32.not_lt.mp c_l)]; rfl)

set_option maxHeartbeats 4000000 in
set_option maxRecDepth 100000 in
theorem c_su7j (l : Launch) (G : zC) (o9 : Nat) (u0 u1 u4 u5 u6 u7 : Value) (r9 : Nat) (sa : zBA) (u : zRU) (ta : zGA) (h : Nat → Int32) (b : Nat → Nat → Int32) (P t S e0 : Nat) (hG : zGs h b P t S e0) (o i j : Nat) (ho9 : o < 10) (hi9 : i < 10) (hj9 : j < 10) (hjn : ¬ j = 0) : zMet l G yX6_succeeds wsX6_succeeds rmX6_succeeds [.ref o9, .int (nI (1000 * 7 + 100 * o + 10 * i + j))] ([(o9, .inr (6, [u0, u1, .ref ta.1, .ref r9, u4, u5, u6, u7]))] ++ ((ruW G r9 sa u) ++ (gmW G ta h b))) (some (.int 0)) ([(o9, .inr (6, [u0, u1, .ref ta.1, .ref r9, u4, u5, u6, u7]))] ++ ((ruW G r9 sa u) ++ (gmW G ta h b))) := by
  refine zMet_of (cc := cX6_succeeds) (maxL := 6) (ret := (some .boolean)) (by decide) rfl (Nat.le_of_ble_eq_true rfl) ?_
  intro p e s m below meth c A ls hx hb hr hml hown hts hK hA hE hlocks hin hM hl
  have hown : s.vm.findClass RX6 = some m.cls := hown
  have hM : zM G A s s.heap [] ([(o9, .inr (6, [u0, u1, .ref ta.1, .ref r9, u4, u5, u6, u7]))] ++ ((ruW G r9 sa u) ++ (gmW G ta h b))) := hM
  have hl : lv_has ls 6 [(0, .ref o9), (1, .int (nI (1000 * 7 + 100 * o + 10 * i + j)))] := hl
  have hP4 := hG.1.1.2.1
  have hP := hG.1.1.1
  refine lv_iload_n hx hb dX6_succeeds_0 rfl (lv_at hl 1 rfl) ?_
  refine lv_bipush (v := 100) hx hb dX6_succeeds_1 (by decide) ?_
  refine lv_idiv hx hb dX6_succeeds_3 (by decide) ?_
  refine z_topi (y := nI ((1000 * 7 + 100 * o + 10 * i + j) / 100)) (pk_div (a := (1000 * 7 + 100 * o + 10 * i + j)) (d := 100) (by omega) (by decide) (by decide)) ?_
  refine lv_bipush (v := 10) hx hb dX6_succeeds_4 (by decide) ?_
  refine lv_irem hx hb dX6_succeeds_6 (by decide) ?_
  refine z_topi (y := nI (((1000 * 7 + 100 * o + 10 * i + j) / 100) % 10)) (pk_rem (a := ((1000 * 7 + 100 * o + 10 * i + j) / 100)) (d := 10) (by omega) (by decide) (by decide)) ?_
  refine z_topi (y := nI o) (by rw [show (1000 * 7 + 100 * o + 10 * i + j) / 100 % 10 = o by omega]) ?_
  refine lv_istore_n (lv' := [(2, .int (nI o)), (0, .ref o9), (1, .int (nI (1000 * 7 + 100 * o + 10 * i + j)))]) hx hb dX6_succeeds_7 rfl hl (by decide) rfl (fun ls hl => ?_)
  refine lv_iload_n hx hb dX6_succeeds_8 rfl (lv_at hl 2 rfl) ?_
  refine lv_bipush (v := 10) hx hb dX6_succeeds_9 (by decide) ?_
  refine lv_idiv hx hb dX6_succeeds_11 (by decide) ?_
  refine z_topi (y := nI ((1000 * 7 + 100 * o + 10 * i + j) / 10)) (pk_div (a := (1000 * 7 + 100 * o + 10 * i + j)) (d := 10) (by omega) (by decide) (by decide)) ?_
  refine lv_bipush (v := 10) hx hb dX6_succeeds_12 (by decide) ?_
  refine lv_irem hx hb dX6_succeeds_14 (by decide) ?_
  refine z_topi (y := nI (((1000 * 7 + 100 * o + 10 * i + j) / 10) % 10)) (pk_rem (a := ((1000 * 7 + 100 * o + 10 * i + j) / 10)) (d := 10) (by omega) (by decide) (by decide)) ?_
  refine z_topi (y := nI i) (by rw [show (1000 * 7 + 100 * o + 10 * i + j) / 10 % 10 = i by omega]) ?_
  refine lv_istore_n (lv' := [(3, .int (nI i)), (2, .int (nI o)), (0, .ref o9), (1, .int (nI (1000 * 7 + 100 * o + 10 * i + j)))]) hx hb dX6_succeeds_15 rfl hl (by decide) rfl (fun ls hl => ?_)
  refine lv_iload_n hx hb dX6_succeeds_16 rfl (lv_at hl 3 rfl) ?_
  refine lv_bipush (v := 10) hx hb dX6_succeeds_17 (by decide) ?_
  refine lv_irem hx hb dX6_succeeds_19 (by decide) ?_
  refine z_topi (y := nI ((1000 * 7 + 100 * o + 10 * i + j) % 10)) (pk_rem (a := (1000 * 7 + 100 * o + 10 * i + j)) (d := 10) (by omega) (by decide) (by decide)) ?_
  refine z_topi (y := nI j) (by rw [show (1000 * 7 + 100 * o + 10 * i + j) % 10 = j by omega]) ?_
  refine lv_istore (lv' := [(4, .int (nI j)), (3, .int (nI i)), (2, .int (nI o)), (0, .ref o9), (1, .int (nI (1000 * 7 + 100 * o + 10 * i + j)))]) hx hb dX6_succeeds_20 hl (by decide) rfl (fun ls hl => ?_)
  refine lv_iload_n hx hb dX6_succeeds_22 rfl (lv_at hl 2 rfl) ?_
  refine lv_if_ne (tgt := 34) hx hb dX6_succeeds_23 (by decide) (fun c_z1 => ?_) (fun c_z1 => ?_)
  · skip
    refine lv_iconst (v := 0) hx hb dX6_succeeds_34 (by decide) ?_
    refine lv_istore (lv' := [(5, .int 0), (4, .int (nI j)), (3, .int (nI i)), (2, .int (nI o)), (0, .ref o9), (1, .int (nI (1000 * 7 + 100 * o + 10 * i + j)))]) hx hb dX6_succeeds_35 hl (by decide) rfl (fun ls hl => ?_)
    refine lv_iload_n hx hb dX6_succeeds_37 rfl (lv_at hl 5 rfl) ?_
    refine lv_sipush (v := 1000) hx hb dX6_succeeds_38 (by decide) ?_
    refine lv_idiv hx hb dX6_succeeds_41 (by decide) ?_
    refine z_topi (y := nI ((1000 * 7 + 100 * o + 10 * i + j) / 1000)) (pk_div (a := (1000 * 7 + 100 * o + 10 * i + j)) (d := 1000) (by omega) (by decide) (by decide)) ?_
    refine z_topi (y := 7) (by rw [show (1000 * 7 + 100 * o + 10 * i + j) / 1000 = 7 by omega]; rfl) ?_
    refine lv_tableIn (off := 199) (tgt := 241) hx hb dX6_succeeds_42 (by decide) (by decide) rfl (by decide) ?_
    refine lv_iload hx hb dX6_succeeds_241 (lv_at hl 1 rfl) ?_
    refine lv_if_ne (tgt := 283) hx hb dX6_succeeds_243 (by decide) (fun c_1 => ?_) (fun c_1 => absurd ((nI_eq (a := j) (b := 0) (by omega) (by decide)).mp c_1) hjn)
    refine lv_iconst (v := 0) hx hb dX6_succeeds_283 (by decide) ?_
    exact z_zret hx hb hr hlocks dX6_succeeds_284 hM (Nat.le_of_ble_eq_true rfl) (Nat.le_of_ble_eq_true rfl) (by first | exact Or.inl rfl | exact Or.inr rfl | exact zb_01 _) rfl
  · skip
    refine lv_iload_n hx hb dX6_succeeds_26 rfl (lv_at hl 1 rfl) ?_
    refine lv_if_ne (tgt := 34) hx hb dX6_succeeds_27 (by decide) (fun c_z2 => ?_) (fun c_z2 => ?_)
    · skip
      refine lv_iconst (v := 0) hx hb dX6_succeeds_34 (by decide) ?_
      refine lv_istore (lv' := [(5, .int 0), (4, .int (nI j)), (3, .int (nI i)), (2, .int (nI o)), (0, .ref o9), (1, .int (nI (1000 * 7 + 100 * o + 10 * i + j)))]) hx hb dX6_succeeds_35 hl (by decide) rfl (fun ls hl => ?_)
      refine lv_iload_n hx hb dX6_succeeds_37 rfl (lv_at hl 5 rfl) ?_
      refine lv_sipush (v := 1000) hx hb dX6_succeeds_38 (by decide) ?_
      refine lv_idiv hx hb dX6_succeeds_41 (by decide) ?_
      refine z_topi (y := nI ((1000 * 7 + 100 * o + 10 * i + j) / 1000)) (pk_div (a := (1000 * 7 + 100 * o + 10 * i + j)) (d := 1000) (by omega) (by decide) (by decide)) ?_
      refine z_topi (y := 7) (by rw [show (1000 * 7 + 100 * o + 10 * i + j) / 1000 = 7 by omega]; rfl) ?_
      refine lv_tableIn (off := 199) (tgt := 241) hx hb dX6_succeeds_42 (by decide) (by decide) rfl (by decide) ?_
      refine lv_iload hx hb dX6_succeeds_241 (lv_at hl 1 rfl) ?_
      refine lv_if_ne (tgt := 283) hx hb dX6_succeeds_243 (by decide) (fun c_2 => ?_) (fun c_2 => absurd ((nI_eq (a := j) (b := 0) (by omega) (by decide)).mp c_2) hjn)
      refine lv_iconst (v := 0) hx hb dX6_succeeds_283 (by decide) ?_
      exact z_zret hx hb hr hlocks dX6_succeeds_284 hM (Nat.le_of_ble_eq_true rfl) (Nat.le_of_ble_eq_true rfl) (by first | exact Or.inl rfl | exact Or.inr rfl | exact zb_01 _) rfl
    · skip
      refine lv_iconst (v := 1) hx hb dX6_succeeds_30 (by decide) ?_
      refine lv_goto (tgt := 35) hx hb dX6_succeeds_31 (by decide) ?_
      refine lv_istore (lv' := [(5, .int 1), (4, .int (nI j)), (3, .int (nI i)), (2, .int (nI o)), (0, .ref o9), (1, .int (nI (1000 * 7 + 100 * o + 10 * i + j)))]) hx hb dX6_succeeds_35 hl (by decide) rfl (fun ls hl => ?_)
      refine lv_iload_n hx hb dX6_succeeds_37 rfl (lv_at hl 5 rfl) ?_
      refine lv_sipush (v := 1000) hx hb dX6_succeeds_38 (by decide) ?_
      refine lv_idiv hx hb dX6_succeeds_41 (by decide) ?_
      refine z_topi (y := nI ((1000 * 7 + 100 * o + 10 * i + j) / 1000)) (pk_div (a := (1000 * 7 + 100 * o + 10 * i + j)) (d := 1000) (by omega) (by decide) (by decide)) ?_
      refine z_topi (y := 7) (by rw [show (1000 * 7 + 100 * o + 10 * i + j) / 1000 = 7 by omega]; rfl) ?_
      refine lv_tableIn (off := 199) (tgt := 241) hx hb dX6_succeeds_42 (by decide) (by decide) rfl (by decide) ?_
      refine lv_iload hx hb dX6_succeeds_241 (lv_at hl 1 rfl) ?_
      refine lv_if_ne (tgt := 283) hx hb dX6_succeeds_243 (by decide) (fun c_3 => ?_) (fun c_3 => absurd ((nI_eq (a := j) (b := 0) (by omega) (by decide)).mp c_3) hjn)
      refine lv_iconst (v := 0) hx hb dX6_succeeds_283 (by decide) ?_
      exact z_zret hx hb hr hlocks dX6_succeeds_284 hM (Nat.le_of_ble_eq_true rfl) (Nat.le_of_ble_eq_true rfl) (by first | exact Or.inl rfl | exact Or.inr rfl | exact zb_01 _) rfl

set_option maxHeartbeats 4000000 in
set_option maxRecDepth 100000 in
theorem c_su7p (l : Launch) (G : zC) (o9 : Nat) (u0 u1 u4 u5 u6 u7 : Value) (r9 : Nat) (sa : zBA) (u : zRU) (ta : zGA) (h : Nat → Int32) (b : Nat → Nat → Int32) (P t S e0 : Nat) (hG : zGs h b P t S e0) (o i j : Nat) (ho9 : o < 10) (hi9 : i < 10) (hj9 : j < 10) (hpq : (zHp h (nI o) && zLi (nI i)) = false) : zMet l G yX6_succeeds wsX6_succeeds rmX6_succeeds [.ref o9, .int (nI (1000 * 7 + 100 * o + 10 * i + j))] ([(o9, .inr (6, [u0, u1, .ref ta.1, .ref r9, u4, u5, u6, u7]))] ++ ((ruW G r9 sa u) ++ (gmW G ta h b))) (some (.int 0)) ([(o9, .inr (6, [u0, u1, .ref ta.1, .ref r9, u4, u5, u6, u7]))] ++ ((ruW G r9 sa u) ++ (gmW G ta h b))) := by
  refine zMet_of (cc := cX6_succeeds) (maxL := 6) (ret := (some .boolean)) (by decide) rfl (Nat.le_of_ble_eq_true rfl) ?_
  intro p e s m below meth c A ls hx hb hr hml hown hts hK hA hE hlocks hin hM hl
  have hown : s.vm.findClass RX6 = some m.cls := hown
  have hM : zM G A s s.heap [] ([(o9, .inr (6, [u0, u1, .ref ta.1, .ref r9, u4, u5, u6, u7]))] ++ ((ruW G r9 sa u) ++ (gmW G ta h b))) := hM
  have hl : lv_has ls 6 [(0, .ref o9), (1, .int (nI (1000 * 7 + 100 * o + 10 * i + j)))] := hl
  have hP4 := hG.1.1.2.1
  have hP := hG.1.1.1
  refine lv_iload_n hx hb dX6_succeeds_0 rfl (lv_at hl 1 rfl) ?_
  refine lv_bipush (v := 100) hx hb dX6_succeeds_1 (by decide) ?_
  refine lv_idiv hx hb dX6_succeeds_3 (by decide) ?_
  refine z_topi (y := nI ((1000 * 7 + 100 * o + 10 * i + j) / 100)) (pk_div (a := (1000 * 7 + 100 * o + 10 * i + j)) (d := 100) (by omega) (by decide) (by decide)) ?_
  refine lv_bipush (v := 10) hx hb dX6_succeeds_4 (by decide) ?_
  refine lv_irem hx hb dX6_succeeds_6 (by decide) ?_
  refine z_topi (y := nI (((1000 * 7 + 100 * o + 10 * i + j) / 100) % 10)) (pk_rem (a := ((1000 * 7 + 100 * o + 10 * i + j) / 100)) (d := 10) (by omega) (by decide) (by decide)) ?_
  refine z_topi (y := nI o) (by rw [show (1000 * 7 + 100 * o + 10 * i + j) / 100 % 10 = o by omega]) ?_
  refine lv_istore_n (lv' := [(2, .int (nI o)), (0, .ref o9), (1, .int (nI (1000 * 7 + 100 * o + 10 * i + j)))]) hx hb dX6_succeeds_7 rfl hl (by decide) rfl (fun ls hl => ?_)
  refine lv_iload_n hx hb dX6_succeeds_8 rfl (lv_at hl 2 rfl) ?_
  refine lv_bipush (v := 10) hx hb dX6_succeeds_9 (by decide) ?_
  refine lv_idiv hx hb dX6_succeeds_11 (by decide) ?_
  refine z_topi (y := nI ((1000 * 7 + 100 * o + 10 * i + j) / 10)) (pk_div (a := (1000 * 7 + 100 * o + 10 * i + j)) (d := 10) (by omega) (by decide) (by decide)) ?_
  refine lv_bipush (v := 10) hx hb dX6_succeeds_12 (by decide) ?_
  refine lv_irem hx hb dX6_succeeds_14 (by decide) ?_
  refine z_topi (y := nI (((1000 * 7 + 100 * o + 10 * i + j) / 10) % 10)) (pk_rem (a := ((1000 * 7 + 100 * o + 10 * i + j) / 10)) (d := 10) (by omega) (by decide) (by decide)) ?_
  refine z_topi (y := nI i) (by rw [show (1000 * 7 + 100 * o + 10 * i + j) / 10 % 10 = i by omega]) ?_
  refine lv_istore_n (lv' := [(3, .int (nI i)), (2, .int (nI o)), (0, .ref o9), (1, .int (nI (1000 * 7 + 100 * o + 10 * i + j)))]) hx hb dX6_succeeds_15 rfl hl (by decide) rfl (fun ls hl => ?_)
  refine lv_iload_n hx hb dX6_succeeds_16 rfl (lv_at hl 3 rfl) ?_
  refine lv_bipush (v := 10) hx hb dX6_succeeds_17 (by decide) ?_
  refine lv_irem hx hb dX6_succeeds_19 (by decide) ?_
  refine z_topi (y := nI ((1000 * 7 + 100 * o + 10 * i + j) % 10)) (pk_rem (a := (1000 * 7 + 100 * o + 10 * i + j)) (d := 10) (by omega) (by decide) (by decide)) ?_
  refine z_topi (y := nI j) (by rw [show (1000 * 7 + 100 * o + 10 * i + j) % 10 = j by omega]) ?_
  refine lv_istore (lv' := [(4, .int (nI j)), (3, .int (nI i)), (2, .int (nI o)), (0, .ref o9), (1, .int (nI (1000 * 7 + 100 * o + 10 * i + j)))]) hx hb dX6_succeeds_20 hl (by decide) rfl (fun ls hl => ?_)
  refine lv_iload_n hx hb dX6_succeeds_22 rfl (lv_at hl 2 rfl) ?_
  refine lv_if_ne (tgt := 34) hx hb dX6_succeeds_23 (by decide) (fun c_z1 => ?_) (fun c_z1 => ?_)
  · skip
    refine lv_iconst (v := 0) hx hb dX6_succeeds_34 (by decide) ?_
    refine lv_istore (lv' := [(5, .int 0), (4, .int (nI j)), (3, .int (nI i)), (2, .int (nI o)), (0, .ref o9), (1, .int (nI (1000 * 7 + 100 * o + 10 * i + j)))]) hx hb dX6_succeeds_35 hl (by decide) rfl (fun ls hl => ?_)
    refine lv_iload_n hx hb dX6_succeeds_37 rfl (lv_at hl 5 rfl) ?_
    refine lv_sipush (v := 1000) hx hb dX6_succeeds_38 (by decide) ?_
    refine lv_idiv hx hb dX6_succeeds_41 (by decide) ?_
    refine z_topi (y := nI ((1000 * 7 + 100 * o + 10 * i + j) / 1000)) (pk_div (a := (1000 * 7 + 100 * o + 10 * i + j)) (d := 1000) (by omega) (by decide) (by decide)) ?_
    refine z_topi (y := 7) (by rw [show (1000 * 7 + 100 * o + 10 * i + j) / 1000 = 7 by omega]; rfl) ?_
    refine lv_tableIn (off := 199) (tgt := 241) hx hb dX6_succeeds_42 (by decide) (by decide) rfl (by decide) ?_
    refine lv_iload hx hb dX6_succeeds_241 (lv_at hl 1 rfl) ?_
    refine lv_if_ne (tgt := 283) hx hb dX6_succeeds_243 (by decide) (fun c_z3 => ?_) (fun c_z3 => ?_)
    · skip
      refine lv_iconst (v := 0) hx hb dX6_succeeds_283 (by decide) ?_
      exact z_zret hx hb hr hlocks dX6_succeeds_284 hM (Nat.le_of_ble_eq_true rfl) (Nat.le_of_ble_eq_true rfl) (by first | exact Or.inl rfl | exact Or.inr rfl | exact zb_01 _) rfl
    · skip
      refine lv_aload_n hx hb dX6_succeeds_246 rfl (lv_at hl 4 rfl) ?_
      refine z_get (ci := 6) (v := .ref ta.1) (C := RX6) (T := TX6) (N := 8) hx hb hts (by decide +kernel) hown hK hM 0 rfl rfl 2 (by decide) (hts (.fieldLink RX6 23 "ShiftIsles" "trial" "LShiftIsles$Game;") (by decide +kernel)) (fun _ h9 => h9) rfl dX6_succeeds_247 ?_
      refine lv_iload_n hx hb dX6_succeeds_250 rfl (lv_at hl 3 rfl) ?_
      have hp9 : List.Perm ([(o9, .inr (6, [u0, u1, .ref ta.1, .ref r9, u4, u5, u6, u7]))] ++ ((ruW G r9 sa u) ++ (gmW G ta h b)) : va_W) ((gmW G ta h b) ++ ([(o9, .inr (6, [u0, u1, .ref ta.1, .ref r9, u4, u5, u6, u7]))] ++ (ruW G r9 sa u))) := (pm_cut (cs := [[(o9, .inr (6, [u0, u1, .ref ta.1, .ref r9, u4, u5, u6, u7]))], ruW G r9 sa u, gmW G ta h b]) (sub := [gmW G ta h b]) (rest := [[(o9, .inr (6, [u0, u1, .ref ta.1, .ref r9, u4, u5, u6, u7]))], ruW G r9 sa u]) 3 [2] [0, 1] rfl rfl rfl (by decide))
      have hq9 : List.Perm ((gmW G ta h b) ++ ([(o9, .inr (6, [u0, u1, .ref ta.1, .ref r9, u4, u5, u6, u7]))] ++ (ruW G r9 sa u))) ([(o9, .inr (6, [u0, u1, .ref ta.1, .ref r9, u4, u5, u6, u7]))] ++ ((ruW G r9 sa u) ++ (gmW G ta h b)) : va_W) := (pm_put (cs := [[(o9, .inr (6, [u0, u1, .ref ta.1, .ref r9, u4, u5, u6, u7]))], ruW G r9 sa u, gmW G ta h b]) (sub := [gmW G ta h b]) (rest := [[(o9, .inr (6, [u0, u1, .ref ta.1, .ref r9, u4, u5, u6, u7]))], ruW G r9 sa u]) 3 [2] [0, 1] rfl rfl rfl (by decide))
      refine z_callV (As := [.int (nI o)]) (rest := []) (wc := gmW G ta h b) (wr := [(o9, .inr (6, [u0, u1, .ref ta.1, .ref r9, u4, u5, u6, u7]))] ++ (ruW G r9 sa u)) (w1 := gmW G ta h b) (ws' := [(o9, .inr (6, [u0, u1, .ref ta.1, .ref r9, u4, u5, u6, u7]))] ++ ((ruW G r9 sa u) ++ (gmW G ta h b))) ⟨hx, hb, hml, hown, hts⟩ (c_hasPlayer l G ta h b (nI o) ) (cwV 1 hts gX6_succeeds_X2_hasPlayer rfl rfl rfl (by decide +kernel) ⟨Nat.le_of_ble_eq_true rfl, Nat.le_of_ble_eq_true rfl⟩) 2 rfl rfl rfl rfl hl.1 rfl (Nat.le_of_ble_eq_true rfl) dX6_succeeds_251 ⟨Nat.le_of_ble_eq_true rfl, Nat.le_of_ble_eq_true rfl⟩ hK hE hA hM hp9 hq9 (fun H locs hM hz => ?_)
      refine z_ifeq (tgt := 283) hx hb dX6_succeeds_254 (by decide) (fun c_p => ?_) (fun c_p => ?_)
      · skip
        refine lv_iconst (v := 0) hx hb dX6_succeeds_283 (by decide) ?_
        exact z_zret hx hb hr hlocks dX6_succeeds_284 hM (Nat.le_of_ble_eq_true rfl) (Nat.le_of_ble_eq_true rfl) (by first | exact Or.inl rfl | exact Or.inr rfl | exact zb_01 _) rfl
      · skip
        refine lv_iload_n hx hb dX6_succeeds_257 rfl (lv_at hl 2 rfl) ?_
        refine z_callS (As := [.int (nI i)]) (rest := []) (wc := []) (wr := [(o9, .inr (6, [u0, u1, .ref ta.1, .ref r9, u4, u5, u6, u7]))] ++ ((ruW G r9 sa u) ++ (gmW G ta h b))) (w1 := []) (ws' := [(o9, .inr (6, [u0, u1, .ref ta.1, .ref r9, u4, u5, u6, u7]))] ++ ((ruW G r9 sa u) ++ (gmW G ta h b))) ⟨hx, hb, hml, hown, hts⟩ (c_isLine l G (nI i)) (va_cwS 1 hts gX6_succeeds_X6_isLine rfl rfl rfl (by decide +kernel) ⟨Nat.le_of_ble_eq_true rfl, Nat.le_of_ble_eq_true rfl⟩) rfl hl.1 rfl (Nat.le_of_ble_eq_true rfl) dX6_succeeds_258 ⟨Nat.le_of_ble_eq_true rfl, Nat.le_of_ble_eq_true rfl⟩ hK hE hA hM (List.Perm.refl _) (List.Perm.refl _) (fun H locs hM hz => ?_)
        refine z_ifeq (tgt := 283) hx hb dX6_succeeds_261 (by decide) (fun c_1 => ?_) (fun c_1 => (by rw [c_p, c_1] at hpq; exact Bool.noConfusion hpq))
        refine lv_iconst (v := 0) hx hb dX6_succeeds_283 (by decide) ?_
        exact z_zret hx hb hr hlocks dX6_succeeds_284 hM (Nat.le_of_ble_eq_true rfl) (Nat.le_of_ble_eq_true rfl) (by first | exact Or.inl rfl | exact Or.inr rfl | exact zb_01 _) rfl
  · skip
    refine lv_iload_n hx hb dX6_succeeds_26 rfl (lv_at hl 1 rfl) ?_
    refine lv_if_ne (tgt := 34) hx hb dX6_succeeds_27 (by decide) (fun c_z2 => ?_) (fun c_z2 => ?_)
    · skip
      refine lv_iconst (v := 0) hx hb dX6_succeeds_34 (by decide) ?_
      refine lv_istore (lv' := [(5, .int 0), (4, .int (nI j)), (3, .int (nI i)), (2, .int (nI o)), (0, .ref o9), (1, .int (nI (1000 * 7 + 100 * o + 10 * i + j)))]) hx hb dX6_succeeds_35 hl (by decide) rfl (fun ls hl => ?_)
      refine lv_iload_n hx hb dX6_succeeds_37 rfl (lv_at hl 5 rfl) ?_
      refine lv_sipush (v := 1000) hx hb dX6_succeeds_38 (by decide) ?_
      refine lv_idiv hx hb dX6_succeeds_41 (by decide) ?_
      refine z_topi (y := nI ((1000 * 7 + 100 * o + 10 * i + j) / 1000)) (pk_div (a := (1000 * 7 + 100 * o + 10 * i + j)) (d := 1000) (by omega) (by decide) (by decide)) ?_
      refine z_topi (y := 7) (by rw [show (1000 * 7 + 100 * o + 10 * i + j) / 1000 = 7 by omega]; rfl) ?_
      refine lv_tableIn (off := 199) (tgt := 241) hx hb dX6_succeeds_42 (by decide) (by decide) rfl (by decide) ?_
      refine lv_iload hx hb dX6_succeeds_241 (lv_at hl 1 rfl) ?_
      refine lv_if_ne (tgt := 283) hx hb dX6_succeeds_243 (by decide) (fun c_z3 => ?_) (fun c_z3 => ?_)
      · skip
        refine lv_iconst (v := 0) hx hb dX6_succeeds_283 (by decide) ?_
        exact z_zret hx hb hr hlocks dX6_succeeds_284 hM (Nat.le_of_ble_eq_true rfl) (Nat.le_of_ble_eq_true rfl) (by first | exact Or.inl rfl | exact Or.inr rfl | exact zb_01 _) rfl
      · skip
        refine lv_aload_n hx hb dX6_succeeds_246 rfl (lv_at hl 4 rfl) ?_
        refine z_get (ci := 6) (v := .ref ta.1) (C := RX6) (T := TX6) (N := 8) hx hb hts (by decide +kernel) hown hK hM 0 rfl rfl 2 (by decide) (hts (.fieldLink RX6 23 "ShiftIsles" "trial" "LShiftIsles$Game;") (by decide +kernel)) (fun _ h9 => h9) rfl dX6_succeeds_247 ?_
        refine lv_iload_n hx hb dX6_succeeds_250 rfl (lv_at hl 3 rfl) ?_
        have hp9 : List.Perm ([(o9, .inr (6, [u0, u1, .ref ta.1, .ref r9, u4, u5, u6, u7]))] ++ ((ruW G r9 sa u) ++ (gmW G ta h b)) : va_W) ((gmW G ta h b) ++ ([(o9, .inr (6, [u0, u1, .ref ta.1, .ref r9, u4, u5, u6, u7]))] ++ (ruW G r9 sa u))) := (pm_cut (cs := [[(o9, .inr (6, [u0, u1, .ref ta.1, .ref r9, u4, u5, u6, u7]))], ruW G r9 sa u, gmW G ta h b]) (sub := [gmW G ta h b]) (rest := [[(o9, .inr (6, [u0, u1, .ref ta.1, .ref r9, u4, u5, u6, u7]))], ruW G r9 sa u]) 3 [2] [0, 1] rfl rfl rfl (by decide))
        have hq9 : List.Perm ((gmW G ta h b) ++ ([(o9, .inr (6, [u0, u1, .ref ta.1, .ref r9, u4, u5, u6, u7]))] ++ (ruW G r9 sa u))) ([(o9, .inr (6, [u0, u1, .ref ta.1, .ref r9, u4, u5, u6, u7]))] ++ ((ruW G r9 sa u) ++ (gmW G ta h b)) : va_W) := (pm_put (cs := [[(o9, .inr (6, [u0, u1, .ref ta.1, .ref r9, u4, u5, u6, u7]))], ruW G r9 sa u, gmW G ta h b]) (sub := [gmW G ta h b]) (rest := [[(o9, .inr (6, [u0, u1, .ref ta.1, .ref r9, u4, u5, u6, u7]))], ruW G r9 sa u]) 3 [2] [0, 1] rfl rfl rfl (by decide))
        refine z_callV (As := [.int (nI o)]) (rest := []) (wc := gmW G ta h b) (wr := [(o9, .inr (6, [u0, u1, .ref ta.1, .ref r9, u4, u5, u6, u7]))] ++ (ruW G r9 sa u)) (w1 := gmW G ta h b) (ws' := [(o9, .inr (6, [u0, u1, .ref ta.1, .ref r9, u4, u5, u6, u7]))] ++ ((ruW G r9 sa u) ++ (gmW G ta h b))) ⟨hx, hb, hml, hown, hts⟩ (c_hasPlayer l G ta h b (nI o) ) (cwV 1 hts gX6_succeeds_X2_hasPlayer rfl rfl rfl (by decide +kernel) ⟨Nat.le_of_ble_eq_true rfl, Nat.le_of_ble_eq_true rfl⟩) 2 rfl rfl rfl rfl hl.1 rfl (Nat.le_of_ble_eq_true rfl) dX6_succeeds_251 ⟨Nat.le_of_ble_eq_true rfl, Nat.le_of_ble_eq_true rfl⟩ hK hE hA hM hp9 hq9 (fun H locs hM hz => ?_)
        refine z_ifeq (tgt := 283) hx hb dX6_succeeds_254 (by decide) (fun c_p => ?_) (fun c_p => ?_)
        · skip
          refine lv_iconst (v := 0) hx hb dX6_succeeds_283 (by decide) ?_
          exact z_zret hx hb hr hlocks dX6_succeeds_284 hM (Nat.le_of_ble_eq_true rfl) (Nat.le_of_ble_eq_true rfl) (by first | exact Or.inl rfl | exact Or.inr rfl | exact zb_01 _) rfl
        · skip
          refine lv_iload_n hx hb dX6_succeeds_257 rfl (lv_at hl 2 rfl) ?_
          refine z_callS (As := [.int (nI i)]) (rest := []) (wc := []) (wr := [(o9, .inr (6, [u0, u1, .ref ta.1, .ref r9, u4, u5, u6, u7]))] ++ ((ruW G r9 sa u) ++ (gmW G ta h b))) (w1 := []) (ws' := [(o9, .inr (6, [u0, u1, .ref ta.1, .ref r9, u4, u5, u6, u7]))] ++ ((ruW G r9 sa u) ++ (gmW G ta h b))) ⟨hx, hb, hml, hown, hts⟩ (c_isLine l G (nI i)) (va_cwS 1 hts gX6_succeeds_X6_isLine rfl rfl rfl (by decide +kernel) ⟨Nat.le_of_ble_eq_true rfl, Nat.le_of_ble_eq_true rfl⟩) rfl hl.1 rfl (Nat.le_of_ble_eq_true rfl) dX6_succeeds_258 ⟨Nat.le_of_ble_eq_true rfl, Nat.le_of_ble_eq_true rfl⟩ hK hE hA hM (List.Perm.refl _) (List.Perm.refl _) (fun H locs hM hz => ?_)
          refine z_ifeq (tgt := 283) hx hb dX6_succeeds_261 (by decide) (fun c_2 => ?_) (fun c_2 => (by rw [c_p, c_2] at hpq; exact Bool.noConfusion hpq))
          refine lv_iconst (v := 0) hx hb dX6_succeeds_283 (by decide) ?_
          exact z_zret hx hb hr hlocks dX6_succeeds_284 hM (Nat.le_of_ble_eq_true rfl) (Nat.le_of_ble_eq_true rfl) (by first | exact Or.inl rfl | exact Or.inr rfl | exact zb_01 _) rfl
    · skip
      refine lv_iconst (v := 1) hx hb dX6_succeeds_30 (by decide) ?_
      refine lv_goto (tgt := 35) hx hb dX6_succeeds_31 (by decide) ?_
      refine lv_istore (lv' := [(5, .int 1), (4, .int (nI j)), (3, .int (nI i)), (2, .int (nI o)), (0, .ref o9), (1, .int (nI (1000 * 7 + 100 * o + 10 * i + j)))]) hx hb dX6_succeeds_35 hl (by decide) rfl (fun ls hl => ?_)
      refine lv_iload_n hx hb dX6_succeeds_37 rfl (lv_at hl 5 rfl) ?_
      refine lv_sipush (v := 1000) hx hb dX6_succeeds_38 (by decide) ?_
      refine lv_idiv hx hb dX6_succeeds_41 (by decide) ?_
      refine z_topi (y := nI ((1000 * 7 + 100 * o + 10 * i + j) / 1000)) (pk_div (a := (1000 * 7 + 100 * o + 10 * i + j)) (d := 1000) (by omega) (by decide) (by decide)) ?_
      refine z_topi (y := 7) (by rw [show (1000 * 7 + 100 * o + 10 * i + j) / 1000 = 7 by omega]; rfl) ?_
      refine lv_tableIn (off := 199) (tgt := 241) hx hb dX6_succeeds_42 (by decide) (by decide) rfl (by decide) ?_
      refine lv_iload hx hb dX6_succeeds_241 (lv_at hl 1 rfl) ?_
      refine lv_if_ne (tgt := 283) hx hb dX6_succeeds_243 (by decide) (fun c_z3 => ?_) (fun c_z3 => ?_)
      · skip
        refine lv_iconst (v := 0) hx hb dX6_succeeds_283 (by decide) ?_
        exact z_zret hx hb hr hlocks dX6_succeeds_284 hM (Nat.le_of_ble_eq_true rfl) (Nat.le_of_ble_eq_true rfl) (by first | exact Or.inl rfl | exact Or.inr rfl | exact zb_01 _) rfl
      · skip
        refine lv_aload_n hx hb dX6_succeeds_246 rfl (lv_at hl 4 rfl) ?_
        refine z_get (ci := 6) (v := .ref ta.1) (C := RX6) (T := TX6) (N := 8) hx hb hts (by decide +kernel) hown hK hM 0 rfl rfl 2 (by decide) (hts (.fieldLink RX6 23 "ShiftIsles" "trial" "LShiftIsles$Game;") (by decide +kernel)) (fun _ h9 => h9) rfl dX6_succeeds_247 ?_
        refine lv_iload_n hx hb dX6_succeeds_250 rfl (lv_at hl 3 rfl) ?_
        have hp9 : List.Perm ([(o9, .inr (6, [u0, u1, .ref ta.1, .ref r9, u4, u5, u6, u7]))] ++ ((ruW G r9 sa u) ++ (gmW G ta h b)) : va_W) ((gmW G ta h b) ++ ([(o9, .inr (6, [u0, u1, .ref ta.1, .ref r9, u4, u5, u6, u7]))] ++ (ruW G r9 sa u))) := (pm_cut (cs := [[(o9, .inr (6, [u0, u1, .ref ta.1, .ref r9, u4, u5, u6, u7]))], ruW G r9 sa u, gmW G ta h b]) (sub := [gmW G ta h b]) (rest := [[(o9, .inr (6, [u0, u1, .ref ta.1, .ref r9, u4, u5, u6, u7]))], ruW G r9 sa u]) 3 [2] [0, 1] rfl rfl rfl (by decide))
        have hq9 : List.Perm ((gmW G ta h b) ++ ([(o9, .inr (6, [u0, u1, .ref ta.1, .ref r9, u4, u5, u6, u7]))] ++ (ruW G r9 sa u))) ([(o9, .inr (6, [u0, u1, .ref ta.1, .ref r9, u4, u5, u6, u7]))] ++ ((ruW G r9 sa u) ++ (gmW G ta h b)) : va_W) := (pm_put (cs := [[(o9, .inr (6, [u0, u1, .ref ta.1, .ref r9, u4, u5, u6, u7]))], ruW G r9 sa u, gmW G ta h b]) (sub := [gmW G ta h b]) (rest := [[(o9, .inr (6, [u0, u1, .ref ta.1, .ref r9, u4, u5, u6, u7]))], ruW G r9 sa u]) 3 [2] [0, 1] rfl rfl rfl (by decide))
        refine z_callV (As := [.int (nI o)]) (rest := []) (wc := gmW G ta h b) (wr := [(o9, .inr (6, [u0, u1, .ref ta.1, .ref r9, u4, u5, u6, u7]))] ++ (ruW G r9 sa u)) (w1 := gmW G ta h b) (ws' := [(o9, .inr (6, [u0, u1, .ref ta.1, .ref r9, u4, u5, u6, u7]))] ++ ((ruW G r9 sa u) ++ (gmW G ta h b))) ⟨hx, hb, hml, hown, hts⟩ (c_hasPlayer l G ta h b (nI o) ) (cwV 1 hts gX6_succeeds_X2_hasPlayer rfl rfl rfl (by decide +kernel) ⟨Nat.le_of_ble_eq_true rfl, Nat.le_of_ble_eq_true rfl⟩) 2 rfl rfl rfl rfl hl.1 rfl (Nat.le_of_ble_eq_true rfl) dX6_succeeds_251 ⟨Nat.le_of_ble_eq_true rfl, Nat.le_of_ble_eq_true rfl⟩ hK hE hA hM hp9 hq9 (fun H locs hM hz => ?_)
        refine z_ifeq (tgt := 283) hx hb dX6_succeeds_254 (by decide) (fun c_p => ?_) (fun c_p => ?_)
        · skip
          refine lv_iconst (v := 0) hx hb dX6_succeeds_283 (by decide) ?_
          exact z_zret hx hb hr hlocks dX6_succeeds_284 hM (Nat.le_of_ble_eq_true rfl) (Nat.le_of_ble_eq_true rfl) (by first | exact Or.inl rfl | exact Or.inr rfl | exact zb_01 _) rfl
        · skip
          refine lv_iload_n hx hb dX6_succeeds_257 rfl (lv_at hl 2 rfl) ?_
          refine z_callS (As := [.int (nI i)]) (rest := []) (wc := []) (wr := [(o9, .inr (6, [u0, u1, .ref ta.1, .ref r9, u4, u5, u6, u7]))] ++ ((ruW G r9 sa u) ++ (gmW G ta h b))) (w1 := []) (ws' := [(o9, .inr (6, [u0, u1, .ref ta.1, .ref r9, u4, u5, u6, u7]))] ++ ((ruW G r9 sa u) ++ (gmW G ta h b))) ⟨hx, hb, hml, hown, hts⟩ (c_isLine l G (nI i)) (va_cwS 1 hts gX6_succeeds_X6_isLine rfl rfl rfl (by decide +kernel) ⟨Nat.le_of_ble_eq_true rfl, Nat.le_of_ble_eq_true rfl⟩) rfl hl.1 rfl (Nat.le_of_ble_eq_true rfl) dX6_succeeds_258 ⟨Nat.le_of_ble_eq_true rfl, Nat.le_of_ble_eq_true rfl⟩ hK hE hA hM (List.Perm.refl _) (List.Perm.refl _) (fun H locs hM hz => ?_)
          refine z_ifeq (tgt := 283) hx hb dX6_succeeds_261 (by decide) (fun c_3 => ?_) (fun c_3 => (by rw [c_p, c_3] at hpq; exact Bool.noConfusion hpq))
          refine lv_iconst (v := 0) hx hb dX6_succeeds_283 (by decide) ?_
          exact z_zret hx hb hr hlocks dX6_succeeds_284 hM (Nat.le_of_ble_eq_true rfl) (Nat.le_of_ble_eq_true rfl) (by first | exact Or.inl rfl | exact Or.inr rfl | exact zb_01 _) rfl

set_option maxHeartbeats 4000000 in
set_option maxRecDepth 100000 in
theorem c_su7 (l : Launch) (G : zC) (o9 : Nat) (u0 u1 u4 u5 u6 u7 : Value) (r9 : Nat) (sa : zBA) (u : zRU) (ta : zGA) (h : Nat → Int32) (b : Nat → Nat → Int32) (P t S e0 : Nat) (hG : zGs h b P t S e0) (o i j : Nat) (ho9 : o < 10) (hi9 : i < 10) (hj9 : j < 10) (hpq : zHp h (nI o) = true) (hl9 : zLi (nI i) = true) : zMet l G yX6_succeeds wsX6_succeeds rmX6_succeeds [.ref o9, .int (nI (1000 * 7 + 100 * o + 10 * i + 0))] ([(o9, .inr (6, [u0, u1, .ref ta.1, .ref r9, u4, u5, u6, u7]))] ++ ((ruW G r9 sa u) ++ (gmW G ta h b))) (some (.int (zb (decide (b o 25 = nI i))))) ([(o9, .inr (6, [u0, u1, .ref ta.1, .ref r9, u4, u5, u6, u7]))] ++ ((ruW G r9 sa u) ++ (gmW G ta h b))) := by
  refine zMet_of (cc := cX6_succeeds) (maxL := 6) (ret := (some .boolean)) (by decide) rfl (Nat.le_of_ble_eq_true rfl) ?_
  intro p e s m below meth c A ls hx hb hr hml hown hts hK hA hE hlocks hin hM hl
  have hown : s.vm.findClass RX6 = some m.cls := hown
  have hM : zM G A s s.heap [] ([(o9, .inr (6, [u0, u1, .ref ta.1, .ref r9, u4, u5, u6, u7]))] ++ ((ruW G r9 sa u) ++ (gmW G ta h b))) := hM
  have hl : lv_has ls 6 [(0, .ref o9), (1, .int (nI (1000 * 7 + 100 * o + 10 * i + 0)))] := hl
  have hP4 := hG.1.1.2.1
  have hP := hG.1.1.1
  refine lv_iload_n hx hb dX6_succeeds_0 rfl (lv_at hl 1 rfl) ?_
  refine lv_bipush (v := 100) hx hb dX6_succeeds_1 (by decide) ?_
  refine lv_idiv hx hb dX6_succeeds_3 (by decide) ?_
  refine z_topi (y := nI ((1000 * 7 + 100 * o + 10 * i + 0) / 100)) (pk_div (a := (1000 * 7 + 100 * o + 10 * i + 0)) (d := 100) (by omega) (by decide) (by decide)) ?_
  refine lv_bipush (v := 10) hx hb dX6_succeeds_4 (by decide) ?_
  refine lv_irem hx hb dX6_succeeds_6 (by decide) ?_
  refine z_topi (y := nI (((1000 * 7 + 100 * o + 10 * i + 0) / 100) % 10)) (pk_rem (a := ((1000 * 7 + 100 * o + 10 * i + 0) / 100)) (d := 10) (by omega) (by decide) (by decide)) ?_
  refine z_topi (y := nI o) (by rw [show (1000 * 7 + 100 * o + 10 * i + 0) / 100 % 10 = o by omega]) ?_
  refine lv_istore_n (lv' := [(2, .int (nI o)), (0, .ref o9), (1, .int (nI (1000 * 7 + 100 * o + 10 * i + 0)))]) hx hb dX6_succeeds_7 rfl hl (by decide) rfl (fun ls hl => ?_)
  refine lv_iload_n hx hb dX6_succeeds_8 rfl (lv_at hl 2 rfl) ?_
  refine lv_bipush (v := 10) hx hb dX6_succeeds_9 (by decide) ?_
  refine lv_idiv hx hb dX6_succeeds_11 (by decide) ?_
  refine z_topi (y := nI ((1000 * 7 + 100 * o + 10 * i + 0) / 10)) (pk_div (a := (1000 * 7 + 100 * o + 10 * i + 0)) (d := 10) (by omega) (by decide) (by decide)) ?_
  refine lv_bipush (v := 10) hx hb dX6_succeeds_12 (by decide) ?_
  refine lv_irem hx hb dX6_succeeds_14 (by decide) ?_
  refine z_topi (y := nI (((1000 * 7 + 100 * o + 10 * i + 0) / 10) % 10)) (pk_rem (a := ((1000 * 7 + 100 * o + 10 * i + 0) / 10)) (d := 10) (by omega) (by decide) (by decide)) ?_
  refine z_topi (y := nI i) (by rw [show (1000 * 7 + 100 * o + 10 * i + 0) / 10 % 10 = i by omega]) ?_
  refine lv_istore_n (lv' := [(3, .int (nI i)), (2, .int (nI o)), (0, .ref o9), (1, .int (nI (1000 * 7 + 100 * o + 10 * i + 0)))]) hx hb dX6_succeeds_15 rfl hl (by decide) rfl (fun ls hl => ?_)
  refine lv_iload_n hx hb dX6_succeeds_16 rfl (lv_at hl 3 rfl) ?_
  refine lv_bipush (v := 10) hx hb dX6_succeeds_17 (by decide) ?_
  refine lv_irem hx hb dX6_succeeds_19 (by decide) ?_
  refine z_topi (y := nI ((1000 * 7 + 100 * o + 10 * i + 0) % 10)) (pk_rem (a := (1000 * 7 + 100 * o + 10 * i + 0)) (d := 10) (by omega) (by decide) (by decide)) ?_
  refine z_topi (y := nI 0) (by rw [show (1000 * 7 + 100 * o + 10 * i + 0) % 10 = 0 by omega]) ?_
  refine lv_istore (lv' := [(4, .int (nI 0)), (3, .int (nI i)), (2, .int (nI o)), (0, .ref o9), (1, .int (nI (1000 * 7 + 100 * o + 10 * i + 0)))]) hx hb dX6_succeeds_20 hl (by decide) rfl (fun ls hl => ?_)
  refine lv_iload_n hx hb dX6_succeeds_22 rfl (lv_at hl 2 rfl) ?_
  refine lv_if_ne (tgt := 34) hx hb dX6_succeeds_23 (by decide) (fun c_z1 => ?_) (fun c_z1 => ?_)
  · skip
    refine lv_iconst (v := 0) hx hb dX6_succeeds_34 (by decide) ?_
    refine lv_istore (lv' := [(5, .int 0), (4, .int (nI 0)), (3, .int (nI i)), (2, .int (nI o)), (0, .ref o9), (1, .int (nI (1000 * 7 + 100 * o + 10 * i + 0)))]) hx hb dX6_succeeds_35 hl (by decide) rfl (fun ls hl => ?_)
    refine lv_iload_n hx hb dX6_succeeds_37 rfl (lv_at hl 5 rfl) ?_
    refine lv_sipush (v := 1000) hx hb dX6_succeeds_38 (by decide) ?_
    refine lv_idiv hx hb dX6_succeeds_41 (by decide) ?_
    refine z_topi (y := nI ((1000 * 7 + 100 * o + 10 * i + 0) / 1000)) (pk_div (a := (1000 * 7 + 100 * o + 10 * i + 0)) (d := 1000) (by omega) (by decide) (by decide)) ?_
    refine z_topi (y := 7) (by rw [show (1000 * 7 + 100 * o + 10 * i + 0) / 1000 = 7 by omega]; rfl) ?_
    refine lv_tableIn (off := 199) (tgt := 241) hx hb dX6_succeeds_42 (by decide) (by decide) rfl (by decide) ?_
    refine lv_iload hx hb dX6_succeeds_241 (lv_at hl 1 rfl) ?_
    refine lv_if_ne (tgt := 283) hx hb dX6_succeeds_243 (by decide) (fun c_1 => absurd rfl c_1) (fun c_1 => ?_)
    refine lv_aload_n hx hb dX6_succeeds_246 rfl (lv_at hl 4 rfl) ?_
    refine z_get (ci := 6) (v := .ref ta.1) (C := RX6) (T := TX6) (N := 8) hx hb hts (by decide +kernel) hown hK hM 0 rfl rfl 2 (by decide) (hts (.fieldLink RX6 23 "ShiftIsles" "trial" "LShiftIsles$Game;") (by decide +kernel)) (fun _ h9 => h9) rfl dX6_succeeds_247 ?_
    refine lv_iload_n hx hb dX6_succeeds_250 rfl (lv_at hl 3 rfl) ?_
    have hp9 : List.Perm ([(o9, .inr (6, [u0, u1, .ref ta.1, .ref r9, u4, u5, u6, u7]))] ++ ((ruW G r9 sa u) ++ (gmW G ta h b)) : va_W) ((gmW G ta h b) ++ ([(o9, .inr (6, [u0, u1, .ref ta.1, .ref r9, u4, u5, u6, u7]))] ++ (ruW G r9 sa u))) := (pm_cut (cs := [[(o9, .inr (6, [u0, u1, .ref ta.1, .ref r9, u4, u5, u6, u7]))], ruW G r9 sa u, gmW G ta h b]) (sub := [gmW G ta h b]) (rest := [[(o9, .inr (6, [u0, u1, .ref ta.1, .ref r9, u4, u5, u6, u7]))], ruW G r9 sa u]) 3 [2] [0, 1] rfl rfl rfl (by decide))
    have hq9 : List.Perm ((gmW G ta h b) ++ ([(o9, .inr (6, [u0, u1, .ref ta.1, .ref r9, u4, u5, u6, u7]))] ++ (ruW G r9 sa u))) ([(o9, .inr (6, [u0, u1, .ref ta.1, .ref r9, u4, u5, u6, u7]))] ++ ((ruW G r9 sa u) ++ (gmW G ta h b)) : va_W) := (pm_put (cs := [[(o9, .inr (6, [u0, u1, .ref ta.1, .ref r9, u4, u5, u6, u7]))], ruW G r9 sa u, gmW G ta h b]) (sub := [gmW G ta h b]) (rest := [[(o9, .inr (6, [u0, u1, .ref ta.1, .ref r9, u4, u5, u6, u7]))], ruW G r9 sa u]) 3 [2] [0, 1] rfl rfl rfl (by decide))
    refine z_callV (As := [.int (nI o)]) (rest := []) (wc := gmW G ta h b) (wr := [(o9, .inr (6, [u0, u1, .ref ta.1, .ref r9, u4, u5, u6, u7]))] ++ (ruW G r9 sa u)) (w1 := gmW G ta h b) (ws' := [(o9, .inr (6, [u0, u1, .ref ta.1, .ref r9, u4, u5, u6, u7]))] ++ ((ruW G r9 sa u) ++ (gmW G ta h b))) ⟨hx, hb, hml, hown, hts⟩ (c_hasPlayer l G ta h b (nI o) ) (cwV 1 hts gX6_succeeds_X2_hasPlayer rfl rfl rfl (by decide +kernel) ⟨Nat.le_of_ble_eq_true rfl, Nat.le_of_ble_eq_true rfl⟩) 2 rfl rfl rfl rfl hl.1 rfl (Nat.le_of_ble_eq_true rfl) dX6_succeeds_251 ⟨Nat.le_of_ble_eq_true rfl, Nat.le_of_ble_eq_true rfl⟩ hK hE hA hM hp9 hq9 (fun H locs hM hz => ?_)
    refine z_ifeq (tgt := 283) hx hb dX6_succeeds_254 (by decide) (fun c_2 => Bool.noConfusion (hpq.symm.trans c_2)) (fun c_2 => ?_)
    refine lv_iload_n hx hb dX6_succeeds_257 rfl (lv_at hl 2 rfl) ?_
    refine z_callS (As := [.int (nI i)]) (rest := []) (wc := []) (wr := [(o9, .inr (6, [u0, u1, .ref ta.1, .ref r9, u4, u5, u6, u7]))] ++ ((ruW G r9 sa u) ++ (gmW G ta h b))) (w1 := []) (ws' := [(o9, .inr (6, [u0, u1, .ref ta.1, .ref r9, u4, u5, u6, u7]))] ++ ((ruW G r9 sa u) ++ (gmW G ta h b))) ⟨hx, hb, hml, hown, hts⟩ (c_isLine l G (nI i)) (va_cwS 1 hts gX6_succeeds_X6_isLine rfl rfl rfl (by decide +kernel) ⟨Nat.le_of_ble_eq_true rfl, Nat.le_of_ble_eq_true rfl⟩) rfl hl.1 rfl (Nat.le_of_ble_eq_true rfl) dX6_succeeds_258 ⟨Nat.le_of_ble_eq_true rfl, Nat.le_of_ble_eq_true rfl⟩ hK hE hA hM (List.Perm.refl _) (List.Perm.refl _) (fun H locs hM hz => ?_)
    refine z_ifeq (tgt := 283) hx hb dX6_succeeds_261 (by decide) (fun c_3 => Bool.noConfusion (hl9.symm.trans c_3)) (fun c_3 => ?_)
    have hoP : o < P := (zHp_lt hP hP4 (by omega)).mp hpq
    refine lv_aload_n hx hb dX6_succeeds_264 rfl (lv_at hl 4 rfl) ?_
    refine z_get (ci := 6) (v := .ref ta.1) (C := RX6) (T := TX6) (N := 8) hx hb hts (by decide +kernel) hown hK hM 0 rfl rfl 2 (by decide) (hts (.fieldLink RX6 23 "ShiftIsles" "trial" "LShiftIsles$Game;") (by decide +kernel)) (fun _ h9 => h9) rfl dX6_succeeds_265 ?_
    refine lv_iload_n hx hb dX6_succeeds_268 rfl (lv_at hl 3 rfl) ?_
    have hp9 : List.Perm ([(o9, .inr (6, [u0, u1, .ref ta.1, .ref r9, u4, u5, u6, u7]))] ++ ((ruW G r9 sa u) ++ (gmW G ta h b)) : va_W) ((gmW G ta h b) ++ ([(o9, .inr (6, [u0, u1, .ref ta.1, .ref r9, u4, u5, u6, u7]))] ++ (ruW G r9 sa u))) := (pm_cut (cs := [[(o9, .inr (6, [u0, u1, .ref ta.1, .ref r9, u4, u5, u6, u7]))], ruW G r9 sa u, gmW G ta h b]) (sub := [gmW G ta h b]) (rest := [[(o9, .inr (6, [u0, u1, .ref ta.1, .ref r9, u4, u5, u6, u7]))], ruW G r9 sa u]) 3 [2] [0, 1] rfl rfl rfl (by decide))
    have hq9 : List.Perm ((gmW G ta h b) ++ ([(o9, .inr (6, [u0, u1, .ref ta.1, .ref r9, u4, u5, u6, u7]))] ++ (ruW G r9 sa u))) ([(o9, .inr (6, [u0, u1, .ref ta.1, .ref r9, u4, u5, u6, u7]))] ++ ((ruW G r9 sa u) ++ (gmW G ta h b)) : va_W) := (pm_put (cs := [[(o9, .inr (6, [u0, u1, .ref ta.1, .ref r9, u4, u5, u6, u7]))], ruW G r9 sa u, gmW G ta h b]) (sub := [gmW G ta h b]) (rest := [[(o9, .inr (6, [u0, u1, .ref ta.1, .ref r9, u4, u5, u6, u7]))], ruW G r9 sa u]) 3 [2] [0, 1] rfl rfl rfl (by decide))
    refine z_callV (As := [.int (nI o)]) (rest := []) (wc := gmW G ta h b) (wr := [(o9, .inr (6, [u0, u1, .ref ta.1, .ref r9, u4, u5, u6, u7]))] ++ (ruW G r9 sa u)) (w1 := gmW G ta h b) (ws' := [(o9, .inr (6, [u0, u1, .ref ta.1, .ref r9, u4, u5, u6, u7]))] ++ ((ruW G r9 sa u) ++ (gmW G ta h b))) ⟨hx, hb, hml, hown, hts⟩ (c_boardOf l G ta h b o (by omega) ) (cwV 1 hts gX6_succeeds_X2_boardOf rfl rfl rfl (by decide +kernel) ⟨Nat.le_of_ble_eq_true rfl, Nat.le_of_ble_eq_true rfl⟩) 2 rfl rfl rfl rfl hl.1 rfl (Nat.le_of_ble_eq_true rfl) dX6_succeeds_269 ⟨Nat.le_of_ble_eq_true rfl, Nat.le_of_ble_eq_true rfl⟩ hK hE hA hM hp9 hq9 (fun H locs hM hz => ?_)
    have hM : zM G A s H locs ([(o9, .inr (6, [u0, u1, .ref ta.1, .ref r9, u4, u5, u6, u7]))] ++ ((ruW G r9 sa u) ++ ((gmX G ta h) ++ ((bdW G (ta.2.2.2 o) (b o)) ++ (bdsR G ta.2.2.2 b o))))) := zM_perm (List.Perm.append_left ([(o9, .inr (6, [u0, u1, .ref ta.1, .ref r9, u4, u5, u6, u7]))] ++ (ruW G r9 sa u)) (List.Perm.append_left (gmX G ta h) (bds_pm (show o < 4 by omega)))) hM
    have hp9 : List.Perm ([(o9, .inr (6, [u0, u1, .ref ta.1, .ref r9, u4, u5, u6, u7]))] ++ ((ruW G r9 sa u) ++ ((gmX G ta h) ++ ((bdW G (ta.2.2.2 o) (b o)) ++ (bdsR G ta.2.2.2 b o)))) : va_W) ((bdW G (ta.2.2.2 o) (b o)) ++ ([(o9, .inr (6, [u0, u1, .ref ta.1, .ref r9, u4, u5, u6, u7]))] ++ ((ruW G r9 sa u) ++ ((gmX G ta h) ++ (bdsR G ta.2.2.2 b o))))) := (pm_cut (cs := [[(o9, .inr (6, [u0, u1, .ref ta.1, .ref r9, u4, u5, u6, u7]))], ruW G r9 sa u, gmX G ta h, bdW G (ta.2.2.2 o) (b o), bdsR G ta.2.2.2 b o]) (sub := [bdW G (ta.2.2.2 o) (b o)]) (rest := [[(o9, .inr (6, [u0, u1, .ref ta.1, .ref r9, u4, u5, u6, u7]))], ruW G r9 sa u, gmX G ta h, bdsR G ta.2.2.2 b o]) 5 [3] [0, 1, 2, 4] rfl rfl rfl (by decide))
    have hq9 : List.Perm ((bdW G (ta.2.2.2 o) (b o)) ++ ([(o9, .inr (6, [u0, u1, .ref ta.1, .ref r9, u4, u5, u6, u7]))] ++ ((ruW G r9 sa u) ++ ((gmX G ta h) ++ (bdsR G ta.2.2.2 b o))))) ([(o9, .inr (6, [u0, u1, .ref ta.1, .ref r9, u4, u5, u6, u7]))] ++ ((ruW G r9 sa u) ++ ((gmX G ta h) ++ ((bdW G (ta.2.2.2 o) (b o)) ++ (bdsR G ta.2.2.2 b o)))) : va_W) := (pm_put (cs := [[(o9, .inr (6, [u0, u1, .ref ta.1, .ref r9, u4, u5, u6, u7]))], ruW G r9 sa u, gmX G ta h, bdW G (ta.2.2.2 o) (b o), bdsR G ta.2.2.2 b o]) (sub := [bdW G (ta.2.2.2 o) (b o)]) (rest := [[(o9, .inr (6, [u0, u1, .ref ta.1, .ref r9, u4, u5, u6, u7]))], ruW G r9 sa u, gmX G ta h, bdsR G ta.2.2.2 b o]) 5 [3] [0, 1, 2, 4] rfl rfl rfl (by decide))
    refine z_callV (As := []) (rest := []) (wc := bdW G (ta.2.2.2 o) (b o)) (wr := [(o9, .inr (6, [u0, u1, .ref ta.1, .ref r9, u4, u5, u6, u7]))] ++ ((ruW G r9 sa u) ++ ((gmX G ta h) ++ (bdsR G ta.2.2.2 b o)))) (w1 := bdW G (ta.2.2.2 o) (b o)) (ws' := [(o9, .inr (6, [u0, u1, .ref ta.1, .ref r9, u4, u5, u6, u7]))] ++ ((ruW G r9 sa u) ++ ((gmX G ta h) ++ ((bdW G (ta.2.2.2 o) (b o)) ++ (bdsR G ta.2.2.2 b o))))) ⟨hx, hb, hml, hown, hts⟩ (c_lockedLine l G (ta.2.2.2 o) (b o)  ) (cwV 0 hts gX6_succeeds_X0_lockedLine rfl rfl rfl (by decide +kernel) ⟨Nat.le_of_ble_eq_true rfl, Nat.le_of_ble_eq_true rfl⟩) 0 rfl rfl rfl rfl hl.1 rfl (Nat.le_of_ble_eq_true rfl) dX6_succeeds_272 ⟨Nat.le_of_ble_eq_true rfl, Nat.le_of_ble_eq_true rfl⟩ hK hE hA hM hp9 hq9 (fun H locs hM hz => ?_)
    have hM : zM G A s H locs ([(o9, .inr (6, [u0, u1, .ref ta.1, .ref r9, u4, u5, u6, u7]))] ++ ((ruW G r9 sa u) ++ (gmW G ta h b))) := zM_perm (List.Perm.append_left ([(o9, .inr (6, [u0, u1, .ref ta.1, .ref r9, u4, u5, u6, u7]))] ++ (ruW G r9 sa u)) (List.Perm.append_left (gmX G ta h) (bds_pm (show o < 4 by omega)).symm)) hM
    refine lv_iload_n hx hb dX6_succeeds_275 rfl (lv_at hl 2 rfl) ?_
    refine lv_icmp_ne (tgt := 283) hx hb dX6_succeeds_276 (by decide) (fun c_l => ?_) (fun c_l => ?_)
    · skip
      refine lv_iconst (v := 0) hx hb dX6_succeeds_283 (by decide) ?_
      exact z_zret hx hb hr hlocks dX6_succeeds_284 hM (Nat.le_of_ble_eq_true rfl) (Nat.le_of_ble_eq_true rfl) (by first | exact Or.inl rfl | exact Or.inr rfl | exact zb_01 _) (by rw [decide_eq_false c_l]; rfl)
    · skip
      refine lv_iconst (v := 1) hx hb dX6_succeeds_279 (by decide) ?_
      refine lv_goto (tgt := 284) hx hb dX6_succeeds_280 (by decide) ?_
      exact z_zret hx hb hr hlocks dX6_succeeds_284 hM (Nat.le_of_ble_eq_true rfl) (Nat.le_of_ble_eq_true rfl) (by first | exact Or.inl rfl | exact Or.inr rfl | exact zb_01 _) (by rw [decide_eq_true c_l]; rfl)
  · skip
    refine lv_iload_n hx hb dX6_succeeds_26 rfl (lv_at hl 1 rfl) ?_
    refine lv_if_ne (tgt := 34) hx hb dX6_succeeds_27 (by decide) (fun c_z2 => ?_) (fun c_z2 => ?_)
    · skip
      refine lv_iconst (v := 0) hx hb dX6_succeeds_34 (by decide) ?_
      refine lv_istore (lv' := [(5, .int 0), (4, .int (nI 0)), (3, .int (nI i)), (2, .int (nI o)), (0, .ref o9), (1, .int (nI (1000 * 7 + 100 * o + 10 * i + 0)))]) hx hb dX6_succeeds_35 hl (by decide) rfl (fun ls hl => ?_)
      refine lv_iload_n hx hb dX6_succeeds_37 rfl (lv_at hl 5 rfl) ?_
      refine lv_sipush (v := 1000) hx hb dX6_succeeds_38 (by decide) ?_
      refine lv_idiv hx hb dX6_succeeds_41 (by decide) ?_
      refine z_topi (y := nI ((1000 * 7 + 100 * o + 10 * i + 0) / 1000)) (pk_div (a := (1000 * 7 + 100 * o + 10 * i + 0)) (d := 1000) (by omega) (by decide) (by decide)) ?_
      refine z_topi (y := 7) (by rw [show (1000 * 7 + 100 * o + 10 * i + 0) / 1000 = 7 by omega]; rfl) ?_
      refine lv_tableIn (off := 199) (tgt := 241) hx hb dX6_succeeds_42 (by decide) (by decide) rfl (by decide) ?_
      refine lv_iload hx hb dX6_succeeds_241 (lv_at hl 1 rfl) ?_
      refine lv_if_ne (tgt := 283) hx hb dX6_succeeds_243 (by decide) (fun c_4 => absurd rfl c_4) (fun c_4 => ?_)
      refine lv_aload_n hx hb dX6_succeeds_246 rfl (lv_at hl 4 rfl) ?_
      refine z_get (ci := 6) (v := .ref ta.1) (C := RX6) (T := TX6) (N := 8) hx hb hts (by decide +kernel) hown hK hM 0 rfl rfl 2 (by decide) (hts (.fieldLink RX6 23 "ShiftIsles" "trial" "LShiftIsles$Game;") (by decide +kernel)) (fun _ h9 => h9) rfl dX6_succeeds_247 ?_
      refine lv_iload_n hx hb dX6_succeeds_250 rfl (lv_at hl 3 rfl) ?_
      have hp9 : List.Perm ([(o9, .inr (6, [u0, u1, .ref ta.1, .ref r9, u4, u5, u6, u7]))] ++ ((ruW G r9 sa u) ++ (gmW G ta h b)) : va_W) ((gmW G ta h b) ++ ([(o9, .inr (6, [u0, u1, .ref ta.1, .ref r9, u4, u5, u6, u7]))] ++ (ruW G r9 sa u))) := (pm_cut (cs := [[(o9, .inr (6, [u0, u1, .ref ta.1, .ref r9, u4, u5, u6, u7]))], ruW G r9 sa u, gmW G ta h b]) (sub := [gmW G ta h b]) (rest := [[(o9, .inr (6, [u0, u1, .ref ta.1, .ref r9, u4, u5, u6, u7]))], ruW G r9 sa u]) 3 [2] [0, 1] rfl rfl rfl (by decide))
      have hq9 : List.Perm ((gmW G ta h b) ++ ([(o9, .inr (6, [u0, u1, .ref ta.1, .ref r9, u4, u5, u6, u7]))] ++ (ruW G r9 sa u))) ([(o9, .inr (6, [u0, u1, .ref ta.1, .ref r9, u4, u5, u6, u7]))] ++ ((ruW G r9 sa u) ++ (gmW G ta h b)) : va_W) := (pm_put (cs := [[(o9, .inr (6, [u0, u1, .ref ta.1, .ref r9, u4, u5, u6, u7]))], ruW G r9 sa u, gmW G ta h b]) (sub := [gmW G ta h b]) (rest := [[(o9, .inr (6, [u0, u1, .ref ta.1, .ref r9, u4, u5, u6, u7]))], ruW G r9 sa u]) 3 [2] [0, 1] rfl rfl rfl (by decide))
      refine z_callV (As := [.int (nI o)]) (rest := []) (wc := gmW G ta h b) (wr := [(o9, .inr (6, [u0, u1, .ref ta.1, .ref r9, u4, u5, u6, u7]))] ++ (ruW G r9 sa u)) (w1 := gmW G ta h b) (ws' := [(o9, .inr (6, [u0, u1, .ref ta.1, .ref r9, u4, u5, u6, u7]))] ++ ((ruW G r9 sa u) ++ (gmW G ta h b))) ⟨hx, hb, hml, hown, hts⟩ (c_hasPlayer l G ta h b (nI o) ) (cwV 1 hts gX6_succeeds_X2_hasPlayer rfl rfl rfl (by decide +kernel) ⟨Nat.le_of_ble_eq_true rfl, Nat.le_of_ble_eq_true rfl⟩) 2 rfl rfl rfl rfl hl.1 rfl (Nat.le_of_ble_eq_true rfl) dX6_succeeds_251 ⟨Nat.le_of_ble_eq_true rfl, Nat.le_of_ble_eq_true rfl⟩ hK hE hA hM hp9 hq9 (fun H locs hM hz => ?_)
      refine z_ifeq (tgt := 283) hx hb dX6_succeeds_254 (by decide) (fun c_5 => Bool.noConfusion (hpq.symm.trans c_5)) (fun c_5 => ?_)
      refine lv_iload_n hx hb dX6_succeeds_257 rfl (lv_at hl 2 rfl) ?_
      refine z_callS (As := [.int (nI i)]) (rest := []) (wc := []) (wr := [(o9, .inr (6, [u0, u1, .ref ta.1, .ref r9, u4, u5, u6, u7]))] ++ ((ruW G r9 sa u) ++ (gmW G ta h b))) (w1 := []) (ws' := [(o9, .inr (6, [u0, u1, .ref ta.1, .ref r9, u4, u5, u6, u7]))] ++ ((ruW G r9 sa u) ++ (gmW G ta h b))) ⟨hx, hb, hml, hown, hts⟩ (c_isLine l G (nI i)) (va_cwS 1 hts gX6_succeeds_X6_isLine rfl rfl rfl (by decide +kernel) ⟨Nat.le_of_ble_eq_true rfl, Nat.le_of_ble_eq_true rfl⟩) rfl hl.1 rfl (Nat.le_of_ble_eq_true rfl) dX6_succeeds_258 ⟨Nat.le_of_ble_eq_true rfl, Nat.le_of_ble_eq_true rfl⟩ hK hE hA hM (List.Perm.refl _) (List.Perm.refl _) (fun H locs hM hz => ?_)
      refine z_ifeq (tgt := 283) hx hb dX6_succeeds_261 (by decide) (fun c_6 => Bool.noConfusion (hl9.symm.trans c_6)) (fun c_6 => ?_)
      have hoP : o < P := (zHp_lt hP hP4 (by omega)).mp hpq
      refine lv_aload_n hx hb dX6_succeeds_264 rfl (lv_at hl 4 rfl) ?_
      refine z_get (ci := 6) (v := .ref ta.1) (C := RX6) (T := TX6) (N := 8) hx hb hts (by decide +kernel) hown hK hM 0 rfl rfl 2 (by decide) (hts (.fieldLink RX6 23 "ShiftIsles" "trial" "LShiftIsles$Game;") (by decide +kernel)) (fun _ h9 => h9) rfl dX6_succeeds_265 ?_
      refine lv_iload_n hx hb dX6_succeeds_268 rfl (lv_at hl 3 rfl) ?_
      have hp9 : List.Perm ([(o9, .inr (6, [u0, u1, .ref ta.1, .ref r9, u4, u5, u6, u7]))] ++ ((ruW G r9 sa u) ++ (gmW G ta h b)) : va_W) ((gmW G ta h b) ++ ([(o9, .inr (6, [u0, u1, .ref ta.1, .ref r9, u4, u5, u6, u7]))] ++ (ruW G r9 sa u))) := (pm_cut (cs := [[(o9, .inr (6, [u0, u1, .ref ta.1, .ref r9, u4, u5, u6, u7]))], ruW G r9 sa u, gmW G ta h b]) (sub := [gmW G ta h b]) (rest := [[(o9, .inr (6, [u0, u1, .ref ta.1, .ref r9, u4, u5, u6, u7]))], ruW G r9 sa u]) 3 [2] [0, 1] rfl rfl rfl (by decide))
      have hq9 : List.Perm ((gmW G ta h b) ++ ([(o9, .inr (6, [u0, u1, .ref ta.1, .ref r9, u4, u5, u6, u7]))] ++ (ruW G r9 sa u))) ([(o9, .inr (6, [u0, u1, .ref ta.1, .ref r9, u4, u5, u6, u7]))] ++ ((ruW G r9 sa u) ++ (gmW G ta h b)) : va_W) := (pm_put (cs := [[(o9, .inr (6, [u0, u1, .ref ta.1, .ref r9, u4, u5, u6, u7]))], ruW G r9 sa u, gmW G ta h b]) (sub := [gmW G ta h b]) (rest := [[(o9, .inr (6, [u0, u1, .ref ta.1, .ref r9, u4, u5, u6, u7]))], ruW G r9 sa u]) 3 [2] [0, 1] rfl rfl rfl (by decide))
      refine z_callV (As := [.int (nI o)]) (rest := []) (wc := gmW G ta h b) (wr := [(o9, .inr (6, [u0, u1, .ref ta.1, .ref r9, u4, u5, u6, u7]))] ++ (ruW G r9 sa u)) (w1 := gmW G ta h b) (ws' := [(o9, .inr (6, [u0, u1, .ref ta.1, .ref r9, u4, u5, u6, u7]))] ++ ((ruW G r9 sa u) ++ (gmW G ta h b))) ⟨hx, hb, hml, hown, hts⟩ (c_boardOf l G ta h b o (by omega) ) (cwV 1 hts gX6_succeeds_X2_boardOf rfl rfl rfl (by decide +kernel) ⟨Nat.le_of_ble_eq_true rfl, Nat.le_of_ble_eq_true rfl⟩) 2 rfl rfl rfl rfl hl.1 rfl (Nat.le_of_ble_eq_true rfl) dX6_succeeds_269 ⟨Nat.le_of_ble_eq_true rfl, Nat.le_of_ble_eq_true rfl⟩ hK hE hA hM hp9 hq9 (fun H locs hM hz => ?_)
      have hM : zM G A s H locs ([(o9, .inr (6, [u0, u1, .ref ta.1, .ref r9, u4, u5, u6, u7]))] ++ ((ruW G r9 sa u) ++ ((gmX G ta h) ++ ((bdW G (ta.2.2.2 o) (b o)) ++ (bdsR G ta.2.2.2 b o))))) := zM_perm (List.Perm.append_left ([(o9, .inr (6, [u0, u1, .ref ta.1, .ref r9, u4, u5, u6, u7]))] ++ (ruW G r9 sa u)) (List.Perm.append_left (gmX G ta h) (bds_pm (show o < 4 by omega)))) hM
      have hp9 : List.Perm ([(o9, .inr (6, [u0, u1, .ref ta.1, .ref r9, u4, u5, u6, u7]))] ++ ((ruW G r9 sa u) ++ ((gmX G ta h) ++ ((bdW G (ta.2.2.2 o) (b o)) ++ (bdsR G ta.2.2.2 b o)))) : va_W) ((bdW G (ta.2.2.2 o) (b o)) ++ ([(o9, .inr (6, [u0, u1, .ref ta.1, .ref r9, u4, u5, u6, u7]))] ++ ((ruW G r9 sa u) ++ ((gmX G ta h) ++ (bdsR G ta.2.2.2 b o))))) := (pm_cut (cs := [[(o9, .inr (6, [u0, u1, .ref ta.1, .ref r9, u4, u5, u6, u7]))], ruW G r9 sa u, gmX G ta h, bdW G (ta.2.2.2 o) (b o), bdsR G ta.2.2.2 b o]) (sub := [bdW G (ta.2.2.2 o) (b o)]) (rest := [[(o9, .inr (6, [u0, u1, .ref ta.1, .ref r9, u4, u5, u6, u7]))], ruW G r9 sa u, gmX G ta h, bdsR G ta.2.2.2 b o]) 5 [3] [0, 1, 2, 4] rfl rfl rfl (by decide))
      have hq9 : List.Perm ((bdW G (ta.2.2.2 o) (b o)) ++ ([(o9, .inr (6, [u0, u1, .ref ta.1, .ref r9, u4, u5, u6, u7]))] ++ ((ruW G r9 sa u) ++ ((gmX G ta h) ++ (bdsR G ta.2.2.2 b o))))) ([(o9, .inr (6, [u0, u1, .ref ta.1, .ref r9, u4, u5, u6, u7]))] ++ ((ruW G r9 sa u) ++ ((gmX G ta h) ++ ((bdW G (ta.2.2.2 o) (b o)) ++ (bdsR G ta.2.2.2 b o)))) : va_W) := (pm_put (cs := [[(o9, .inr (6, [u0, u1, .ref ta.1, .ref r9, u4, u5, u6, u7]))], ruW G r9 sa u, gmX G ta h, bdW G (ta.2.2.2 o) (b o), bdsR G ta.2.2.2 b o]) (sub := [bdW G (ta.2.2.2 o) (b o)]) (rest := [[(o9, .inr (6, [u0, u1, .ref ta.1, .ref r9, u4, u5, u6, u7]))], ruW G r9 sa u, gmX G ta h, bdsR G ta.2.2.2 b o]) 5 [3] [0, 1, 2, 4] rfl rfl rfl (by decide))
      refine z_callV (As := []) (rest := []) (wc := bdW G (ta.2.2.2 o) (b o)) (wr := [(o9, .inr (6, [u0, u1, .ref ta.1, .ref r9, u4, u5, u6, u7]))] ++ ((ruW G r9 sa u) ++ ((gmX G ta h) ++ (bdsR G ta.2.2.2 b o)))) (w1 := bdW G (ta.2.2.2 o) (b o)) (ws' := [(o9, .inr (6, [u0, u1, .ref ta.1, .ref r9, u4, u5, u6, u7]))] ++ ((ruW G r9 sa u) ++ ((gmX G ta h) ++ ((bdW G (ta.2.2.2 o) (b o)) ++ (bdsR G ta.2.2.2 b o))))) ⟨hx, hb, hml, hown, hts⟩ (c_lockedLine l G (ta.2.2.2 o) (b o)  ) (cwV 0 hts gX6_succeeds_X0_lockedLine rfl rfl rfl (by decide +kernel) ⟨Nat.le_of_ble_eq_true rfl, Nat.le_of_ble_eq_true rfl⟩) 0 rfl rfl rfl rfl hl.1 rfl (Nat.le_of_ble_eq_true rfl) dX6_succeeds_272 ⟨Nat.le_of_ble_eq_true rfl, Nat.le_of_ble_eq_true rfl⟩ hK hE hA hM hp9 hq9 (fun H locs hM hz => ?_)
      have hM : zM G A s H locs ([(o9, .inr (6, [u0, u1, .ref ta.1, .ref r9, u4, u5, u6, u7]))] ++ ((ruW G r9 sa u) ++ (gmW G ta h b))) := zM_perm (List.Perm.append_left ([(o9, .inr (6, [u0, u1, .ref ta.1, .ref r9, u4, u5, u6, u7]))] ++ (ruW G r9 sa u)) (List.Perm.append_left (gmX G ta h) (bds_pm (show o < 4 by omega)).symm)) hM
      refine lv_iload_n hx hb dX6_succeeds_275 rfl (lv_at hl 2 rfl) ?_
      refine lv_icmp_ne (tgt := 283) hx hb dX6_succeeds_276 (by decide) (fun c_l => ?_) (fun c_l => ?_)
      · skip
        refine lv_iconst (v := 0) hx hb dX6_succeeds_283 (by decide) ?_
        exact z_zret hx hb hr hlocks dX6_succeeds_284 hM (Nat.le_of_ble_eq_true rfl) (Nat.le_of_ble_eq_true rfl) (by first | exact Or.inl rfl | exact Or.inr rfl | exact zb_01 _) (by rw [decide_eq_false c_l]; rfl)
      · skip
        refine lv_iconst (v := 1) hx hb dX6_succeeds_279 (by decide) ?_
        refine lv_goto (tgt := 284) hx hb dX6_succeeds_280 (by decide) ?_
        exact z_zret hx hb hr hlocks dX6_succeeds_284 hM (Nat.le_of_ble_eq_true rfl) (Nat.le_of_ble_eq_true rfl) (by first | exact Or.inl rfl | exact Or.inr rfl | exact zb_01 _) (by rw [decide_eq_true c_l]; rfl)
    · skip
      refine lv_iconst (v := 1) hx hb dX6_succeeds_30 (by decide) ?_
      refine lv_goto (tgt := 35) hx hb dX6_succeeds_31 (by decide) ?_
      refine lv_istore (lv' := [(5, .int 1), (4, .int (nI 0)), (3, .int (nI i)), (2, .int (nI o)), (0, .ref o9), (1, .int (nI (1000 * 7 + 100 * o + 10 * i + 0)))]) hx hb dX6_succeeds_35 hl (by decide) rfl (fun ls hl => ?_)
      refine lv_iload_n hx hb dX6_succeeds_37 rfl (lv_at hl 5 rfl) ?_
      refine lv_sipush (v := 1000) hx hb dX6_succeeds_38 (by decide) ?_
      refine lv_idiv hx hb dX6_succeeds_41 (by decide) ?_
      refine z_topi (y := nI ((1000 * 7 + 100 * o + 10 * i + 0) / 1000)) (pk_div (a := (1000 * 7 + 100 * o + 10 * i + 0)) (d := 1000) (by omega) (by decide) (by decide)) ?_
      refine z_topi (y := 7) (by rw [show (1000 * 7 + 100 * o + 10 * i + 0) / 1000 = 7 by omega]; rfl) ?_
      refine lv_tableIn (off := 199) (tgt := 241) hx hb dX6_succeeds_42 (by decide) (by decide) rfl (by decide) ?_
      refine lv_iload hx hb dX6_succeeds_241 (lv_at hl 1 rfl) ?_
      refine lv_if_ne (tgt := 283) hx hb dX6_succeeds_243 (by decide) (fun c_7 => absurd rfl c_7) (fun c_7 => ?_)
      refine lv_aload_n hx hb dX6_succeeds_246 rfl (lv_at hl 4 rfl) ?_
      refine z_get (ci := 6) (v := .ref ta.1) (C := RX6) (T := TX6) (N := 8) hx hb hts (by decide +kernel) hown hK hM 0 rfl rfl 2 (by decide) (hts (.fieldLink RX6 23 "ShiftIsles" "trial" "LShiftIsles$Game;") (by decide +kernel)) (fun _ h9 => h9) rfl dX6_succeeds_247 ?_
      refine lv_iload_n hx hb dX6_succeeds_250 rfl (lv_at hl 3 rfl) ?_
      have hp9 : List.Perm ([(o9, .inr (6, [u0, u1, .ref ta.1, .ref r9, u4, u5, u6, u7]))] ++ ((ruW G r9 sa u) ++ (gmW G ta h b)) : va_W) ((gmW G ta h b) ++ ([(o9, .inr (6, [u0, u1, .ref ta.1, .ref r9, u4, u5, u6, u7]))] ++ (ruW G r9 sa u))) := (pm_cut (cs := [[(o9, .inr (6, [u0, u1, .ref ta.1, .ref r9, u4, u5, u6, u7]))], ruW G r9 sa u, gmW G ta h b]) (sub := [gmW G ta h b]) (rest := [[(o9, .inr (6, [u0, u1, .ref ta.1, .ref r9, u4, u5, u6, u7]))], ruW G r9 sa u]) 3 [2] [0, 1] rfl rfl rfl (by decide))
      have hq9 : List.Perm ((gmW G ta h b) ++ ([(o9, .inr (6, [u0, u1, .ref ta.1, .ref r9, u4, u5, u6, u7]))] ++ (ruW G r9 sa u))) ([(o9, .inr (6, [u0, u1, .ref ta.1, .ref r9, u4, u5, u6, u7]))] ++ ((ruW G r9 sa u) ++ (gmW G ta h b)) : va_W) := (pm_put (cs := [[(o9, .inr (6, [u0, u1, .ref ta.1, .ref r9, u4, u5, u6, u7]))], ruW G r9 sa u, gmW G ta h b]) (sub := [gmW G ta h b]) (rest := [[(o9, .inr (6, [u0, u1, .ref ta.1, .ref r9, u4, u5, u6, u7]))], ruW G r9 sa u]) 3 [2] [0, 1] rfl rfl rfl (by decide))
      refine z_callV (As := [.int (nI o)]) (rest := []) (wc := gmW G ta h b) (wr := [(o9, .inr (6, [u0, u1, .ref ta.1, .ref r9, u4, u5, u6, u7]))] ++ (ruW G r9 sa u)) (w1 := gmW G ta h b) (ws' := [(o9, .inr (6, [u0, u1, .ref ta.1, .ref r9, u4, u5, u6, u7]))] ++ ((ruW G r9 sa u) ++ (gmW G ta h b))) ⟨hx, hb, hml, hown, hts⟩ (c_hasPlayer l G ta h b (nI o) ) (cwV 1 hts gX6_succeeds_X2_hasPlayer rfl rfl rfl (by decide +kernel) ⟨Nat.le_of_ble_eq_true rfl, Nat.le_of_ble_eq_true rfl⟩) 2 rfl rfl rfl rfl hl.1 rfl (Nat.le_of_ble_eq_true rfl) dX6_succeeds_251 ⟨Nat.le_of_ble_eq_true rfl, Nat.le_of_ble_eq_true rfl⟩ hK hE hA hM hp9 hq9 (fun H locs hM hz => ?_)
      refine z_ifeq (tgt := 283) hx hb dX6_succeeds_254 (by decide) (fun c_8 => Bool.noConfusion (hpq.symm.trans c_8)) (fun c_8 => ?_)
      refine lv_iload_n hx hb dX6_succeeds_257 rfl (lv_at hl 2 rfl) ?_
      refine z_callS (As := [.int (nI i)]) (rest := []) (wc := []) (wr := [(o9, .inr (6, [u0, u1, .ref ta.1, .ref r9, u4, u5, u6, u7]))] ++ ((ruW G r9 sa u) ++ (gmW G ta h b))) (w1 := []) (ws' := [(o9, .inr (6, [u0, u1, .ref ta.1, .ref r9, u4, u5, u6, u7]))] ++ ((ruW G r9 sa u) ++ (gmW G ta h b))) ⟨hx, hb, hml, hown, hts⟩ (c_isLine l G (nI i)) (va_cwS 1 hts gX6_succeeds_X6_isLine rfl rfl rfl (by decide +kernel) ⟨Nat.le_of_ble_eq_true rfl, Nat.le_of_ble_eq_true rfl⟩) rfl hl.1 rfl (Nat.le_of_ble_eq_true rfl) dX6_succeeds_258 ⟨Nat.le_of_ble_eq_true rfl, Nat.le_of_ble_eq_true rfl⟩ hK hE hA hM (List.Perm.refl _) (List.Perm.refl _) (fun H locs hM hz => ?_)
      refine z_ifeq (tgt := 283) hx hb dX6_succeeds_261 (by decide) (fun c_9 => Bool.noConfusion (hl9.symm.trans c_9)) (fun c_9 => ?_)
      have hoP : o < P := (zHp_lt hP hP4 (by omega)).mp hpq
      refine lv_aload_n hx hb dX6_succeeds_264 rfl (lv_at hl 4 rfl) ?_
      refine z_get (ci := 6) (v := .ref ta.1) (C := RX6) (T := TX6) (N := 8) hx hb hts (by decide +kernel) hown hK hM 0 rfl rfl 2 (by decide) (hts (.fieldLink RX6 23 "ShiftIsles" "trial" "LShiftIsles$Game;") (by decide +kernel)) (fun _ h9 => h9) rfl dX6_succeeds_265 ?_
      refine lv_iload_n hx hb dX6_succeeds_268 rfl (lv_at hl 3 rfl) ?_
      have hp9 : List.Perm ([(o9, .inr (6, [u0, u1, .ref ta.1, .ref r9, u4, u5, u6, u7]))] ++ ((ruW G r9 sa u) ++ (gmW G ta h b)) : va_W) ((gmW G ta h b) ++ ([(o9, .inr (6, [u0, u1, .ref ta.1, .ref r9, u4, u5, u6, u7]))] ++ (ruW G r9 sa u))) := (pm_cut (cs := [[(o9, .inr (6, [u0, u1, .ref ta.1, .ref r9, u4, u5, u6, u7]))], ruW G r9 sa u, gmW G ta h b]) (sub := [gmW G ta h b]) (rest := [[(o9, .inr (6, [u0, u1, .ref ta.1, .ref r9, u4, u5, u6, u7]))], ruW G r9 sa u]) 3 [2] [0, 1] rfl rfl rfl (by decide))
      have hq9 : List.Perm ((gmW G ta h b) ++ ([(o9, .inr (6, [u0, u1, .ref ta.1, .ref r9, u4, u5, u6, u7]))] ++ (ruW G r9 sa u))) ([(o9, .inr (6, [u0, u1, .ref ta.1, .ref r9, u4, u5, u6, u7]))] ++ ((ruW G r9 sa u) ++ (gmW G ta h b)) : va_W) := (pm_put (cs := [[(o9, .inr (6, [u0, u1, .ref ta.1, .ref r9, u4, u5, u6, u7]))], ruW G r9 sa u, gmW G ta h b]) (sub := [gmW G ta h b]) (rest := [[(o9, .inr (6, [u0, u1, .ref ta.1, .ref r9, u4, u5, u6, u7]))], ruW G r9 sa u]) 3 [2] [0, 1] rfl rfl rfl (by decide))
      refine z_callV (As := [.int (nI o)]) (rest := []) (wc := gmW G ta h b) (wr := [(o9, .inr (6, [u0, u1, .ref ta.1, .ref r9, u4, u5, u6, u7]))] ++ (ruW G r9 sa u)) (w1 := gmW G ta h b) (ws' := [(o9, .inr (6, [u0, u1, .ref ta.1, .ref r9, u4, u5, u6, u7]))] ++ ((ruW G r9 sa u) ++ (gmW G ta h b))) ⟨hx, hb, hml, hown, hts⟩ (c_boardOf l G ta h b o (by omega) ) (cwV 1 hts gX6_succeeds_X2_boardOf rfl rfl rfl (by decide +kernel) ⟨Nat.le_of_ble_eq_true rfl, Nat.le_of_ble_eq_true rfl⟩) 2 rfl rfl rfl rfl hl.1 rfl (Nat.le_of_ble_eq_true rfl) dX6_succeeds_269 ⟨Nat.le_of_ble_eq_true rfl, Nat.le_of_ble_eq_true rfl⟩ hK hE hA hM hp9 hq9 (fun H locs hM hz => ?_)
      have hM : zM G A s H locs ([(o9, .inr (6, [u0, u1, .ref ta.1, .ref r9, u4, u5, u6, u7]))] ++ ((ruW G r9 sa u) ++ ((gmX G ta h) ++ ((bdW G (ta.2.2.2 o) (b o)) ++ (bdsR G ta.2.2.2 b o))))) := zM_perm (List.Perm.append_left ([(o9, .inr (6, [u0, u1, .ref ta.1, .ref r9, u4, u5, u6, u7]))] ++ (ruW G r9 sa u)) (List.Perm.append_left (gmX G ta h) (bds_pm (show o < 4 by omega)))) hM
      have hp9 : List.Perm ([(o9, .inr (6, [u0, u1, .ref ta.1, .ref r9, u4, u5, u6, u7]))] ++ ((ruW G r9 sa u) ++ ((gmX G ta h) ++ ((bdW G (ta.2.2.2 o) (b o)) ++ (bdsR G ta.2.2.2 b o)))) : va_W) ((bdW G (ta.2.2.2 o) (b o)) ++ ([(o9, .inr (6, [u0, u1, .ref ta.1, .ref r9, u4, u5, u6, u7]))] ++ ((ruW G r9 sa u) ++ ((gmX G ta h) ++ (bdsR G ta.2.2.2 b o))))) := (pm_cut (cs := [[(o9, .inr (6, [u0, u1, .ref ta.1, .ref r9, u4, u5, u6, u7]))], ruW G r9 sa u, gmX G ta h, bdW G (ta.2.2.2 o) (b o), bdsR G ta.2.2.2 b o]) (sub := [bdW G (ta.2.2.2 o) (b o)]) (rest := [[(o9, .inr (6, [u0, u1, .ref ta.1, .ref r9, u4, u5, u6, u7]))], ruW G r9 sa u, gmX G ta h, bdsR G ta.2.2.2 b o]) 5 [3] [0, 1, 2, 4] rfl rfl rfl (by decide))
      have hq9 : List.Perm ((bdW G (ta.2.2.2 o) (b o)) ++ ([(o9, .inr (6, [u0, u1, .ref ta.1, .ref r9, u4, u5, u6, u7]))] ++ ((ruW G r9 sa u) ++ ((gmX G ta h) ++ (bdsR G ta.2.2.2 b o))))) ([(o9, .inr (6, [u0, u1, .ref ta.1, .ref r9, u4, u5, u6, u7]))] ++ ((ruW G r9 sa u) ++ ((gmX G ta h) ++ ((bdW G (ta.2.2.2 o) (b o)) ++ (bdsR G ta.2.2.2 b o)))) : va_W) := (pm_put (cs := [[(o9, .inr (6, [u0, u1, .ref ta.1, .ref r9, u4, u5, u6, u7]))], ruW G r9 sa u, gmX G ta h, bdW G (ta.2.2.2 o) (b o), bdsR G ta.2.2.2 b o]) (sub := [bdW G (ta.2.2.2 o) (b o)]) (rest := [[(o9, .inr (6, [u0, u1, .ref ta.1, .ref r9, u4, u5, u6, u7]))], ruW G r9 sa u, gmX G ta h, bdsR G ta.2.2.2 b o]) 5 [3] [0, 1, 2, 4] rfl rfl rfl (by decide))
      refine z_callV (As := []) (rest := []) (wc := bdW G (ta.2.2.2 o) (b o)) (wr := [(o9, .inr (6, [u0, u1, .ref ta.1, .ref r9, u4, u5, u6, u7]))] ++ ((ruW G r9 sa u) ++ ((gmX G ta h) ++ (bdsR G ta.2.2.2 b o)))) (w1 := bdW G (ta.2.2.2 o) (b o)) (ws' := [(o9, .inr (6, [u0, u1, .ref ta.1, .ref r9, u4, u5, u6, u7]))] ++ ((ruW G r9 sa u) ++ ((gmX G ta h) ++ ((bdW G (ta.2.2.2 o) (b o)) ++ (bdsR G ta.2.2.2 b o))))) ⟨hx, hb, hml, hown, hts⟩ (c_lockedLine l G (ta.2.2.2 o) (b o)  ) (cwV 0 hts gX6_succeeds_X0_lockedLine rfl rfl rfl (by decide +kernel) ⟨Nat.le_of_ble_eq_true rfl, Nat.le_of_ble_eq_true rfl⟩) 0 rfl rfl rfl rfl hl.1 rfl (Nat.le_of_ble_eq_true rfl) dX6_succeeds_272 ⟨Nat.le_of_ble_eq_true rfl, Nat.le_of_ble_eq_true rfl⟩ hK hE hA hM hp9 hq9 (fun H locs hM hz => ?_)
      have hM : zM G A s H locs ([(o9, .inr (6, [u0, u1, .ref ta.1, .ref r9, u4, u5, u6, u7]))] ++ ((ruW G r9 sa u) ++ (gmW G ta h b))) := zM_perm (List.Perm.append_left ([(o9, .inr (6, [u0, u1, .ref ta.1, .ref r9, u4, u5, u6, u7]))] ++ (ruW G r9 sa u)) (List.Perm.append_left (gmX G ta h) (bds_pm (show o < 4 by omega)).symm)) hM
      refine lv_iload_n hx hb dX6_succeeds_275 rfl (lv_at hl 2 rfl) ?_
      refine lv_icmp_ne (tgt := 283) hx hb dX6_succeeds_276 (by decide) (fun c_l => ?_) (fun c_l => ?_)
      · skip
        refine lv_iconst (v := 0) hx hb dX6_succeeds_283 (by decide) ?_
        exact z_zret hx hb hr hlocks dX6_succeeds_284 hM (Nat.le_of_ble_eq_true rfl) (Nat.le_of_ble_eq_true rfl) (by first | exact Or.inl rfl | exact Or.inr rfl | exact zb_01 _) (by rw [decide_eq_false c_l]; rfl)
      · skip
        refine lv_iconst (v := 1) hx hb dX6_succeeds_279 (by decide) ?_
        refine lv_goto (tgt := 284) hx hb dX6_succeeds_280 (by decide) ?_
        exact z_zret hx hb hr hlocks dX6_succeeds_284 hM (Nat.le_of_ble_eq_true rfl) (Nat.le_of_ble_eq_true rfl) (by first | exact Or.inl rfl | exact Or.inr rfl | exact zb_01 _) (by rw [decide_eq_true c_l]; rfl)

set_option maxHeartbeats 4000000 in
set_option maxRecDepth 100000 in
theorem c_su8y (l : Launch) (G : zC) (o9 : Nat) (u0 u1 u4 u5 u6 u7 : Value) (r9 : Nat) (sa : zBA) (u : zRU) (ta : zGA) (h : Nat → Int32) (b : Nat → Nat → Int32) (P t S e0 : Nat) (hG : zGs h b P t S e0) (o i j : Nat) (ho9 : o < 10) (hi9 : i < 10) (hj9 : j < 10) (hru : zRu h = true) (hc : h 1 = nI j) : zMet l G yX6_succeeds wsX6_succeeds rmX6_succeeds [.ref o9, .int (nI (1000 * 8 + 100 * 0 + 10 * 0 + j))] ([(o9, .inr (6, [u0, u1, .ref ta.1, .ref r9, u4, u5, u6, u7]))] ++ ((ruW G r9 sa u) ++ (gmW G ta h b))) (some (.int 1)) ([(o9, .inr (6, [u0, u1, .ref ta.1, .ref r9, u4, u5, u6, u7]))] ++ ((ruW G r9 sa u) ++ (gmW G ta h b))) := by
  refine zMet_of (cc := cX6_succeeds) (maxL := 6) (ret := (some .boolean)) (by decide) rfl (Nat.le_of_ble_eq_true rfl) ?_
  intro p e s m below meth c A ls hx hb hr hml hown hts hK hA hE hlocks hin hM hl
  have hown : s.vm.findClass RX6 = some m.cls := hown
  have hM : zM G A s s.heap [] ([(o9, .inr (6, [u0, u1, .ref ta.1, .ref r9, u4, u5, u6, u7]))] ++ ((ruW G r9 sa u) ++ (gmW G ta h b))) := hM
  have hl : lv_has ls 6 [(0, .ref o9), (1, .int (nI (1000 * 8 + 100 * 0 + 10 * 0 + j)))] := hl
  have hP4 := hG.1.1.2.1
  have hP := hG.1.1.1
  have hPp := zRu_P hG.1.1.1 hG.1.1.2.1 hru
  have htj : t = j := (nI_eq (by have := hG.1.1.2.2.2.1; omega) (by omega)).mp (hG.1.1.2.2.1.symm.trans hc)
  have hpj : zHp h (nI j) = true := (zHp_lt hP hP4 (by omega)).mpr (by have := (hG.1.2.1 hPp).1; omega)
  refine lv_iload_n hx hb dX6_succeeds_0 rfl (lv_at hl 1 rfl) ?_
  refine lv_bipush (v := 100) hx hb dX6_succeeds_1 (by decide) ?_
  refine lv_idiv hx hb dX6_succeeds_3 (by decide) ?_
  refine z_topi (y := nI ((1000 * 8 + 100 * 0 + 10 * 0 + j) / 100)) (pk_div (a := (1000 * 8 + 100 * 0 + 10 * 0 + j)) (d := 100) (by omega) (by decide) (by decide)) ?_
  refine lv_bipush (v := 10) hx hb dX6_succeeds_4 (by decide) ?_
  refine lv_irem hx hb dX6_succeeds_6 (by decide) ?_
  refine z_topi (y := nI (((1000 * 8 + 100 * 0 + 10 * 0 + j) / 100) % 10)) (pk_rem (a := ((1000 * 8 + 100 * 0 + 10 * 0 + j) / 100)) (d := 10) (by omega) (by decide) (by decide)) ?_
  refine z_topi (y := nI 0) (by rw [show (1000 * 8 + 100 * 0 + 10 * 0 + j) / 100 % 10 = 0 by omega]) ?_
  refine lv_istore_n (lv' := [(2, .int (nI 0)), (0, .ref o9), (1, .int (nI (1000 * 8 + 100 * 0 + 10 * 0 + j)))]) hx hb dX6_succeeds_7 rfl hl (by decide) rfl (fun ls hl => ?_)
  refine lv_iload_n hx hb dX6_succeeds_8 rfl (lv_at hl 2 rfl) ?_
  refine lv_bipush (v := 10) hx hb dX6_succeeds_9 (by decide) ?_
  refine lv_idiv hx hb dX6_succeeds_11 (by decide) ?_
  refine z_topi (y := nI ((1000 * 8 + 100 * 0 + 10 * 0 + j) / 10)) (pk_div (a := (1000 * 8 + 100 * 0 + 10 * 0 + j)) (d := 10) (by omega) (by decide) (by decide)) ?_
  refine lv_bipush (v := 10) hx hb dX6_succeeds_12 (by decide) ?_
  refine lv_irem hx hb dX6_succeeds_14 (by decide) ?_
  refine z_topi (y := nI (((1000 * 8 + 100 * 0 + 10 * 0 + j) / 10) % 10)) (pk_rem (a := ((1000 * 8 + 100 * 0 + 10 * 0 + j) / 10)) (d := 10) (by omega) (by decide) (by decide)) ?_
  refine z_topi (y := nI 0) (by rw [show (1000 * 8 + 100 * 0 + 10 * 0 + j) / 10 % 10 = 0 by omega]) ?_
  refine lv_istore_n (lv' := [(3, .int (nI 0)), (2, .int (nI 0)), (0, .ref o9), (1, .int (nI (1000 * 8 + 100 * 0 + 10 * 0 + j)))]) hx hb dX6_succeeds_15 rfl hl (by decide) rfl (fun ls hl => ?_)
  refine lv_iload_n hx hb dX6_succeeds_16 rfl (lv_at hl 3 rfl) ?_
  refine lv_bipush (v := 10) hx hb dX6_succeeds_17 (by decide) ?_
  refine lv_irem hx hb dX6_succeeds_19 (by decide) ?_
  refine z_topi (y := nI ((1000 * 8 + 100 * 0 + 10 * 0 + j) % 10)) (pk_rem (a := (1000 * 8 + 100 * 0 + 10 * 0 + j)) (d := 10) (by omega) (by decide) (by decide)) ?_
  refine z_topi (y := nI j) (by rw [show (1000 * 8 + 100 * 0 + 10 * 0 + j) % 10 = j by omega]) ?_
  refine lv_istore (lv' := [(4, .int (nI j)), (3, .int (nI 0)), (2, .int (nI 0)), (0, .ref o9), (1, .int (nI (1000 * 8 + 100 * 0 + 10 * 0 + j)))]) hx hb dX6_succeeds_20 hl (by decide) rfl (fun ls hl => ?_)
  refine lv_iload_n hx hb dX6_succeeds_22 rfl (lv_at hl 2 rfl) ?_
  refine lv_if_ne (tgt := 34) hx hb dX6_succeeds_23 (by decide) (fun c_1 => absurd rfl c_1) (fun c_1 => ?_)
  refine lv_iload_n hx hb dX6_succeeds_26 rfl (lv_at hl 1 rfl) ?_
  refine lv_if_ne (tgt := 34) hx hb dX6_succeeds_27 (by decide) (fun c_2 => absurd rfl c_2) (fun c_2 => ?_)
  refine lv_iconst (v := 1) hx hb dX6_succeeds_30 (by decide) ?_
  refine lv_goto (tgt := 35) hx hb dX6_succeeds_31 (by decide) ?_
  refine lv_istore (lv' := [(5, .int 1), (4, .int (nI j)), (3, .int (nI 0)), (2, .int (nI 0)), (0, .ref o9), (1, .int (nI (1000 * 8 + 100 * 0 + 10 * 0 + j)))]) hx hb dX6_succeeds_35 hl (by decide) rfl (fun ls hl => ?_)
  refine lv_iload_n hx hb dX6_succeeds_37 rfl (lv_at hl 5 rfl) ?_
  refine lv_sipush (v := 1000) hx hb dX6_succeeds_38 (by decide) ?_
  refine lv_idiv hx hb dX6_succeeds_41 (by decide) ?_
  refine z_topi (y := nI ((1000 * 8 + 100 * 0 + 10 * 0 + j) / 1000)) (pk_div (a := (1000 * 8 + 100 * 0 + 10 * 0 + j)) (d := 1000) (by omega) (by decide) (by decide)) ?_
  refine z_topi (y := 8) (by rw [show (1000 * 8 + 100 * 0 + 10 * 0 + j) / 1000 = 8 by omega]; rfl) ?_
  refine lv_tableIn (off := 243) (tgt := 285) hx hb dX6_succeeds_42 (by decide) (by decide) rfl (by decide) ?_
  refine lv_iload hx hb dX6_succeeds_285 (lv_at hl 0 rfl) ?_
  refine lv_if_eq (tgt := 318) hx hb dX6_succeeds_287 (by decide) (fun c_3 => absurd c_3 (by decide)) (fun c_3 => ?_)
  refine lv_aload_n hx hb dX6_succeeds_290 rfl (lv_at hl 4 rfl) ?_
  refine z_get (ci := 6) (v := .ref ta.1) (C := RX6) (T := TX6) (N := 8) hx hb hts (by decide +kernel) hown hK hM 0 rfl rfl 2 (by decide) (hts (.fieldLink RX6 23 "ShiftIsles" "trial" "LShiftIsles$Game;") (by decide +kernel)) (fun _ h9 => h9) rfl dX6_succeeds_291 ?_
  refine lv_iload hx hb dX6_succeeds_294 (lv_at hl 1 rfl) ?_
  have hp9 : List.Perm ([(o9, .inr (6, [u0, u1, .ref ta.1, .ref r9, u4, u5, u6, u7]))] ++ ((ruW G r9 sa u) ++ (gmW G ta h b)) : va_W) ((gmW G ta h b) ++ ([(o9, .inr (6, [u0, u1, .ref ta.1, .ref r9, u4, u5, u6, u7]))] ++ (ruW G r9 sa u))) := (pm_cut (cs := [[(o9, .inr (6, [u0, u1, .ref ta.1, .ref r9, u4, u5, u6, u7]))], ruW G r9 sa u, gmW G ta h b]) (sub := [gmW G ta h b]) (rest := [[(o9, .inr (6, [u0, u1, .ref ta.1, .ref r9, u4, u5, u6, u7]))], ruW G r9 sa u]) 3 [2] [0, 1] rfl rfl rfl (by decide))
  have hq9 : List.Perm ((gmW G ta h b) ++ ([(o9, .inr (6, [u0, u1, .ref ta.1, .ref r9, u4, u5, u6, u7]))] ++ (ruW G r9 sa u))) ([(o9, .inr (6, [u0, u1, .ref ta.1, .ref r9, u4, u5, u6, u7]))] ++ ((ruW G r9 sa u) ++ (gmW G ta h b)) : va_W) := (pm_put (cs := [[(o9, .inr (6, [u0, u1, .ref ta.1, .ref r9, u4, u5, u6, u7]))], ruW G r9 sa u, gmW G ta h b]) (sub := [gmW G ta h b]) (rest := [[(o9, .inr (6, [u0, u1, .ref ta.1, .ref r9, u4, u5, u6, u7]))], ruW G r9 sa u]) 3 [2] [0, 1] rfl rfl rfl (by decide))
  refine z_callV (As := [.int (nI j)]) (rest := []) (wc := gmW G ta h b) (wr := [(o9, .inr (6, [u0, u1, .ref ta.1, .ref r9, u4, u5, u6, u7]))] ++ (ruW G r9 sa u)) (w1 := gmW G ta h b) (ws' := [(o9, .inr (6, [u0, u1, .ref ta.1, .ref r9, u4, u5, u6, u7]))] ++ ((ruW G r9 sa u) ++ (gmW G ta h b))) ⟨hx, hb, hml, hown, hts⟩ (c_hasPlayer l G ta h b (nI j) ) (cwV 1 hts gX6_succeeds_X2_hasPlayer rfl rfl rfl (by decide +kernel) ⟨Nat.le_of_ble_eq_true rfl, Nat.le_of_ble_eq_true rfl⟩) 2 rfl rfl rfl rfl hl.1 rfl (Nat.le_of_ble_eq_true rfl) dX6_succeeds_296 ⟨Nat.le_of_ble_eq_true rfl, Nat.le_of_ble_eq_true rfl⟩ hK hE hA hM hp9 hq9 (fun H locs hM hz => ?_)
  refine z_ifeq (tgt := 318) hx hb dX6_succeeds_299 (by decide) (fun c_4 => Bool.noConfusion (hpj.symm.trans c_4)) (fun c_4 => ?_)
  refine lv_aload_n hx hb dX6_succeeds_302 rfl (lv_at hl 4 rfl) ?_
  refine z_get (ci := 6) (v := .ref ta.1) (C := RX6) (T := TX6) (N := 8) hx hb hts (by decide +kernel) hown hK hM 0 rfl rfl 2 (by decide) (hts (.fieldLink RX6 23 "ShiftIsles" "trial" "LShiftIsles$Game;") (by decide +kernel)) (fun _ h9 => h9) rfl dX6_succeeds_303 ?_
  have hp9 : List.Perm ([(o9, .inr (6, [u0, u1, .ref ta.1, .ref r9, u4, u5, u6, u7]))] ++ ((ruW G r9 sa u) ++ (gmW G ta h b)) : va_W) ((gmW G ta h b) ++ ([(o9, .inr (6, [u0, u1, .ref ta.1, .ref r9, u4, u5, u6, u7]))] ++ (ruW G r9 sa u))) := (pm_cut (cs := [[(o9, .inr (6, [u0, u1, .ref ta.1, .ref r9, u4, u5, u6, u7]))], ruW G r9 sa u, gmW G ta h b]) (sub := [gmW G ta h b]) (rest := [[(o9, .inr (6, [u0, u1, .ref ta.1, .ref r9, u4, u5, u6, u7]))], ruW G r9 sa u]) 3 [2] [0, 1] rfl rfl rfl (by decide))
  have hq9 : List.Perm ((gmW G ta h b) ++ ([(o9, .inr (6, [u0, u1, .ref ta.1, .ref r9, u4, u5, u6, u7]))] ++ (ruW G r9 sa u))) ([(o9, .inr (6, [u0, u1, .ref ta.1, .ref r9, u4, u5, u6, u7]))] ++ ((ruW G r9 sa u) ++ (gmW G ta h b)) : va_W) := (pm_put (cs := [[(o9, .inr (6, [u0, u1, .ref ta.1, .ref r9, u4, u5, u6, u7]))], ruW G r9 sa u, gmW G ta h b]) (sub := [gmW G ta h b]) (rest := [[(o9, .inr (6, [u0, u1, .ref ta.1, .ref r9, u4, u5, u6, u7]))], ruW G r9 sa u]) 3 [2] [0, 1] rfl rfl rfl (by decide))
  refine z_callV (As := []) (rest := []) (wc := gmW G ta h b) (wr := [(o9, .inr (6, [u0, u1, .ref ta.1, .ref r9, u4, u5, u6, u7]))] ++ (ruW G r9 sa u)) (w1 := gmW G ta h b) (ws' := [(o9, .inr (6, [u0, u1, .ref ta.1, .ref r9, u4, u5, u6, u7]))] ++ ((ruW G r9 sa u) ++ (gmW G ta h b))) ⟨hx, hb, hml, hown, hts⟩ (c_whoseTurn l G ta h b  ) (cwV 0 hts gX6_succeeds_X2_whoseTurn rfl rfl rfl (by decide +kernel) ⟨Nat.le_of_ble_eq_true rfl, Nat.le_of_ble_eq_true rfl⟩) 2 rfl rfl rfl rfl hl.1 rfl (Nat.le_of_ble_eq_true rfl) dX6_succeeds_306 ⟨Nat.le_of_ble_eq_true rfl, Nat.le_of_ble_eq_true rfl⟩ hK hE hA hM hp9 hq9 (fun H locs hM hz => ?_)
  refine lv_iload hx hb dX6_succeeds_309 (lv_at hl 1 rfl) ?_
  refine lv_icmp_ne (tgt := 318) hx hb dX6_succeeds_311 (by decide) (fun c_5 => absurd ((if_pos (zRu_4 hru)).trans hc) c_5) (fun c_5 => ?_)
  refine lv_iconst (v := 1) hx hb dX6_succeeds_314 (by decide) ?_
  refine lv_goto (tgt := 319) hx hb dX6_succeeds_315 (by decide) ?_
  exact z_zret hx hb hr hlocks dX6_succeeds_319 hM (Nat.le_of_ble_eq_true rfl) (Nat.le_of_ble_eq_true rfl) (by first | exact Or.inl rfl | exact Or.inr rfl | exact zb_01 _) rfl

set_option maxHeartbeats 4000000 in
set_option maxRecDepth 100000 in
theorem c_su8f (l : Launch) (G : zC) (o9 : Nat) (u0 u1 u4 u5 u6 u7 : Value) (r9 : Nat) (sa : zBA) (u : zRU) (ta : zGA) (h : Nat → Int32) (b : Nat → Nat → Int32) (P t S e0 : Nat) (hG : zGs h b P t S e0) (o i j : Nat) (ho9 : o < 10) (hi9 : i < 10) (hj9 : j < 10) (hc : (zRu h && decide (h 1 = nI j)) = false) : zMet l G yX6_succeeds wsX6_succeeds rmX6_succeeds [.ref o9, .int (nI (1000 * 8 + 100 * 0 + 10 * 0 + j))] ([(o9, .inr (6, [u0, u1, .ref ta.1, .ref r9, u4, u5, u6, u7]))] ++ ((ruW G r9 sa u) ++ (gmW G ta h b))) (some (.int 0)) ([(o9, .inr (6, [u0, u1, .ref ta.1, .ref r9, u4, u5, u6, u7]))] ++ ((ruW G r9 sa u) ++ (gmW G ta h b))) := by
  refine zMet_of (cc := cX6_succeeds) (maxL := 6) (ret := (some .boolean)) (by decide) rfl (Nat.le_of_ble_eq_true rfl) ?_
  intro p e s m below meth c A ls hx hb hr hml hown hts hK hA hE hlocks hin hM hl
  have hown : s.vm.findClass RX6 = some m.cls := hown
  have hM : zM G A s s.heap [] ([(o9, .inr (6, [u0, u1, .ref ta.1, .ref r9, u4, u5, u6, u7]))] ++ ((ruW G r9 sa u) ++ (gmW G ta h b))) := hM
  have hl : lv_has ls 6 [(0, .ref o9), (1, .int (nI (1000 * 8 + 100 * 0 + 10 * 0 + j)))] := hl
  have hP4 := hG.1.1.2.1
  have hP := hG.1.1.1
  refine lv_iload_n hx hb dX6_succeeds_0 rfl (lv_at hl 1 rfl) ?_
  refine lv_bipush (v := 100) hx hb dX6_succeeds_1 (by decide) ?_
  refine lv_idiv hx hb dX6_succeeds_3 (by decide) ?_
  refine z_topi (y := nI ((1000 * 8 + 100 * 0 + 10 * 0 + j) / 100)) (pk_div (a := (1000 * 8 + 100 * 0 + 10 * 0 + j)) (d := 100) (by omega) (by decide) (by decide)) ?_
  refine lv_bipush (v := 10) hx hb dX6_succeeds_4 (by decide) ?_
  refine lv_irem hx hb dX6_succeeds_6 (by decide) ?_
  refine z_topi (y := nI (((1000 * 8 + 100 * 0 + 10 * 0 + j) / 100) % 10)) (pk_rem (a := ((1000 * 8 + 100 * 0 + 10 * 0 + j) / 100)) (d := 10) (by omega) (by decide) (by decide)) ?_
  refine z_topi (y := nI 0) (by rw [show (1000 * 8 + 100 * 0 + 10 * 0 + j) / 100 % 10 = 0 by omega]) ?_
  refine lv_istore_n (lv' := [(2, .int (nI 0)), (0, .ref o9), (1, .int (nI (1000 * 8 + 100 * 0 + 10 * 0 + j)))]) hx hb dX6_succeeds_7 rfl hl (by decide) rfl (fun ls hl => ?_)
  refine lv_iload_n hx hb dX6_succeeds_8 rfl (lv_at hl 2 rfl) ?_
  refine lv_bipush (v := 10) hx hb dX6_succeeds_9 (by decide) ?_
  refine lv_idiv hx hb dX6_succeeds_11 (by decide) ?_
  refine z_topi (y := nI ((1000 * 8 + 100 * 0 + 10 * 0 + j) / 10)) (pk_div (a := (1000 * 8 + 100 * 0 + 10 * 0 + j)) (d := 10) (by omega) (by decide) (by decide)) ?_
  refine lv_bipush (v := 10) hx hb dX6_succeeds_12 (by decide) ?_
  refine lv_irem hx hb dX6_succeeds_14 (by decide) ?_
  refine z_topi (y := nI (((1000 * 8 + 100 * 0 + 10 * 0 + j) / 10) % 10)) (pk_rem (a := ((1000 * 8 + 100 * 0 + 10 * 0 + j) / 10)) (d := 10) (by omega) (by decide) (by decide)) ?_
  refine z_topi (y := nI 0) (by rw [show (1000 * 8 + 100 * 0 + 10 * 0 + j) / 10 % 10 = 0 by omega]) ?_
  refine lv_istore_n (lv' := [(3, .int (nI 0)), (2, .int (nI 0)), (0, .ref o9), (1, .int (nI (1000 * 8 + 100 * 0 + 10 * 0 + j)))]) hx hb dX6_succeeds_15 rfl hl (by decide) rfl (fun ls hl => ?_)
  refine lv_iload_n hx hb dX6_succeeds_16 rfl (lv_at hl 3 rfl) ?_
  refine lv_bipush (v := 10) hx hb dX6_succeeds_17 (by decide) ?_
  refine lv_irem hx hb dX6_succeeds_19 (by decide) ?_
  refine z_topi (y := nI ((1000 * 8 + 100 * 0 + 10 * 0 + j) % 10)) (pk_rem (a := (1000 * 8 + 100 * 0 + 10 * 0 + j)) (d := 10) (by omega) (by decide) (by decide)) ?_
  refine z_topi (y := nI j) (by rw [show (1000 * 8 + 100 * 0 + 10 * 0 + j) % 10 = j by omega]) ?_
  refine lv_istore (lv' := [(4, .int (nI j)), (3, .int (nI 0)), (2, .int (nI 0)), (0, .ref o9), (1, .int (nI (1000 * 8 + 100 * 0 + 10 * 0 + j)))]) hx hb dX6_succeeds_20 hl (by decide) rfl (fun ls hl => ?_)
  refine lv_iload_n hx hb dX6_succeeds_22 rfl (lv_at hl 2 rfl) ?_
  refine lv_if_ne (tgt := 34) hx hb dX6_succeeds_23 (by decide) (fun c_1 => absurd rfl c_1) (fun c_1 => ?_)
  refine lv_iload_n hx hb dX6_succeeds_26 rfl (lv_at hl 1 rfl) ?_
  refine lv_if_ne (tgt := 34) hx hb dX6_succeeds_27 (by decide) (fun c_2 => absurd rfl c_2) (fun c_2 => ?_)
  refine lv_iconst (v := 1) hx hb dX6_succeeds_30 (by decide) ?_
  refine lv_goto (tgt := 35) hx hb dX6_succeeds_31 (by decide) ?_
  refine lv_istore (lv' := [(5, .int 1), (4, .int (nI j)), (3, .int (nI 0)), (2, .int (nI 0)), (0, .ref o9), (1, .int (nI (1000 * 8 + 100 * 0 + 10 * 0 + j)))]) hx hb dX6_succeeds_35 hl (by decide) rfl (fun ls hl => ?_)
  refine lv_iload_n hx hb dX6_succeeds_37 rfl (lv_at hl 5 rfl) ?_
  refine lv_sipush (v := 1000) hx hb dX6_succeeds_38 (by decide) ?_
  refine lv_idiv hx hb dX6_succeeds_41 (by decide) ?_
  refine z_topi (y := nI ((1000 * 8 + 100 * 0 + 10 * 0 + j) / 1000)) (pk_div (a := (1000 * 8 + 100 * 0 + 10 * 0 + j)) (d := 1000) (by omega) (by decide) (by decide)) ?_
  refine z_topi (y := 8) (by rw [show (1000 * 8 + 100 * 0 + 10 * 0 + j) / 1000 = 8 by omega]; rfl) ?_
  refine lv_tableIn (off := 243) (tgt := 285) hx hb dX6_succeeds_42 (by decide) (by decide) rfl (by decide) ?_
  refine lv_iload hx hb dX6_succeeds_285 (lv_at hl 0 rfl) ?_
  refine lv_if_eq (tgt := 318) hx hb dX6_succeeds_287 (by decide) (fun c_3 => absurd c_3 (by decide)) (fun c_3 => ?_)
  refine lv_aload_n hx hb dX6_succeeds_290 rfl (lv_at hl 4 rfl) ?_
  refine z_get (ci := 6) (v := .ref ta.1) (C := RX6) (T := TX6) (N := 8) hx hb hts (by decide +kernel) hown hK hM 0 rfl rfl 2 (by decide) (hts (.fieldLink RX6 23 "ShiftIsles" "trial" "LShiftIsles$Game;") (by decide +kernel)) (fun _ h9 => h9) rfl dX6_succeeds_291 ?_
  refine lv_iload hx hb dX6_succeeds_294 (lv_at hl 1 rfl) ?_
  have hp9 : List.Perm ([(o9, .inr (6, [u0, u1, .ref ta.1, .ref r9, u4, u5, u6, u7]))] ++ ((ruW G r9 sa u) ++ (gmW G ta h b)) : va_W) ((gmW G ta h b) ++ ([(o9, .inr (6, [u0, u1, .ref ta.1, .ref r9, u4, u5, u6, u7]))] ++ (ruW G r9 sa u))) := (pm_cut (cs := [[(o9, .inr (6, [u0, u1, .ref ta.1, .ref r9, u4, u5, u6, u7]))], ruW G r9 sa u, gmW G ta h b]) (sub := [gmW G ta h b]) (rest := [[(o9, .inr (6, [u0, u1, .ref ta.1, .ref r9, u4, u5, u6, u7]))], ruW G r9 sa u]) 3 [2] [0, 1] rfl rfl rfl (by decide))
  have hq9 : List.Perm ((gmW G ta h b) ++ ([(o9, .inr (6, [u0, u1, .ref ta.1, .ref r9, u4, u5, u6, u7]))] ++ (ruW G r9 sa u))) ([(o9, .inr (6, [u0, u1, .ref ta.1, .ref r9, u4, u5, u6, u7]))] ++ ((ruW G r9 sa u) ++ (gmW G ta h b)) : va_W) := (pm_put (cs := [[(o9, .inr (6, [u0, u1, .ref ta.1, .ref r9, u4, u5, u6, u7]))], ruW G r9 sa u, gmW G ta h b]) (sub := [gmW G ta h b]) (rest := [[(o9, .inr (6, [u0, u1, .ref ta.1, .ref r9, u4, u5, u6, u7]))], ruW G r9 sa u]) 3 [2] [0, 1] rfl rfl rfl (by decide))
  refine z_callV (As := [.int (nI j)]) (rest := []) (wc := gmW G ta h b) (wr := [(o9, .inr (6, [u0, u1, .ref ta.1, .ref r9, u4, u5, u6, u7]))] ++ (ruW G r9 sa u)) (w1 := gmW G ta h b) (ws' := [(o9, .inr (6, [u0, u1, .ref ta.1, .ref r9, u4, u5, u6, u7]))] ++ ((ruW G r9 sa u) ++ (gmW G ta h b))) ⟨hx, hb, hml, hown, hts⟩ (c_hasPlayer l G ta h b (nI j) ) (cwV 1 hts gX6_succeeds_X2_hasPlayer rfl rfl rfl (by decide +kernel) ⟨Nat.le_of_ble_eq_true rfl, Nat.le_of_ble_eq_true rfl⟩) 2 rfl rfl rfl rfl hl.1 rfl (Nat.le_of_ble_eq_true rfl) dX6_succeeds_296 ⟨Nat.le_of_ble_eq_true rfl, Nat.le_of_ble_eq_true rfl⟩ hK hE hA hM hp9 hq9 (fun H locs hM hz => ?_)
  refine z_ifeq (tgt := 318) hx hb dX6_succeeds_299 (by decide) (fun c_p => ?_) (fun c_p => ?_)
  · skip
    refine lv_iconst (v := 0) hx hb dX6_succeeds_318 (by decide) ?_
    exact z_zret hx hb hr hlocks dX6_succeeds_319 hM (Nat.le_of_ble_eq_true rfl) (Nat.le_of_ble_eq_true rfl) (by first | exact Or.inl rfl | exact Or.inr rfl | exact zb_01 _) rfl
  · skip
    refine lv_aload_n hx hb dX6_succeeds_302 rfl (lv_at hl 4 rfl) ?_
    refine z_get (ci := 6) (v := .ref ta.1) (C := RX6) (T := TX6) (N := 8) hx hb hts (by decide +kernel) hown hK hM 0 rfl rfl 2 (by decide) (hts (.fieldLink RX6 23 "ShiftIsles" "trial" "LShiftIsles$Game;") (by decide +kernel)) (fun _ h9 => h9) rfl dX6_succeeds_303 ?_
    have hp9 : List.Perm ([(o9, .inr (6, [u0, u1, .ref ta.1, .ref r9, u4, u5, u6, u7]))] ++ ((ruW G r9 sa u) ++ (gmW G ta h b)) : va_W) ((gmW G ta h b) ++ ([(o9, .inr (6, [u0, u1, .ref ta.1, .ref r9, u4, u5, u6, u7]))] ++ (ruW G r9 sa u))) := (pm_cut (cs := [[(o9, .inr (6, [u0, u1, .ref ta.1, .ref r9, u4, u5, u6, u7]))], ruW G r9 sa u, gmW G ta h b]) (sub := [gmW G ta h b]) (rest := [[(o9, .inr (6, [u0, u1, .ref ta.1, .ref r9, u4, u5, u6, u7]))], ruW G r9 sa u]) 3 [2] [0, 1] rfl rfl rfl (by decide))
    have hq9 : List.Perm ((gmW G ta h b) ++ ([(o9, .inr (6, [u0, u1, .ref ta.1, .ref r9, u4, u5, u6, u7]))] ++ (ruW G r9 sa u))) ([(o9, .inr (6, [u0, u1, .ref ta.1, .ref r9, u4, u5, u6, u7]))] ++ ((ruW G r9 sa u) ++ (gmW G ta h b)) : va_W) := (pm_put (cs := [[(o9, .inr (6, [u0, u1, .ref ta.1, .ref r9, u4, u5, u6, u7]))], ruW G r9 sa u, gmW G ta h b]) (sub := [gmW G ta h b]) (rest := [[(o9, .inr (6, [u0, u1, .ref ta.1, .ref r9, u4, u5, u6, u7]))], ruW G r9 sa u]) 3 [2] [0, 1] rfl rfl rfl (by decide))
    refine z_callV (As := []) (rest := []) (wc := gmW G ta h b) (wr := [(o9, .inr (6, [u0, u1, .ref ta.1, .ref r9, u4, u5, u6, u7]))] ++ (ruW G r9 sa u)) (w1 := gmW G ta h b) (ws' := [(o9, .inr (6, [u0, u1, .ref ta.1, .ref r9, u4, u5, u6, u7]))] ++ ((ruW G r9 sa u) ++ (gmW G ta h b))) ⟨hx, hb, hml, hown, hts⟩ (c_whoseTurn l G ta h b  ) (cwV 0 hts gX6_succeeds_X2_whoseTurn rfl rfl rfl (by decide +kernel) ⟨Nat.le_of_ble_eq_true rfl, Nat.le_of_ble_eq_true rfl⟩) 2 rfl rfl rfl rfl hl.1 rfl (Nat.le_of_ble_eq_true rfl) dX6_succeeds_306 ⟨Nat.le_of_ble_eq_true rfl, Nat.le_of_ble_eq_true rfl⟩ hK hE hA hM hp9 hq9 (fun H locs hM hz => ?_)
    refine lv_iload hx hb dX6_succeeds_309 (lv_at hl 1 rfl) ?_
    refine lv_icmp_ne (tgt := 318) hx hb dX6_succeeds_311 (by decide) (fun c_4 => ?_) (fun c_4 => absurd hc (zTw_no hP hP4 (by omega) c_p c_4))
    refine lv_iconst (v := 0) hx hb dX6_succeeds_318 (by decide) ?_
    exact z_zret hx hb hr hlocks dX6_succeeds_319 hM (Nat.le_of_ble_eq_true rfl) (Nat.le_of_ble_eq_true rfl) (by first | exact Or.inl rfl | exact Or.inr rfl | exact zb_01 _) rfl

set_option maxHeartbeats 4000000 in
set_option maxRecDepth 100000 in
theorem c_su9 (l : Launch) (G : zC) (o9 : Nat) (u0 u1 u4 u5 u6 u7 : Value) (r9 : Nat) (sa : zBA) (u : zRU) (ta : zGA) (h : Nat → Int32) (b : Nat → Nat → Int32) (P t S e0 : Nat) (hG : zGs h b P t S e0) (o i j : Nat) (ho9 : o < 10) (hi9 : i < 10) (hj9 : j < 10) : zMet l G yX6_succeeds wsX6_succeeds rmX6_succeeds [.ref o9, .int (nI (1000 * 9 + 100 * o + 10 * i + j))] ([(o9, .inr (6, [u0, u1, .ref ta.1, .ref r9, u4, u5, u6, u7]))] ++ ((ruW G r9 sa u) ++ (gmW G ta h b))) (some (.int (zb (decide (h 3 ≤ nI (100 * o + 10 * i + j)))))) ([(o9, .inr (6, [u0, u1, .ref ta.1, .ref r9, u4, u5, u6, u7]))] ++ ((ruW G r9 sa u) ++ (gmW G ta h b))) := by
  refine zMet_of (cc := cX6_succeeds) (maxL := 6) (ret := (some .boolean)) (by decide) rfl (Nat.le_of_ble_eq_true rfl) ?_
  intro p e s m below meth c A ls hx hb hr hml hown hts hK hA hE hlocks hin hM hl
  have hown : s.vm.findClass RX6 = some m.cls := hown
  have hM : zM G A s s.heap [] ([(o9, .inr (6, [u0, u1, .ref ta.1, .ref r9, u4, u5, u6, u7]))] ++ ((ruW G r9 sa u) ++ (gmW G ta h b))) := hM
  have hl : lv_has ls 6 [(0, .ref o9), (1, .int (nI (1000 * 9 + 100 * o + 10 * i + j)))] := hl
  have hP4 := hG.1.1.2.1
  have hP := hG.1.1.1
  refine lv_iload_n hx hb dX6_succeeds_0 rfl (lv_at hl 1 rfl) ?_
  refine lv_bipush (v := 100) hx hb dX6_succeeds_1 (by decide) ?_
  refine lv_idiv hx hb dX6_succeeds_3 (by decide) ?_
  refine z_topi (y := nI ((1000 * 9 + 100 * o + 10 * i + j) / 100)) (pk_div (a := (1000 * 9 + 100 * o + 10 * i + j)) (d := 100) (by omega) (by decide) (by decide)) ?_
  refine lv_bipush (v := 10) hx hb dX6_succeeds_4 (by decide) ?_
  refine lv_irem hx hb dX6_succeeds_6 (by decide) ?_
  refine z_topi (y := nI (((1000 * 9 + 100 * o + 10 * i + j) / 100) % 10)) (pk_rem (a := ((1000 * 9 + 100 * o + 10 * i + j) / 100)) (d := 10) (by omega) (by decide) (by decide)) ?_
  refine z_topi (y := nI o) (by rw [show (1000 * 9 + 100 * o + 10 * i + j) / 100 % 10 = o by omega]) ?_
  refine lv_istore_n (lv' := [(2, .int (nI o)), (0, .ref o9), (1, .int (nI (1000 * 9 + 100 * o + 10 * i + j)))]) hx hb dX6_succeeds_7 rfl hl (by decide) rfl (fun ls hl => ?_)
  refine lv_iload_n hx hb dX6_succeeds_8 rfl (lv_at hl 2 rfl) ?_
  refine lv_bipush (v := 10) hx hb dX6_succeeds_9 (by decide) ?_
  refine lv_idiv hx hb dX6_succeeds_11 (by decide) ?_
  refine z_topi (y := nI ((1000 * 9 + 100 * o + 10 * i + j) / 10)) (pk_div (a := (1000 * 9 + 100 * o + 10 * i + j)) (d := 10) (by omega) (by decide) (by decide)) ?_
  refine lv_bipush (v := 10) hx hb dX6_succeeds_12 (by decide) ?_
  refine lv_irem hx hb dX6_succeeds_14 (by decide) ?_
  refine z_topi (y := nI (((1000 * 9 + 100 * o + 10 * i + j) / 10) % 10)) (pk_rem (a := ((1000 * 9 + 100 * o + 10 * i + j) / 10)) (d := 10) (by omega) (by decide) (by decide)) ?_
  refine z_topi (y := nI i) (by rw [show (1000 * 9 + 100 * o + 10 * i + j) / 10 % 10 = i by omega]) ?_
  refine lv_istore_n (lv' := [(3, .int (nI i)), (2, .int (nI o)), (0, .ref o9), (1, .int (nI (1000 * 9 + 100 * o + 10 * i + j)))]) hx hb dX6_succeeds_15 rfl hl (by decide) rfl (fun ls hl => ?_)
  refine lv_iload_n hx hb dX6_succeeds_16 rfl (lv_at hl 3 rfl) ?_
  refine lv_bipush (v := 10) hx hb dX6_succeeds_17 (by decide) ?_
  refine lv_irem hx hb dX6_succeeds_19 (by decide) ?_
  refine z_topi (y := nI ((1000 * 9 + 100 * o + 10 * i + j) % 10)) (pk_rem (a := (1000 * 9 + 100 * o + 10 * i + j)) (d := 10) (by omega) (by decide) (by decide)) ?_
  refine z_topi (y := nI j) (by rw [show (1000 * 9 + 100 * o + 10 * i + j) % 10 = j by omega]) ?_
  refine lv_istore (lv' := [(4, .int (nI j)), (3, .int (nI i)), (2, .int (nI o)), (0, .ref o9), (1, .int (nI (1000 * 9 + 100 * o + 10 * i + j)))]) hx hb dX6_succeeds_20 hl (by decide) rfl (fun ls hl => ?_)
  refine lv_iload_n hx hb dX6_succeeds_22 rfl (lv_at hl 2 rfl) ?_
  refine lv_if_ne (tgt := 34) hx hb dX6_succeeds_23 (by decide) (fun c_z1 => ?_) (fun c_z1 => ?_)
  · skip
    refine lv_iconst (v := 0) hx hb dX6_succeeds_34 (by decide) ?_
    refine lv_istore (lv' := [(5, .int 0), (4, .int (nI j)), (3, .int (nI i)), (2, .int (nI o)), (0, .ref o9), (1, .int (nI (1000 * 9 + 100 * o + 10 * i + j)))]) hx hb dX6_succeeds_35 hl (by decide) rfl (fun ls hl => ?_)
    refine lv_iload_n hx hb dX6_succeeds_37 rfl (lv_at hl 5 rfl) ?_
    refine lv_sipush (v := 1000) hx hb dX6_succeeds_38 (by decide) ?_
    refine lv_idiv hx hb dX6_succeeds_41 (by decide) ?_
    refine z_topi (y := nI ((1000 * 9 + 100 * o + 10 * i + j) / 1000)) (pk_div (a := (1000 * 9 + 100 * o + 10 * i + j)) (d := 1000) (by omega) (by decide) (by decide)) ?_
    refine z_topi (y := 9) (by rw [show (1000 * 9 + 100 * o + 10 * i + j) / 1000 = 9 by omega]; rfl) ?_
    refine lv_tableIn (off := 278) (tgt := 320) hx hb dX6_succeeds_42 (by decide) (by decide) rfl (by decide) ?_
    refine lv_aload_n hx hb dX6_succeeds_320 rfl (lv_at hl 4 rfl) ?_
    refine z_get (ci := 6) (v := .ref ta.1) (C := RX6) (T := TX6) (N := 8) hx hb hts (by decide +kernel) hown hK hM 0 rfl rfl 2 (by decide) (hts (.fieldLink RX6 23 "ShiftIsles" "trial" "LShiftIsles$Game;") (by decide +kernel)) (fun _ h9 => h9) rfl dX6_succeeds_321 ?_
    have hp9 : List.Perm ([(o9, .inr (6, [u0, u1, .ref ta.1, .ref r9, u4, u5, u6, u7]))] ++ ((ruW G r9 sa u) ++ (gmW G ta h b)) : va_W) ((gmW G ta h b) ++ ([(o9, .inr (6, [u0, u1, .ref ta.1, .ref r9, u4, u5, u6, u7]))] ++ (ruW G r9 sa u))) := (pm_cut (cs := [[(o9, .inr (6, [u0, u1, .ref ta.1, .ref r9, u4, u5, u6, u7]))], ruW G r9 sa u, gmW G ta h b]) (sub := [gmW G ta h b]) (rest := [[(o9, .inr (6, [u0, u1, .ref ta.1, .ref r9, u4, u5, u6, u7]))], ruW G r9 sa u]) 3 [2] [0, 1] rfl rfl rfl (by decide))
    have hq9 : List.Perm ((gmW G ta h b) ++ ([(o9, .inr (6, [u0, u1, .ref ta.1, .ref r9, u4, u5, u6, u7]))] ++ (ruW G r9 sa u))) ([(o9, .inr (6, [u0, u1, .ref ta.1, .ref r9, u4, u5, u6, u7]))] ++ ((ruW G r9 sa u) ++ (gmW G ta h b)) : va_W) := (pm_put (cs := [[(o9, .inr (6, [u0, u1, .ref ta.1, .ref r9, u4, u5, u6, u7]))], ruW G r9 sa u, gmW G ta h b]) (sub := [gmW G ta h b]) (rest := [[(o9, .inr (6, [u0, u1, .ref ta.1, .ref r9, u4, u5, u6, u7]))], ruW G r9 sa u]) 3 [2] [0, 1] rfl rfl rfl (by decide))
    refine z_callV (As := []) (rest := []) (wc := gmW G ta h b) (wr := [(o9, .inr (6, [u0, u1, .ref ta.1, .ref r9, u4, u5, u6, u7]))] ++ (ruW G r9 sa u)) (w1 := gmW G ta h b) (ws' := [(o9, .inr (6, [u0, u1, .ref ta.1, .ref r9, u4, u5, u6, u7]))] ++ ((ruW G r9 sa u) ++ (gmW G ta h b))) ⟨hx, hb, hml, hown, hts⟩ (c_g_ended l G ta h b  ) (cwV 0 hts gX6_succeeds_X2_ended rfl rfl rfl (by decide +kernel) ⟨Nat.le_of_ble_eq_true rfl, Nat.le_of_ble_eq_true rfl⟩) 2 rfl rfl rfl rfl hl.1 rfl (Nat.le_of_ble_eq_true rfl) dX6_succeeds_324 ⟨Nat.le_of_ble_eq_true rfl, Nat.le_of_ble_eq_true rfl⟩ hK hE hA hM hp9 hq9 (fun H locs hM hz => ?_)
    refine lv_iload_n hx hb dX6_succeeds_327 rfl (lv_at hl 5 rfl) ?_
    refine lv_sipush (v := 1000) hx hb dX6_succeeds_328 (by decide) ?_
    refine lv_irem hx hb dX6_succeeds_331 (by decide) ?_
    refine z_topi (y := nI ((1000 * 9 + 100 * o + 10 * i + j) % 1000)) (pk_rem (a := (1000 * 9 + 100 * o + 10 * i + j)) (d := 1000) (by omega) (by decide) (by decide)) ?_
    refine z_topi (y := nI (100 * o + 10 * i + j)) (by rw [show (1000 * 9 + 100 * o + 10 * i + j) % 1000 = 100 * o + 10 * i + j by omega]) ?_
    refine lv_icmp_gt (tgt := 339) hx hb dX6_succeeds_332 (by decide) (fun c_l => ?_) (fun c_l => ?_)
    · skip
      refine lv_iconst (v := 0) hx hb dX6_succeeds_339 (by decide) ?_
      exact z_zret hx hb hr hlocks dX6_succeeds_340 hM (Nat.le_of_ble_eq_true rfl) (Nat.le_of_ble_eq_true rfl) (by first | exact Or.inl rfl | exact Or.inr rfl | exact zb_01 _) (by rw [decide_eq_false (Int32.not_le.mpr c_l)]; rfl)
    · skip
      refine lv_iconst (v := 1) hx hb dX6_succeeds_335 (by decide) ?_
      refine lv_goto (tgt := 340) hx hb dX6_succeeds_336 (by decide) ?_
      exact z_zret hx hb hr hlocks dX6_succeeds_340 hM (Nat.le_of_ble_eq_true rfl) (Nat.le_of_ble_eq_true rfl) (by first | exact Or.inl rfl | exact Or.inr rfl | exact zb_01 _) (by rw [decide_eq_true (Int32.not_lt.mp c_l)]; rfl)
  · skip
    refine lv_iload_n hx hb dX6_succeeds_26 rfl (lv_at hl 1 rfl) ?_
    refine lv_if_ne (tgt := 34) hx hb dX6_succeeds_27 (by decide) (fun c_z2 => ?_) (fun c_z2 => ?_)
    · skip
      refine lv_iconst (v := 0) hx hb dX6_succeeds_34 (by decide) ?_
      refine lv_istore (lv' := [(5, .int 0), (4, .int (nI j)), (3, .int (nI i)), (2, .int (nI o)), (0, .ref o9), (1, .int (nI (1000 * 9 + 100 * o + 10 * i + j)))]) hx hb dX6_succeeds_35 hl (by decide) rfl (fun ls hl => ?_)
      refine lv_iload_n hx hb dX6_succeeds_37 rfl (lv_at hl 5 rfl) ?_
      refine lv_sipush (v := 1000) hx hb dX6_succeeds_38 (by decide) ?_
      refine lv_idiv hx hb dX6_succeeds_41 (by decide) ?_
      refine z_topi (y := nI ((1000 * 9 + 100 * o + 10 * i + j) / 1000)) (pk_div (a := (1000 * 9 + 100 * o + 10 * i + j)) (d := 1000) (by omega) (by decide) (by decide)) ?_
      refine z_topi (y := 9) (by rw [show (1000 * 9 + 100 * o + 10 * i + j) / 1000 = 9 by omega]; rfl) ?_
      refine lv_tableIn (off := 278) (tgt := 320) hx hb dX6_succeeds_42 (by decide) (by decide) rfl (by decide) ?_
      refine lv_aload_n hx hb dX6_succeeds_320 rfl (lv_at hl 4 rfl) ?_
      refine z_get (ci := 6) (v := .ref ta.1) (C := RX6) (T := TX6) (N := 8) hx hb hts (by decide +kernel) hown hK hM 0 rfl rfl 2 (by decide) (hts (.fieldLink RX6 23 "ShiftIsles" "trial" "LShiftIsles$Game;") (by decide +kernel)) (fun _ h9 => h9) rfl dX6_succeeds_321 ?_
      have hp9 : List.Perm ([(o9, .inr (6, [u0, u1, .ref ta.1, .ref r9, u4, u5, u6, u7]))] ++ ((ruW G r9 sa u) ++ (gmW G ta h b)) : va_W) ((gmW G ta h b) ++ ([(o9, .inr (6, [u0, u1, .ref ta.1, .ref r9, u4, u5, u6, u7]))] ++ (ruW G r9 sa u))) := (pm_cut (cs := [[(o9, .inr (6, [u0, u1, .ref ta.1, .ref r9, u4, u5, u6, u7]))], ruW G r9 sa u, gmW G ta h b]) (sub := [gmW G ta h b]) (rest := [[(o9, .inr (6, [u0, u1, .ref ta.1, .ref r9, u4, u5, u6, u7]))], ruW G r9 sa u]) 3 [2] [0, 1] rfl rfl rfl (by decide))
      have hq9 : List.Perm ((gmW G ta h b) ++ ([(o9, .inr (6, [u0, u1, .ref ta.1, .ref r9, u4, u5, u6, u7]))] ++ (ruW G r9 sa u))) ([(o9, .inr (6, [u0, u1, .ref ta.1, .ref r9, u4, u5, u6, u7]))] ++ ((ruW G r9 sa u) ++ (gmW G ta h b)) : va_W) := (pm_put (cs := [[(o9, .inr (6, [u0, u1, .ref ta.1, .ref r9, u4, u5, u6, u7]))], ruW G r9 sa u, gmW G ta h b]) (sub := [gmW G ta h b]) (rest := [[(o9, .inr (6, [u0, u1, .ref ta.1, .ref r9, u4, u5, u6, u7]))], ruW G r9 sa u]) 3 [2] [0, 1] rfl rfl rfl (by decide))
      refine z_callV (As := []) (rest := []) (wc := gmW G ta h b) (wr := [(o9, .inr (6, [u0, u1, .ref ta.1, .ref r9, u4, u5, u6, u7]))] ++ (ruW G r9 sa u)) (w1 := gmW G ta h b) (ws' := [(o9, .inr (6, [u0, u1, .ref ta.1, .ref r9, u4, u5, u6, u7]))] ++ ((ruW G r9 sa u) ++ (gmW G ta h b))) ⟨hx, hb, hml, hown, hts⟩ (c_g_ended l G ta h b  ) (cwV 0 hts gX6_succeeds_X2_ended rfl rfl rfl (by decide +kernel) ⟨Nat.le_of_ble_eq_true rfl, Nat.le_of_ble_eq_true rfl⟩) 2 rfl rfl rfl rfl hl.1 rfl (Nat.le_of_ble_eq_true rfl) dX6_succeeds_324 ⟨Nat.le_of_ble_eq_true rfl, Nat.le_of_ble_eq_true rfl⟩ hK hE hA hM hp9 hq9 (fun H locs hM hz => ?_)
      refine lv_iload_n hx hb dX6_succeeds_327 rfl (lv_at hl 5 rfl) ?_
      refine lv_sipush (v := 1000) hx hb dX6_succeeds_328 (by decide) ?_
      refine lv_irem hx hb dX6_succeeds_331 (by decide) ?_
      refine z_topi (y := nI ((1000 * 9 + 100 * o + 10 * i + j) % 1000)) (pk_rem (a := (1000 * 9 + 100 * o + 10 * i + j)) (d := 1000) (by omega) (by decide) (by decide)) ?_
      refine z_topi (y := nI (100 * o + 10 * i + j)) (by rw [show (1000 * 9 + 100 * o + 10 * i + j) % 1000 = 100 * o + 10 * i + j by omega]) ?_
      refine lv_icmp_gt (tgt := 339) hx hb dX6_succeeds_332 (by decide) (fun c_l => ?_) (fun c_l => ?_)
      · skip
        refine lv_iconst (v := 0) hx hb dX6_succeeds_339 (by decide) ?_
        exact z_zret hx hb hr hlocks dX6_succeeds_340 hM (Nat.le_of_ble_eq_true rfl) (Nat.le_of_ble_eq_true rfl) (by first | exact Or.inl rfl | exact Or.inr rfl | exact zb_01 _) (by rw [decide_eq_false (Int32.not_le.mpr c_l)]; rfl)
      · skip
        refine lv_iconst (v := 1) hx hb dX6_succeeds_335 (by decide) ?_
        refine lv_goto (tgt := 340) hx hb dX6_succeeds_336 (by decide) ?_
        exact z_zret hx hb hr hlocks dX6_succeeds_340 hM (Nat.le_of_ble_eq_true rfl) (Nat.le_of_ble_eq_true rfl) (by first | exact Or.inl rfl | exact Or.inr rfl | exact zb_01 _) (by rw [decide_eq_true (Int32.not_lt.mp c_l)]; rfl)
    · skip
      refine lv_iconst (v := 1) hx hb dX6_succeeds_30 (by decide) ?_
      refine lv_goto (tgt := 35) hx hb dX6_succeeds_31 (by decide) ?_
      refine lv_istore (lv' := [(5, .int 1), (4, .int (nI j)), (3, .int (nI i)), (2, .int (nI o)), (0, .ref o9), (1, .int (nI (1000 * 9 + 100 * o + 10 * i + j)))]) hx hb dX6_succeeds_35 hl (by decide) rfl (fun ls hl => ?_)
      refine lv_iload_n hx hb dX6_succeeds_37 rfl (lv_at hl 5 rfl) ?_
      refine lv_sipush (v := 1000) hx hb dX6_succeeds_38 (by decide) ?_
      refine lv_idiv hx hb dX6_succeeds_41 (by decide) ?_
      refine z_topi (y := nI ((1000 * 9 + 100 * o + 10 * i + j) / 1000)) (pk_div (a := (1000 * 9 + 100 * o + 10 * i + j)) (d := 1000) (by omega) (by decide) (by decide)) ?_
      refine z_topi (y := 9) (by rw [show (1000 * 9 + 100 * o + 10 * i + j) / 1000 = 9 by omega]; rfl) ?_
      refine lv_tableIn (off := 278) (tgt := 320) hx hb dX6_succeeds_42 (by decide) (by decide) rfl (by decide) ?_
      refine lv_aload_n hx hb dX6_succeeds_320 rfl (lv_at hl 4 rfl) ?_
      refine z_get (ci := 6) (v := .ref ta.1) (C := RX6) (T := TX6) (N := 8) hx hb hts (by decide +kernel) hown hK hM 0 rfl rfl 2 (by decide) (hts (.fieldLink RX6 23 "ShiftIsles" "trial" "LShiftIsles$Game;") (by decide +kernel)) (fun _ h9 => h9) rfl dX6_succeeds_321 ?_
      have hp9 : List.Perm ([(o9, .inr (6, [u0, u1, .ref ta.1, .ref r9, u4, u5, u6, u7]))] ++ ((ruW G r9 sa u) ++ (gmW G ta h b)) : va_W) ((gmW G ta h b) ++ ([(o9, .inr (6, [u0, u1, .ref ta.1, .ref r9, u4, u5, u6, u7]))] ++ (ruW G r9 sa u))) := (pm_cut (cs := [[(o9, .inr (6, [u0, u1, .ref ta.1, .ref r9, u4, u5, u6, u7]))], ruW G r9 sa u, gmW G ta h b]) (sub := [gmW G ta h b]) (rest := [[(o9, .inr (6, [u0, u1, .ref ta.1, .ref r9, u4, u5, u6, u7]))], ruW G r9 sa u]) 3 [2] [0, 1] rfl rfl rfl (by decide))
      have hq9 : List.Perm ((gmW G ta h b) ++ ([(o9, .inr (6, [u0, u1, .ref ta.1, .ref r9, u4, u5, u6, u7]))] ++ (ruW G r9 sa u))) ([(o9, .inr (6, [u0, u1, .ref ta.1, .ref r9, u4, u5, u6, u7]))] ++ ((ruW G r9 sa u) ++ (gmW G ta h b)) : va_W) := (pm_put (cs := [[(o9, .inr (6, [u0, u1, .ref ta.1, .ref r9, u4, u5, u6, u7]))], ruW G r9 sa u, gmW G ta h b]) (sub := [gmW G ta h b]) (rest := [[(o9, .inr (6, [u0, u1, .ref ta.1, .ref r9, u4, u5, u6, u7]))], ruW G r9 sa u]) 3 [2] [0, 1] rfl rfl rfl (by decide))
      refine z_callV (As := []) (rest := []) (wc := gmW G ta h b) (wr := [(o9, .inr (6, [u0, u1, .ref ta.1, .ref r9, u4, u5, u6, u7]))] ++ (ruW G r9 sa u)) (w1 := gmW G ta h b) (ws' := [(o9, .inr (6, [u0, u1, .ref ta.1, .ref r9, u4, u5, u6, u7]))] ++ ((ruW G r9 sa u) ++ (gmW G ta h b))) ⟨hx, hb, hml, hown, hts⟩ (c_g_ended l G ta h b  ) (cwV 0 hts gX6_succeeds_X2_ended rfl rfl rfl (by decide +kernel) ⟨Nat.le_of_ble_eq_true rfl, Nat.le_of_ble_eq_true rfl⟩) 2 rfl rfl rfl rfl hl.1 rfl (Nat.le_of_ble_eq_true rfl) dX6_succeeds_324 ⟨Nat.le_of_ble_eq_true rfl, Nat.le_of_ble_eq_true rfl⟩ hK hE hA hM hp9 hq9 (fun H locs hM hz => ?_)
      refine lv_iload_n hx hb dX6_succeeds_327 rfl (lv_at hl 5 rfl) ?_
      refine lv_sipush (v := 1000) hx hb dX6_succeeds_328 (by decide) ?_
      refine lv_irem hx hb dX6_succeeds_331 (by decide) ?_
      refine z_topi (y := nI ((1000 * 9 + 100 * o + 10 * i + j) % 1000)) (pk_rem (a := (1000 * 9 + 100 * o + 10 * i + j)) (d := 1000) (by omega) (by decide) (by decide)) ?_
      refine z_topi (y := nI (100 * o + 10 * i + j)) (by rw [show (1000 * 9 + 100 * o + 10 * i + j) % 1000 = 100 * o + 10 * i + j by omega]) ?_
      refine lv_icmp_gt (tgt := 339) hx hb dX6_succeeds_332 (by decide) (fun c_l => ?_) (fun c_l => ?_)
      · skip
        refine lv_iconst (v := 0) hx hb dX6_succeeds_339 (by decide) ?_
        exact z_zret hx hb hr hlocks dX6_succeeds_340 hM (Nat.le_of_ble_eq_true rfl) (Nat.le_of_ble_eq_true rfl) (by first | exact Or.inl rfl | exact Or.inr rfl | exact zb_01 _) (by rw [decide_eq_false (Int32.not_le.mpr c_l)]; rfl)
      · skip
        refine lv_iconst (v := 1) hx hb dX6_succeeds_335 (by decide) ?_
        refine lv_goto (tgt := 340) hx hb dX6_succeeds_336 (by decide) ?_
        exact z_zret hx hb hr hlocks dX6_succeeds_340 hM (Nat.le_of_ble_eq_true rfl) (Nat.le_of_ble_eq_true rfl) (by first | exact Or.inl rfl | exact Or.inr rfl | exact zb_01 _) (by rw [decide_eq_true (Int32.not_lt.mp c_l)]; rfl)

set_option maxHeartbeats 4000000 in
set_option maxRecDepth 100000 in
theorem c_su0 (l : Launch) (G : zC) (o9 : Nat) (u0 u1 u4 u5 u6 u7 : Value) (r9 : Nat) (sa : zBA) (u : zRU) (ta : zGA) (h : Nat → Int32) (b : Nat → Nat → Int32) (P t S e0 : Nat) (hG : zGs h b P t S e0) (o i j : Nat) (ho9 : o < 10) (hi9 : i < 10) (hj9 : j < 10) : zMet l G yX6_succeeds wsX6_succeeds rmX6_succeeds [.ref o9, .int (nI (1000 * 0 + 100 * o + 10 * i + j))] ([(o9, .inr (6, [u0, u1, .ref ta.1, .ref r9, u4, u5, u6, u7]))] ++ ((ruW G r9 sa u) ++ (gmW G ta h b))) (some (.int 0)) ([(o9, .inr (6, [u0, u1, .ref ta.1, .ref r9, u4, u5, u6, u7]))] ++ ((ruW G r9 sa u) ++ (gmW G ta h b))) := by
  refine zMet_of (cc := cX6_succeeds) (maxL := 6) (ret := (some .boolean)) (by decide) rfl (Nat.le_of_ble_eq_true rfl) ?_
  intro p e s m below meth c A ls hx hb hr hml hown hts hK hA hE hlocks hin hM hl
  have hown : s.vm.findClass RX6 = some m.cls := hown
  have hM : zM G A s s.heap [] ([(o9, .inr (6, [u0, u1, .ref ta.1, .ref r9, u4, u5, u6, u7]))] ++ ((ruW G r9 sa u) ++ (gmW G ta h b))) := hM
  have hl : lv_has ls 6 [(0, .ref o9), (1, .int (nI (1000 * 0 + 100 * o + 10 * i + j)))] := hl
  have hP4 := hG.1.1.2.1
  have hP := hG.1.1.1
  refine lv_iload_n hx hb dX6_succeeds_0 rfl (lv_at hl 1 rfl) ?_
  refine lv_bipush (v := 100) hx hb dX6_succeeds_1 (by decide) ?_
  refine lv_idiv hx hb dX6_succeeds_3 (by decide) ?_
  refine z_topi (y := nI ((1000 * 0 + 100 * o + 10 * i + j) / 100)) (pk_div (a := (1000 * 0 + 100 * o + 10 * i + j)) (d := 100) (by omega) (by decide) (by decide)) ?_
  refine lv_bipush (v := 10) hx hb dX6_succeeds_4 (by decide) ?_
  refine lv_irem hx hb dX6_succeeds_6 (by decide) ?_
  refine z_topi (y := nI (((1000 * 0 + 100 * o + 10 * i + j) / 100) % 10)) (pk_rem (a := ((1000 * 0 + 100 * o + 10 * i + j) / 100)) (d := 10) (by omega) (by decide) (by decide)) ?_
  refine z_topi (y := nI o) (by rw [show (1000 * 0 + 100 * o + 10 * i + j) / 100 % 10 = o by omega]) ?_
  refine lv_istore_n (lv' := [(2, .int (nI o)), (0, .ref o9), (1, .int (nI (1000 * 0 + 100 * o + 10 * i + j)))]) hx hb dX6_succeeds_7 rfl hl (by decide) rfl (fun ls hl => ?_)
  refine lv_iload_n hx hb dX6_succeeds_8 rfl (lv_at hl 2 rfl) ?_
  refine lv_bipush (v := 10) hx hb dX6_succeeds_9 (by decide) ?_
  refine lv_idiv hx hb dX6_succeeds_11 (by decide) ?_
  refine z_topi (y := nI ((1000 * 0 + 100 * o + 10 * i + j) / 10)) (pk_div (a := (1000 * 0 + 100 * o + 10 * i + j)) (d := 10) (by omega) (by decide) (by decide)) ?_
  refine lv_bipush (v := 10) hx hb dX6_succeeds_12 (by decide) ?_
  refine lv_irem hx hb dX6_succeeds_14 (by decide) ?_
  refine z_topi (y := nI (((1000 * 0 + 100 * o + 10 * i + j) / 10) % 10)) (pk_rem (a := ((1000 * 0 + 100 * o + 10 * i + j) / 10)) (d := 10) (by omega) (by decide) (by decide)) ?_
  refine z_topi (y := nI i) (by rw [show (1000 * 0 + 100 * o + 10 * i + j) / 10 % 10 = i by omega]) ?_
  refine lv_istore_n (lv' := [(3, .int (nI i)), (2, .int (nI o)), (0, .ref o9), (1, .int (nI (1000 * 0 + 100 * o + 10 * i + j)))]) hx hb dX6_succeeds_15 rfl hl (by decide) rfl (fun ls hl => ?_)
  refine lv_iload_n hx hb dX6_succeeds_16 rfl (lv_at hl 3 rfl) ?_
  refine lv_bipush (v := 10) hx hb dX6_succeeds_17 (by decide) ?_
  refine lv_irem hx hb dX6_succeeds_19 (by decide) ?_
  refine z_topi (y := nI ((1000 * 0 + 100 * o + 10 * i + j) % 10)) (pk_rem (a := (1000 * 0 + 100 * o + 10 * i + j)) (d := 10) (by omega) (by decide) (by decide)) ?_
  refine z_topi (y := nI j) (by rw [show (1000 * 0 + 100 * o + 10 * i + j) % 10 = j by omega]) ?_
  refine lv_istore (lv' := [(4, .int (nI j)), (3, .int (nI i)), (2, .int (nI o)), (0, .ref o9), (1, .int (nI (1000 * 0 + 100 * o + 10 * i + j)))]) hx hb dX6_succeeds_20 hl (by decide) rfl (fun ls hl => ?_)
  refine lv_iload_n hx hb dX6_succeeds_22 rfl (lv_at hl 2 rfl) ?_
  refine lv_if_ne (tgt := 34) hx hb dX6_succeeds_23 (by decide) (fun c_z1 => ?_) (fun c_z1 => ?_)
  · skip
    refine lv_iconst (v := 0) hx hb dX6_succeeds_34 (by decide) ?_
    refine lv_istore (lv' := [(5, .int 0), (4, .int (nI j)), (3, .int (nI i)), (2, .int (nI o)), (0, .ref o9), (1, .int (nI (1000 * 0 + 100 * o + 10 * i + j)))]) hx hb dX6_succeeds_35 hl (by decide) rfl (fun ls hl => ?_)
    refine lv_iload_n hx hb dX6_succeeds_37 rfl (lv_at hl 5 rfl) ?_
    refine lv_sipush (v := 1000) hx hb dX6_succeeds_38 (by decide) ?_
    refine lv_idiv hx hb dX6_succeeds_41 (by decide) ?_
    refine z_topi (y := nI ((1000 * 0 + 100 * o + 10 * i + j) / 1000)) (pk_div (a := (1000 * 0 + 100 * o + 10 * i + j)) (d := 1000) (by omega) (by decide) (by decide)) ?_
    refine z_topi (y := 0) (by rw [show (1000 * 0 + 100 * o + 10 * i + j) / 1000 = 0 by omega]; rfl) ?_
    refine lv_tableOut (tgt := 341) hx hb dX6_succeeds_42 (Or.inl (by decide)) (by decide) ?_
    refine lv_iconst (v := 0) hx hb dX6_succeeds_341 (by decide) ?_
    exact z_zret hx hb hr hlocks dX6_succeeds_342 hM (Nat.le_of_ble_eq_true rfl) (Nat.le_of_ble_eq_true rfl) (by first | exact Or.inl rfl | exact Or.inr rfl | exact zb_01 _) rfl
  · skip
    refine lv_iload_n hx hb dX6_succeeds_26 rfl (lv_at hl 1 rfl) ?_
    refine lv_if_ne (tgt := 34) hx hb dX6_succeeds_27 (by decide) (fun c_z2 => ?_) (fun c_z2 => ?_)
    · skip
      refine lv_iconst (v := 0) hx hb dX6_succeeds_34 (by decide) ?_
      refine lv_istore (lv' := [(5, .int 0), (4, .int (nI j)), (3, .int (nI i)), (2, .int (nI o)), (0, .ref o9), (1, .int (nI (1000 * 0 + 100 * o + 10 * i + j)))]) hx hb dX6_succeeds_35 hl (by decide) rfl (fun ls hl => ?_)
      refine lv_iload_n hx hb dX6_succeeds_37 rfl (lv_at hl 5 rfl) ?_
      refine lv_sipush (v := 1000) hx hb dX6_succeeds_38 (by decide) ?_
      refine lv_idiv hx hb dX6_succeeds_41 (by decide) ?_
      refine z_topi (y := nI ((1000 * 0 + 100 * o + 10 * i + j) / 1000)) (pk_div (a := (1000 * 0 + 100 * o + 10 * i + j)) (d := 1000) (by omega) (by decide) (by decide)) ?_
      refine z_topi (y := 0) (by rw [show (1000 * 0 + 100 * o + 10 * i + j) / 1000 = 0 by omega]; rfl) ?_
      refine lv_tableOut (tgt := 341) hx hb dX6_succeeds_42 (Or.inl (by decide)) (by decide) ?_
      refine lv_iconst (v := 0) hx hb dX6_succeeds_341 (by decide) ?_
      exact z_zret hx hb hr hlocks dX6_succeeds_342 hM (Nat.le_of_ble_eq_true rfl) (Nat.le_of_ble_eq_true rfl) (by first | exact Or.inl rfl | exact Or.inr rfl | exact zb_01 _) rfl
    · skip
      refine lv_iconst (v := 1) hx hb dX6_succeeds_30 (by decide) ?_
      refine lv_goto (tgt := 35) hx hb dX6_succeeds_31 (by decide) ?_
      refine lv_istore (lv' := [(5, .int 1), (4, .int (nI j)), (3, .int (nI i)), (2, .int (nI o)), (0, .ref o9), (1, .int (nI (1000 * 0 + 100 * o + 10 * i + j)))]) hx hb dX6_succeeds_35 hl (by decide) rfl (fun ls hl => ?_)
      refine lv_iload_n hx hb dX6_succeeds_37 rfl (lv_at hl 5 rfl) ?_
      refine lv_sipush (v := 1000) hx hb dX6_succeeds_38 (by decide) ?_
      refine lv_idiv hx hb dX6_succeeds_41 (by decide) ?_
      refine z_topi (y := nI ((1000 * 0 + 100 * o + 10 * i + j) / 1000)) (pk_div (a := (1000 * 0 + 100 * o + 10 * i + j)) (d := 1000) (by omega) (by decide) (by decide)) ?_
      refine z_topi (y := 0) (by rw [show (1000 * 0 + 100 * o + 10 * i + j) / 1000 = 0 by omega]; rfl) ?_
      refine lv_tableOut (tgt := 341) hx hb dX6_succeeds_42 (Or.inl (by decide)) (by decide) ?_
      refine lv_iconst (v := 0) hx hb dX6_succeeds_341 (by decide) ?_
      exact z_zret hx hb hr hlocks dX6_succeeds_342 hM (Nat.le_of_ble_eq_true rfl) (Nat.le_of_ble_eq_true rfl) (by first | exact Or.inl rfl | exact Or.inr rfl | exact zb_01 _) rfl

set_option maxHeartbeats 4000000 in
theorem c_succeeds (l : Launch) (G : zC) (o9 : Nat) (u0 u1 u4 u5 u6 u7 : Value) (r9 : Nat) (sa : zBA) (u : zRU) (ta : zGA) (h : Nat → Int32) (b : Nat → Nat → Int32) (P t S e0 : Nat) (hG : zGs h b P t S e0) (o i j : Nat) (ho9 : o < 10) (hi9 : i < 10) (hj9 : j < 10) (w : Nat) (hw9 : w < 10) : zMet l G yX6_succeeds wsX6_succeeds rmX6_succeeds [.ref o9, .int (nI (1000 * w + 100 * o + 10 * i + j))] ([(o9, .inr (6, [u0, u1, .ref ta.1, .ref r9, u4, u5, u6, u7]))] ++ ((ruW G r9 sa u) ++ (gmW G ta h b))) (some (.int (zb (zCmdB w o i j (h, b))))) ([(o9, .inr (6, [u0, u1, .ref ta.1, .ref r9, u4, u5, u6, u7]))] ++ ((ruW G r9 sa ((zCmdX w o i j ((h, b), u)).2)) ++ (gmW G ta ((zCmdX w o i j ((h, b), u)).1.1) ((zCmdX w o i j ((h, b), u)).1.2)))) := by
  have hw10 : w = 0 ∨ w = 1 ∨ w = 2 ∨ w = 3 ∨ w = 4 ∨ w = 5 ∨ w = 6 ∨ w = 7 ∨ w = 8 ∨ w = 9 := by omega
  have hV := hG.1
  rcases hw10 with rfl | rfl | rfl | rfl | rfl | rfl | rfl | rfl | rfl | rfl
  · have hq : zCmdB 0 o i j (h, b) = false := zCmdB_0 o i j
    rw [zCmdX_n (t := ((h, b), u)) hq, hq]
    exact c_su0 l G o9 u0 u1 u4 u5 u6 u7 r9 sa u ta h b P t S e0 hG o i j ho9 hi9 hj9 
  · have q9 := c_su1 l G o9 u0 u1 u4 u5 u6 u7 r9 sa u ta h b P t S e0 hG o i j ho9 hi9 hj9
    by_cases hm : zMs h b o (nI i) (nI j) = true
    · have hq : zCmdB 1 o i j (h, b) = true := (zCmdB_1 hV o i j).trans hm
      rw [zCmdX_y (t := ((h, b), u)) hq, hq, show zCmdV 1 o i j ((h, b), u) = (zShS o i (nI j) (h, b), u) from if_pos rfl]
      rw [hm, (zTs_y hm).1, (zTs_y hm).2] at q9
      exact q9
    · have hm := bfalse hm
      have hq : zCmdB 1 o i j (h, b) = false := (zCmdB_1 hV o i j).trans hm
      rw [zCmdX_n (t := ((h, b), u)) hq, hq]
      rw [hm, (zTs_n hm).1, (zTs_n hm).2] at q9
      exact q9
  · by_cases hz0 : (decide (o = 0) && decide (i = 0)) = true
    · obtain ⟨z1, z2⟩ := (Bool.and_eq_true _ _).mp hz0
      have z1 := of_decide_eq_true z1
      have z2 := of_decide_eq_true z2
      subst z1 z2
      have q9 := c_su2 l G o9 u0 u1 u4 u5 u6 u7 r9 sa u ta h b P t S e0 hG 0 0 j ho9 hi9 hj9
      by_cases hm : zMg h b S t (nI j) = true
      · have hq : zCmdB 2 0 0 j (h, b) = true := (zCmdB_2 hV 0 0 j).trans (by rw [hm]; rfl)
        rw [zCmdX_y (t := ((h, b), u)) hq, hq, show zCmdV 2 0 0 j ((h, b), u) = (zGoS j (h, b), u) from (if_neg (by decide)).trans (if_pos rfl), zGoS_e hV]
        rw [if_pos hm, if_pos hm, hm] at q9
        exact q9
      · have hm := bfalse hm
        have hq : zCmdB 2 0 0 j (h, b) = false := (zCmdB_2 hV 0 0 j).trans (by rw [hm]; rfl)
        rw [zCmdX_n (t := ((h, b), u)) hq, hq]
        rw [if_neg (by rw [hm]; decide), if_neg (by rw [hm]; decide), hm] at q9
        exact q9
    · have hz0 := bfalse hz0
      have hq : zCmdB 2 o i j (h, b) = false := (zCmdB_2 hV o i j).trans (by rw [hz0]; rfl)
      rw [zCmdX_n (t := ((h, b), u)) hq, hq]
      exact c_su2n l G o9 u0 u1 u4 u5 u6 u7 r9 sa u ta h b P t S e0 hG o i j ho9 hi9 hj9 hz0
  · by_cases hz0 : (decide (o = 0) && decide (i = 0)) = true
    · obtain ⟨z1, z2⟩ := (Bool.and_eq_true _ _).mp hz0
      have z1 := of_decide_eq_true z1
      have z2 := of_decide_eq_true z2
      subst z1 z2
      have q9 := c_su3 l G o9 u0 u1 u4 u5 u6 u7 r9 sa u ta h b P t S e0 hG 0 0 j ho9 hi9 hj9
      by_cases hm : (zMe h && zLi (nI j)) = true
      · have hq : zCmdB 3 0 0 j (h, b) = true := (zCmdB_3 hV 0 0 j).trans (by rw [((Bool.and_eq_true _ _).mp hm).1, ((Bool.and_eq_true _ _).mp hm).2]; rfl)
        rw [zCmdX_y (t := ((h, b), u)) hq, hq, show zCmdV 3 0 0 j ((h, b), u) = (zLkS (nI j) (h, b), u) from (if_neg (by decide)).trans ((if_neg (by decide)).trans (if_pos rfl)), zLkS_e hV]
        rw [if_pos hm, if_pos hm, hm] at q9
        exact q9
      · have hm := bfalse hm
        have hq : zCmdB 3 0 0 j (h, b) = false := (zCmdB_3 hV 0 0 j).trans (by cases ha9 : zLi (nI j) <;> cases hb9 : zMe h <;> rw [ha9, hb9] at hm <;> first | rfl | exact absurd hm (by decide))
        rw [zCmdX_n (t := ((h, b), u)) hq, hq]
        rw [if_neg (by rw [hm]; decide), if_neg (by rw [hm]; decide), hm] at q9
        exact q9
    · have hz0 := bfalse hz0
      have hq : zCmdB 3 o i j (h, b) = false := (zCmdB_3 hV o i j).trans (by rw [hz0]; rfl)
      rw [zCmdX_n (t := ((h, b), u)) hq, hq]
      exact c_su3n l G o9 u0 u1 u4 u5 u6 u7 r9 sa u ta h b P t S e0 hG o i j ho9 hi9 hj9 hz0
  · by_cases hz0 : (decide (o = 0) && decide (i = 0)) = true
    · obtain ⟨z1, z2⟩ := (Bool.and_eq_true _ _).mp hz0
      have z1 := of_decide_eq_true z1
      have z2 := of_decide_eq_true z2
      subst z1 z2
      by_cases hj0 : j = 0
      · subst hj0
        by_cases hru : zRu h = true
        · have hq : zCmdB 4 0 0 0 (h, b) = true := (zCmdB_4 hV 0 0 0).trans (by rw [hru]; rfl)
          rw [zCmdX_y (t := ((h, b), u)) hq, hq, show zCmdV 4 0 0 0 ((h, b), u) = zPv1 ((h, b), u) from (if_neg (by decide)).trans ((if_neg (by decide)).trans ((if_neg (by decide)).trans (if_pos rfl))), zPv1_e hV u]
          exact c_su4y l G o9 u0 u1 u4 u5 u6 u7 r9 sa u ta h b P t S e0 hG 0 0 0 ho9 hi9 hj9 hru
        · have hru := bfalse hru
          have hq : zCmdB 4 0 0 0 (h, b) = false := (zCmdB_4 hV 0 0 0).trans (by rw [hru]; rfl)
          rw [zCmdX_n (t := ((h, b), u)) hq, hq]
          exact c_su4f l G o9 u0 u1 u4 u5 u6 u7 r9 sa u ta h b P t S e0 hG 0 0 0 ho9 hi9 hj9 hru
      · have hq : zCmdB 4 0 0 j (h, b) = false := (zCmdB_4 hV 0 0 j).trans (by rw [decide_eq_false hj0]; rfl)
        rw [zCmdX_n (t := ((h, b), u)) hq, hq]
        exact c_su4j l G o9 u0 u1 u4 u5 u6 u7 r9 sa u ta h b P t S e0 hG 0 0 j ho9 hi9 hj9 hj0
    · have hz0 := bfalse hz0
      have hq : zCmdB 4 o i j (h, b) = false := (zCmdB_4 hV o i j).trans (by rw [hz0]; rfl)
      rw [zCmdX_n (t := ((h, b), u)) hq, hq]
      exact c_su4n l G o9 u0 u1 u4 u5 u6 u7 r9 sa u ta h b P t S e0 hG o i j ho9 hi9 hj9 hz0
  · by_cases hj0 : j = 0
    · subst hj0
      have hB : zCmdB 5 o i 0 (h, b) = zRs h b S o (nI i) := (zCmdB_5 hV o i 0)
      rw [show zCmdX 5 o i 0 ((h, b), u) = ((h, b), u) from (by by_cases hq : zCmdB 5 o i 0 (h, b) = true; exact (zCmdX_y (t := ((h, b), u)) hq).trans ((if_neg (by decide)).trans ((if_neg (by decide)).trans ((if_neg (by decide)).trans (if_neg (by decide))))); exact if_neg hq), hB]
      exact c_su5 l G o9 u0 u1 u4 u5 u6 u7 r9 sa u ta h b P t S e0 hG o i 0 ho9 hi9 hj9 
    · skip
      have hB : zCmdB 5 o i j (h, b) = false := (zCmdB_5 hV o i j).trans (by rw [decide_eq_false hj0]; rfl)
      rw [show zCmdX 5 o i j ((h, b), u) = ((h, b), u) from (by by_cases hq : zCmdB 5 o i j (h, b) = true; exact (zCmdX_y (t := ((h, b), u)) hq).trans ((if_neg (by decide)).trans ((if_neg (by decide)).trans ((if_neg (by decide)).trans (if_neg (by decide))))); exact if_neg hq), hB]
      exact c_su5j l G o9 u0 u1 u4 u5 u6 u7 r9 sa u ta h b P t S e0 hG o i j ho9 hi9 hj9 hj0
  · by_cases hi0 : i = 0
    · subst hi0
      by_cases hpq : zHp h (nI o) = true
      · skip
        have hB : zCmdB 6 o 0 j (h, b) = decide (nI j ≤ b o 23) := (zCmdB_6 hV o 0 j).trans (by rw [hpq]; rfl)
        rw [show zCmdX 6 o 0 j ((h, b), u) = ((h, b), u) from (by by_cases hq : zCmdB 6 o 0 j (h, b) = true; exact (zCmdX_y (t := ((h, b), u)) hq).trans ((if_neg (by decide)).trans ((if_neg (by decide)).trans ((if_neg (by decide)).trans (if_neg (by decide))))); exact if_neg hq), hB]
        exact c_su6 l G o9 u0 u1 u4 u5 u6 u7 r9 sa u ta h b P t S e0 hG o 0 j ho9 hi9 hj9 hpq
      · have hpq := bfalse hpq
        have hB : zCmdB 6 o 0 j (h, b) = false := (zCmdB_6 hV o 0 j).trans (by rw [hpq]; rfl)
        rw [show zCmdX 6 o 0 j ((h, b), u) = ((h, b), u) from (by by_cases hq : zCmdB 6 o 0 j (h, b) = true; exact (zCmdX_y (t := ((h, b), u)) hq).trans ((if_neg (by decide)).trans ((if_neg (by decide)).trans ((if_neg (by decide)).trans (if_neg (by decide))))); exact if_neg hq), hB]
        exact c_su6p l G o9 u0 u1 u4 u5 u6 u7 r9 sa u ta h b P t S e0 hG o 0 j ho9 hi9 hj9 hpq
    · skip
      have hB : zCmdB 6 o i j (h, b) = false := (zCmdB_6 hV o i j).trans (by rw [decide_eq_false hi0]; rfl)
      rw [show zCmdX 6 o i j ((h, b), u) = ((h, b), u) from (by by_cases hq : zCmdB 6 o i j (h, b) = true; exact (zCmdX_y (t := ((h, b), u)) hq).trans ((if_neg (by decide)).trans ((if_neg (by decide)).trans ((if_neg (by decide)).trans (if_neg (by decide))))); exact if_neg hq), hB]
      exact c_su6i l G o9 u0 u1 u4 u5 u6 u7 r9 sa u ta h b P t S e0 hG o i j ho9 hi9 hj9 hi0
  · by_cases hj0 : j = 0
    · subst hj0
      by_cases hpq : (zHp h (nI o) && zLi (nI i)) = true
      · obtain ⟨z1, z2⟩ := (Bool.and_eq_true _ _).mp hpq
        have hB : zCmdB 7 o i 0 (h, b) = decide (b o 25 = nI i) := (zCmdB_7 hV o i 0).trans (by rw [z1, z2]; rfl)
        rw [show zCmdX 7 o i 0 ((h, b), u) = ((h, b), u) from (by by_cases hq : zCmdB 7 o i 0 (h, b) = true; exact (zCmdX_y (t := ((h, b), u)) hq).trans ((if_neg (by decide)).trans ((if_neg (by decide)).trans ((if_neg (by decide)).trans (if_neg (by decide))))); exact if_neg hq), hB]
        exact c_su7 l G o9 u0 u1 u4 u5 u6 u7 r9 sa u ta h b P t S e0 hG o i 0 ho9 hi9 hj9 z1 z2
      · have hpq := bfalse hpq
        have hB : zCmdB 7 o i 0 (h, b) = false := (zCmdB_7 hV o i 0).trans (by rw [show (decide (0 = 0) && zHp h (nI o) && zLi (nI i)) = (zHp h (nI o) && zLi (nI i)) from rfl, hpq]; rfl)
        rw [show zCmdX 7 o i 0 ((h, b), u) = ((h, b), u) from (by by_cases hq : zCmdB 7 o i 0 (h, b) = true; exact (zCmdX_y (t := ((h, b), u)) hq).trans ((if_neg (by decide)).trans ((if_neg (by decide)).trans ((if_neg (by decide)).trans (if_neg (by decide))))); exact if_neg hq), hB]
        exact c_su7p l G o9 u0 u1 u4 u5 u6 u7 r9 sa u ta h b P t S e0 hG o i 0 ho9 hi9 hj9 hpq
    · skip
      have hB : zCmdB 7 o i j (h, b) = false := (zCmdB_7 hV o i j).trans (by rw [decide_eq_false hj0]; rfl)
      rw [show zCmdX 7 o i j ((h, b), u) = ((h, b), u) from (by by_cases hq : zCmdB 7 o i j (h, b) = true; exact (zCmdX_y (t := ((h, b), u)) hq).trans ((if_neg (by decide)).trans ((if_neg (by decide)).trans ((if_neg (by decide)).trans (if_neg (by decide))))); exact if_neg hq), hB]
      exact c_su7j l G o9 u0 u1 u4 u5 u6 u7 r9 sa u ta h b P t S e0 hG o i j ho9 hi9 hj9 hj0
  · by_cases hz0 : (decide (o = 0) && decide (i = 0)) = true
    · obtain ⟨z1, z2⟩ := (Bool.and_eq_true _ _).mp hz0
      have z1 := of_decide_eq_true z1
      have z2 := of_decide_eq_true z2
      subst z1 z2
      by_cases hm : (zRu h && decide (h 1 = nI j)) = true
      · obtain ⟨z1, z2⟩ := (Bool.and_eq_true _ _).mp hm
        have hB : zCmdB 8 0 0 j (h, b) = true := (zCmdB_8 hV 0 0 j).trans (by rw [z1, z2]; rfl)
        rw [show zCmdX 8 0 0 j ((h, b), u) = ((h, b), u) from (by by_cases hq : zCmdB 8 0 0 j (h, b) = true; exact (zCmdX_y (t := ((h, b), u)) hq).trans ((if_neg (by decide)).trans ((if_neg (by decide)).trans ((if_neg (by decide)).trans (if_neg (by decide))))); exact if_neg hq), hB]
        exact c_su8y l G o9 u0 u1 u4 u5 u6 u7 r9 sa u ta h b P t S e0 hG 0 0 j ho9 hi9 hj9 z1 (of_decide_eq_true z2)
      · have hm := bfalse hm
        have hB : zCmdB 8 0 0 j (h, b) = false := (zCmdB_8 hV 0 0 j).trans (by rw [show (decide (0 = 0) && decide (0 = 0) && zRu h && decide (h 1 = nI j)) = (zRu h && decide (h 1 = nI j)) from rfl, hm])
        rw [show zCmdX 8 0 0 j ((h, b), u) = ((h, b), u) from (by by_cases hq : zCmdB 8 0 0 j (h, b) = true; exact (zCmdX_y (t := ((h, b), u)) hq).trans ((if_neg (by decide)).trans ((if_neg (by decide)).trans ((if_neg (by decide)).trans (if_neg (by decide))))); exact if_neg hq), hB]
        exact c_su8f l G o9 u0 u1 u4 u5 u6 u7 r9 sa u ta h b P t S e0 hG 0 0 j ho9 hi9 hj9 hm
    · have hz0 := bfalse hz0
      have hB : zCmdB 8 o i j (h, b) = false := (zCmdB_8 hV o i j).trans (by rw [hz0]; rfl)
      rw [show zCmdX 8 o i j ((h, b), u) = ((h, b), u) from (by by_cases hq : zCmdB 8 o i j (h, b) = true; exact (zCmdX_y (t := ((h, b), u)) hq).trans ((if_neg (by decide)).trans ((if_neg (by decide)).trans ((if_neg (by decide)).trans (if_neg (by decide))))); exact if_neg hq), hB]
      exact c_su8n l G o9 u0 u1 u4 u5 u6 u7 r9 sa u ta h b P t S e0 hG o i j ho9 hi9 hj9 hz0
  · skip
    have hB : zCmdB 9 o i j (h, b) = decide (h 3 ≤ nI (100 * o + 10 * i + j)) := (zCmdB_9 hV o i j)
    rw [show zCmdX 9 o i j ((h, b), u) = ((h, b), u) from (by by_cases hq : zCmdB 9 o i j (h, b) = true; exact (zCmdX_y (t := ((h, b), u)) hq).trans ((if_neg (by decide)).trans ((if_neg (by decide)).trans ((if_neg (by decide)).trans (if_neg (by decide))))); exact if_neg hq), hB]
    exact c_su9 l G o9 u0 u1 u4 u5 u6 u7 r9 sa u ta h b P t S e0 hG o i j ho9 hi9 hj9 

set_option maxHeartbeats 4000000 in
set_option maxRecDepth 100000 in
theorem c_x_run1 (l : Launch) (G : zC) (hl0 : l.stackTraces = false) (o9 : Nat) (u0 u1 u2 u3 u4 u5 u6 u7 : Value) (k9 : Int32) (x9 : Int64) (hc : k9 < 1 ∨ 3 < k9) : zMetT l G yX6_runScript wsX6_runScript rmX6_runScript [.ref o9, .int k9, .long x9] ([(o9, .inr (6, [u0, u1, u2, u3, u4, u5, u6, u7]))]) "java/lang/IllegalArgumentException" := by
  refine zMetT_of (cc := cX6_runScript) (maxL := 5) (ret := (some .int)) (by decide) rfl (Nat.le_of_ble_eq_true rfl) ?_
  intro p e s m below meth c A ls hx hb htb hml hown hts hK hA hE hTh hlocks hin hM hl
  have hown : s.vm.findClass RX6 = some m.cls := hown
  have hM : zM G A s s.heap [] ([(o9, .inr (6, [u0, u1, u2, u3, u4, u5, u6, u7]))]) := hM
  have hl : lv_has ls 5 [(0, .ref o9), (1, .int k9), (2, .long x9)] := hl
  refine lv_iload_n hx hb dX6_runScript_0 rfl (lv_at hl 1 rfl) ?_
  refine lv_iconst (v := 1) hx hb dX6_runScript_1 (by decide) ?_
  refine lv_icmp_lt (tgt := 10) hx hb dX6_runScript_2 (by decide) (fun c_0 => ?_) (fun c_0 => ?_)
  · skip
    exact z_throwW (text := "a script has 1 to 3 commands") (ik := 55) (is := 325) (ic := 59) hx hb hl0 htb hlocks hown (by decide) (hts (.classLink RX6 55 "java/lang/IllegalArgumentException") (by decide +kernel)) (hts (.initialized "java/lang/IllegalArgumentException") (by decide +kernel)) (hE.1.2.2 (325, "a script has 1 to 3 commands") (List.mem_of_getElem? (i := 20) rfl)) hTh (List.mem_of_getElem? (i := 0) rfl) (fun w9 hw9 => hts w9 (List.mem_cons_of_mem _ (List.mem_append_right _ hw9))) (by decide +kernel) (by decide +kernel) hE hA hM (hl.1.trans hml.symm) dX6_runScript_10 dX6_runScript_13 dX6_runScript_14 dX6_runScript_17 dX6_runScript_20 (Nat.le_of_ble_eq_true rfl) (Nat.le_of_ble_eq_true rfl) (Nat.le_of_ble_eq_true rfl) (Nat.le_of_ble_eq_true rfl) (Nat.le_of_ble_eq_true rfl) (Nat.le_of_ble_eq_true rfl)
  · skip
    refine lv_iload_n hx hb dX6_runScript_5 rfl (lv_at hl 1 rfl) ?_
    refine lv_iconst (v := 3) hx hb dX6_runScript_6 (by decide) ?_
    refine lv_icmp_le (tgt := 21) hx hb dX6_runScript_7 (by decide) (fun c_1 => absurd (hc.resolve_left c_0) (Int32.not_lt.mpr c_1)) (fun c_1 => ?_)
    exact z_throwW (text := "a script has 1 to 3 commands") (ik := 55) (is := 325) (ic := 59) hx hb hl0 htb hlocks hown (by decide) (hts (.classLink RX6 55 "java/lang/IllegalArgumentException") (by decide +kernel)) (hts (.initialized "java/lang/IllegalArgumentException") (by decide +kernel)) (hE.1.2.2 (325, "a script has 1 to 3 commands") (List.mem_of_getElem? (i := 20) rfl)) hTh (List.mem_of_getElem? (i := 0) rfl) (fun w9 hw9 => hts w9 (List.mem_cons_of_mem _ (List.mem_append_right _ hw9))) (by decide +kernel) (by decide +kernel) hE hA hM (hl.1.trans hml.symm) dX6_runScript_10 dX6_runScript_13 dX6_runScript_14 dX6_runScript_17 dX6_runScript_20 (Nat.le_of_ble_eq_true rfl) (Nat.le_of_ble_eq_true rfl) (Nat.le_of_ble_eq_true rfl) (Nat.le_of_ble_eq_true rfl) (Nat.le_of_ble_eq_true rfl) (Nat.le_of_ble_eq_true rfl)

set_option maxHeartbeats 4000000 in
set_option maxRecDepth 100000 in
theorem c_x_wl (l : Launch) (G : zC) (N : Nat) (hN3 : N ≤ 3) (x9 : Int64) : zMet l G yX6_withoutLast wsX6_withoutLast rmX6_withoutLast [.int (nI N), .long x9] ([]) (some (.long (zWl x9 N))) ([]) := by
  refine zMet_of (cc := cX6_withoutLast) (maxL := 6) (ret := (some .long)) (by decide) rfl (Nat.le_of_ble_eq_true rfl) ?_
  intro p e s m below meth c A ls hx hb hr hml hown hts hK hA hE hlocks hin hM hl
  have hown : s.vm.findClass RX6 = some m.cls := hown
  have hM : zM G A s s.heap [] ([]) := hM
  have hl : lv_has ls 6 [(0, .int (nI N)), (1, .long x9)] := hl
  refine lv_lload_n hx hb dX6_withoutLast_0 rfl (lv_at hl 1 rfl) ?_
  refine lv_lstore_n (lv' := [(3, .long x9), (0, .int (nI N)), (1, .long x9)]) hx hb dX6_withoutLast_1 rfl hl (by decide) rfl (fun ls hl => ?_)
  refine lv_iconst (v := nI 0) hx hb dX6_withoutLast_2 (by decide) ?_
  refine lv_istore (lv' := [(5, .int (nI 0)), (3, .long x9), (0, .int (nI N)), (1, .long x9)]) hx hb dX6_withoutLast_3 hl (by decide) rfl (fun ls hl => ?_)
  have lp5 : ∀ (k1 : Nat) (i : Nat), (i + k1 = N) → ∀ (H : Heap) (locs : List Loc), zM G A s H locs ([]) → ∀ ls : Array Slot, lv_has ls 6 [(0, .int (nI N)), (1, .long x9), (3, .long (zWl x9 i)), (5, .int (nI i))] → W p l e rmX6_withoutLast s m ([.int (nI N), .long x9] : List Value).toArray below meth c H locs 0 0 (zEnd G below ([.int (nI N), .long x9] : List Value).toArray s rmX6_withoutLast A (some (.long (zWl x9 N))) ([])) (F0 m 5 ls []) := by
    intro k1
    induction k1 with
    | zero =>
      intro i hik H locs hM ls hl
      refine lv_iload hx hb dX6_withoutLast_5 (lv_at hl 3 rfl) ?_
      refine lv_iload_n hx hb dX6_withoutLast_7 rfl (lv_at hl 0 rfl) ?_
      refine lv_icmp_ge (tgt := 23) hx hb dX6_withoutLast_8 (by decide) (fun c_1 => ?_) (fun c_1 => absurd (nI_le (by omega) (by omega)) c_1)
      refine lv_lload_n hx hb dX6_withoutLast_23 rfl (lv_at hl 2 rfl) ?_
      exact z_lret hx hb hr hlocks dX6_withoutLast_24 hM (Nat.le_of_ble_eq_true rfl) (Nat.le_of_ble_eq_true rfl) (by rw [show i = N by omega])
    | succ k1 ihk1 =>
      intro i hik H locs hM ls hl
      refine lv_iload hx hb dX6_withoutLast_5 (lv_at hl 3 rfl) ?_
      refine lv_iload_n hx hb dX6_withoutLast_7 rfl (lv_at hl 0 rfl) ?_
      refine lv_icmp_ge (tgt := 23) hx hb dX6_withoutLast_8 (by decide) (fun c_2 => absurd c_2 (nI_ge (by omega) (by omega))) (fun c_2 => ?_)
      refine lv_lload_n hx hb dX6_withoutLast_11 rfl (lv_at hl 2 rfl) ?_
      refine lv_ldc2 (v := 10000) hx hb hown (hts (.constantLong RX6 333 10000) (by decide +kernel)) dX6_withoutLast_12 ?_
      refine lv_ldiv hx hb dX6_withoutLast_15 (by decide) ?_
      refine z_topl (y := zWl x9 (i + 1)) rfl ?_
      refine lv_lstore_n (lv' := [(3, .long (zWl x9 (i + 1))), (0, .int (nI N)), (1, .long x9), (5, .int (nI i))]) hx hb dX6_withoutLast_16 rfl hl (by decide) rfl (fun ls hl => ?_)
      refine lv_iinc (v := nI (i + 1)) (lv' := [(5, .int (nI (i + 1))), (3, .long (zWl x9 (i + 1))), (0, .int (nI N)), (1, .long x9)]) hx hb dX6_withoutLast_17 hl (k := 3) rfl (nI_1 i) (by decide) rfl (fun ls hl => ?_)
      refine lv_goto (tgt := 5) hx hb dX6_withoutLast_20 (by decide) ?_
      exact ihk1 (i + 1) (by omega) _ _ hM _ (lv_sub hl [2, 3, 1, 0] rfl)
  exact lp5 N 0 (by omega) _ _ hM _ (lv_sub hl [2, 3, 1, 0] rfl)

set_option maxHeartbeats 4000000 in
set_option maxRecDepth 100000 in
theorem c_x_run2 (l : Launch) (G : zC) (hl0 : l.stackTraces = false) (o9 : Nat) (u0 u1 u2 u3 u4 u5 u6 u7 : Value) (N : Nat) (hN1 : 1 ≤ N) (hN3 : N ≤ 3) (x9 : Int64) (hc : x9 < 0 ∨ ¬ zWl x9 N = 0) : zMetT l G yX6_runScript wsX6_runScript rmX6_runScript [.ref o9, .int (nI N), .long x9] ([(o9, .inr (6, [u0, u1, u2, u3, u4, u5, u6, u7]))]) "java/lang/IllegalArgumentException" := by
  refine zMetT_of (cc := cX6_runScript) (maxL := 5) (ret := (some .int)) (by decide) rfl (Nat.le_of_ble_eq_true rfl) ?_
  intro p e s m below meth c A ls hx hb htb hml hown hts hK hA hE hTh hlocks hin hM hl
  have hown : s.vm.findClass RX6 = some m.cls := hown
  have hM : zM G A s s.heap [] ([(o9, .inr (6, [u0, u1, u2, u3, u4, u5, u6, u7]))]) := hM
  have hl : lv_has ls 5 [(0, .ref o9), (1, .int (nI N)), (2, .long x9)] := hl
  refine lv_iload_n hx hb dX6_runScript_0 rfl (lv_at hl 1 rfl) ?_
  refine lv_iconst (v := nI 1) hx hb dX6_runScript_1 (by decide) ?_
  refine lv_icmp_lt (tgt := 10) hx hb dX6_runScript_2 (by decide) (fun c_1 => absurd c_1 (nI_nlt (by omega) (by omega))) (fun c_1 => ?_)
  refine lv_iload_n hx hb dX6_runScript_5 rfl (lv_at hl 1 rfl) ?_
  refine lv_iconst (v := nI 3) hx hb dX6_runScript_6 (by decide) ?_
  refine lv_icmp_le (tgt := 21) hx hb dX6_runScript_7 (by decide) (fun c_2 => ?_) (fun c_2 => absurd (nI_le (by omega) (by decide)) c_2)
  refine lv_lload_n hx hb dX6_runScript_21 rfl (lv_at hl 2 rfl) ?_
  refine lv_lconst (v := 0) hx hb dX6_runScript_22 (by decide) ?_
  refine W.lcmp hx hb dX6_runScript_23 ?_
  refine z_clt (tgt := 37) hx hb dX6_runScript_24 (by decide) (fun c_0 => ?_) (fun c_0 => ?_)
  · skip
    exact z_throwW (text := "a script has four digits for a command") (ik := 55) (is := 331) (ic := 59) hx hb hl0 htb hlocks hown (by decide) (hts (.classLink RX6 55 "java/lang/IllegalArgumentException") (by decide +kernel)) (hts (.initialized "java/lang/IllegalArgumentException") (by decide +kernel)) (hE.1.2.2 (331, "a script has four digits for a command") (List.mem_of_getElem? (i := 21) rfl)) hTh (List.mem_of_getElem? (i := 0) rfl) (fun w9 hw9 => hts w9 (List.mem_cons_of_mem _ (List.mem_append_right _ hw9))) (by decide +kernel) (by decide +kernel) hE hA hM (hl.1.trans hml.symm) dX6_runScript_37 dX6_runScript_40 dX6_runScript_41 dX6_runScript_44 dX6_runScript_47 (Nat.le_of_ble_eq_true rfl) (Nat.le_of_ble_eq_true rfl) (Nat.le_of_ble_eq_true rfl) (Nat.le_of_ble_eq_true rfl) (Nat.le_of_ble_eq_true rfl) (Nat.le_of_ble_eq_true rfl)
  · skip
    refine lv_iload_n hx hb dX6_runScript_27 rfl (lv_at hl 1 rfl) ?_
    refine lv_lload_n hx hb dX6_runScript_28 rfl (lv_at hl 2 rfl) ?_
    refine z_callS (As := [.int (nI N), .long x9]) (rest := []) (wc := []) (wr := [(o9, .inr (6, [u0, u1, u2, u3, u4, u5, u6, u7]))]) (w1 := []) (ws' := [(o9, .inr (6, [u0, u1, u2, u3, u4, u5, u6, u7]))]) ⟨hx, hb, hml, hown, hts⟩ (c_x_wl l G N (by omega) x9) (va_cwS 2 hts gX6_runScript_X6_withoutLast rfl rfl rfl (by decide +kernel) ⟨Nat.le_of_ble_eq_true rfl, Nat.le_of_ble_eq_true rfl⟩) rfl hl.1 rfl (Nat.le_of_ble_eq_true rfl) dX6_runScript_29 ⟨Nat.le_of_ble_eq_true rfl, Nat.le_of_ble_eq_true rfl⟩ hK hE hA hM (List.Perm.refl _) (List.Perm.refl _) (fun H locs hM hz => ?_)
    refine lv_lconst (v := 0) hx hb dX6_runScript_32 (by decide) ?_
    refine W.lcmp hx hb dX6_runScript_33 ?_
    refine z_ceq (tgt := 48) hx hb dX6_runScript_34 (by decide) (fun c_3 => absurd c_3 (hc.resolve_left c_0)) (fun c_3 => ?_)
    exact z_throwW (text := "a script has four digits for a command") (ik := 55) (is := 331) (ic := 59) hx hb hl0 htb hlocks hown (by decide) (hts (.classLink RX6 55 "java/lang/IllegalArgumentException") (by decide +kernel)) (hts (.initialized "java/lang/IllegalArgumentException") (by decide +kernel)) (hE.1.2.2 (331, "a script has four digits for a command") (List.mem_of_getElem? (i := 21) rfl)) hTh (List.mem_of_getElem? (i := 0) rfl) (fun w9 hw9 => hts w9 (List.mem_cons_of_mem _ (List.mem_append_right _ hw9))) (by decide +kernel) (by decide +kernel) hE hA hM (hl.1.trans hml.symm) dX6_runScript_37 dX6_runScript_40 dX6_runScript_41 dX6_runScript_44 dX6_runScript_47 (Nat.le_of_ble_eq_true rfl) (Nat.le_of_ble_eq_true rfl) (Nat.le_of_ble_eq_true rfl) (Nat.le_of_ble_eq_true rfl) (Nat.le_of_ble_eq_true rfl) (Nat.le_of_ble_eq_true rfl)

set_option maxHeartbeats 4000000 in
set_option maxRecDepth 100000 in
theorem c_x_run0 (l : Launch) (G : zC) (o9 : Nat) (u0 u4 u5 u6 u7 : Value) (r9 : Nat) (sa : zBA) (u : zRU) (a : zGA) (h : Nat → Int32) (b : Nat → Nat → Int32) (ta : zGA) (th : Nat → Int32) (tb : Nat → Nat → Int32) (P t S e0 : Nat) (hG : zGs h b P t S e0) (N : Nat) (hN1 : 1 ≤ N) (hN3 : N ≤ 3) (x9 : Int64) (hc0 : ¬ x9 < 0) (hc1 : zWl x9 N = 0) (hx0 : 0 ≤ x9.toInt) : zMet l G yX6_runScript wsX6_runScript rmX6_runScript [.ref o9, .int (nI N), .long x9] ([(o9, .inr (6, [u0, .ref a.1, .ref ta.1, .ref r9, u4, u5, u6, u7]))] ++ ((ruW G r9 sa u) ++ ((gmW G a h b) ++ (gmW G ta th tb)))) (some (.int (zScr x9 N N 0 (h, b)))) ([(o9, .inr (6, [u0, .ref a.1, .ref ta.1, .ref r9, u4, u5, u6, u7]))] ++ ((ruW G r9 sa ((zScrV x9 N N 0 ((h, b), u)).2)) ++ ((gmW G a h b) ++ (gmW G ta ((zScrV x9 N N 0 ((h, b), u)).1.1) ((zScrV x9 N N 0 ((h, b), u)).1.2))))) := by
  refine zMet_of (cc := cX6_runScript) (maxL := 5) (ret := (some .int)) (by decide) rfl (Nat.le_of_ble_eq_true rfl) ?_
  intro p e s m below meth c A ls hx hb hr hml hown hts hK hA hE hlocks hin hM hl
  have hown : s.vm.findClass RX6 = some m.cls := hown
  have hM : zM G A s s.heap [] ([(o9, .inr (6, [u0, .ref a.1, .ref ta.1, .ref r9, u4, u5, u6, u7]))] ++ ((ruW G r9 sa u) ++ ((gmW G a h b) ++ (gmW G ta th tb)))) := hM
  have hl : lv_has ls 5 [(0, .ref o9), (1, .int (nI N)), (2, .long x9)] := hl
  refine lv_iload_n hx hb dX6_runScript_0 rfl (lv_at hl 1 rfl) ?_
  refine lv_iconst (v := nI 1) hx hb dX6_runScript_1 (by decide) ?_
  refine lv_icmp_lt (tgt := 10) hx hb dX6_runScript_2 (by decide) (fun c_1 => absurd c_1 (nI_nlt (by omega) (by omega))) (fun c_1 => ?_)
  refine lv_iload_n hx hb dX6_runScript_5 rfl (lv_at hl 1 rfl) ?_
  refine lv_iconst (v := nI 3) hx hb dX6_runScript_6 (by decide) ?_
  refine lv_icmp_le (tgt := 21) hx hb dX6_runScript_7 (by decide) (fun c_2 => ?_) (fun c_2 => absurd (nI_le (by omega) (by decide)) c_2)
  refine lv_lload_n hx hb dX6_runScript_21 rfl (lv_at hl 2 rfl) ?_
  refine lv_lconst (v := 0) hx hb dX6_runScript_22 (by decide) ?_
  refine W.lcmp hx hb dX6_runScript_23 ?_
  refine z_clt (tgt := 37) hx hb dX6_runScript_24 (by decide) (fun c_3 => absurd c_3 hc0) (fun c_3 => ?_)
  refine lv_iload_n hx hb dX6_runScript_27 rfl (lv_at hl 1 rfl) ?_
  refine lv_lload_n hx hb dX6_runScript_28 rfl (lv_at hl 2 rfl) ?_
  refine z_callS (As := [.int (nI N), .long x9]) (rest := []) (wc := []) (wr := [(o9, .inr (6, [u0, .ref a.1, .ref ta.1, .ref r9, u4, u5, u6, u7]))] ++ ((ruW G r9 sa u) ++ ((gmW G a h b) ++ (gmW G ta th tb)))) (w1 := []) (ws' := [(o9, .inr (6, [u0, .ref a.1, .ref ta.1, .ref r9, u4, u5, u6, u7]))] ++ ((ruW G r9 sa u) ++ ((gmW G a h b) ++ (gmW G ta th tb)))) ⟨hx, hb, hml, hown, hts⟩ (c_x_wl l G N (by omega) x9) (va_cwS 2 hts gX6_runScript_X6_withoutLast rfl rfl rfl (by decide +kernel) ⟨Nat.le_of_ble_eq_true rfl, Nat.le_of_ble_eq_true rfl⟩) rfl hl.1 rfl (Nat.le_of_ble_eq_true rfl) dX6_runScript_29 ⟨Nat.le_of_ble_eq_true rfl, Nat.le_of_ble_eq_true rfl⟩ hK hE hA hM (List.Perm.refl _) (List.Perm.refl _) (fun H locs hM hz => ?_)
  refine lv_lconst (v := 0) hx hb dX6_runScript_32 (by decide) ?_
  refine W.lcmp hx hb dX6_runScript_33 ?_
  refine z_ceq (tgt := 48) hx hb dX6_runScript_34 (by decide) (fun c_4 => ?_) (fun c_4 => absurd hc1 c_4)
  refine lv_aload_n hx hb dX6_runScript_48 rfl (lv_at hl 0 rfl) ?_
  refine z_get (ci := 6) (v := .ref ta.1) (C := RX6) (T := TX6) (N := 8) hx hb hts (by decide +kernel) hown hK hM 0 rfl rfl 2 (by decide) (hts (.fieldLink RX6 23 "ShiftIsles" "trial" "LShiftIsles$Game;") (by decide +kernel)) (fun _ h9 => h9) rfl dX6_runScript_49 ?_
  refine lv_aload_n hx hb dX6_runScript_52 rfl (lv_at hl 0 rfl) ?_
  refine z_get (ci := 6) (v := .ref a.1) (C := RX6) (T := TX6) (N := 8) hx hb hts (by decide +kernel) hown hK hM 0 rfl rfl 1 (by decide) (hts (.fieldLink RX6 19 "ShiftIsles" "state" "LShiftIsles$Game;") (by decide +kernel)) (fun _ h9 => h9) rfl dX6_runScript_53 ?_
  have hp9 : List.Perm ([(o9, .inr (6, [u0, .ref a.1, .ref ta.1, .ref r9, u4, u5, u6, u7]))] ++ ((ruW G r9 sa u) ++ ((gmW G a h b) ++ (gmW G ta th tb))) : va_W) ((gmW G ta th tb ++ gmW G a h b) ++ ([(o9, .inr (6, [u0, .ref a.1, .ref ta.1, .ref r9, u4, u5, u6, u7]))] ++ (ruW G r9 sa u))) := (pm_cut (cs := [[(o9, .inr (6, [u0, .ref a.1, .ref ta.1, .ref r9, u4, u5, u6, u7]))], ruW G r9 sa u, gmW G a h b, gmW G ta th tb]) (sub := [gmW G ta th tb, gmW G a h b]) (rest := [[(o9, .inr (6, [u0, .ref a.1, .ref ta.1, .ref r9, u4, u5, u6, u7]))], ruW G r9 sa u]) 4 [3, 2] [0, 1] rfl rfl rfl (by decide))
  have hq9 : List.Perm ((gmW G ta h b ++ gmW G a h b) ++ ([(o9, .inr (6, [u0, .ref a.1, .ref ta.1, .ref r9, u4, u5, u6, u7]))] ++ (ruW G r9 sa u))) ([(o9, .inr (6, [u0, .ref a.1, .ref ta.1, .ref r9, u4, u5, u6, u7]))] ++ ((ruW G r9 sa u) ++ ((gmW G a h b) ++ (gmW G ta h b))) : va_W) := (pm_put (cs := [[(o9, .inr (6, [u0, .ref a.1, .ref ta.1, .ref r9, u4, u5, u6, u7]))], ruW G r9 sa u, gmW G a h b, gmW G ta h b]) (sub := [gmW G ta h b, gmW G a h b]) (rest := [[(o9, .inr (6, [u0, .ref a.1, .ref ta.1, .ref r9, u4, u5, u6, u7]))], ruW G r9 sa u]) 4 [3, 2] [0, 1] rfl rfl rfl (by decide))
  refine z_callV (As := [.ref a.1]) (rest := []) (wc := gmW G ta th tb ++ gmW G a h b) (wr := [(o9, .inr (6, [u0, .ref a.1, .ref ta.1, .ref r9, u4, u5, u6, u7]))] ++ (ruW G r9 sa u)) (w1 := gmW G ta h b ++ gmW G a h b) (ws' := [(o9, .inr (6, [u0, .ref a.1, .ref ta.1, .ref r9, u4, u5, u6, u7]))] ++ ((ruW G r9 sa u) ++ ((gmW G a h b) ++ (gmW G ta h b)))) ⟨hx, hb, hml, hown, hts⟩ (c_gmCopy l G ta a th h tb b hG.1.1.2.2.2.2.2.2.1 hG.1.1.2.2.2.2.2.2.2) (cwV 1 hts gX6_runScript_X2_copyFrom rfl rfl rfl (by decide +kernel) ⟨Nat.le_of_ble_eq_true rfl, Nat.le_of_ble_eq_true rfl⟩) 2 rfl rfl rfl rfl hl.1 rfl (Nat.le_of_ble_eq_true rfl) dX6_runScript_56 ⟨Nat.le_of_ble_eq_true rfl, Nat.le_of_ble_eq_true rfl⟩ hK hE hA hM hp9 hq9 (fun H locs hM hz => ?_)
  refine lv_iconst (v := nI 0) hx hb dX6_runScript_59 (by decide) ?_
  refine lv_istore (lv' := [(4, .int (nI 0)), (0, .ref o9), (1, .int (nI N)), (2, .long x9)]) hx hb dX6_runScript_60 hl (by decide) rfl (fun ls hl => ?_)
  have lp62 : ∀ (k2 : Nat) (i : Nat) (v1 : zRU) (g1 : Nat → Int32) (d1 : Nat → Nat → Int32) (t1 e1 : Nat), (i + k2 = N) → (zGs g1 d1 P t1 S e1) → ((zScrV x9 N N 0 ((h, b), u)) = zScrV x9 N k2 i ((g1, d1), v1)) → (zScr x9 N N 0 (h, b) = zScr x9 N k2 i (g1, d1)) → ∀ (H : Heap) (locs : List Loc), zM G A s H locs ([(o9, .inr (6, [u0, .ref a.1, .ref ta.1, .ref r9, u4, u5, u6, u7]))] ++ ((ruW G r9 sa v1) ++ ((gmW G a h b) ++ (gmW G ta g1 d1)))) → ∀ ls : Array Slot, lv_has ls 5 [(0, .ref o9), (1, .int (nI N)), (2, .long x9), (4, .int (nI i))] → W p l e rmX6_runScript s m ([.ref o9, .int (nI N), .long x9] : List Value).toArray below meth c H locs 0 0 (zEnd G below ([.ref o9, .int (nI N), .long x9] : List Value).toArray s rmX6_runScript A (some (.int (zScr x9 N N 0 (h, b)))) ([(o9, .inr (6, [u0, .ref a.1, .ref ta.1, .ref r9, u4, u5, u6, u7]))] ++ ((ruW G r9 sa ((zScrV x9 N N 0 ((h, b), u)).2)) ++ ((gmW G a h b) ++ (gmW G ta ((zScrV x9 N N 0 ((h, b), u)).1.1) ((zScrV x9 N N 0 ((h, b), u)).1.2)))))) (F0 m 62 ls []) := by
    intro k2
    induction k2 with
    | zero =>
      intro i v1 g1 d1 t1 e1 hik2 hG1 hR hAn H locs hM ls hl
      refine lv_iload hx hb dX6_runScript_62 (lv_at hl 3 rfl) ?_
      refine lv_iload_n hx hb dX6_runScript_64 rfl (lv_at hl 1 rfl) ?_
      refine lv_icmp_ge (tgt := 99) hx hb dX6_runScript_65 (by decide) (fun c_5 => ?_) (fun c_5 => absurd (nI_le (by omega) (by omega)) c_5)
      refine lv_iconst (v := (-1)) hx hb dX6_runScript_99 (by decide) ?_
      exact z_iret hx hb hr hlocks dX6_runScript_100 (by rw [hR]; exact hM) (Nat.le_of_ble_eq_true rfl) (Nat.le_of_ble_eq_true rfl) (by rw [hAn]; rfl)
    | succ k2 ihk2 =>
      intro i v1 g1 d1 t1 e1 hik2 hG1 hR hAn H locs hM ls hl
      refine lv_iload hx hb dX6_runScript_62 (lv_at hl 3 rfl) ?_
      refine lv_iload_n hx hb dX6_runScript_64 rfl (lv_at hl 1 rfl) ?_
      refine lv_icmp_ge (tgt := 99) hx hb dX6_runScript_65 (by decide) (fun c_6 => absurd c_6 (nI_ge (by omega) (by omega))) (fun c_6 => ?_)
      refine lv_aload_n hx hb dX6_runScript_68 rfl (lv_at hl 0 rfl) ?_
      refine lv_iload_n hx hb dX6_runScript_69 rfl (lv_at hl 1 rfl) ?_
      refine lv_iconst (v := 1) hx hb dX6_runScript_70 (by decide) ?_
      refine lv_isub hx hb dX6_runScript_71 ?_
      refine z_topi (y := nI (N - 1)) (pk_sub (a := N) (b := 1) (by omega)) ?_
      refine lv_iload hx hb dX6_runScript_72 (lv_at hl 3 rfl) ?_
      refine lv_isub hx hb dX6_runScript_74 ?_
      refine z_topi (y := nI ((N - 1) - i)) (pk_sub (a := (N - 1)) (b := i) (by omega)) ?_
      refine lv_lload_n hx hb dX6_runScript_75 rfl (lv_at hl 2 rfl) ?_
      refine z_callS (As := [.int (nI ((N - 1) - i)), .long x9]) (rest := [.ref o9]) (wc := []) (wr := [(o9, .inr (6, [u0, .ref a.1, .ref ta.1, .ref r9, u4, u5, u6, u7]))] ++ ((ruW G r9 sa v1) ++ ((gmW G a h b) ++ (gmW G ta g1 d1)))) (w1 := []) (ws' := [(o9, .inr (6, [u0, .ref a.1, .ref ta.1, .ref r9, u4, u5, u6, u7]))] ++ ((ruW G r9 sa v1) ++ ((gmW G a h b) ++ (gmW G ta g1 d1)))) ⟨hx, hb, hml, hown, hts⟩ (c_x_wl l G ((N - 1) - i) (by omega) x9) (va_cwS 2 hts gX6_runScript_X6_withoutLast rfl rfl rfl (by decide +kernel) ⟨Nat.le_of_ble_eq_true rfl, Nat.le_of_ble_eq_true rfl⟩) rfl hl.1 rfl (Nat.le_of_ble_eq_true rfl) dX6_runScript_76 ⟨Nat.le_of_ble_eq_true rfl, Nat.le_of_ble_eq_true rfl⟩ hK hE hA hM (List.Perm.refl _) (List.Perm.refl _) (fun H locs hM hz => ?_)
      refine lv_ldc2 (v := 10000) hx hb hown (hts (.constantLong RX6 333 10000) (by decide +kernel)) dX6_runScript_79 ?_
      refine lv_lrem hx hb dX6_runScript_82 (by decide) ?_
      refine lv_l2i (v := ((zWl x9 ((N - 1) - i)) - (zWl x9 ((N - 1) - i)) / 10000 * 10000).toInt32) hx hb dX6_runScript_83 rfl ?_
      have hgl := zGn_lt x9 (N - 1 - i)
      refine z_topi (y := nI (1000 * ((zGn x9 (N - 1 - i)) / 1000) + 100 * ((zGn x9 (N - 1 - i)) / 100 % 10) + 10 * ((zGn x9 (N - 1 - i)) / 10 % 10) + (zGn x9 (N - 1 - i)) % 10)) ((zWl_g hx0 (by omega)).trans (congrArg nI (by omega))) ?_
      have hp9 : List.Perm ([(o9, .inr (6, [u0, .ref a.1, .ref ta.1, .ref r9, u4, u5, u6, u7]))] ++ ((ruW G r9 sa v1) ++ ((gmW G a h b) ++ (gmW G ta g1 d1))) : va_W) (([(o9, .inr (6, [u0, .ref a.1, .ref ta.1, .ref r9, u4, u5, u6, u7]))] ++ (ruW G r9 sa v1 ++ gmW G ta g1 d1)) ++ ((gmW G a h b))) := (pm_cut (cs := [[(o9, .inr (6, [u0, .ref a.1, .ref ta.1, .ref r9, u4, u5, u6, u7]))], ruW G r9 sa v1, gmW G a h b, gmW G ta g1 d1]) (sub := [[(o9, .inr (6, [u0, .ref a.1, .ref ta.1, .ref r9, u4, u5, u6, u7]))], ruW G r9 sa v1, gmW G ta g1 d1]) (rest := [gmW G a h b]) 4 [0, 1, 3] [2] rfl rfl rfl (by decide))
      have hq9 : List.Perm (([(o9, .inr (6, [u0, .ref a.1, .ref ta.1, .ref r9, u4, u5, u6, u7]))] ++ (ruW G r9 sa ((zCmdX ((zGn x9 (N - 1 - i)) / 1000) ((zGn x9 (N - 1 - i)) / 100 % 10) ((zGn x9 (N - 1 - i)) / 10 % 10) ((zGn x9 (N - 1 - i)) % 10) ((g1, d1), v1)).2) ++ gmW G ta ((zCmdX ((zGn x9 (N - 1 - i)) / 1000) ((zGn x9 (N - 1 - i)) / 100 % 10) ((zGn x9 (N - 1 - i)) / 10 % 10) ((zGn x9 (N - 1 - i)) % 10) ((g1, d1), v1)).1.1) ((zCmdX ((zGn x9 (N - 1 - i)) / 1000) ((zGn x9 (N - 1 - i)) / 100 % 10) ((zGn x9 (N - 1 - i)) / 10 % 10) ((zGn x9 (N - 1 - i)) % 10) ((g1, d1), v1)).1.2))) ++ ((gmW G a h b))) ([(o9, .inr (6, [u0, .ref a.1, .ref ta.1, .ref r9, u4, u5, u6, u7]))] ++ ((ruW G r9 sa ((zCmdX ((zGn x9 (N - 1 - i)) / 1000) ((zGn x9 (N - 1 - i)) / 100 % 10) ((zGn x9 (N - 1 - i)) / 10 % 10) ((zGn x9 (N - 1 - i)) % 10) ((g1, d1), v1)).2)) ++ ((gmW G a h b) ++ (gmW G ta ((zCmdX ((zGn x9 (N - 1 - i)) / 1000) ((zGn x9 (N - 1 - i)) / 100 % 10) ((zGn x9 (N - 1 - i)) / 10 % 10) ((zGn x9 (N - 1 - i)) % 10) ((g1, d1), v1)).1.1) ((zCmdX ((zGn x9 (N - 1 - i)) / 1000) ((zGn x9 (N - 1 - i)) / 100 % 10) ((zGn x9 (N - 1 - i)) / 10 % 10) ((zGn x9 (N - 1 - i)) % 10) ((g1, d1), v1)).1.2)))) : va_W) := (pm_put (cs := [[(o9, .inr (6, [u0, .ref a.1, .ref ta.1, .ref r9, u4, u5, u6, u7]))], ruW G r9 sa ((zCmdX ((zGn x9 (N - 1 - i)) / 1000) ((zGn x9 (N - 1 - i)) / 100 % 10) ((zGn x9 (N - 1 - i)) / 10 % 10) ((zGn x9 (N - 1 - i)) % 10) ((g1, d1), v1)).2), gmW G a h b, gmW G ta ((zCmdX ((zGn x9 (N - 1 - i)) / 1000) ((zGn x9 (N - 1 - i)) / 100 % 10) ((zGn x9 (N - 1 - i)) / 10 % 10) ((zGn x9 (N - 1 - i)) % 10) ((g1, d1), v1)).1.1) ((zCmdX ((zGn x9 (N - 1 - i)) / 1000) ((zGn x9 (N - 1 - i)) / 100 % 10) ((zGn x9 (N - 1 - i)) / 10 % 10) ((zGn x9 (N - 1 - i)) % 10) ((g1, d1), v1)).1.2)]) (sub := [[(o9, .inr (6, [u0, .ref a.1, .ref ta.1, .ref r9, u4, u5, u6, u7]))], ruW G r9 sa ((zCmdX ((zGn x9 (N - 1 - i)) / 1000) ((zGn x9 (N - 1 - i)) / 100 % 10) ((zGn x9 (N - 1 - i)) / 10 % 10) ((zGn x9 (N - 1 - i)) % 10) ((g1, d1), v1)).2), gmW G ta ((zCmdX ((zGn x9 (N - 1 - i)) / 1000) ((zGn x9 (N - 1 - i)) / 100 % 10) ((zGn x9 (N - 1 - i)) / 10 % 10) ((zGn x9 (N - 1 - i)) % 10) ((g1, d1), v1)).1.1) ((zCmdX ((zGn x9 (N - 1 - i)) / 1000) ((zGn x9 (N - 1 - i)) / 100 % 10) ((zGn x9 (N - 1 - i)) / 10 % 10) ((zGn x9 (N - 1 - i)) % 10) ((g1, d1), v1)).1.2)]) (rest := [gmW G a h b]) 4 [0, 1, 3] [2] rfl rfl rfl (by decide))
      refine z_callV (As := [.int (nI (1000 * ((zGn x9 (N - 1 - i)) / 1000) + 100 * ((zGn x9 (N - 1 - i)) / 100 % 10) + 10 * ((zGn x9 (N - 1 - i)) / 10 % 10) + (zGn x9 (N - 1 - i)) % 10))]) (rest := []) (wc := [(o9, .inr (6, [u0, .ref a.1, .ref ta.1, .ref r9, u4, u5, u6, u7]))] ++ (ruW G r9 sa v1 ++ gmW G ta g1 d1)) (wr := (gmW G a h b)) (w1 := [(o9, .inr (6, [u0, .ref a.1, .ref ta.1, .ref r9, u4, u5, u6, u7]))] ++ (ruW G r9 sa ((zCmdX ((zGn x9 (N - 1 - i)) / 1000) ((zGn x9 (N - 1 - i)) / 100 % 10) ((zGn x9 (N - 1 - i)) / 10 % 10) ((zGn x9 (N - 1 - i)) % 10) ((g1, d1), v1)).2) ++ gmW G ta ((zCmdX ((zGn x9 (N - 1 - i)) / 1000) ((zGn x9 (N - 1 - i)) / 100 % 10) ((zGn x9 (N - 1 - i)) / 10 % 10) ((zGn x9 (N - 1 - i)) % 10) ((g1, d1), v1)).1.1) ((zCmdX ((zGn x9 (N - 1 - i)) / 1000) ((zGn x9 (N - 1 - i)) / 100 % 10) ((zGn x9 (N - 1 - i)) / 10 % 10) ((zGn x9 (N - 1 - i)) % 10) ((g1, d1), v1)).1.2))) (ws' := [(o9, .inr (6, [u0, .ref a.1, .ref ta.1, .ref r9, u4, u5, u6, u7]))] ++ ((ruW G r9 sa ((zCmdX ((zGn x9 (N - 1 - i)) / 1000) ((zGn x9 (N - 1 - i)) / 100 % 10) ((zGn x9 (N - 1 - i)) / 10 % 10) ((zGn x9 (N - 1 - i)) % 10) ((g1, d1), v1)).2)) ++ ((gmW G a h b) ++ (gmW G ta ((zCmdX ((zGn x9 (N - 1 - i)) / 1000) ((zGn x9 (N - 1 - i)) / 100 % 10) ((zGn x9 (N - 1 - i)) / 10 % 10) ((zGn x9 (N - 1 - i)) % 10) ((g1, d1), v1)).1.1) ((zCmdX ((zGn x9 (N - 1 - i)) / 1000) ((zGn x9 (N - 1 - i)) / 100 % 10) ((zGn x9 (N - 1 - i)) / 10 % 10) ((zGn x9 (N - 1 - i)) % 10) ((g1, d1), v1)).1.2))))) ⟨hx, hb, hml, hown, hts⟩ (c_succeeds l G o9 u0 (.ref a.1) u4 u5 u6 u7 r9 sa v1 ta g1 d1 P t1 S e1 hG1 ((zGn x9 (N - 1 - i)) / 100 % 10) ((zGn x9 (N - 1 - i)) / 10 % 10) ((zGn x9 (N - 1 - i)) % 10) (by omega) (by omega) (by omega) ((zGn x9 (N - 1 - i)) / 1000) (by omega)) (cwV 1 hts gX6_runScript_X6_succeeds rfl rfl rfl (by decide +kernel) ⟨Nat.le_of_ble_eq_true rfl, Nat.le_of_ble_eq_true rfl⟩) 6 rfl rfl rfl rfl hl.1 rfl (Nat.le_of_ble_eq_true rfl) dX6_runScript_84 ⟨Nat.le_of_ble_eq_true rfl, Nat.le_of_ble_eq_true rfl⟩ hK hE hA hM hp9 hq9 (fun H locs hM hz => ?_)
      refine z_ifne (tgt := 93) hx hb dX6_runScript_87 (by decide) (fun c_b => ?_) (fun c_b => ?_)
      · skip
        obtain ⟨h2, b2, v2, t2, e2, hmv, hmv1, hG2⟩ := zCmdV_e (u := v1) hG1 (by omega) (by omega) (by omega) c_b
        refine lv_iinc (v := nI (i + 1)) (lv' := [(4, .int (nI (i + 1))), (0, .ref o9), (1, .int (nI N)), (2, .long x9)]) hx hb dX6_runScript_93 hl (k := 3) rfl (nI_1 i) (by decide) rfl (fun ls hl => ?_)
        refine lv_goto (tgt := 62) hx hb dX6_runScript_96 (by decide) ?_
        have hR2 : (zScrV x9 N N 0 ((h, b), u)) = zScrV x9 N k2 (i + 1) ((h2, b2), v2) := hR.trans ((zScrV_y (x := x9) (N := N) (k := k2) (i := i) (t := ((g1, d1), v1)) c_b).trans (congrArg (zScrV x9 N k2 (i + 1)) hmv))
        have hA2 : zScr x9 N N 0 (h, b) = zScr x9 N k2 (i + 1) (h2, b2) := hAn.trans ((zScr_y (x := x9) (N := N) (k := k2) (i := i) (s := (g1, d1)) c_b).trans (congrArg (zScr x9 N k2 (i + 1)) hmv1))
        rw [zCmdX_y (t := ((g1, d1), v1)) c_b, hmv] at hM
        exact ihk2 (i + 1) v2 h2 b2 t2 e2 (by omega) hG2 hR2 hA2 _ _ hM _ (lv_sub hl [1, 2, 3, 0] rfl)
      · skip
        refine lv_iload hx hb dX6_runScript_90 (lv_at hl 3 rfl) ?_
        exact z_iret hx hb hr hlocks dX6_runScript_92 (by rw [hR, zScrV_n (t := ((g1, d1), v1)) c_b]; rw [zCmdX_n (t := ((g1, d1), v1)) c_b] at hM; exact hM) (Nat.le_of_ble_eq_true rfl) (Nat.le_of_ble_eq_true rfl) (by rw [hAn, zScr_n c_b])
  exact lp62 N 0 u h b t e0 (by omega) hG rfl rfl _ _ hM _ (lv_sub hl [1, 2, 3, 0] rfl)
/-! CLASS: a text loaded -/
theorem zDg_sa {v : Nat → Int32} {n i : Nat} (hi : i < n) : zSa v n i - 48 = zDg v n i := by
  unfold zDg
  rw [zSa_lt hi, if_pos hi]
theorem zKy_k {v : Nat → Int32} {n i : Nat} {d lo hi : Int32} (hv : zTu v) (hn : n ≤ 120) (hlo : 0 ≤ lo) (T : ∀ c : Fin 256, zDg1 d lo hi c.val) (hk : zKy v n d i = true) : i < n ∧ zSa v n i - 48 = nI (zDn v n i) ∧ zDn v n i < 10 ∧ lo ≤ nI (zDn v n i) ∧ nI (zDn v n i) ≤ hi := by
  rcases zKy_d (i := i) hv hn hlo T with ⟨q, _⟩ | ⟨_, hi, _, k, hk10, e, ek, h1, h2⟩
  · exact absurd (q.symm.trans hk) (by decide)
  · rw [ek]
    exact ⟨hi, (zDg_sa hi).trans e, hk10, h1, h2⟩
theorem zWr_hk {v : Nat → Int32} {n : Nat} (h : zWr v n n 0 0 = -1) (hn : n ≤ 120) : zKy v n 0 0 = true ∧ zKy v n 1 1 = true ∧ zKy v n 2 2 = true ∧ zKy v n 3 3 = true ∧ zWr v n (n - 4) 4 4 = -1 := by
  by_cases k0 : zKy v n 0 0 = true
  · rw [zW_1 k0] at h
    have a0 := (zKy_lt k0).1
    by_cases k1 : zKy v n 1 1 = true
    · rw [zW_2 k1] at h
      have a1 := (zKy_lt k1).1
      by_cases k2 : zKy v n 2 2 = true
      · rw [zW_3 k2] at h
        have a2 := (zKy_lt k2).1
        by_cases k3 : zKy v n 3 3 = true
        · rw [zW_4 k3] at h
          exact ⟨k0, k1, k2, k3, h⟩
        · rw [zWr_bad (by omega) (by decide) (bfalse k3)] at h
          exact absurd h (nI_m1 (by decide))
      · rw [zWr_bad (by omega) (by decide) (bfalse k2)] at h
        exact absurd h (nI_m1 (by decide))
    · rw [zWr_bad (by omega) (by decide) (bfalse k1)] at h
      exact absurd h (nI_m1 (by decide))
  · rw [zW_0 (bfalse k0)] at h
    exact absurd h (nI_m1 (by decide))
theorem zHd_ok {v : Nat → Int32} {n : Nat} (hv : zTu v) (hn : n ≤ 120) (h : zWr v n n 0 0 = -1) : 4 ≤ n ∧ zSa v n 1 - 48 = nI (zDn v n 1) ∧ 2 ≤ zDn v n 1 ∧ zDn v n 1 ≤ 4 ∧ 10 * (zSa v n 2 - 48) + (zSa v n 3 - 48) = nI (10 * zDn v n 2 + zDn v n 3) ∧ zHk v n = true := by
  obtain ⟨k0, k1, k2, k3, _⟩ := zWr_hk h hn
  obtain ⟨_, e1, l1, h1, h1b⟩ := zKy_k hv hn (by decide) zDg_1 k1
  obtain ⟨_, e2, l2, _⟩ := zKy_k hv hn (by decide) zDg_2 k2
  obtain ⟨h4, e3, l3, _⟩ := zKy_k hv hn (by decide) zDg_3 k3
  refine ⟨by omega, e1, Nat.not_lt.mp (fun q => Int32.not_lt.mpr h1 (nI_lt (b := 2) q (by decide))), Nat.not_lt.mp (fun q => Int32.not_lt.mpr h1b (nI_lt (a := 4) q (by omega))), ?_, zHq_4 k0 k1 k2 k3⟩
  rw [e2, e3, show (10 : Int32) = nI 10 from rfl, pk_mul 10 (zDn v n 2), nI_add]
theorem zDr_0 : zDr 0 := Or.inl rfl
/-- the numbers of a move that stands there -/
theorem zRd_s {v : Nat → Int32} {n i : Nat} (hv : zTu v) (hn : n ≤ 120) (hs : v i = 115) (hr : zRd v n i = 0) : i + 3 < n ∧ zSa v n (i + 1) - 48 = nI (zDn v n (i + 1)) ∧ zDn v n (i + 1) < 10 ∧ zSa v n (i + 2) - 48 = nI (zDn v n (i + 2)) ∧ zDn v n (i + 2) < 10 := by
  unfold zRd at hr
  rw [if_pos hs] at hr
  by_cases h5 : zKy v n 5 (i + 1) = true
  · rw [if_pos h5] at hr
    by_cases h6 : zKy v n 6 (i + 2) = true
    · rw [if_pos h6] at hr
      by_cases h7 : zKy v n 7 (i + 3) = true
      · obtain ⟨_, e1, l1, _⟩ := zKy_k hv hn (by decide) zDg_5 h5
        obtain ⟨_, e2, l2, _⟩ := zKy_k hv hn (by decide) zDg_6 h6
        exact ⟨(zKy_lt h7).1, e1, l1, e2, l2⟩
      · rw [if_neg h7] at hr
        omega
    · rw [if_neg h6] at hr
      omega
  · rw [if_neg h5] at hr
    omega
theorem zRd_g {v : Nat → Int32} {n i : Nat} (hv : zTu v) (hn : n ≤ 120) (hs : v i = 103) (hr : zRd v n i = 0) : zSa v n (i + 1) - 48 = nI (zDn v n (i + 1)) ∧ zDn v n (i + 1) < 10 := by
  unfold zRd at hr
  rw [if_neg (by rw [hs]; decide), if_pos hs] at hr
  by_cases h5 : zKy v n 8 (i + 1) = true
  · obtain ⟨_, e1, l1, _⟩ := zKy_k hv hn (by decide) zDg_8 h5
    exact ⟨e1, l1⟩
  · rw [if_neg h5] at hr
    omega
theorem zRd_l {v : Nat → Int32} {n i : Nat} (hv : zTu v) (hn : n ≤ 120) (hs : v i = 108) (hr : zRd v n i = 0) : zSa v n (i + 1) - 48 = nI (zDn v n (i + 1)) ∧ zDn v n (i + 1) < 10 ∧ zLi (nI (zDn v n (i + 1))) = true := by
  unfold zRd at hr
  rw [if_neg (by rw [hs]; decide), if_neg (by rw [hs]; decide), if_pos hs] at hr
  by_cases h5 : zKy v n 9 (i + 1) = true
  · obtain ⟨_, e1, l1, _, h2⟩ := zKy_k hv hn (by decide) zDg_9 h5
    refine ⟨e1, l1, zLi_nI (Nat.not_le.mp (fun q => Int32.not_lt.mpr h2 (nI_lt (a := 5) (by omega) (by omega))))⟩
  · rw [if_neg h5] at hr
    omega
theorem zGd_st (h : Nat → Int32) (n : Nat) {i : Nat} (hi : i < 3) : zGdH (zReH h) n (6 + i) = zGdH zClH n (6 + i) := by
  rw [zGdH_n (by omega), zGdH_n (by omega), zReH_s h hi]
  have h3 : i = 0 ∨ i = 1 ∨ i = 2 := by omega
  rcases h3 with rfl | rfl | rfl <;> rfl
set_option maxHeartbeats 4000000 in
set_option maxRecDepth 100000 in
theorem c_dm_s (l : Launch) (G : zC) (o9 : Nat) (u2 u3 u4 u5 u6 u7 : Value) (t9 z9 n : Nat) (v : Nat → Int32) (a : zGA) (h : Nat → Int32) (b : Nat → Nat → Int32) (P t S e0 : Nat) (hG : zGs h b P t S e0) (i : Nat) (hu : zTu v) (hn : n ≤ 120) (hi : i < n) (k8 : Nat) (hk8 : k8 < 10) (e1 : zSa v n (i + 1) - 48 = nI k8) (l8 : Nat) (hl8 : l8 < 10) (e2 : zSa v n (i + 2) - 48 = nI l8) (hi3 : i + 3 < n) (hs : v i = 115) : zMet l G yX6_doMoveAt wsX6_doMoveAt rmX6_doMoveAt [.ref o9, .int (nI i)] ([(o9, .inr (6, [.ref t9, .ref a.1, u2, u3, u4, u5, u6, u7])), (t9, .inr (5, [.ref z9, .int (nI n)])), (z9, .inl (G.2 0, 120, .inl v))] ++ (gmW G a h b)) (some (.int (zb (zMs h b k8 (nI l8) (zSn v (i + 3)))))) ([(o9, .inr (6, [.ref t9, .ref a.1, u2, u3, u4, u5, u6, u7])), (t9, .inr (5, [.ref z9, .int (nI n)])), (z9, .inl (G.2 0, 120, .inl v))] ++ (gmW G a (zTsH h b k8 l8 (zSn v (i + 3))) (zTsB h b k8 l8 (zSn v (i + 3))))) := by
  refine zMet_of (cc := cX6_doMoveAt) (maxL := 5) (ret := (some .boolean)) (by decide) rfl (Nat.le_of_ble_eq_true rfl) ?_
  intro p e s m below meth c A ls hx hb hr hml hown hts hK hA hE hlocks hin hM hl
  have hown : s.vm.findClass RX6 = some m.cls := hown
  have hM : zM G A s s.heap [] ([(o9, .inr (6, [.ref t9, .ref a.1, u2, u3, u4, u5, u6, u7])), (t9, .inr (5, [.ref z9, .int (nI n)])), (z9, .inl (G.2 0, 120, .inl v))] ++ (gmW G a h b)) := hM
  have hl : lv_has ls 5 [(0, .ref o9), (1, .int (nI i))] := hl
  refine lv_aload_n hx hb dX6_doMoveAt_0 rfl (lv_at hl 0 rfl) ?_
  refine z_get (ci := 6) (v := .ref t9) (C := RX6) (T := TX6) (N := 8) hx hb hts (by decide +kernel) hown hK hM 0 rfl rfl 0 (by decide) (hts (.fieldLink RX6 10 "ShiftIsles" "text" "LShiftIsles$Text;") (by decide +kernel)) (fun _ h9 => h9) rfl dX6_doMoveAt_1 ?_
  refine lv_iload_n hx hb dX6_doMoveAt_4 rfl (lv_at hl 1 rfl) ?_
  have hp9 : List.Perm ([(o9, .inr (6, [.ref t9, .ref a.1, u2, u3, u4, u5, u6, u7])), (t9, .inr (5, [.ref z9, .int (nI n)])), (z9, .inl (G.2 0, 120, .inl v))] ++ (gmW G a h b) : va_W) ((txW G t9 z9 n v) ++ ([(o9, .inr (6, [.ref t9, .ref a.1, u2, u3, u4, u5, u6, u7]))] ++ (gmW G a h b))) := (pm_cut (cs := [[(o9, .inr (6, [.ref t9, .ref a.1, u2, u3, u4, u5, u6, u7]))], [(t9, .inr (5, [.ref z9, .int (nI n)]))], [(z9, .inl (G.2 0, 120, .inl v))], gmW G a h b]) (sub := [[(t9, .inr (5, [.ref z9, .int (nI n)]))], [(z9, .inl (G.2 0, 120, .inl v))]]) (rest := [[(o9, .inr (6, [.ref t9, .ref a.1, u2, u3, u4, u5, u6, u7]))], gmW G a h b]) 4 [1, 2] [0, 3] rfl rfl rfl (by decide))
  have hq9 : List.Perm ((txW G t9 z9 n v) ++ ([(o9, .inr (6, [.ref t9, .ref a.1, u2, u3, u4, u5, u6, u7]))] ++ (gmW G a h b))) ([(o9, .inr (6, [.ref t9, .ref a.1, u2, u3, u4, u5, u6, u7])), (t9, .inr (5, [.ref z9, .int (nI n)])), (z9, .inl (G.2 0, 120, .inl v))] ++ (gmW G a h b) : va_W) := (pm_put (cs := [[(o9, .inr (6, [.ref t9, .ref a.1, u2, u3, u4, u5, u6, u7]))], [(t9, .inr (5, [.ref z9, .int (nI n)]))], [(z9, .inl (G.2 0, 120, .inl v))], gmW G a h b]) (sub := [[(t9, .inr (5, [.ref z9, .int (nI n)]))], [(z9, .inl (G.2 0, 120, .inl v))]]) (rest := [[(o9, .inr (6, [.ref t9, .ref a.1, u2, u3, u4, u5, u6, u7]))], gmW G a h b]) 4 [1, 2] [0, 3] rfl rfl rfl (by decide))
  refine z_callV (As := [.int (nI i)]) (rest := []) (wc := txW G t9 z9 n v) (wr := [(o9, .inr (6, [.ref t9, .ref a.1, u2, u3, u4, u5, u6, u7]))] ++ (gmW G a h b)) (w1 := txW G t9 z9 n v) (ws' := [(o9, .inr (6, [.ref t9, .ref a.1, u2, u3, u4, u5, u6, u7])), (t9, .inr (5, [.ref z9, .int (nI n)])), (z9, .inl (G.2 0, 120, .inl v))] ++ (gmW G a h b)) ⟨hx, hb, hml, hown, hts⟩ (c_signAt l G t9 z9 n v i (by omega) hu hn ) (cwV 1 hts gX6_doMoveAt_X5_signAt rfl rfl rfl (by decide +kernel) ⟨Nat.le_of_ble_eq_true rfl, Nat.le_of_ble_eq_true rfl⟩) 5 rfl rfl rfl rfl hl.1 rfl (Nat.le_of_ble_eq_true rfl) dX6_doMoveAt_5 ⟨Nat.le_of_ble_eq_true rfl, Nat.le_of_ble_eq_true rfl⟩ hK hE hA hM hp9 hq9 (fun H locs hM hz => ?_)
  refine z_topi (y := v i) (zSa_lt hi) ?_
  refine lv_istore_n (lv' := [(2, .int (v i)), (0, .ref o9), (1, .int (nI i))]) hx hb dX6_doMoveAt_8 rfl hl (by decide) rfl (fun ls hl => ?_)
  refine lv_aload_n hx hb dX6_doMoveAt_9 rfl (lv_at hl 1 rfl) ?_
  refine z_get (ci := 6) (v := .ref t9) (C := RX6) (T := TX6) (N := 8) hx hb hts (by decide +kernel) hown hK hM 0 rfl rfl 0 (by decide) (hts (.fieldLink RX6 10 "ShiftIsles" "text" "LShiftIsles$Text;") (by decide +kernel)) (fun _ h9 => h9) rfl dX6_doMoveAt_10 ?_
  refine lv_iload_n hx hb dX6_doMoveAt_13 rfl (lv_at hl 2 rfl) ?_
  refine lv_iconst (v := 1) hx hb dX6_doMoveAt_14 (by decide) ?_
  refine lv_iadd hx hb dX6_doMoveAt_15 ?_
  refine z_topi (y := nI (i + 1)) (nI_add i 1) ?_
  have hp9 : List.Perm ([(o9, .inr (6, [.ref t9, .ref a.1, u2, u3, u4, u5, u6, u7])), (t9, .inr (5, [.ref z9, .int (nI n)])), (z9, .inl (G.2 0, 120, .inl v))] ++ (gmW G a h b) : va_W) ((txW G t9 z9 n v) ++ ([(o9, .inr (6, [.ref t9, .ref a.1, u2, u3, u4, u5, u6, u7]))] ++ (gmW G a h b))) := (pm_cut (cs := [[(o9, .inr (6, [.ref t9, .ref a.1, u2, u3, u4, u5, u6, u7]))], [(t9, .inr (5, [.ref z9, .int (nI n)]))], [(z9, .inl (G.2 0, 120, .inl v))], gmW G a h b]) (sub := [[(t9, .inr (5, [.ref z9, .int (nI n)]))], [(z9, .inl (G.2 0, 120, .inl v))]]) (rest := [[(o9, .inr (6, [.ref t9, .ref a.1, u2, u3, u4, u5, u6, u7]))], gmW G a h b]) 4 [1, 2] [0, 3] rfl rfl rfl (by decide))
  have hq9 : List.Perm ((txW G t9 z9 n v) ++ ([(o9, .inr (6, [.ref t9, .ref a.1, u2, u3, u4, u5, u6, u7]))] ++ (gmW G a h b))) ([(o9, .inr (6, [.ref t9, .ref a.1, u2, u3, u4, u5, u6, u7])), (t9, .inr (5, [.ref z9, .int (nI n)])), (z9, .inl (G.2 0, 120, .inl v))] ++ (gmW G a h b) : va_W) := (pm_put (cs := [[(o9, .inr (6, [.ref t9, .ref a.1, u2, u3, u4, u5, u6, u7]))], [(t9, .inr (5, [.ref z9, .int (nI n)]))], [(z9, .inl (G.2 0, 120, .inl v))], gmW G a h b]) (sub := [[(t9, .inr (5, [.ref z9, .int (nI n)]))], [(z9, .inl (G.2 0, 120, .inl v))]]) (rest := [[(o9, .inr (6, [.ref t9, .ref a.1, u2, u3, u4, u5, u6, u7]))], gmW G a h b]) 4 [1, 2] [0, 3] rfl rfl rfl (by decide))
  refine z_callV (As := [.int (nI (i + 1))]) (rest := []) (wc := txW G t9 z9 n v) (wr := [(o9, .inr (6, [.ref t9, .ref a.1, u2, u3, u4, u5, u6, u7]))] ++ (gmW G a h b)) (w1 := txW G t9 z9 n v) (ws' := [(o9, .inr (6, [.ref t9, .ref a.1, u2, u3, u4, u5, u6, u7])), (t9, .inr (5, [.ref z9, .int (nI n)])), (z9, .inl (G.2 0, 120, .inl v))] ++ (gmW G a h b)) ⟨hx, hb, hml, hown, hts⟩ (c_digitAt l G t9 z9 n v (i + 1) (by omega) hu hn ) (cwV 1 hts gX6_doMoveAt_X5_digitAt rfl rfl rfl (by decide +kernel) ⟨Nat.le_of_ble_eq_true rfl, Nat.le_of_ble_eq_true rfl⟩) 5 rfl rfl rfl rfl hl.1 rfl (Nat.le_of_ble_eq_true rfl) dX6_doMoveAt_16 ⟨Nat.le_of_ble_eq_true rfl, Nat.le_of_ble_eq_true rfl⟩ hK hE hA hM hp9 hq9 (fun H locs hM hz => ?_)
  refine z_topi (y := nI k8) e1 ?_
  refine lv_istore_n (lv' := [(3, .int (nI k8)), (2, .int (v i)), (0, .ref o9), (1, .int (nI i))]) hx hb dX6_doMoveAt_19 rfl hl (by decide) rfl (fun ls hl => ?_)
  refine lv_iload_n hx hb dX6_doMoveAt_20 rfl (lv_at hl 1 rfl) ?_
  refine lv_bipush (v := 115) hx hb dX6_doMoveAt_21 (by decide) ?_
  refine lv_icmp_ne (tgt := 69) hx hb dX6_doMoveAt_23 (by decide) (fun c_1 => absurd hs c_1) (fun c_1 => ?_)
  refine lv_aload_n hx hb dX6_doMoveAt_26 rfl (lv_at hl 2 rfl) ?_
  refine z_get (ci := 6) (v := .ref t9) (C := RX6) (T := TX6) (N := 8) hx hb hts (by decide +kernel) hown hK hM 0 rfl rfl 0 (by decide) (hts (.fieldLink RX6 10 "ShiftIsles" "text" "LShiftIsles$Text;") (by decide +kernel)) (fun _ h9 => h9) rfl dX6_doMoveAt_27 ?_
  refine lv_iload_n hx hb dX6_doMoveAt_30 rfl (lv_at hl 3 rfl) ?_
  refine lv_iconst (v := 3) hx hb dX6_doMoveAt_31 (by decide) ?_
  refine lv_iadd hx hb dX6_doMoveAt_32 ?_
  refine z_topi (y := nI (i + 3)) (nI_add i 3) ?_
  have hp9 : List.Perm ([(o9, .inr (6, [.ref t9, .ref a.1, u2, u3, u4, u5, u6, u7])), (t9, .inr (5, [.ref z9, .int (nI n)])), (z9, .inl (G.2 0, 120, .inl v))] ++ (gmW G a h b) : va_W) ((txW G t9 z9 n v) ++ ([(o9, .inr (6, [.ref t9, .ref a.1, u2, u3, u4, u5, u6, u7]))] ++ (gmW G a h b))) := (pm_cut (cs := [[(o9, .inr (6, [.ref t9, .ref a.1, u2, u3, u4, u5, u6, u7]))], [(t9, .inr (5, [.ref z9, .int (nI n)]))], [(z9, .inl (G.2 0, 120, .inl v))], gmW G a h b]) (sub := [[(t9, .inr (5, [.ref z9, .int (nI n)]))], [(z9, .inl (G.2 0, 120, .inl v))]]) (rest := [[(o9, .inr (6, [.ref t9, .ref a.1, u2, u3, u4, u5, u6, u7]))], gmW G a h b]) 4 [1, 2] [0, 3] rfl rfl rfl (by decide))
  have hq9 : List.Perm ((txW G t9 z9 n v) ++ ([(o9, .inr (6, [.ref t9, .ref a.1, u2, u3, u4, u5, u6, u7]))] ++ (gmW G a h b))) ([(o9, .inr (6, [.ref t9, .ref a.1, u2, u3, u4, u5, u6, u7])), (t9, .inr (5, [.ref z9, .int (nI n)])), (z9, .inl (G.2 0, 120, .inl v))] ++ (gmW G a h b) : va_W) := (pm_put (cs := [[(o9, .inr (6, [.ref t9, .ref a.1, u2, u3, u4, u5, u6, u7]))], [(t9, .inr (5, [.ref z9, .int (nI n)]))], [(z9, .inl (G.2 0, 120, .inl v))], gmW G a h b]) (sub := [[(t9, .inr (5, [.ref z9, .int (nI n)]))], [(z9, .inl (G.2 0, 120, .inl v))]]) (rest := [[(o9, .inr (6, [.ref t9, .ref a.1, u2, u3, u4, u5, u6, u7]))], gmW G a h b]) 4 [1, 2] [0, 3] rfl rfl rfl (by decide))
  refine z_callV (As := [.int (nI (i + 3))]) (rest := []) (wc := txW G t9 z9 n v) (wr := [(o9, .inr (6, [.ref t9, .ref a.1, u2, u3, u4, u5, u6, u7]))] ++ (gmW G a h b)) (w1 := txW G t9 z9 n v) (ws' := [(o9, .inr (6, [.ref t9, .ref a.1, u2, u3, u4, u5, u6, u7])), (t9, .inr (5, [.ref z9, .int (nI n)])), (z9, .inl (G.2 0, 120, .inl v))] ++ (gmW G a h b)) ⟨hx, hb, hml, hown, hts⟩ (c_signAt l G t9 z9 n v (i + 3) (by omega) hu hn ) (cwV 1 hts gX6_doMoveAt_X5_signAt rfl rfl rfl (by decide +kernel) ⟨Nat.le_of_ble_eq_true rfl, Nat.le_of_ble_eq_true rfl⟩) 5 rfl rfl rfl rfl hl.1 rfl (Nat.le_of_ble_eq_true rfl) dX6_doMoveAt_33 ⟨Nat.le_of_ble_eq_true rfl, Nat.le_of_ble_eq_true rfl⟩ hK hE hA hM hp9 hq9 (fun H locs hM hz => ?_)
  refine z_topi (y := v (i + 3)) (zSa_lt hi3) ?_
  refine lv_bipush (v := 43) hx hb dX6_doMoveAt_36 (by decide) ?_
  refine lv_icmp_ne (tgt := 45) hx hb dX6_doMoveAt_38 (by decide) (fun c_s => ?_) (fun c_s => ?_)
  · skip
    refine lv_iconst (v := 0) hx hb dX6_doMoveAt_45 (by decide) ?_
    refine z_topi (y := zSn v (i + 3)) (if_neg c_s).symm ?_
    refine lv_istore (lv' := [(4, .int (zSn v (i + 3))), (3, .int (nI k8)), (2, .int (v i)), (0, .ref o9), (1, .int (nI i))]) hx hb dX6_doMoveAt_46 hl (by decide) rfl (fun ls hl => ?_)
    refine lv_aload_n hx hb dX6_doMoveAt_48 rfl (lv_at hl 3 rfl) ?_
    refine z_get (ci := 6) (v := .ref a.1) (C := RX6) (T := TX6) (N := 8) hx hb hts (by decide +kernel) hown hK hM 0 rfl rfl 1 (by decide) (hts (.fieldLink RX6 19 "ShiftIsles" "state" "LShiftIsles$Game;") (by decide +kernel)) (fun _ h9 => h9) rfl dX6_doMoveAt_49 ?_
    refine lv_iload_n hx hb dX6_doMoveAt_52 rfl (lv_at hl 1 rfl) ?_
    refine lv_aload_n hx hb dX6_doMoveAt_53 rfl (lv_at hl 3 rfl) ?_
    refine z_get (ci := 6) (v := .ref t9) (C := RX6) (T := TX6) (N := 8) hx hb hts (by decide +kernel) hown hK hM 0 rfl rfl 0 (by decide) (hts (.fieldLink RX6 10 "ShiftIsles" "text" "LShiftIsles$Text;") (by decide +kernel)) (fun _ h9 => h9) rfl dX6_doMoveAt_54 ?_
    refine lv_iload_n hx hb dX6_doMoveAt_57 rfl (lv_at hl 4 rfl) ?_
    refine lv_iconst (v := 2) hx hb dX6_doMoveAt_58 (by decide) ?_
    refine lv_iadd hx hb dX6_doMoveAt_59 ?_
    refine z_topi (y := nI (i + 2)) (nI_add i 2) ?_
    have hp9 : List.Perm ([(o9, .inr (6, [.ref t9, .ref a.1, u2, u3, u4, u5, u6, u7])), (t9, .inr (5, [.ref z9, .int (nI n)])), (z9, .inl (G.2 0, 120, .inl v))] ++ (gmW G a h b) : va_W) ((txW G t9 z9 n v) ++ ([(o9, .inr (6, [.ref t9, .ref a.1, u2, u3, u4, u5, u6, u7]))] ++ (gmW G a h b))) := (pm_cut (cs := [[(o9, .inr (6, [.ref t9, .ref a.1, u2, u3, u4, u5, u6, u7]))], [(t9, .inr (5, [.ref z9, .int (nI n)]))], [(z9, .inl (G.2 0, 120, .inl v))], gmW G a h b]) (sub := [[(t9, .inr (5, [.ref z9, .int (nI n)]))], [(z9, .inl (G.2 0, 120, .inl v))]]) (rest := [[(o9, .inr (6, [.ref t9, .ref a.1, u2, u3, u4, u5, u6, u7]))], gmW G a h b]) 4 [1, 2] [0, 3] rfl rfl rfl (by decide))
    have hq9 : List.Perm ((txW G t9 z9 n v) ++ ([(o9, .inr (6, [.ref t9, .ref a.1, u2, u3, u4, u5, u6, u7]))] ++ (gmW G a h b))) ([(o9, .inr (6, [.ref t9, .ref a.1, u2, u3, u4, u5, u6, u7])), (t9, .inr (5, [.ref z9, .int (nI n)])), (z9, .inl (G.2 0, 120, .inl v))] ++ (gmW G a h b) : va_W) := (pm_put (cs := [[(o9, .inr (6, [.ref t9, .ref a.1, u2, u3, u4, u5, u6, u7]))], [(t9, .inr (5, [.ref z9, .int (nI n)]))], [(z9, .inl (G.2 0, 120, .inl v))], gmW G a h b]) (sub := [[(t9, .inr (5, [.ref z9, .int (nI n)]))], [(z9, .inl (G.2 0, 120, .inl v))]]) (rest := [[(o9, .inr (6, [.ref t9, .ref a.1, u2, u3, u4, u5, u6, u7]))], gmW G a h b]) 4 [1, 2] [0, 3] rfl rfl rfl (by decide))
    refine z_callV (As := [.int (nI (i + 2))]) (rest := [.int (nI k8), .ref a.1]) (wc := txW G t9 z9 n v) (wr := [(o9, .inr (6, [.ref t9, .ref a.1, u2, u3, u4, u5, u6, u7]))] ++ (gmW G a h b)) (w1 := txW G t9 z9 n v) (ws' := [(o9, .inr (6, [.ref t9, .ref a.1, u2, u3, u4, u5, u6, u7])), (t9, .inr (5, [.ref z9, .int (nI n)])), (z9, .inl (G.2 0, 120, .inl v))] ++ (gmW G a h b)) ⟨hx, hb, hml, hown, hts⟩ (c_digitAt l G t9 z9 n v (i + 2) (by omega) hu hn ) (cwV 1 hts gX6_doMoveAt_X5_digitAt rfl rfl rfl (by decide +kernel) ⟨Nat.le_of_ble_eq_true rfl, Nat.le_of_ble_eq_true rfl⟩) 5 rfl rfl rfl rfl hl.1 rfl (Nat.le_of_ble_eq_true rfl) dX6_doMoveAt_60 ⟨Nat.le_of_ble_eq_true rfl, Nat.le_of_ble_eq_true rfl⟩ hK hE hA hM hp9 hq9 (fun H locs hM hz => ?_)
    refine z_topi (y := nI l8) e2 ?_
    refine lv_iload hx hb dX6_doMoveAt_63 (lv_at hl 0 rfl) ?_
    have hp9 : List.Perm ([(o9, .inr (6, [.ref t9, .ref a.1, u2, u3, u4, u5, u6, u7])), (t9, .inr (5, [.ref z9, .int (nI n)])), (z9, .inl (G.2 0, 120, .inl v))] ++ (gmW G a h b) : va_W) ((gmW G a h b) ++ ([(o9, .inr (6, [.ref t9, .ref a.1, u2, u3, u4, u5, u6, u7])), (t9, .inr (5, [.ref z9, .int (nI n)])), (z9, .inl (G.2 0, 120, .inl v))])) := (pm_cut (cs := [[(o9, .inr (6, [.ref t9, .ref a.1, u2, u3, u4, u5, u6, u7]))], [(t9, .inr (5, [.ref z9, .int (nI n)]))], [(z9, .inl (G.2 0, 120, .inl v))], gmW G a h b]) (sub := [gmW G a h b]) (rest := [[(o9, .inr (6, [.ref t9, .ref a.1, u2, u3, u4, u5, u6, u7]))], [(t9, .inr (5, [.ref z9, .int (nI n)]))], [(z9, .inl (G.2 0, 120, .inl v))]]) 4 [3] [0, 1, 2] rfl rfl rfl (by decide))
    have hq9 : List.Perm ((gmW G a (zTsH h b k8 l8 (zSn v (i + 3))) (zTsB h b k8 l8 (zSn v (i + 3)))) ++ ([(o9, .inr (6, [.ref t9, .ref a.1, u2, u3, u4, u5, u6, u7])), (t9, .inr (5, [.ref z9, .int (nI n)])), (z9, .inl (G.2 0, 120, .inl v))])) ([(o9, .inr (6, [.ref t9, .ref a.1, u2, u3, u4, u5, u6, u7])), (t9, .inr (5, [.ref z9, .int (nI n)])), (z9, .inl (G.2 0, 120, .inl v))] ++ (gmW G a (zTsH h b k8 l8 (zSn v (i + 3))) (zTsB h b k8 l8 (zSn v (i + 3)))) : va_W) := (pm_put (cs := [[(o9, .inr (6, [.ref t9, .ref a.1, u2, u3, u4, u5, u6, u7]))], [(t9, .inr (5, [.ref z9, .int (nI n)]))], [(z9, .inl (G.2 0, 120, .inl v))], gmW G a (zTsH h b k8 l8 (zSn v (i + 3))) (zTsB h b k8 l8 (zSn v (i + 3)))]) (sub := [gmW G a (zTsH h b k8 l8 (zSn v (i + 3))) (zTsB h b k8 l8 (zSn v (i + 3)))]) (rest := [[(o9, .inr (6, [.ref t9, .ref a.1, u2, u3, u4, u5, u6, u7]))], [(t9, .inr (5, [.ref z9, .int (nI n)]))], [(z9, .inl (G.2 0, 120, .inl v))]]) 4 [3] [0, 1, 2] rfl rfl rfl (by decide))
    refine z_callV (As := [.int (nI k8), .int (nI l8), .int (zSn v (i + 3))]) (rest := []) (wc := gmW G a h b) (wr := [(o9, .inr (6, [.ref t9, .ref a.1, u2, u3, u4, u5, u6, u7])), (t9, .inr (5, [.ref z9, .int (nI n)])), (z9, .inl (G.2 0, 120, .inl v))]) (w1 := gmW G a (zTsH h b k8 l8 (zSn v (i + 3))) (zTsB h b k8 l8 (zSn v (i + 3)))) (ws' := [(o9, .inr (6, [.ref t9, .ref a.1, u2, u3, u4, u5, u6, u7])), (t9, .inr (5, [.ref z9, .int (nI n)])), (z9, .inl (G.2 0, 120, .inl v))] ++ (gmW G a (zTsH h b k8 l8 (zSn v (i + 3))) (zTsB h b k8 l8 (zSn v (i + 3))))) ⟨hx, hb, hml, hown, hts⟩ (c_tryShift l G a h b k8 l8 (zSn v (i + 3)) (by omega) (by omega) P t S hG.1.1 ) (cwV 3 hts gX6_doMoveAt_X2_tryShift rfl rfl rfl (by decide +kernel) ⟨Nat.le_of_ble_eq_true rfl, Nat.le_of_ble_eq_true rfl⟩) 2 rfl rfl rfl rfl hl.1 rfl (Nat.le_of_ble_eq_true rfl) dX6_doMoveAt_65 ⟨Nat.le_of_ble_eq_true rfl, Nat.le_of_ble_eq_true rfl⟩ hK hE hA hM hp9 hq9 (fun H locs hM hz => ?_)
    exact z_zret hx hb hr hlocks dX6_doMoveAt_68 hM (Nat.le_of_ble_eq_true rfl) (Nat.le_of_ble_eq_true rfl) (by first | exact Or.inl rfl | exact Or.inr rfl | exact zb_01 _) rfl
  · skip
    refine lv_iconst (v := 1) hx hb dX6_doMoveAt_41 (by decide) ?_
    refine lv_goto (tgt := 46) hx hb dX6_doMoveAt_42 (by decide) ?_
    refine z_topi (y := zSn v (i + 3)) (if_pos c_s).symm ?_
    refine lv_istore (lv' := [(4, .int (zSn v (i + 3))), (3, .int (nI k8)), (2, .int (v i)), (0, .ref o9), (1, .int (nI i))]) hx hb dX6_doMoveAt_46 hl (by decide) rfl (fun ls hl => ?_)
    refine lv_aload_n hx hb dX6_doMoveAt_48 rfl (lv_at hl 3 rfl) ?_
    refine z_get (ci := 6) (v := .ref a.1) (C := RX6) (T := TX6) (N := 8) hx hb hts (by decide +kernel) hown hK hM 0 rfl rfl 1 (by decide) (hts (.fieldLink RX6 19 "ShiftIsles" "state" "LShiftIsles$Game;") (by decide +kernel)) (fun _ h9 => h9) rfl dX6_doMoveAt_49 ?_
    refine lv_iload_n hx hb dX6_doMoveAt_52 rfl (lv_at hl 1 rfl) ?_
    refine lv_aload_n hx hb dX6_doMoveAt_53 rfl (lv_at hl 3 rfl) ?_
    refine z_get (ci := 6) (v := .ref t9) (C := RX6) (T := TX6) (N := 8) hx hb hts (by decide +kernel) hown hK hM 0 rfl rfl 0 (by decide) (hts (.fieldLink RX6 10 "ShiftIsles" "text" "LShiftIsles$Text;") (by decide +kernel)) (fun _ h9 => h9) rfl dX6_doMoveAt_54 ?_
    refine lv_iload_n hx hb dX6_doMoveAt_57 rfl (lv_at hl 4 rfl) ?_
    refine lv_iconst (v := 2) hx hb dX6_doMoveAt_58 (by decide) ?_
    refine lv_iadd hx hb dX6_doMoveAt_59 ?_
    refine z_topi (y := nI (i + 2)) (nI_add i 2) ?_
    have hp9 : List.Perm ([(o9, .inr (6, [.ref t9, .ref a.1, u2, u3, u4, u5, u6, u7])), (t9, .inr (5, [.ref z9, .int (nI n)])), (z9, .inl (G.2 0, 120, .inl v))] ++ (gmW G a h b) : va_W) ((txW G t9 z9 n v) ++ ([(o9, .inr (6, [.ref t9, .ref a.1, u2, u3, u4, u5, u6, u7]))] ++ (gmW G a h b))) := (pm_cut (cs := [[(o9, .inr (6, [.ref t9, .ref a.1, u2, u3, u4, u5, u6, u7]))], [(t9, .inr (5, [.ref z9, .int (nI n)]))], [(z9, .inl (G.2 0, 120, .inl v))], gmW G a h b]) (sub := [[(t9, .inr (5, [.ref z9, .int (nI n)]))], [(z9, .inl (G.2 0, 120, .inl v))]]) (rest := [[(o9, .inr (6, [.ref t9, .ref a.1, u2, u3, u4, u5, u6, u7]))], gmW G a h b]) 4 [1, 2] [0, 3] rfl rfl rfl (by decide))
    have hq9 : List.Perm ((txW G t9 z9 n v) ++ ([(o9, .inr (6, [.ref t9, .ref a.1, u2, u3, u4, u5, u6, u7]))] ++ (gmW G a h b))) ([(o9, .inr (6, [.ref t9, .ref a.1, u2, u3, u4, u5, u6, u7])), (t9, .inr (5, [.ref z9, .int (nI n)])), (z9, .inl (G.2 0, 120, .inl v))] ++ (gmW G a h b) : va_W) := (pm_put (cs := [[(o9, .inr (6, [.ref t9, .ref a.1, u2, u3, u4, u5, u6, u7]))], [(t9, .inr (5, [.ref z9, .int (nI n)]))], [(z9, .inl (G.2 0, 120, .inl v))], gmW G a h b]) (sub := [[(t9, .inr (5, [.ref z9, .int (nI n)]))], [(z9, .inl (G.2 0, 120, .inl v))]]) (rest := [[(o9, .inr (6, [.ref t9, .ref a.1, u2, u3, u4, u5, u6, u7]))], gmW G a h b]) 4 [1, 2] [0, 3] rfl rfl rfl (by decide))
    refine z_callV (As := [.int (nI (i + 2))]) (rest := [.int (nI k8), .ref a.1]) (wc := txW G t9 z9 n v) (wr := [(o9, .inr (6, [.ref t9, .ref a.1, u2, u3, u4, u5, u6, u7]))] ++ (gmW G a h b)) (w1 := txW G t9 z9 n v) (ws' := [(o9, .inr (6, [.ref t9, .ref a.1, u2, u3, u4, u5, u6, u7])), (t9, .inr (5, [.ref z9, .int (nI n)])), (z9, .inl (G.2 0, 120, .inl v))] ++ (gmW G a h b)) ⟨hx, hb, hml, hown, hts⟩ (c_digitAt l G t9 z9 n v (i + 2) (by omega) hu hn ) (cwV 1 hts gX6_doMoveAt_X5_digitAt rfl rfl rfl (by decide +kernel) ⟨Nat.le_of_ble_eq_true rfl, Nat.le_of_ble_eq_true rfl⟩) 5 rfl rfl rfl rfl hl.1 rfl (Nat.le_of_ble_eq_true rfl) dX6_doMoveAt_60 ⟨Nat.le_of_ble_eq_true rfl, Nat.le_of_ble_eq_true rfl⟩ hK hE hA hM hp9 hq9 (fun H locs hM hz => ?_)
    refine z_topi (y := nI l8) e2 ?_
    refine lv_iload hx hb dX6_doMoveAt_63 (lv_at hl 0 rfl) ?_
    have hp9 : List.Perm ([(o9, .inr (6, [.ref t9, .ref a.1, u2, u3, u4, u5, u6, u7])), (t9, .inr (5, [.ref z9, .int (nI n)])), (z9, .inl (G.2 0, 120, .inl v))] ++ (gmW G a h b) : va_W) ((gmW G a h b) ++ ([(o9, .inr (6, [.ref t9, .ref a.1, u2, u3, u4, u5, u6, u7])), (t9, .inr (5, [.ref z9, .int (nI n)])), (z9, .inl (G.2 0, 120, .inl v))])) := (pm_cut (cs := [[(o9, .inr (6, [.ref t9, .ref a.1, u2, u3, u4, u5, u6, u7]))], [(t9, .inr (5, [.ref z9, .int (nI n)]))], [(z9, .inl (G.2 0, 120, .inl v))], gmW G a h b]) (sub := [gmW G a h b]) (rest := [[(o9, .inr (6, [.ref t9, .ref a.1, u2, u3, u4, u5, u6, u7]))], [(t9, .inr (5, [.ref z9, .int (nI n)]))], [(z9, .inl (G.2 0, 120, .inl v))]]) 4 [3] [0, 1, 2] rfl rfl rfl (by decide))
    have hq9 : List.Perm ((gmW G a (zTsH h b k8 l8 (zSn v (i + 3))) (zTsB h b k8 l8 (zSn v (i + 3)))) ++ ([(o9, .inr (6, [.ref t9, .ref a.1, u2, u3, u4, u5, u6, u7])), (t9, .inr (5, [.ref z9, .int (nI n)])), (z9, .inl (G.2 0, 120, .inl v))])) ([(o9, .inr (6, [.ref t9, .ref a.1, u2, u3, u4, u5, u6, u7])), (t9, .inr (5, [.ref z9, .int (nI n)])), (z9, .inl (G.2 0, 120, .inl v))] ++ (gmW G a (zTsH h b k8 l8 (zSn v (i + 3))) (zTsB h b k8 l8 (zSn v (i + 3)))) : va_W) := (pm_put (cs := [[(o9, .inr (6, [.ref t9, .ref a.1, u2, u3, u4, u5, u6, u7]))], [(t9, .inr (5, [.ref z9, .int (nI n)]))], [(z9, .inl (G.2 0, 120, .inl v))], gmW G a (zTsH h b k8 l8 (zSn v (i + 3))) (zTsB h b k8 l8 (zSn v (i + 3)))]) (sub := [gmW G a (zTsH h b k8 l8 (zSn v (i + 3))) (zTsB h b k8 l8 (zSn v (i + 3)))]) (rest := [[(o9, .inr (6, [.ref t9, .ref a.1, u2, u3, u4, u5, u6, u7]))], [(t9, .inr (5, [.ref z9, .int (nI n)]))], [(z9, .inl (G.2 0, 120, .inl v))]]) 4 [3] [0, 1, 2] rfl rfl rfl (by decide))
    refine z_callV (As := [.int (nI k8), .int (nI l8), .int (zSn v (i + 3))]) (rest := []) (wc := gmW G a h b) (wr := [(o9, .inr (6, [.ref t9, .ref a.1, u2, u3, u4, u5, u6, u7])), (t9, .inr (5, [.ref z9, .int (nI n)])), (z9, .inl (G.2 0, 120, .inl v))]) (w1 := gmW G a (zTsH h b k8 l8 (zSn v (i + 3))) (zTsB h b k8 l8 (zSn v (i + 3)))) (ws' := [(o9, .inr (6, [.ref t9, .ref a.1, u2, u3, u4, u5, u6, u7])), (t9, .inr (5, [.ref z9, .int (nI n)])), (z9, .inl (G.2 0, 120, .inl v))] ++ (gmW G a (zTsH h b k8 l8 (zSn v (i + 3))) (zTsB h b k8 l8 (zSn v (i + 3))))) ⟨hx, hb, hml, hown, hts⟩ (c_tryShift l G a h b k8 l8 (zSn v (i + 3)) (by omega) (by omega) P t S hG.1.1 ) (cwV 3 hts gX6_doMoveAt_X2_tryShift rfl rfl rfl (by decide +kernel) ⟨Nat.le_of_ble_eq_true rfl, Nat.le_of_ble_eq_true rfl⟩) 2 rfl rfl rfl rfl hl.1 rfl (Nat.le_of_ble_eq_true rfl) dX6_doMoveAt_65 ⟨Nat.le_of_ble_eq_true rfl, Nat.le_of_ble_eq_true rfl⟩ hK hE hA hM hp9 hq9 (fun H locs hM hz => ?_)
    exact z_zret hx hb hr hlocks dX6_doMoveAt_68 hM (Nat.le_of_ble_eq_true rfl) (Nat.le_of_ble_eq_true rfl) (by first | exact Or.inl rfl | exact Or.inr rfl | exact zb_01 _) rfl

set_option maxHeartbeats 4000000 in
set_option maxRecDepth 100000 in
theorem c_dm_g (l : Launch) (G : zC) (o9 : Nat) (u2 u3 u4 u5 u6 u7 : Value) (t9 z9 n : Nat) (v : Nat → Int32) (a : zGA) (h : Nat → Int32) (b : Nat → Nat → Int32) (P t S e0 : Nat) (hG : zGs h b P t S e0) (i : Nat) (hu : zTu v) (hn : n ≤ 120) (hi : i < n) (k8 : Nat) (hk8 : k8 < 10) (e1 : zSa v n (i + 1) - 48 = nI k8) (hs : v i = 103) : zMet l G yX6_doMoveAt wsX6_doMoveAt rmX6_doMoveAt [.ref o9, .int (nI i)] ([(o9, .inr (6, [.ref t9, .ref a.1, u2, u3, u4, u5, u6, u7])), (t9, .inr (5, [.ref z9, .int (nI n)])), (z9, .inl (G.2 0, 120, .inl v))] ++ (gmW G a h b)) (some (.int (zb (zMg h b S t (nI k8))))) ([(o9, .inr (6, [.ref t9, .ref a.1, u2, u3, u4, u5, u6, u7])), (t9, .inr (5, [.ref z9, .int (nI n)])), (z9, .inl (G.2 0, 120, .inl v))] ++ (gmW G a (if zMg h b S t (nI k8) = true then zEtH h (zGoB b t k8) t P else h) (if zMg h b S t (nI k8) = true then zEtB h (zGoB b t k8) t P else b))) := by
  refine zMet_of (cc := cX6_doMoveAt) (maxL := 5) (ret := (some .boolean)) (by decide) rfl (Nat.le_of_ble_eq_true rfl) ?_
  intro p e s m below meth c A ls hx hb hr hml hown hts hK hA hE hlocks hin hM hl
  have hown : s.vm.findClass RX6 = some m.cls := hown
  have hM : zM G A s s.heap [] ([(o9, .inr (6, [.ref t9, .ref a.1, u2, u3, u4, u5, u6, u7])), (t9, .inr (5, [.ref z9, .int (nI n)])), (z9, .inl (G.2 0, 120, .inl v))] ++ (gmW G a h b)) := hM
  have hl : lv_has ls 5 [(0, .ref o9), (1, .int (nI i))] := hl
  refine lv_aload_n hx hb dX6_doMoveAt_0 rfl (lv_at hl 0 rfl) ?_
  refine z_get (ci := 6) (v := .ref t9) (C := RX6) (T := TX6) (N := 8) hx hb hts (by decide +kernel) hown hK hM 0 rfl rfl 0 (by decide) (hts (.fieldLink RX6 10 "ShiftIsles" "text" "LShiftIsles$Text;") (by decide +kernel)) (fun _ h9 => h9) rfl dX6_doMoveAt_1 ?_
  refine lv_iload_n hx hb dX6_doMoveAt_4 rfl (lv_at hl 1 rfl) ?_
  have hp9 : List.Perm ([(o9, .inr (6, [.ref t9, .ref a.1, u2, u3, u4, u5, u6, u7])), (t9, .inr (5, [.ref z9, .int (nI n)])), (z9, .inl (G.2 0, 120, .inl v))] ++ (gmW G a h b) : va_W) ((txW G t9 z9 n v) ++ ([(o9, .inr (6, [.ref t9, .ref a.1, u2, u3, u4, u5, u6, u7]))] ++ (gmW G a h b))) := (pm_cut (cs := [[(o9, .inr (6, [.ref t9, .ref a.1, u2, u3, u4, u5, u6, u7]))], [(t9, .inr (5, [.ref z9, .int (nI n)]))], [(z9, .inl (G.2 0, 120, .inl v))], gmW G a h b]) (sub := [[(t9, .inr (5, [.ref z9, .int (nI n)]))], [(z9, .inl (G.2 0, 120, .inl v))]]) (rest := [[(o9, .inr (6, [.ref t9, .ref a.1, u2, u3, u4, u5, u6, u7]))], gmW G a h b]) 4 [1, 2] [0, 3] rfl rfl rfl (by decide))
  have hq9 : List.Perm ((txW G t9 z9 n v) ++ ([(o9, .inr (6, [.ref t9, .ref a.1, u2, u3, u4, u5, u6, u7]))] ++ (gmW G a h b))) ([(o9, .inr (6, [.ref t9, .ref a.1, u2, u3, u4, u5, u6, u7])), (t9, .inr (5, [.ref z9, .int (nI n)])), (z9, .inl (G.2 0, 120, .inl v))] ++ (gmW G a h b) : va_W) := (pm_put (cs := [[(o9, .inr (6, [.ref t9, .ref a.1, u2, u3, u4, u5, u6, u7]))], [(t9, .inr (5, [.ref z9, .int (nI n)]))], [(z9, .inl (G.2 0, 120, .inl v))], gmW G a h b]) (sub := [[(t9, .inr (5, [.ref z9, .int (nI n)]))], [(z9, .inl (G.2 0, 120, .inl v))]]) (rest := [[(o9, .inr (6, [.ref t9, .ref a.1, u2, u3, u4, u5, u6, u7]))], gmW G a h b]) 4 [1, 2] [0, 3] rfl rfl rfl (by decide))
  refine z_callV (As := [.int (nI i)]) (rest := []) (wc := txW G t9 z9 n v) (wr := [(o9, .inr (6, [.ref t9, .ref a.1, u2, u3, u4, u5, u6, u7]))] ++ (gmW G a h b)) (w1 := txW G t9 z9 n v) (ws' := [(o9, .inr (6, [.ref t9, .ref a.1, u2, u3, u4, u5, u6, u7])), (t9, .inr (5, [.ref z9, .int (nI n)])), (z9, .inl (G.2 0, 120, .inl v))] ++ (gmW G a h b)) ⟨hx, hb, hml, hown, hts⟩ (c_signAt l G t9 z9 n v i (by omega) hu hn ) (cwV 1 hts gX6_doMoveAt_X5_signAt rfl rfl rfl (by decide +kernel) ⟨Nat.le_of_ble_eq_true rfl, Nat.le_of_ble_eq_true rfl⟩) 5 rfl rfl rfl rfl hl.1 rfl (Nat.le_of_ble_eq_true rfl) dX6_doMoveAt_5 ⟨Nat.le_of_ble_eq_true rfl, Nat.le_of_ble_eq_true rfl⟩ hK hE hA hM hp9 hq9 (fun H locs hM hz => ?_)
  refine z_topi (y := v i) (zSa_lt hi) ?_
  refine lv_istore_n (lv' := [(2, .int (v i)), (0, .ref o9), (1, .int (nI i))]) hx hb dX6_doMoveAt_8 rfl hl (by decide) rfl (fun ls hl => ?_)
  refine lv_aload_n hx hb dX6_doMoveAt_9 rfl (lv_at hl 1 rfl) ?_
  refine z_get (ci := 6) (v := .ref t9) (C := RX6) (T := TX6) (N := 8) hx hb hts (by decide +kernel) hown hK hM 0 rfl rfl 0 (by decide) (hts (.fieldLink RX6 10 "ShiftIsles" "text" "LShiftIsles$Text;") (by decide +kernel)) (fun _ h9 => h9) rfl dX6_doMoveAt_10 ?_
  refine lv_iload_n hx hb dX6_doMoveAt_13 rfl (lv_at hl 2 rfl) ?_
  refine lv_iconst (v := 1) hx hb dX6_doMoveAt_14 (by decide) ?_
  refine lv_iadd hx hb dX6_doMoveAt_15 ?_
  refine z_topi (y := nI (i + 1)) (nI_add i 1) ?_
  have hp9 : List.Perm ([(o9, .inr (6, [.ref t9, .ref a.1, u2, u3, u4, u5, u6, u7])), (t9, .inr (5, [.ref z9, .int (nI n)])), (z9, .inl (G.2 0, 120, .inl v))] ++ (gmW G a h b) : va_W) ((txW G t9 z9 n v) ++ ([(o9, .inr (6, [.ref t9, .ref a.1, u2, u3, u4, u5, u6, u7]))] ++ (gmW G a h b))) := (pm_cut (cs := [[(o9, .inr (6, [.ref t9, .ref a.1, u2, u3, u4, u5, u6, u7]))], [(t9, .inr (5, [.ref z9, .int (nI n)]))], [(z9, .inl (G.2 0, 120, .inl v))], gmW G a h b]) (sub := [[(t9, .inr (5, [.ref z9, .int (nI n)]))], [(z9, .inl (G.2 0, 120, .inl v))]]) (rest := [[(o9, .inr (6, [.ref t9, .ref a.1, u2, u3, u4, u5, u6, u7]))], gmW G a h b]) 4 [1, 2] [0, 3] rfl rfl rfl (by decide))
  have hq9 : List.Perm ((txW G t9 z9 n v) ++ ([(o9, .inr (6, [.ref t9, .ref a.1, u2, u3, u4, u5, u6, u7]))] ++ (gmW G a h b))) ([(o9, .inr (6, [.ref t9, .ref a.1, u2, u3, u4, u5, u6, u7])), (t9, .inr (5, [.ref z9, .int (nI n)])), (z9, .inl (G.2 0, 120, .inl v))] ++ (gmW G a h b) : va_W) := (pm_put (cs := [[(o9, .inr (6, [.ref t9, .ref a.1, u2, u3, u4, u5, u6, u7]))], [(t9, .inr (5, [.ref z9, .int (nI n)]))], [(z9, .inl (G.2 0, 120, .inl v))], gmW G a h b]) (sub := [[(t9, .inr (5, [.ref z9, .int (nI n)]))], [(z9, .inl (G.2 0, 120, .inl v))]]) (rest := [[(o9, .inr (6, [.ref t9, .ref a.1, u2, u3, u4, u5, u6, u7]))], gmW G a h b]) 4 [1, 2] [0, 3] rfl rfl rfl (by decide))
  refine z_callV (As := [.int (nI (i + 1))]) (rest := []) (wc := txW G t9 z9 n v) (wr := [(o9, .inr (6, [.ref t9, .ref a.1, u2, u3, u4, u5, u6, u7]))] ++ (gmW G a h b)) (w1 := txW G t9 z9 n v) (ws' := [(o9, .inr (6, [.ref t9, .ref a.1, u2, u3, u4, u5, u6, u7])), (t9, .inr (5, [.ref z9, .int (nI n)])), (z9, .inl (G.2 0, 120, .inl v))] ++ (gmW G a h b)) ⟨hx, hb, hml, hown, hts⟩ (c_digitAt l G t9 z9 n v (i + 1) (by omega) hu hn ) (cwV 1 hts gX6_doMoveAt_X5_digitAt rfl rfl rfl (by decide +kernel) ⟨Nat.le_of_ble_eq_true rfl, Nat.le_of_ble_eq_true rfl⟩) 5 rfl rfl rfl rfl hl.1 rfl (Nat.le_of_ble_eq_true rfl) dX6_doMoveAt_16 ⟨Nat.le_of_ble_eq_true rfl, Nat.le_of_ble_eq_true rfl⟩ hK hE hA hM hp9 hq9 (fun H locs hM hz => ?_)
  refine z_topi (y := nI k8) e1 ?_
  refine lv_istore_n (lv' := [(3, .int (nI k8)), (2, .int (v i)), (0, .ref o9), (1, .int (nI i))]) hx hb dX6_doMoveAt_19 rfl hl (by decide) rfl (fun ls hl => ?_)
  refine lv_iload_n hx hb dX6_doMoveAt_20 rfl (lv_at hl 1 rfl) ?_
  refine lv_bipush (v := 115) hx hb dX6_doMoveAt_21 (by decide) ?_
  refine lv_icmp_ne (tgt := 69) hx hb dX6_doMoveAt_23 (by decide) (fun c_1 => ?_) (fun c_1 => absurd (hs.symm.trans c_1) (by decide))
  refine lv_iload_n hx hb dX6_doMoveAt_69 rfl (lv_at hl 1 rfl) ?_
  refine lv_bipush (v := 103) hx hb dX6_doMoveAt_70 (by decide) ?_
  refine lv_icmp_ne (tgt := 86) hx hb dX6_doMoveAt_72 (by decide) (fun c_2 => absurd hs c_2) (fun c_2 => ?_)
  refine lv_aload_n hx hb dX6_doMoveAt_75 rfl (lv_at hl 2 rfl) ?_
  refine z_get (ci := 6) (v := .ref a.1) (C := RX6) (T := TX6) (N := 8) hx hb hts (by decide +kernel) hown hK hM 0 rfl rfl 1 (by decide) (hts (.fieldLink RX6 19 "ShiftIsles" "state" "LShiftIsles$Game;") (by decide +kernel)) (fun _ h9 => h9) rfl dX6_doMoveAt_76 ?_
  refine lv_iload_n hx hb dX6_doMoveAt_79 rfl (lv_at hl 0 rfl) ?_
  have hp9 : List.Perm ([(o9, .inr (6, [.ref t9, .ref a.1, u2, u3, u4, u5, u6, u7])), (t9, .inr (5, [.ref z9, .int (nI n)])), (z9, .inl (G.2 0, 120, .inl v))] ++ (gmW G a h b) : va_W) ((gmW G a h b) ++ ([(o9, .inr (6, [.ref t9, .ref a.1, u2, u3, u4, u5, u6, u7])), (t9, .inr (5, [.ref z9, .int (nI n)])), (z9, .inl (G.2 0, 120, .inl v))])) := (pm_cut (cs := [[(o9, .inr (6, [.ref t9, .ref a.1, u2, u3, u4, u5, u6, u7]))], [(t9, .inr (5, [.ref z9, .int (nI n)]))], [(z9, .inl (G.2 0, 120, .inl v))], gmW G a h b]) (sub := [gmW G a h b]) (rest := [[(o9, .inr (6, [.ref t9, .ref a.1, u2, u3, u4, u5, u6, u7]))], [(t9, .inr (5, [.ref z9, .int (nI n)]))], [(z9, .inl (G.2 0, 120, .inl v))]]) 4 [3] [0, 1, 2] rfl rfl rfl (by decide))
  have hq9 : List.Perm ((gmW G a (if zMg h b S t (nI k8) = true then zEtH h (zGoB b t k8) t P else h) (if zMg h b S t (nI k8) = true then zEtB h (zGoB b t k8) t P else b)) ++ ([(o9, .inr (6, [.ref t9, .ref a.1, u2, u3, u4, u5, u6, u7])), (t9, .inr (5, [.ref z9, .int (nI n)])), (z9, .inl (G.2 0, 120, .inl v))])) ([(o9, .inr (6, [.ref t9, .ref a.1, u2, u3, u4, u5, u6, u7])), (t9, .inr (5, [.ref z9, .int (nI n)])), (z9, .inl (G.2 0, 120, .inl v))] ++ (gmW G a (if zMg h b S t (nI k8) = true then zEtH h (zGoB b t k8) t P else h) (if zMg h b S t (nI k8) = true then zEtB h (zGoB b t k8) t P else b)) : va_W) := (pm_put (cs := [[(o9, .inr (6, [.ref t9, .ref a.1, u2, u3, u4, u5, u6, u7]))], [(t9, .inr (5, [.ref z9, .int (nI n)]))], [(z9, .inl (G.2 0, 120, .inl v))], gmW G a (if zMg h b S t (nI k8) = true then zEtH h (zGoB b t k8) t P else h) (if zMg h b S t (nI k8) = true then zEtB h (zGoB b t k8) t P else b)]) (sub := [gmW G a (if zMg h b S t (nI k8) = true then zEtH h (zGoB b t k8) t P else h) (if zMg h b S t (nI k8) = true then zEtB h (zGoB b t k8) t P else b)]) (rest := [[(o9, .inr (6, [.ref t9, .ref a.1, u2, u3, u4, u5, u6, u7]))], [(t9, .inr (5, [.ref z9, .int (nI n)]))], [(z9, .inl (G.2 0, 120, .inl v))]]) 4 [3] [0, 1, 2] rfl rfl rfl (by decide))
  refine z_callV (As := [.int (nI k8)]) (rest := []) (wc := gmW G a h b) (wr := [(o9, .inr (6, [.ref t9, .ref a.1, u2, u3, u4, u5, u6, u7])), (t9, .inr (5, [.ref z9, .int (nI n)])), (z9, .inl (G.2 0, 120, .inl v))]) (w1 := gmW G a (if zMg h b S t (nI k8) = true then zEtH h (zGoB b t k8) t P else h) (if zMg h b S t (nI k8) = true then zEtB h (zGoB b t k8) t P else b)) (ws' := [(o9, .inr (6, [.ref t9, .ref a.1, u2, u3, u4, u5, u6, u7])), (t9, .inr (5, [.ref z9, .int (nI n)])), (z9, .inl (G.2 0, 120, .inl v))] ++ (gmW G a (if zMg h b S t (nI k8) = true then zEtH h (zGoB b t k8) t P else h) (if zMg h b S t (nI k8) = true then zEtB h (zGoB b t k8) t P else b))) ⟨hx, hb, hml, hown, hts⟩ (c_tryGo l G a h b k8 (by omega) P t S hG.1.1 ) (cwV 1 hts gX6_doMoveAt_X2_tryGo rfl rfl rfl (by decide +kernel) ⟨Nat.le_of_ble_eq_true rfl, Nat.le_of_ble_eq_true rfl⟩) 2 rfl rfl rfl rfl hl.1 rfl (Nat.le_of_ble_eq_true rfl) dX6_doMoveAt_80 ⟨Nat.le_of_ble_eq_true rfl, Nat.le_of_ble_eq_true rfl⟩ hK hE hA hM hp9 hq9 (fun H locs hM hz => ?_)
  refine lv_goto (tgt := 94) hx hb dX6_doMoveAt_83 (by decide) ?_
  exact z_zret hx hb hr hlocks dX6_doMoveAt_94 hM (Nat.le_of_ble_eq_true rfl) (Nat.le_of_ble_eq_true rfl) (by first | exact Or.inl rfl | exact Or.inr rfl | exact zb_01 _) rfl

set_option maxHeartbeats 4000000 in
set_option maxRecDepth 100000 in
theorem c_dm_l (l : Launch) (G : zC) (o9 : Nat) (u2 u3 u4 u5 u6 u7 : Value) (t9 z9 n : Nat) (v : Nat → Int32) (a : zGA) (h : Nat → Int32) (b : Nat → Nat → Int32) (P t S e0 : Nat) (hG : zGs h b P t S e0) (i : Nat) (hu : zTu v) (hn : n ≤ 120) (hi : i < n) (k8 : Nat) (hk8 : k8 < 10) (e1 : zSa v n (i + 1) - 48 = nI k8) (hs : v i = 108) : zMet l G yX6_doMoveAt wsX6_doMoveAt rmX6_doMoveAt [.ref o9, .int (nI i)] ([(o9, .inr (6, [.ref t9, .ref a.1, u2, u3, u4, u5, u6, u7])), (t9, .inr (5, [.ref z9, .int (nI n)])), (z9, .inl (G.2 0, 120, .inl v))] ++ (gmW G a h b)) (some (.int (zb (zMe h && zLi (nI k8))))) ([(o9, .inr (6, [.ref t9, .ref a.1, u2, u3, u4, u5, u6, u7])), (t9, .inr (5, [.ref z9, .int (nI n)])), (z9, .inl (G.2 0, 120, .inl v))] ++ (gmW G a (if (zMe h && zLi (nI k8)) = true then zEtH h (zLkB b t (nI k8)) t P else h) (if (zMe h && zLi (nI k8)) = true then zEtB h (zLkB b t (nI k8)) t P else b))) := by
  refine zMet_of (cc := cX6_doMoveAt) (maxL := 5) (ret := (some .boolean)) (by decide) rfl (Nat.le_of_ble_eq_true rfl) ?_
  intro p e s m below meth c A ls hx hb hr hml hown hts hK hA hE hlocks hin hM hl
  have hown : s.vm.findClass RX6 = some m.cls := hown
  have hM : zM G A s s.heap [] ([(o9, .inr (6, [.ref t9, .ref a.1, u2, u3, u4, u5, u6, u7])), (t9, .inr (5, [.ref z9, .int (nI n)])), (z9, .inl (G.2 0, 120, .inl v))] ++ (gmW G a h b)) := hM
  have hl : lv_has ls 5 [(0, .ref o9), (1, .int (nI i))] := hl
  refine lv_aload_n hx hb dX6_doMoveAt_0 rfl (lv_at hl 0 rfl) ?_
  refine z_get (ci := 6) (v := .ref t9) (C := RX6) (T := TX6) (N := 8) hx hb hts (by decide +kernel) hown hK hM 0 rfl rfl 0 (by decide) (hts (.fieldLink RX6 10 "ShiftIsles" "text" "LShiftIsles$Text;") (by decide +kernel)) (fun _ h9 => h9) rfl dX6_doMoveAt_1 ?_
  refine lv_iload_n hx hb dX6_doMoveAt_4 rfl (lv_at hl 1 rfl) ?_
  have hp9 : List.Perm ([(o9, .inr (6, [.ref t9, .ref a.1, u2, u3, u4, u5, u6, u7])), (t9, .inr (5, [.ref z9, .int (nI n)])), (z9, .inl (G.2 0, 120, .inl v))] ++ (gmW G a h b) : va_W) ((txW G t9 z9 n v) ++ ([(o9, .inr (6, [.ref t9, .ref a.1, u2, u3, u4, u5, u6, u7]))] ++ (gmW G a h b))) := (pm_cut (cs := [[(o9, .inr (6, [.ref t9, .ref a.1, u2, u3, u4, u5, u6, u7]))], [(t9, .inr (5, [.ref z9, .int (nI n)]))], [(z9, .inl (G.2 0, 120, .inl v))], gmW G a h b]) (sub := [[(t9, .inr (5, [.ref z9, .int (nI n)]))], [(z9, .inl (G.2 0, 120, .inl v))]]) (rest := [[(o9, .inr (6, [.ref t9, .ref a.1, u2, u3, u4, u5, u6, u7]))], gmW G a h b]) 4 [1, 2] [0, 3] rfl rfl rfl (by decide))
  have hq9 : List.Perm ((txW G t9 z9 n v) ++ ([(o9, .inr (6, [.ref t9, .ref a.1, u2, u3, u4, u5, u6, u7]))] ++ (gmW G a h b))) ([(o9, .inr (6, [.ref t9, .ref a.1, u2, u3, u4, u5, u6, u7])), (t9, .inr (5, [.ref z9, .int (nI n)])), (z9, .inl (G.2 0, 120, .inl v))] ++ (gmW G a h b) : va_W) := (pm_put (cs := [[(o9, .inr (6, [.ref t9, .ref a.1, u2, u3, u4, u5, u6, u7]))], [(t9, .inr (5, [.ref z9, .int (nI n)]))], [(z9, .inl (G.2 0, 120, .inl v))], gmW G a h b]) (sub := [[(t9, .inr (5, [.ref z9, .int (nI n)]))], [(z9, .inl (G.2 0, 120, .inl v))]]) (rest := [[(o9, .inr (6, [.ref t9, .ref a.1, u2, u3, u4, u5, u6, u7]))], gmW G a h b]) 4 [1, 2] [0, 3] rfl rfl rfl (by decide))
  refine z_callV (As := [.int (nI i)]) (rest := []) (wc := txW G t9 z9 n v) (wr := [(o9, .inr (6, [.ref t9, .ref a.1, u2, u3, u4, u5, u6, u7]))] ++ (gmW G a h b)) (w1 := txW G t9 z9 n v) (ws' := [(o9, .inr (6, [.ref t9, .ref a.1, u2, u3, u4, u5, u6, u7])), (t9, .inr (5, [.ref z9, .int (nI n)])), (z9, .inl (G.2 0, 120, .inl v))] ++ (gmW G a h b)) ⟨hx, hb, hml, hown, hts⟩ (c_signAt l G t9 z9 n v i (by omega) hu hn ) (cwV 1 hts gX6_doMoveAt_X5_signAt rfl rfl rfl (by decide +kernel) ⟨Nat.le_of_ble_eq_true rfl, Nat.le_of_ble_eq_true rfl⟩) 5 rfl rfl rfl rfl hl.1 rfl (Nat.le_of_ble_eq_true rfl) dX6_doMoveAt_5 ⟨Nat.le_of_ble_eq_true rfl, Nat.le_of_ble_eq_true rfl⟩ hK hE hA hM hp9 hq9 (fun H locs hM hz => ?_)
  refine z_topi (y := v i) (zSa_lt hi) ?_
  refine lv_istore_n (lv' := [(2, .int (v i)), (0, .ref o9), (1, .int (nI i))]) hx hb dX6_doMoveAt_8 rfl hl (by decide) rfl (fun ls hl => ?_)
  refine lv_aload_n hx hb dX6_doMoveAt_9 rfl (lv_at hl 1 rfl) ?_
  refine z_get (ci := 6) (v := .ref t9) (C := RX6) (T := TX6) (N := 8) hx hb hts (by decide +kernel) hown hK hM 0 rfl rfl 0 (by decide) (hts (.fieldLink RX6 10 "ShiftIsles" "text" "LShiftIsles$Text;") (by decide +kernel)) (fun _ h9 => h9) rfl dX6_doMoveAt_10 ?_
  refine lv_iload_n hx hb dX6_doMoveAt_13 rfl (lv_at hl 2 rfl) ?_
  refine lv_iconst (v := 1) hx hb dX6_doMoveAt_14 (by decide) ?_
  refine lv_iadd hx hb dX6_doMoveAt_15 ?_
  refine z_topi (y := nI (i + 1)) (nI_add i 1) ?_
  have hp9 : List.Perm ([(o9, .inr (6, [.ref t9, .ref a.1, u2, u3, u4, u5, u6, u7])), (t9, .inr (5, [.ref z9, .int (nI n)])), (z9, .inl (G.2 0, 120, .inl v))] ++ (gmW G a h b) : va_W) ((txW G t9 z9 n v) ++ ([(o9, .inr (6, [.ref t9, .ref a.1, u2, u3, u4, u5, u6, u7]))] ++ (gmW G a h b))) := (pm_cut (cs := [[(o9, .inr (6, [.ref t9, .ref a.1, u2, u3, u4, u5, u6, u7]))], [(t9, .inr (5, [.ref z9, .int (nI n)]))], [(z9, .inl (G.2 0, 120, .inl v))], gmW G a h b]) (sub := [[(t9, .inr (5, [.ref z9, .int (nI n)]))], [(z9, .inl (G.2 0, 120, .inl v))]]) (rest := [[(o9, .inr (6, [.ref t9, .ref a.1, u2, u3, u4, u5, u6, u7]))], gmW G a h b]) 4 [1, 2] [0, 3] rfl rfl rfl (by decide))
  have hq9 : List.Perm ((txW G t9 z9 n v) ++ ([(o9, .inr (6, [.ref t9, .ref a.1, u2, u3, u4, u5, u6, u7]))] ++ (gmW G a h b))) ([(o9, .inr (6, [.ref t9, .ref a.1, u2, u3, u4, u5, u6, u7])), (t9, .inr (5, [.ref z9, .int (nI n)])), (z9, .inl (G.2 0, 120, .inl v))] ++ (gmW G a h b) : va_W) := (pm_put (cs := [[(o9, .inr (6, [.ref t9, .ref a.1, u2, u3, u4, u5, u6, u7]))], [(t9, .inr (5, [.ref z9, .int (nI n)]))], [(z9, .inl (G.2 0, 120, .inl v))], gmW G a h b]) (sub := [[(t9, .inr (5, [.ref z9, .int (nI n)]))], [(z9, .inl (G.2 0, 120, .inl v))]]) (rest := [[(o9, .inr (6, [.ref t9, .ref a.1, u2, u3, u4, u5, u6, u7]))], gmW G a h b]) 4 [1, 2] [0, 3] rfl rfl rfl (by decide))
  refine z_callV (As := [.int (nI (i + 1))]) (rest := []) (wc := txW G t9 z9 n v) (wr := [(o9, .inr (6, [.ref t9, .ref a.1, u2, u3, u4, u5, u6, u7]))] ++ (gmW G a h b)) (w1 := txW G t9 z9 n v) (ws' := [(o9, .inr (6, [.ref t9, .ref a.1, u2, u3, u4, u5, u6, u7])), (t9, .inr (5, [.ref z9, .int (nI n)])), (z9, .inl (G.2 0, 120, .inl v))] ++ (gmW G a h b)) ⟨hx, hb, hml, hown, hts⟩ (c_digitAt l G t9 z9 n v (i + 1) (by omega) hu hn ) (cwV 1 hts gX6_doMoveAt_X5_digitAt rfl rfl rfl (by decide +kernel) ⟨Nat.le_of_ble_eq_true rfl, Nat.le_of_ble_eq_true rfl⟩) 5 rfl rfl rfl rfl hl.1 rfl (Nat.le_of_ble_eq_true rfl) dX6_doMoveAt_16 ⟨Nat.le_of_ble_eq_true rfl, Nat.le_of_ble_eq_true rfl⟩ hK hE hA hM hp9 hq9 (fun H locs hM hz => ?_)
  refine z_topi (y := nI k8) e1 ?_
  refine lv_istore_n (lv' := [(3, .int (nI k8)), (2, .int (v i)), (0, .ref o9), (1, .int (nI i))]) hx hb dX6_doMoveAt_19 rfl hl (by decide) rfl (fun ls hl => ?_)
  refine lv_iload_n hx hb dX6_doMoveAt_20 rfl (lv_at hl 1 rfl) ?_
  refine lv_bipush (v := 115) hx hb dX6_doMoveAt_21 (by decide) ?_
  refine lv_icmp_ne (tgt := 69) hx hb dX6_doMoveAt_23 (by decide) (fun c_1 => ?_) (fun c_1 => absurd (hs.symm.trans c_1) (by decide))
  refine lv_iload_n hx hb dX6_doMoveAt_69 rfl (lv_at hl 1 rfl) ?_
  refine lv_bipush (v := 103) hx hb dX6_doMoveAt_70 (by decide) ?_
  refine lv_icmp_ne (tgt := 86) hx hb dX6_doMoveAt_72 (by decide) (fun c_2 => ?_) (fun c_2 => absurd (hs.symm.trans c_2) (by decide))
  refine lv_aload_n hx hb dX6_doMoveAt_86 rfl (lv_at hl 2 rfl) ?_
  refine z_get (ci := 6) (v := .ref a.1) (C := RX6) (T := TX6) (N := 8) hx hb hts (by decide +kernel) hown hK hM 0 rfl rfl 1 (by decide) (hts (.fieldLink RX6 19 "ShiftIsles" "state" "LShiftIsles$Game;") (by decide +kernel)) (fun _ h9 => h9) rfl dX6_doMoveAt_87 ?_
  refine lv_iload_n hx hb dX6_doMoveAt_90 rfl (lv_at hl 0 rfl) ?_
  have hp9 : List.Perm ([(o9, .inr (6, [.ref t9, .ref a.1, u2, u3, u4, u5, u6, u7])), (t9, .inr (5, [.ref z9, .int (nI n)])), (z9, .inl (G.2 0, 120, .inl v))] ++ (gmW G a h b) : va_W) ((gmW G a h b) ++ ([(o9, .inr (6, [.ref t9, .ref a.1, u2, u3, u4, u5, u6, u7])), (t9, .inr (5, [.ref z9, .int (nI n)])), (z9, .inl (G.2 0, 120, .inl v))])) := (pm_cut (cs := [[(o9, .inr (6, [.ref t9, .ref a.1, u2, u3, u4, u5, u6, u7]))], [(t9, .inr (5, [.ref z9, .int (nI n)]))], [(z9, .inl (G.2 0, 120, .inl v))], gmW G a h b]) (sub := [gmW G a h b]) (rest := [[(o9, .inr (6, [.ref t9, .ref a.1, u2, u3, u4, u5, u6, u7]))], [(t9, .inr (5, [.ref z9, .int (nI n)]))], [(z9, .inl (G.2 0, 120, .inl v))]]) 4 [3] [0, 1, 2] rfl rfl rfl (by decide))
  have hq9 : List.Perm ((gmW G a (if (zMe h && zLi (nI k8)) = true then zEtH h (zLkB b t (nI k8)) t P else h) (if (zMe h && zLi (nI k8)) = true then zEtB h (zLkB b t (nI k8)) t P else b)) ++ ([(o9, .inr (6, [.ref t9, .ref a.1, u2, u3, u4, u5, u6, u7])), (t9, .inr (5, [.ref z9, .int (nI n)])), (z9, .inl (G.2 0, 120, .inl v))])) ([(o9, .inr (6, [.ref t9, .ref a.1, u2, u3, u4, u5, u6, u7])), (t9, .inr (5, [.ref z9, .int (nI n)])), (z9, .inl (G.2 0, 120, .inl v))] ++ (gmW G a (if (zMe h && zLi (nI k8)) = true then zEtH h (zLkB b t (nI k8)) t P else h) (if (zMe h && zLi (nI k8)) = true then zEtB h (zLkB b t (nI k8)) t P else b)) : va_W) := (pm_put (cs := [[(o9, .inr (6, [.ref t9, .ref a.1, u2, u3, u4, u5, u6, u7]))], [(t9, .inr (5, [.ref z9, .int (nI n)]))], [(z9, .inl (G.2 0, 120, .inl v))], gmW G a (if (zMe h && zLi (nI k8)) = true then zEtH h (zLkB b t (nI k8)) t P else h) (if (zMe h && zLi (nI k8)) = true then zEtB h (zLkB b t (nI k8)) t P else b)]) (sub := [gmW G a (if (zMe h && zLi (nI k8)) = true then zEtH h (zLkB b t (nI k8)) t P else h) (if (zMe h && zLi (nI k8)) = true then zEtB h (zLkB b t (nI k8)) t P else b)]) (rest := [[(o9, .inr (6, [.ref t9, .ref a.1, u2, u3, u4, u5, u6, u7]))], [(t9, .inr (5, [.ref z9, .int (nI n)]))], [(z9, .inl (G.2 0, 120, .inl v))]]) 4 [3] [0, 1, 2] rfl rfl rfl (by decide))
  refine z_callV (As := [.int (nI k8)]) (rest := []) (wc := gmW G a h b) (wr := [(o9, .inr (6, [.ref t9, .ref a.1, u2, u3, u4, u5, u6, u7])), (t9, .inr (5, [.ref z9, .int (nI n)])), (z9, .inl (G.2 0, 120, .inl v))]) (w1 := gmW G a (if (zMe h && zLi (nI k8)) = true then zEtH h (zLkB b t (nI k8)) t P else h) (if (zMe h && zLi (nI k8)) = true then zEtB h (zLkB b t (nI k8)) t P else b)) (ws' := [(o9, .inr (6, [.ref t9, .ref a.1, u2, u3, u4, u5, u6, u7])), (t9, .inr (5, [.ref z9, .int (nI n)])), (z9, .inl (G.2 0, 120, .inl v))] ++ (gmW G a (if (zMe h && zLi (nI k8)) = true then zEtH h (zLkB b t (nI k8)) t P else h) (if (zMe h && zLi (nI k8)) = true then zEtB h (zLkB b t (nI k8)) t P else b))) ⟨hx, hb, hml, hown, hts⟩ (c_tryLock l G a h b (nI k8) P t S hG.1.1 ) (cwV 1 hts gX6_doMoveAt_X2_tryLock rfl rfl rfl (by decide +kernel) ⟨Nat.le_of_ble_eq_true rfl, Nat.le_of_ble_eq_true rfl⟩) 2 rfl rfl rfl rfl hl.1 rfl (Nat.le_of_ble_eq_true rfl) dX6_doMoveAt_91 ⟨Nat.le_of_ble_eq_true rfl, Nat.le_of_ble_eq_true rfl⟩ hK hE hA hM hp9 hq9 (fun H locs hM hz => ?_)
  exact z_zret hx hb hr hlocks dX6_doMoveAt_94 hM (Nat.le_of_ble_eq_true rfl) (Nat.le_of_ble_eq_true rfl) (by first | exact Or.inl rfl | exact Or.inr rfl | exact zb_01 _) rfl

set_option maxHeartbeats 4000000 in
theorem c_doMove (l : Launch) (G : zC) (o9 : Nat) (u2 u3 u4 u5 u6 u7 : Value) (t9 z9 n : Nat) (v : Nat → Int32) (a : zGA) (h : Nat → Int32) (b : Nat → Nat → Int32) (P t S e0 : Nat) (hG : zGs h b P t S e0) (i : Nat) (hu : zTu v) (hn : n ≤ 120) (hi : i < n) (hr : zRd v n i = 0) (hm : zIm (zSa v n i) = true) : zMet l G yX6_doMoveAt wsX6_doMoveAt rmX6_doMoveAt [.ref o9, .int (nI i)] ([(o9, .inr (6, [.ref t9, .ref a.1, u2, u3, u4, u5, u6, u7])), (t9, .inr (5, [.ref z9, .int (nI n)])), (z9, .inl (G.2 0, 120, .inl v))] ++ (gmW G a h b)) (some (.int (zb (zTxB v n i (h, b))))) ([(o9, .inr (6, [.ref t9, .ref a.1, u2, u3, u4, u5, u6, u7])), (t9, .inr (5, [.ref z9, .int (nI n)])), (z9, .inl (G.2 0, 120, .inl v))] ++ (gmW G a ((zTxT v n i (h, b)).1) ((zTxT v n i (h, b)).2))) := by
  have e3 := zWf_e hG.1
  rw [zSa_lt hi] at hm
  rcases zIm_l hm with hs | hs | hs
  · obtain ⟨hi3, e1, l1, e2, l2⟩ := zRd_s hu hn hs hr
    have q9 := c_dm_s l G o9 u2 u3 u4 u5 u6 u7 t9 z9 n v a h b P t S e0 hG i hu hn hi (zDn v n (i + 1)) l1 e1 (zDn v n (i + 2)) l2 e2 hi3 hs
    have eB : zTxB v n i (h, b) = zMs h b (zDn v n (i + 1)) (nI (zDn v n (i + 2))) (zSn v (i + 3)) := by unfold zTxB; rw [zSa_lt hi, if_pos hs]
    by_cases hc : zMs h b (zDn v n (i + 1)) (nI (zDn v n (i + 2))) (zSn v (i + 3)) = true
    · have eT : zTxT v n i (h, b) = zShS (zDn v n (i + 1)) (zDn v n (i + 2)) (zSn v (i + 3)) (h, b) := by unfold zTxT; rw [zSa_lt hi, if_pos hs]; exact if_pos hc
      rw [eB, eT]
      rw [(zTs_y hc).1, (zTs_y hc).2] at q9
      exact q9
    · have eT : zTxT v n i (h, b) = (h, b) := by unfold zTxT; rw [zSa_lt hi, if_pos hs]; exact if_neg hc
      rw [eB, eT]
      rw [(zTs_n (bfalse hc)).1, (zTs_n (bfalse hc)).2] at q9
      exact q9
  · obtain ⟨e1, l1⟩ := zRd_g hu hn hs hr
    have q9 := c_dm_g l G o9 u2 u3 u4 u5 u6 u7 t9 z9 n v a h b P t S e0 hG i hu hn hi (zDn v n (i + 1)) l1 e1 hs
    have eB : zTxB v n i (h, b) = zMg h b S t (nI (zDn v n (i + 1))) := by unfold zTxB; rw [zSa_lt hi, if_neg (show ¬ v i = 115 by rw [hs]; decide), if_pos hs, e3.2.1, e3.2.2]
    by_cases hc : zMg h b S t (nI (zDn v n (i + 1))) = true
    · have eT : zTxT v n i (h, b) = zGoS (zDn v n (i + 1)) (h, b) := by unfold zTxT; rw [zSa_lt hi, if_neg (show ¬ v i = 115 by rw [hs]; decide), if_pos hs]; exact if_pos (by rw [e3.2.1, e3.2.2]; exact hc)
      rw [eB, eT, zGoS_e hG.1]
      rw [if_pos hc, if_pos hc] at q9
      exact q9
    · have eT : zTxT v n i (h, b) = (h, b) := by unfold zTxT; rw [zSa_lt hi, if_neg (show ¬ v i = 115 by rw [hs]; decide), if_pos hs]; exact if_neg (by rw [e3.2.1, e3.2.2]; exact hc)
      rw [eB, eT]
      rw [if_neg hc, if_neg hc] at q9
      exact q9
  · obtain ⟨e1, l1, hl6⟩ := zRd_l hu hn hs hr
    have q9 := c_dm_l l G o9 u2 u3 u4 u5 u6 u7 t9 z9 n v a h b P t S e0 hG i hu hn hi (zDn v n (i + 1)) l1 e1 hs
    have eB : zTxB v n i (h, b) = (zMe h && zLi (nI (zDn v n (i + 1)))) := by unfold zTxB; rw [zSa_lt hi, if_neg (show ¬ v i = 115 by rw [hs]; decide), if_neg (show ¬ v i = 103 by rw [hs]; decide), if_pos hs, hl6, Bool.and_true]
    by_cases hc : (zMe h && zLi (nI (zDn v n (i + 1)))) = true
    · have hc2 : zMe h = true := ((Bool.and_eq_true _ _).mp hc).1
      have eT : zTxT v n i (h, b) = zLkS (nI (zDn v n (i + 1))) (h, b) := by unfold zTxT; rw [zSa_lt hi, if_neg (show ¬ v i = 115 by rw [hs]; decide), if_neg (show ¬ v i = 103 by rw [hs]; decide), if_pos hs]; exact if_pos hc2
      rw [eB, eT, zLkS_e hG.1]
      rw [if_pos hc, if_pos hc] at q9
      exact q9
    · have hc2 : ¬ zMe h = true := fun q => hc (by rw [q, hl6]; rfl)
      have eT : zTxT v n i (h, b) = (h, b) := by unfold zTxT; rw [zSa_lt hi, if_neg (show ¬ v i = 115 by rw [hs]; decide), if_neg (show ¬ v i = 103 by rw [hs]; decide), if_pos hs]; exact if_neg hc2
      rw [eB, eT]
      rw [if_neg hc, if_neg hc] at q9
      exact q9

set_option maxHeartbeats 4000000 in
set_option maxRecDepth 100000 in
theorem c_x_load1 (l : Launch) (G : zC) (hl0 : l.stackTraces = false) (o9 : Nat) (u1 u2 u3 u4 u5 u6 u7 : Value) (t9 z9 n : Nat) (v : Nat → Int32) (hu : zTu v) (hn : n ≤ 120) (hc : ¬ zWr v n n 0 0 = -1) : zMetT l G yX6_load wsX6_load rmX6_load [.ref o9] ([(o9, .inr (6, [.ref t9, u1, u2, u3, u4, u5, u6, u7])), (t9, .inr (5, [.ref z9, .int (nI n)])), (z9, .inl (G.2 0, 120, .inl v))]) "java/lang/IllegalStateException" := by
  refine zMetT_of (cc := cX6_load) (maxL := 3) (ret := (some .int)) (by decide) rfl (Nat.le_of_ble_eq_true rfl) ?_
  intro p e s m below meth c A ls hx hb htb hml hown hts hK hA hE hTh hlocks hin hM hl
  have hown : s.vm.findClass RX6 = some m.cls := hown
  have hM : zM G A s s.heap [] ([(o9, .inr (6, [.ref t9, u1, u2, u3, u4, u5, u6, u7])), (t9, .inr (5, [.ref z9, .int (nI n)])), (z9, .inl (G.2 0, 120, .inl v))]) := hM
  have hl : lv_has ls 3 [(0, .ref o9)] := hl
  refine lv_aload_n hx hb dX6_load_0 rfl (lv_at hl 0 rfl) ?_
  refine z_get (ci := 6) (v := .ref t9) (C := RX6) (T := TX6) (N := 8) hx hb hts (by decide +kernel) hown hK hM 0 rfl rfl 0 (by decide) (hts (.fieldLink RX6 10 "ShiftIsles" "text" "LShiftIsles$Text;") (by decide +kernel)) (fun _ h9 => h9) rfl dX6_load_1 ?_
  have hp9 : List.Perm ([(o9, .inr (6, [.ref t9, u1, u2, u3, u4, u5, u6, u7])), (t9, .inr (5, [.ref z9, .int (nI n)])), (z9, .inl (G.2 0, 120, .inl v))] : va_W) ((txW G t9 z9 n v) ++ ([(o9, .inr (6, [.ref t9, u1, u2, u3, u4, u5, u6, u7]))])) := (pm_cut (cs := [[(o9, .inr (6, [.ref t9, u1, u2, u3, u4, u5, u6, u7]))], [(t9, .inr (5, [.ref z9, .int (nI n)]))], [(z9, .inl (G.2 0, 120, .inl v))]]) (sub := [[(t9, .inr (5, [.ref z9, .int (nI n)]))], [(z9, .inl (G.2 0, 120, .inl v))]]) (rest := [[(o9, .inr (6, [.ref t9, u1, u2, u3, u4, u5, u6, u7]))]]) 3 [1, 2] [0] rfl rfl rfl (by decide))
  have hq9 : List.Perm ((txW G t9 z9 n v) ++ ([(o9, .inr (6, [.ref t9, u1, u2, u3, u4, u5, u6, u7]))])) ([(o9, .inr (6, [.ref t9, u1, u2, u3, u4, u5, u6, u7])), (t9, .inr (5, [.ref z9, .int (nI n)])), (z9, .inl (G.2 0, 120, .inl v))] : va_W) := (pm_put (cs := [[(o9, .inr (6, [.ref t9, u1, u2, u3, u4, u5, u6, u7]))], [(t9, .inr (5, [.ref z9, .int (nI n)]))], [(z9, .inl (G.2 0, 120, .inl v))]]) (sub := [[(t9, .inr (5, [.ref z9, .int (nI n)]))], [(z9, .inl (G.2 0, 120, .inl v))]]) (rest := [[(o9, .inr (6, [.ref t9, u1, u2, u3, u4, u5, u6, u7]))]]) 3 [1, 2] [0] rfl rfl rfl (by decide))
  refine z_callV (As := []) (rest := []) (wc := txW G t9 z9 n v) (wr := [(o9, .inr (6, [.ref t9, u1, u2, u3, u4, u5, u6, u7]))]) (w1 := txW G t9 z9 n v) (ws' := [(o9, .inr (6, [.ref t9, u1, u2, u3, u4, u5, u6, u7])), (t9, .inr (5, [.ref z9, .int (nI n)])), (z9, .inl (G.2 0, 120, .inl v))]) ⟨hx, hb, hml, hown, hts⟩ (c_wrongAt l G t9 z9 n v hu hn ) (cwV 0 hts gX6_load_X5_wrongAt rfl rfl rfl (by decide +kernel) ⟨Nat.le_of_ble_eq_true rfl, Nat.le_of_ble_eq_true rfl⟩) 5 rfl rfl rfl rfl hl.1 rfl (Nat.le_of_ble_eq_true rfl) dX6_load_4 ⟨Nat.le_of_ble_eq_true rfl, Nat.le_of_ble_eq_true rfl⟩ hK hE hA hM hp9 hq9 (fun H locs hM hz => ?_)
  refine lv_iconst (v := (-1)) hx hb dX6_load_7 (by decide) ?_
  refine lv_icmp_eq (tgt := 21) hx hb dX6_load_8 (by decide) (fun c_1 => absurd c_1 hc) (fun c_1 => ?_)
  exact z_throw (text := "the text is not a game") (ik := 66) (is := 82) (ic := 70) hx hb hl0 htb hlocks hown (by decide) (hts (.classLink RX6 66 "java/lang/IllegalStateException") (by decide +kernel)) (hts (.initialized "java/lang/IllegalStateException") (by decide +kernel)) (hE.1.2.2 (82, "the text is not a game") (List.mem_of_getElem? (i := 2) rfl)) hTh (List.mem_of_getElem? (i := 1) rfl) (fun w9 hw9 => hts w9 (List.mem_cons_of_mem _ (List.mem_append_right _ hw9))) (by decide +kernel) (by decide +kernel) hE hA hM (hl.1.trans hml.symm) dX6_load_11 dX6_load_14 dX6_load_15 dX6_load_17 dX6_load_20 (Nat.le_of_ble_eq_true rfl) (Nat.le_of_ble_eq_true rfl) (Nat.le_of_ble_eq_true rfl) (Nat.le_of_ble_eq_true rfl) (Nat.le_of_ble_eq_true rfl) (Nat.le_of_ble_eq_true rfl)

set_option maxHeartbeats 4000000 in
set_option maxRecDepth 100000 in
theorem c_x_load0 (l : Launch) (G : zC) (o9 : Nat) (u2 u3 u6 : Value) (t9 z9 n : Nat) (v : Nat → Int32) (b9 : Nat) (K : Nat → Int32) (d9 : Nat) (x0 : Int64) (mq mz mk mx : Nat) (ga : Nat → zGA) (mh : Nat → Nat → Int32) (mb : Nat → Nat → Nat → Int32) (a : zGA) (h : Nat → Int32) (b : Nat → Nat → Int32) (hu : zTu v) (hn : n ≤ 120) (hc : zWr v n n 0 0 = -1) : zMet l G yX6_load wsX6_load rmX6_load [.ref o9] ([(o9, .inr (6, [.ref t9, .ref a.1, u2, u3, .ref d9, .ref mq, u6, .ref b9])), (t9, .inr (5, [.ref z9, .int (nI n)])), (z9, .inl (G.2 0, 120, .inl v)), (b9, .inl (G.2 2, 2, .inl K)), (d9, .inr (1, [.long x0]))] ++ ((mmW G mq mz ga mk mx mh mb) ++ (gmW G a h b))) (some (.int (nI (zIt (zTxS v n) n 0 ((zGdH zClH (zDn v n 1), (zGd (zDn v n 1) (zTs v n) b).2), 0)).2))) ([(o9, .inr (6, [.ref t9, .ref a.1, u2, u3, .ref d9, .ref mq, u6, .ref b9])), (t9, .inr (5, [.ref z9, .int (nI n)])), (z9, .inl (G.2 0, 120, .inl v)), (b9, .inl (G.2 2, 2, .inl (upd (upd K 0 0) 1 0))), (d9, .inr (1, [.long ((zGd (zDn v n 1) (zTs v n) b).1)]))] ++ ((mmW G mq mz ga 0 mx mh mb) ++ (gmW G a ((zIt (zTxS v n) n 0 ((zGdH zClH (zDn v n 1), (zGd (zDn v n 1) (zTs v n) b).2), 0)).1.1) ((zIt (zTxS v n) n 0 ((zGdH zClH (zDn v n 1), (zGd (zDn v n 1) (zTs v n) b).2), 0)).1.2)))) := by
  refine zMet_of (cc := cX6_load) (maxL := 3) (ret := (some .int)) (by decide) rfl (Nat.le_of_ble_eq_true rfl) ?_
  intro p e s m below meth c A ls hx hb hr hml hown hts hK hA hE hlocks hin hM hl
  have hown : s.vm.findClass RX6 = some m.cls := hown
  have hM : zM G A s s.heap [] ([(o9, .inr (6, [.ref t9, .ref a.1, u2, u3, .ref d9, .ref mq, u6, .ref b9])), (t9, .inr (5, [.ref z9, .int (nI n)])), (z9, .inl (G.2 0, 120, .inl v)), (b9, .inl (G.2 2, 2, .inl K)), (d9, .inr (1, [.long x0]))] ++ ((mmW G mq mz ga mk mx mh mb) ++ (gmW G a h b))) := hM
  have hl : lv_has ls 3 [(0, .ref o9)] := hl
  obtain ⟨h4n, hpl, hk2, hk4, hsd, hhk⟩ := zHd_ok hu hn hc
  have hG0 : zGs (zGdH zClH (zDn v n 1)) (zGd (zDn v n 1) (zTs v n) b).2 (zDn v n 1) 0 4 0 := zGs_bg zCl_gs hk2 hk4 (fun p9 hp9 => by rw [zGd_bg]; exact (zBg_b (zDn v n 1) (zTs v n) b (fun _ _ => 0)).2 p9 hp9)
  refine lv_aload_n hx hb dX6_load_0 rfl (lv_at hl 0 rfl) ?_
  refine z_get (ci := 6) (v := .ref t9) (C := RX6) (T := TX6) (N := 8) hx hb hts (by decide +kernel) hown hK hM 0 rfl rfl 0 (by decide) (hts (.fieldLink RX6 10 "ShiftIsles" "text" "LShiftIsles$Text;") (by decide +kernel)) (fun _ h9 => h9) rfl dX6_load_1 ?_
  have hp9 : List.Perm ([(o9, .inr (6, [.ref t9, .ref a.1, u2, u3, .ref d9, .ref mq, u6, .ref b9])), (t9, .inr (5, [.ref z9, .int (nI n)])), (z9, .inl (G.2 0, 120, .inl v)), (b9, .inl (G.2 2, 2, .inl K)), (d9, .inr (1, [.long x0]))] ++ ((mmW G mq mz ga mk mx mh mb) ++ (gmW G a h b)) : va_W) ((txW G t9 z9 n v) ++ ([(o9, .inr (6, [.ref t9, .ref a.1, u2, u3, .ref d9, .ref mq, u6, .ref b9])), (b9, .inl (G.2 2, 2, .inl K)), (d9, .inr (1, [.long x0]))] ++ ((mmW G mq mz ga mk mx mh mb) ++ (gmW G a h b)))) := (pm_cut (cs := [[(o9, .inr (6, [.ref t9, .ref a.1, u2, u3, .ref d9, .ref mq, u6, .ref b9]))], [(t9, .inr (5, [.ref z9, .int (nI n)]))], [(z9, .inl (G.2 0, 120, .inl v))], [(b9, .inl (G.2 2, 2, .inl K))], [(d9, .inr (1, [.long x0]))], mmW G mq mz ga mk mx mh mb, gmW G a h b]) (sub := [[(t9, .inr (5, [.ref z9, .int (nI n)]))], [(z9, .inl (G.2 0, 120, .inl v))]]) (rest := [[(o9, .inr (6, [.ref t9, .ref a.1, u2, u3, .ref d9, .ref mq, u6, .ref b9]))], [(b9, .inl (G.2 2, 2, .inl K))], [(d9, .inr (1, [.long x0]))], mmW G mq mz ga mk mx mh mb, gmW G a h b]) 7 [1, 2] [0, 3, 4, 5, 6] rfl rfl rfl (by decide))
  have hq9 : List.Perm ((txW G t9 z9 n v) ++ ([(o9, .inr (6, [.ref t9, .ref a.1, u2, u3, .ref d9, .ref mq, u6, .ref b9])), (b9, .inl (G.2 2, 2, .inl K)), (d9, .inr (1, [.long x0]))] ++ ((mmW G mq mz ga mk mx mh mb) ++ (gmW G a h b)))) ([(o9, .inr (6, [.ref t9, .ref a.1, u2, u3, .ref d9, .ref mq, u6, .ref b9])), (t9, .inr (5, [.ref z9, .int (nI n)])), (z9, .inl (G.2 0, 120, .inl v)), (b9, .inl (G.2 2, 2, .inl K)), (d9, .inr (1, [.long x0]))] ++ ((mmW G mq mz ga mk mx mh mb) ++ (gmW G a h b)) : va_W) := (pm_put (cs := [[(o9, .inr (6, [.ref t9, .ref a.1, u2, u3, .ref d9, .ref mq, u6, .ref b9]))], [(t9, .inr (5, [.ref z9, .int (nI n)]))], [(z9, .inl (G.2 0, 120, .inl v))], [(b9, .inl (G.2 2, 2, .inl K))], [(d9, .inr (1, [.long x0]))], mmW G mq mz ga mk mx mh mb, gmW G a h b]) (sub := [[(t9, .inr (5, [.ref z9, .int (nI n)]))], [(z9, .inl (G.2 0, 120, .inl v))]]) (rest := [[(o9, .inr (6, [.ref t9, .ref a.1, u2, u3, .ref d9, .ref mq, u6, .ref b9]))], [(b9, .inl (G.2 2, 2, .inl K))], [(d9, .inr (1, [.long x0]))], mmW G mq mz ga mk mx mh mb, gmW G a h b]) 7 [1, 2] [0, 3, 4, 5, 6] rfl rfl rfl (by decide))
  refine z_callV (As := []) (rest := []) (wc := txW G t9 z9 n v) (wr := [(o9, .inr (6, [.ref t9, .ref a.1, u2, u3, .ref d9, .ref mq, u6, .ref b9])), (b9, .inl (G.2 2, 2, .inl K)), (d9, .inr (1, [.long x0]))] ++ ((mmW G mq mz ga mk mx mh mb) ++ (gmW G a h b))) (w1 := txW G t9 z9 n v) (ws' := [(o9, .inr (6, [.ref t9, .ref a.1, u2, u3, .ref d9, .ref mq, u6, .ref b9])), (t9, .inr (5, [.ref z9, .int (nI n)])), (z9, .inl (G.2 0, 120, .inl v)), (b9, .inl (G.2 2, 2, .inl K)), (d9, .inr (1, [.long x0]))] ++ ((mmW G mq mz ga mk mx mh mb) ++ (gmW G a h b))) ⟨hx, hb, hml, hown, hts⟩ (c_wrongAt l G t9 z9 n v hu hn ) (cwV 0 hts gX6_load_X5_wrongAt rfl rfl rfl (by decide +kernel) ⟨Nat.le_of_ble_eq_true rfl, Nat.le_of_ble_eq_true rfl⟩) 5 rfl rfl rfl rfl hl.1 rfl (Nat.le_of_ble_eq_true rfl) dX6_load_4 ⟨Nat.le_of_ble_eq_true rfl, Nat.le_of_ble_eq_true rfl⟩ hK hE hA hM hp9 hq9 (fun H locs hM hz => ?_)
  refine lv_iconst (v := (-1)) hx hb dX6_load_7 (by decide) ?_
  refine lv_icmp_eq (tgt := 21) hx hb dX6_load_8 (by decide) (fun c_1 => ?_) (fun c_1 => absurd hc c_1)
  refine lv_aload_n hx hb dX6_load_21 rfl (lv_at hl 0 rfl) ?_
  refine z_get (ci := 6) (v := .ref a.1) (C := RX6) (T := TX6) (N := 8) hx hb hts (by decide +kernel) hown hK hM 0 rfl rfl 1 (by decide) (hts (.fieldLink RX6 19 "ShiftIsles" "state" "LShiftIsles$Game;") (by decide +kernel)) (fun _ h9 => h9) rfl dX6_load_22 ?_
  have hp9 : List.Perm ([(o9, .inr (6, [.ref t9, .ref a.1, u2, u3, .ref d9, .ref mq, u6, .ref b9])), (t9, .inr (5, [.ref z9, .int (nI n)])), (z9, .inl (G.2 0, 120, .inl v)), (b9, .inl (G.2 2, 2, .inl K)), (d9, .inr (1, [.long x0]))] ++ ((mmW G mq mz ga mk mx mh mb) ++ (gmW G a h b)) : va_W) ((gmW G a h b) ++ ([(o9, .inr (6, [.ref t9, .ref a.1, u2, u3, .ref d9, .ref mq, u6, .ref b9])), (t9, .inr (5, [.ref z9, .int (nI n)])), (z9, .inl (G.2 0, 120, .inl v)), (b9, .inl (G.2 2, 2, .inl K)), (d9, .inr (1, [.long x0]))] ++ (mmW G mq mz ga mk mx mh mb))) := (pm_cut (cs := [[(o9, .inr (6, [.ref t9, .ref a.1, u2, u3, .ref d9, .ref mq, u6, .ref b9]))], [(t9, .inr (5, [.ref z9, .int (nI n)]))], [(z9, .inl (G.2 0, 120, .inl v))], [(b9, .inl (G.2 2, 2, .inl K))], [(d9, .inr (1, [.long x0]))], mmW G mq mz ga mk mx mh mb, gmW G a h b]) (sub := [gmW G a h b]) (rest := [[(o9, .inr (6, [.ref t9, .ref a.1, u2, u3, .ref d9, .ref mq, u6, .ref b9]))], [(t9, .inr (5, [.ref z9, .int (nI n)]))], [(z9, .inl (G.2 0, 120, .inl v))], [(b9, .inl (G.2 2, 2, .inl K))], [(d9, .inr (1, [.long x0]))], mmW G mq mz ga mk mx mh mb]) 7 [6] [0, 1, 2, 3, 4, 5] rfl rfl rfl (by decide))
  have hq9 : List.Perm ((gmW G a (zReH h) b) ++ ([(o9, .inr (6, [.ref t9, .ref a.1, u2, u3, .ref d9, .ref mq, u6, .ref b9])), (t9, .inr (5, [.ref z9, .int (nI n)])), (z9, .inl (G.2 0, 120, .inl v)), (b9, .inl (G.2 2, 2, .inl K)), (d9, .inr (1, [.long x0]))] ++ (mmW G mq mz ga mk mx mh mb))) ([(o9, .inr (6, [.ref t9, .ref a.1, u2, u3, .ref d9, .ref mq, u6, .ref b9])), (t9, .inr (5, [.ref z9, .int (nI n)])), (z9, .inl (G.2 0, 120, .inl v)), (b9, .inl (G.2 2, 2, .inl K)), (d9, .inr (1, [.long x0]))] ++ ((mmW G mq mz ga mk mx mh mb) ++ (gmW G a (zReH h) b)) : va_W) := (pm_put (cs := [[(o9, .inr (6, [.ref t9, .ref a.1, u2, u3, .ref d9, .ref mq, u6, .ref b9]))], [(t9, .inr (5, [.ref z9, .int (nI n)]))], [(z9, .inl (G.2 0, 120, .inl v))], [(b9, .inl (G.2 2, 2, .inl K))], [(d9, .inr (1, [.long x0]))], mmW G mq mz ga mk mx mh mb, gmW G a (zReH h) b]) (sub := [gmW G a (zReH h) b]) (rest := [[(o9, .inr (6, [.ref t9, .ref a.1, u2, u3, .ref d9, .ref mq, u6, .ref b9]))], [(t9, .inr (5, [.ref z9, .int (nI n)]))], [(z9, .inl (G.2 0, 120, .inl v))], [(b9, .inl (G.2 2, 2, .inl K))], [(d9, .inr (1, [.long x0]))], mmW G mq mz ga mk mx mh mb]) 7 [6] [0, 1, 2, 3, 4, 5] rfl rfl rfl (by decide))
  refine z_callV (As := []) (rest := []) (wc := gmW G a h b) (wr := [(o9, .inr (6, [.ref t9, .ref a.1, u2, u3, .ref d9, .ref mq, u6, .ref b9])), (t9, .inr (5, [.ref z9, .int (nI n)])), (z9, .inl (G.2 0, 120, .inl v)), (b9, .inl (G.2 2, 2, .inl K)), (d9, .inr (1, [.long x0]))] ++ (mmW G mq mz ga mk mx mh mb)) (w1 := gmW G a (zReH h) b) (ws' := [(o9, .inr (6, [.ref t9, .ref a.1, u2, u3, .ref d9, .ref mq, u6, .ref b9])), (t9, .inr (5, [.ref z9, .int (nI n)])), (z9, .inl (G.2 0, 120, .inl v)), (b9, .inl (G.2 2, 2, .inl K)), (d9, .inr (1, [.long x0]))] ++ ((mmW G mq mz ga mk mx mh mb) ++ (gmW G a (zReH h) b))) ⟨hx, hb, hml, hown, hts⟩ (c_reset l G a h b  ) (cwV 0 hts gX6_load_X2_resetSettings rfl rfl rfl (by decide +kernel) ⟨Nat.le_of_ble_eq_true rfl, Nat.le_of_ble_eq_true rfl⟩) 2 rfl rfl rfl rfl hl.1 rfl (Nat.le_of_ble_eq_true rfl) dX6_load_25 ⟨Nat.le_of_ble_eq_true rfl, Nat.le_of_ble_eq_true rfl⟩ hK hE hA hM hp9 hq9 (fun H locs hM hz => ?_)
  refine lv_aload_n hx hb dX6_load_28 rfl (lv_at hl 0 rfl) ?_
  refine z_get (ci := 6) (v := .ref d9) (C := RX6) (T := TX6) (N := 8) hx hb hts (by decide +kernel) hown hK hM 0 rfl rfl 4 (by decide) (hts (.fieldLink RX6 36 "ShiftIsles" "draws" "LShiftIsles$Draws;") (by decide +kernel)) (fun _ h9 => h9) rfl dX6_load_29 ?_
  refine lv_aload_n hx hb dX6_load_32 rfl (lv_at hl 0 rfl) ?_
  refine z_get (ci := 6) (v := .ref t9) (C := RX6) (T := TX6) (N := 8) hx hb hts (by decide +kernel) hown hK hM 0 rfl rfl 0 (by decide) (hts (.fieldLink RX6 10 "ShiftIsles" "text" "LShiftIsles$Text;") (by decide +kernel)) (fun _ h9 => h9) rfl dX6_load_33 ?_
  have hp9 : List.Perm ([(o9, .inr (6, [.ref t9, .ref a.1, u2, u3, .ref d9, .ref mq, u6, .ref b9])), (t9, .inr (5, [.ref z9, .int (nI n)])), (z9, .inl (G.2 0, 120, .inl v)), (b9, .inl (G.2 2, 2, .inl K)), (d9, .inr (1, [.long x0]))] ++ ((mmW G mq mz ga mk mx mh mb) ++ (gmW G a (zReH h) b)) : va_W) ((txW G t9 z9 n v) ++ ([(o9, .inr (6, [.ref t9, .ref a.1, u2, u3, .ref d9, .ref mq, u6, .ref b9])), (b9, .inl (G.2 2, 2, .inl K)), (d9, .inr (1, [.long x0]))] ++ ((mmW G mq mz ga mk mx mh mb) ++ (gmW G a (zReH h) b)))) := (pm_cut (cs := [[(o9, .inr (6, [.ref t9, .ref a.1, u2, u3, .ref d9, .ref mq, u6, .ref b9]))], [(t9, .inr (5, [.ref z9, .int (nI n)]))], [(z9, .inl (G.2 0, 120, .inl v))], [(b9, .inl (G.2 2, 2, .inl K))], [(d9, .inr (1, [.long x0]))], mmW G mq mz ga mk mx mh mb, gmW G a (zReH h) b]) (sub := [[(t9, .inr (5, [.ref z9, .int (nI n)]))], [(z9, .inl (G.2 0, 120, .inl v))]]) (rest := [[(o9, .inr (6, [.ref t9, .ref a.1, u2, u3, .ref d9, .ref mq, u6, .ref b9]))], [(b9, .inl (G.2 2, 2, .inl K))], [(d9, .inr (1, [.long x0]))], mmW G mq mz ga mk mx mh mb, gmW G a (zReH h) b]) 7 [1, 2] [0, 3, 4, 5, 6] rfl rfl rfl (by decide))
  have hq9 : List.Perm ((txW G t9 z9 n v) ++ ([(o9, .inr (6, [.ref t9, .ref a.1, u2, u3, .ref d9, .ref mq, u6, .ref b9])), (b9, .inl (G.2 2, 2, .inl K)), (d9, .inr (1, [.long x0]))] ++ ((mmW G mq mz ga mk mx mh mb) ++ (gmW G a (zReH h) b)))) ([(o9, .inr (6, [.ref t9, .ref a.1, u2, u3, .ref d9, .ref mq, u6, .ref b9])), (t9, .inr (5, [.ref z9, .int (nI n)])), (z9, .inl (G.2 0, 120, .inl v)), (b9, .inl (G.2 2, 2, .inl K)), (d9, .inr (1, [.long x0]))] ++ ((mmW G mq mz ga mk mx mh mb) ++ (gmW G a (zReH h) b)) : va_W) := (pm_put (cs := [[(o9, .inr (6, [.ref t9, .ref a.1, u2, u3, .ref d9, .ref mq, u6, .ref b9]))], [(t9, .inr (5, [.ref z9, .int (nI n)]))], [(z9, .inl (G.2 0, 120, .inl v))], [(b9, .inl (G.2 2, 2, .inl K))], [(d9, .inr (1, [.long x0]))], mmW G mq mz ga mk mx mh mb, gmW G a (zReH h) b]) (sub := [[(t9, .inr (5, [.ref z9, .int (nI n)]))], [(z9, .inl (G.2 0, 120, .inl v))]]) (rest := [[(o9, .inr (6, [.ref t9, .ref a.1, u2, u3, .ref d9, .ref mq, u6, .ref b9]))], [(b9, .inl (G.2 2, 2, .inl K))], [(d9, .inr (1, [.long x0]))], mmW G mq mz ga mk mx mh mb, gmW G a (zReH h) b]) 7 [1, 2] [0, 3, 4, 5, 6] rfl rfl rfl (by decide))
  refine z_callV (As := []) (rest := [.ref d9]) (wc := txW G t9 z9 n v) (wr := [(o9, .inr (6, [.ref t9, .ref a.1, u2, u3, .ref d9, .ref mq, u6, .ref b9])), (b9, .inl (G.2 2, 2, .inl K)), (d9, .inr (1, [.long x0]))] ++ ((mmW G mq mz ga mk mx mh mb) ++ (gmW G a (zReH h) b))) (w1 := txW G t9 z9 n v) (ws' := [(o9, .inr (6, [.ref t9, .ref a.1, u2, u3, .ref d9, .ref mq, u6, .ref b9])), (t9, .inr (5, [.ref z9, .int (nI n)])), (z9, .inl (G.2 0, 120, .inl v)), (b9, .inl (G.2 2, 2, .inl K)), (d9, .inr (1, [.long x0]))] ++ ((mmW G mq mz ga mk mx mh mb) ++ (gmW G a (zReH h) b))) ⟨hx, hb, hml, hown, hts⟩ (c_txSeed l G t9 z9 n v hu hn ) (cwV 0 hts gX6_load_X5_seed rfl rfl rfl (by decide +kernel) ⟨Nat.le_of_ble_eq_true rfl, Nat.le_of_ble_eq_true rfl⟩) 5 rfl rfl rfl rfl hl.1 rfl (Nat.le_of_ble_eq_true rfl) dX6_load_36 ⟨Nat.le_of_ble_eq_true rfl, Nat.le_of_ble_eq_true rfl⟩ hK hE hA hM hp9 hq9 (fun H locs hM hz => ?_)
  refine z_topi (y := nI (10 * zDn v n 2 + zDn v n 3)) hsd ?_
  refine lv_i2l (v := zTs v n) hx hb dX6_load_39 rfl ?_
  have hp9 : List.Perm ([(o9, .inr (6, [.ref t9, .ref a.1, u2, u3, .ref d9, .ref mq, u6, .ref b9])), (t9, .inr (5, [.ref z9, .int (nI n)])), (z9, .inl (G.2 0, 120, .inl v)), (b9, .inl (G.2 2, 2, .inl K)), (d9, .inr (1, [.long x0]))] ++ ((mmW G mq mz ga mk mx mh mb) ++ (gmW G a (zReH h) b)) : va_W) ((drW d9 x0) ++ ([(o9, .inr (6, [.ref t9, .ref a.1, u2, u3, .ref d9, .ref mq, u6, .ref b9])), (t9, .inr (5, [.ref z9, .int (nI n)])), (z9, .inl (G.2 0, 120, .inl v)), (b9, .inl (G.2 2, 2, .inl K))] ++ ((mmW G mq mz ga mk mx mh mb) ++ (gmW G a (zReH h) b)))) := (pm_cut (cs := [[(o9, .inr (6, [.ref t9, .ref a.1, u2, u3, .ref d9, .ref mq, u6, .ref b9]))], [(t9, .inr (5, [.ref z9, .int (nI n)]))], [(z9, .inl (G.2 0, 120, .inl v))], [(b9, .inl (G.2 2, 2, .inl K))], [(d9, .inr (1, [.long x0]))], mmW G mq mz ga mk mx mh mb, gmW G a (zReH h) b]) (sub := [[(d9, .inr (1, [.long x0]))]]) (rest := [[(o9, .inr (6, [.ref t9, .ref a.1, u2, u3, .ref d9, .ref mq, u6, .ref b9]))], [(t9, .inr (5, [.ref z9, .int (nI n)]))], [(z9, .inl (G.2 0, 120, .inl v))], [(b9, .inl (G.2 2, 2, .inl K))], mmW G mq mz ga mk mx mh mb, gmW G a (zReH h) b]) 7 [4] [0, 1, 2, 3, 5, 6] rfl rfl rfl (by decide))
  have hq9 : List.Perm ((drW d9 (zTs v n)) ++ ([(o9, .inr (6, [.ref t9, .ref a.1, u2, u3, .ref d9, .ref mq, u6, .ref b9])), (t9, .inr (5, [.ref z9, .int (nI n)])), (z9, .inl (G.2 0, 120, .inl v)), (b9, .inl (G.2 2, 2, .inl K))] ++ ((mmW G mq mz ga mk mx mh mb) ++ (gmW G a (zReH h) b)))) ([(o9, .inr (6, [.ref t9, .ref a.1, u2, u3, .ref d9, .ref mq, u6, .ref b9])), (t9, .inr (5, [.ref z9, .int (nI n)])), (z9, .inl (G.2 0, 120, .inl v)), (b9, .inl (G.2 2, 2, .inl K)), (d9, .inr (1, [.long (zTs v n)]))] ++ ((mmW G mq mz ga mk mx mh mb) ++ (gmW G a (zReH h) b)) : va_W) := (pm_put (cs := [[(o9, .inr (6, [.ref t9, .ref a.1, u2, u3, .ref d9, .ref mq, u6, .ref b9]))], [(t9, .inr (5, [.ref z9, .int (nI n)]))], [(z9, .inl (G.2 0, 120, .inl v))], [(b9, .inl (G.2 2, 2, .inl K))], [(d9, .inr (1, [.long (zTs v n)]))], mmW G mq mz ga mk mx mh mb, gmW G a (zReH h) b]) (sub := [[(d9, .inr (1, [.long (zTs v n)]))]]) (rest := [[(o9, .inr (6, [.ref t9, .ref a.1, u2, u3, .ref d9, .ref mq, u6, .ref b9]))], [(t9, .inr (5, [.ref z9, .int (nI n)]))], [(z9, .inl (G.2 0, 120, .inl v))], [(b9, .inl (G.2 2, 2, .inl K))], mmW G mq mz ga mk mx mh mb, gmW G a (zReH h) b]) 7 [4] [0, 1, 2, 3, 5, 6] rfl rfl rfl (by decide))
  refine z_callV (As := [.long (zTs v n)]) (rest := []) (wc := drW d9 x0) (wr := [(o9, .inr (6, [.ref t9, .ref a.1, u2, u3, .ref d9, .ref mq, u6, .ref b9])), (t9, .inr (5, [.ref z9, .int (nI n)])), (z9, .inl (G.2 0, 120, .inl v)), (b9, .inl (G.2 2, 2, .inl K))] ++ ((mmW G mq mz ga mk mx mh mb) ++ (gmW G a (zReH h) b))) (w1 := drW d9 (zTs v n)) (ws' := [(o9, .inr (6, [.ref t9, .ref a.1, u2, u3, .ref d9, .ref mq, u6, .ref b9])), (t9, .inr (5, [.ref z9, .int (nI n)])), (z9, .inl (G.2 0, 120, .inl v)), (b9, .inl (G.2 2, 2, .inl K)), (d9, .inr (1, [.long (zTs v n)]))] ++ ((mmW G mq mz ga mk mx mh mb) ++ (gmW G a (zReH h) b))) ⟨hx, hb, hml, hown, hts⟩ (c_startWith l G d9 x0 (zTs v n)) (cwV 1 hts gX6_load_X1_startWith rfl rfl rfl (by decide +kernel) ⟨Nat.le_of_ble_eq_true rfl, Nat.le_of_ble_eq_true rfl⟩) 1 rfl rfl rfl rfl hl.1 rfl (Nat.le_of_ble_eq_true rfl) dX6_load_40 ⟨Nat.le_of_ble_eq_true rfl, Nat.le_of_ble_eq_true rfl⟩ hK hE hA hM hp9 hq9 (fun H locs hM hz => ?_)
  refine lv_aload_n hx hb dX6_load_43 rfl (lv_at hl 0 rfl) ?_
  refine z_get (ci := 6) (v := .ref a.1) (C := RX6) (T := TX6) (N := 8) hx hb hts (by decide +kernel) hown hK hM 0 rfl rfl 1 (by decide) (hts (.fieldLink RX6 19 "ShiftIsles" "state" "LShiftIsles$Game;") (by decide +kernel)) (fun _ h9 => h9) rfl dX6_load_44 ?_
  refine lv_aload_n hx hb dX6_load_47 rfl (lv_at hl 0 rfl) ?_
  refine z_get (ci := 6) (v := .ref t9) (C := RX6) (T := TX6) (N := 8) hx hb hts (by decide +kernel) hown hK hM 0 rfl rfl 0 (by decide) (hts (.fieldLink RX6 10 "ShiftIsles" "text" "LShiftIsles$Text;") (by decide +kernel)) (fun _ h9 => h9) rfl dX6_load_48 ?_
  have hp9 : List.Perm ([(o9, .inr (6, [.ref t9, .ref a.1, u2, u3, .ref d9, .ref mq, u6, .ref b9])), (t9, .inr (5, [.ref z9, .int (nI n)])), (z9, .inl (G.2 0, 120, .inl v)), (b9, .inl (G.2 2, 2, .inl K)), (d9, .inr (1, [.long (zTs v n)]))] ++ ((mmW G mq mz ga mk mx mh mb) ++ (gmW G a (zReH h) b)) : va_W) ((txW G t9 z9 n v) ++ ([(o9, .inr (6, [.ref t9, .ref a.1, u2, u3, .ref d9, .ref mq, u6, .ref b9])), (b9, .inl (G.2 2, 2, .inl K)), (d9, .inr (1, [.long (zTs v n)]))] ++ ((mmW G mq mz ga mk mx mh mb) ++ (gmW G a (zReH h) b)))) := (pm_cut (cs := [[(o9, .inr (6, [.ref t9, .ref a.1, u2, u3, .ref d9, .ref mq, u6, .ref b9]))], [(t9, .inr (5, [.ref z9, .int (nI n)]))], [(z9, .inl (G.2 0, 120, .inl v))], [(b9, .inl (G.2 2, 2, .inl K))], [(d9, .inr (1, [.long (zTs v n)]))], mmW G mq mz ga mk mx mh mb, gmW G a (zReH h) b]) (sub := [[(t9, .inr (5, [.ref z9, .int (nI n)]))], [(z9, .inl (G.2 0, 120, .inl v))]]) (rest := [[(o9, .inr (6, [.ref t9, .ref a.1, u2, u3, .ref d9, .ref mq, u6, .ref b9]))], [(b9, .inl (G.2 2, 2, .inl K))], [(d9, .inr (1, [.long (zTs v n)]))], mmW G mq mz ga mk mx mh mb, gmW G a (zReH h) b]) 7 [1, 2] [0, 3, 4, 5, 6] rfl rfl rfl (by decide))
  have hq9 : List.Perm ((txW G t9 z9 n v) ++ ([(o9, .inr (6, [.ref t9, .ref a.1, u2, u3, .ref d9, .ref mq, u6, .ref b9])), (b9, .inl (G.2 2, 2, .inl K)), (d9, .inr (1, [.long (zTs v n)]))] ++ ((mmW G mq mz ga mk mx mh mb) ++ (gmW G a (zReH h) b)))) ([(o9, .inr (6, [.ref t9, .ref a.1, u2, u3, .ref d9, .ref mq, u6, .ref b9])), (t9, .inr (5, [.ref z9, .int (nI n)])), (z9, .inl (G.2 0, 120, .inl v)), (b9, .inl (G.2 2, 2, .inl K)), (d9, .inr (1, [.long (zTs v n)]))] ++ ((mmW G mq mz ga mk mx mh mb) ++ (gmW G a (zReH h) b)) : va_W) := (pm_put (cs := [[(o9, .inr (6, [.ref t9, .ref a.1, u2, u3, .ref d9, .ref mq, u6, .ref b9]))], [(t9, .inr (5, [.ref z9, .int (nI n)]))], [(z9, .inl (G.2 0, 120, .inl v))], [(b9, .inl (G.2 2, 2, .inl K))], [(d9, .inr (1, [.long (zTs v n)]))], mmW G mq mz ga mk mx mh mb, gmW G a (zReH h) b]) (sub := [[(t9, .inr (5, [.ref z9, .int (nI n)]))], [(z9, .inl (G.2 0, 120, .inl v))]]) (rest := [[(o9, .inr (6, [.ref t9, .ref a.1, u2, u3, .ref d9, .ref mq, u6, .ref b9]))], [(b9, .inl (G.2 2, 2, .inl K))], [(d9, .inr (1, [.long (zTs v n)]))], mmW G mq mz ga mk mx mh mb, gmW G a (zReH h) b]) 7 [1, 2] [0, 3, 4, 5, 6] rfl rfl rfl (by decide))
  refine z_callV (As := []) (rest := [.ref a.1]) (wc := txW G t9 z9 n v) (wr := [(o9, .inr (6, [.ref t9, .ref a.1, u2, u3, .ref d9, .ref mq, u6, .ref b9])), (b9, .inl (G.2 2, 2, .inl K)), (d9, .inr (1, [.long (zTs v n)]))] ++ ((mmW G mq mz ga mk mx mh mb) ++ (gmW G a (zReH h) b))) (w1 := txW G t9 z9 n v) (ws' := [(o9, .inr (6, [.ref t9, .ref a.1, u2, u3, .ref d9, .ref mq, u6, .ref b9])), (t9, .inr (5, [.ref z9, .int (nI n)])), (z9, .inl (G.2 0, 120, .inl v)), (b9, .inl (G.2 2, 2, .inl K)), (d9, .inr (1, [.long (zTs v n)]))] ++ ((mmW G mq mz ga mk mx mh mb) ++ (gmW G a (zReH h) b))) ⟨hx, hb, hml, hown, hts⟩ (c_txPlayers l G t9 z9 n v hu hn ) (cwV 0 hts gX6_load_X5_players rfl rfl rfl (by decide +kernel) ⟨Nat.le_of_ble_eq_true rfl, Nat.le_of_ble_eq_true rfl⟩) 5 rfl rfl rfl rfl hl.1 rfl (Nat.le_of_ble_eq_true rfl) dX6_load_51 ⟨Nat.le_of_ble_eq_true rfl, Nat.le_of_ble_eq_true rfl⟩ hK hE hA hM hp9 hq9 (fun H locs hM hz => ?_)
  refine z_topi (y := nI (zDn v n 1)) hpl ?_
  refine lv_aload_n hx hb dX6_load_54 rfl (lv_at hl 0 rfl) ?_
  refine z_get (ci := 6) (v := .ref d9) (C := RX6) (T := TX6) (N := 8) hx hb hts (by decide +kernel) hown hK hM 0 rfl rfl 4 (by decide) (hts (.fieldLink RX6 36 "ShiftIsles" "draws" "LShiftIsles$Draws;") (by decide +kernel)) (fun _ h9 => h9) rfl dX6_load_55 ?_
  have hp9 : List.Perm ([(o9, .inr (6, [.ref t9, .ref a.1, u2, u3, .ref d9, .ref mq, u6, .ref b9])), (t9, .inr (5, [.ref z9, .int (nI n)])), (z9, .inl (G.2 0, 120, .inl v)), (b9, .inl (G.2 2, 2, .inl K)), (d9, .inr (1, [.long (zTs v n)]))] ++ ((mmW G mq mz ga mk mx mh mb) ++ (gmW G a (zReH h) b)) : va_W) ((gmW G a (zReH h) b ++ drW d9 (zTs v n)) ++ ([(o9, .inr (6, [.ref t9, .ref a.1, u2, u3, .ref d9, .ref mq, u6, .ref b9])), (t9, .inr (5, [.ref z9, .int (nI n)])), (z9, .inl (G.2 0, 120, .inl v)), (b9, .inl (G.2 2, 2, .inl K))] ++ (mmW G mq mz ga mk mx mh mb))) := (pm_cut (cs := [[(o9, .inr (6, [.ref t9, .ref a.1, u2, u3, .ref d9, .ref mq, u6, .ref b9]))], [(t9, .inr (5, [.ref z9, .int (nI n)]))], [(z9, .inl (G.2 0, 120, .inl v))], [(b9, .inl (G.2 2, 2, .inl K))], [(d9, .inr (1, [.long (zTs v n)]))], mmW G mq mz ga mk mx mh mb, gmW G a (zReH h) b]) (sub := [gmW G a (zReH h) b, [(d9, .inr (1, [.long (zTs v n)]))]]) (rest := [[(o9, .inr (6, [.ref t9, .ref a.1, u2, u3, .ref d9, .ref mq, u6, .ref b9]))], [(t9, .inr (5, [.ref z9, .int (nI n)]))], [(z9, .inl (G.2 0, 120, .inl v))], [(b9, .inl (G.2 2, 2, .inl K))], mmW G mq mz ga mk mx mh mb]) 7 [6, 4] [0, 1, 2, 3, 5] rfl rfl rfl (by decide))
  have hq9 : List.Perm ((gmW G a (zGdH (zReH h) (zDn v n 1)) ((zGd (zDn v n 1) (zTs v n) b).2) ++ drW d9 (zGd (zDn v n 1) (zTs v n) b).1) ++ ([(o9, .inr (6, [.ref t9, .ref a.1, u2, u3, .ref d9, .ref mq, u6, .ref b9])), (t9, .inr (5, [.ref z9, .int (nI n)])), (z9, .inl (G.2 0, 120, .inl v)), (b9, .inl (G.2 2, 2, .inl K))] ++ (mmW G mq mz ga mk mx mh mb))) ([(o9, .inr (6, [.ref t9, .ref a.1, u2, u3, .ref d9, .ref mq, u6, .ref b9])), (t9, .inr (5, [.ref z9, .int (nI n)])), (z9, .inl (G.2 0, 120, .inl v)), (b9, .inl (G.2 2, 2, .inl K)), (d9, .inr (1, [.long ((zGd (zDn v n 1) (zTs v n) b).1)]))] ++ ((mmW G mq mz ga mk mx mh mb) ++ (gmW G a (zGdH (zReH h) (zDn v n 1)) ((zGd (zDn v n 1) (zTs v n) b).2))) : va_W) := (pm_put (cs := [[(o9, .inr (6, [.ref t9, .ref a.1, u2, u3, .ref d9, .ref mq, u6, .ref b9]))], [(t9, .inr (5, [.ref z9, .int (nI n)]))], [(z9, .inl (G.2 0, 120, .inl v))], [(b9, .inl (G.2 2, 2, .inl K))], [(d9, .inr (1, [.long ((zGd (zDn v n 1) (zTs v n) b).1)]))], mmW G mq mz ga mk mx mh mb, gmW G a (zGdH (zReH h) (zDn v n 1)) ((zGd (zDn v n 1) (zTs v n) b).2)]) (sub := [gmW G a (zGdH (zReH h) (zDn v n 1)) ((zGd (zDn v n 1) (zTs v n) b).2), [(d9, .inr (1, [.long ((zGd (zDn v n 1) (zTs v n) b).1)]))]]) (rest := [[(o9, .inr (6, [.ref t9, .ref a.1, u2, u3, .ref d9, .ref mq, u6, .ref b9]))], [(t9, .inr (5, [.ref z9, .int (nI n)]))], [(z9, .inl (G.2 0, 120, .inl v))], [(b9, .inl (G.2 2, 2, .inl K))], mmW G mq mz ga mk mx mh mb]) 7 [6, 4] [0, 1, 2, 3, 5] rfl rfl rfl (by decide))
  refine z_callV (As := [.int (nI (zDn v n 1)), .ref d9]) (rest := []) (wc := gmW G a (zReH h) b ++ drW d9 (zTs v n)) (wr := [(o9, .inr (6, [.ref t9, .ref a.1, u2, u3, .ref d9, .ref mq, u6, .ref b9])), (t9, .inr (5, [.ref z9, .int (nI n)])), (z9, .inl (G.2 0, 120, .inl v)), (b9, .inl (G.2 2, 2, .inl K))] ++ (mmW G mq mz ga mk mx mh mb)) (w1 := gmW G a (zGdH (zReH h) (zDn v n 1)) ((zGd (zDn v n 1) (zTs v n) b).2) ++ drW d9 (zGd (zDn v n 1) (zTs v n) b).1) (ws' := [(o9, .inr (6, [.ref t9, .ref a.1, u2, u3, .ref d9, .ref mq, u6, .ref b9])), (t9, .inr (5, [.ref z9, .int (nI n)])), (z9, .inl (G.2 0, 120, .inl v)), (b9, .inl (G.2 2, 2, .inl K)), (d9, .inr (1, [.long ((zGd (zDn v n 1) (zTs v n) b).1)]))] ++ ((mmW G mq mz ga mk mx mh mb) ++ (gmW G a (zGdH (zReH h) (zDn v n 1)) ((zGd (zDn v n 1) (zTs v n) b).2)))) ⟨hx, hb, hml, hown, hts⟩ (c_gmDeal l G a (zReH h) b d9 (zTs v n) (zDn v n 1) hk4) (cwV 2 hts gX6_load_X2_deal rfl rfl rfl (by decide +kernel) ⟨Nat.le_of_ble_eq_true rfl, Nat.le_of_ble_eq_true rfl⟩) 2 rfl rfl rfl rfl hl.1 rfl (Nat.le_of_ble_eq_true rfl) dX6_load_58 ⟨Nat.le_of_ble_eq_true rfl, Nat.le_of_ble_eq_true rfl⟩ hK hE hA hM hp9 hq9 (fun H locs hM hz => ?_)
  have hM : zM G A s H locs ([(o9, .inr (6, [.ref t9, .ref a.1, u2, u3, .ref d9, .ref mq, u6, .ref b9])), (t9, .inr (5, [.ref z9, .int (nI n)])), (z9, .inl (G.2 0, 120, .inl v)), (b9, .inl (G.2 2, 2, .inl K)), (d9, .inr (1, [.long ((zGd (zDn v n 1) (zTs v n) b).1)]))] ++ ((mmW G mq mz ga mk mx mh mb) ++ (gmW G a (zGdH zClH (zDn v n 1)) ((zGd (zDn v n 1) (zTs v n) b).2)))) := zM_sim (zSim_app (zSim_rf ([(o9, .inr (6, [.ref t9, .ref a.1, u2, u3, .ref d9, .ref mq, u6, .ref b9])), (t9, .inr (5, [.ref z9, .int (nI n)])), (z9, .inl (G.2 0, 120, .inl v)), (b9, .inl (G.2 2, 2, .inl K)), (d9, .inr (1, [.long ((zGd (zDn v n 1) (zTs v n) b).1)]))])) (zSim_app (zSim_rf (mmW G mq mz ga mk mx mh mb)) (gm_fold (H := zGdH zClH (zDn v n 1)) rfl rfl rfl rfl rfl rfl (fun i9 hi9 => zGd_st h (zDn v n 1) hi9)))) hM
  refine lv_iconst (v := nI 0) hx hb dX6_load_61 (by decide) ?_
  refine lv_istore_n (lv' := [(1, .int (nI 0)), (0, .ref o9)]) hx hb dX6_load_62 rfl hl (by decide) rfl (fun ls hl => ?_)
  refine lv_iconst (v := nI 0) hx hb dX6_load_63 (by decide) ?_
  refine lv_istore_n (lv' := [(2, .int (nI 0)), (1, .int (nI 0)), (0, .ref o9)]) hx hb dX6_load_64 rfl hl (by decide) rfl (fun ls hl => ?_)
  have lp65 : ∀ (k : Nat) (i o1 : Nat) (d8 : Int32) (g1 : Nat → Int32) (d1 : Nat → Nat → Int32) (t1 e1 : Nat), (i + k = n) → (zWr v n k i d8 = -1) → (zDr d8) → (zGs g1 d1 (zDn v n 1) t1 4 e1) → ((zIt (zTxS v n) n 0 ((zGdH zClH (zDn v n 1), (zGd (zDn v n 1) (zTs v n) b).2), 0)) = zIt (zTxS v n) k i ((g1, d1), o1)) → ∀ (H : Heap) (locs : List Loc), zM G A s H locs ([(o9, .inr (6, [.ref t9, .ref a.1, u2, u3, .ref d9, .ref mq, u6, .ref b9])), (t9, .inr (5, [.ref z9, .int (nI n)])), (z9, .inl (G.2 0, 120, .inl v)), (b9, .inl (G.2 2, 2, .inl K)), (d9, .inr (1, [.long ((zGd (zDn v n 1) (zTs v n) b).1)]))] ++ ((mmW G mq mz ga mk mx mh mb) ++ (gmW G a g1 d1))) → ∀ ls : Array Slot, lv_has ls 3 [(0, .ref o9), (1, .int (nI o1)), (2, .int (nI i))] → W p l e rmX6_load s m ([.ref o9] : List Value).toArray below meth c H locs 0 0 (zEnd G below ([.ref o9] : List Value).toArray s rmX6_load A (some (.int (nI (zIt (zTxS v n) n 0 ((zGdH zClH (zDn v n 1), (zGd (zDn v n 1) (zTs v n) b).2), 0)).2))) ([(o9, .inr (6, [.ref t9, .ref a.1, u2, u3, .ref d9, .ref mq, u6, .ref b9])), (t9, .inr (5, [.ref z9, .int (nI n)])), (z9, .inl (G.2 0, 120, .inl v)), (b9, .inl (G.2 2, 2, .inl (upd (upd K 0 0) 1 0))), (d9, .inr (1, [.long ((zGd (zDn v n 1) (zTs v n) b).1)]))] ++ ((mmW G mq mz ga 0 mx mh mb) ++ (gmW G a ((zIt (zTxS v n) n 0 ((zGdH zClH (zDn v n 1), (zGd (zDn v n 1) (zTs v n) b).2), 0)).1.1) ((zIt (zTxS v n) n 0 ((zGdH zClH (zDn v n 1), (zGd (zDn v n 1) (zTs v n) b).2), 0)).1.2))))) (F0 m 65 ls []) := by
    intro k
    induction k with
    | zero =>
      intro i o1 d8 g1 d1 t1 e1 hik hW8 hd8 hG1 hR H locs hM ls hl
      refine lv_iload_n hx hb dX6_load_65 rfl (lv_at hl 2 rfl) ?_
      refine lv_aload_n hx hb dX6_load_66 rfl (lv_at hl 0 rfl) ?_
      refine z_get (ci := 6) (v := .ref t9) (C := RX6) (T := TX6) (N := 8) hx hb hts (by decide +kernel) hown hK hM 0 rfl rfl 0 (by decide) (hts (.fieldLink RX6 10 "ShiftIsles" "text" "LShiftIsles$Text;") (by decide +kernel)) (fun _ h9 => h9) rfl dX6_load_67 ?_
      have hp9 : List.Perm ([(o9, .inr (6, [.ref t9, .ref a.1, u2, u3, .ref d9, .ref mq, u6, .ref b9])), (t9, .inr (5, [.ref z9, .int (nI n)])), (z9, .inl (G.2 0, 120, .inl v)), (b9, .inl (G.2 2, 2, .inl K)), (d9, .inr (1, [.long ((zGd (zDn v n 1) (zTs v n) b).1)]))] ++ ((mmW G mq mz ga mk mx mh mb) ++ (gmW G a g1 d1)) : va_W) ((txW G t9 z9 n v) ++ ([(o9, .inr (6, [.ref t9, .ref a.1, u2, u3, .ref d9, .ref mq, u6, .ref b9])), (b9, .inl (G.2 2, 2, .inl K)), (d9, .inr (1, [.long ((zGd (zDn v n 1) (zTs v n) b).1)]))] ++ ((mmW G mq mz ga mk mx mh mb) ++ (gmW G a g1 d1)))) := (pm_cut (cs := [[(o9, .inr (6, [.ref t9, .ref a.1, u2, u3, .ref d9, .ref mq, u6, .ref b9]))], [(t9, .inr (5, [.ref z9, .int (nI n)]))], [(z9, .inl (G.2 0, 120, .inl v))], [(b9, .inl (G.2 2, 2, .inl K))], [(d9, .inr (1, [.long ((zGd (zDn v n 1) (zTs v n) b).1)]))], mmW G mq mz ga mk mx mh mb, gmW G a g1 d1]) (sub := [[(t9, .inr (5, [.ref z9, .int (nI n)]))], [(z9, .inl (G.2 0, 120, .inl v))]]) (rest := [[(o9, .inr (6, [.ref t9, .ref a.1, u2, u3, .ref d9, .ref mq, u6, .ref b9]))], [(b9, .inl (G.2 2, 2, .inl K))], [(d9, .inr (1, [.long ((zGd (zDn v n 1) (zTs v n) b).1)]))], mmW G mq mz ga mk mx mh mb, gmW G a g1 d1]) 7 [1, 2] [0, 3, 4, 5, 6] rfl rfl rfl (by decide))
      have hq9 : List.Perm ((txW G t9 z9 n v) ++ ([(o9, .inr (6, [.ref t9, .ref a.1, u2, u3, .ref d9, .ref mq, u6, .ref b9])), (b9, .inl (G.2 2, 2, .inl K)), (d9, .inr (1, [.long ((zGd (zDn v n 1) (zTs v n) b).1)]))] ++ ((mmW G mq mz ga mk mx mh mb) ++ (gmW G a g1 d1)))) ([(o9, .inr (6, [.ref t9, .ref a.1, u2, u3, .ref d9, .ref mq, u6, .ref b9])), (t9, .inr (5, [.ref z9, .int (nI n)])), (z9, .inl (G.2 0, 120, .inl v)), (b9, .inl (G.2 2, 2, .inl K)), (d9, .inr (1, [.long ((zGd (zDn v n 1) (zTs v n) b).1)]))] ++ ((mmW G mq mz ga mk mx mh mb) ++ (gmW G a g1 d1)) : va_W) := (pm_put (cs := [[(o9, .inr (6, [.ref t9, .ref a.1, u2, u3, .ref d9, .ref mq, u6, .ref b9]))], [(t9, .inr (5, [.ref z9, .int (nI n)]))], [(z9, .inl (G.2 0, 120, .inl v))], [(b9, .inl (G.2 2, 2, .inl K))], [(d9, .inr (1, [.long ((zGd (zDn v n 1) (zTs v n) b).1)]))], mmW G mq mz ga mk mx mh mb, gmW G a g1 d1]) (sub := [[(t9, .inr (5, [.ref z9, .int (nI n)]))], [(z9, .inl (G.2 0, 120, .inl v))]]) (rest := [[(o9, .inr (6, [.ref t9, .ref a.1, u2, u3, .ref d9, .ref mq, u6, .ref b9]))], [(b9, .inl (G.2 2, 2, .inl K))], [(d9, .inr (1, [.long ((zGd (zDn v n 1) (zTs v n) b).1)]))], mmW G mq mz ga mk mx mh mb, gmW G a g1 d1]) 7 [1, 2] [0, 3, 4, 5, 6] rfl rfl rfl (by decide))
      refine z_callV (As := []) (rest := [.int (nI i)]) (wc := txW G t9 z9 n v) (wr := [(o9, .inr (6, [.ref t9, .ref a.1, u2, u3, .ref d9, .ref mq, u6, .ref b9])), (b9, .inl (G.2 2, 2, .inl K)), (d9, .inr (1, [.long ((zGd (zDn v n 1) (zTs v n) b).1)]))] ++ ((mmW G mq mz ga mk mx mh mb) ++ (gmW G a g1 d1))) (w1 := txW G t9 z9 n v) (ws' := [(o9, .inr (6, [.ref t9, .ref a.1, u2, u3, .ref d9, .ref mq, u6, .ref b9])), (t9, .inr (5, [.ref z9, .int (nI n)])), (z9, .inl (G.2 0, 120, .inl v)), (b9, .inl (G.2 2, 2, .inl K)), (d9, .inr (1, [.long ((zGd (zDn v n 1) (zTs v n) b).1)]))] ++ ((mmW G mq mz ga mk mx mh mb) ++ (gmW G a g1 d1))) ⟨hx, hb, hml, hown, hts⟩ (c_txLen l G t9 z9 n v  ) (cwV 0 hts gX6_load_X5_length rfl rfl rfl (by decide +kernel) ⟨Nat.le_of_ble_eq_true rfl, Nat.le_of_ble_eq_true rfl⟩) 5 rfl rfl rfl rfl hl.1 rfl (Nat.le_of_ble_eq_true rfl) dX6_load_70 ⟨Nat.le_of_ble_eq_true rfl, Nat.le_of_ble_eq_true rfl⟩ hK hE hA hM hp9 hq9 (fun H locs hM hz => ?_)
      refine lv_icmp_ge (tgt := 104) hx hb dX6_load_73 (by decide) (fun c_2 => ?_) (fun c_2 => absurd (nI_le (by omega) (by omega)) c_2)
      have hZ : (zIt (zTxS v n) n 0 ((zGdH zClH (zDn v n 1), (zGd (zDn v n 1) (zTs v n) b).2), 0)) = ((g1, d1), o1) := hR
      refine lv_aload_n hx hb dX6_load_104 rfl (lv_at hl 0 rfl) ?_
      refine z_get (ci := 6) (v := .ref mq) (C := RX6) (T := TX6) (N := 8) hx hb hts (by decide +kernel) hown hK hM 0 rfl rfl 5 (by decide) (hts (.fieldLink RX6 43 "ShiftIsles" "memory" "LShiftIsles$Memory;") (by decide +kernel)) (fun _ h9 => h9) rfl dX6_load_105 ?_
      have hp9 : List.Perm ([(o9, .inr (6, [.ref t9, .ref a.1, u2, u3, .ref d9, .ref mq, u6, .ref b9])), (t9, .inr (5, [.ref z9, .int (nI n)])), (z9, .inl (G.2 0, 120, .inl v)), (b9, .inl (G.2 2, 2, .inl K)), (d9, .inr (1, [.long ((zGd (zDn v n 1) (zTs v n) b).1)]))] ++ ((mmW G mq mz ga mk mx mh mb) ++ (gmW G a g1 d1)) : va_W) ((mmW G mq mz ga mk mx mh mb) ++ ([(o9, .inr (6, [.ref t9, .ref a.1, u2, u3, .ref d9, .ref mq, u6, .ref b9])), (t9, .inr (5, [.ref z9, .int (nI n)])), (z9, .inl (G.2 0, 120, .inl v)), (b9, .inl (G.2 2, 2, .inl K)), (d9, .inr (1, [.long ((zGd (zDn v n 1) (zTs v n) b).1)]))] ++ (gmW G a g1 d1))) := (pm_cut (cs := [[(o9, .inr (6, [.ref t9, .ref a.1, u2, u3, .ref d9, .ref mq, u6, .ref b9]))], [(t9, .inr (5, [.ref z9, .int (nI n)]))], [(z9, .inl (G.2 0, 120, .inl v))], [(b9, .inl (G.2 2, 2, .inl K))], [(d9, .inr (1, [.long ((zGd (zDn v n 1) (zTs v n) b).1)]))], mmW G mq mz ga mk mx mh mb, gmW G a g1 d1]) (sub := [mmW G mq mz ga mk mx mh mb]) (rest := [[(o9, .inr (6, [.ref t9, .ref a.1, u2, u3, .ref d9, .ref mq, u6, .ref b9]))], [(t9, .inr (5, [.ref z9, .int (nI n)]))], [(z9, .inl (G.2 0, 120, .inl v))], [(b9, .inl (G.2 2, 2, .inl K))], [(d9, .inr (1, [.long ((zGd (zDn v n 1) (zTs v n) b).1)]))], gmW G a g1 d1]) 7 [5] [0, 1, 2, 3, 4, 6] rfl rfl rfl (by decide))
      have hq9 : List.Perm ((mmW G mq mz ga 0 mx mh mb) ++ ([(o9, .inr (6, [.ref t9, .ref a.1, u2, u3, .ref d9, .ref mq, u6, .ref b9])), (t9, .inr (5, [.ref z9, .int (nI n)])), (z9, .inl (G.2 0, 120, .inl v)), (b9, .inl (G.2 2, 2, .inl K)), (d9, .inr (1, [.long ((zGd (zDn v n 1) (zTs v n) b).1)]))] ++ (gmW G a g1 d1))) ([(o9, .inr (6, [.ref t9, .ref a.1, u2, u3, .ref d9, .ref mq, u6, .ref b9])), (t9, .inr (5, [.ref z9, .int (nI n)])), (z9, .inl (G.2 0, 120, .inl v)), (b9, .inl (G.2 2, 2, .inl K)), (d9, .inr (1, [.long ((zGd (zDn v n 1) (zTs v n) b).1)]))] ++ ((mmW G mq mz ga 0 mx mh mb) ++ (gmW G a g1 d1)) : va_W) := (pm_put (cs := [[(o9, .inr (6, [.ref t9, .ref a.1, u2, u3, .ref d9, .ref mq, u6, .ref b9]))], [(t9, .inr (5, [.ref z9, .int (nI n)]))], [(z9, .inl (G.2 0, 120, .inl v))], [(b9, .inl (G.2 2, 2, .inl K))], [(d9, .inr (1, [.long ((zGd (zDn v n 1) (zTs v n) b).1)]))], mmW G mq mz ga 0 mx mh mb, gmW G a g1 d1]) (sub := [mmW G mq mz ga 0 mx mh mb]) (rest := [[(o9, .inr (6, [.ref t9, .ref a.1, u2, u3, .ref d9, .ref mq, u6, .ref b9]))], [(t9, .inr (5, [.ref z9, .int (nI n)]))], [(z9, .inl (G.2 0, 120, .inl v))], [(b9, .inl (G.2 2, 2, .inl K))], [(d9, .inr (1, [.long ((zGd (zDn v n 1) (zTs v n) b).1)]))], gmW G a g1 d1]) 7 [5] [0, 1, 2, 3, 4, 6] rfl rfl rfl (by decide))
      refine z_callV (As := []) (rest := []) (wc := mmW G mq mz ga mk mx mh mb) (wr := [(o9, .inr (6, [.ref t9, .ref a.1, u2, u3, .ref d9, .ref mq, u6, .ref b9])), (t9, .inr (5, [.ref z9, .int (nI n)])), (z9, .inl (G.2 0, 120, .inl v)), (b9, .inl (G.2 2, 2, .inl K)), (d9, .inr (1, [.long ((zGd (zDn v n 1) (zTs v n) b).1)]))] ++ (gmW G a g1 d1)) (w1 := mmW G mq mz ga 0 mx mh mb) (ws' := [(o9, .inr (6, [.ref t9, .ref a.1, u2, u3, .ref d9, .ref mq, u6, .ref b9])), (t9, .inr (5, [.ref z9, .int (nI n)])), (z9, .inl (G.2 0, 120, .inl v)), (b9, .inl (G.2 2, 2, .inl K)), (d9, .inr (1, [.long ((zGd (zDn v n 1) (zTs v n) b).1)]))] ++ ((mmW G mq mz ga 0 mx mh mb) ++ (gmW G a g1 d1))) ⟨hx, hb, hml, hown, hts⟩ (c_mmForget l G mq mz ga mk mx mh mb) (cwV 0 hts gX6_load_X3_forget rfl rfl rfl (by decide +kernel) ⟨Nat.le_of_ble_eq_true rfl, Nat.le_of_ble_eq_true rfl⟩) 3 rfl rfl rfl rfl hl.1 rfl (Nat.le_of_ble_eq_true rfl) dX6_load_108 ⟨Nat.le_of_ble_eq_true rfl, Nat.le_of_ble_eq_true rfl⟩ hK hE hA hM hp9 hq9 (fun H locs hM hz => ?_)
      refine lv_iconst (v := nI 0) hx hb dX6_load_111 (by decide) ?_
      refine lv_istore_n (lv' := [(2, .int (nI 0)), (0, .ref o9), (1, .int (nI o1))]) hx hb dX6_load_112 rfl hl (by decide) rfl (fun ls hl => ?_)
      refine lv_iload_n hx hb dX6_load_113 rfl (lv_at hl 0 rfl) ?_
      refine lv_iconst (v := 2) hx hb dX6_load_114 (by decide) ?_
      refine z_topi (y := nI 2) rfl ?_
      refine lv_icmp_ge (tgt := 131) hx hb dX6_load_115 (by decide) (fun c_3 => absurd c_3 (nI_ge (by omega) (by decide))) (fun c_3 => ?_)
      refine lv_aload_n hx hb dX6_load_118 rfl (lv_at hl 1 rfl) ?_
      refine z_get (ci := 6) (v := .ref b9) (C := RX6) (T := TX6) (N := 8) hx hb hts (by decide +kernel) hown hK hM 0 rfl rfl 7 (by decide) (hts (.fieldLink RX6 51 "ShiftIsles" "saved" "[Z") (by decide +kernel)) (fun _ h9 => h9) rfl dX6_load_119 ?_
      refine lv_iload_n hx hb dX6_load_122 rfl (lv_at hl 0 rfl) ?_
      refine lv_iconst (v := 0) hx hb dX6_load_123 (by decide) ?_
      refine z_zast (ws' := [(o9, .inr (6, [.ref t9, .ref a.1, u2, u3, .ref d9, .ref mq, u6, .ref b9])), (t9, .inr (5, [.ref z9, .int (nI n)])), (z9, .inl (G.2 0, 120, .inl v)), (b9, .inl (G.2 2, 2, .inl (upd K 0 0))), (d9, .inr (1, [.long ((zGd (zDn v n 1) (zTs v n) b).1)]))] ++ ((mmW G mq mz ga 0 mx mh mb) ++ (gmW G a g1 d1))) hx hb hK hM 3 rfl (vp_in_nI (by omega) (by decide)) dX6_load_124 (by rw [nI_clamp (by omega)]; rfl) (fun H locs hM => ?_)
      refine lv_iinc (v := nI (0 + 1)) (lv' := [(2, .int (nI (0 + 1))), (0, .ref o9), (1, .int (nI o1))]) hx hb dX6_load_125 hl (k := 0) rfl (nI_1 0) (by decide) rfl (fun ls hl => ?_)
      refine lv_goto (tgt := 113) hx hb dX6_load_128 (by decide) ?_
      refine lv_iload_n hx hb dX6_load_113 rfl (lv_at hl 0 rfl) ?_
      refine lv_iconst (v := 2) hx hb dX6_load_114 (by decide) ?_
      refine z_topi (y := nI 2) rfl ?_
      refine lv_icmp_ge (tgt := 131) hx hb dX6_load_115 (by decide) (fun c_4 => absurd c_4 (nI_ge (by omega) (by decide))) (fun c_4 => ?_)
      refine lv_aload_n hx hb dX6_load_118 rfl (lv_at hl 1 rfl) ?_
      refine z_get (ci := 6) (v := .ref b9) (C := RX6) (T := TX6) (N := 8) hx hb hts (by decide +kernel) hown hK hM 0 rfl rfl 7 (by decide) (hts (.fieldLink RX6 51 "ShiftIsles" "saved" "[Z") (by decide +kernel)) (fun _ h9 => h9) rfl dX6_load_119 ?_
      refine lv_iload_n hx hb dX6_load_122 rfl (lv_at hl 0 rfl) ?_
      refine lv_iconst (v := 0) hx hb dX6_load_123 (by decide) ?_
      refine z_zast (ws' := [(o9, .inr (6, [.ref t9, .ref a.1, u2, u3, .ref d9, .ref mq, u6, .ref b9])), (t9, .inr (5, [.ref z9, .int (nI n)])), (z9, .inl (G.2 0, 120, .inl v)), (b9, .inl (G.2 2, 2, .inl (upd (upd K 0 0) (0 + 1) 0))), (d9, .inr (1, [.long ((zGd (zDn v n 1) (zTs v n) b).1)]))] ++ ((mmW G mq mz ga 0 mx mh mb) ++ (gmW G a g1 d1))) hx hb hK hM 3 rfl (vp_in_nI (by omega) (by decide)) dX6_load_124 (by rw [nI_clamp (by omega)]; rfl) (fun H locs hM => ?_)
      refine lv_iinc (v := nI ((0 + 1) + 1)) (lv' := [(2, .int (nI ((0 + 1) + 1))), (0, .ref o9), (1, .int (nI o1))]) hx hb dX6_load_125 hl (k := 0) rfl (nI_1 (0 + 1)) (by decide) rfl (fun ls hl => ?_)
      refine lv_goto (tgt := 113) hx hb dX6_load_128 (by decide) ?_
      refine lv_iload_n hx hb dX6_load_113 rfl (lv_at hl 0 rfl) ?_
      refine lv_iconst (v := 2) hx hb dX6_load_114 (by decide) ?_
      refine z_topi (y := nI 2) rfl ?_
      refine lv_icmp_ge (tgt := 131) hx hb dX6_load_115 (by decide) (fun c_5 => ?_) (fun c_5 => absurd (nI_le (by omega) (by decide)) c_5)
      refine lv_iload_n hx hb dX6_load_131 rfl (lv_at hl 2 rfl) ?_
      exact z_iret hx hb hr hlocks dX6_load_132 (by rw [hZ]; exact hM) (Nat.le_of_ble_eq_true rfl) (Nat.le_of_ble_eq_true rfl) (by rw [hZ])
    | succ k ih =>
      intro i o1 d8 g1 d1 t1 e1 hik hW8 hd8 hG1 hR H locs hM ls hl
      refine lv_iload_n hx hb dX6_load_65 rfl (lv_at hl 2 rfl) ?_
      refine lv_aload_n hx hb dX6_load_66 rfl (lv_at hl 0 rfl) ?_
      refine z_get (ci := 6) (v := .ref t9) (C := RX6) (T := TX6) (N := 8) hx hb hts (by decide +kernel) hown hK hM 0 rfl rfl 0 (by decide) (hts (.fieldLink RX6 10 "ShiftIsles" "text" "LShiftIsles$Text;") (by decide +kernel)) (fun _ h9 => h9) rfl dX6_load_67 ?_
      have hp9 : List.Perm ([(o9, .inr (6, [.ref t9, .ref a.1, u2, u3, .ref d9, .ref mq, u6, .ref b9])), (t9, .inr (5, [.ref z9, .int (nI n)])), (z9, .inl (G.2 0, 120, .inl v)), (b9, .inl (G.2 2, 2, .inl K)), (d9, .inr (1, [.long ((zGd (zDn v n 1) (zTs v n) b).1)]))] ++ ((mmW G mq mz ga mk mx mh mb) ++ (gmW G a g1 d1)) : va_W) ((txW G t9 z9 n v) ++ ([(o9, .inr (6, [.ref t9, .ref a.1, u2, u3, .ref d9, .ref mq, u6, .ref b9])), (b9, .inl (G.2 2, 2, .inl K)), (d9, .inr (1, [.long ((zGd (zDn v n 1) (zTs v n) b).1)]))] ++ ((mmW G mq mz ga mk mx mh mb) ++ (gmW G a g1 d1)))) := (pm_cut (cs := [[(o9, .inr (6, [.ref t9, .ref a.1, u2, u3, .ref d9, .ref mq, u6, .ref b9]))], [(t9, .inr (5, [.ref z9, .int (nI n)]))], [(z9, .inl (G.2 0, 120, .inl v))], [(b9, .inl (G.2 2, 2, .inl K))], [(d9, .inr (1, [.long ((zGd (zDn v n 1) (zTs v n) b).1)]))], mmW G mq mz ga mk mx mh mb, gmW G a g1 d1]) (sub := [[(t9, .inr (5, [.ref z9, .int (nI n)]))], [(z9, .inl (G.2 0, 120, .inl v))]]) (rest := [[(o9, .inr (6, [.ref t9, .ref a.1, u2, u3, .ref d9, .ref mq, u6, .ref b9]))], [(b9, .inl (G.2 2, 2, .inl K))], [(d9, .inr (1, [.long ((zGd (zDn v n 1) (zTs v n) b).1)]))], mmW G mq mz ga mk mx mh mb, gmW G a g1 d1]) 7 [1, 2] [0, 3, 4, 5, 6] rfl rfl rfl (by decide))
      have hq9 : List.Perm ((txW G t9 z9 n v) ++ ([(o9, .inr (6, [.ref t9, .ref a.1, u2, u3, .ref d9, .ref mq, u6, .ref b9])), (b9, .inl (G.2 2, 2, .inl K)), (d9, .inr (1, [.long ((zGd (zDn v n 1) (zTs v n) b).1)]))] ++ ((mmW G mq mz ga mk mx mh mb) ++ (gmW G a g1 d1)))) ([(o9, .inr (6, [.ref t9, .ref a.1, u2, u3, .ref d9, .ref mq, u6, .ref b9])), (t9, .inr (5, [.ref z9, .int (nI n)])), (z9, .inl (G.2 0, 120, .inl v)), (b9, .inl (G.2 2, 2, .inl K)), (d9, .inr (1, [.long ((zGd (zDn v n 1) (zTs v n) b).1)]))] ++ ((mmW G mq mz ga mk mx mh mb) ++ (gmW G a g1 d1)) : va_W) := (pm_put (cs := [[(o9, .inr (6, [.ref t9, .ref a.1, u2, u3, .ref d9, .ref mq, u6, .ref b9]))], [(t9, .inr (5, [.ref z9, .int (nI n)]))], [(z9, .inl (G.2 0, 120, .inl v))], [(b9, .inl (G.2 2, 2, .inl K))], [(d9, .inr (1, [.long ((zGd (zDn v n 1) (zTs v n) b).1)]))], mmW G mq mz ga mk mx mh mb, gmW G a g1 d1]) (sub := [[(t9, .inr (5, [.ref z9, .int (nI n)]))], [(z9, .inl (G.2 0, 120, .inl v))]]) (rest := [[(o9, .inr (6, [.ref t9, .ref a.1, u2, u3, .ref d9, .ref mq, u6, .ref b9]))], [(b9, .inl (G.2 2, 2, .inl K))], [(d9, .inr (1, [.long ((zGd (zDn v n 1) (zTs v n) b).1)]))], mmW G mq mz ga mk mx mh mb, gmW G a g1 d1]) 7 [1, 2] [0, 3, 4, 5, 6] rfl rfl rfl (by decide))
      refine z_callV (As := []) (rest := [.int (nI i)]) (wc := txW G t9 z9 n v) (wr := [(o9, .inr (6, [.ref t9, .ref a.1, u2, u3, .ref d9, .ref mq, u6, .ref b9])), (b9, .inl (G.2 2, 2, .inl K)), (d9, .inr (1, [.long ((zGd (zDn v n 1) (zTs v n) b).1)]))] ++ ((mmW G mq mz ga mk mx mh mb) ++ (gmW G a g1 d1))) (w1 := txW G t9 z9 n v) (ws' := [(o9, .inr (6, [.ref t9, .ref a.1, u2, u3, .ref d9, .ref mq, u6, .ref b9])), (t9, .inr (5, [.ref z9, .int (nI n)])), (z9, .inl (G.2 0, 120, .inl v)), (b9, .inl (G.2 2, 2, .inl K)), (d9, .inr (1, [.long ((zGd (zDn v n 1) (zTs v n) b).1)]))] ++ ((mmW G mq mz ga mk mx mh mb) ++ (gmW G a g1 d1))) ⟨hx, hb, hml, hown, hts⟩ (c_txLen l G t9 z9 n v  ) (cwV 0 hts gX6_load_X5_length rfl rfl rfl (by decide +kernel) ⟨Nat.le_of_ble_eq_true rfl, Nat.le_of_ble_eq_true rfl⟩) 5 rfl rfl rfl rfl hl.1 rfl (Nat.le_of_ble_eq_true rfl) dX6_load_70 ⟨Nat.le_of_ble_eq_true rfl, Nat.le_of_ble_eq_true rfl⟩ hK hE hA hM hp9 hq9 (fun H locs hM hz => ?_)
      refine lv_icmp_ge (tgt := 104) hx hb dX6_load_73 (by decide) (fun c_6 => absurd c_6 (nI_ge (by omega) (by omega))) (fun c_6 => ?_)
      refine lv_aload_n hx hb dX6_load_76 rfl (lv_at hl 0 rfl) ?_
      refine z_get (ci := 6) (v := .ref t9) (C := RX6) (T := TX6) (N := 8) hx hb hts (by decide +kernel) hown hK hM 0 rfl rfl 0 (by decide) (hts (.fieldLink RX6 10 "ShiftIsles" "text" "LShiftIsles$Text;") (by decide +kernel)) (fun _ h9 => h9) rfl dX6_load_77 ?_
      refine lv_iload_n hx hb dX6_load_80 rfl (lv_at hl 2 rfl) ?_
      have hp9 : List.Perm ([(o9, .inr (6, [.ref t9, .ref a.1, u2, u3, .ref d9, .ref mq, u6, .ref b9])), (t9, .inr (5, [.ref z9, .int (nI n)])), (z9, .inl (G.2 0, 120, .inl v)), (b9, .inl (G.2 2, 2, .inl K)), (d9, .inr (1, [.long ((zGd (zDn v n 1) (zTs v n) b).1)]))] ++ ((mmW G mq mz ga mk mx mh mb) ++ (gmW G a g1 d1)) : va_W) ((txW G t9 z9 n v) ++ ([(o9, .inr (6, [.ref t9, .ref a.1, u2, u3, .ref d9, .ref mq, u6, .ref b9])), (b9, .inl (G.2 2, 2, .inl K)), (d9, .inr (1, [.long ((zGd (zDn v n 1) (zTs v n) b).1)]))] ++ ((mmW G mq mz ga mk mx mh mb) ++ (gmW G a g1 d1)))) := (pm_cut (cs := [[(o9, .inr (6, [.ref t9, .ref a.1, u2, u3, .ref d9, .ref mq, u6, .ref b9]))], [(t9, .inr (5, [.ref z9, .int (nI n)]))], [(z9, .inl (G.2 0, 120, .inl v))], [(b9, .inl (G.2 2, 2, .inl K))], [(d9, .inr (1, [.long ((zGd (zDn v n 1) (zTs v n) b).1)]))], mmW G mq mz ga mk mx mh mb, gmW G a g1 d1]) (sub := [[(t9, .inr (5, [.ref z9, .int (nI n)]))], [(z9, .inl (G.2 0, 120, .inl v))]]) (rest := [[(o9, .inr (6, [.ref t9, .ref a.1, u2, u3, .ref d9, .ref mq, u6, .ref b9]))], [(b9, .inl (G.2 2, 2, .inl K))], [(d9, .inr (1, [.long ((zGd (zDn v n 1) (zTs v n) b).1)]))], mmW G mq mz ga mk mx mh mb, gmW G a g1 d1]) 7 [1, 2] [0, 3, 4, 5, 6] rfl rfl rfl (by decide))
      have hq9 : List.Perm ((txW G t9 z9 n v) ++ ([(o9, .inr (6, [.ref t9, .ref a.1, u2, u3, .ref d9, .ref mq, u6, .ref b9])), (b9, .inl (G.2 2, 2, .inl K)), (d9, .inr (1, [.long ((zGd (zDn v n 1) (zTs v n) b).1)]))] ++ ((mmW G mq mz ga mk mx mh mb) ++ (gmW G a g1 d1)))) ([(o9, .inr (6, [.ref t9, .ref a.1, u2, u3, .ref d9, .ref mq, u6, .ref b9])), (t9, .inr (5, [.ref z9, .int (nI n)])), (z9, .inl (G.2 0, 120, .inl v)), (b9, .inl (G.2 2, 2, .inl K)), (d9, .inr (1, [.long ((zGd (zDn v n 1) (zTs v n) b).1)]))] ++ ((mmW G mq mz ga mk mx mh mb) ++ (gmW G a g1 d1)) : va_W) := (pm_put (cs := [[(o9, .inr (6, [.ref t9, .ref a.1, u2, u3, .ref d9, .ref mq, u6, .ref b9]))], [(t9, .inr (5, [.ref z9, .int (nI n)]))], [(z9, .inl (G.2 0, 120, .inl v))], [(b9, .inl (G.2 2, 2, .inl K))], [(d9, .inr (1, [.long ((zGd (zDn v n 1) (zTs v n) b).1)]))], mmW G mq mz ga mk mx mh mb, gmW G a g1 d1]) (sub := [[(t9, .inr (5, [.ref z9, .int (nI n)]))], [(z9, .inl (G.2 0, 120, .inl v))]]) (rest := [[(o9, .inr (6, [.ref t9, .ref a.1, u2, u3, .ref d9, .ref mq, u6, .ref b9]))], [(b9, .inl (G.2 2, 2, .inl K))], [(d9, .inr (1, [.long ((zGd (zDn v n 1) (zTs v n) b).1)]))], mmW G mq mz ga mk mx mh mb, gmW G a g1 d1]) 7 [1, 2] [0, 3, 4, 5, 6] rfl rfl rfl (by decide))
      refine z_callV (As := [.int (nI i)]) (rest := []) (wc := txW G t9 z9 n v) (wr := [(o9, .inr (6, [.ref t9, .ref a.1, u2, u3, .ref d9, .ref mq, u6, .ref b9])), (b9, .inl (G.2 2, 2, .inl K)), (d9, .inr (1, [.long ((zGd (zDn v n 1) (zTs v n) b).1)]))] ++ ((mmW G mq mz ga mk mx mh mb) ++ (gmW G a g1 d1))) (w1 := txW G t9 z9 n v) (ws' := [(o9, .inr (6, [.ref t9, .ref a.1, u2, u3, .ref d9, .ref mq, u6, .ref b9])), (t9, .inr (5, [.ref z9, .int (nI n)])), (z9, .inl (G.2 0, 120, .inl v)), (b9, .inl (G.2 2, 2, .inl K)), (d9, .inr (1, [.long ((zGd (zDn v n 1) (zTs v n) b).1)]))] ++ ((mmW G mq mz ga mk mx mh mb) ++ (gmW G a g1 d1))) ⟨hx, hb, hml, hown, hts⟩ (c_isMoveAt l G t9 z9 n v i (by omega) hu hn ) (cwV 1 hts gX6_load_X5_isMoveAt rfl rfl rfl (by decide +kernel) ⟨Nat.le_of_ble_eq_true rfl, Nat.le_of_ble_eq_true rfl⟩) 5 rfl rfl rfl rfl hl.1 rfl (Nat.le_of_ble_eq_true rfl) dX6_load_81 ⟨Nat.le_of_ble_eq_true rfl, Nat.le_of_ble_eq_true rfl⟩ hK hE hA hM hp9 hq9 (fun H locs hM hz => ?_)
      refine z_ifeq (tgt := 98) hx hb dX6_load_84 (by decide) (fun c_m => ?_) (fun c_m => ?_)
      · skip
        refine lv_iinc (v := nI (i + 1)) (lv' := [(2, .int (nI (i + 1))), (0, .ref o9), (1, .int (nI o1))]) hx hb dX6_load_98 hl (k := 2) rfl (nI_1 i) (by decide) rfl (fun ls hl => ?_)
        refine lv_goto (tgt := 65) hx hb dX6_load_101 (by decide) ?_
        have hw2 := zWr_st (by omega) hW8
        have hR2 : (zIt (zTxS v n) n 0 ((zGdH zClH (zDn v n 1), (zGd (zDn v n 1) (zTs v n) b).2), 0)) = zIt (zTxS v n) k (i + 1) ((g1, d1), o1) := hR.trans ((zIt_s (zTxS v n) k i ((g1, d1), o1)).trans (congrArg (zIt (zTxS v n) k (i + 1)) (zTxS_no (zIm_n c_m))))
        exact ih (i + 1) o1 (zDu d8 (zSa v n i)) g1 d1 t1 e1 (by omega) hw2.2 (zDu_r hw2.1 hd8) hG1 hR2 _ _ hM _ (lv_sub hl [1, 2, 0] rfl)
      · skip
        have hin9 : i < n := by omega
        have hrd := zRd_of hu hn hin9 hd8 c_m (by rw [show n - i = k + 1 by omega]; exact hW8)
        obtain ⟨h2, b2, o2, t2, e2, emx, hG2⟩ := zTx_gs (o := o1) hu hn hin9 hrd hG1
        have hbt := zTx_bt v n i (g1, d1) o1
        have eT : zTxT v n i (g1, d1) = (h2, b2) := congrArg Prod.fst (hbt.symm.trans emx)
        have eo : (if zTxB v n i (g1, d1) = true then o1 else o1 + 1) = o2 := congrArg Prod.snd (hbt.symm.trans emx)
        refine lv_aload_n hx hb dX6_load_87 rfl (lv_at hl 0 rfl) ?_
        refine lv_iload_n hx hb dX6_load_88 rfl (lv_at hl 2 rfl) ?_
        have hp9 : List.Perm ([(o9, .inr (6, [.ref t9, .ref a.1, u2, u3, .ref d9, .ref mq, u6, .ref b9])), (t9, .inr (5, [.ref z9, .int (nI n)])), (z9, .inl (G.2 0, 120, .inl v)), (b9, .inl (G.2 2, 2, .inl K)), (d9, .inr (1, [.long ((zGd (zDn v n 1) (zTs v n) b).1)]))] ++ ((mmW G mq mz ga mk mx mh mb) ++ (gmW G a g1 d1)) : va_W) (([(o9, .inr (6, [.ref t9, .ref a.1, u2, u3, .ref d9, .ref mq, u6, .ref b9])), (t9, .inr (5, [.ref z9, .int (nI n)])), (z9, .inl (G.2 0, 120, .inl v))] ++ gmW G a g1 d1) ++ ([(b9, .inl (G.2 2, 2, .inl K)), (d9, .inr (1, [.long ((zGd (zDn v n 1) (zTs v n) b).1)]))] ++ (mmW G mq mz ga mk mx mh mb))) := (pm_cut (cs := [[(o9, .inr (6, [.ref t9, .ref a.1, u2, u3, .ref d9, .ref mq, u6, .ref b9]))], [(t9, .inr (5, [.ref z9, .int (nI n)]))], [(z9, .inl (G.2 0, 120, .inl v))], [(b9, .inl (G.2 2, 2, .inl K))], [(d9, .inr (1, [.long ((zGd (zDn v n 1) (zTs v n) b).1)]))], mmW G mq mz ga mk mx mh mb, gmW G a g1 d1]) (sub := [[(o9, .inr (6, [.ref t9, .ref a.1, u2, u3, .ref d9, .ref mq, u6, .ref b9]))], [(t9, .inr (5, [.ref z9, .int (nI n)]))], [(z9, .inl (G.2 0, 120, .inl v))], gmW G a g1 d1]) (rest := [[(b9, .inl (G.2 2, 2, .inl K))], [(d9, .inr (1, [.long ((zGd (zDn v n 1) (zTs v n) b).1)]))], mmW G mq mz ga mk mx mh mb]) 7 [0, 1, 2, 6] [3, 4, 5] rfl rfl rfl (by decide))
        have hq9 : List.Perm (([(o9, .inr (6, [.ref t9, .ref a.1, u2, u3, .ref d9, .ref mq, u6, .ref b9])), (t9, .inr (5, [.ref z9, .int (nI n)])), (z9, .inl (G.2 0, 120, .inl v))] ++ gmW G a ((zTxT v n i (g1, d1)).1) ((zTxT v n i (g1, d1)).2)) ++ ([(b9, .inl (G.2 2, 2, .inl K)), (d9, .inr (1, [.long ((zGd (zDn v n 1) (zTs v n) b).1)]))] ++ (mmW G mq mz ga mk mx mh mb))) ([(o9, .inr (6, [.ref t9, .ref a.1, u2, u3, .ref d9, .ref mq, u6, .ref b9])), (t9, .inr (5, [.ref z9, .int (nI n)])), (z9, .inl (G.2 0, 120, .inl v)), (b9, .inl (G.2 2, 2, .inl K)), (d9, .inr (1, [.long ((zGd (zDn v n 1) (zTs v n) b).1)]))] ++ ((mmW G mq mz ga mk mx mh mb) ++ (gmW G a ((zTxT v n i (g1, d1)).1) ((zTxT v n i (g1, d1)).2))) : va_W) := (pm_put (cs := [[(o9, .inr (6, [.ref t9, .ref a.1, u2, u3, .ref d9, .ref mq, u6, .ref b9]))], [(t9, .inr (5, [.ref z9, .int (nI n)]))], [(z9, .inl (G.2 0, 120, .inl v))], [(b9, .inl (G.2 2, 2, .inl K))], [(d9, .inr (1, [.long ((zGd (zDn v n 1) (zTs v n) b).1)]))], mmW G mq mz ga mk mx mh mb, gmW G a ((zTxT v n i (g1, d1)).1) ((zTxT v n i (g1, d1)).2)]) (sub := [[(o9, .inr (6, [.ref t9, .ref a.1, u2, u3, .ref d9, .ref mq, u6, .ref b9]))], [(t9, .inr (5, [.ref z9, .int (nI n)]))], [(z9, .inl (G.2 0, 120, .inl v))], gmW G a ((zTxT v n i (g1, d1)).1) ((zTxT v n i (g1, d1)).2)]) (rest := [[(b9, .inl (G.2 2, 2, .inl K))], [(d9, .inr (1, [.long ((zGd (zDn v n 1) (zTs v n) b).1)]))], mmW G mq mz ga mk mx mh mb]) 7 [0, 1, 2, 6] [3, 4, 5] rfl rfl rfl (by decide))
        refine z_callV (As := [.int (nI i)]) (rest := []) (wc := [(o9, .inr (6, [.ref t9, .ref a.1, u2, u3, .ref d9, .ref mq, u6, .ref b9])), (t9, .inr (5, [.ref z9, .int (nI n)])), (z9, .inl (G.2 0, 120, .inl v))] ++ gmW G a g1 d1) (wr := [(b9, .inl (G.2 2, 2, .inl K)), (d9, .inr (1, [.long ((zGd (zDn v n 1) (zTs v n) b).1)]))] ++ (mmW G mq mz ga mk mx mh mb)) (w1 := [(o9, .inr (6, [.ref t9, .ref a.1, u2, u3, .ref d9, .ref mq, u6, .ref b9])), (t9, .inr (5, [.ref z9, .int (nI n)])), (z9, .inl (G.2 0, 120, .inl v))] ++ gmW G a ((zTxT v n i (g1, d1)).1) ((zTxT v n i (g1, d1)).2)) (ws' := [(o9, .inr (6, [.ref t9, .ref a.1, u2, u3, .ref d9, .ref mq, u6, .ref b9])), (t9, .inr (5, [.ref z9, .int (nI n)])), (z9, .inl (G.2 0, 120, .inl v)), (b9, .inl (G.2 2, 2, .inl K)), (d9, .inr (1, [.long ((zGd (zDn v n 1) (zTs v n) b).1)]))] ++ ((mmW G mq mz ga mk mx mh mb) ++ (gmW G a ((zTxT v n i (g1, d1)).1) ((zTxT v n i (g1, d1)).2)))) ⟨hx, hb, hml, hown, hts⟩ (c_doMove l G o9 u2 u3 (.ref d9) (.ref mq) u6 (.ref b9) t9 z9 n v a g1 d1 (zDn v n 1) t1 4 e1 hG1 i hu hn hin9 hrd c_m) (cwV 1 hts gX6_load_X6_doMoveAt rfl rfl rfl (by decide +kernel) ⟨Nat.le_of_ble_eq_true rfl, Nat.le_of_ble_eq_true rfl⟩) 6 rfl rfl rfl rfl hl.1 rfl (Nat.le_of_ble_eq_true rfl) dX6_load_89 ⟨Nat.le_of_ble_eq_true rfl, Nat.le_of_ble_eq_true rfl⟩ hK hE hA hM hp9 hq9 (fun H locs hM hz => ?_)
        refine z_ifne (tgt := 98) hx hb dX6_load_92 (by decide) (fun c_d => ?_) (fun c_d => ?_)
        · skip
          refine lv_iinc (v := nI (i + 1)) (lv' := [(2, .int (nI (i + 1))), (0, .ref o9), (1, .int (nI o1))]) hx hb dX6_load_98 hl (k := 2) rfl (nI_1 i) (by decide) rfl (fun ls hl => ?_)
          refine lv_goto (tgt := 65) hx hb dX6_load_101 (by decide) ?_
          have hw2 := zWr_st (by omega) hW8
          have em3 : zTxS v n i ((g1, d1), o1) = ((h2, b2), o1) := emx.trans (by rw [← eo, if_pos c_d])
          have hR2 : (zIt (zTxS v n) n 0 ((zGdH zClH (zDn v n 1), (zGd (zDn v n 1) (zTs v n) b).2), 0)) = zIt (zTxS v n) k (i + 1) ((h2, b2), o1) := hR.trans ((zIt_s (zTxS v n) k i ((g1, d1), o1)).trans (congrArg (zIt (zTxS v n) k (i + 1)) em3))
          rw [eT] at hM
          exact ih (i + 1) o1 (zDu d8 (zSa v n i)) h2 b2 t2 e2 (by omega) hw2.2 (zDu_r hw2.1 hd8) hG2 hR2 _ _ hM _ (lv_sub hl [1, 2, 0] rfl)
        · skip
          refine lv_iinc (v := nI (o1 + 1)) (lv' := [(1, .int (nI (o1 + 1))), (0, .ref o9), (2, .int (nI i))]) hx hb dX6_load_95 hl (k := 1) rfl (nI_1 o1) (by decide) rfl (fun ls hl => ?_)
          refine lv_iinc (v := nI (i + 1)) (lv' := [(2, .int (nI (i + 1))), (1, .int (nI (o1 + 1))), (0, .ref o9)]) hx hb dX6_load_98 hl (k := 2) rfl (nI_1 i) (by decide) rfl (fun ls hl => ?_)
          refine lv_goto (tgt := 65) hx hb dX6_load_101 (by decide) ?_
          have hw2 := zWr_st (by omega) hW8
          have em3 : zTxS v n i ((g1, d1), o1) = ((h2, b2), (o1 + 1)) := emx.trans (by rw [← eo, if_neg (by rw [c_d]; decide)])
          have hR2 : (zIt (zTxS v n) n 0 ((zGdH zClH (zDn v n 1), (zGd (zDn v n 1) (zTs v n) b).2), 0)) = zIt (zTxS v n) k (i + 1) ((h2, b2), (o1 + 1)) := hR.trans ((zIt_s (zTxS v n) k i ((g1, d1), o1)).trans (congrArg (zIt (zTxS v n) k (i + 1)) em3))
          rw [eT] at hM
          exact ih (i + 1) (o1 + 1) (zDu d8 (zSa v n i)) h2 b2 t2 e2 (by omega) hw2.2 (zDu_r hw2.1 hd8) hG2 hR2 _ _ hM _ (lv_sub hl [2, 1, 0] rfl)
  exact lp65 n 0 0 0 _ _ 0 0 (by omega) hc zDr_0 hG0 rfl _ _ hM _ (lv_sub hl [2, 1, 0] rfl)
