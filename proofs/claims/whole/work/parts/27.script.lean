theorem zCmdB_1 {h : Nat → Int32} {b : Nat → Nat → Int32} {P t S : Nat} (hw : zWf h b P t S) (o i j : Nat) : zCmdB 1 o i j (h, b) = zMs h b o (nI i) (nI j) := if_pos rfl
theorem zCmdB_2 {h : Nat → Int32} {b : Nat → Nat → Int32} {P t S : Nat} (hw : zWf h b P t S) (o i j : Nat) : zCmdB 2 o i j (h, b) = (decide (o = 0) && decide (i = 0) && zMg h b S t (nI j)) := by
  have e9 : zCmdB 2 o i j (h, b) = (decide (o = 0) && decide (i = 0) && zMg h b (zSs h) (zTt h) (nI j)) := (if_neg (by decide)).trans (if_pos rfl)
  rw [e9, (zWf_e hw).2.1, (zWf_e hw).2.2]
theorem zCmdB_3 {h : Nat → Int32} {b : Nat → Nat → Int32} {P t S : Nat} (hw : zWf h b P t S) (o i j : Nat) : zCmdB 3 o i j (h, b) = (decide (o = 0) && decide (i = 0) && zLi (nI j) && zMe h) := (if_neg (by decide)).trans ((if_neg (by decide)).trans (if_pos rfl))
theorem zCmdB_4 {h : Nat → Int32} {b : Nat → Nat → Int32} {P t S : Nat} (hw : zWf h b P t S) (o i j : Nat) : zCmdB 4 o i j (h, b) = (decide (o = 0) && decide (i = 0) && decide (j = 0) && zRu h) := (if_neg (by decide)).trans ((if_neg (by decide)).trans ((if_neg (by decide)).trans (if_pos rfl)))
theorem zCmdB_5 {h : Nat → Int32} {b : Nat → Nat → Int32} {P t S : Nat} (hw : zWf h b P t S) (o i j : Nat) : zCmdB 5 o i j (h, b) = (decide (j = 0) && zRs h b S o (nI i)) := by
  have e9 : zCmdB 5 o i j (h, b) = (decide (j = 0) && zRs h b (zSs h) o (nI i)) := (if_neg (by decide)).trans ((if_neg (by decide)).trans ((if_neg (by decide)).trans ((if_neg (by decide)).trans (if_pos rfl))))
  rw [e9, (zWf_e hw).2.2]
theorem zCmdB_6 {h : Nat → Int32} {b : Nat → Nat → Int32} {P t S : Nat} (hw : zWf h b P t S) (o i j : Nat) : zCmdB 6 o i j (h, b) = (decide (i = 0) && zHp h (nI o) && decide (nI j ≤ b o 23)) := (if_neg (by decide)).trans ((if_neg (by decide)).trans ((if_neg (by decide)).trans ((if_neg (by decide)).trans ((if_neg (by decide)).trans (if_pos rfl)))))
theorem zCmdB_7 {h : Nat → Int32} {b : Nat → Nat → Int32} {P t S : Nat} (hw : zWf h b P t S) (o i j : Nat) : zCmdB 7 o i j (h, b) = (decide (j = 0) && zHp h (nI o) && zLi (nI i) && decide (b o 25 = nI i)) := (if_neg (by decide)).trans ((if_neg (by decide)).trans ((if_neg (by decide)).trans ((if_neg (by decide)).trans ((if_neg (by decide)).trans ((if_neg (by decide)).trans (if_pos rfl))))))
theorem zCmdB_8 {h : Nat → Int32} {b : Nat → Nat → Int32} {P t S : Nat} (hw : zWf h b P t S) (o i j : Nat) : zCmdB 8 o i j (h, b) = (decide (o = 0) && decide (i = 0) && zRu h && decide (h 1 = nI j)) := (if_neg (by decide)).trans ((if_neg (by decide)).trans ((if_neg (by decide)).trans ((if_neg (by decide)).trans ((if_neg (by decide)).trans ((if_neg (by decide)).trans ((if_neg (by decide)).trans (if_pos rfl)))))))
theorem zCmdB_9 {h : Nat → Int32} {b : Nat → Nat → Int32} {P t S : Nat} (hw : zWf h b P t S) (o i j : Nat) : zCmdB 9 o i j (h, b) = decide (h 3 ≤ nI (100 * o + 10 * i + j)) := (if_neg (by decide)).trans ((if_neg (by decide)).trans ((if_neg (by decide)).trans ((if_neg (by decide)).trans ((if_neg (by decide)).trans ((if_neg (by decide)).trans ((if_neg (by decide)).trans ((if_neg (by decide)).trans (if_pos rfl))))))))
theorem zCmdB_0 {h : Nat → Int32} {b : Nat → Nat → Int32} (o i j : Nat) : zCmdB 0 o i j (h, b) = false := (if_neg (by decide)).trans ((if_neg (by decide)).trans ((if_neg (by decide)).trans ((if_neg (by decide)).trans ((if_neg (by decide)).trans ((if_neg (by decide)).trans ((if_neg (by decide)).trans ((if_neg (by decide)).trans (if_neg (by decide)))))))))
def zCmdU (w a b c : Nat) (t : zUT) : zUT :=
  if w = 1 then (zShS a b (nI c) t.1, t.2)
  else if w = 2 then (zGoS c t.1, t.2)
  else if w = 3 then (zLkS (nI c) t.1, t.2)
  else if w = 4 then zQu t
  else t
theorem zCmdU_1 (w a b c : Nat) (t : zUT) : (zCmdU w a b c t).1 = zCmdS w a b c t.1 := by
  unfold zCmdU zCmdS
  by_cases e1 : w = 1
  · rw [if_pos e1, if_pos e1]
  rw [if_neg e1, if_neg e1]
  by_cases e2 : w = 2
  · rw [if_pos e2, if_pos e2]
  rw [if_neg e2, if_neg e2]
  by_cases e3 : w = 3
  · rw [if_pos e3, if_pos e3]
  rw [if_neg e3, if_neg e3]
  by_cases e4 : w = 4
  · rw [if_pos e4, if_pos e4]
    rfl
  rw [if_neg e4, if_neg e4]
def zCmdW (w a b c : Nat) (t : zUT) : zUT := if zCmdB w a b c t.1 = true then zCmdU w a b c t else t
theorem zCmdW_y {w a b c : Nat} {t : zUT} (q : zCmdB w a b c t.1 = true) : zCmdW w a b c t = zCmdU w a b c t := if_pos q
theorem zCmdW_n {w a b c : Nat} {t : zUT} (q : zCmdB w a b c t.1 = false) : zCmdW w a b c t = t := if_neg (fun z => Bool.noConfusion (q.symm.trans z))
theorem zUT_e (t : zUT) : t = ((t.1.1, t.1.2), t.2.1, t.2.2.1, t.2.2.2.1, t.2.2.2.2) := rfl
theorem zCmdU_x {t : zUT} {w a b c : Nat} (hx : zXy t.1) (ha : a < 10) (hb : b < 10) (hc : c < 10) (hm : zCmdB w a b c t.1 = true) : zXy (zCmdU w a b c t).1 := by
  rw [zCmdU_1]
  exact zXs_cmd hx ha hb hc hm
/-! scripts -/
def zPw (k : Nat) : Int64 := if k = 0 then 1 else if k = 1 then 10000 else if k = 2 then 100000000 else 1000000000000
def zGn (x : Int64) (k : Nat) : Nat := (x.toInt / (zPw k).toInt % 10000).toNat
theorem zGn_lt (x : Int64) (k : Nat) : zGn x k < 10000 := by
  unfold zGn
  omega
theorem zPw_s {i : Nat} (hi : i < 3) : zPw i * 10000 = zPw (i + 1) := by
  have h3 : i = 0 ∨ i = 1 ∨ i = 2 := by omega
  rcases h3 with rfl | rfl | rfl <;> decide
theorem zPw_d {i : Nat} (hi : i < 3) : zPw (i + 1) / 10000 = zPw i := by
  have h3 : i = 0 ∨ i = 1 ∨ i = 2 := by omega
  rcases h3 with rfl | rfl | rfl <;> decide
theorem zPw_n {i : Nat} (hi : i < 3) : ¬ zPw i = 0 := by
  have h3 : i = 0 ∨ i = 1 ∨ i = 2 := by omega
  rcases h3 with rfl | rfl | rfl <;> decide
theorem zPw_t {i : Nat} (hi : i < 3) : 1 ≤ (zPw i).toInt := by
  have h3 : i = 0 ∨ i = 1 ∨ i = 2 := by omega
  rcases h3 with rfl | rfl | rfl <;> decide
theorem bm64 {z : Int} (h0 : 0 ≤ z) (h1 : z < 9223372036854775808) : z.bmod (2 ^ 64) = z := by
  rw [Int.bmod_def, Int.emod_eq_of_lt h0 (by omega), if_pos (by omega)]
theorem bm32 {z : Int} (h0 : 0 ≤ z) (h1 : z < 2147483648) : z.bmod (2 ^ 32) = z := by
  rw [Int.bmod_def, Int.emod_eq_of_lt h0 (by omega), if_pos (by omega)]
theorem i64_lt (x : Int64) : x.toInt < 9223372036854775808 := Int64.toInt_lt x
theorem i64_div {x y : Int64} (h0 : 0 ≤ x.toInt) (hy : 1 ≤ y.toInt) : (x / y).toInt = x.toInt / y.toInt := by
  have h1 : 0 ≤ x.toInt / y.toInt := Int.ediv_nonneg h0 (by omega)
  have h2 : x.toInt / y.toInt ≤ x.toInt := Int.ediv_le_self _ h0
  have h3 := i64_lt x
  rw [Int64.toInt_div, Int.tdiv_eq_ediv_of_nonneg h0]
  exact bm64 h1 (by omega)
theorem i64_rem {x : Int64} (h0 : 0 ≤ x.toInt) : (x - x / 10000 * 10000).toInt = x.toInt % 10000 := by
  have e1 : (10000 : Int64).toInt = 10000 := by decide
  have hd := i64_div (y := 10000) h0 (by rw [e1]; decide)
  have h3 := i64_lt x
  have hm : (x / 10000 * 10000).toInt = x.toInt / 10000 * 10000 := by
    rw [Int64.toInt_mul, hd, e1]
    exact bm64 (by omega) (by omega)
  rw [Int64.toInt_sub, hm, show x.toInt - x.toInt / 10000 * 10000 = x.toInt % 10000 by omega]
  exact bm64 (by omega) (by omega)
theorem zGn_e {x : Int64} {k : Nat} (h0 : 0 ≤ x.toInt) (hk : k < 3) : (x / zPw k - x / zPw k / 10000 * 10000).toInt32 = nI (zGn x k) := by
  refine Int32.toInt_inj.mp ?_
  have hq := zPw_t hk
  have hd := i64_div h0 hq
  have hd0 : 0 ≤ (x / zPw k).toInt := by
    rw [hd]
    exact Int.ediv_nonneg h0 (by omega)
  have hg := zGn_lt x k
  rw [Int64.toInt_toInt32, i64_rem hd0, hd, nI_toInt (by omega)]
  unfold zGn
  have h3 : 0 ≤ x.toInt / (zPw k).toInt % 10000 := by omega
  rw [Int.toNat_of_nonneg h3]
  exact bm32 h3 (by omega)
def zScr (x : Int64) (N : Nat) : Nat → Nat → zHB → Int32
  | 0, _, _ => -1
  | k + 1, i, s => if zCmdB (zGn x (N - 1 - i) / 1000) (zGn x (N - 1 - i) / 100 % 10) (zGn x (N - 1 - i) / 10 % 10) (zGn x (N - 1 - i) % 10) s = true then zScr x N k (i + 1) (zCmdS (zGn x (N - 1 - i) / 1000) (zGn x (N - 1 - i) / 100 % 10) (zGn x (N - 1 - i) / 10 % 10) (zGn x (N - 1 - i) % 10) s) else nI i
def zScrU (x : Int64) (N : Nat) : Nat → Nat → zUT → zUT
  | 0, _, t => t
  | k + 1, i, t => if zCmdB (zGn x (N - 1 - i) / 1000) (zGn x (N - 1 - i) / 100 % 10) (zGn x (N - 1 - i) / 10 % 10) (zGn x (N - 1 - i) % 10) t.1 = true then zScrU x N k (i + 1) (zCmdU (zGn x (N - 1 - i) / 1000) (zGn x (N - 1 - i) / 100 % 10) (zGn x (N - 1 - i) / 10 % 10) (zGn x (N - 1 - i) % 10) t) else t
theorem zScr_y {x : Int64} {N k i : Nat} {s : zHB} (q : zCmdB (zGn x (N - 1 - i) / 1000) (zGn x (N - 1 - i) / 100 % 10) (zGn x (N - 1 - i) / 10 % 10) (zGn x (N - 1 - i) % 10) s = true) : zScr x N (k + 1) i s = zScr x N k (i + 1) (zCmdS (zGn x (N - 1 - i) / 1000) (zGn x (N - 1 - i) / 100 % 10) (zGn x (N - 1 - i) / 10 % 10) (zGn x (N - 1 - i) % 10) s) := by
  rw [zScr, if_pos q]
theorem zScr_n {x : Int64} {N k i : Nat} {s : zHB} (q : zCmdB (zGn x (N - 1 - i) / 1000) (zGn x (N - 1 - i) / 100 % 10) (zGn x (N - 1 - i) / 10 % 10) (zGn x (N - 1 - i) % 10) s = false) : zScr x N (k + 1) i s = nI i := by
  rw [zScr, if_neg (fun z => Bool.noConfusion (q.symm.trans z))]
theorem zScrU_y {x : Int64} {N k i : Nat} {t : zUT} (q : zCmdB (zGn x (N - 1 - i) / 1000) (zGn x (N - 1 - i) / 100 % 10) (zGn x (N - 1 - i) / 10 % 10) (zGn x (N - 1 - i) % 10) t.1 = true) : zScrU x N (k + 1) i t = zScrU x N k (i + 1) (zCmdU (zGn x (N - 1 - i) / 1000) (zGn x (N - 1 - i) / 100 % 10) (zGn x (N - 1 - i) / 10 % 10) (zGn x (N - 1 - i) % 10) t) := by
  rw [zScrU, if_pos q]
theorem zScrU_n {x : Int64} {N k i : Nat} {t : zUT} (q : zCmdB (zGn x (N - 1 - i) / 1000) (zGn x (N - 1 - i) / 100 % 10) (zGn x (N - 1 - i) / 10 % 10) (zGn x (N - 1 - i) % 10) t.1 = false) : zScrU x N (k + 1) i t = t := by
  rw [zScrU, if_neg (fun z => Bool.noConfusion (q.symm.trans z))]
theorem zScr_ge {x b : Int64} (hc : zI0 x 0 b = true) : 0 ≤ x.toInt := by
  simp only [zI0, Bool.and_eq_true, Bool.not_eq_true', decide_eq_false_iff_not] at hc
  have h1 := hc.1
  rw [Int64.lt_iff_toInt_lt] at h1
  rw [show (0 : Int64).toInt = 0 from rfl] at h1
  omega
section ZO
variable {p : Program} {l : Launch} {e : Env} {R : Room} {s : State} {m : MethodId} {args : Array Value} {below : List Frame} {meth : Method} {c : Code} {H : Heap} {locs : List Loc} {cells slots : Nat} {Q : State → Prop}
variable {pc : Nat} {ls : Array Slot} {rest : List Value}
theorem z_topl {x y : Int64} (h : x = y) (k : W p l e R s m args below meth c H locs cells slots Q (F0 m pc ls (.long y :: rest))) : W p l e R s m args below meth c H locs cells slots Q (F0 m pc ls (.long x :: rest)) := h ▸ k
end ZO
theorem zCmdW_e {h : Nat → Int32} {b : Nat → Nat → Int32} {P t S e1 : Nat} {y1 y2 y3 : Int32} {g : Nat → Int32} {w o i j : Nat} (hG : zGs h b P t S e1) (ho : o < 10) (hi : i < 10) (hj : j < 10) (hq : zCmdB w o i j (h, b) = true) : ∃ h' b' z1 z2 z3 g' t' e' , zCmdU w o i j ((h, b), y1, y2, y3, g) = ((h', b'), z1, z2, z3, g') ∧ zCmdS w o i j (h, b) = (h', b') ∧ zGs h' b' P t' S e' := by
  have hV := hG.1
  have ee := zCmdU_1 w o i j ((h, b), y1, y2, y3, g)
  have key : ∃ t' e', zGs (zCmdS w o i j (h, b)).1 (zCmdS w o i j (h, b)).2 P t' S e' := by
    unfold zCmdB at hq
    unfold zCmdS
    by_cases e1 : w = 1
    · rw [if_pos e1] at hq ⊢
      have hz := zMs_r hq
      exact ⟨t, _, zGs_sh hG ((zHp_lt hG.1.1.1 hG.1.1.2.1 (by omega)).mp hz.2.2.1) (zLi_lt (by omega) hz.2.2.2.1)⟩
    rw [if_neg e1] at hq ⊢
    by_cases e2 : w = 2
    · rw [if_pos e2] at hq ⊢
      rw [Bool.and_eq_true] at hq
      have hr := (zMg_r hq.2).2
      rw [zGoS_e hV]
      obtain ⟨t2, w2⟩ := zGs_go hG (zRu_P hG.1.1.1 hG.1.1.2.1 hr) (zRu_4 hr) (zMg_lt (by omega) hq.2)
      exact ⟨t2, _, w2⟩
    rw [if_neg e2] at hq ⊢
    by_cases e3 : w = 3
    · rw [if_pos e3] at hq ⊢
      rw [Bool.and_eq_true] at hq
      have hr := zMe_r hq.2
      rw [zLkS_e hV]
      obtain ⟨t2, w2⟩ := zGs_lk (n := nI j) hG (zRu_P hG.1.1.1 hG.1.1.2.1 hr) (zRu_4 hr)
      exact ⟨t2, _, w2⟩
    rw [if_neg e3] at hq ⊢
    by_cases e4 : w = 4
    · rw [if_pos e4] at hq ⊢
      rw [Bool.and_eq_true] at hq
      obtain ⟨t2, w2⟩ := zQ_gs hG hq.2
      exact ⟨t2, _, w2⟩
    rw [if_neg e4]
    exact ⟨t, _, hG⟩
  obtain ⟨t', e', hk⟩ := key
  have e5 : (zCmdU w o i j ((h, b), y1, y2, y3, g)).1 = zCmdS w o i j (h, b) := ee
  refine ⟨(zCmdS w o i j (h, b)).1, (zCmdS w o i j (h, b)).2, (zCmdU w o i j ((h, b), y1, y2, y3, g)).2.1, (zCmdU w o i j ((h, b), y1, y2, y3, g)).2.2.1, (zCmdU w o i j ((h, b), y1, y2, y3, g)).2.2.2.1, (zCmdU w o i j ((h, b), y1, y2, y3, g)).2.2.2.2, t', e', ?_, rfl, hk⟩
  rw [← e5]
set_option maxHeartbeats 4000000 in
set_option maxRecDepth 100000 in
theorem c_cmd1y (l : Launch) (G : zC) (a : Nat → Nat) (u : Nat → Int32) (x : Int64) (f : Nat → Int32) (h : Nat → Int32) (b : Nat → Nat → Int32) (P t S e0 : Nat) (hG : zGs h b P t S e0) (o i j : Nat) (ho9 : o < 10) (hi9 : i < 10) (hj9 : j < 10) (hc : zMs h b o (nI i) (nI j) = true) : zMet l G yX7_command wsX7_command rmX7_command [.ref (a 0), .int 1, .int (nI o), .int (nI i), .int (nI j)] ([((a 0), .inr (7, [.int (u 0), .ref (a 1), .int (u 2), .ref (a 3), .ref (a 4), .ref (a 5), .ref (a 6), .int (u 7), .ref (a 8), .ref (a 9), .int (u 10), .int (u 11), .int (u 12), .long x, .int (u 14), .int (u 15)])), ((a 4), .inl (G.2 1, 121, .inl (flt h b))), ((a 5), .inl (G.2 1, 121, .inl f))]) (some (.int 1)) ([((a 0), .inr (7, [.int (u 0), .ref (a 1), .int (u 2), .ref (a 3), .ref (a 4), .ref (a 5), .ref (a 6), .int (u 7), .ref (a 8), .ref (a 9), .int (u 10), .int (u 11), .int (u 12), .long x, .int (u 14), .int (u 15)])), ((a 4), .inl (G.2 1, 121, .inl (flt (zShH h) (va_up b o (zMv (b o) i (nI j)))))), ((a 5), .inl (G.2 1, 121, .inl f))]) := by
  refine zMet_of (cc := cX7_command) (maxL := 6) (ret := (some .boolean)) (by decide) rfl (Nat.le_of_ble_eq_true rfl) ?_
  intro p e s m below meth c A ls hx hb hr hml hown hts hK hA hE hlocks hin hM hl
  have hown : s.vm.findClass RX7 = some m.cls := hown
  have hM : zM G A s s.heap [] ([((a 0), .inr (7, [.int (u 0), .ref (a 1), .int (u 2), .ref (a 3), .ref (a 4), .ref (a 5), .ref (a 6), .int (u 7), .ref (a 8), .ref (a 9), .int (u 10), .int (u 11), .int (u 12), .long x, .int (u 14), .int (u 15)])), ((a 4), .inl (G.2 1, 121, .inl (flt h b))), ((a 5), .inl (G.2 1, 121, .inl f))]) := hM
  have hl : lv_has ls 6 [(0, .ref (a 0)), (1, .int 1), (2, .int (nI o)), (3, .int (nI i)), (4, .int (nI j))] := hl
  have hP4 := hG.1.1.2.1
  have h6 := hG.1.1.2.2.2.2.1
  have hS := hG.1.1.2.2.2.2.2.1
  have hzq := zMs_r hc
  have hoP : o < P := (zHp_lt hG.1.1.1 hP4 (by omega)).mp hzq.2.2.1
  have hi6 : i < 6 := zLi_lt (by omega) hzq.2.2.2.1
  have hj2 : nI j = 0 ∨ nI j = 1 := by have q := hzq.2.2.2.2; simpa only [zDi, Bool.or_eq_true, decide_eq_true_eq] using q
  refine lv_iload_n hx hb dX7_command_0 rfl (lv_at hl 2 rfl) ?_
  refine lv_if_ne (tgt := 12) hx hb dX7_command_1 (by decide) (fun c_z1 => ?_) (fun c_z1 => ?_)
  · skip
    refine lv_iconst (v := 0) hx hb dX7_command_12 (by decide) ?_
    refine lv_istore (lv' := [(5, .int 0), (0, .ref (a 0)), (1, .int 1), (2, .int (nI o)), (3, .int (nI i)), (4, .int (nI j))]) hx hb dX7_command_13 hl (by decide) rfl (fun ls hl => ?_)
    refine lv_iload_n hx hb dX7_command_15 rfl (lv_at hl 2 rfl) ?_
    refine lv_tableIn (off := 52) (tgt := 68) hx hb dX7_command_16 (by decide) (by decide) rfl (by decide) ?_
    refine lv_iload_n hx hb dX7_command_68 rfl (lv_at hl 4 rfl) ?_
    refine z_callS (As := [.int (nI i)]) (rest := []) (wc := []) (wr := [((a 0), .inr (7, [.int (u 0), .ref (a 1), .int (u 2), .ref (a 3), .ref (a 4), .ref (a 5), .ref (a 6), .int (u 7), .ref (a 8), .ref (a 9), .int (u 10), .int (u 11), .int (u 12), .long x, .int (u 14), .int (u 15)])), ((a 4), .inl (G.2 1, 121, .inl (flt h b))), ((a 5), .inl (G.2 1, 121, .inl f))]) (w1 := []) (ws' := [((a 0), .inr (7, [.int (u 0), .ref (a 1), .int (u 2), .ref (a 3), .ref (a 4), .ref (a 5), .ref (a 6), .int (u 7), .ref (a 8), .ref (a 9), .int (u 10), .int (u 11), .int (u 12), .long x, .int (u 14), .int (u 15)])), ((a 4), .inl (G.2 1, 121, .inl (flt h b))), ((a 5), .inl (G.2 1, 121, .inl f))]) ⟨hx, hb, hml, hown, hts⟩ (c_r_isLine l G (nI i)) (va_cwS 1 hts gX7_command_X7_isLine rfl rfl rfl (by decide +kernel) ⟨Nat.le_of_ble_eq_true rfl, Nat.le_of_ble_eq_true rfl⟩) rfl hl.1 rfl (Nat.le_of_ble_eq_true rfl) dX7_command_69 ⟨Nat.le_of_ble_eq_true rfl, Nat.le_of_ble_eq_true rfl⟩ hK hE hA hM (List.Perm.refl _) (List.Perm.refl _) (fun H locs hM hz => ?_)
    refine z_ifeq (tgt := 118) hx hb dX7_command_72 (by decide) (fun c_1 => Bool.noConfusion (hzq.2.2.2.1.symm.trans c_1)) (fun c_1 => ?_)
    refine lv_iload hx hb dX7_command_75 (lv_at hl 5 rfl) ?_
    refine lv_i2l (v := (nI j).toInt64) hx hb dX7_command_77 rfl ?_
    refine lv_lconst (v := 0) hx hb dX7_command_78 (by decide) ?_
    refine lv_lconst (v := 1) hx hb dX7_command_79 (by decide) ?_
    refine z_callS (As := [.long ((nI j).toInt64), .long 0, .long 1]) (rest := []) (wc := []) (wr := [((a 0), .inr (7, [.int (u 0), .ref (a 1), .int (u 2), .ref (a 3), .ref (a 4), .ref (a 5), .ref (a 6), .int (u 7), .ref (a 8), .ref (a 9), .int (u 10), .int (u 11), .int (u 12), .long x, .int (u 14), .int (u 15)])), ((a 4), .inl (G.2 1, 121, .inl (flt h b))), ((a 5), .inl (G.2 1, 121, .inl f))]) (w1 := []) (ws' := [((a 0), .inr (7, [.int (u 0), .ref (a 1), .int (u 2), .ref (a 3), .ref (a 4), .ref (a 5), .ref (a 6), .int (u 7), .ref (a 8), .ref (a 9), .int (u 10), .int (u 11), .int (u 12), .long x, .int (u 14), .int (u 15)])), ((a 4), .inl (G.2 1, 121, .inl (flt h b))), ((a 5), .inl (G.2 1, 121, .inl f))]) ⟨hx, hb, hml, hown, hts⟩ (c_in l G ((nI j).toInt64) 0 1) (va_cwS 3 hts gX7_command_X7_in rfl rfl rfl (by decide +kernel) ⟨Nat.le_of_ble_eq_true rfl, Nat.le_of_ble_eq_true rfl⟩) rfl hl.1 rfl (Nat.le_of_ble_eq_true rfl) dX7_command_80 ⟨Nat.le_of_ble_eq_true rfl, Nat.le_of_ble_eq_true rfl⟩ hK hE hA hM (List.Perm.refl _) (List.Perm.refl _) (fun H locs hM hz => ?_)
    refine z_ifeq (tgt := 118) hx hb dX7_command_83 (by decide) (fun c_2 => Bool.noConfusion (((zI0_di _).trans hzq.2.2.2.2).symm.trans c_2)) (fun c_2 => ?_)
    refine lv_aload_n hx hb dX7_command_86 rfl (lv_at hl 1 rfl) ?_
    refine z_get (ci := 7) (v := .ref (a 4)) (C := RX7) (T := TX7) (N := 16) hx hb hts (by decide +kernel) hown hK hM 0 rfl rfl 4 (by decide) (hts (.fieldLink RX7 16 "ShiftIslesModel" "trial" "[I") (by decide +kernel)) (fun _ h9 => h9) rfl dX7_command_87 ?_
    refine lv_iload_n hx hb dX7_command_90 rfl (lv_at hl 3 rfl) ?_
    refine lv_iload_n hx hb dX7_command_91 rfl (lv_at hl 4 rfl) ?_
    refine lv_iload hx hb dX7_command_92 (lv_at hl 5 rfl) ?_
    refine z_callS (As := [.ref (a 4), .int (nI o), .int (nI i), .int (nI j)]) (rest := []) (wc := rfW G (a 4) h b) (wr := [((a 0), .inr (7, [.int (u 0), .ref (a 1), .int (u 2), .ref (a 3), .ref (a 4), .ref (a 5), .ref (a 6), .int (u 7), .ref (a 8), .ref (a 9), .int (u 10), .int (u 11), .int (u 12), .long x, .int (u 14), .int (u 15)])), ((a 5), .inl (G.2 1, 121, .inl f))]) (w1 := rfW G (a 4) h b) (ws' := [((a 0), .inr (7, [.int (u 0), .ref (a 1), .int (u 2), .ref (a 3), .ref (a 4), .ref (a 5), .ref (a 6), .int (u 7), .ref (a 8), .ref (a 9), .int (u 10), .int (u 11), .int (u 12), .long x, .int (u 14), .int (u 15)])), ((a 4), .inl (G.2 1, 121, .inl (flt h b))), ((a 5), .inl (G.2 1, 121, .inl f))]) ⟨hx, hb, hml, hown, hts⟩ (c_csn l G (a 4) h b P t S hG.1 o (nI i) (nI j) (by omega) hzq.2.2.2.1 hzq.2.2.2.2 ) (va_cwS 4 hts gX7_command_X7_canShiftNow rfl rfl rfl (by decide +kernel) ⟨Nat.le_of_ble_eq_true rfl, Nat.le_of_ble_eq_true rfl⟩) rfl hl.1 rfl (Nat.le_of_ble_eq_true rfl) dX7_command_94 ⟨Nat.le_of_ble_eq_true rfl, Nat.le_of_ble_eq_true rfl⟩ hK hE hA hM (pm_at 3 [1] [0, 2] rfl rfl rfl (by decide)) ((pm_at 3 [1] [0, 2] rfl rfl rfl (by decide))).symm (fun H locs hM hz => ?_)
    refine z_ifeq (tgt := 118) hx hb dX7_command_97 (by decide) (fun c_3 => Bool.noConfusion (hc.symm.trans c_3)) (fun c_3 => ?_)
    refine lv_aload_n hx hb dX7_command_100 rfl (lv_at hl 1 rfl) ?_
    refine z_get (ci := 7) (v := .ref (a 4)) (C := RX7) (T := TX7) (N := 16) hx hb hts (by decide +kernel) hown hK hM 0 rfl rfl 4 (by decide) (hts (.fieldLink RX7 16 "ShiftIslesModel" "trial" "[I") (by decide +kernel)) (fun _ h9 => h9) rfl dX7_command_101 ?_
    refine lv_iload_n hx hb dX7_command_104 rfl (lv_at hl 3 rfl) ?_
    refine lv_iload_n hx hb dX7_command_105 rfl (lv_at hl 4 rfl) ?_
    refine lv_iload hx hb dX7_command_106 (lv_at hl 5 rfl) ?_
    refine z_callS (As := [.ref (a 4), .int (nI o), .int (nI i), .int (nI j)]) (rest := []) (wc := rfW G (a 4) h b) (wr := [((a 0), .inr (7, [.int (u 0), .ref (a 1), .int (u 2), .ref (a 3), .ref (a 4), .ref (a 5), .ref (a 6), .int (u 7), .ref (a 8), .ref (a 9), .int (u 10), .int (u 11), .int (u 12), .long x, .int (u 14), .int (u 15)])), ((a 5), .inl (G.2 1, 121, .inl f))]) (w1 := [((a 4), .inl (G.2 1, 121, .inl (flt (zShH h) (va_up b o (zMv (b o) i (nI j))))))]) (ws' := [((a 0), .inr (7, [.int (u 0), .ref (a 1), .int (u 2), .ref (a 3), .ref (a 4), .ref (a 5), .ref (a 6), .int (u 7), .ref (a 8), .ref (a 9), .int (u 10), .int (u 11), .int (u 12), .long x, .int (u 14), .int (u 15)])), ((a 4), .inl (G.2 1, 121, .inl (flt (zShH h) (va_up b o (zMv (b o) i (nI j)))))), ((a 5), .inl (G.2 1, 121, .inl f))]) ⟨hx, hb, hml, hown, hts⟩ (c_shiftOn l G (a 4) h b P t S hG.1 o i (nI j) hoP hi6 hj2) (va_cwS 4 hts gX7_command_X7_shiftOn rfl rfl rfl (by decide +kernel) ⟨Nat.le_of_ble_eq_true rfl, Nat.le_of_ble_eq_true rfl⟩) rfl hl.1 rfl (Nat.le_of_ble_eq_true rfl) dX7_command_108 ⟨Nat.le_of_ble_eq_true rfl, Nat.le_of_ble_eq_true rfl⟩ hK hE hA hM (pm_at 3 [1] [0, 2] rfl rfl rfl (by decide)) ((pm_at 3 [1] [0, 2] rfl rfl rfl (by decide))).symm (fun H locs hM hz => ?_)
    refine lv_if_le (tgt := 118) hx hb dX7_command_111 (by decide) (fun c_4 => absurd c_4 (zBc_pos (zBw_mv (hG.1.2.2 o hoP) hi6 (nI j)) S)) (fun c_4 => ?_)
    refine lv_iconst (v := 1) hx hb dX7_command_114 (by decide) ?_
    refine lv_goto (tgt := 119) hx hb dX7_command_115 (by decide) ?_
    exact z_zret hx hb hr hlocks dX7_command_119 hM (Nat.le_of_ble_eq_true rfl) (Nat.le_of_ble_eq_true rfl) (by first | exact Or.inl rfl | exact Or.inr rfl | exact zb_01 _) rfl
  · skip
    refine lv_iload_n hx hb dX7_command_4 rfl (lv_at hl 3 rfl) ?_
    refine lv_if_ne (tgt := 12) hx hb dX7_command_5 (by decide) (fun c_z2 => ?_) (fun c_z2 => ?_)
    · skip
      refine lv_iconst (v := 0) hx hb dX7_command_12 (by decide) ?_
      refine lv_istore (lv' := [(5, .int 0), (0, .ref (a 0)), (1, .int 1), (2, .int (nI o)), (3, .int (nI i)), (4, .int (nI j))]) hx hb dX7_command_13 hl (by decide) rfl (fun ls hl => ?_)
      refine lv_iload_n hx hb dX7_command_15 rfl (lv_at hl 2 rfl) ?_
      refine lv_tableIn (off := 52) (tgt := 68) hx hb dX7_command_16 (by decide) (by decide) rfl (by decide) ?_
      refine lv_iload_n hx hb dX7_command_68 rfl (lv_at hl 4 rfl) ?_
      refine z_callS (As := [.int (nI i)]) (rest := []) (wc := []) (wr := [((a 0), .inr (7, [.int (u 0), .ref (a 1), .int (u 2), .ref (a 3), .ref (a 4), .ref (a 5), .ref (a 6), .int (u 7), .ref (a 8), .ref (a 9), .int (u 10), .int (u 11), .int (u 12), .long x, .int (u 14), .int (u 15)])), ((a 4), .inl (G.2 1, 121, .inl (flt h b))), ((a 5), .inl (G.2 1, 121, .inl f))]) (w1 := []) (ws' := [((a 0), .inr (7, [.int (u 0), .ref (a 1), .int (u 2), .ref (a 3), .ref (a 4), .ref (a 5), .ref (a 6), .int (u 7), .ref (a 8), .ref (a 9), .int (u 10), .int (u 11), .int (u 12), .long x, .int (u 14), .int (u 15)])), ((a 4), .inl (G.2 1, 121, .inl (flt h b))), ((a 5), .inl (G.2 1, 121, .inl f))]) ⟨hx, hb, hml, hown, hts⟩ (c_r_isLine l G (nI i)) (va_cwS 1 hts gX7_command_X7_isLine rfl rfl rfl (by decide +kernel) ⟨Nat.le_of_ble_eq_true rfl, Nat.le_of_ble_eq_true rfl⟩) rfl hl.1 rfl (Nat.le_of_ble_eq_true rfl) dX7_command_69 ⟨Nat.le_of_ble_eq_true rfl, Nat.le_of_ble_eq_true rfl⟩ hK hE hA hM (List.Perm.refl _) (List.Perm.refl _) (fun H locs hM hz => ?_)
      refine z_ifeq (tgt := 118) hx hb dX7_command_72 (by decide) (fun c_5 => Bool.noConfusion (hzq.2.2.2.1.symm.trans c_5)) (fun c_5 => ?_)
      refine lv_iload hx hb dX7_command_75 (lv_at hl 5 rfl) ?_
      refine lv_i2l (v := (nI j).toInt64) hx hb dX7_command_77 rfl ?_
      refine lv_lconst (v := 0) hx hb dX7_command_78 (by decide) ?_
      refine lv_lconst (v := 1) hx hb dX7_command_79 (by decide) ?_
      refine z_callS (As := [.long ((nI j).toInt64), .long 0, .long 1]) (rest := []) (wc := []) (wr := [((a 0), .inr (7, [.int (u 0), .ref (a 1), .int (u 2), .ref (a 3), .ref (a 4), .ref (a 5), .ref (a 6), .int (u 7), .ref (a 8), .ref (a 9), .int (u 10), .int (u 11), .int (u 12), .long x, .int (u 14), .int (u 15)])), ((a 4), .inl (G.2 1, 121, .inl (flt h b))), ((a 5), .inl (G.2 1, 121, .inl f))]) (w1 := []) (ws' := [((a 0), .inr (7, [.int (u 0), .ref (a 1), .int (u 2), .ref (a 3), .ref (a 4), .ref (a 5), .ref (a 6), .int (u 7), .ref (a 8), .ref (a 9), .int (u 10), .int (u 11), .int (u 12), .long x, .int (u 14), .int (u 15)])), ((a 4), .inl (G.2 1, 121, .inl (flt h b))), ((a 5), .inl (G.2 1, 121, .inl f))]) ⟨hx, hb, hml, hown, hts⟩ (c_in l G ((nI j).toInt64) 0 1) (va_cwS 3 hts gX7_command_X7_in rfl rfl rfl (by decide +kernel) ⟨Nat.le_of_ble_eq_true rfl, Nat.le_of_ble_eq_true rfl⟩) rfl hl.1 rfl (Nat.le_of_ble_eq_true rfl) dX7_command_80 ⟨Nat.le_of_ble_eq_true rfl, Nat.le_of_ble_eq_true rfl⟩ hK hE hA hM (List.Perm.refl _) (List.Perm.refl _) (fun H locs hM hz => ?_)
      refine z_ifeq (tgt := 118) hx hb dX7_command_83 (by decide) (fun c_6 => Bool.noConfusion (((zI0_di _).trans hzq.2.2.2.2).symm.trans c_6)) (fun c_6 => ?_)
      refine lv_aload_n hx hb dX7_command_86 rfl (lv_at hl 1 rfl) ?_
      refine z_get (ci := 7) (v := .ref (a 4)) (C := RX7) (T := TX7) (N := 16) hx hb hts (by decide +kernel) hown hK hM 0 rfl rfl 4 (by decide) (hts (.fieldLink RX7 16 "ShiftIslesModel" "trial" "[I") (by decide +kernel)) (fun _ h9 => h9) rfl dX7_command_87 ?_
      refine lv_iload_n hx hb dX7_command_90 rfl (lv_at hl 3 rfl) ?_
      refine lv_iload_n hx hb dX7_command_91 rfl (lv_at hl 4 rfl) ?_
      refine lv_iload hx hb dX7_command_92 (lv_at hl 5 rfl) ?_
      refine z_callS (As := [.ref (a 4), .int (nI o), .int (nI i), .int (nI j)]) (rest := []) (wc := rfW G (a 4) h b) (wr := [((a 0), .inr (7, [.int (u 0), .ref (a 1), .int (u 2), .ref (a 3), .ref (a 4), .ref (a 5), .ref (a 6), .int (u 7), .ref (a 8), .ref (a 9), .int (u 10), .int (u 11), .int (u 12), .long x, .int (u 14), .int (u 15)])), ((a 5), .inl (G.2 1, 121, .inl f))]) (w1 := rfW G (a 4) h b) (ws' := [((a 0), .inr (7, [.int (u 0), .ref (a 1), .int (u 2), .ref (a 3), .ref (a 4), .ref (a 5), .ref (a 6), .int (u 7), .ref (a 8), .ref (a 9), .int (u 10), .int (u 11), .int (u 12), .long x, .int (u 14), .int (u 15)])), ((a 4), .inl (G.2 1, 121, .inl (flt h b))), ((a 5), .inl (G.2 1, 121, .inl f))]) ⟨hx, hb, hml, hown, hts⟩ (c_csn l G (a 4) h b P t S hG.1 o (nI i) (nI j) (by omega) hzq.2.2.2.1 hzq.2.2.2.2 ) (va_cwS 4 hts gX7_command_X7_canShiftNow rfl rfl rfl (by decide +kernel) ⟨Nat.le_of_ble_eq_true rfl, Nat.le_of_ble_eq_true rfl⟩) rfl hl.1 rfl (Nat.le_of_ble_eq_true rfl) dX7_command_94 ⟨Nat.le_of_ble_eq_true rfl, Nat.le_of_ble_eq_true rfl⟩ hK hE hA hM (pm_at 3 [1] [0, 2] rfl rfl rfl (by decide)) ((pm_at 3 [1] [0, 2] rfl rfl rfl (by decide))).symm (fun H locs hM hz => ?_)
      refine z_ifeq (tgt := 118) hx hb dX7_command_97 (by decide) (fun c_7 => Bool.noConfusion (hc.symm.trans c_7)) (fun c_7 => ?_)
      refine lv_aload_n hx hb dX7_command_100 rfl (lv_at hl 1 rfl) ?_
      refine z_get (ci := 7) (v := .ref (a 4)) (C := RX7) (T := TX7) (N := 16) hx hb hts (by decide +kernel) hown hK hM 0 rfl rfl 4 (by decide) (hts (.fieldLink RX7 16 "ShiftIslesModel" "trial" "[I") (by decide +kernel)) (fun _ h9 => h9) rfl dX7_command_101 ?_
      refine lv_iload_n hx hb dX7_command_104 rfl (lv_at hl 3 rfl) ?_
      refine lv_iload_n hx hb dX7_command_105 rfl (lv_at hl 4 rfl) ?_
      refine lv_iload hx hb dX7_command_106 (lv_at hl 5 rfl) ?_
      refine z_callS (As := [.ref (a 4), .int (nI o), .int (nI i), .int (nI j)]) (rest := []) (wc := rfW G (a 4) h b) (wr := [((a 0), .inr (7, [.int (u 0), .ref (a 1), .int (u 2), .ref (a 3), .ref (a 4), .ref (a 5), .ref (a 6), .int (u 7), .ref (a 8), .ref (a 9), .int (u 10), .int (u 11), .int (u 12), .long x, .int (u 14), .int (u 15)])), ((a 5), .inl (G.2 1, 121, .inl f))]) (w1 := [((a 4), .inl (G.2 1, 121, .inl (flt (zShH h) (va_up b o (zMv (b o) i (nI j))))))]) (ws' := [((a 0), .inr (7, [.int (u 0), .ref (a 1), .int (u 2), .ref (a 3), .ref (a 4), .ref (a 5), .ref (a 6), .int (u 7), .ref (a 8), .ref (a 9), .int (u 10), .int (u 11), .int (u 12), .long x, .int (u 14), .int (u 15)])), ((a 4), .inl (G.2 1, 121, .inl (flt (zShH h) (va_up b o (zMv (b o) i (nI j)))))), ((a 5), .inl (G.2 1, 121, .inl f))]) ⟨hx, hb, hml, hown, hts⟩ (c_shiftOn l G (a 4) h b P t S hG.1 o i (nI j) hoP hi6 hj2) (va_cwS 4 hts gX7_command_X7_shiftOn rfl rfl rfl (by decide +kernel) ⟨Nat.le_of_ble_eq_true rfl, Nat.le_of_ble_eq_true rfl⟩) rfl hl.1 rfl (Nat.le_of_ble_eq_true rfl) dX7_command_108 ⟨Nat.le_of_ble_eq_true rfl, Nat.le_of_ble_eq_true rfl⟩ hK hE hA hM (pm_at 3 [1] [0, 2] rfl rfl rfl (by decide)) ((pm_at 3 [1] [0, 2] rfl rfl rfl (by decide))).symm (fun H locs hM hz => ?_)
      refine lv_if_le (tgt := 118) hx hb dX7_command_111 (by decide) (fun c_8 => absurd c_8 (zBc_pos (zBw_mv (hG.1.2.2 o hoP) hi6 (nI j)) S)) (fun c_8 => ?_)
      refine lv_iconst (v := 1) hx hb dX7_command_114 (by decide) ?_
      refine lv_goto (tgt := 119) hx hb dX7_command_115 (by decide) ?_
      exact z_zret hx hb hr hlocks dX7_command_119 hM (Nat.le_of_ble_eq_true rfl) (Nat.le_of_ble_eq_true rfl) (by first | exact Or.inl rfl | exact Or.inr rfl | exact zb_01 _) rfl
    · skip
      refine lv_iconst (v := 1) hx hb dX7_command_8 (by decide) ?_
      refine lv_goto (tgt := 13) hx hb dX7_command_9 (by decide) ?_
      refine lv_istore (lv' := [(5, .int 1), (0, .ref (a 0)), (1, .int 1), (2, .int (nI o)), (3, .int (nI i)), (4, .int (nI j))]) hx hb dX7_command_13 hl (by decide) rfl (fun ls hl => ?_)
      refine lv_iload_n hx hb dX7_command_15 rfl (lv_at hl 2 rfl) ?_
      refine lv_tableIn (off := 52) (tgt := 68) hx hb dX7_command_16 (by decide) (by decide) rfl (by decide) ?_
      refine lv_iload_n hx hb dX7_command_68 rfl (lv_at hl 4 rfl) ?_
      refine z_callS (As := [.int (nI i)]) (rest := []) (wc := []) (wr := [((a 0), .inr (7, [.int (u 0), .ref (a 1), .int (u 2), .ref (a 3), .ref (a 4), .ref (a 5), .ref (a 6), .int (u 7), .ref (a 8), .ref (a 9), .int (u 10), .int (u 11), .int (u 12), .long x, .int (u 14), .int (u 15)])), ((a 4), .inl (G.2 1, 121, .inl (flt h b))), ((a 5), .inl (G.2 1, 121, .inl f))]) (w1 := []) (ws' := [((a 0), .inr (7, [.int (u 0), .ref (a 1), .int (u 2), .ref (a 3), .ref (a 4), .ref (a 5), .ref (a 6), .int (u 7), .ref (a 8), .ref (a 9), .int (u 10), .int (u 11), .int (u 12), .long x, .int (u 14), .int (u 15)])), ((a 4), .inl (G.2 1, 121, .inl (flt h b))), ((a 5), .inl (G.2 1, 121, .inl f))]) ⟨hx, hb, hml, hown, hts⟩ (c_r_isLine l G (nI i)) (va_cwS 1 hts gX7_command_X7_isLine rfl rfl rfl (by decide +kernel) ⟨Nat.le_of_ble_eq_true rfl, Nat.le_of_ble_eq_true rfl⟩) rfl hl.1 rfl (Nat.le_of_ble_eq_true rfl) dX7_command_69 ⟨Nat.le_of_ble_eq_true rfl, Nat.le_of_ble_eq_true rfl⟩ hK hE hA hM (List.Perm.refl _) (List.Perm.refl _) (fun H locs hM hz => ?_)
      refine z_ifeq (tgt := 118) hx hb dX7_command_72 (by decide) (fun c_9 => Bool.noConfusion (hzq.2.2.2.1.symm.trans c_9)) (fun c_9 => ?_)
      refine lv_iload hx hb dX7_command_75 (lv_at hl 5 rfl) ?_
      refine lv_i2l (v := (nI j).toInt64) hx hb dX7_command_77 rfl ?_
      refine lv_lconst (v := 0) hx hb dX7_command_78 (by decide) ?_
      refine lv_lconst (v := 1) hx hb dX7_command_79 (by decide) ?_
      refine z_callS (As := [.long ((nI j).toInt64), .long 0, .long 1]) (rest := []) (wc := []) (wr := [((a 0), .inr (7, [.int (u 0), .ref (a 1), .int (u 2), .ref (a 3), .ref (a 4), .ref (a 5), .ref (a 6), .int (u 7), .ref (a 8), .ref (a 9), .int (u 10), .int (u 11), .int (u 12), .long x, .int (u 14), .int (u 15)])), ((a 4), .inl (G.2 1, 121, .inl (flt h b))), ((a 5), .inl (G.2 1, 121, .inl f))]) (w1 := []) (ws' := [((a 0), .inr (7, [.int (u 0), .ref (a 1), .int (u 2), .ref (a 3), .ref (a 4), .ref (a 5), .ref (a 6), .int (u 7), .ref (a 8), .ref (a 9), .int (u 10), .int (u 11), .int (u 12), .long x, .int (u 14), .int (u 15)])), ((a 4), .inl (G.2 1, 121, .inl (flt h b))), ((a 5), .inl (G.2 1, 121, .inl f))]) ⟨hx, hb, hml, hown, hts⟩ (c_in l G ((nI j).toInt64) 0 1) (va_cwS 3 hts gX7_command_X7_in rfl rfl rfl (by decide +kernel) ⟨Nat.le_of_ble_eq_true rfl, Nat.le_of_ble_eq_true rfl⟩) rfl hl.1 rfl (Nat.le_of_ble_eq_true rfl) dX7_command_80 ⟨Nat.le_of_ble_eq_true rfl, Nat.le_of_ble_eq_true rfl⟩ hK hE hA hM (List.Perm.refl _) (List.Perm.refl _) (fun H locs hM hz => ?_)
      refine z_ifeq (tgt := 118) hx hb dX7_command_83 (by decide) (fun c_10 => Bool.noConfusion (((zI0_di _).trans hzq.2.2.2.2).symm.trans c_10)) (fun c_10 => ?_)
      refine lv_aload_n hx hb dX7_command_86 rfl (lv_at hl 1 rfl) ?_
      refine z_get (ci := 7) (v := .ref (a 4)) (C := RX7) (T := TX7) (N := 16) hx hb hts (by decide +kernel) hown hK hM 0 rfl rfl 4 (by decide) (hts (.fieldLink RX7 16 "ShiftIslesModel" "trial" "[I") (by decide +kernel)) (fun _ h9 => h9) rfl dX7_command_87 ?_
      refine lv_iload_n hx hb dX7_command_90 rfl (lv_at hl 3 rfl) ?_
      refine lv_iload_n hx hb dX7_command_91 rfl (lv_at hl 4 rfl) ?_
      refine lv_iload hx hb dX7_command_92 (lv_at hl 5 rfl) ?_
      refine z_callS (As := [.ref (a 4), .int (nI o), .int (nI i), .int (nI j)]) (rest := []) (wc := rfW G (a 4) h b) (wr := [((a 0), .inr (7, [.int (u 0), .ref (a 1), .int (u 2), .ref (a 3), .ref (a 4), .ref (a 5), .ref (a 6), .int (u 7), .ref (a 8), .ref (a 9), .int (u 10), .int (u 11), .int (u 12), .long x, .int (u 14), .int (u 15)])), ((a 5), .inl (G.2 1, 121, .inl f))]) (w1 := rfW G (a 4) h b) (ws' := [((a 0), .inr (7, [.int (u 0), .ref (a 1), .int (u 2), .ref (a 3), .ref (a 4), .ref (a 5), .ref (a 6), .int (u 7), .ref (a 8), .ref (a 9), .int (u 10), .int (u 11), .int (u 12), .long x, .int (u 14), .int (u 15)])), ((a 4), .inl (G.2 1, 121, .inl (flt h b))), ((a 5), .inl (G.2 1, 121, .inl f))]) ⟨hx, hb, hml, hown, hts⟩ (c_csn l G (a 4) h b P t S hG.1 o (nI i) (nI j) (by omega) hzq.2.2.2.1 hzq.2.2.2.2 ) (va_cwS 4 hts gX7_command_X7_canShiftNow rfl rfl rfl (by decide +kernel) ⟨Nat.le_of_ble_eq_true rfl, Nat.le_of_ble_eq_true rfl⟩) rfl hl.1 rfl (Nat.le_of_ble_eq_true rfl) dX7_command_94 ⟨Nat.le_of_ble_eq_true rfl, Nat.le_of_ble_eq_true rfl⟩ hK hE hA hM (pm_at 3 [1] [0, 2] rfl rfl rfl (by decide)) ((pm_at 3 [1] [0, 2] rfl rfl rfl (by decide))).symm (fun H locs hM hz => ?_)
      refine z_ifeq (tgt := 118) hx hb dX7_command_97 (by decide) (fun c_11 => Bool.noConfusion (hc.symm.trans c_11)) (fun c_11 => ?_)
      refine lv_aload_n hx hb dX7_command_100 rfl (lv_at hl 1 rfl) ?_
      refine z_get (ci := 7) (v := .ref (a 4)) (C := RX7) (T := TX7) (N := 16) hx hb hts (by decide +kernel) hown hK hM 0 rfl rfl 4 (by decide) (hts (.fieldLink RX7 16 "ShiftIslesModel" "trial" "[I") (by decide +kernel)) (fun _ h9 => h9) rfl dX7_command_101 ?_
      refine lv_iload_n hx hb dX7_command_104 rfl (lv_at hl 3 rfl) ?_
      refine lv_iload_n hx hb dX7_command_105 rfl (lv_at hl 4 rfl) ?_
      refine lv_iload hx hb dX7_command_106 (lv_at hl 5 rfl) ?_
      refine z_callS (As := [.ref (a 4), .int (nI o), .int (nI i), .int (nI j)]) (rest := []) (wc := rfW G (a 4) h b) (wr := [((a 0), .inr (7, [.int (u 0), .ref (a 1), .int (u 2), .ref (a 3), .ref (a 4), .ref (a 5), .ref (a 6), .int (u 7), .ref (a 8), .ref (a 9), .int (u 10), .int (u 11), .int (u 12), .long x, .int (u 14), .int (u 15)])), ((a 5), .inl (G.2 1, 121, .inl f))]) (w1 := [((a 4), .inl (G.2 1, 121, .inl (flt (zShH h) (va_up b o (zMv (b o) i (nI j))))))]) (ws' := [((a 0), .inr (7, [.int (u 0), .ref (a 1), .int (u 2), .ref (a 3), .ref (a 4), .ref (a 5), .ref (a 6), .int (u 7), .ref (a 8), .ref (a 9), .int (u 10), .int (u 11), .int (u 12), .long x, .int (u 14), .int (u 15)])), ((a 4), .inl (G.2 1, 121, .inl (flt (zShH h) (va_up b o (zMv (b o) i (nI j)))))), ((a 5), .inl (G.2 1, 121, .inl f))]) ⟨hx, hb, hml, hown, hts⟩ (c_shiftOn l G (a 4) h b P t S hG.1 o i (nI j) hoP hi6 hj2) (va_cwS 4 hts gX7_command_X7_shiftOn rfl rfl rfl (by decide +kernel) ⟨Nat.le_of_ble_eq_true rfl, Nat.le_of_ble_eq_true rfl⟩) rfl hl.1 rfl (Nat.le_of_ble_eq_true rfl) dX7_command_108 ⟨Nat.le_of_ble_eq_true rfl, Nat.le_of_ble_eq_true rfl⟩ hK hE hA hM (pm_at 3 [1] [0, 2] rfl rfl rfl (by decide)) ((pm_at 3 [1] [0, 2] rfl rfl rfl (by decide))).symm (fun H locs hM hz => ?_)
      refine lv_if_le (tgt := 118) hx hb dX7_command_111 (by decide) (fun c_12 => absurd c_12 (zBc_pos (zBw_mv (hG.1.2.2 o hoP) hi6 (nI j)) S)) (fun c_12 => ?_)
      refine lv_iconst (v := 1) hx hb dX7_command_114 (by decide) ?_
      refine lv_goto (tgt := 119) hx hb dX7_command_115 (by decide) ?_
      exact z_zret hx hb hr hlocks dX7_command_119 hM (Nat.le_of_ble_eq_true rfl) (Nat.le_of_ble_eq_true rfl) (by first | exact Or.inl rfl | exact Or.inr rfl | exact zb_01 _) rfl

set_option maxHeartbeats 4000000 in
set_option maxRecDepth 100000 in
theorem c_cmd1n (l : Launch) (G : zC) (a : Nat → Nat) (u : Nat → Int32) (x : Int64) (f : Nat → Int32) (h : Nat → Int32) (b : Nat → Nat → Int32) (P t S e0 : Nat) (hG : zGs h b P t S e0) (o i j : Nat) (ho9 : o < 10) (hi9 : i < 10) (hj9 : j < 10) (hc : zMs h b o (nI i) (nI j) = false) : zMet l G yX7_command wsX7_command rmX7_command [.ref (a 0), .int 1, .int (nI o), .int (nI i), .int (nI j)] ([((a 0), .inr (7, [.int (u 0), .ref (a 1), .int (u 2), .ref (a 3), .ref (a 4), .ref (a 5), .ref (a 6), .int (u 7), .ref (a 8), .ref (a 9), .int (u 10), .int (u 11), .int (u 12), .long x, .int (u 14), .int (u 15)])), ((a 4), .inl (G.2 1, 121, .inl (flt h b))), ((a 5), .inl (G.2 1, 121, .inl f))]) (some (.int 0)) ([((a 0), .inr (7, [.int (u 0), .ref (a 1), .int (u 2), .ref (a 3), .ref (a 4), .ref (a 5), .ref (a 6), .int (u 7), .ref (a 8), .ref (a 9), .int (u 10), .int (u 11), .int (u 12), .long x, .int (u 14), .int (u 15)])), ((a 4), .inl (G.2 1, 121, .inl (flt h b))), ((a 5), .inl (G.2 1, 121, .inl f))]) := by
  refine zMet_of (cc := cX7_command) (maxL := 6) (ret := (some .boolean)) (by decide) rfl (Nat.le_of_ble_eq_true rfl) ?_
  intro p e s m below meth c A ls hx hb hr hml hown hts hK hA hE hlocks hin hM hl
  have hown : s.vm.findClass RX7 = some m.cls := hown
  have hM : zM G A s s.heap [] ([((a 0), .inr (7, [.int (u 0), .ref (a 1), .int (u 2), .ref (a 3), .ref (a 4), .ref (a 5), .ref (a 6), .int (u 7), .ref (a 8), .ref (a 9), .int (u 10), .int (u 11), .int (u 12), .long x, .int (u 14), .int (u 15)])), ((a 4), .inl (G.2 1, 121, .inl (flt h b))), ((a 5), .inl (G.2 1, 121, .inl f))]) := hM
  have hl : lv_has ls 6 [(0, .ref (a 0)), (1, .int 1), (2, .int (nI o)), (3, .int (nI i)), (4, .int (nI j))] := hl
  have hP4 := hG.1.1.2.1
  have h6 := hG.1.1.2.2.2.2.1
  have hS := hG.1.1.2.2.2.2.2.1
  refine lv_iload_n hx hb dX7_command_0 rfl (lv_at hl 2 rfl) ?_
  refine lv_if_ne (tgt := 12) hx hb dX7_command_1 (by decide) (fun c_z1 => ?_) (fun c_z1 => ?_)
  · skip
    refine lv_iconst (v := 0) hx hb dX7_command_12 (by decide) ?_
    refine lv_istore (lv' := [(5, .int 0), (0, .ref (a 0)), (1, .int 1), (2, .int (nI o)), (3, .int (nI i)), (4, .int (nI j))]) hx hb dX7_command_13 hl (by decide) rfl (fun ls hl => ?_)
    refine lv_iload_n hx hb dX7_command_15 rfl (lv_at hl 2 rfl) ?_
    refine lv_tableIn (off := 52) (tgt := 68) hx hb dX7_command_16 (by decide) (by decide) rfl (by decide) ?_
    refine lv_iload_n hx hb dX7_command_68 rfl (lv_at hl 4 rfl) ?_
    refine z_callS (As := [.int (nI i)]) (rest := []) (wc := []) (wr := [((a 0), .inr (7, [.int (u 0), .ref (a 1), .int (u 2), .ref (a 3), .ref (a 4), .ref (a 5), .ref (a 6), .int (u 7), .ref (a 8), .ref (a 9), .int (u 10), .int (u 11), .int (u 12), .long x, .int (u 14), .int (u 15)])), ((a 4), .inl (G.2 1, 121, .inl (flt h b))), ((a 5), .inl (G.2 1, 121, .inl f))]) (w1 := []) (ws' := [((a 0), .inr (7, [.int (u 0), .ref (a 1), .int (u 2), .ref (a 3), .ref (a 4), .ref (a 5), .ref (a 6), .int (u 7), .ref (a 8), .ref (a 9), .int (u 10), .int (u 11), .int (u 12), .long x, .int (u 14), .int (u 15)])), ((a 4), .inl (G.2 1, 121, .inl (flt h b))), ((a 5), .inl (G.2 1, 121, .inl f))]) ⟨hx, hb, hml, hown, hts⟩ (c_r_isLine l G (nI i)) (va_cwS 1 hts gX7_command_X7_isLine rfl rfl rfl (by decide +kernel) ⟨Nat.le_of_ble_eq_true rfl, Nat.le_of_ble_eq_true rfl⟩) rfl hl.1 rfl (Nat.le_of_ble_eq_true rfl) dX7_command_69 ⟨Nat.le_of_ble_eq_true rfl, Nat.le_of_ble_eq_true rfl⟩ hK hE hA hM (List.Perm.refl _) (List.Perm.refl _) (fun H locs hM hz => ?_)
    refine z_ifeq (tgt := 118) hx hb dX7_command_72 (by decide) (fun c_n => ?_) (fun c_n => ?_)
    · skip
      refine lv_iconst (v := 0) hx hb dX7_command_118 (by decide) ?_
      exact z_zret hx hb hr hlocks dX7_command_119 hM (Nat.le_of_ble_eq_true rfl) (Nat.le_of_ble_eq_true rfl) (by first | exact Or.inl rfl | exact Or.inr rfl | exact zb_01 _) rfl
    · skip
      refine lv_iload hx hb dX7_command_75 (lv_at hl 5 rfl) ?_
      refine lv_i2l (v := (nI j).toInt64) hx hb dX7_command_77 rfl ?_
      refine lv_lconst (v := 0) hx hb dX7_command_78 (by decide) ?_
      refine lv_lconst (v := 1) hx hb dX7_command_79 (by decide) ?_
      refine z_callS (As := [.long ((nI j).toInt64), .long 0, .long 1]) (rest := []) (wc := []) (wr := [((a 0), .inr (7, [.int (u 0), .ref (a 1), .int (u 2), .ref (a 3), .ref (a 4), .ref (a 5), .ref (a 6), .int (u 7), .ref (a 8), .ref (a 9), .int (u 10), .int (u 11), .int (u 12), .long x, .int (u 14), .int (u 15)])), ((a 4), .inl (G.2 1, 121, .inl (flt h b))), ((a 5), .inl (G.2 1, 121, .inl f))]) (w1 := []) (ws' := [((a 0), .inr (7, [.int (u 0), .ref (a 1), .int (u 2), .ref (a 3), .ref (a 4), .ref (a 5), .ref (a 6), .int (u 7), .ref (a 8), .ref (a 9), .int (u 10), .int (u 11), .int (u 12), .long x, .int (u 14), .int (u 15)])), ((a 4), .inl (G.2 1, 121, .inl (flt h b))), ((a 5), .inl (G.2 1, 121, .inl f))]) ⟨hx, hb, hml, hown, hts⟩ (c_in l G ((nI j).toInt64) 0 1) (va_cwS 3 hts gX7_command_X7_in rfl rfl rfl (by decide +kernel) ⟨Nat.le_of_ble_eq_true rfl, Nat.le_of_ble_eq_true rfl⟩) rfl hl.1 rfl (Nat.le_of_ble_eq_true rfl) dX7_command_80 ⟨Nat.le_of_ble_eq_true rfl, Nat.le_of_ble_eq_true rfl⟩ hK hE hA hM (List.Perm.refl _) (List.Perm.refl _) (fun H locs hM hz => ?_)
      refine z_ifeq (tgt := 118) hx hb dX7_command_83 (by decide) (fun c_d => ?_) (fun c_d => ?_)
      · skip
        refine lv_iconst (v := 0) hx hb dX7_command_118 (by decide) ?_
        exact z_zret hx hb hr hlocks dX7_command_119 hM (Nat.le_of_ble_eq_true rfl) (Nat.le_of_ble_eq_true rfl) (by first | exact Or.inl rfl | exact Or.inr rfl | exact zb_01 _) rfl
      · skip
        refine lv_aload_n hx hb dX7_command_86 rfl (lv_at hl 1 rfl) ?_
        refine z_get (ci := 7) (v := .ref (a 4)) (C := RX7) (T := TX7) (N := 16) hx hb hts (by decide +kernel) hown hK hM 0 rfl rfl 4 (by decide) (hts (.fieldLink RX7 16 "ShiftIslesModel" "trial" "[I") (by decide +kernel)) (fun _ h9 => h9) rfl dX7_command_87 ?_
        refine lv_iload_n hx hb dX7_command_90 rfl (lv_at hl 3 rfl) ?_
        refine lv_iload_n hx hb dX7_command_91 rfl (lv_at hl 4 rfl) ?_
        refine lv_iload hx hb dX7_command_92 (lv_at hl 5 rfl) ?_
        refine z_callS (As := [.ref (a 4), .int (nI o), .int (nI i), .int (nI j)]) (rest := []) (wc := rfW G (a 4) h b) (wr := [((a 0), .inr (7, [.int (u 0), .ref (a 1), .int (u 2), .ref (a 3), .ref (a 4), .ref (a 5), .ref (a 6), .int (u 7), .ref (a 8), .ref (a 9), .int (u 10), .int (u 11), .int (u 12), .long x, .int (u 14), .int (u 15)])), ((a 5), .inl (G.2 1, 121, .inl f))]) (w1 := rfW G (a 4) h b) (ws' := [((a 0), .inr (7, [.int (u 0), .ref (a 1), .int (u 2), .ref (a 3), .ref (a 4), .ref (a 5), .ref (a 6), .int (u 7), .ref (a 8), .ref (a 9), .int (u 10), .int (u 11), .int (u 12), .long x, .int (u 14), .int (u 15)])), ((a 4), .inl (G.2 1, 121, .inl (flt h b))), ((a 5), .inl (G.2 1, 121, .inl f))]) ⟨hx, hb, hml, hown, hts⟩ (c_csn l G (a 4) h b P t S hG.1 o (nI i) (nI j) (by omega) c_n ((zI0_di _).symm.trans c_d) ) (va_cwS 4 hts gX7_command_X7_canShiftNow rfl rfl rfl (by decide +kernel) ⟨Nat.le_of_ble_eq_true rfl, Nat.le_of_ble_eq_true rfl⟩) rfl hl.1 rfl (Nat.le_of_ble_eq_true rfl) dX7_command_94 ⟨Nat.le_of_ble_eq_true rfl, Nat.le_of_ble_eq_true rfl⟩ hK hE hA hM (pm_at 3 [1] [0, 2] rfl rfl rfl (by decide)) ((pm_at 3 [1] [0, 2] rfl rfl rfl (by decide))).symm (fun H locs hM hz => ?_)
        refine z_ifeq (tgt := 118) hx hb dX7_command_97 (by decide) (fun c_1 => ?_) (fun c_1 => Bool.noConfusion (c_1.symm.trans hc))
        refine lv_iconst (v := 0) hx hb dX7_command_118 (by decide) ?_
        exact z_zret hx hb hr hlocks dX7_command_119 hM (Nat.le_of_ble_eq_true rfl) (Nat.le_of_ble_eq_true rfl) (by first | exact Or.inl rfl | exact Or.inr rfl | exact zb_01 _) rfl
  · skip
    refine lv_iload_n hx hb dX7_command_4 rfl (lv_at hl 3 rfl) ?_
    refine lv_if_ne (tgt := 12) hx hb dX7_command_5 (by decide) (fun c_z2 => ?_) (fun c_z2 => ?_)
    · skip
      refine lv_iconst (v := 0) hx hb dX7_command_12 (by decide) ?_
      refine lv_istore (lv' := [(5, .int 0), (0, .ref (a 0)), (1, .int 1), (2, .int (nI o)), (3, .int (nI i)), (4, .int (nI j))]) hx hb dX7_command_13 hl (by decide) rfl (fun ls hl => ?_)
      refine lv_iload_n hx hb dX7_command_15 rfl (lv_at hl 2 rfl) ?_
      refine lv_tableIn (off := 52) (tgt := 68) hx hb dX7_command_16 (by decide) (by decide) rfl (by decide) ?_
      refine lv_iload_n hx hb dX7_command_68 rfl (lv_at hl 4 rfl) ?_
      refine z_callS (As := [.int (nI i)]) (rest := []) (wc := []) (wr := [((a 0), .inr (7, [.int (u 0), .ref (a 1), .int (u 2), .ref (a 3), .ref (a 4), .ref (a 5), .ref (a 6), .int (u 7), .ref (a 8), .ref (a 9), .int (u 10), .int (u 11), .int (u 12), .long x, .int (u 14), .int (u 15)])), ((a 4), .inl (G.2 1, 121, .inl (flt h b))), ((a 5), .inl (G.2 1, 121, .inl f))]) (w1 := []) (ws' := [((a 0), .inr (7, [.int (u 0), .ref (a 1), .int (u 2), .ref (a 3), .ref (a 4), .ref (a 5), .ref (a 6), .int (u 7), .ref (a 8), .ref (a 9), .int (u 10), .int (u 11), .int (u 12), .long x, .int (u 14), .int (u 15)])), ((a 4), .inl (G.2 1, 121, .inl (flt h b))), ((a 5), .inl (G.2 1, 121, .inl f))]) ⟨hx, hb, hml, hown, hts⟩ (c_r_isLine l G (nI i)) (va_cwS 1 hts gX7_command_X7_isLine rfl rfl rfl (by decide +kernel) ⟨Nat.le_of_ble_eq_true rfl, Nat.le_of_ble_eq_true rfl⟩) rfl hl.1 rfl (Nat.le_of_ble_eq_true rfl) dX7_command_69 ⟨Nat.le_of_ble_eq_true rfl, Nat.le_of_ble_eq_true rfl⟩ hK hE hA hM (List.Perm.refl _) (List.Perm.refl _) (fun H locs hM hz => ?_)
      refine z_ifeq (tgt := 118) hx hb dX7_command_72 (by decide) (fun c_n => ?_) (fun c_n => ?_)
      · skip
        refine lv_iconst (v := 0) hx hb dX7_command_118 (by decide) ?_
        exact z_zret hx hb hr hlocks dX7_command_119 hM (Nat.le_of_ble_eq_true rfl) (Nat.le_of_ble_eq_true rfl) (by first | exact Or.inl rfl | exact Or.inr rfl | exact zb_01 _) rfl
      · skip
        refine lv_iload hx hb dX7_command_75 (lv_at hl 5 rfl) ?_
        refine lv_i2l (v := (nI j).toInt64) hx hb dX7_command_77 rfl ?_
        refine lv_lconst (v := 0) hx hb dX7_command_78 (by decide) ?_
        refine lv_lconst (v := 1) hx hb dX7_command_79 (by decide) ?_
        refine z_callS (As := [.long ((nI j).toInt64), .long 0, .long 1]) (rest := []) (wc := []) (wr := [((a 0), .inr (7, [.int (u 0), .ref (a 1), .int (u 2), .ref (a 3), .ref (a 4), .ref (a 5), .ref (a 6), .int (u 7), .ref (a 8), .ref (a 9), .int (u 10), .int (u 11), .int (u 12), .long x, .int (u 14), .int (u 15)])), ((a 4), .inl (G.2 1, 121, .inl (flt h b))), ((a 5), .inl (G.2 1, 121, .inl f))]) (w1 := []) (ws' := [((a 0), .inr (7, [.int (u 0), .ref (a 1), .int (u 2), .ref (a 3), .ref (a 4), .ref (a 5), .ref (a 6), .int (u 7), .ref (a 8), .ref (a 9), .int (u 10), .int (u 11), .int (u 12), .long x, .int (u 14), .int (u 15)])), ((a 4), .inl (G.2 1, 121, .inl (flt h b))), ((a 5), .inl (G.2 1, 121, .inl f))]) ⟨hx, hb, hml, hown, hts⟩ (c_in l G ((nI j).toInt64) 0 1) (va_cwS 3 hts gX7_command_X7_in rfl rfl rfl (by decide +kernel) ⟨Nat.le_of_ble_eq_true rfl, Nat.le_of_ble_eq_true rfl⟩) rfl hl.1 rfl (Nat.le_of_ble_eq_true rfl) dX7_command_80 ⟨Nat.le_of_ble_eq_true rfl, Nat.le_of_ble_eq_true rfl⟩ hK hE hA hM (List.Perm.refl _) (List.Perm.refl _) (fun H locs hM hz => ?_)
        refine z_ifeq (tgt := 118) hx hb dX7_command_83 (by decide) (fun c_d => ?_) (fun c_d => ?_)
        · skip
          refine lv_iconst (v := 0) hx hb dX7_command_118 (by decide) ?_
          exact z_zret hx hb hr hlocks dX7_command_119 hM (Nat.le_of_ble_eq_true rfl) (Nat.le_of_ble_eq_true rfl) (by first | exact Or.inl rfl | exact Or.inr rfl | exact zb_01 _) rfl
        · skip
          refine lv_aload_n hx hb dX7_command_86 rfl (lv_at hl 1 rfl) ?_
          refine z_get (ci := 7) (v := .ref (a 4)) (C := RX7) (T := TX7) (N := 16) hx hb hts (by decide +kernel) hown hK hM 0 rfl rfl 4 (by decide) (hts (.fieldLink RX7 16 "ShiftIslesModel" "trial" "[I") (by decide +kernel)) (fun _ h9 => h9) rfl dX7_command_87 ?_
          refine lv_iload_n hx hb dX7_command_90 rfl (lv_at hl 3 rfl) ?_
          refine lv_iload_n hx hb dX7_command_91 rfl (lv_at hl 4 rfl) ?_
          refine lv_iload hx hb dX7_command_92 (lv_at hl 5 rfl) ?_
          refine z_callS (As := [.ref (a 4), .int (nI o), .int (nI i), .int (nI j)]) (rest := []) (wc := rfW G (a 4) h b) (wr := [((a 0), .inr (7, [.int (u 0), .ref (a 1), .int (u 2), .ref (a 3), .ref (a 4), .ref (a 5), .ref (a 6), .int (u 7), .ref (a 8), .ref (a 9), .int (u 10), .int (u 11), .int (u 12), .long x, .int (u 14), .int (u 15)])), ((a 5), .inl (G.2 1, 121, .inl f))]) (w1 := rfW G (a 4) h b) (ws' := [((a 0), .inr (7, [.int (u 0), .ref (a 1), .int (u 2), .ref (a 3), .ref (a 4), .ref (a 5), .ref (a 6), .int (u 7), .ref (a 8), .ref (a 9), .int (u 10), .int (u 11), .int (u 12), .long x, .int (u 14), .int (u 15)])), ((a 4), .inl (G.2 1, 121, .inl (flt h b))), ((a 5), .inl (G.2 1, 121, .inl f))]) ⟨hx, hb, hml, hown, hts⟩ (c_csn l G (a 4) h b P t S hG.1 o (nI i) (nI j) (by omega) c_n ((zI0_di _).symm.trans c_d) ) (va_cwS 4 hts gX7_command_X7_canShiftNow rfl rfl rfl (by decide +kernel) ⟨Nat.le_of_ble_eq_true rfl, Nat.le_of_ble_eq_true rfl⟩) rfl hl.1 rfl (Nat.le_of_ble_eq_true rfl) dX7_command_94 ⟨Nat.le_of_ble_eq_true rfl, Nat.le_of_ble_eq_true rfl⟩ hK hE hA hM (pm_at 3 [1] [0, 2] rfl rfl rfl (by decide)) ((pm_at 3 [1] [0, 2] rfl rfl rfl (by decide))).symm (fun H locs hM hz => ?_)
          refine z_ifeq (tgt := 118) hx hb dX7_command_97 (by decide) (fun c_2 => ?_) (fun c_2 => Bool.noConfusion (c_2.symm.trans hc))
          refine lv_iconst (v := 0) hx hb dX7_command_118 (by decide) ?_
          exact z_zret hx hb hr hlocks dX7_command_119 hM (Nat.le_of_ble_eq_true rfl) (Nat.le_of_ble_eq_true rfl) (by first | exact Or.inl rfl | exact Or.inr rfl | exact zb_01 _) rfl
    · skip
      refine lv_iconst (v := 1) hx hb dX7_command_8 (by decide) ?_
      refine lv_goto (tgt := 13) hx hb dX7_command_9 (by decide) ?_
      refine lv_istore (lv' := [(5, .int 1), (0, .ref (a 0)), (1, .int 1), (2, .int (nI o)), (3, .int (nI i)), (4, .int (nI j))]) hx hb dX7_command_13 hl (by decide) rfl (fun ls hl => ?_)
      refine lv_iload_n hx hb dX7_command_15 rfl (lv_at hl 2 rfl) ?_
      refine lv_tableIn (off := 52) (tgt := 68) hx hb dX7_command_16 (by decide) (by decide) rfl (by decide) ?_
      refine lv_iload_n hx hb dX7_command_68 rfl (lv_at hl 4 rfl) ?_
      refine z_callS (As := [.int (nI i)]) (rest := []) (wc := []) (wr := [((a 0), .inr (7, [.int (u 0), .ref (a 1), .int (u 2), .ref (a 3), .ref (a 4), .ref (a 5), .ref (a 6), .int (u 7), .ref (a 8), .ref (a 9), .int (u 10), .int (u 11), .int (u 12), .long x, .int (u 14), .int (u 15)])), ((a 4), .inl (G.2 1, 121, .inl (flt h b))), ((a 5), .inl (G.2 1, 121, .inl f))]) (w1 := []) (ws' := [((a 0), .inr (7, [.int (u 0), .ref (a 1), .int (u 2), .ref (a 3), .ref (a 4), .ref (a 5), .ref (a 6), .int (u 7), .ref (a 8), .ref (a 9), .int (u 10), .int (u 11), .int (u 12), .long x, .int (u 14), .int (u 15)])), ((a 4), .inl (G.2 1, 121, .inl (flt h b))), ((a 5), .inl (G.2 1, 121, .inl f))]) ⟨hx, hb, hml, hown, hts⟩ (c_r_isLine l G (nI i)) (va_cwS 1 hts gX7_command_X7_isLine rfl rfl rfl (by decide +kernel) ⟨Nat.le_of_ble_eq_true rfl, Nat.le_of_ble_eq_true rfl⟩) rfl hl.1 rfl (Nat.le_of_ble_eq_true rfl) dX7_command_69 ⟨Nat.le_of_ble_eq_true rfl, Nat.le_of_ble_eq_true rfl⟩ hK hE hA hM (List.Perm.refl _) (List.Perm.refl _) (fun H locs hM hz => ?_)
      refine z_ifeq (tgt := 118) hx hb dX7_command_72 (by decide) (fun c_n => ?_) (fun c_n => ?_)
      · skip
        refine lv_iconst (v := 0) hx hb dX7_command_118 (by decide) ?_
        exact z_zret hx hb hr hlocks dX7_command_119 hM (Nat.le_of_ble_eq_true rfl) (Nat.le_of_ble_eq_true rfl) (by first | exact Or.inl rfl | exact Or.inr rfl | exact zb_01 _) rfl
      · skip
        refine lv_iload hx hb dX7_command_75 (lv_at hl 5 rfl) ?_
        refine lv_i2l (v := (nI j).toInt64) hx hb dX7_command_77 rfl ?_
        refine lv_lconst (v := 0) hx hb dX7_command_78 (by decide) ?_
        refine lv_lconst (v := 1) hx hb dX7_command_79 (by decide) ?_
        refine z_callS (As := [.long ((nI j).toInt64), .long 0, .long 1]) (rest := []) (wc := []) (wr := [((a 0), .inr (7, [.int (u 0), .ref (a 1), .int (u 2), .ref (a 3), .ref (a 4), .ref (a 5), .ref (a 6), .int (u 7), .ref (a 8), .ref (a 9), .int (u 10), .int (u 11), .int (u 12), .long x, .int (u 14), .int (u 15)])), ((a 4), .inl (G.2 1, 121, .inl (flt h b))), ((a 5), .inl (G.2 1, 121, .inl f))]) (w1 := []) (ws' := [((a 0), .inr (7, [.int (u 0), .ref (a 1), .int (u 2), .ref (a 3), .ref (a 4), .ref (a 5), .ref (a 6), .int (u 7), .ref (a 8), .ref (a 9), .int (u 10), .int (u 11), .int (u 12), .long x, .int (u 14), .int (u 15)])), ((a 4), .inl (G.2 1, 121, .inl (flt h b))), ((a 5), .inl (G.2 1, 121, .inl f))]) ⟨hx, hb, hml, hown, hts⟩ (c_in l G ((nI j).toInt64) 0 1) (va_cwS 3 hts gX7_command_X7_in rfl rfl rfl (by decide +kernel) ⟨Nat.le_of_ble_eq_true rfl, Nat.le_of_ble_eq_true rfl⟩) rfl hl.1 rfl (Nat.le_of_ble_eq_true rfl) dX7_command_80 ⟨Nat.le_of_ble_eq_true rfl, Nat.le_of_ble_eq_true rfl⟩ hK hE hA hM (List.Perm.refl _) (List.Perm.refl _) (fun H locs hM hz => ?_)
        refine z_ifeq (tgt := 118) hx hb dX7_command_83 (by decide) (fun c_d => ?_) (fun c_d => ?_)
        · skip
          refine lv_iconst (v := 0) hx hb dX7_command_118 (by decide) ?_
          exact z_zret hx hb hr hlocks dX7_command_119 hM (Nat.le_of_ble_eq_true rfl) (Nat.le_of_ble_eq_true rfl) (by first | exact Or.inl rfl | exact Or.inr rfl | exact zb_01 _) rfl
        · skip
          refine lv_aload_n hx hb dX7_command_86 rfl (lv_at hl 1 rfl) ?_
          refine z_get (ci := 7) (v := .ref (a 4)) (C := RX7) (T := TX7) (N := 16) hx hb hts (by decide +kernel) hown hK hM 0 rfl rfl 4 (by decide) (hts (.fieldLink RX7 16 "ShiftIslesModel" "trial" "[I") (by decide +kernel)) (fun _ h9 => h9) rfl dX7_command_87 ?_
          refine lv_iload_n hx hb dX7_command_90 rfl (lv_at hl 3 rfl) ?_
          refine lv_iload_n hx hb dX7_command_91 rfl (lv_at hl 4 rfl) ?_
          refine lv_iload hx hb dX7_command_92 (lv_at hl 5 rfl) ?_
          refine z_callS (As := [.ref (a 4), .int (nI o), .int (nI i), .int (nI j)]) (rest := []) (wc := rfW G (a 4) h b) (wr := [((a 0), .inr (7, [.int (u 0), .ref (a 1), .int (u 2), .ref (a 3), .ref (a 4), .ref (a 5), .ref (a 6), .int (u 7), .ref (a 8), .ref (a 9), .int (u 10), .int (u 11), .int (u 12), .long x, .int (u 14), .int (u 15)])), ((a 5), .inl (G.2 1, 121, .inl f))]) (w1 := rfW G (a 4) h b) (ws' := [((a 0), .inr (7, [.int (u 0), .ref (a 1), .int (u 2), .ref (a 3), .ref (a 4), .ref (a 5), .ref (a 6), .int (u 7), .ref (a 8), .ref (a 9), .int (u 10), .int (u 11), .int (u 12), .long x, .int (u 14), .int (u 15)])), ((a 4), .inl (G.2 1, 121, .inl (flt h b))), ((a 5), .inl (G.2 1, 121, .inl f))]) ⟨hx, hb, hml, hown, hts⟩ (c_csn l G (a 4) h b P t S hG.1 o (nI i) (nI j) (by omega) c_n ((zI0_di _).symm.trans c_d) ) (va_cwS 4 hts gX7_command_X7_canShiftNow rfl rfl rfl (by decide +kernel) ⟨Nat.le_of_ble_eq_true rfl, Nat.le_of_ble_eq_true rfl⟩) rfl hl.1 rfl (Nat.le_of_ble_eq_true rfl) dX7_command_94 ⟨Nat.le_of_ble_eq_true rfl, Nat.le_of_ble_eq_true rfl⟩ hK hE hA hM (pm_at 3 [1] [0, 2] rfl rfl rfl (by decide)) ((pm_at 3 [1] [0, 2] rfl rfl rfl (by decide))).symm (fun H locs hM hz => ?_)
          refine z_ifeq (tgt := 118) hx hb dX7_command_97 (by decide) (fun c_3 => ?_) (fun c_3 => Bool.noConfusion (c_3.symm.trans hc))
          refine lv_iconst (v := 0) hx hb dX7_command_118 (by decide) ?_
          exact z_zret hx hb hr hlocks dX7_command_119 hM (Nat.le_of_ble_eq_true rfl) (Nat.le_of_ble_eq_true rfl) (by first | exact Or.inl rfl | exact Or.inr rfl | exact zb_01 _) rfl

set_option maxHeartbeats 4000000 in
set_option maxRecDepth 100000 in
theorem c_cmd2y (l : Launch) (G : zC) (a : Nat → Nat) (u : Nat → Int32) (x : Int64) (f : Nat → Int32) (h : Nat → Int32) (b : Nat → Nat → Int32) (P t S e0 : Nat) (hG : zGs h b P t S e0) (o i j : Nat) (ho9 : o < 10) (hi9 : i < 10) (hj9 : j < 10) (hc : zMg h b S t (nI j) = true) : zMet l G yX7_command wsX7_command rmX7_command [.ref (a 0), .int 2, .int (nI 0), .int (nI 0), .int (nI j)] ([((a 0), .inr (7, [.int (u 0), .ref (a 1), .int (u 2), .ref (a 3), .ref (a 4), .ref (a 5), .ref (a 6), .int (u 7), .ref (a 8), .ref (a 9), .int (u 10), .int (u 11), .int (u 12), .long x, .int (u 14), .int (u 15)])), ((a 4), .inl (G.2 1, 121, .inl (flt h b))), ((a 5), .inl (G.2 1, 121, .inl f))]) (some (.int 1)) ([((a 0), .inr (7, [.int (u 0), .ref (a 1), .int (u 2), .ref (a 3), .ref (a 4), .ref (a 5), .ref (a 6), .int (u 7), .ref (a 8), .ref (a 9), .int (u 10), .int (u 11), .int (u 12), .long x, .int (u 14), .int (u 15)])), ((a 4), .inl (G.2 1, 121, .inl (flt (zEtH h (zGoB b t j) t P) (zEtB h (zGoB b t j) t P)))), ((a 5), .inl (G.2 1, 121, .inl f))]) := by
  refine zMet_of (cc := cX7_command) (maxL := 6) (ret := (some .boolean)) (by decide) rfl (Nat.le_of_ble_eq_true rfl) ?_
  intro p e s m below meth c A ls hx hb hr hml hown hts hK hA hE hlocks hin hM hl
  have hown : s.vm.findClass RX7 = some m.cls := hown
  have hM : zM G A s s.heap [] ([((a 0), .inr (7, [.int (u 0), .ref (a 1), .int (u 2), .ref (a 3), .ref (a 4), .ref (a 5), .ref (a 6), .int (u 7), .ref (a 8), .ref (a 9), .int (u 10), .int (u 11), .int (u 12), .long x, .int (u 14), .int (u 15)])), ((a 4), .inl (G.2 1, 121, .inl (flt h b))), ((a 5), .inl (G.2 1, 121, .inl f))]) := hM
  have hl : lv_has ls 6 [(0, .ref (a 0)), (1, .int 2), (2, .int (nI 0)), (3, .int (nI 0)), (4, .int (nI j))] := hl
  have hP4 := hG.1.1.2.1
  have h6 := hG.1.1.2.2.2.2.1
  have hS := hG.1.1.2.2.2.2.2.1
  have hj8 := zMg_lt (by omega) hc
  have hP0 := zRu_P hG.1.1.1 hP4 (zMg_r hc).2
  refine lv_iload_n hx hb dX7_command_0 rfl (lv_at hl 2 rfl) ?_
  refine lv_if_ne (tgt := 12) hx hb dX7_command_1 (by decide) (fun c_1 => absurd rfl c_1) (fun c_1 => ?_)
  refine lv_iload_n hx hb dX7_command_4 rfl (lv_at hl 3 rfl) ?_
  refine lv_if_ne (tgt := 12) hx hb dX7_command_5 (by decide) (fun c_2 => absurd rfl c_2) (fun c_2 => ?_)
  refine lv_iconst (v := 1) hx hb dX7_command_8 (by decide) ?_
  refine lv_goto (tgt := 13) hx hb dX7_command_9 (by decide) ?_
  refine lv_istore (lv' := [(5, .int 1), (0, .ref (a 0)), (1, .int 2), (2, .int (nI 0)), (3, .int (nI 0)), (4, .int (nI j))]) hx hb dX7_command_13 hl (by decide) rfl (fun ls hl => ?_)
  refine lv_iload_n hx hb dX7_command_15 rfl (lv_at hl 2 rfl) ?_
  refine lv_tableIn (off := 104) (tgt := 120) hx hb dX7_command_16 (by decide) (by decide) rfl (by decide) ?_
  refine lv_iload hx hb dX7_command_120 (lv_at hl 0 rfl) ?_
  refine lv_if_eq (tgt := 161) hx hb dX7_command_122 (by decide) (fun c_3 => absurd c_3 (by decide)) (fun c_3 => ?_)
  refine lv_iload hx hb dX7_command_125 (lv_at hl 5 rfl) ?_
  refine z_callS (As := [.int (nI j)]) (rest := []) (wc := []) (wr := [((a 0), .inr (7, [.int (u 0), .ref (a 1), .int (u 2), .ref (a 3), .ref (a 4), .ref (a 5), .ref (a 6), .int (u 7), .ref (a 8), .ref (a 9), .int (u 10), .int (u 11), .int (u 12), .long x, .int (u 14), .int (u 15)])), ((a 4), .inl (G.2 1, 121, .inl (flt h b))), ((a 5), .inl (G.2 1, 121, .inl f))]) (w1 := []) (ws' := [((a 0), .inr (7, [.int (u 0), .ref (a 1), .int (u 2), .ref (a 3), .ref (a 4), .ref (a 5), .ref (a 6), .int (u 7), .ref (a 8), .ref (a 9), .int (u 10), .int (u 11), .int (u 12), .long x, .int (u 14), .int (u 15)])), ((a 4), .inl (G.2 1, 121, .inl (flt h b))), ((a 5), .inl (G.2 1, 121, .inl f))]) ⟨hx, hb, hml, hown, hts⟩ (c_r_isPlace l G (nI j)) (va_cwS 1 hts gX7_command_X7_isPlace rfl rfl rfl (by decide +kernel) ⟨Nat.le_of_ble_eq_true rfl, Nat.le_of_ble_eq_true rfl⟩) rfl hl.1 rfl (Nat.le_of_ble_eq_true rfl) dX7_command_127 ⟨Nat.le_of_ble_eq_true rfl, Nat.le_of_ble_eq_true rfl⟩ hK hE hA hM (List.Perm.refl _) (List.Perm.refl _) (fun H locs hM hz => ?_)
  refine z_ifeq (tgt := 161) hx hb dX7_command_130 (by decide) (fun c_4 => Bool.noConfusion ((zPl_nI hj8).symm.trans c_4)) (fun c_4 => ?_)
  refine lv_aload_n hx hb dX7_command_133 rfl (lv_at hl 1 rfl) ?_
  refine z_get (ci := 7) (v := .ref (a 4)) (C := RX7) (T := TX7) (N := 16) hx hb hts (by decide +kernel) hown hK hM 0 rfl rfl 4 (by decide) (hts (.fieldLink RX7 16 "ShiftIslesModel" "trial" "[I") (by decide +kernel)) (fun _ h9 => h9) rfl dX7_command_134 ?_
  refine lv_iload hx hb dX7_command_137 (lv_at hl 5 rfl) ?_
  refine z_callS (As := [.ref (a 4), .int (nI j)]) (rest := []) (wc := rfW G (a 4) h b) (wr := [((a 0), .inr (7, [.int (u 0), .ref (a 1), .int (u 2), .ref (a 3), .ref (a 4), .ref (a 5), .ref (a 6), .int (u 7), .ref (a 8), .ref (a 9), .int (u 10), .int (u 11), .int (u 12), .long x, .int (u 14), .int (u 15)])), ((a 5), .inl (G.2 1, 121, .inl f))]) (w1 := rfW G (a 4) h b) (ws' := [((a 0), .inr (7, [.int (u 0), .ref (a 1), .int (u 2), .ref (a 3), .ref (a 4), .ref (a 5), .ref (a 6), .int (u 7), .ref (a 8), .ref (a 9), .int (u 10), .int (u 11), .int (u 12), .long x, .int (u 14), .int (u 15)])), ((a 4), .inl (G.2 1, 121, .inl (flt h b))), ((a 5), .inl (G.2 1, 121, .inl f))]) ⟨hx, hb, hml, hown, hts⟩ (c_canGo l G (a 4) h b P t S hG.1 (nI j) (zPl_nI hj8) ) (va_cwS 2 hts gX7_command_X7_canGo rfl rfl rfl (by decide +kernel) ⟨Nat.le_of_ble_eq_true rfl, Nat.le_of_ble_eq_true rfl⟩) rfl hl.1 rfl (Nat.le_of_ble_eq_true rfl) dX7_command_139 ⟨Nat.le_of_ble_eq_true rfl, Nat.le_of_ble_eq_true rfl⟩ hK hE hA hM (pm_at 3 [1] [0, 2] rfl rfl rfl (by decide)) ((pm_at 3 [1] [0, 2] rfl rfl rfl (by decide))).symm (fun H locs hM hz => ?_)
  refine z_ifeq (tgt := 161) hx hb dX7_command_142 (by decide) (fun c_5 => Bool.noConfusion (hc.symm.trans c_5)) (fun c_5 => ?_)
  refine lv_aload_n hx hb dX7_command_145 rfl (lv_at hl 1 rfl) ?_
  refine z_get (ci := 7) (v := .ref (a 4)) (C := RX7) (T := TX7) (N := 16) hx hb hts (by decide +kernel) hown hK hM 0 rfl rfl 4 (by decide) (hts (.fieldLink RX7 16 "ShiftIslesModel" "trial" "[I") (by decide +kernel)) (fun _ h9 => h9) rfl dX7_command_146 ?_
  refine lv_iload hx hb dX7_command_149 (lv_at hl 5 rfl) ?_
  refine z_callS (As := [.ref (a 4), .int (nI j)]) (rest := []) (wc := rfW G (a 4) h b) (wr := [((a 0), .inr (7, [.int (u 0), .ref (a 1), .int (u 2), .ref (a 3), .ref (a 4), .ref (a 5), .ref (a 6), .int (u 7), .ref (a 8), .ref (a 9), .int (u 10), .int (u 11), .int (u 12), .long x, .int (u 14), .int (u 15)])), ((a 5), .inl (G.2 1, 121, .inl f))]) (w1 := [((a 4), .inl (G.2 1, 121, .inl (flt (zEtH h (zGoB b t j) t P) (zEtB h (zGoB b t j) t P))))]) (ws' := [((a 0), .inr (7, [.int (u 0), .ref (a 1), .int (u 2), .ref (a 3), .ref (a 4), .ref (a 5), .ref (a 6), .int (u 7), .ref (a 8), .ref (a 9), .int (u 10), .int (u 11), .int (u 12), .long x, .int (u 14), .int (u 15)])), ((a 4), .inl (G.2 1, 121, .inl (flt (zEtH h (zGoB b t j) t P) (zEtB h (zGoB b t j) t P)))), ((a 5), .inl (G.2 1, 121, .inl f))]) ⟨hx, hb, hml, hown, hts⟩ (c_goOn l G (a 4) h b P t S hG.1 hP0 j hj8) (va_cwS 2 hts gX7_command_X7_goOn rfl rfl rfl (by decide +kernel) ⟨Nat.le_of_ble_eq_true rfl, Nat.le_of_ble_eq_true rfl⟩) rfl hl.1 rfl (Nat.le_of_ble_eq_true rfl) dX7_command_151 ⟨Nat.le_of_ble_eq_true rfl, Nat.le_of_ble_eq_true rfl⟩ hK hE hA hM (pm_at 3 [1] [0, 2] rfl rfl rfl (by decide)) ((pm_at 3 [1] [0, 2] rfl rfl rfl (by decide))).symm (fun H locs hM hz => ?_)
  refine lv_if_lt (tgt := 161) hx hb dX7_command_154 (by decide) (fun c_6 => absurd c_6 (zLr_ge (hG.1.2.2 t (hG.1.2.1 hP0).1) hj8)) (fun c_6 => ?_)
  refine lv_iconst (v := 1) hx hb dX7_command_157 (by decide) ?_
  refine lv_goto (tgt := 162) hx hb dX7_command_158 (by decide) ?_
  exact z_zret hx hb hr hlocks dX7_command_162 hM (Nat.le_of_ble_eq_true rfl) (Nat.le_of_ble_eq_true rfl) (by first | exact Or.inl rfl | exact Or.inr rfl | exact zb_01 _) rfl

set_option maxHeartbeats 4000000 in
set_option maxRecDepth 100000 in
theorem c_cmd2n (l : Launch) (G : zC) (a : Nat → Nat) (u : Nat → Int32) (x : Int64) (f : Nat → Int32) (h : Nat → Int32) (b : Nat → Nat → Int32) (P t S e0 : Nat) (hG : zGs h b P t S e0) (o i j : Nat) (ho9 : o < 10) (hi9 : i < 10) (hj9 : j < 10) (hc : (decide (o = 0) && decide (i = 0) && zMg h b S t (nI j)) = false) : zMet l G yX7_command wsX7_command rmX7_command [.ref (a 0), .int 2, .int (nI o), .int (nI i), .int (nI j)] ([((a 0), .inr (7, [.int (u 0), .ref (a 1), .int (u 2), .ref (a 3), .ref (a 4), .ref (a 5), .ref (a 6), .int (u 7), .ref (a 8), .ref (a 9), .int (u 10), .int (u 11), .int (u 12), .long x, .int (u 14), .int (u 15)])), ((a 4), .inl (G.2 1, 121, .inl (flt h b))), ((a 5), .inl (G.2 1, 121, .inl f))]) (some (.int 0)) ([((a 0), .inr (7, [.int (u 0), .ref (a 1), .int (u 2), .ref (a 3), .ref (a 4), .ref (a 5), .ref (a 6), .int (u 7), .ref (a 8), .ref (a 9), .int (u 10), .int (u 11), .int (u 12), .long x, .int (u 14), .int (u 15)])), ((a 4), .inl (G.2 1, 121, .inl (flt h b))), ((a 5), .inl (G.2 1, 121, .inl f))]) := by
  refine zMet_of (cc := cX7_command) (maxL := 6) (ret := (some .boolean)) (by decide) rfl (Nat.le_of_ble_eq_true rfl) ?_
  intro p e s m below meth c A ls hx hb hr hml hown hts hK hA hE hlocks hin hM hl
  have hown : s.vm.findClass RX7 = some m.cls := hown
  have hM : zM G A s s.heap [] ([((a 0), .inr (7, [.int (u 0), .ref (a 1), .int (u 2), .ref (a 3), .ref (a 4), .ref (a 5), .ref (a 6), .int (u 7), .ref (a 8), .ref (a 9), .int (u 10), .int (u 11), .int (u 12), .long x, .int (u 14), .int (u 15)])), ((a 4), .inl (G.2 1, 121, .inl (flt h b))), ((a 5), .inl (G.2 1, 121, .inl f))]) := hM
  have hl : lv_has ls 6 [(0, .ref (a 0)), (1, .int 2), (2, .int (nI o)), (3, .int (nI i)), (4, .int (nI j))] := hl
  have hP4 := hG.1.1.2.1
  have h6 := hG.1.1.2.2.2.2.1
  have hS := hG.1.1.2.2.2.2.2.1
  refine lv_iload_n hx hb dX7_command_0 rfl (lv_at hl 2 rfl) ?_
  refine lv_if_ne (tgt := 12) hx hb dX7_command_1 (by decide) (fun c_z1 => ?_) (fun c_z1 => ?_)
  · skip
    refine lv_iconst (v := 0) hx hb dX7_command_12 (by decide) ?_
    refine lv_istore (lv' := [(5, .int 0), (0, .ref (a 0)), (1, .int 2), (2, .int (nI o)), (3, .int (nI i)), (4, .int (nI j))]) hx hb dX7_command_13 hl (by decide) rfl (fun ls hl => ?_)
    refine lv_iload_n hx hb dX7_command_15 rfl (lv_at hl 2 rfl) ?_
    refine lv_tableIn (off := 104) (tgt := 120) hx hb dX7_command_16 (by decide) (by decide) rfl (by decide) ?_
    refine lv_iload hx hb dX7_command_120 (lv_at hl 0 rfl) ?_
    refine lv_if_eq (tgt := 161) hx hb dX7_command_122 (by decide) (fun c_1 => ?_) (fun c_1 => absurd rfl c_1)
    refine lv_iconst (v := 0) hx hb dX7_command_161 (by decide) ?_
    exact z_zret hx hb hr hlocks dX7_command_162 hM (Nat.le_of_ble_eq_true rfl) (Nat.le_of_ble_eq_true rfl) (by first | exact Or.inl rfl | exact Or.inr rfl | exact zb_01 _) rfl
  · skip
    refine lv_iload_n hx hb dX7_command_4 rfl (lv_at hl 3 rfl) ?_
    refine lv_if_ne (tgt := 12) hx hb dX7_command_5 (by decide) (fun c_z2 => ?_) (fun c_z2 => ?_)
    · skip
      refine lv_iconst (v := 0) hx hb dX7_command_12 (by decide) ?_
      refine lv_istore (lv' := [(5, .int 0), (0, .ref (a 0)), (1, .int 2), (2, .int (nI o)), (3, .int (nI i)), (4, .int (nI j))]) hx hb dX7_command_13 hl (by decide) rfl (fun ls hl => ?_)
      refine lv_iload_n hx hb dX7_command_15 rfl (lv_at hl 2 rfl) ?_
      refine lv_tableIn (off := 104) (tgt := 120) hx hb dX7_command_16 (by decide) (by decide) rfl (by decide) ?_
      refine lv_iload hx hb dX7_command_120 (lv_at hl 0 rfl) ?_
      refine lv_if_eq (tgt := 161) hx hb dX7_command_122 (by decide) (fun c_2 => ?_) (fun c_2 => absurd rfl c_2)
      refine lv_iconst (v := 0) hx hb dX7_command_161 (by decide) ?_
      exact z_zret hx hb hr hlocks dX7_command_162 hM (Nat.le_of_ble_eq_true rfl) (Nat.le_of_ble_eq_true rfl) (by first | exact Or.inl rfl | exact Or.inr rfl | exact zb_01 _) rfl
    · skip
      refine lv_iconst (v := 1) hx hb dX7_command_8 (by decide) ?_
      refine lv_goto (tgt := 13) hx hb dX7_command_9 (by decide) ?_
      refine lv_istore (lv' := [(5, .int 1), (0, .ref (a 0)), (1, .int 2), (2, .int (nI o)), (3, .int (nI i)), (4, .int (nI j))]) hx hb dX7_command_13 hl (by decide) rfl (fun ls hl => ?_)
      refine lv_iload_n hx hb dX7_command_15 rfl (lv_at hl 2 rfl) ?_
      refine lv_tableIn (off := 104) (tgt := 120) hx hb dX7_command_16 (by decide) (by decide) rfl (by decide) ?_
      refine lv_iload hx hb dX7_command_120 (lv_at hl 0 rfl) ?_
      refine lv_if_eq (tgt := 161) hx hb dX7_command_122 (by decide) (fun c_3 => absurd c_3 (by decide)) (fun c_3 => ?_)
      refine lv_iload hx hb dX7_command_125 (lv_at hl 5 rfl) ?_
      refine z_callS (As := [.int (nI j)]) (rest := []) (wc := []) (wr := [((a 0), .inr (7, [.int (u 0), .ref (a 1), .int (u 2), .ref (a 3), .ref (a 4), .ref (a 5), .ref (a 6), .int (u 7), .ref (a 8), .ref (a 9), .int (u 10), .int (u 11), .int (u 12), .long x, .int (u 14), .int (u 15)])), ((a 4), .inl (G.2 1, 121, .inl (flt h b))), ((a 5), .inl (G.2 1, 121, .inl f))]) (w1 := []) (ws' := [((a 0), .inr (7, [.int (u 0), .ref (a 1), .int (u 2), .ref (a 3), .ref (a 4), .ref (a 5), .ref (a 6), .int (u 7), .ref (a 8), .ref (a 9), .int (u 10), .int (u 11), .int (u 12), .long x, .int (u 14), .int (u 15)])), ((a 4), .inl (G.2 1, 121, .inl (flt h b))), ((a 5), .inl (G.2 1, 121, .inl f))]) ⟨hx, hb, hml, hown, hts⟩ (c_r_isPlace l G (nI j)) (va_cwS 1 hts gX7_command_X7_isPlace rfl rfl rfl (by decide +kernel) ⟨Nat.le_of_ble_eq_true rfl, Nat.le_of_ble_eq_true rfl⟩) rfl hl.1 rfl (Nat.le_of_ble_eq_true rfl) dX7_command_127 ⟨Nat.le_of_ble_eq_true rfl, Nat.le_of_ble_eq_true rfl⟩ hK hE hA hM (List.Perm.refl _) (List.Perm.refl _) (fun H locs hM hz => ?_)
      refine z_ifeq (tgt := 161) hx hb dX7_command_130 (by decide) (fun c_n => ?_) (fun c_n => ?_)
      · skip
        refine lv_iconst (v := 0) hx hb dX7_command_161 (by decide) ?_
        exact z_zret hx hb hr hlocks dX7_command_162 hM (Nat.le_of_ble_eq_true rfl) (Nat.le_of_ble_eq_true rfl) (by first | exact Or.inl rfl | exact Or.inr rfl | exact zb_01 _) rfl
      · skip
        refine lv_aload_n hx hb dX7_command_133 rfl (lv_at hl 1 rfl) ?_
        refine z_get (ci := 7) (v := .ref (a 4)) (C := RX7) (T := TX7) (N := 16) hx hb hts (by decide +kernel) hown hK hM 0 rfl rfl 4 (by decide) (hts (.fieldLink RX7 16 "ShiftIslesModel" "trial" "[I") (by decide +kernel)) (fun _ h9 => h9) rfl dX7_command_134 ?_
        refine lv_iload hx hb dX7_command_137 (lv_at hl 5 rfl) ?_
        refine z_callS (As := [.ref (a 4), .int (nI j)]) (rest := []) (wc := rfW G (a 4) h b) (wr := [((a 0), .inr (7, [.int (u 0), .ref (a 1), .int (u 2), .ref (a 3), .ref (a 4), .ref (a 5), .ref (a 6), .int (u 7), .ref (a 8), .ref (a 9), .int (u 10), .int (u 11), .int (u 12), .long x, .int (u 14), .int (u 15)])), ((a 5), .inl (G.2 1, 121, .inl f))]) (w1 := rfW G (a 4) h b) (ws' := [((a 0), .inr (7, [.int (u 0), .ref (a 1), .int (u 2), .ref (a 3), .ref (a 4), .ref (a 5), .ref (a 6), .int (u 7), .ref (a 8), .ref (a 9), .int (u 10), .int (u 11), .int (u 12), .long x, .int (u 14), .int (u 15)])), ((a 4), .inl (G.2 1, 121, .inl (flt h b))), ((a 5), .inl (G.2 1, 121, .inl f))]) ⟨hx, hb, hml, hown, hts⟩ (c_canGo l G (a 4) h b P t S hG.1 (nI j) c_n ) (va_cwS 2 hts gX7_command_X7_canGo rfl rfl rfl (by decide +kernel) ⟨Nat.le_of_ble_eq_true rfl, Nat.le_of_ble_eq_true rfl⟩) rfl hl.1 rfl (Nat.le_of_ble_eq_true rfl) dX7_command_139 ⟨Nat.le_of_ble_eq_true rfl, Nat.le_of_ble_eq_true rfl⟩ hK hE hA hM (pm_at 3 [1] [0, 2] rfl rfl rfl (by decide)) ((pm_at 3 [1] [0, 2] rfl rfl rfl (by decide))).symm (fun H locs hM hz => ?_)
        refine z_ifeq (tgt := 161) hx hb dX7_command_142 (by decide) (fun c_4 => ?_) (fun c_4 => (by rw [decide_eq_true ((nI_eq (a := o) (b := 0) (by omega) (by decide)).mp c_z1), decide_eq_true ((nI_eq (a := i) (b := 0) (by omega) (by decide)).mp c_z2), c_4] at hc; exact Bool.noConfusion hc))
        refine lv_iconst (v := 0) hx hb dX7_command_161 (by decide) ?_
        exact z_zret hx hb hr hlocks dX7_command_162 hM (Nat.le_of_ble_eq_true rfl) (Nat.le_of_ble_eq_true rfl) (by first | exact Or.inl rfl | exact Or.inr rfl | exact zb_01 _) rfl

set_option maxHeartbeats 4000000 in
set_option maxRecDepth 100000 in
theorem c_cmd3y (l : Launch) (G : zC) (a : Nat → Nat) (u : Nat → Int32) (x : Int64) (f : Nat → Int32) (h : Nat → Int32) (b : Nat → Nat → Int32) (P t S e0 : Nat) (hG : zGs h b P t S e0) (o i j : Nat) (ho9 : o < 10) (hi9 : i < 10) (hj9 : j < 10) (hl9 : zLi (nI j) = true) (hc : zMe h = true) : zMet l G yX7_command wsX7_command rmX7_command [.ref (a 0), .int 3, .int (nI 0), .int (nI 0), .int (nI j)] ([((a 0), .inr (7, [.int (u 0), .ref (a 1), .int (u 2), .ref (a 3), .ref (a 4), .ref (a 5), .ref (a 6), .int (u 7), .ref (a 8), .ref (a 9), .int (u 10), .int (u 11), .int (u 12), .long x, .int (u 14), .int (u 15)])), ((a 4), .inl (G.2 1, 121, .inl (flt h b))), ((a 5), .inl (G.2 1, 121, .inl f))]) (some (.int 1)) ([((a 0), .inr (7, [.int (u 0), .ref (a 1), .int (u 2), .ref (a 3), .ref (a 4), .ref (a 5), .ref (a 6), .int (u 7), .ref (a 8), .ref (a 9), .int (u 10), .int (u 11), .int (u 12), .long x, .int (u 14), .int (u 15)])), ((a 4), .inl (G.2 1, 121, .inl (flt (zEtH h (zLkB b t (nI j)) t P) (zEtB h (zLkB b t (nI j)) t P)))), ((a 5), .inl (G.2 1, 121, .inl f))]) := by
  refine zMet_of (cc := cX7_command) (maxL := 6) (ret := (some .boolean)) (by decide) rfl (Nat.le_of_ble_eq_true rfl) ?_
  intro p e s m below meth c A ls hx hb hr hml hown hts hK hA hE hlocks hin hM hl
  have hown : s.vm.findClass RX7 = some m.cls := hown
  have hM : zM G A s s.heap [] ([((a 0), .inr (7, [.int (u 0), .ref (a 1), .int (u 2), .ref (a 3), .ref (a 4), .ref (a 5), .ref (a 6), .int (u 7), .ref (a 8), .ref (a 9), .int (u 10), .int (u 11), .int (u 12), .long x, .int (u 14), .int (u 15)])), ((a 4), .inl (G.2 1, 121, .inl (flt h b))), ((a 5), .inl (G.2 1, 121, .inl f))]) := hM
  have hl : lv_has ls 6 [(0, .ref (a 0)), (1, .int 3), (2, .int (nI 0)), (3, .int (nI 0)), (4, .int (nI j))] := hl
  have hP4 := hG.1.1.2.1
  have h6 := hG.1.1.2.2.2.2.1
  have hS := hG.1.1.2.2.2.2.2.1
  have hP0 := zRu_P hG.1.1.1 hP4 (zMe_r hc)
  refine lv_iload_n hx hb dX7_command_0 rfl (lv_at hl 2 rfl) ?_
  refine lv_if_ne (tgt := 12) hx hb dX7_command_1 (by decide) (fun c_1 => absurd rfl c_1) (fun c_1 => ?_)
  refine lv_iload_n hx hb dX7_command_4 rfl (lv_at hl 3 rfl) ?_
  refine lv_if_ne (tgt := 12) hx hb dX7_command_5 (by decide) (fun c_2 => absurd rfl c_2) (fun c_2 => ?_)
  refine lv_iconst (v := 1) hx hb dX7_command_8 (by decide) ?_
  refine lv_goto (tgt := 13) hx hb dX7_command_9 (by decide) ?_
  refine lv_istore (lv' := [(5, .int 1), (0, .ref (a 0)), (1, .int 3), (2, .int (nI 0)), (3, .int (nI 0)), (4, .int (nI j))]) hx hb dX7_command_13 hl (by decide) rfl (fun ls hl => ?_)
  refine lv_iload_n hx hb dX7_command_15 rfl (lv_at hl 2 rfl) ?_
  refine lv_tableIn (off := 147) (tgt := 163) hx hb dX7_command_16 (by decide) (by decide) rfl (by decide) ?_
  refine lv_iload hx hb dX7_command_163 (lv_at hl 0 rfl) ?_
  refine lv_if_eq (tgt := 203) hx hb dX7_command_165 (by decide) (fun c_3 => absurd c_3 (by decide)) (fun c_3 => ?_)
  refine lv_iload hx hb dX7_command_168 (lv_at hl 5 rfl) ?_
  refine z_callS (As := [.int (nI j)]) (rest := []) (wc := []) (wr := [((a 0), .inr (7, [.int (u 0), .ref (a 1), .int (u 2), .ref (a 3), .ref (a 4), .ref (a 5), .ref (a 6), .int (u 7), .ref (a 8), .ref (a 9), .int (u 10), .int (u 11), .int (u 12), .long x, .int (u 14), .int (u 15)])), ((a 4), .inl (G.2 1, 121, .inl (flt h b))), ((a 5), .inl (G.2 1, 121, .inl f))]) (w1 := []) (ws' := [((a 0), .inr (7, [.int (u 0), .ref (a 1), .int (u 2), .ref (a 3), .ref (a 4), .ref (a 5), .ref (a 6), .int (u 7), .ref (a 8), .ref (a 9), .int (u 10), .int (u 11), .int (u 12), .long x, .int (u 14), .int (u 15)])), ((a 4), .inl (G.2 1, 121, .inl (flt h b))), ((a 5), .inl (G.2 1, 121, .inl f))]) ⟨hx, hb, hml, hown, hts⟩ (c_r_isLine l G (nI j)) (va_cwS 1 hts gX7_command_X7_isLine rfl rfl rfl (by decide +kernel) ⟨Nat.le_of_ble_eq_true rfl, Nat.le_of_ble_eq_true rfl⟩) rfl hl.1 rfl (Nat.le_of_ble_eq_true rfl) dX7_command_170 ⟨Nat.le_of_ble_eq_true rfl, Nat.le_of_ble_eq_true rfl⟩ hK hE hA hM (List.Perm.refl _) (List.Perm.refl _) (fun H locs hM hz => ?_)
  refine z_ifeq (tgt := 203) hx hb dX7_command_173 (by decide) (fun c_4 => Bool.noConfusion (hl9.symm.trans c_4)) (fun c_4 => ?_)
  refine lv_aload_n hx hb dX7_command_176 rfl (lv_at hl 1 rfl) ?_
  refine z_get (ci := 7) (v := .ref (a 4)) (C := RX7) (T := TX7) (N := 16) hx hb hts (by decide +kernel) hown hK hM 0 rfl rfl 4 (by decide) (hts (.fieldLink RX7 16 "ShiftIslesModel" "trial" "[I") (by decide +kernel)) (fun _ h9 => h9) rfl dX7_command_177 ?_
  refine z_callS (As := [.ref (a 4)]) (rest := []) (wc := rfW G (a 4) h b) (wr := [((a 0), .inr (7, [.int (u 0), .ref (a 1), .int (u 2), .ref (a 3), .ref (a 4), .ref (a 5), .ref (a 6), .int (u 7), .ref (a 8), .ref (a 9), .int (u 10), .int (u 11), .int (u 12), .long x, .int (u 14), .int (u 15)])), ((a 5), .inl (G.2 1, 121, .inl f))]) (w1 := rfW G (a 4) h b) (ws' := [((a 0), .inr (7, [.int (u 0), .ref (a 1), .int (u 2), .ref (a 3), .ref (a 4), .ref (a 5), .ref (a 6), .int (u 7), .ref (a 8), .ref (a 9), .int (u 10), .int (u 11), .int (u 12), .long x, .int (u 14), .int (u 15)])), ((a 4), .inl (G.2 1, 121, .inl (flt h b))), ((a 5), .inl (G.2 1, 121, .inl f))]) ⟨hx, hb, hml, hown, hts⟩ (c_canLock l G (a 4) h b P t S hG.1 ) (va_cwS 1 hts gX7_command_X7_canLock rfl rfl rfl (by decide +kernel) ⟨Nat.le_of_ble_eq_true rfl, Nat.le_of_ble_eq_true rfl⟩) rfl hl.1 rfl (Nat.le_of_ble_eq_true rfl) dX7_command_180 ⟨Nat.le_of_ble_eq_true rfl, Nat.le_of_ble_eq_true rfl⟩ hK hE hA hM (pm_at 3 [1] [0, 2] rfl rfl rfl (by decide)) ((pm_at 3 [1] [0, 2] rfl rfl rfl (by decide))).symm (fun H locs hM hz => ?_)
  refine z_ifeq (tgt := 203) hx hb dX7_command_183 (by decide) (fun c_5 => Bool.noConfusion (hc.symm.trans c_5)) (fun c_5 => ?_)
  refine lv_aload_n hx hb dX7_command_186 rfl (lv_at hl 1 rfl) ?_
  refine z_get (ci := 7) (v := .ref (a 4)) (C := RX7) (T := TX7) (N := 16) hx hb hts (by decide +kernel) hown hK hM 0 rfl rfl 4 (by decide) (hts (.fieldLink RX7 16 "ShiftIslesModel" "trial" "[I") (by decide +kernel)) (fun _ h9 => h9) rfl dX7_command_187 ?_
  refine lv_iload hx hb dX7_command_190 (lv_at hl 5 rfl) ?_
  refine z_callS (As := [.ref (a 4), .int (nI j)]) (rest := []) (wc := rfW G (a 4) h b) (wr := [((a 0), .inr (7, [.int (u 0), .ref (a 1), .int (u 2), .ref (a 3), .ref (a 4), .ref (a 5), .ref (a 6), .int (u 7), .ref (a 8), .ref (a 9), .int (u 10), .int (u 11), .int (u 12), .long x, .int (u 14), .int (u 15)])), ((a 5), .inl (G.2 1, 121, .inl f))]) (w1 := [((a 4), .inl (G.2 1, 121, .inl (flt (zEtH h (zLkB b t (nI j)) t P) (zEtB h (zLkB b t (nI j)) t P))))]) (ws' := [((a 0), .inr (7, [.int (u 0), .ref (a 1), .int (u 2), .ref (a 3), .ref (a 4), .ref (a 5), .ref (a 6), .int (u 7), .ref (a 8), .ref (a 9), .int (u 10), .int (u 11), .int (u 12), .long x, .int (u 14), .int (u 15)])), ((a 4), .inl (G.2 1, 121, .inl (flt (zEtH h (zLkB b t (nI j)) t P) (zEtB h (zLkB b t (nI j)) t P)))), ((a 5), .inl (G.2 1, 121, .inl f))]) ⟨hx, hb, hml, hown, hts⟩ (c_r_lockOn l G (a 4) h b P t S hG.1 hP0 (nI j)) (va_cwS 2 hts gX7_command_X7_lockOn rfl rfl rfl (by decide +kernel) ⟨Nat.le_of_ble_eq_true rfl, Nat.le_of_ble_eq_true rfl⟩) rfl hl.1 rfl (Nat.le_of_ble_eq_true rfl) dX7_command_192 ⟨Nat.le_of_ble_eq_true rfl, Nat.le_of_ble_eq_true rfl⟩ hK hE hA hM (pm_at 3 [1] [0, 2] rfl rfl rfl (by decide)) ((pm_at 3 [1] [0, 2] rfl rfl rfl (by decide))).symm (fun H locs hM hz => ?_)
  refine lv_iconst (v := (-1)) hx hb dX7_command_195 (by decide) ?_
  refine lv_icmp_lt (tgt := 203) hx hb dX7_command_196 (by decide) (fun c_6 => absurd c_6 (zLk_ge hG (zMe_r hc))) (fun c_6 => ?_)
  refine lv_iconst (v := 1) hx hb dX7_command_199 (by decide) ?_
  refine lv_goto (tgt := 204) hx hb dX7_command_200 (by decide) ?_
  exact z_zret hx hb hr hlocks dX7_command_204 hM (Nat.le_of_ble_eq_true rfl) (Nat.le_of_ble_eq_true rfl) (by first | exact Or.inl rfl | exact Or.inr rfl | exact zb_01 _) rfl

set_option maxHeartbeats 4000000 in
set_option maxRecDepth 100000 in
theorem c_cmd3n (l : Launch) (G : zC) (a : Nat → Nat) (u : Nat → Int32) (x : Int64) (f : Nat → Int32) (h : Nat → Int32) (b : Nat → Nat → Int32) (P t S e0 : Nat) (hG : zGs h b P t S e0) (o i j : Nat) (ho9 : o < 10) (hi9 : i < 10) (hj9 : j < 10) (hc : (decide (o = 0) && decide (i = 0) && zLi (nI j) && zMe h) = false) : zMet l G yX7_command wsX7_command rmX7_command [.ref (a 0), .int 3, .int (nI o), .int (nI i), .int (nI j)] ([((a 0), .inr (7, [.int (u 0), .ref (a 1), .int (u 2), .ref (a 3), .ref (a 4), .ref (a 5), .ref (a 6), .int (u 7), .ref (a 8), .ref (a 9), .int (u 10), .int (u 11), .int (u 12), .long x, .int (u 14), .int (u 15)])), ((a 4), .inl (G.2 1, 121, .inl (flt h b))), ((a 5), .inl (G.2 1, 121, .inl f))]) (some (.int 0)) ([((a 0), .inr (7, [.int (u 0), .ref (a 1), .int (u 2), .ref (a 3), .ref (a 4), .ref (a 5), .ref (a 6), .int (u 7), .ref (a 8), .ref (a 9), .int (u 10), .int (u 11), .int (u 12), .long x, .int (u 14), .int (u 15)])), ((a 4), .inl (G.2 1, 121, .inl (flt h b))), ((a 5), .inl (G.2 1, 121, .inl f))]) := by
  refine zMet_of (cc := cX7_command) (maxL := 6) (ret := (some .boolean)) (by decide) rfl (Nat.le_of_ble_eq_true rfl) ?_
  intro p e s m below meth c A ls hx hb hr hml hown hts hK hA hE hlocks hin hM hl
  have hown : s.vm.findClass RX7 = some m.cls := hown
  have hM : zM G A s s.heap [] ([((a 0), .inr (7, [.int (u 0), .ref (a 1), .int (u 2), .ref (a 3), .ref (a 4), .ref (a 5), .ref (a 6), .int (u 7), .ref (a 8), .ref (a 9), .int (u 10), .int (u 11), .int (u 12), .long x, .int (u 14), .int (u 15)])), ((a 4), .inl (G.2 1, 121, .inl (flt h b))), ((a 5), .inl (G.2 1, 121, .inl f))]) := hM
  have hl : lv_has ls 6 [(0, .ref (a 0)), (1, .int 3), (2, .int (nI o)), (3, .int (nI i)), (4, .int (nI j))] := hl
  have hP4 := hG.1.1.2.1
  have h6 := hG.1.1.2.2.2.2.1
  have hS := hG.1.1.2.2.2.2.2.1
  refine lv_iload_n hx hb dX7_command_0 rfl (lv_at hl 2 rfl) ?_
  refine lv_if_ne (tgt := 12) hx hb dX7_command_1 (by decide) (fun c_z1 => ?_) (fun c_z1 => ?_)
  · skip
    refine lv_iconst (v := 0) hx hb dX7_command_12 (by decide) ?_
    refine lv_istore (lv' := [(5, .int 0), (0, .ref (a 0)), (1, .int 3), (2, .int (nI o)), (3, .int (nI i)), (4, .int (nI j))]) hx hb dX7_command_13 hl (by decide) rfl (fun ls hl => ?_)
    refine lv_iload_n hx hb dX7_command_15 rfl (lv_at hl 2 rfl) ?_
    refine lv_tableIn (off := 147) (tgt := 163) hx hb dX7_command_16 (by decide) (by decide) rfl (by decide) ?_
    refine lv_iload hx hb dX7_command_163 (lv_at hl 0 rfl) ?_
    refine lv_if_eq (tgt := 203) hx hb dX7_command_165 (by decide) (fun c_1 => ?_) (fun c_1 => absurd rfl c_1)
    refine lv_iconst (v := 0) hx hb dX7_command_203 (by decide) ?_
    exact z_zret hx hb hr hlocks dX7_command_204 hM (Nat.le_of_ble_eq_true rfl) (Nat.le_of_ble_eq_true rfl) (by first | exact Or.inl rfl | exact Or.inr rfl | exact zb_01 _) rfl
  · skip
    refine lv_iload_n hx hb dX7_command_4 rfl (lv_at hl 3 rfl) ?_
    refine lv_if_ne (tgt := 12) hx hb dX7_command_5 (by decide) (fun c_z2 => ?_) (fun c_z2 => ?_)
    · skip
      refine lv_iconst (v := 0) hx hb dX7_command_12 (by decide) ?_
      refine lv_istore (lv' := [(5, .int 0), (0, .ref (a 0)), (1, .int 3), (2, .int (nI o)), (3, .int (nI i)), (4, .int (nI j))]) hx hb dX7_command_13 hl (by decide) rfl (fun ls hl => ?_)
      refine lv_iload_n hx hb dX7_command_15 rfl (lv_at hl 2 rfl) ?_
      refine lv_tableIn (off := 147) (tgt := 163) hx hb dX7_command_16 (by decide) (by decide) rfl (by decide) ?_
      refine lv_iload hx hb dX7_command_163 (lv_at hl 0 rfl) ?_
      refine lv_if_eq (tgt := 203) hx hb dX7_command_165 (by decide) (fun c_2 => ?_) (fun c_2 => absurd rfl c_2)
      refine lv_iconst (v := 0) hx hb dX7_command_203 (by decide) ?_
      exact z_zret hx hb hr hlocks dX7_command_204 hM (Nat.le_of_ble_eq_true rfl) (Nat.le_of_ble_eq_true rfl) (by first | exact Or.inl rfl | exact Or.inr rfl | exact zb_01 _) rfl
    · skip
      refine lv_iconst (v := 1) hx hb dX7_command_8 (by decide) ?_
      refine lv_goto (tgt := 13) hx hb dX7_command_9 (by decide) ?_
      refine lv_istore (lv' := [(5, .int 1), (0, .ref (a 0)), (1, .int 3), (2, .int (nI o)), (3, .int (nI i)), (4, .int (nI j))]) hx hb dX7_command_13 hl (by decide) rfl (fun ls hl => ?_)
      refine lv_iload_n hx hb dX7_command_15 rfl (lv_at hl 2 rfl) ?_
      refine lv_tableIn (off := 147) (tgt := 163) hx hb dX7_command_16 (by decide) (by decide) rfl (by decide) ?_
      refine lv_iload hx hb dX7_command_163 (lv_at hl 0 rfl) ?_
      refine lv_if_eq (tgt := 203) hx hb dX7_command_165 (by decide) (fun c_3 => absurd c_3 (by decide)) (fun c_3 => ?_)
      refine lv_iload hx hb dX7_command_168 (lv_at hl 5 rfl) ?_
      refine z_callS (As := [.int (nI j)]) (rest := []) (wc := []) (wr := [((a 0), .inr (7, [.int (u 0), .ref (a 1), .int (u 2), .ref (a 3), .ref (a 4), .ref (a 5), .ref (a 6), .int (u 7), .ref (a 8), .ref (a 9), .int (u 10), .int (u 11), .int (u 12), .long x, .int (u 14), .int (u 15)])), ((a 4), .inl (G.2 1, 121, .inl (flt h b))), ((a 5), .inl (G.2 1, 121, .inl f))]) (w1 := []) (ws' := [((a 0), .inr (7, [.int (u 0), .ref (a 1), .int (u 2), .ref (a 3), .ref (a 4), .ref (a 5), .ref (a 6), .int (u 7), .ref (a 8), .ref (a 9), .int (u 10), .int (u 11), .int (u 12), .long x, .int (u 14), .int (u 15)])), ((a 4), .inl (G.2 1, 121, .inl (flt h b))), ((a 5), .inl (G.2 1, 121, .inl f))]) ⟨hx, hb, hml, hown, hts⟩ (c_r_isLine l G (nI j)) (va_cwS 1 hts gX7_command_X7_isLine rfl rfl rfl (by decide +kernel) ⟨Nat.le_of_ble_eq_true rfl, Nat.le_of_ble_eq_true rfl⟩) rfl hl.1 rfl (Nat.le_of_ble_eq_true rfl) dX7_command_170 ⟨Nat.le_of_ble_eq_true rfl, Nat.le_of_ble_eq_true rfl⟩ hK hE hA hM (List.Perm.refl _) (List.Perm.refl _) (fun H locs hM hz => ?_)
      refine z_ifeq (tgt := 203) hx hb dX7_command_173 (by decide) (fun c_n => ?_) (fun c_n => ?_)
      · skip
        refine lv_iconst (v := 0) hx hb dX7_command_203 (by decide) ?_
        exact z_zret hx hb hr hlocks dX7_command_204 hM (Nat.le_of_ble_eq_true rfl) (Nat.le_of_ble_eq_true rfl) (by first | exact Or.inl rfl | exact Or.inr rfl | exact zb_01 _) rfl
      · skip
        refine lv_aload_n hx hb dX7_command_176 rfl (lv_at hl 1 rfl) ?_
        refine z_get (ci := 7) (v := .ref (a 4)) (C := RX7) (T := TX7) (N := 16) hx hb hts (by decide +kernel) hown hK hM 0 rfl rfl 4 (by decide) (hts (.fieldLink RX7 16 "ShiftIslesModel" "trial" "[I") (by decide +kernel)) (fun _ h9 => h9) rfl dX7_command_177 ?_
        refine z_callS (As := [.ref (a 4)]) (rest := []) (wc := rfW G (a 4) h b) (wr := [((a 0), .inr (7, [.int (u 0), .ref (a 1), .int (u 2), .ref (a 3), .ref (a 4), .ref (a 5), .ref (a 6), .int (u 7), .ref (a 8), .ref (a 9), .int (u 10), .int (u 11), .int (u 12), .long x, .int (u 14), .int (u 15)])), ((a 5), .inl (G.2 1, 121, .inl f))]) (w1 := rfW G (a 4) h b) (ws' := [((a 0), .inr (7, [.int (u 0), .ref (a 1), .int (u 2), .ref (a 3), .ref (a 4), .ref (a 5), .ref (a 6), .int (u 7), .ref (a 8), .ref (a 9), .int (u 10), .int (u 11), .int (u 12), .long x, .int (u 14), .int (u 15)])), ((a 4), .inl (G.2 1, 121, .inl (flt h b))), ((a 5), .inl (G.2 1, 121, .inl f))]) ⟨hx, hb, hml, hown, hts⟩ (c_canLock l G (a 4) h b P t S hG.1 ) (va_cwS 1 hts gX7_command_X7_canLock rfl rfl rfl (by decide +kernel) ⟨Nat.le_of_ble_eq_true rfl, Nat.le_of_ble_eq_true rfl⟩) rfl hl.1 rfl (Nat.le_of_ble_eq_true rfl) dX7_command_180 ⟨Nat.le_of_ble_eq_true rfl, Nat.le_of_ble_eq_true rfl⟩ hK hE hA hM (pm_at 3 [1] [0, 2] rfl rfl rfl (by decide)) ((pm_at 3 [1] [0, 2] rfl rfl rfl (by decide))).symm (fun H locs hM hz => ?_)
        refine z_ifeq (tgt := 203) hx hb dX7_command_183 (by decide) (fun c_4 => ?_) (fun c_4 => (by rw [decide_eq_true ((nI_eq (a := o) (b := 0) (by omega) (by decide)).mp c_z1), decide_eq_true ((nI_eq (a := i) (b := 0) (by omega) (by decide)).mp c_z2), c_n, c_4] at hc; exact Bool.noConfusion hc))
        refine lv_iconst (v := 0) hx hb dX7_command_203 (by decide) ?_
        exact z_zret hx hb hr hlocks dX7_command_204 hM (Nat.le_of_ble_eq_true rfl) (Nat.le_of_ble_eq_true rfl) (by first | exact Or.inl rfl | exact Or.inr rfl | exact zb_01 _) rfl

set_option maxHeartbeats 4000000 in
set_option maxRecDepth 100000 in
theorem c_cmd4y (l : Launch) (G : zC) (a : Nat → Nat) (u : Nat → Int32) (x : Int64) (f : Nat → Int32) (h : Nat → Int32) (b : Nat → Nat → Int32) (P t S e0 : Nat) (hG : zGs h b P t S e0) (o i j : Nat) (ho9 : o < 10) (hi9 : i < 10) (hj9 : j < 10) (hru : zRu h = true) : zMet l G yX7_command wsX7_command rmX7_command [.ref (a 0), .int 4, .int (nI 0), .int (nI 0), .int (nI 0)] ([((a 0), .inr (7, [.int (u 0), .ref (a 1), .int (u 2), .ref (a 3), .ref (a 4), .ref (a 5), .ref (a 6), .int (u 7), .ref (a 8), .ref (a 9), .int (u 10), .int (u 11), .int (u 12), .long x, .int (u 14), .int (u 15)])), ((a 4), .inl (G.2 1, 121, .inl (flt h b))), ((a 5), .inl (G.2 1, 121, .inl f))]) (some (.int 1)) ([((a 0), .inr (7, [.int (u 0), .ref (a 1), .int (u 2), .ref (a 3), .ref (a 4), .ref (a 5), .ref (a 6), .int (u 7), .ref (a 8), .ref (a 9), .int (if h 2 = 0 then (zFs h b S P (u 11) (u 12) f).1 else u 10), .int (if h 2 = 0 then (zFs h b S P (u 11) (u 12) f).2.1 else u 11), .int (if h 2 = 0 then (zFs h b S P (u 11) (u 12) f).2.2.1 else u 12), .long x, .int (u 14), .int (u 15)])), ((a 4), .inl (G.2 1, 121, .inl (flt (zFtH h b P t S zZ) (zFtB h b P t S zZ)))), ((a 5), .inl (G.2 1, 121, .inl (if h 2 = 0 then (zFs h b S P (u 11) (u 12) f).2.2.2.2 else f)))]) := by
  refine zMet_of (cc := cX7_command) (maxL := 6) (ret := (some .boolean)) (by decide) rfl (Nat.le_of_ble_eq_true rfl) ?_
  intro p e s m below meth c A ls hx hb hr hml hown hts hK hA hE hlocks hin hM hl
  have hown : s.vm.findClass RX7 = some m.cls := hown
  have hM : zM G A s s.heap [] ([((a 0), .inr (7, [.int (u 0), .ref (a 1), .int (u 2), .ref (a 3), .ref (a 4), .ref (a 5), .ref (a 6), .int (u 7), .ref (a 8), .ref (a 9), .int (u 10), .int (u 11), .int (u 12), .long x, .int (u 14), .int (u 15)])), ((a 4), .inl (G.2 1, 121, .inl (flt h b))), ((a 5), .inl (G.2 1, 121, .inl f))]) := hM
  have hl : lv_has ls 6 [(0, .ref (a 0)), (1, .int 4), (2, .int (nI 0)), (3, .int (nI 0)), (4, .int (nI 0))] := hl
  have hP4 := hG.1.1.2.1
  have h6 := hG.1.1.2.2.2.2.1
  have hS := hG.1.1.2.2.2.2.2.1
  have hP0 := zRu_P hG.1.1.1 hP4 hru
  refine lv_iload_n hx hb dX7_command_0 rfl (lv_at hl 2 rfl) ?_
  refine lv_if_ne (tgt := 12) hx hb dX7_command_1 (by decide) (fun c_1 => absurd rfl c_1) (fun c_1 => ?_)
  refine lv_iload_n hx hb dX7_command_4 rfl (lv_at hl 3 rfl) ?_
  refine lv_if_ne (tgt := 12) hx hb dX7_command_5 (by decide) (fun c_2 => absurd rfl c_2) (fun c_2 => ?_)
  refine lv_iconst (v := 1) hx hb dX7_command_8 (by decide) ?_
  refine lv_goto (tgt := 13) hx hb dX7_command_9 (by decide) ?_
  refine lv_istore (lv' := [(5, .int 1), (0, .ref (a 0)), (1, .int 4), (2, .int (nI 0)), (3, .int (nI 0)), (4, .int (nI 0))]) hx hb dX7_command_13 hl (by decide) rfl (fun ls hl => ?_)
  refine lv_iload_n hx hb dX7_command_15 rfl (lv_at hl 2 rfl) ?_
  refine lv_tableIn (off := 189) (tgt := 205) hx hb dX7_command_16 (by decide) (by decide) rfl (by decide) ?_
  refine lv_iload hx hb dX7_command_205 (lv_at hl 0 rfl) ?_
  refine lv_if_eq (tgt := 240) hx hb dX7_command_207 (by decide) (fun c_3 => absurd c_3 (by decide)) (fun c_3 => ?_)
  refine lv_iload hx hb dX7_command_210 (lv_at hl 5 rfl) ?_
  refine lv_if_ne (tgt := 240) hx hb dX7_command_212 (by decide) (fun c_4 => absurd rfl c_4) (fun c_4 => ?_)
  refine lv_aload_n hx hb dX7_command_215 rfl (lv_at hl 1 rfl) ?_
  refine z_get (ci := 7) (v := .ref (a 4)) (C := RX7) (T := TX7) (N := 16) hx hb hts (by decide +kernel) hown hK hM 0 rfl rfl 4 (by decide) (hts (.fieldLink RX7 16 "ShiftIslesModel" "trial" "[I") (by decide +kernel)) (fun _ h9 => h9) rfl dX7_command_216 ?_
  refine z_callS (As := [.ref (a 4)]) (rest := []) (wc := rfW G (a 4) h b) (wr := [((a 0), .inr (7, [.int (u 0), .ref (a 1), .int (u 2), .ref (a 3), .ref (a 4), .ref (a 5), .ref (a 6), .int (u 7), .ref (a 8), .ref (a 9), .int (u 10), .int (u 11), .int (u 12), .long x, .int (u 14), .int (u 15)])), ((a 5), .inl (G.2 1, 121, .inl f))]) (w1 := rfW G (a 4) h b) (ws' := [((a 0), .inr (7, [.int (u 0), .ref (a 1), .int (u 2), .ref (a 3), .ref (a 4), .ref (a 5), .ref (a 6), .int (u 7), .ref (a 8), .ref (a 9), .int (u 10), .int (u 11), .int (u 12), .long x, .int (u 14), .int (u 15)])), ((a 4), .inl (G.2 1, 121, .inl (flt h b))), ((a 5), .inl (G.2 1, 121, .inl f))]) ⟨hx, hb, hml, hown, hts⟩ (c_r_isOn l G (a 4) h b  ) (va_cwS 1 hts gX7_command_X7_isOn rfl rfl rfl (by decide +kernel) ⟨Nat.le_of_ble_eq_true rfl, Nat.le_of_ble_eq_true rfl⟩) rfl hl.1 rfl (Nat.le_of_ble_eq_true rfl) dX7_command_219 ⟨Nat.le_of_ble_eq_true rfl, Nat.le_of_ble_eq_true rfl⟩ hK hE hA hM (pm_at 3 [1] [0, 2] rfl rfl rfl (by decide)) ((pm_at 3 [1] [0, 2] rfl rfl rfl (by decide))).symm (fun H locs hM hz => ?_)
  refine z_ifeq (tgt := 240) hx hb dX7_command_222 (by decide) (fun c_5 => Bool.noConfusion (hru.symm.trans c_5)) (fun c_5 => ?_)
  refine lv_aload_n hx hb dX7_command_225 rfl (lv_at hl 1 rfl) ?_
  refine lv_aload_n hx hb dX7_command_226 rfl (lv_at hl 1 rfl) ?_
  refine z_get (ci := 7) (v := .ref (a 4)) (C := RX7) (T := TX7) (N := 16) hx hb hts (by decide +kernel) hown hK hM 0 rfl rfl 4 (by decide) (hts (.fieldLink RX7 16 "ShiftIslesModel" "trial" "[I") (by decide +kernel)) (fun _ h9 => h9) rfl dX7_command_227 ?_
  refine z_callV (As := [.ref (a 4)]) (rest := []) (wc := [((a 0), .inr (7, [.int (u 0), .ref (a 1), .int (u 2), .ref (a 3), .ref (a 4), .ref (a 5), .ref (a 6), .int (u 7), .ref (a 8), .ref (a 9), .int (u 10), .int (u 11), .int (u 12), .long x, .int (u 14), .int (u 15)])), ((a 4), .inl (G.2 1, 121, .inl (flt h b))), ((a 5), .inl (G.2 1, 121, .inl f))]) (wr := []) (w1 := [((a 0), .inr (7, [.int (u 0), .ref (a 1), .int (u 2), .ref (a 3), .ref (a 4), .ref (a 5), .ref (a 6), .int (u 7), .ref (a 8), .ref (a 9), .int (if h 2 = 0 then (zFs h b S P (u 11) (u 12) f).1 else u 10), .int (if h 2 = 0 then (zFs h b S P (u 11) (u 12) f).2.1 else u 11), .int (if h 2 = 0 then (zFs h b S P (u 11) (u 12) f).2.2.1 else u 12), .long x, .int (u 14), .int (u 15)])), ((a 4), .inl (G.2 1, 121, .inl (flt (zFtH h b P t S zZ) (zFtB h b P t S zZ)))), ((a 5), .inl (G.2 1, 121, .inl (if h 2 = 0 then (zFs h b S P (u 11) (u 12) f).2.2.2.2 else f)))]) (ws' := [((a 0), .inr (7, [.int (u 0), .ref (a 1), .int (u 2), .ref (a 3), .ref (a 4), .ref (a 5), .ref (a 6), .int (u 7), .ref (a 8), .ref (a 9), .int (if h 2 = 0 then (zFs h b S P (u 11) (u 12) f).1 else u 10), .int (if h 2 = 0 then (zFs h b S P (u 11) (u 12) f).2.1 else u 11), .int (if h 2 = 0 then (zFs h b S P (u 11) (u 12) f).2.2.1 else u 12), .long x, .int (u 14), .int (u 15)])), ((a 4), .inl (G.2 1, 121, .inl (flt (zFtH h b P t S zZ) (zFtB h b P t S zZ)))), ((a 5), .inl (G.2 1, 121, .inl (if h 2 = 0 then (zFs h b S P (u 11) (u 12) f).2.2.2.2 else f)))]) ⟨hx, hb, hml, hown, hts⟩ (c_playOn l G a (upd (upd (upd (upd u 0 (u 0)) 10 (u 10)) 11 (u 11)) 12 (u 12)) x f (a 4) h b P t S hG.1 zZ hP0 (zWf_sel zZ hG.1 hru) (zGs_sp hG hru)) (cwV 1 hts gX7_command_X7_playOn rfl rfl rfl (by decide +kernel) ⟨Nat.le_of_ble_eq_true rfl, Nat.le_of_ble_eq_true rfl⟩) 7 rfl rfl rfl rfl hl.1 rfl (Nat.le_of_ble_eq_true rfl) dX7_command_230 ⟨Nat.le_of_ble_eq_true rfl, Nat.le_of_ble_eq_true rfl⟩ hK hE hA hM (pm_at 3 [0, 1, 2] [] rfl rfl rfl (by decide)) ((pm_at 3 [0, 1, 2] [] rfl rfl rfl (by decide))).symm (fun H locs hM hz => ?_)
  refine lv_if_lt (tgt := 240) hx hb dX7_command_233 (by decide) (fun c_6 => absurd c_6 (zFtR_ge zZ hG hru)) (fun c_6 => ?_)
  refine lv_iconst (v := 1) hx hb dX7_command_236 (by decide) ?_
  refine lv_goto (tgt := 241) hx hb dX7_command_237 (by decide) ?_
  exact z_zret hx hb hr hlocks dX7_command_241 hM (Nat.le_of_ble_eq_true rfl) (Nat.le_of_ble_eq_true rfl) (by first | exact Or.inl rfl | exact Or.inr rfl | exact zb_01 _) rfl

set_option maxHeartbeats 4000000 in
set_option maxRecDepth 100000 in
theorem c_cmd4n (l : Launch) (G : zC) (a : Nat → Nat) (u : Nat → Int32) (x : Int64) (f : Nat → Int32) (h : Nat → Int32) (b : Nat → Nat → Int32) (P t S e0 : Nat) (hG : zGs h b P t S e0) (o i j : Nat) (ho9 : o < 10) (hi9 : i < 10) (hj9 : j < 10) (hc : (decide (o = 0) && decide (i = 0) && decide (j = 0) && zRu h) = false) : zMet l G yX7_command wsX7_command rmX7_command [.ref (a 0), .int 4, .int (nI o), .int (nI i), .int (nI j)] ([((a 0), .inr (7, [.int (u 0), .ref (a 1), .int (u 2), .ref (a 3), .ref (a 4), .ref (a 5), .ref (a 6), .int (u 7), .ref (a 8), .ref (a 9), .int (u 10), .int (u 11), .int (u 12), .long x, .int (u 14), .int (u 15)])), ((a 4), .inl (G.2 1, 121, .inl (flt h b))), ((a 5), .inl (G.2 1, 121, .inl f))]) (some (.int 0)) ([((a 0), .inr (7, [.int (u 0), .ref (a 1), .int (u 2), .ref (a 3), .ref (a 4), .ref (a 5), .ref (a 6), .int (u 7), .ref (a 8), .ref (a 9), .int (u 10), .int (u 11), .int (u 12), .long x, .int (u 14), .int (u 15)])), ((a 4), .inl (G.2 1, 121, .inl (flt h b))), ((a 5), .inl (G.2 1, 121, .inl f))]) := by
  refine zMet_of (cc := cX7_command) (maxL := 6) (ret := (some .boolean)) (by decide) rfl (Nat.le_of_ble_eq_true rfl) ?_
  intro p e s m below meth c A ls hx hb hr hml hown hts hK hA hE hlocks hin hM hl
  have hown : s.vm.findClass RX7 = some m.cls := hown
  have hM : zM G A s s.heap [] ([((a 0), .inr (7, [.int (u 0), .ref (a 1), .int (u 2), .ref (a 3), .ref (a 4), .ref (a 5), .ref (a 6), .int (u 7), .ref (a 8), .ref (a 9), .int (u 10), .int (u 11), .int (u 12), .long x, .int (u 14), .int (u 15)])), ((a 4), .inl (G.2 1, 121, .inl (flt h b))), ((a 5), .inl (G.2 1, 121, .inl f))]) := hM
  have hl : lv_has ls 6 [(0, .ref (a 0)), (1, .int 4), (2, .int (nI o)), (3, .int (nI i)), (4, .int (nI j))] := hl
  have hP4 := hG.1.1.2.1
  have h6 := hG.1.1.2.2.2.2.1
  have hS := hG.1.1.2.2.2.2.2.1
  refine lv_iload_n hx hb dX7_command_0 rfl (lv_at hl 2 rfl) ?_
  refine lv_if_ne (tgt := 12) hx hb dX7_command_1 (by decide) (fun c_z1 => ?_) (fun c_z1 => ?_)
  · skip
    refine lv_iconst (v := 0) hx hb dX7_command_12 (by decide) ?_
    refine lv_istore (lv' := [(5, .int 0), (0, .ref (a 0)), (1, .int 4), (2, .int (nI o)), (3, .int (nI i)), (4, .int (nI j))]) hx hb dX7_command_13 hl (by decide) rfl (fun ls hl => ?_)
    refine lv_iload_n hx hb dX7_command_15 rfl (lv_at hl 2 rfl) ?_
    refine lv_tableIn (off := 189) (tgt := 205) hx hb dX7_command_16 (by decide) (by decide) rfl (by decide) ?_
    refine lv_iload hx hb dX7_command_205 (lv_at hl 0 rfl) ?_
    refine lv_if_eq (tgt := 240) hx hb dX7_command_207 (by decide) (fun c_1 => ?_) (fun c_1 => absurd rfl c_1)
    refine lv_iconst (v := 0) hx hb dX7_command_240 (by decide) ?_
    exact z_zret hx hb hr hlocks dX7_command_241 hM (Nat.le_of_ble_eq_true rfl) (Nat.le_of_ble_eq_true rfl) (by first | exact Or.inl rfl | exact Or.inr rfl | exact zb_01 _) rfl
  · skip
    refine lv_iload_n hx hb dX7_command_4 rfl (lv_at hl 3 rfl) ?_
    refine lv_if_ne (tgt := 12) hx hb dX7_command_5 (by decide) (fun c_z2 => ?_) (fun c_z2 => ?_)
    · skip
      refine lv_iconst (v := 0) hx hb dX7_command_12 (by decide) ?_
      refine lv_istore (lv' := [(5, .int 0), (0, .ref (a 0)), (1, .int 4), (2, .int (nI o)), (3, .int (nI i)), (4, .int (nI j))]) hx hb dX7_command_13 hl (by decide) rfl (fun ls hl => ?_)
      refine lv_iload_n hx hb dX7_command_15 rfl (lv_at hl 2 rfl) ?_
      refine lv_tableIn (off := 189) (tgt := 205) hx hb dX7_command_16 (by decide) (by decide) rfl (by decide) ?_
      refine lv_iload hx hb dX7_command_205 (lv_at hl 0 rfl) ?_
      refine lv_if_eq (tgt := 240) hx hb dX7_command_207 (by decide) (fun c_2 => ?_) (fun c_2 => absurd rfl c_2)
      refine lv_iconst (v := 0) hx hb dX7_command_240 (by decide) ?_
      exact z_zret hx hb hr hlocks dX7_command_241 hM (Nat.le_of_ble_eq_true rfl) (Nat.le_of_ble_eq_true rfl) (by first | exact Or.inl rfl | exact Or.inr rfl | exact zb_01 _) rfl
    · skip
      refine lv_iconst (v := 1) hx hb dX7_command_8 (by decide) ?_
      refine lv_goto (tgt := 13) hx hb dX7_command_9 (by decide) ?_
      refine lv_istore (lv' := [(5, .int 1), (0, .ref (a 0)), (1, .int 4), (2, .int (nI o)), (3, .int (nI i)), (4, .int (nI j))]) hx hb dX7_command_13 hl (by decide) rfl (fun ls hl => ?_)
      refine lv_iload_n hx hb dX7_command_15 rfl (lv_at hl 2 rfl) ?_
      refine lv_tableIn (off := 189) (tgt := 205) hx hb dX7_command_16 (by decide) (by decide) rfl (by decide) ?_
      refine lv_iload hx hb dX7_command_205 (lv_at hl 0 rfl) ?_
      refine lv_if_eq (tgt := 240) hx hb dX7_command_207 (by decide) (fun c_3 => absurd c_3 (by decide)) (fun c_3 => ?_)
      refine lv_iload hx hb dX7_command_210 (lv_at hl 5 rfl) ?_
      refine lv_if_ne (tgt := 240) hx hb dX7_command_212 (by decide) (fun c_z3 => ?_) (fun c_z3 => ?_)
      · skip
        refine lv_iconst (v := 0) hx hb dX7_command_240 (by decide) ?_
        exact z_zret hx hb hr hlocks dX7_command_241 hM (Nat.le_of_ble_eq_true rfl) (Nat.le_of_ble_eq_true rfl) (by first | exact Or.inl rfl | exact Or.inr rfl | exact zb_01 _) rfl
      · skip
        refine lv_aload_n hx hb dX7_command_215 rfl (lv_at hl 1 rfl) ?_
        refine z_get (ci := 7) (v := .ref (a 4)) (C := RX7) (T := TX7) (N := 16) hx hb hts (by decide +kernel) hown hK hM 0 rfl rfl 4 (by decide) (hts (.fieldLink RX7 16 "ShiftIslesModel" "trial" "[I") (by decide +kernel)) (fun _ h9 => h9) rfl dX7_command_216 ?_
        refine z_callS (As := [.ref (a 4)]) (rest := []) (wc := rfW G (a 4) h b) (wr := [((a 0), .inr (7, [.int (u 0), .ref (a 1), .int (u 2), .ref (a 3), .ref (a 4), .ref (a 5), .ref (a 6), .int (u 7), .ref (a 8), .ref (a 9), .int (u 10), .int (u 11), .int (u 12), .long x, .int (u 14), .int (u 15)])), ((a 5), .inl (G.2 1, 121, .inl f))]) (w1 := rfW G (a 4) h b) (ws' := [((a 0), .inr (7, [.int (u 0), .ref (a 1), .int (u 2), .ref (a 3), .ref (a 4), .ref (a 5), .ref (a 6), .int (u 7), .ref (a 8), .ref (a 9), .int (u 10), .int (u 11), .int (u 12), .long x, .int (u 14), .int (u 15)])), ((a 4), .inl (G.2 1, 121, .inl (flt h b))), ((a 5), .inl (G.2 1, 121, .inl f))]) ⟨hx, hb, hml, hown, hts⟩ (c_r_isOn l G (a 4) h b  ) (va_cwS 1 hts gX7_command_X7_isOn rfl rfl rfl (by decide +kernel) ⟨Nat.le_of_ble_eq_true rfl, Nat.le_of_ble_eq_true rfl⟩) rfl hl.1 rfl (Nat.le_of_ble_eq_true rfl) dX7_command_219 ⟨Nat.le_of_ble_eq_true rfl, Nat.le_of_ble_eq_true rfl⟩ hK hE hA hM (pm_at 3 [1] [0, 2] rfl rfl rfl (by decide)) ((pm_at 3 [1] [0, 2] rfl rfl rfl (by decide))).symm (fun H locs hM hz => ?_)
        refine z_ifeq (tgt := 240) hx hb dX7_command_222 (by decide) (fun c_4 => ?_) (fun c_4 => (by rw [decide_eq_true ((nI_eq (a := o) (b := 0) (by omega) (by decide)).mp c_z1), decide_eq_true ((nI_eq (a := i) (b := 0) (by omega) (by decide)).mp c_z2), decide_eq_true ((nI_eq (a := j) (b := 0) (by omega) (by decide)).mp c_z3), c_4] at hc; exact Bool.noConfusion hc))
        refine lv_iconst (v := 0) hx hb dX7_command_240 (by decide) ?_
        exact z_zret hx hb hr hlocks dX7_command_241 hM (Nat.le_of_ble_eq_true rfl) (Nat.le_of_ble_eq_true rfl) (by first | exact Or.inl rfl | exact Or.inr rfl | exact zb_01 _) rfl

set_option maxHeartbeats 4000000 in
set_option maxRecDepth 100000 in
theorem c_cmd5y (l : Launch) (G : zC) (a : Nat → Nat) (u : Nat → Int32) (x : Int64) (f : Nat → Int32) (h : Nat → Int32) (b : Nat → Nat → Int32) (P t S e0 : Nat) (hG : zGs h b P t S e0) (o i j : Nat) (ho9 : o < 10) (hi9 : i < 10) (hj9 : j < 10) (hc : zRs h b S o (nI i) = true) : zMet l G yX7_command wsX7_command rmX7_command [.ref (a 0), .int 5, .int (nI o), .int (nI i), .int (nI 0)] ([((a 0), .inr (7, [.int (u 0), .ref (a 1), .int (u 2), .ref (a 3), .ref (a 4), .ref (a 5), .ref (a 6), .int (u 7), .ref (a 8), .ref (a 9), .int (u 10), .int (u 11), .int (u 12), .long x, .int (u 14), .int (u 15)])), ((a 4), .inl (G.2 1, 121, .inl (flt h b))), ((a 5), .inl (G.2 1, 121, .inl f))]) (some (.int 1)) ([((a 0), .inr (7, [.int (u 0), .ref (a 1), .int (u 2), .ref (a 3), .ref (a 4), .ref (a 5), .ref (a 6), .int (u 7), .ref (a 8), .ref (a 9), .int (u 10), .int (u 11), .int (u 12), .long x, .int (u 14), .int (u 15)])), ((a 4), .inl (G.2 1, 121, .inl (flt h b))), ((a 5), .inl (G.2 1, 121, .inl f))]) := by
  refine zMet_of (cc := cX7_command) (maxL := 6) (ret := (some .boolean)) (by decide) rfl (Nat.le_of_ble_eq_true rfl) ?_
  intro p e s m below meth c A ls hx hb hr hml hown hts hK hA hE hlocks hin hM hl
  have hown : s.vm.findClass RX7 = some m.cls := hown
  have hM : zM G A s s.heap [] ([((a 0), .inr (7, [.int (u 0), .ref (a 1), .int (u 2), .ref (a 3), .ref (a 4), .ref (a 5), .ref (a 6), .int (u 7), .ref (a 8), .ref (a 9), .int (u 10), .int (u 11), .int (u 12), .long x, .int (u 14), .int (u 15)])), ((a 4), .inl (G.2 1, 121, .inl (flt h b))), ((a 5), .inl (G.2 1, 121, .inl f))]) := hM
  have hl : lv_has ls 6 [(0, .ref (a 0)), (1, .int 5), (2, .int (nI o)), (3, .int (nI i)), (4, .int (nI 0))] := hl
  have hP4 := hG.1.1.2.1
  have h6 := hG.1.1.2.2.2.2.1
  have hS := hG.1.1.2.2.2.2.2.1
  have hzq : zHp h (nI o) = true ∧ zPl (nI i) = true ∧ zRch (b o) S >>> (nI i &&& 31) &&& 1 = 1 := (by simp only [zRs, zIn, Bool.and_eq_true, decide_eq_true_eq] at hc; exact hc)
  refine lv_iload_n hx hb dX7_command_0 rfl (lv_at hl 2 rfl) ?_
  refine lv_if_ne (tgt := 12) hx hb dX7_command_1 (by decide) (fun c_z1 => ?_) (fun c_z1 => ?_)
  · skip
    refine lv_iconst (v := 0) hx hb dX7_command_12 (by decide) ?_
    refine lv_istore (lv' := [(5, .int 0), (0, .ref (a 0)), (1, .int 5), (2, .int (nI o)), (3, .int (nI i)), (4, .int (nI 0))]) hx hb dX7_command_13 hl (by decide) rfl (fun ls hl => ?_)
    refine lv_iload_n hx hb dX7_command_15 rfl (lv_at hl 2 rfl) ?_
    refine lv_tableIn (off := 226) (tgt := 242) hx hb dX7_command_16 (by decide) (by decide) rfl (by decide) ?_
    refine lv_iload hx hb dX7_command_242 (lv_at hl 5 rfl) ?_
    refine lv_if_ne (tgt := 285) hx hb dX7_command_244 (by decide) (fun c_1 => absurd rfl c_1) (fun c_1 => ?_)
    refine lv_aload_n hx hb dX7_command_247 rfl (lv_at hl 1 rfl) ?_
    refine z_get (ci := 7) (v := .ref (a 4)) (C := RX7) (T := TX7) (N := 16) hx hb hts (by decide +kernel) hown hK hM 0 rfl rfl 4 (by decide) (hts (.fieldLink RX7 16 "ShiftIslesModel" "trial" "[I") (by decide +kernel)) (fun _ h9 => h9) rfl dX7_command_248 ?_
    refine lv_iload_n hx hb dX7_command_251 rfl (lv_at hl 3 rfl) ?_
    refine z_callS (As := [.ref (a 4), .int (nI o)]) (rest := []) (wc := rfW G (a 4) h b) (wr := [((a 0), .inr (7, [.int (u 0), .ref (a 1), .int (u 2), .ref (a 3), .ref (a 4), .ref (a 5), .ref (a 6), .int (u 7), .ref (a 8), .ref (a 9), .int (u 10), .int (u 11), .int (u 12), .long x, .int (u 14), .int (u 15)])), ((a 5), .inl (G.2 1, 121, .inl f))]) (w1 := rfW G (a 4) h b) (ws' := [((a 0), .inr (7, [.int (u 0), .ref (a 1), .int (u 2), .ref (a 3), .ref (a 4), .ref (a 5), .ref (a 6), .int (u 7), .ref (a 8), .ref (a 9), .int (u 10), .int (u 11), .int (u 12), .long x, .int (u 14), .int (u 15)])), ((a 4), .inl (G.2 1, 121, .inl (flt h b))), ((a 5), .inl (G.2 1, 121, .inl f))]) ⟨hx, hb, hml, hown, hts⟩ (c_r_isPlayer l G (a 4) h b P hG.1.1.1 hP4 (nI o) ) (va_cwS 2 hts gX7_command_X7_isPlayer rfl rfl rfl (by decide +kernel) ⟨Nat.le_of_ble_eq_true rfl, Nat.le_of_ble_eq_true rfl⟩) rfl hl.1 rfl (Nat.le_of_ble_eq_true rfl) dX7_command_252 ⟨Nat.le_of_ble_eq_true rfl, Nat.le_of_ble_eq_true rfl⟩ hK hE hA hM (pm_at 3 [1] [0, 2] rfl rfl rfl (by decide)) ((pm_at 3 [1] [0, 2] rfl rfl rfl (by decide))).symm (fun H locs hM hz => ?_)
    refine z_ifeq (tgt := 285) hx hb dX7_command_255 (by decide) (fun c_2 => Bool.noConfusion (hzq.1.symm.trans c_2)) (fun c_2 => ?_)
    refine lv_iload_n hx hb dX7_command_258 rfl (lv_at hl 4 rfl) ?_
    refine z_callS (As := [.int (nI i)]) (rest := []) (wc := []) (wr := [((a 0), .inr (7, [.int (u 0), .ref (a 1), .int (u 2), .ref (a 3), .ref (a 4), .ref (a 5), .ref (a 6), .int (u 7), .ref (a 8), .ref (a 9), .int (u 10), .int (u 11), .int (u 12), .long x, .int (u 14), .int (u 15)])), ((a 4), .inl (G.2 1, 121, .inl (flt h b))), ((a 5), .inl (G.2 1, 121, .inl f))]) (w1 := []) (ws' := [((a 0), .inr (7, [.int (u 0), .ref (a 1), .int (u 2), .ref (a 3), .ref (a 4), .ref (a 5), .ref (a 6), .int (u 7), .ref (a 8), .ref (a 9), .int (u 10), .int (u 11), .int (u 12), .long x, .int (u 14), .int (u 15)])), ((a 4), .inl (G.2 1, 121, .inl (flt h b))), ((a 5), .inl (G.2 1, 121, .inl f))]) ⟨hx, hb, hml, hown, hts⟩ (c_r_isPlace l G (nI i)) (va_cwS 1 hts gX7_command_X7_isPlace rfl rfl rfl (by decide +kernel) ⟨Nat.le_of_ble_eq_true rfl, Nat.le_of_ble_eq_true rfl⟩) rfl hl.1 rfl (Nat.le_of_ble_eq_true rfl) dX7_command_259 ⟨Nat.le_of_ble_eq_true rfl, Nat.le_of_ble_eq_true rfl⟩ hK hE hA hM (List.Perm.refl _) (List.Perm.refl _) (fun H locs hM hz => ?_)
    refine z_ifeq (tgt := 285) hx hb dX7_command_262 (by decide) (fun c_3 => Bool.noConfusion (hzq.2.1.symm.trans c_3)) (fun c_3 => ?_)
    have hoP : o < P := (zHp_lt hG.1.1.1 hP4 (by omega)).mp hzq.1
    refine lv_aload_n hx hb dX7_command_265 rfl (lv_at hl 1 rfl) ?_
    refine z_get (ci := 7) (v := .ref (a 4)) (C := RX7) (T := TX7) (N := 16) hx hb hts (by decide +kernel) hown hK hM 0 rfl rfl 4 (by decide) (hts (.fieldLink RX7 16 "ShiftIslesModel" "trial" "[I") (by decide +kernel)) (fun _ h9 => h9) rfl dX7_command_266 ?_
    refine lv_iload_n hx hb dX7_command_269 rfl (lv_at hl 3 rfl) ?_
    refine z_callS (As := [.ref (a 4), .int (nI o)]) (rest := []) (wc := rfW G (a 4) h b) (wr := [((a 0), .inr (7, [.int (u 0), .ref (a 1), .int (u 2), .ref (a 3), .ref (a 4), .ref (a 5), .ref (a 6), .int (u 7), .ref (a 8), .ref (a 9), .int (u 10), .int (u 11), .int (u 12), .long x, .int (u 14), .int (u 15)])), ((a 5), .inl (G.2 1, 121, .inl f))]) (w1 := rfW G (a 4) h b) (ws' := [((a 0), .inr (7, [.int (u 0), .ref (a 1), .int (u 2), .ref (a 3), .ref (a 4), .ref (a 5), .ref (a 6), .int (u 7), .ref (a 8), .ref (a 9), .int (u 10), .int (u 11), .int (u 12), .long x, .int (u 14), .int (u 15)])), ((a 4), .inl (G.2 1, 121, .inl (flt h b))), ((a 5), .inl (G.2 1, 121, .inl f))]) ⟨hx, hb, hml, hown, hts⟩ (c_reachable l G (a 4) h b o S (by omega) hS (hG.1.2.2 _ hoP) h6 ) (va_cwS 2 hts gX7_command_X7_reachable rfl rfl rfl (by decide +kernel) ⟨Nat.le_of_ble_eq_true rfl, Nat.le_of_ble_eq_true rfl⟩) rfl hl.1 rfl (Nat.le_of_ble_eq_true rfl) dX7_command_270 ⟨Nat.le_of_ble_eq_true rfl, Nat.le_of_ble_eq_true rfl⟩ hK hE hA hM (pm_at 3 [1] [0, 2] rfl rfl rfl (by decide)) ((pm_at 3 [1] [0, 2] rfl rfl rfl (by decide))).symm (fun H locs hM hz => ?_)
    refine lv_iload_n hx hb dX7_command_273 rfl (lv_at hl 4 rfl) ?_
    refine lv_ishr hx hb dX7_command_274 ?_
    refine lv_iconst (v := 1) hx hb dX7_command_275 (by decide) ?_
    refine lv_iand hx hb dX7_command_276 ?_
    refine lv_iconst (v := 1) hx hb dX7_command_277 (by decide) ?_
    refine lv_icmp_ne (tgt := 285) hx hb dX7_command_278 (by decide) (fun c_4 => absurd hzq.2.2 c_4) (fun c_4 => ?_)
    refine lv_iconst (v := 1) hx hb dX7_command_281 (by decide) ?_
    refine lv_goto (tgt := 286) hx hb dX7_command_282 (by decide) ?_
    exact z_zret hx hb hr hlocks dX7_command_286 hM (Nat.le_of_ble_eq_true rfl) (Nat.le_of_ble_eq_true rfl) (by first | exact Or.inl rfl | exact Or.inr rfl | exact zb_01 _) rfl
  · skip
    refine lv_iload_n hx hb dX7_command_4 rfl (lv_at hl 3 rfl) ?_
    refine lv_if_ne (tgt := 12) hx hb dX7_command_5 (by decide) (fun c_z2 => ?_) (fun c_z2 => ?_)
    · skip
      refine lv_iconst (v := 0) hx hb dX7_command_12 (by decide) ?_
      refine lv_istore (lv' := [(5, .int 0), (0, .ref (a 0)), (1, .int 5), (2, .int (nI o)), (3, .int (nI i)), (4, .int (nI 0))]) hx hb dX7_command_13 hl (by decide) rfl (fun ls hl => ?_)
      refine lv_iload_n hx hb dX7_command_15 rfl (lv_at hl 2 rfl) ?_
      refine lv_tableIn (off := 226) (tgt := 242) hx hb dX7_command_16 (by decide) (by decide) rfl (by decide) ?_
      refine lv_iload hx hb dX7_command_242 (lv_at hl 5 rfl) ?_
      refine lv_if_ne (tgt := 285) hx hb dX7_command_244 (by decide) (fun c_5 => absurd rfl c_5) (fun c_5 => ?_)
      refine lv_aload_n hx hb dX7_command_247 rfl (lv_at hl 1 rfl) ?_
      refine z_get (ci := 7) (v := .ref (a 4)) (C := RX7) (T := TX7) (N := 16) hx hb hts (by decide +kernel) hown hK hM 0 rfl rfl 4 (by decide) (hts (.fieldLink RX7 16 "ShiftIslesModel" "trial" "[I") (by decide +kernel)) (fun _ h9 => h9) rfl dX7_command_248 ?_
      refine lv_iload_n hx hb dX7_command_251 rfl (lv_at hl 3 rfl) ?_
      refine z_callS (As := [.ref (a 4), .int (nI o)]) (rest := []) (wc := rfW G (a 4) h b) (wr := [((a 0), .inr (7, [.int (u 0), .ref (a 1), .int (u 2), .ref (a 3), .ref (a 4), .ref (a 5), .ref (a 6), .int (u 7), .ref (a 8), .ref (a 9), .int (u 10), .int (u 11), .int (u 12), .long x, .int (u 14), .int (u 15)])), ((a 5), .inl (G.2 1, 121, .inl f))]) (w1 := rfW G (a 4) h b) (ws' := [((a 0), .inr (7, [.int (u 0), .ref (a 1), .int (u 2), .ref (a 3), .ref (a 4), .ref (a 5), .ref (a 6), .int (u 7), .ref (a 8), .ref (a 9), .int (u 10), .int (u 11), .int (u 12), .long x, .int (u 14), .int (u 15)])), ((a 4), .inl (G.2 1, 121, .inl (flt h b))), ((a 5), .inl (G.2 1, 121, .inl f))]) ⟨hx, hb, hml, hown, hts⟩ (c_r_isPlayer l G (a 4) h b P hG.1.1.1 hP4 (nI o) ) (va_cwS 2 hts gX7_command_X7_isPlayer rfl rfl rfl (by decide +kernel) ⟨Nat.le_of_ble_eq_true rfl, Nat.le_of_ble_eq_true rfl⟩) rfl hl.1 rfl (Nat.le_of_ble_eq_true rfl) dX7_command_252 ⟨Nat.le_of_ble_eq_true rfl, Nat.le_of_ble_eq_true rfl⟩ hK hE hA hM (pm_at 3 [1] [0, 2] rfl rfl rfl (by decide)) ((pm_at 3 [1] [0, 2] rfl rfl rfl (by decide))).symm (fun H locs hM hz => ?_)
      refine z_ifeq (tgt := 285) hx hb dX7_command_255 (by decide) (fun c_6 => Bool.noConfusion (hzq.1.symm.trans c_6)) (fun c_6 => ?_)
      refine lv_iload_n hx hb dX7_command_258 rfl (lv_at hl 4 rfl) ?_
      refine z_callS (As := [.int (nI i)]) (rest := []) (wc := []) (wr := [((a 0), .inr (7, [.int (u 0), .ref (a 1), .int (u 2), .ref (a 3), .ref (a 4), .ref (a 5), .ref (a 6), .int (u 7), .ref (a 8), .ref (a 9), .int (u 10), .int (u 11), .int (u 12), .long x, .int (u 14), .int (u 15)])), ((a 4), .inl (G.2 1, 121, .inl (flt h b))), ((a 5), .inl (G.2 1, 121, .inl f))]) (w1 := []) (ws' := [((a 0), .inr (7, [.int (u 0), .ref (a 1), .int (u 2), .ref (a 3), .ref (a 4), .ref (a 5), .ref (a 6), .int (u 7), .ref (a 8), .ref (a 9), .int (u 10), .int (u 11), .int (u 12), .long x, .int (u 14), .int (u 15)])), ((a 4), .inl (G.2 1, 121, .inl (flt h b))), ((a 5), .inl (G.2 1, 121, .inl f))]) ⟨hx, hb, hml, hown, hts⟩ (c_r_isPlace l G (nI i)) (va_cwS 1 hts gX7_command_X7_isPlace rfl rfl rfl (by decide +kernel) ⟨Nat.le_of_ble_eq_true rfl, Nat.le_of_ble_eq_true rfl⟩) rfl hl.1 rfl (Nat.le_of_ble_eq_true rfl) dX7_command_259 ⟨Nat.le_of_ble_eq_true rfl, Nat.le_of_ble_eq_true rfl⟩ hK hE hA hM (List.Perm.refl _) (List.Perm.refl _) (fun H locs hM hz => ?_)
      refine z_ifeq (tgt := 285) hx hb dX7_command_262 (by decide) (fun c_7 => Bool.noConfusion (hzq.2.1.symm.trans c_7)) (fun c_7 => ?_)
      have hoP : o < P := (zHp_lt hG.1.1.1 hP4 (by omega)).mp hzq.1
      refine lv_aload_n hx hb dX7_command_265 rfl (lv_at hl 1 rfl) ?_
      refine z_get (ci := 7) (v := .ref (a 4)) (C := RX7) (T := TX7) (N := 16) hx hb hts (by decide +kernel) hown hK hM 0 rfl rfl 4 (by decide) (hts (.fieldLink RX7 16 "ShiftIslesModel" "trial" "[I") (by decide +kernel)) (fun _ h9 => h9) rfl dX7_command_266 ?_
      refine lv_iload_n hx hb dX7_command_269 rfl (lv_at hl 3 rfl) ?_
      refine z_callS (As := [.ref (a 4), .int (nI o)]) (rest := []) (wc := rfW G (a 4) h b) (wr := [((a 0), .inr (7, [.int (u 0), .ref (a 1), .int (u 2), .ref (a 3), .ref (a 4), .ref (a 5), .ref (a 6), .int (u 7), .ref (a 8), .ref (a 9), .int (u 10), .int (u 11), .int (u 12), .long x, .int (u 14), .int (u 15)])), ((a 5), .inl (G.2 1, 121, .inl f))]) (w1 := rfW G (a 4) h b) (ws' := [((a 0), .inr (7, [.int (u 0), .ref (a 1), .int (u 2), .ref (a 3), .ref (a 4), .ref (a 5), .ref (a 6), .int (u 7), .ref (a 8), .ref (a 9), .int (u 10), .int (u 11), .int (u 12), .long x, .int (u 14), .int (u 15)])), ((a 4), .inl (G.2 1, 121, .inl (flt h b))), ((a 5), .inl (G.2 1, 121, .inl f))]) ⟨hx, hb, hml, hown, hts⟩ (c_reachable l G (a 4) h b o S (by omega) hS (hG.1.2.2 _ hoP) h6 ) (va_cwS 2 hts gX7_command_X7_reachable rfl rfl rfl (by decide +kernel) ⟨Nat.le_of_ble_eq_true rfl, Nat.le_of_ble_eq_true rfl⟩) rfl hl.1 rfl (Nat.le_of_ble_eq_true rfl) dX7_command_270 ⟨Nat.le_of_ble_eq_true rfl, Nat.le_of_ble_eq_true rfl⟩ hK hE hA hM (pm_at 3 [1] [0, 2] rfl rfl rfl (by decide)) ((pm_at 3 [1] [0, 2] rfl rfl rfl (by decide))).symm (fun H locs hM hz => ?_)
      refine lv_iload_n hx hb dX7_command_273 rfl (lv_at hl 4 rfl) ?_
      refine lv_ishr hx hb dX7_command_274 ?_
      refine lv_iconst (v := 1) hx hb dX7_command_275 (by decide) ?_
      refine lv_iand hx hb dX7_command_276 ?_
      refine lv_iconst (v := 1) hx hb dX7_command_277 (by decide) ?_
      refine lv_icmp_ne (tgt := 285) hx hb dX7_command_278 (by decide) (fun c_8 => absurd hzq.2.2 c_8) (fun c_8 => ?_)
      refine lv_iconst (v := 1) hx hb dX7_command_281 (by decide) ?_
      refine lv_goto (tgt := 286) hx hb dX7_command_282 (by decide) ?_
      exact z_zret hx hb hr hlocks dX7_command_286 hM (Nat.le_of_ble_eq_true rfl) (Nat.le_of_ble_eq_true rfl) (by first | exact Or.inl rfl | exact Or.inr rfl | exact zb_01 _) rfl
    · skip
      refine lv_iconst (v := 1) hx hb dX7_command_8 (by decide) ?_
      refine lv_goto (tgt := 13) hx hb dX7_command_9 (by decide) ?_
      refine lv_istore (lv' := [(5, .int 1), (0, .ref (a 0)), (1, .int 5), (2, .int (nI o)), (3, .int (nI i)), (4, .int (nI 0))]) hx hb dX7_command_13 hl (by decide) rfl (fun ls hl => ?_)
      refine lv_iload_n hx hb dX7_command_15 rfl (lv_at hl 2 rfl) ?_
      refine lv_tableIn (off := 226) (tgt := 242) hx hb dX7_command_16 (by decide) (by decide) rfl (by decide) ?_
      refine lv_iload hx hb dX7_command_242 (lv_at hl 5 rfl) ?_
      refine lv_if_ne (tgt := 285) hx hb dX7_command_244 (by decide) (fun c_9 => absurd rfl c_9) (fun c_9 => ?_)
      refine lv_aload_n hx hb dX7_command_247 rfl (lv_at hl 1 rfl) ?_
      refine z_get (ci := 7) (v := .ref (a 4)) (C := RX7) (T := TX7) (N := 16) hx hb hts (by decide +kernel) hown hK hM 0 rfl rfl 4 (by decide) (hts (.fieldLink RX7 16 "ShiftIslesModel" "trial" "[I") (by decide +kernel)) (fun _ h9 => h9) rfl dX7_command_248 ?_
      refine lv_iload_n hx hb dX7_command_251 rfl (lv_at hl 3 rfl) ?_
      refine z_callS (As := [.ref (a 4), .int (nI o)]) (rest := []) (wc := rfW G (a 4) h b) (wr := [((a 0), .inr (7, [.int (u 0), .ref (a 1), .int (u 2), .ref (a 3), .ref (a 4), .ref (a 5), .ref (a 6), .int (u 7), .ref (a 8), .ref (a 9), .int (u 10), .int (u 11), .int (u 12), .long x, .int (u 14), .int (u 15)])), ((a 5), .inl (G.2 1, 121, .inl f))]) (w1 := rfW G (a 4) h b) (ws' := [((a 0), .inr (7, [.int (u 0), .ref (a 1), .int (u 2), .ref (a 3), .ref (a 4), .ref (a 5), .ref (a 6), .int (u 7), .ref (a 8), .ref (a 9), .int (u 10), .int (u 11), .int (u 12), .long x, .int (u 14), .int (u 15)])), ((a 4), .inl (G.2 1, 121, .inl (flt h b))), ((a 5), .inl (G.2 1, 121, .inl f))]) ⟨hx, hb, hml, hown, hts⟩ (c_r_isPlayer l G (a 4) h b P hG.1.1.1 hP4 (nI o) ) (va_cwS 2 hts gX7_command_X7_isPlayer rfl rfl rfl (by decide +kernel) ⟨Nat.le_of_ble_eq_true rfl, Nat.le_of_ble_eq_true rfl⟩) rfl hl.1 rfl (Nat.le_of_ble_eq_true rfl) dX7_command_252 ⟨Nat.le_of_ble_eq_true rfl, Nat.le_of_ble_eq_true rfl⟩ hK hE hA hM (pm_at 3 [1] [0, 2] rfl rfl rfl (by decide)) ((pm_at 3 [1] [0, 2] rfl rfl rfl (by decide))).symm (fun H locs hM hz => ?_)
      refine z_ifeq (tgt := 285) hx hb dX7_command_255 (by decide) (fun c_10 => Bool.noConfusion (hzq.1.symm.trans c_10)) (fun c_10 => ?_)
      refine lv_iload_n hx hb dX7_command_258 rfl (lv_at hl 4 rfl) ?_
      refine z_callS (As := [.int (nI i)]) (rest := []) (wc := []) (wr := [((a 0), .inr (7, [.int (u 0), .ref (a 1), .int (u 2), .ref (a 3), .ref (a 4), .ref (a 5), .ref (a 6), .int (u 7), .ref (a 8), .ref (a 9), .int (u 10), .int (u 11), .int (u 12), .long x, .int (u 14), .int (u 15)])), ((a 4), .inl (G.2 1, 121, .inl (flt h b))), ((a 5), .inl (G.2 1, 121, .inl f))]) (w1 := []) (ws' := [((a 0), .inr (7, [.int (u 0), .ref (a 1), .int (u 2), .ref (a 3), .ref (a 4), .ref (a 5), .ref (a 6), .int (u 7), .ref (a 8), .ref (a 9), .int (u 10), .int (u 11), .int (u 12), .long x, .int (u 14), .int (u 15)])), ((a 4), .inl (G.2 1, 121, .inl (flt h b))), ((a 5), .inl (G.2 1, 121, .inl f))]) ⟨hx, hb, hml, hown, hts⟩ (c_r_isPlace l G (nI i)) (va_cwS 1 hts gX7_command_X7_isPlace rfl rfl rfl (by decide +kernel) ⟨Nat.le_of_ble_eq_true rfl, Nat.le_of_ble_eq_true rfl⟩) rfl hl.1 rfl (Nat.le_of_ble_eq_true rfl) dX7_command_259 ⟨Nat.le_of_ble_eq_true rfl, Nat.le_of_ble_eq_true rfl⟩ hK hE hA hM (List.Perm.refl _) (List.Perm.refl _) (fun H locs hM hz => ?_)
      refine z_ifeq (tgt := 285) hx hb dX7_command_262 (by decide) (fun c_11 => Bool.noConfusion (hzq.2.1.symm.trans c_11)) (fun c_11 => ?_)
      have hoP : o < P := (zHp_lt hG.1.1.1 hP4 (by omega)).mp hzq.1
      refine lv_aload_n hx hb dX7_command_265 rfl (lv_at hl 1 rfl) ?_
      refine z_get (ci := 7) (v := .ref (a 4)) (C := RX7) (T := TX7) (N := 16) hx hb hts (by decide +kernel) hown hK hM 0 rfl rfl 4 (by decide) (hts (.fieldLink RX7 16 "ShiftIslesModel" "trial" "[I") (by decide +kernel)) (fun _ h9 => h9) rfl dX7_command_266 ?_
      refine lv_iload_n hx hb dX7_command_269 rfl (lv_at hl 3 rfl) ?_
      refine z_callS (As := [.ref (a 4), .int (nI o)]) (rest := []) (wc := rfW G (a 4) h b) (wr := [((a 0), .inr (7, [.int (u 0), .ref (a 1), .int (u 2), .ref (a 3), .ref (a 4), .ref (a 5), .ref (a 6), .int (u 7), .ref (a 8), .ref (a 9), .int (u 10), .int (u 11), .int (u 12), .long x, .int (u 14), .int (u 15)])), ((a 5), .inl (G.2 1, 121, .inl f))]) (w1 := rfW G (a 4) h b) (ws' := [((a 0), .inr (7, [.int (u 0), .ref (a 1), .int (u 2), .ref (a 3), .ref (a 4), .ref (a 5), .ref (a 6), .int (u 7), .ref (a 8), .ref (a 9), .int (u 10), .int (u 11), .int (u 12), .long x, .int (u 14), .int (u 15)])), ((a 4), .inl (G.2 1, 121, .inl (flt h b))), ((a 5), .inl (G.2 1, 121, .inl f))]) ⟨hx, hb, hml, hown, hts⟩ (c_reachable l G (a 4) h b o S (by omega) hS (hG.1.2.2 _ hoP) h6 ) (va_cwS 2 hts gX7_command_X7_reachable rfl rfl rfl (by decide +kernel) ⟨Nat.le_of_ble_eq_true rfl, Nat.le_of_ble_eq_true rfl⟩) rfl hl.1 rfl (Nat.le_of_ble_eq_true rfl) dX7_command_270 ⟨Nat.le_of_ble_eq_true rfl, Nat.le_of_ble_eq_true rfl⟩ hK hE hA hM (pm_at 3 [1] [0, 2] rfl rfl rfl (by decide)) ((pm_at 3 [1] [0, 2] rfl rfl rfl (by decide))).symm (fun H locs hM hz => ?_)
      refine lv_iload_n hx hb dX7_command_273 rfl (lv_at hl 4 rfl) ?_
      refine lv_ishr hx hb dX7_command_274 ?_
      refine lv_iconst (v := 1) hx hb dX7_command_275 (by decide) ?_
      refine lv_iand hx hb dX7_command_276 ?_
      refine lv_iconst (v := 1) hx hb dX7_command_277 (by decide) ?_
      refine lv_icmp_ne (tgt := 285) hx hb dX7_command_278 (by decide) (fun c_12 => absurd hzq.2.2 c_12) (fun c_12 => ?_)
      refine lv_iconst (v := 1) hx hb dX7_command_281 (by decide) ?_
      refine lv_goto (tgt := 286) hx hb dX7_command_282 (by decide) ?_
      exact z_zret hx hb hr hlocks dX7_command_286 hM (Nat.le_of_ble_eq_true rfl) (Nat.le_of_ble_eq_true rfl) (by first | exact Or.inl rfl | exact Or.inr rfl | exact zb_01 _) rfl

set_option maxHeartbeats 4000000 in
set_option maxRecDepth 100000 in
theorem c_cmd5n (l : Launch) (G : zC) (a : Nat → Nat) (u : Nat → Int32) (x : Int64) (f : Nat → Int32) (h : Nat → Int32) (b : Nat → Nat → Int32) (P t S e0 : Nat) (hG : zGs h b P t S e0) (o i j : Nat) (ho9 : o < 10) (hi9 : i < 10) (hj9 : j < 10) (hc : (decide (j = 0) && zRs h b S o (nI i)) = false) : zMet l G yX7_command wsX7_command rmX7_command [.ref (a 0), .int 5, .int (nI o), .int (nI i), .int (nI j)] ([((a 0), .inr (7, [.int (u 0), .ref (a 1), .int (u 2), .ref (a 3), .ref (a 4), .ref (a 5), .ref (a 6), .int (u 7), .ref (a 8), .ref (a 9), .int (u 10), .int (u 11), .int (u 12), .long x, .int (u 14), .int (u 15)])), ((a 4), .inl (G.2 1, 121, .inl (flt h b))), ((a 5), .inl (G.2 1, 121, .inl f))]) (some (.int 0)) ([((a 0), .inr (7, [.int (u 0), .ref (a 1), .int (u 2), .ref (a 3), .ref (a 4), .ref (a 5), .ref (a 6), .int (u 7), .ref (a 8), .ref (a 9), .int (u 10), .int (u 11), .int (u 12), .long x, .int (u 14), .int (u 15)])), ((a 4), .inl (G.2 1, 121, .inl (flt h b))), ((a 5), .inl (G.2 1, 121, .inl f))]) := by
  refine zMet_of (cc := cX7_command) (maxL := 6) (ret := (some .boolean)) (by decide) rfl (Nat.le_of_ble_eq_true rfl) ?_
  intro p e s m below meth c A ls hx hb hr hml hown hts hK hA hE hlocks hin hM hl
  have hown : s.vm.findClass RX7 = some m.cls := hown
  have hM : zM G A s s.heap [] ([((a 0), .inr (7, [.int (u 0), .ref (a 1), .int (u 2), .ref (a 3), .ref (a 4), .ref (a 5), .ref (a 6), .int (u 7), .ref (a 8), .ref (a 9), .int (u 10), .int (u 11), .int (u 12), .long x, .int (u 14), .int (u 15)])), ((a 4), .inl (G.2 1, 121, .inl (flt h b))), ((a 5), .inl (G.2 1, 121, .inl f))]) := hM
  have hl : lv_has ls 6 [(0, .ref (a 0)), (1, .int 5), (2, .int (nI o)), (3, .int (nI i)), (4, .int (nI j))] := hl
  have hP4 := hG.1.1.2.1
  have h6 := hG.1.1.2.2.2.2.1
  have hS := hG.1.1.2.2.2.2.2.1
  refine lv_iload_n hx hb dX7_command_0 rfl (lv_at hl 2 rfl) ?_
  refine lv_if_ne (tgt := 12) hx hb dX7_command_1 (by decide) (fun c_z1 => ?_) (fun c_z1 => ?_)
  · skip
    refine lv_iconst (v := 0) hx hb dX7_command_12 (by decide) ?_
    refine lv_istore (lv' := [(5, .int 0), (0, .ref (a 0)), (1, .int 5), (2, .int (nI o)), (3, .int (nI i)), (4, .int (nI j))]) hx hb dX7_command_13 hl (by decide) rfl (fun ls hl => ?_)
    refine lv_iload_n hx hb dX7_command_15 rfl (lv_at hl 2 rfl) ?_
    refine lv_tableIn (off := 226) (tgt := 242) hx hb dX7_command_16 (by decide) (by decide) rfl (by decide) ?_
    refine lv_iload hx hb dX7_command_242 (lv_at hl 5 rfl) ?_
    refine lv_if_ne (tgt := 285) hx hb dX7_command_244 (by decide) (fun c_z3 => ?_) (fun c_z3 => ?_)
    · skip
      refine lv_iconst (v := 0) hx hb dX7_command_285 (by decide) ?_
      exact z_zret hx hb hr hlocks dX7_command_286 hM (Nat.le_of_ble_eq_true rfl) (Nat.le_of_ble_eq_true rfl) (by first | exact Or.inl rfl | exact Or.inr rfl | exact zb_01 _) rfl
    · skip
      refine lv_aload_n hx hb dX7_command_247 rfl (lv_at hl 1 rfl) ?_
      refine z_get (ci := 7) (v := .ref (a 4)) (C := RX7) (T := TX7) (N := 16) hx hb hts (by decide +kernel) hown hK hM 0 rfl rfl 4 (by decide) (hts (.fieldLink RX7 16 "ShiftIslesModel" "trial" "[I") (by decide +kernel)) (fun _ h9 => h9) rfl dX7_command_248 ?_
      refine lv_iload_n hx hb dX7_command_251 rfl (lv_at hl 3 rfl) ?_
      refine z_callS (As := [.ref (a 4), .int (nI o)]) (rest := []) (wc := rfW G (a 4) h b) (wr := [((a 0), .inr (7, [.int (u 0), .ref (a 1), .int (u 2), .ref (a 3), .ref (a 4), .ref (a 5), .ref (a 6), .int (u 7), .ref (a 8), .ref (a 9), .int (u 10), .int (u 11), .int (u 12), .long x, .int (u 14), .int (u 15)])), ((a 5), .inl (G.2 1, 121, .inl f))]) (w1 := rfW G (a 4) h b) (ws' := [((a 0), .inr (7, [.int (u 0), .ref (a 1), .int (u 2), .ref (a 3), .ref (a 4), .ref (a 5), .ref (a 6), .int (u 7), .ref (a 8), .ref (a 9), .int (u 10), .int (u 11), .int (u 12), .long x, .int (u 14), .int (u 15)])), ((a 4), .inl (G.2 1, 121, .inl (flt h b))), ((a 5), .inl (G.2 1, 121, .inl f))]) ⟨hx, hb, hml, hown, hts⟩ (c_r_isPlayer l G (a 4) h b P hG.1.1.1 hP4 (nI o) ) (va_cwS 2 hts gX7_command_X7_isPlayer rfl rfl rfl (by decide +kernel) ⟨Nat.le_of_ble_eq_true rfl, Nat.le_of_ble_eq_true rfl⟩) rfl hl.1 rfl (Nat.le_of_ble_eq_true rfl) dX7_command_252 ⟨Nat.le_of_ble_eq_true rfl, Nat.le_of_ble_eq_true rfl⟩ hK hE hA hM (pm_at 3 [1] [0, 2] rfl rfl rfl (by decide)) ((pm_at 3 [1] [0, 2] rfl rfl rfl (by decide))).symm (fun H locs hM hz => ?_)
      refine z_ifeq (tgt := 285) hx hb dX7_command_255 (by decide) (fun c_p => ?_) (fun c_p => ?_)
      · skip
        refine lv_iconst (v := 0) hx hb dX7_command_285 (by decide) ?_
        exact z_zret hx hb hr hlocks dX7_command_286 hM (Nat.le_of_ble_eq_true rfl) (Nat.le_of_ble_eq_true rfl) (by first | exact Or.inl rfl | exact Or.inr rfl | exact zb_01 _) rfl
      · skip
        refine lv_iload_n hx hb dX7_command_258 rfl (lv_at hl 4 rfl) ?_
        refine z_callS (As := [.int (nI i)]) (rest := []) (wc := []) (wr := [((a 0), .inr (7, [.int (u 0), .ref (a 1), .int (u 2), .ref (a 3), .ref (a 4), .ref (a 5), .ref (a 6), .int (u 7), .ref (a 8), .ref (a 9), .int (u 10), .int (u 11), .int (u 12), .long x, .int (u 14), .int (u 15)])), ((a 4), .inl (G.2 1, 121, .inl (flt h b))), ((a 5), .inl (G.2 1, 121, .inl f))]) (w1 := []) (ws' := [((a 0), .inr (7, [.int (u 0), .ref (a 1), .int (u 2), .ref (a 3), .ref (a 4), .ref (a 5), .ref (a 6), .int (u 7), .ref (a 8), .ref (a 9), .int (u 10), .int (u 11), .int (u 12), .long x, .int (u 14), .int (u 15)])), ((a 4), .inl (G.2 1, 121, .inl (flt h b))), ((a 5), .inl (G.2 1, 121, .inl f))]) ⟨hx, hb, hml, hown, hts⟩ (c_r_isPlace l G (nI i)) (va_cwS 1 hts gX7_command_X7_isPlace rfl rfl rfl (by decide +kernel) ⟨Nat.le_of_ble_eq_true rfl, Nat.le_of_ble_eq_true rfl⟩) rfl hl.1 rfl (Nat.le_of_ble_eq_true rfl) dX7_command_259 ⟨Nat.le_of_ble_eq_true rfl, Nat.le_of_ble_eq_true rfl⟩ hK hE hA hM (List.Perm.refl _) (List.Perm.refl _) (fun H locs hM hz => ?_)
        refine z_ifeq (tgt := 285) hx hb dX7_command_262 (by decide) (fun c_n => ?_) (fun c_n => ?_)
        · skip
          refine lv_iconst (v := 0) hx hb dX7_command_285 (by decide) ?_
          exact z_zret hx hb hr hlocks dX7_command_286 hM (Nat.le_of_ble_eq_true rfl) (Nat.le_of_ble_eq_true rfl) (by first | exact Or.inl rfl | exact Or.inr rfl | exact zb_01 _) rfl
        · skip
          have hoP : o < P := (zHp_lt hG.1.1.1 hP4 (by omega)).mp c_p
          refine lv_aload_n hx hb dX7_command_265 rfl (lv_at hl 1 rfl) ?_
          refine z_get (ci := 7) (v := .ref (a 4)) (C := RX7) (T := TX7) (N := 16) hx hb hts (by decide +kernel) hown hK hM 0 rfl rfl 4 (by decide) (hts (.fieldLink RX7 16 "ShiftIslesModel" "trial" "[I") (by decide +kernel)) (fun _ h9 => h9) rfl dX7_command_266 ?_
          refine lv_iload_n hx hb dX7_command_269 rfl (lv_at hl 3 rfl) ?_
          refine z_callS (As := [.ref (a 4), .int (nI o)]) (rest := []) (wc := rfW G (a 4) h b) (wr := [((a 0), .inr (7, [.int (u 0), .ref (a 1), .int (u 2), .ref (a 3), .ref (a 4), .ref (a 5), .ref (a 6), .int (u 7), .ref (a 8), .ref (a 9), .int (u 10), .int (u 11), .int (u 12), .long x, .int (u 14), .int (u 15)])), ((a 5), .inl (G.2 1, 121, .inl f))]) (w1 := rfW G (a 4) h b) (ws' := [((a 0), .inr (7, [.int (u 0), .ref (a 1), .int (u 2), .ref (a 3), .ref (a 4), .ref (a 5), .ref (a 6), .int (u 7), .ref (a 8), .ref (a 9), .int (u 10), .int (u 11), .int (u 12), .long x, .int (u 14), .int (u 15)])), ((a 4), .inl (G.2 1, 121, .inl (flt h b))), ((a 5), .inl (G.2 1, 121, .inl f))]) ⟨hx, hb, hml, hown, hts⟩ (c_reachable l G (a 4) h b o S (by omega) hS (hG.1.2.2 _ hoP) h6 ) (va_cwS 2 hts gX7_command_X7_reachable rfl rfl rfl (by decide +kernel) ⟨Nat.le_of_ble_eq_true rfl, Nat.le_of_ble_eq_true rfl⟩) rfl hl.1 rfl (Nat.le_of_ble_eq_true rfl) dX7_command_270 ⟨Nat.le_of_ble_eq_true rfl, Nat.le_of_ble_eq_true rfl⟩ hK hE hA hM (pm_at 3 [1] [0, 2] rfl rfl rfl (by decide)) ((pm_at 3 [1] [0, 2] rfl rfl rfl (by decide))).symm (fun H locs hM hz => ?_)
          refine lv_iload_n hx hb dX7_command_273 rfl (lv_at hl 4 rfl) ?_
          refine lv_ishr hx hb dX7_command_274 ?_
          refine lv_iconst (v := 1) hx hb dX7_command_275 (by decide) ?_
          refine lv_iand hx hb dX7_command_276 ?_
          refine lv_iconst (v := 1) hx hb dX7_command_277 (by decide) ?_
          refine lv_icmp_ne (tgt := 285) hx hb dX7_command_278 (by decide) (fun c_1 => ?_) (fun c_1 => (by rw [decide_eq_true ((nI_eq (a := j) (b := 0) (by omega) (by decide)).mp c_z3), zRs, zIn, c_p, c_n, decide_eq_true c_1] at hc; exact Bool.noConfusion hc))
          refine lv_iconst (v := 0) hx hb dX7_command_285 (by decide) ?_
          exact z_zret hx hb hr hlocks dX7_command_286 hM (Nat.le_of_ble_eq_true rfl) (Nat.le_of_ble_eq_true rfl) (by first | exact Or.inl rfl | exact Or.inr rfl | exact zb_01 _) rfl
  · skip
    refine lv_iload_n hx hb dX7_command_4 rfl (lv_at hl 3 rfl) ?_
    refine lv_if_ne (tgt := 12) hx hb dX7_command_5 (by decide) (fun c_z2 => ?_) (fun c_z2 => ?_)
    · skip
      refine lv_iconst (v := 0) hx hb dX7_command_12 (by decide) ?_
      refine lv_istore (lv' := [(5, .int 0), (0, .ref (a 0)), (1, .int 5), (2, .int (nI o)), (3, .int (nI i)), (4, .int (nI j))]) hx hb dX7_command_13 hl (by decide) rfl (fun ls hl => ?_)
      refine lv_iload_n hx hb dX7_command_15 rfl (lv_at hl 2 rfl) ?_
      refine lv_tableIn (off := 226) (tgt := 242) hx hb dX7_command_16 (by decide) (by decide) rfl (by decide) ?_
      refine lv_iload hx hb dX7_command_242 (lv_at hl 5 rfl) ?_
      refine lv_if_ne (tgt := 285) hx hb dX7_command_244 (by decide) (fun c_z3 => ?_) (fun c_z3 => ?_)
      · skip
        refine lv_iconst (v := 0) hx hb dX7_command_285 (by decide) ?_
        exact z_zret hx hb hr hlocks dX7_command_286 hM (Nat.le_of_ble_eq_true rfl) (Nat.le_of_ble_eq_true rfl) (by first | exact Or.inl rfl | exact Or.inr rfl | exact zb_01 _) rfl
      · skip
        refine lv_aload_n hx hb dX7_command_247 rfl (lv_at hl 1 rfl) ?_
        refine z_get (ci := 7) (v := .ref (a 4)) (C := RX7) (T := TX7) (N := 16) hx hb hts (by decide +kernel) hown hK hM 0 rfl rfl 4 (by decide) (hts (.fieldLink RX7 16 "ShiftIslesModel" "trial" "[I") (by decide +kernel)) (fun _ h9 => h9) rfl dX7_command_248 ?_
        refine lv_iload_n hx hb dX7_command_251 rfl (lv_at hl 3 rfl) ?_
        refine z_callS (As := [.ref (a 4), .int (nI o)]) (rest := []) (wc := rfW G (a 4) h b) (wr := [((a 0), .inr (7, [.int (u 0), .ref (a 1), .int (u 2), .ref (a 3), .ref (a 4), .ref (a 5), .ref (a 6), .int (u 7), .ref (a 8), .ref (a 9), .int (u 10), .int (u 11), .int (u 12), .long x, .int (u 14), .int (u 15)])), ((a 5), .inl (G.2 1, 121, .inl f))]) (w1 := rfW G (a 4) h b) (ws' := [((a 0), .inr (7, [.int (u 0), .ref (a 1), .int (u 2), .ref (a 3), .ref (a 4), .ref (a 5), .ref (a 6), .int (u 7), .ref (a 8), .ref (a 9), .int (u 10), .int (u 11), .int (u 12), .long x, .int (u 14), .int (u 15)])), ((a 4), .inl (G.2 1, 121, .inl (flt h b))), ((a 5), .inl (G.2 1, 121, .inl f))]) ⟨hx, hb, hml, hown, hts⟩ (c_r_isPlayer l G (a 4) h b P hG.1.1.1 hP4 (nI o) ) (va_cwS 2 hts gX7_command_X7_isPlayer rfl rfl rfl (by decide +kernel) ⟨Nat.le_of_ble_eq_true rfl, Nat.le_of_ble_eq_true rfl⟩) rfl hl.1 rfl (Nat.le_of_ble_eq_true rfl) dX7_command_252 ⟨Nat.le_of_ble_eq_true rfl, Nat.le_of_ble_eq_true rfl⟩ hK hE hA hM (pm_at 3 [1] [0, 2] rfl rfl rfl (by decide)) ((pm_at 3 [1] [0, 2] rfl rfl rfl (by decide))).symm (fun H locs hM hz => ?_)
        refine z_ifeq (tgt := 285) hx hb dX7_command_255 (by decide) (fun c_p => ?_) (fun c_p => ?_)
        · skip
          refine lv_iconst (v := 0) hx hb dX7_command_285 (by decide) ?_
          exact z_zret hx hb hr hlocks dX7_command_286 hM (Nat.le_of_ble_eq_true rfl) (Nat.le_of_ble_eq_true rfl) (by first | exact Or.inl rfl | exact Or.inr rfl | exact zb_01 _) rfl
        · skip
          refine lv_iload_n hx hb dX7_command_258 rfl (lv_at hl 4 rfl) ?_
          refine z_callS (As := [.int (nI i)]) (rest := []) (wc := []) (wr := [((a 0), .inr (7, [.int (u 0), .ref (a 1), .int (u 2), .ref (a 3), .ref (a 4), .ref (a 5), .ref (a 6), .int (u 7), .ref (a 8), .ref (a 9), .int (u 10), .int (u 11), .int (u 12), .long x, .int (u 14), .int (u 15)])), ((a 4), .inl (G.2 1, 121, .inl (flt h b))), ((a 5), .inl (G.2 1, 121, .inl f))]) (w1 := []) (ws' := [((a 0), .inr (7, [.int (u 0), .ref (a 1), .int (u 2), .ref (a 3), .ref (a 4), .ref (a 5), .ref (a 6), .int (u 7), .ref (a 8), .ref (a 9), .int (u 10), .int (u 11), .int (u 12), .long x, .int (u 14), .int (u 15)])), ((a 4), .inl (G.2 1, 121, .inl (flt h b))), ((a 5), .inl (G.2 1, 121, .inl f))]) ⟨hx, hb, hml, hown, hts⟩ (c_r_isPlace l G (nI i)) (va_cwS 1 hts gX7_command_X7_isPlace rfl rfl rfl (by decide +kernel) ⟨Nat.le_of_ble_eq_true rfl, Nat.le_of_ble_eq_true rfl⟩) rfl hl.1 rfl (Nat.le_of_ble_eq_true rfl) dX7_command_259 ⟨Nat.le_of_ble_eq_true rfl, Nat.le_of_ble_eq_true rfl⟩ hK hE hA hM (List.Perm.refl _) (List.Perm.refl _) (fun H locs hM hz => ?_)
          refine z_ifeq (tgt := 285) hx hb dX7_command_262 (by decide) (fun c_n => ?_) (fun c_n => ?_)
          · skip
            refine lv_iconst (v := 0) hx hb dX7_command_285 (by decide) ?_
            exact z_zret hx hb hr hlocks dX7_command_286 hM (Nat.le_of_ble_eq_true rfl) (Nat.le_of_ble_eq_true rfl) (by first | exact Or.inl rfl | exact Or.inr rfl | exact zb_01 _) rfl
          · skip
            have hoP : o < P := (zHp_lt hG.1.1.1 hP4 (by omega)).mp c_p
            refine lv_aload_n hx hb dX7_command_265 rfl (lv_at hl 1 rfl) ?_
            refine z_get (ci := 7) (v := .ref (a 4)) (C := RX7) (T := TX7) (N := 16) hx hb hts (by decide +kernel) hown hK hM 0 rfl rfl 4 (by decide) (hts (.fieldLink RX7 16 "ShiftIslesModel" "trial" "[I") (by decide +kernel)) (fun _ h9 => h9) rfl dX7_command_266 ?_
            refine lv_iload_n hx hb dX7_command_269 rfl (lv_at hl 3 rfl) ?_
            refine z_callS (As := [.ref (a 4), .int (nI o)]) (rest := []) (wc := rfW G (a 4) h b) (wr := [((a 0), .inr (7, [.int (u 0), .ref (a 1), .int (u 2), .ref (a 3), .ref (a 4), .ref (a 5), .ref (a 6), .int (u 7), .ref (a 8), .ref (a 9), .int (u 10), .int (u 11), .int (u 12), .long x, .int (u 14), .int (u 15)])), ((a 5), .inl (G.2 1, 121, .inl f))]) (w1 := rfW G (a 4) h b) (ws' := [((a 0), .inr (7, [.int (u 0), .ref (a 1), .int (u 2), .ref (a 3), .ref (a 4), .ref (a 5), .ref (a 6), .int (u 7), .ref (a 8), .ref (a 9), .int (u 10), .int (u 11), .int (u 12), .long x, .int (u 14), .int (u 15)])), ((a 4), .inl (G.2 1, 121, .inl (flt h b))), ((a 5), .inl (G.2 1, 121, .inl f))]) ⟨hx, hb, hml, hown, hts⟩ (c_reachable l G (a 4) h b o S (by omega) hS (hG.1.2.2 _ hoP) h6 ) (va_cwS 2 hts gX7_command_X7_reachable rfl rfl rfl (by decide +kernel) ⟨Nat.le_of_ble_eq_true rfl, Nat.le_of_ble_eq_true rfl⟩) rfl hl.1 rfl (Nat.le_of_ble_eq_true rfl) dX7_command_270 ⟨Nat.le_of_ble_eq_true rfl, Nat.le_of_ble_eq_true rfl⟩ hK hE hA hM (pm_at 3 [1] [0, 2] rfl rfl rfl (by decide)) ((pm_at 3 [1] [0, 2] rfl rfl rfl (by decide))).symm (fun H locs hM hz => ?_)
            refine lv_iload_n hx hb dX7_command_273 rfl (lv_at hl 4 rfl) ?_
            refine lv_ishr hx hb dX7_command_274 ?_
            refine lv_iconst (v := 1) hx hb dX7_command_275 (by decide) ?_
            refine lv_iand hx hb dX7_command_276 ?_
            refine lv_iconst (v := 1) hx hb dX7_command_277 (by decide) ?_
            refine lv_icmp_ne (tgt := 285) hx hb dX7_command_278 (by decide) (fun c_2 => ?_) (fun c_2 => (by rw [decide_eq_true ((nI_eq (a := j) (b := 0) (by omega) (by decide)).mp c_z3), zRs, zIn, c_p, c_n, decide_eq_true c_2] at hc; exact Bool.noConfusion hc))
            refine lv_iconst (v := 0) hx hb dX7_command_285 (by decide) ?_
            exact z_zret hx hb hr hlocks dX7_command_286 hM (Nat.le_of_ble_eq_true rfl) (Nat.le_of_ble_eq_true rfl) (by first | exact Or.inl rfl | exact Or.inr rfl | exact zb_01 _) rfl
    · skip
      refine lv_iconst (v := 1) hx hb dX7_command_8 (by decide) ?_
      refine lv_goto (tgt := 13) hx hb dX7_command_9 (by decide) ?_
      refine lv_istore (lv' := [(5, .int 1), (0, .ref (a 0)), (1, .int 5), (2, .int (nI o)), (3, .int (nI i)), (4, .int (nI j))]) hx hb dX7_command_13 hl (by decide) rfl (fun ls hl => ?_)
      refine lv_iload_n hx hb dX7_command_15 rfl (lv_at hl 2 rfl) ?_
      refine lv_tableIn (off := 226) (tgt := 242) hx hb dX7_command_16 (by decide) (by decide) rfl (by decide) ?_
      refine lv_iload hx hb dX7_command_242 (lv_at hl 5 rfl) ?_
      refine lv_if_ne (tgt := 285) hx hb dX7_command_244 (by decide) (fun c_z3 => ?_) (fun c_z3 => ?_)
      · skip
        refine lv_iconst (v := 0) hx hb dX7_command_285 (by decide) ?_
        exact z_zret hx hb hr hlocks dX7_command_286 hM (Nat.le_of_ble_eq_true rfl) (Nat.le_of_ble_eq_true rfl) (by first | exact Or.inl rfl | exact Or.inr rfl | exact zb_01 _) rfl
      · skip
        refine lv_aload_n hx hb dX7_command_247 rfl (lv_at hl 1 rfl) ?_
        refine z_get (ci := 7) (v := .ref (a 4)) (C := RX7) (T := TX7) (N := 16) hx hb hts (by decide +kernel) hown hK hM 0 rfl rfl 4 (by decide) (hts (.fieldLink RX7 16 "ShiftIslesModel" "trial" "[I") (by decide +kernel)) (fun _ h9 => h9) rfl dX7_command_248 ?_
        refine lv_iload_n hx hb dX7_command_251 rfl (lv_at hl 3 rfl) ?_
        refine z_callS (As := [.ref (a 4), .int (nI o)]) (rest := []) (wc := rfW G (a 4) h b) (wr := [((a 0), .inr (7, [.int (u 0), .ref (a 1), .int (u 2), .ref (a 3), .ref (a 4), .ref (a 5), .ref (a 6), .int (u 7), .ref (a 8), .ref (a 9), .int (u 10), .int (u 11), .int (u 12), .long x, .int (u 14), .int (u 15)])), ((a 5), .inl (G.2 1, 121, .inl f))]) (w1 := rfW G (a 4) h b) (ws' := [((a 0), .inr (7, [.int (u 0), .ref (a 1), .int (u 2), .ref (a 3), .ref (a 4), .ref (a 5), .ref (a 6), .int (u 7), .ref (a 8), .ref (a 9), .int (u 10), .int (u 11), .int (u 12), .long x, .int (u 14), .int (u 15)])), ((a 4), .inl (G.2 1, 121, .inl (flt h b))), ((a 5), .inl (G.2 1, 121, .inl f))]) ⟨hx, hb, hml, hown, hts⟩ (c_r_isPlayer l G (a 4) h b P hG.1.1.1 hP4 (nI o) ) (va_cwS 2 hts gX7_command_X7_isPlayer rfl rfl rfl (by decide +kernel) ⟨Nat.le_of_ble_eq_true rfl, Nat.le_of_ble_eq_true rfl⟩) rfl hl.1 rfl (Nat.le_of_ble_eq_true rfl) dX7_command_252 ⟨Nat.le_of_ble_eq_true rfl, Nat.le_of_ble_eq_true rfl⟩ hK hE hA hM (pm_at 3 [1] [0, 2] rfl rfl rfl (by decide)) ((pm_at 3 [1] [0, 2] rfl rfl rfl (by decide))).symm (fun H locs hM hz => ?_)
        refine z_ifeq (tgt := 285) hx hb dX7_command_255 (by decide) (fun c_p => ?_) (fun c_p => ?_)
        · skip
          refine lv_iconst (v := 0) hx hb dX7_command_285 (by decide) ?_
          exact z_zret hx hb hr hlocks dX7_command_286 hM (Nat.le_of_ble_eq_true rfl) (Nat.le_of_ble_eq_true rfl) (by first | exact Or.inl rfl | exact Or.inr rfl | exact zb_01 _) rfl
        · skip
          refine lv_iload_n hx hb dX7_command_258 rfl (lv_at hl 4 rfl) ?_
          refine z_callS (As := [.int (nI i)]) (rest := []) (wc := []) (wr := [((a 0), .inr (7, [.int (u 0), .ref (a 1), .int (u 2), .ref (a 3), .ref (a 4), .ref (a 5), .ref (a 6), .int (u 7), .ref (a 8), .ref (a 9), .int (u 10), .int (u 11), .int (u 12), .long x, .int (u 14), .int (u 15)])), ((a 4), .inl (G.2 1, 121, .inl (flt h b))), ((a 5), .inl (G.2 1, 121, .inl f))]) (w1 := []) (ws' := [((a 0), .inr (7, [.int (u 0), .ref (a 1), .int (u 2), .ref (a 3), .ref (a 4), .ref (a 5), .ref (a 6), .int (u 7), .ref (a 8), .ref (a 9), .int (u 10), .int (u 11), .int (u 12), .long x, .int (u 14), .int (u 15)])), ((a 4), .inl (G.2 1, 121, .inl (flt h b))), ((a 5), .inl (G.2 1, 121, .inl f))]) ⟨hx, hb, hml, hown, hts⟩ (c_r_isPlace l G (nI i)) (va_cwS 1 hts gX7_command_X7_isPlace rfl rfl rfl (by decide +kernel) ⟨Nat.le_of_ble_eq_true rfl, Nat.le_of_ble_eq_true rfl⟩) rfl hl.1 rfl (Nat.le_of_ble_eq_true rfl) dX7_command_259 ⟨Nat.le_of_ble_eq_true rfl, Nat.le_of_ble_eq_true rfl⟩ hK hE hA hM (List.Perm.refl _) (List.Perm.refl _) (fun H locs hM hz => ?_)
          refine z_ifeq (tgt := 285) hx hb dX7_command_262 (by decide) (fun c_n => ?_) (fun c_n => ?_)
          · skip
            refine lv_iconst (v := 0) hx hb dX7_command_285 (by decide) ?_
            exact z_zret hx hb hr hlocks dX7_command_286 hM (Nat.le_of_ble_eq_true rfl) (Nat.le_of_ble_eq_true rfl) (by first | exact Or.inl rfl | exact Or.inr rfl | exact zb_01 _) rfl
          · skip
            have hoP : o < P := (zHp_lt hG.1.1.1 hP4 (by omega)).mp c_p
            refine lv_aload_n hx hb dX7_command_265 rfl (lv_at hl 1 rfl) ?_
            refine z_get (ci := 7) (v := .ref (a 4)) (C := RX7) (T := TX7) (N := 16) hx hb hts (by decide +kernel) hown hK hM 0 rfl rfl 4 (by decide) (hts (.fieldLink RX7 16 "ShiftIslesModel" "trial" "[I") (by decide +kernel)) (fun _ h9 => h9) rfl dX7_command_266 ?_
            refine lv_iload_n hx hb dX7_command_269 rfl (lv_at hl 3 rfl) ?_
            refine z_callS (As := [.ref (a 4), .int (nI o)]) (rest := []) (wc := rfW G (a 4) h b) (wr := [((a 0), .inr (7, [.int (u 0), .ref (a 1), .int (u 2), .ref (a 3), .ref (a 4), .ref (a 5), .ref (a 6), .int (u 7), .ref (a 8), .ref (a 9), .int (u 10), .int (u 11), .int (u 12), .long x, .int (u 14), .int (u 15)])), ((a 5), .inl (G.2 1, 121, .inl f))]) (w1 := rfW G (a 4) h b) (ws' := [((a 0), .inr (7, [.int (u 0), .ref (a 1), .int (u 2), .ref (a 3), .ref (a 4), .ref (a 5), .ref (a 6), .int (u 7), .ref (a 8), .ref (a 9), .int (u 10), .int (u 11), .int (u 12), .long x, .int (u 14), .int (u 15)])), ((a 4), .inl (G.2 1, 121, .inl (flt h b))), ((a 5), .inl (G.2 1, 121, .inl f))]) ⟨hx, hb, hml, hown, hts⟩ (c_reachable l G (a 4) h b o S (by omega) hS (hG.1.2.2 _ hoP) h6 ) (va_cwS 2 hts gX7_command_X7_reachable rfl rfl rfl (by decide +kernel) ⟨Nat.le_of_ble_eq_true rfl, Nat.le_of_ble_eq_true rfl⟩) rfl hl.1 rfl (Nat.le_of_ble_eq_true rfl) dX7_command_270 ⟨Nat.le_of_ble_eq_true rfl, Nat.le_of_ble_eq_true rfl⟩ hK hE hA hM (pm_at 3 [1] [0, 2] rfl rfl rfl (by decide)) ((pm_at 3 [1] [0, 2] rfl rfl rfl (by decide))).symm (fun H locs hM hz => ?_)
            refine lv_iload_n hx hb dX7_command_273 rfl (lv_at hl 4 rfl) ?_
            refine lv_ishr hx hb dX7_command_274 ?_
            refine lv_iconst (v := 1) hx hb dX7_command_275 (by decide) ?_
            refine lv_iand hx hb dX7_command_276 ?_
            refine lv_iconst (v := 1) hx hb dX7_command_277 (by decide) ?_
            refine lv_icmp_ne (tgt := 285) hx hb dX7_command_278 (by decide) (fun c_3 => ?_) (fun c_3 => (by rw [decide_eq_true ((nI_eq (a := j) (b := 0) (by omega) (by decide)).mp c_z3), zRs, zIn, c_p, c_n, decide_eq_true c_3] at hc; exact Bool.noConfusion hc))
            refine lv_iconst (v := 0) hx hb dX7_command_285 (by decide) ?_
            exact z_zret hx hb hr hlocks dX7_command_286 hM (Nat.le_of_ble_eq_true rfl) (Nat.le_of_ble_eq_true rfl) (by first | exact Or.inl rfl | exact Or.inr rfl | exact zb_01 _) rfl

set_option maxHeartbeats 4000000 in
set_option maxRecDepth 100000 in
theorem c_cmd6y (l : Launch) (G : zC) (a : Nat → Nat) (u : Nat → Int32) (x : Int64) (f : Nat → Int32) (h : Nat → Int32) (b : Nat → Nat → Int32) (P t S e0 : Nat) (hG : zGs h b P t S e0) (o i j : Nat) (ho9 : o < 10) (hi9 : i < 10) (hj9 : j < 10) (hp9 : zHp h (nI o) = true) (hc : nI j ≤ b o 23) : zMet l G yX7_command wsX7_command rmX7_command [.ref (a 0), .int 6, .int (nI o), .int (nI 0), .int (nI j)] ([((a 0), .inr (7, [.int (u 0), .ref (a 1), .int (u 2), .ref (a 3), .ref (a 4), .ref (a 5), .ref (a 6), .int (u 7), .ref (a 8), .ref (a 9), .int (u 10), .int (u 11), .int (u 12), .long x, .int (u 14), .int (u 15)])), ((a 4), .inl (G.2 1, 121, .inl (flt h b))), ((a 5), .inl (G.2 1, 121, .inl f))]) (some (.int 1)) ([((a 0), .inr (7, [.int (u 0), .ref (a 1), .int (u 2), .ref (a 3), .ref (a 4), .ref (a 5), .ref (a 6), .int (u 7), .ref (a 8), .ref (a 9), .int (u 10), .int (u 11), .int (u 12), .long x, .int (u 14), .int (u 15)])), ((a 4), .inl (G.2 1, 121, .inl (flt h b))), ((a 5), .inl (G.2 1, 121, .inl f))]) := by
  refine zMet_of (cc := cX7_command) (maxL := 6) (ret := (some .boolean)) (by decide) rfl (Nat.le_of_ble_eq_true rfl) ?_
  intro p e s m below meth c A ls hx hb hr hml hown hts hK hA hE hlocks hin hM hl
  have hown : s.vm.findClass RX7 = some m.cls := hown
  have hM : zM G A s s.heap [] ([((a 0), .inr (7, [.int (u 0), .ref (a 1), .int (u 2), .ref (a 3), .ref (a 4), .ref (a 5), .ref (a 6), .int (u 7), .ref (a 8), .ref (a 9), .int (u 10), .int (u 11), .int (u 12), .long x, .int (u 14), .int (u 15)])), ((a 4), .inl (G.2 1, 121, .inl (flt h b))), ((a 5), .inl (G.2 1, 121, .inl f))]) := hM
  have hl : lv_has ls 6 [(0, .ref (a 0)), (1, .int 6), (2, .int (nI o)), (3, .int (nI 0)), (4, .int (nI j))] := hl
  have hP4 := hG.1.1.2.1
  have h6 := hG.1.1.2.2.2.2.1
  have hS := hG.1.1.2.2.2.2.2.1
  refine lv_iload_n hx hb dX7_command_0 rfl (lv_at hl 2 rfl) ?_
  refine lv_if_ne (tgt := 12) hx hb dX7_command_1 (by decide) (fun c_z1 => ?_) (fun c_z1 => ?_)
  · skip
    refine lv_iconst (v := 0) hx hb dX7_command_12 (by decide) ?_
    refine lv_istore (lv' := [(5, .int 0), (0, .ref (a 0)), (1, .int 6), (2, .int (nI o)), (3, .int (nI 0)), (4, .int (nI j))]) hx hb dX7_command_13 hl (by decide) rfl (fun ls hl => ?_)
    refine lv_iload_n hx hb dX7_command_15 rfl (lv_at hl 2 rfl) ?_
    refine lv_tableIn (off := 271) (tgt := 287) hx hb dX7_command_16 (by decide) (by decide) rfl (by decide) ?_
    refine lv_iload_n hx hb dX7_command_287 rfl (lv_at hl 4 rfl) ?_
    refine lv_if_ne (tgt := 323) hx hb dX7_command_288 (by decide) (fun c_1 => absurd rfl c_1) (fun c_1 => ?_)
    refine lv_aload_n hx hb dX7_command_291 rfl (lv_at hl 1 rfl) ?_
    refine z_get (ci := 7) (v := .ref (a 4)) (C := RX7) (T := TX7) (N := 16) hx hb hts (by decide +kernel) hown hK hM 0 rfl rfl 4 (by decide) (hts (.fieldLink RX7 16 "ShiftIslesModel" "trial" "[I") (by decide +kernel)) (fun _ h9 => h9) rfl dX7_command_292 ?_
    refine lv_iload_n hx hb dX7_command_295 rfl (lv_at hl 3 rfl) ?_
    refine z_callS (As := [.ref (a 4), .int (nI o)]) (rest := []) (wc := rfW G (a 4) h b) (wr := [((a 0), .inr (7, [.int (u 0), .ref (a 1), .int (u 2), .ref (a 3), .ref (a 4), .ref (a 5), .ref (a 6), .int (u 7), .ref (a 8), .ref (a 9), .int (u 10), .int (u 11), .int (u 12), .long x, .int (u 14), .int (u 15)])), ((a 5), .inl (G.2 1, 121, .inl f))]) (w1 := rfW G (a 4) h b) (ws' := [((a 0), .inr (7, [.int (u 0), .ref (a 1), .int (u 2), .ref (a 3), .ref (a 4), .ref (a 5), .ref (a 6), .int (u 7), .ref (a 8), .ref (a 9), .int (u 10), .int (u 11), .int (u 12), .long x, .int (u 14), .int (u 15)])), ((a 4), .inl (G.2 1, 121, .inl (flt h b))), ((a 5), .inl (G.2 1, 121, .inl f))]) ⟨hx, hb, hml, hown, hts⟩ (c_r_isPlayer l G (a 4) h b P hG.1.1.1 hP4 (nI o) ) (va_cwS 2 hts gX7_command_X7_isPlayer rfl rfl rfl (by decide +kernel) ⟨Nat.le_of_ble_eq_true rfl, Nat.le_of_ble_eq_true rfl⟩) rfl hl.1 rfl (Nat.le_of_ble_eq_true rfl) dX7_command_296 ⟨Nat.le_of_ble_eq_true rfl, Nat.le_of_ble_eq_true rfl⟩ hK hE hA hM (pm_at 3 [1] [0, 2] rfl rfl rfl (by decide)) ((pm_at 3 [1] [0, 2] rfl rfl rfl (by decide))).symm (fun H locs hM hz => ?_)
    refine z_ifeq (tgt := 323) hx hb dX7_command_299 (by decide) (fun c_2 => Bool.noConfusion (hp9.symm.trans c_2)) (fun c_2 => ?_)
    have hoP : o < P := (zHp_lt hG.1.1.1 hP4 (by omega)).mp hp9
    refine lv_aload_n hx hb dX7_command_302 rfl (lv_at hl 1 rfl) ?_
    refine z_get (ci := 7) (v := .ref (a 4)) (C := RX7) (T := TX7) (N := 16) hx hb hts (by decide +kernel) hown hK hM 0 rfl rfl 4 (by decide) (hts (.fieldLink RX7 16 "ShiftIslesModel" "trial" "[I") (by decide +kernel)) (fun _ h9 => h9) rfl dX7_command_303 ?_
    refine lv_iload_n hx hb dX7_command_306 rfl (lv_at hl 3 rfl) ?_
    refine z_callS (As := [.int (nI o)]) (rest := [.ref (a 4)]) (wc := []) (wr := [((a 0), .inr (7, [.int (u 0), .ref (a 1), .int (u 2), .ref (a 3), .ref (a 4), .ref (a 5), .ref (a 6), .int (u 7), .ref (a 8), .ref (a 9), .int (u 10), .int (u 11), .int (u 12), .long x, .int (u 14), .int (u 15)])), ((a 4), .inl (G.2 1, 121, .inl (flt h b))), ((a 5), .inl (G.2 1, 121, .inl f))]) (w1 := []) (ws' := [((a 0), .inr (7, [.int (u 0), .ref (a 1), .int (u 2), .ref (a 3), .ref (a 4), .ref (a 5), .ref (a 6), .int (u 7), .ref (a 8), .ref (a 9), .int (u 10), .int (u 11), .int (u 12), .long x, .int (u 14), .int (u 15)])), ((a 4), .inl (G.2 1, 121, .inl (flt h b))), ((a 5), .inl (G.2 1, 121, .inl f))]) ⟨hx, hb, hml, hown, hts⟩ (c_at l G o (by omega)) (va_cwS 1 hts gX7_command_X7_at rfl rfl rfl (by decide +kernel) ⟨Nat.le_of_ble_eq_true rfl, Nat.le_of_ble_eq_true rfl⟩) rfl hl.1 rfl (Nat.le_of_ble_eq_true rfl) dX7_command_307 ⟨Nat.le_of_ble_eq_true rfl, Nat.le_of_ble_eq_true rfl⟩ hK hE hA hM (List.Perm.refl _) (List.Perm.refl _) (fun H locs hM hz => ?_)
    refine lv_bipush (v := nI 23) hx hb dX7_command_310 (by decide) ?_
    refine lv_iadd hx hb dX7_command_312 ?_
    refine z_topi (y := nI ((9 + (28 * o)) + 23)) (nI_add (9 + (28 * o)) 23) ?_
    refine z_iald hx hb hK hM 1 rfl (v := b o 23) (vp_in_nI (by omega) (by decide)) (by rw [nI_clamp (by omega)]; exact flt_b o 23 (by omega) (by omega)) dX7_command_313 ?_
    refine lv_iload hx hb dX7_command_314 (lv_at hl 5 rfl) ?_
    refine lv_icmp_lt (tgt := 323) hx hb dX7_command_316 (by decide) (fun c_3 => absurd hc (Int32.not_le.mpr c_3)) (fun c_3 => ?_)
    refine lv_iconst (v := 1) hx hb dX7_command_319 (by decide) ?_
    refine lv_goto (tgt := 324) hx hb dX7_command_320 (by decide) ?_
    exact z_zret hx hb hr hlocks dX7_command_324 hM (Nat.le_of_ble_eq_true rfl) (Nat.le_of_ble_eq_true rfl) (by first | exact Or.inl rfl | exact Or.inr rfl | exact zb_01 _) rfl
  · skip
    refine lv_iload_n hx hb dX7_command_4 rfl (lv_at hl 3 rfl) ?_
    refine lv_if_ne (tgt := 12) hx hb dX7_command_5 (by decide) (fun c_z2 => ?_) (fun c_z2 => ?_)
    · skip
      refine lv_iconst (v := 0) hx hb dX7_command_12 (by decide) ?_
      refine lv_istore (lv' := [(5, .int 0), (0, .ref (a 0)), (1, .int 6), (2, .int (nI o)), (3, .int (nI 0)), (4, .int (nI j))]) hx hb dX7_command_13 hl (by decide) rfl (fun ls hl => ?_)
      refine lv_iload_n hx hb dX7_command_15 rfl (lv_at hl 2 rfl) ?_
      refine lv_tableIn (off := 271) (tgt := 287) hx hb dX7_command_16 (by decide) (by decide) rfl (by decide) ?_
      refine lv_iload_n hx hb dX7_command_287 rfl (lv_at hl 4 rfl) ?_
      refine lv_if_ne (tgt := 323) hx hb dX7_command_288 (by decide) (fun c_4 => absurd rfl c_4) (fun c_4 => ?_)
      refine lv_aload_n hx hb dX7_command_291 rfl (lv_at hl 1 rfl) ?_
      refine z_get (ci := 7) (v := .ref (a 4)) (C := RX7) (T := TX7) (N := 16) hx hb hts (by decide +kernel) hown hK hM 0 rfl rfl 4 (by decide) (hts (.fieldLink RX7 16 "ShiftIslesModel" "trial" "[I") (by decide +kernel)) (fun _ h9 => h9) rfl dX7_command_292 ?_
      refine lv_iload_n hx hb dX7_command_295 rfl (lv_at hl 3 rfl) ?_
      refine z_callS (As := [.ref (a 4), .int (nI o)]) (rest := []) (wc := rfW G (a 4) h b) (wr := [((a 0), .inr (7, [.int (u 0), .ref (a 1), .int (u 2), .ref (a 3), .ref (a 4), .ref (a 5), .ref (a 6), .int (u 7), .ref (a 8), .ref (a 9), .int (u 10), .int (u 11), .int (u 12), .long x, .int (u 14), .int (u 15)])), ((a 5), .inl (G.2 1, 121, .inl f))]) (w1 := rfW G (a 4) h b) (ws' := [((a 0), .inr (7, [.int (u 0), .ref (a 1), .int (u 2), .ref (a 3), .ref (a 4), .ref (a 5), .ref (a 6), .int (u 7), .ref (a 8), .ref (a 9), .int (u 10), .int (u 11), .int (u 12), .long x, .int (u 14), .int (u 15)])), ((a 4), .inl (G.2 1, 121, .inl (flt h b))), ((a 5), .inl (G.2 1, 121, .inl f))]) ⟨hx, hb, hml, hown, hts⟩ (c_r_isPlayer l G (a 4) h b P hG.1.1.1 hP4 (nI o) ) (va_cwS 2 hts gX7_command_X7_isPlayer rfl rfl rfl (by decide +kernel) ⟨Nat.le_of_ble_eq_true rfl, Nat.le_of_ble_eq_true rfl⟩) rfl hl.1 rfl (Nat.le_of_ble_eq_true rfl) dX7_command_296 ⟨Nat.le_of_ble_eq_true rfl, Nat.le_of_ble_eq_true rfl⟩ hK hE hA hM (pm_at 3 [1] [0, 2] rfl rfl rfl (by decide)) ((pm_at 3 [1] [0, 2] rfl rfl rfl (by decide))).symm (fun H locs hM hz => ?_)
      refine z_ifeq (tgt := 323) hx hb dX7_command_299 (by decide) (fun c_5 => Bool.noConfusion (hp9.symm.trans c_5)) (fun c_5 => ?_)
      have hoP : o < P := (zHp_lt hG.1.1.1 hP4 (by omega)).mp hp9
      refine lv_aload_n hx hb dX7_command_302 rfl (lv_at hl 1 rfl) ?_
      refine z_get (ci := 7) (v := .ref (a 4)) (C := RX7) (T := TX7) (N := 16) hx hb hts (by decide +kernel) hown hK hM 0 rfl rfl 4 (by decide) (hts (.fieldLink RX7 16 "ShiftIslesModel" "trial" "[I") (by decide +kernel)) (fun _ h9 => h9) rfl dX7_command_303 ?_
      refine lv_iload_n hx hb dX7_command_306 rfl (lv_at hl 3 rfl) ?_
      refine z_callS (As := [.int (nI o)]) (rest := [.ref (a 4)]) (wc := []) (wr := [((a 0), .inr (7, [.int (u 0), .ref (a 1), .int (u 2), .ref (a 3), .ref (a 4), .ref (a 5), .ref (a 6), .int (u 7), .ref (a 8), .ref (a 9), .int (u 10), .int (u 11), .int (u 12), .long x, .int (u 14), .int (u 15)])), ((a 4), .inl (G.2 1, 121, .inl (flt h b))), ((a 5), .inl (G.2 1, 121, .inl f))]) (w1 := []) (ws' := [((a 0), .inr (7, [.int (u 0), .ref (a 1), .int (u 2), .ref (a 3), .ref (a 4), .ref (a 5), .ref (a 6), .int (u 7), .ref (a 8), .ref (a 9), .int (u 10), .int (u 11), .int (u 12), .long x, .int (u 14), .int (u 15)])), ((a 4), .inl (G.2 1, 121, .inl (flt h b))), ((a 5), .inl (G.2 1, 121, .inl f))]) ⟨hx, hb, hml, hown, hts⟩ (c_at l G o (by omega)) (va_cwS 1 hts gX7_command_X7_at rfl rfl rfl (by decide +kernel) ⟨Nat.le_of_ble_eq_true rfl, Nat.le_of_ble_eq_true rfl⟩) rfl hl.1 rfl (Nat.le_of_ble_eq_true rfl) dX7_command_307 ⟨Nat.le_of_ble_eq_true rfl, Nat.le_of_ble_eq_true rfl⟩ hK hE hA hM (List.Perm.refl _) (List.Perm.refl _) (fun H locs hM hz => ?_)
      refine lv_bipush (v := nI 23) hx hb dX7_command_310 (by decide) ?_
      refine lv_iadd hx hb dX7_command_312 ?_
      refine z_topi (y := nI ((9 + (28 * o)) + 23)) (nI_add (9 + (28 * o)) 23) ?_
      refine z_iald hx hb hK hM 1 rfl (v := b o 23) (vp_in_nI (by omega) (by decide)) (by rw [nI_clamp (by omega)]; exact flt_b o 23 (by omega) (by omega)) dX7_command_313 ?_
      refine lv_iload hx hb dX7_command_314 (lv_at hl 5 rfl) ?_
      refine lv_icmp_lt (tgt := 323) hx hb dX7_command_316 (by decide) (fun c_6 => absurd hc (Int32.not_le.mpr c_6)) (fun c_6 => ?_)
      refine lv_iconst (v := 1) hx hb dX7_command_319 (by decide) ?_
      refine lv_goto (tgt := 324) hx hb dX7_command_320 (by decide) ?_
      exact z_zret hx hb hr hlocks dX7_command_324 hM (Nat.le_of_ble_eq_true rfl) (Nat.le_of_ble_eq_true rfl) (by first | exact Or.inl rfl | exact Or.inr rfl | exact zb_01 _) rfl
    · skip
      refine lv_iconst (v := 1) hx hb dX7_command_8 (by decide) ?_
      refine lv_goto (tgt := 13) hx hb dX7_command_9 (by decide) ?_
      refine lv_istore (lv' := [(5, .int 1), (0, .ref (a 0)), (1, .int 6), (2, .int (nI o)), (3, .int (nI 0)), (4, .int (nI j))]) hx hb dX7_command_13 hl (by decide) rfl (fun ls hl => ?_)
      refine lv_iload_n hx hb dX7_command_15 rfl (lv_at hl 2 rfl) ?_
      refine lv_tableIn (off := 271) (tgt := 287) hx hb dX7_command_16 (by decide) (by decide) rfl (by decide) ?_
      refine lv_iload_n hx hb dX7_command_287 rfl (lv_at hl 4 rfl) ?_
      refine lv_if_ne (tgt := 323) hx hb dX7_command_288 (by decide) (fun c_7 => absurd rfl c_7) (fun c_7 => ?_)
      refine lv_aload_n hx hb dX7_command_291 rfl (lv_at hl 1 rfl) ?_
      refine z_get (ci := 7) (v := .ref (a 4)) (C := RX7) (T := TX7) (N := 16) hx hb hts (by decide +kernel) hown hK hM 0 rfl rfl 4 (by decide) (hts (.fieldLink RX7 16 "ShiftIslesModel" "trial" "[I") (by decide +kernel)) (fun _ h9 => h9) rfl dX7_command_292 ?_
      refine lv_iload_n hx hb dX7_command_295 rfl (lv_at hl 3 rfl) ?_
      refine z_callS (As := [.ref (a 4), .int (nI o)]) (rest := []) (wc := rfW G (a 4) h b) (wr := [((a 0), .inr (7, [.int (u 0), .ref (a 1), .int (u 2), .ref (a 3), .ref (a 4), .ref (a 5), .ref (a 6), .int (u 7), .ref (a 8), .ref (a 9), .int (u 10), .int (u 11), .int (u 12), .long x, .int (u 14), .int (u 15)])), ((a 5), .inl (G.2 1, 121, .inl f))]) (w1 := rfW G (a 4) h b) (ws' := [((a 0), .inr (7, [.int (u 0), .ref (a 1), .int (u 2), .ref (a 3), .ref (a 4), .ref (a 5), .ref (a 6), .int (u 7), .ref (a 8), .ref (a 9), .int (u 10), .int (u 11), .int (u 12), .long x, .int (u 14), .int (u 15)])), ((a 4), .inl (G.2 1, 121, .inl (flt h b))), ((a 5), .inl (G.2 1, 121, .inl f))]) ⟨hx, hb, hml, hown, hts⟩ (c_r_isPlayer l G (a 4) h b P hG.1.1.1 hP4 (nI o) ) (va_cwS 2 hts gX7_command_X7_isPlayer rfl rfl rfl (by decide +kernel) ⟨Nat.le_of_ble_eq_true rfl, Nat.le_of_ble_eq_true rfl⟩) rfl hl.1 rfl (Nat.le_of_ble_eq_true rfl) dX7_command_296 ⟨Nat.le_of_ble_eq_true rfl, Nat.le_of_ble_eq_true rfl⟩ hK hE hA hM (pm_at 3 [1] [0, 2] rfl rfl rfl (by decide)) ((pm_at 3 [1] [0, 2] rfl rfl rfl (by decide))).symm (fun H locs hM hz => ?_)
      refine z_ifeq (tgt := 323) hx hb dX7_command_299 (by decide) (fun c_8 => Bool.noConfusion (hp9.symm.trans c_8)) (fun c_8 => ?_)
      have hoP : o < P := (zHp_lt hG.1.1.1 hP4 (by omega)).mp hp9
      refine lv_aload_n hx hb dX7_command_302 rfl (lv_at hl 1 rfl) ?_
      refine z_get (ci := 7) (v := .ref (a 4)) (C := RX7) (T := TX7) (N := 16) hx hb hts (by decide +kernel) hown hK hM 0 rfl rfl 4 (by decide) (hts (.fieldLink RX7 16 "ShiftIslesModel" "trial" "[I") (by decide +kernel)) (fun _ h9 => h9) rfl dX7_command_303 ?_
      refine lv_iload_n hx hb dX7_command_306 rfl (lv_at hl 3 rfl) ?_
      refine z_callS (As := [.int (nI o)]) (rest := [.ref (a 4)]) (wc := []) (wr := [((a 0), .inr (7, [.int (u 0), .ref (a 1), .int (u 2), .ref (a 3), .ref (a 4), .ref (a 5), .ref (a 6), .int (u 7), .ref (a 8), .ref (a 9), .int (u 10), .int (u 11), .int (u 12), .long x, .int (u 14), .int (u 15)])), ((a 4), .inl (G.2 1, 121, .inl (flt h b))), ((a 5), .inl (G.2 1, 121, .inl f))]) (w1 := []) (ws' := [((a 0), .inr (7, [.int (u 0), .ref (a 1), .int (u 2), .ref (a 3), .ref (a 4), .ref (a 5), .ref (a 6), .int (u 7), .ref (a 8), .ref (a 9), .int (u 10), .int (u 11), .int (u 12), .long x, .int (u 14), .int (u 15)])), ((a 4), .inl (G.2 1, 121, .inl (flt h b))), ((a 5), .inl (G.2 1, 121, .inl f))]) ⟨hx, hb, hml, hown, hts⟩ (c_at l G o (by omega)) (va_cwS 1 hts gX7_command_X7_at rfl rfl rfl (by decide +kernel) ⟨Nat.le_of_ble_eq_true rfl, Nat.le_of_ble_eq_true rfl⟩) rfl hl.1 rfl (Nat.le_of_ble_eq_true rfl) dX7_command_307 ⟨Nat.le_of_ble_eq_true rfl, Nat.le_of_ble_eq_true rfl⟩ hK hE hA hM (List.Perm.refl _) (List.Perm.refl _) (fun H locs hM hz => ?_)
      refine lv_bipush (v := nI 23) hx hb dX7_command_310 (by decide) ?_
      refine lv_iadd hx hb dX7_command_312 ?_
      refine z_topi (y := nI ((9 + (28 * o)) + 23)) (nI_add (9 + (28 * o)) 23) ?_
      refine z_iald hx hb hK hM 1 rfl (v := b o 23) (vp_in_nI (by omega) (by decide)) (by rw [nI_clamp (by omega)]; exact flt_b o 23 (by omega) (by omega)) dX7_command_313 ?_
      refine lv_iload hx hb dX7_command_314 (lv_at hl 5 rfl) ?_
      refine lv_icmp_lt (tgt := 323) hx hb dX7_command_316 (by decide) (fun c_9 => absurd hc (Int32.not_le.mpr c_9)) (fun c_9 => ?_)
      refine lv_iconst (v := 1) hx hb dX7_command_319 (by decide) ?_
      refine lv_goto (tgt := 324) hx hb dX7_command_320 (by decide) ?_
      exact z_zret hx hb hr hlocks dX7_command_324 hM (Nat.le_of_ble_eq_true rfl) (Nat.le_of_ble_eq_true rfl) (by first | exact Or.inl rfl | exact Or.inr rfl | exact zb_01 _) rfl

set_option maxHeartbeats 4000000 in
set_option maxRecDepth 100000 in
theorem c_cmd6n (l : Launch) (G : zC) (a : Nat → Nat) (u : Nat → Int32) (x : Int64) (f : Nat → Int32) (h : Nat → Int32) (b : Nat → Nat → Int32) (P t S e0 : Nat) (hG : zGs h b P t S e0) (o i j : Nat) (ho9 : o < 10) (hi9 : i < 10) (hj9 : j < 10) (hc : (decide (i = 0) && zHp h (nI o) && decide (nI j ≤ b o 23)) = false) : zMet l G yX7_command wsX7_command rmX7_command [.ref (a 0), .int 6, .int (nI o), .int (nI i), .int (nI j)] ([((a 0), .inr (7, [.int (u 0), .ref (a 1), .int (u 2), .ref (a 3), .ref (a 4), .ref (a 5), .ref (a 6), .int (u 7), .ref (a 8), .ref (a 9), .int (u 10), .int (u 11), .int (u 12), .long x, .int (u 14), .int (u 15)])), ((a 4), .inl (G.2 1, 121, .inl (flt h b))), ((a 5), .inl (G.2 1, 121, .inl f))]) (some (.int 0)) ([((a 0), .inr (7, [.int (u 0), .ref (a 1), .int (u 2), .ref (a 3), .ref (a 4), .ref (a 5), .ref (a 6), .int (u 7), .ref (a 8), .ref (a 9), .int (u 10), .int (u 11), .int (u 12), .long x, .int (u 14), .int (u 15)])), ((a 4), .inl (G.2 1, 121, .inl (flt h b))), ((a 5), .inl (G.2 1, 121, .inl f))]) := by
  refine zMet_of (cc := cX7_command) (maxL := 6) (ret := (some .boolean)) (by decide) rfl (Nat.le_of_ble_eq_true rfl) ?_
  intro p e s m below meth c A ls hx hb hr hml hown hts hK hA hE hlocks hin hM hl
  have hown : s.vm.findClass RX7 = some m.cls := hown
  have hM : zM G A s s.heap [] ([((a 0), .inr (7, [.int (u 0), .ref (a 1), .int (u 2), .ref (a 3), .ref (a 4), .ref (a 5), .ref (a 6), .int (u 7), .ref (a 8), .ref (a 9), .int (u 10), .int (u 11), .int (u 12), .long x, .int (u 14), .int (u 15)])), ((a 4), .inl (G.2 1, 121, .inl (flt h b))), ((a 5), .inl (G.2 1, 121, .inl f))]) := hM
  have hl : lv_has ls 6 [(0, .ref (a 0)), (1, .int 6), (2, .int (nI o)), (3, .int (nI i)), (4, .int (nI j))] := hl
  have hP4 := hG.1.1.2.1
  have h6 := hG.1.1.2.2.2.2.1
  have hS := hG.1.1.2.2.2.2.2.1
  refine lv_iload_n hx hb dX7_command_0 rfl (lv_at hl 2 rfl) ?_
  refine lv_if_ne (tgt := 12) hx hb dX7_command_1 (by decide) (fun c_z1 => ?_) (fun c_z1 => ?_)
  · skip
    refine lv_iconst (v := 0) hx hb dX7_command_12 (by decide) ?_
    refine lv_istore (lv' := [(5, .int 0), (0, .ref (a 0)), (1, .int 6), (2, .int (nI o)), (3, .int (nI i)), (4, .int (nI j))]) hx hb dX7_command_13 hl (by decide) rfl (fun ls hl => ?_)
    refine lv_iload_n hx hb dX7_command_15 rfl (lv_at hl 2 rfl) ?_
    refine lv_tableIn (off := 271) (tgt := 287) hx hb dX7_command_16 (by decide) (by decide) rfl (by decide) ?_
    refine lv_iload_n hx hb dX7_command_287 rfl (lv_at hl 4 rfl) ?_
    refine lv_if_ne (tgt := 323) hx hb dX7_command_288 (by decide) (fun c_z3 => ?_) (fun c_z3 => ?_)
    · skip
      refine lv_iconst (v := 0) hx hb dX7_command_323 (by decide) ?_
      exact z_zret hx hb hr hlocks dX7_command_324 hM (Nat.le_of_ble_eq_true rfl) (Nat.le_of_ble_eq_true rfl) (by first | exact Or.inl rfl | exact Or.inr rfl | exact zb_01 _) rfl
    · skip
      refine lv_aload_n hx hb dX7_command_291 rfl (lv_at hl 1 rfl) ?_
      refine z_get (ci := 7) (v := .ref (a 4)) (C := RX7) (T := TX7) (N := 16) hx hb hts (by decide +kernel) hown hK hM 0 rfl rfl 4 (by decide) (hts (.fieldLink RX7 16 "ShiftIslesModel" "trial" "[I") (by decide +kernel)) (fun _ h9 => h9) rfl dX7_command_292 ?_
      refine lv_iload_n hx hb dX7_command_295 rfl (lv_at hl 3 rfl) ?_
      refine z_callS (As := [.ref (a 4), .int (nI o)]) (rest := []) (wc := rfW G (a 4) h b) (wr := [((a 0), .inr (7, [.int (u 0), .ref (a 1), .int (u 2), .ref (a 3), .ref (a 4), .ref (a 5), .ref (a 6), .int (u 7), .ref (a 8), .ref (a 9), .int (u 10), .int (u 11), .int (u 12), .long x, .int (u 14), .int (u 15)])), ((a 5), .inl (G.2 1, 121, .inl f))]) (w1 := rfW G (a 4) h b) (ws' := [((a 0), .inr (7, [.int (u 0), .ref (a 1), .int (u 2), .ref (a 3), .ref (a 4), .ref (a 5), .ref (a 6), .int (u 7), .ref (a 8), .ref (a 9), .int (u 10), .int (u 11), .int (u 12), .long x, .int (u 14), .int (u 15)])), ((a 4), .inl (G.2 1, 121, .inl (flt h b))), ((a 5), .inl (G.2 1, 121, .inl f))]) ⟨hx, hb, hml, hown, hts⟩ (c_r_isPlayer l G (a 4) h b P hG.1.1.1 hP4 (nI o) ) (va_cwS 2 hts gX7_command_X7_isPlayer rfl rfl rfl (by decide +kernel) ⟨Nat.le_of_ble_eq_true rfl, Nat.le_of_ble_eq_true rfl⟩) rfl hl.1 rfl (Nat.le_of_ble_eq_true rfl) dX7_command_296 ⟨Nat.le_of_ble_eq_true rfl, Nat.le_of_ble_eq_true rfl⟩ hK hE hA hM (pm_at 3 [1] [0, 2] rfl rfl rfl (by decide)) ((pm_at 3 [1] [0, 2] rfl rfl rfl (by decide))).symm (fun H locs hM hz => ?_)
      refine z_ifeq (tgt := 323) hx hb dX7_command_299 (by decide) (fun c_p => ?_) (fun c_p => ?_)
      · skip
        refine lv_iconst (v := 0) hx hb dX7_command_323 (by decide) ?_
        exact z_zret hx hb hr hlocks dX7_command_324 hM (Nat.le_of_ble_eq_true rfl) (Nat.le_of_ble_eq_true rfl) (by first | exact Or.inl rfl | exact Or.inr rfl | exact zb_01 _) rfl
      · skip
        have hoP : o < P := (zHp_lt hG.1.1.1 hP4 (by omega)).mp c_p
        refine lv_aload_n hx hb dX7_command_302 rfl (lv_at hl 1 rfl) ?_
        refine z_get (ci := 7) (v := .ref (a 4)) (C := RX7) (T := TX7) (N := 16) hx hb hts (by decide +kernel) hown hK hM 0 rfl rfl 4 (by decide) (hts (.fieldLink RX7 16 "ShiftIslesModel" "trial" "[I") (by decide +kernel)) (fun _ h9 => h9) rfl dX7_command_303 ?_
        refine lv_iload_n hx hb dX7_command_306 rfl (lv_at hl 3 rfl) ?_
        refine z_callS (As := [.int (nI o)]) (rest := [.ref (a 4)]) (wc := []) (wr := [((a 0), .inr (7, [.int (u 0), .ref (a 1), .int (u 2), .ref (a 3), .ref (a 4), .ref (a 5), .ref (a 6), .int (u 7), .ref (a 8), .ref (a 9), .int (u 10), .int (u 11), .int (u 12), .long x, .int (u 14), .int (u 15)])), ((a 4), .inl (G.2 1, 121, .inl (flt h b))), ((a 5), .inl (G.2 1, 121, .inl f))]) (w1 := []) (ws' := [((a 0), .inr (7, [.int (u 0), .ref (a 1), .int (u 2), .ref (a 3), .ref (a 4), .ref (a 5), .ref (a 6), .int (u 7), .ref (a 8), .ref (a 9), .int (u 10), .int (u 11), .int (u 12), .long x, .int (u 14), .int (u 15)])), ((a 4), .inl (G.2 1, 121, .inl (flt h b))), ((a 5), .inl (G.2 1, 121, .inl f))]) ⟨hx, hb, hml, hown, hts⟩ (c_at l G o (by omega)) (va_cwS 1 hts gX7_command_X7_at rfl rfl rfl (by decide +kernel) ⟨Nat.le_of_ble_eq_true rfl, Nat.le_of_ble_eq_true rfl⟩) rfl hl.1 rfl (Nat.le_of_ble_eq_true rfl) dX7_command_307 ⟨Nat.le_of_ble_eq_true rfl, Nat.le_of_ble_eq_true rfl⟩ hK hE hA hM (List.Perm.refl _) (List.Perm.refl _) (fun H locs hM hz => ?_)
        refine lv_bipush (v := nI 23) hx hb dX7_command_310 (by decide) ?_
        refine lv_iadd hx hb dX7_command_312 ?_
        refine z_topi (y := nI ((9 + (28 * o)) + 23)) (nI_add (9 + (28 * o)) 23) ?_
        refine z_iald hx hb hK hM 1 rfl (v := b o 23) (vp_in_nI (by omega) (by decide)) (by rw [nI_clamp (by omega)]; exact flt_b o 23 (by omega) (by omega)) dX7_command_313 ?_
        refine lv_iload hx hb dX7_command_314 (lv_at hl 5 rfl) ?_
        refine lv_icmp_lt (tgt := 323) hx hb dX7_command_316 (by decide) (fun c_1 => ?_) (fun c_1 => (by rw [decide_eq_true ((nI_eq (a := i) (b := 0) (by omega) (by decide)).mp c_z3), c_p, decide_eq_true (Int32.not_lt.mp c_1)] at hc; exact Bool.noConfusion hc))
        refine lv_iconst (v := 0) hx hb dX7_command_323 (by decide) ?_
        exact z_zret hx hb hr hlocks dX7_command_324 hM (Nat.le_of_ble_eq_true rfl) (Nat.le_of_ble_eq_true rfl) (by first | exact Or.inl rfl | exact Or.inr rfl | exact zb_01 _) rfl
  · skip
    refine lv_iload_n hx hb dX7_command_4 rfl (lv_at hl 3 rfl) ?_
    refine lv_if_ne (tgt := 12) hx hb dX7_command_5 (by decide) (fun c_z2 => ?_) (fun c_z2 => ?_)
    · skip
      refine lv_iconst (v := 0) hx hb dX7_command_12 (by decide) ?_
      refine lv_istore (lv' := [(5, .int 0), (0, .ref (a 0)), (1, .int 6), (2, .int (nI o)), (3, .int (nI i)), (4, .int (nI j))]) hx hb dX7_command_13 hl (by decide) rfl (fun ls hl => ?_)
      refine lv_iload_n hx hb dX7_command_15 rfl (lv_at hl 2 rfl) ?_
      refine lv_tableIn (off := 271) (tgt := 287) hx hb dX7_command_16 (by decide) (by decide) rfl (by decide) ?_
      refine lv_iload_n hx hb dX7_command_287 rfl (lv_at hl 4 rfl) ?_
      refine lv_if_ne (tgt := 323) hx hb dX7_command_288 (by decide) (fun c_z3 => ?_) (fun c_z3 => ?_)
      · skip
        refine lv_iconst (v := 0) hx hb dX7_command_323 (by decide) ?_
        exact z_zret hx hb hr hlocks dX7_command_324 hM (Nat.le_of_ble_eq_true rfl) (Nat.le_of_ble_eq_true rfl) (by first | exact Or.inl rfl | exact Or.inr rfl | exact zb_01 _) rfl
      · skip
        refine lv_aload_n hx hb dX7_command_291 rfl (lv_at hl 1 rfl) ?_
        refine z_get (ci := 7) (v := .ref (a 4)) (C := RX7) (T := TX7) (N := 16) hx hb hts (by decide +kernel) hown hK hM 0 rfl rfl 4 (by decide) (hts (.fieldLink RX7 16 "ShiftIslesModel" "trial" "[I") (by decide +kernel)) (fun _ h9 => h9) rfl dX7_command_292 ?_
        refine lv_iload_n hx hb dX7_command_295 rfl (lv_at hl 3 rfl) ?_
        refine z_callS (As := [.ref (a 4), .int (nI o)]) (rest := []) (wc := rfW G (a 4) h b) (wr := [((a 0), .inr (7, [.int (u 0), .ref (a 1), .int (u 2), .ref (a 3), .ref (a 4), .ref (a 5), .ref (a 6), .int (u 7), .ref (a 8), .ref (a 9), .int (u 10), .int (u 11), .int (u 12), .long x, .int (u 14), .int (u 15)])), ((a 5), .inl (G.2 1, 121, .inl f))]) (w1 := rfW G (a 4) h b) (ws' := [((a 0), .inr (7, [.int (u 0), .ref (a 1), .int (u 2), .ref (a 3), .ref (a 4), .ref (a 5), .ref (a 6), .int (u 7), .ref (a 8), .ref (a 9), .int (u 10), .int (u 11), .int (u 12), .long x, .int (u 14), .int (u 15)])), ((a 4), .inl (G.2 1, 121, .inl (flt h b))), ((a 5), .inl (G.2 1, 121, .inl f))]) ⟨hx, hb, hml, hown, hts⟩ (c_r_isPlayer l G (a 4) h b P hG.1.1.1 hP4 (nI o) ) (va_cwS 2 hts gX7_command_X7_isPlayer rfl rfl rfl (by decide +kernel) ⟨Nat.le_of_ble_eq_true rfl, Nat.le_of_ble_eq_true rfl⟩) rfl hl.1 rfl (Nat.le_of_ble_eq_true rfl) dX7_command_296 ⟨Nat.le_of_ble_eq_true rfl, Nat.le_of_ble_eq_true rfl⟩ hK hE hA hM (pm_at 3 [1] [0, 2] rfl rfl rfl (by decide)) ((pm_at 3 [1] [0, 2] rfl rfl rfl (by decide))).symm (fun H locs hM hz => ?_)
        refine z_ifeq (tgt := 323) hx hb dX7_command_299 (by decide) (fun c_p => ?_) (fun c_p => ?_)
        · skip
          refine lv_iconst (v := 0) hx hb dX7_command_323 (by decide) ?_
          exact z_zret hx hb hr hlocks dX7_command_324 hM (Nat.le_of_ble_eq_true rfl) (Nat.le_of_ble_eq_true rfl) (by first | exact Or.inl rfl | exact Or.inr rfl | exact zb_01 _) rfl
        · skip
          have hoP : o < P := (zHp_lt hG.1.1.1 hP4 (by omega)).mp c_p
          refine lv_aload_n hx hb dX7_command_302 rfl (lv_at hl 1 rfl) ?_
          refine z_get (ci := 7) (v := .ref (a 4)) (C := RX7) (T := TX7) (N := 16) hx hb hts (by decide +kernel) hown hK hM 0 rfl rfl 4 (by decide) (hts (.fieldLink RX7 16 "ShiftIslesModel" "trial" "[I") (by decide +kernel)) (fun _ h9 => h9) rfl dX7_command_303 ?_
          refine lv_iload_n hx hb dX7_command_306 rfl (lv_at hl 3 rfl) ?_
          refine z_callS (As := [.int (nI o)]) (rest := [.ref (a 4)]) (wc := []) (wr := [((a 0), .inr (7, [.int (u 0), .ref (a 1), .int (u 2), .ref (a 3), .ref (a 4), .ref (a 5), .ref (a 6), .int (u 7), .ref (a 8), .ref (a 9), .int (u 10), .int (u 11), .int (u 12), .long x, .int (u 14), .int (u 15)])), ((a 4), .inl (G.2 1, 121, .inl (flt h b))), ((a 5), .inl (G.2 1, 121, .inl f))]) (w1 := []) (ws' := [((a 0), .inr (7, [.int (u 0), .ref (a 1), .int (u 2), .ref (a 3), .ref (a 4), .ref (a 5), .ref (a 6), .int (u 7), .ref (a 8), .ref (a 9), .int (u 10), .int (u 11), .int (u 12), .long x, .int (u 14), .int (u 15)])), ((a 4), .inl (G.2 1, 121, .inl (flt h b))), ((a 5), .inl (G.2 1, 121, .inl f))]) ⟨hx, hb, hml, hown, hts⟩ (c_at l G o (by omega)) (va_cwS 1 hts gX7_command_X7_at rfl rfl rfl (by decide +kernel) ⟨Nat.le_of_ble_eq_true rfl, Nat.le_of_ble_eq_true rfl⟩) rfl hl.1 rfl (Nat.le_of_ble_eq_true rfl) dX7_command_307 ⟨Nat.le_of_ble_eq_true rfl, Nat.le_of_ble_eq_true rfl⟩ hK hE hA hM (List.Perm.refl _) (List.Perm.refl _) (fun H locs hM hz => ?_)
          refine lv_bipush (v := nI 23) hx hb dX7_command_310 (by decide) ?_
          refine lv_iadd hx hb dX7_command_312 ?_
          refine z_topi (y := nI ((9 + (28 * o)) + 23)) (nI_add (9 + (28 * o)) 23) ?_
          refine z_iald hx hb hK hM 1 rfl (v := b o 23) (vp_in_nI (by omega) (by decide)) (by rw [nI_clamp (by omega)]; exact flt_b o 23 (by omega) (by omega)) dX7_command_313 ?_
          refine lv_iload hx hb dX7_command_314 (lv_at hl 5 rfl) ?_
          refine lv_icmp_lt (tgt := 323) hx hb dX7_command_316 (by decide) (fun c_2 => ?_) (fun c_2 => (by rw [decide_eq_true ((nI_eq (a := i) (b := 0) (by omega) (by decide)).mp c_z3), c_p, decide_eq_true (Int32.not_lt.mp c_2)] at hc; exact Bool.noConfusion hc))
          refine lv_iconst (v := 0) hx hb dX7_command_323 (by decide) ?_
          exact z_zret hx hb hr hlocks dX7_command_324 hM (Nat.le_of_ble_eq_true rfl) (Nat.le_of_ble_eq_true rfl) (by first | exact Or.inl rfl | exact Or.inr rfl | exact zb_01 _) rfl
    · skip
      refine lv_iconst (v := 1) hx hb dX7_command_8 (by decide) ?_
      refine lv_goto (tgt := 13) hx hb dX7_command_9 (by decide) ?_
      refine lv_istore (lv' := [(5, .int 1), (0, .ref (a 0)), (1, .int 6), (2, .int (nI o)), (3, .int (nI i)), (4, .int (nI j))]) hx hb dX7_command_13 hl (by decide) rfl (fun ls hl => ?_)
      refine lv_iload_n hx hb dX7_command_15 rfl (lv_at hl 2 rfl) ?_
      refine lv_tableIn (off := 271) (tgt := 287) hx hb dX7_command_16 (by decide) (by decide) rfl (by decide) ?_
      refine lv_iload_n hx hb dX7_command_287 rfl (lv_at hl 4 rfl) ?_
      refine lv_if_ne (tgt := 323) hx hb dX7_command_288 (by decide) (fun c_z3 => ?_) (fun c_z3 => ?_)
      · skip
        refine lv_iconst (v := 0) hx hb dX7_command_323 (by decide) ?_
        exact z_zret hx hb hr hlocks dX7_command_324 hM (Nat.le_of_ble_eq_true rfl) (Nat.le_of_ble_eq_true rfl) (by first | exact Or.inl rfl | exact Or.inr rfl | exact zb_01 _) rfl
      · skip
        refine lv_aload_n hx hb dX7_command_291 rfl (lv_at hl 1 rfl) ?_
        refine z_get (ci := 7) (v := .ref (a 4)) (C := RX7) (T := TX7) (N := 16) hx hb hts (by decide +kernel) hown hK hM 0 rfl rfl 4 (by decide) (hts (.fieldLink RX7 16 "ShiftIslesModel" "trial" "[I") (by decide +kernel)) (fun _ h9 => h9) rfl dX7_command_292 ?_
        refine lv_iload_n hx hb dX7_command_295 rfl (lv_at hl 3 rfl) ?_
        refine z_callS (As := [.ref (a 4), .int (nI o)]) (rest := []) (wc := rfW G (a 4) h b) (wr := [((a 0), .inr (7, [.int (u 0), .ref (a 1), .int (u 2), .ref (a 3), .ref (a 4), .ref (a 5), .ref (a 6), .int (u 7), .ref (a 8), .ref (a 9), .int (u 10), .int (u 11), .int (u 12), .long x, .int (u 14), .int (u 15)])), ((a 5), .inl (G.2 1, 121, .inl f))]) (w1 := rfW G (a 4) h b) (ws' := [((a 0), .inr (7, [.int (u 0), .ref (a 1), .int (u 2), .ref (a 3), .ref (a 4), .ref (a 5), .ref (a 6), .int (u 7), .ref (a 8), .ref (a 9), .int (u 10), .int (u 11), .int (u 12), .long x, .int (u 14), .int (u 15)])), ((a 4), .inl (G.2 1, 121, .inl (flt h b))), ((a 5), .inl (G.2 1, 121, .inl f))]) ⟨hx, hb, hml, hown, hts⟩ (c_r_isPlayer l G (a 4) h b P hG.1.1.1 hP4 (nI o) ) (va_cwS 2 hts gX7_command_X7_isPlayer rfl rfl rfl (by decide +kernel) ⟨Nat.le_of_ble_eq_true rfl, Nat.le_of_ble_eq_true rfl⟩) rfl hl.1 rfl (Nat.le_of_ble_eq_true rfl) dX7_command_296 ⟨Nat.le_of_ble_eq_true rfl, Nat.le_of_ble_eq_true rfl⟩ hK hE hA hM (pm_at 3 [1] [0, 2] rfl rfl rfl (by decide)) ((pm_at 3 [1] [0, 2] rfl rfl rfl (by decide))).symm (fun H locs hM hz => ?_)
        refine z_ifeq (tgt := 323) hx hb dX7_command_299 (by decide) (fun c_p => ?_) (fun c_p => ?_)
        · skip
          refine lv_iconst (v := 0) hx hb dX7_command_323 (by decide) ?_
          exact z_zret hx hb hr hlocks dX7_command_324 hM (Nat.le_of_ble_eq_true rfl) (Nat.le_of_ble_eq_true rfl) (by first | exact Or.inl rfl | exact Or.inr rfl | exact zb_01 _) rfl
        · skip
          have hoP : o < P := (zHp_lt hG.1.1.1 hP4 (by omega)).mp c_p
          refine lv_aload_n hx hb dX7_command_302 rfl (lv_at hl 1 rfl) ?_
          refine z_get (ci := 7) (v := .ref (a 4)) (C := RX7) (T := TX7) (N := 16) hx hb hts (by decide +kernel) hown hK hM 0 rfl rfl 4 (by decide) (hts (.fieldLink RX7 16 "ShiftIslesModel" "trial" "[I") (by decide +kernel)) (fun _ h9 => h9) rfl dX7_command_303 ?_
          refine lv_iload_n hx hb dX7_command_306 rfl (lv_at hl 3 rfl) ?_
          refine z_callS (As := [.int (nI o)]) (rest := [.ref (a 4)]) (wc := []) (wr := [((a 0), .inr (7, [.int (u 0), .ref (a 1), .int (u 2), .ref (a 3), .ref (a 4), .ref (a 5), .ref (a 6), .int (u 7), .ref (a 8), .ref (a 9), .int (u 10), .int (u 11), .int (u 12), .long x, .int (u 14), .int (u 15)])), ((a 4), .inl (G.2 1, 121, .inl (flt h b))), ((a 5), .inl (G.2 1, 121, .inl f))]) (w1 := []) (ws' := [((a 0), .inr (7, [.int (u 0), .ref (a 1), .int (u 2), .ref (a 3), .ref (a 4), .ref (a 5), .ref (a 6), .int (u 7), .ref (a 8), .ref (a 9), .int (u 10), .int (u 11), .int (u 12), .long x, .int (u 14), .int (u 15)])), ((a 4), .inl (G.2 1, 121, .inl (flt h b))), ((a 5), .inl (G.2 1, 121, .inl f))]) ⟨hx, hb, hml, hown, hts⟩ (c_at l G o (by omega)) (va_cwS 1 hts gX7_command_X7_at rfl rfl rfl (by decide +kernel) ⟨Nat.le_of_ble_eq_true rfl, Nat.le_of_ble_eq_true rfl⟩) rfl hl.1 rfl (Nat.le_of_ble_eq_true rfl) dX7_command_307 ⟨Nat.le_of_ble_eq_true rfl, Nat.le_of_ble_eq_true rfl⟩ hK hE hA hM (List.Perm.refl _) (List.Perm.refl _) (fun H locs hM hz => ?_)
          refine lv_bipush (v := nI 23) hx hb dX7_command_310 (by decide) ?_
          refine lv_iadd hx hb dX7_command_312 ?_
          refine z_topi (y := nI ((9 + (28 * o)) + 23)) (nI_add (9 + (28 * o)) 23) ?_
          refine z_iald hx hb hK hM 1 rfl (v := b o 23) (vp_in_nI (by omega) (by decide)) (by rw [nI_clamp (by omega)]; exact flt_b o 23 (by omega) (by omega)) dX7_command_313 ?_
          refine lv_iload hx hb dX7_command_314 (lv_at hl 5 rfl) ?_
          refine lv_icmp_lt (tgt := 323) hx hb dX7_command_316 (by decide) (fun c_3 => ?_) (fun c_3 => (by rw [decide_eq_true ((nI_eq (a := i) (b := 0) (by omega) (by decide)).mp c_z3), c_p, decide_eq_true (Int32.not_lt.mp c_3)] at hc; exact Bool.noConfusion hc))
          refine lv_iconst (v := 0) hx hb dX7_command_323 (by decide) ?_
          exact z_zret hx hb hr hlocks dX7_command_324 hM (Nat.le_of_ble_eq_true rfl) (Nat.le_of_ble_eq_true rfl) (by first | exact Or.inl rfl | exact Or.inr rfl | exact zb_01 _) rfl

set_option maxHeartbeats 4000000 in
set_option maxRecDepth 100000 in
theorem c_cmd7y (l : Launch) (G : zC) (a : Nat → Nat) (u : Nat → Int32) (x : Int64) (f : Nat → Int32) (h : Nat → Int32) (b : Nat → Nat → Int32) (P t S e0 : Nat) (hG : zGs h b P t S e0) (o i j : Nat) (ho9 : o < 10) (hi9 : i < 10) (hj9 : j < 10) (hp9 : zHp h (nI o) = true) (hl9 : zLi (nI i) = true) (hc : b o 25 = nI i) : zMet l G yX7_command wsX7_command rmX7_command [.ref (a 0), .int 7, .int (nI o), .int (nI i), .int (nI 0)] ([((a 0), .inr (7, [.int (u 0), .ref (a 1), .int (u 2), .ref (a 3), .ref (a 4), .ref (a 5), .ref (a 6), .int (u 7), .ref (a 8), .ref (a 9), .int (u 10), .int (u 11), .int (u 12), .long x, .int (u 14), .int (u 15)])), ((a 4), .inl (G.2 1, 121, .inl (flt h b))), ((a 5), .inl (G.2 1, 121, .inl f))]) (some (.int 1)) ([((a 0), .inr (7, [.int (u 0), .ref (a 1), .int (u 2), .ref (a 3), .ref (a 4), .ref (a 5), .ref (a 6), .int (u 7), .ref (a 8), .ref (a 9), .int (u 10), .int (u 11), .int (u 12), .long x, .int (u 14), .int (u 15)])), ((a 4), .inl (G.2 1, 121, .inl (flt h b))), ((a 5), .inl (G.2 1, 121, .inl f))]) := by
  refine zMet_of (cc := cX7_command) (maxL := 6) (ret := (some .boolean)) (by decide) rfl (Nat.le_of_ble_eq_true rfl) ?_
  intro p e s m below meth c A ls hx hb hr hml hown hts hK hA hE hlocks hin hM hl
  have hown : s.vm.findClass RX7 = some m.cls := hown
  have hM : zM G A s s.heap [] ([((a 0), .inr (7, [.int (u 0), .ref (a 1), .int (u 2), .ref (a 3), .ref (a 4), .ref (a 5), .ref (a 6), .int (u 7), .ref (a 8), .ref (a 9), .int (u 10), .int (u 11), .int (u 12), .long x, .int (u 14), .int (u 15)])), ((a 4), .inl (G.2 1, 121, .inl (flt h b))), ((a 5), .inl (G.2 1, 121, .inl f))]) := hM
  have hl : lv_has ls 6 [(0, .ref (a 0)), (1, .int 7), (2, .int (nI o)), (3, .int (nI i)), (4, .int (nI 0))] := hl
  have hP4 := hG.1.1.2.1
  have h6 := hG.1.1.2.2.2.2.1
  have hS := hG.1.1.2.2.2.2.2.1
  refine lv_iload_n hx hb dX7_command_0 rfl (lv_at hl 2 rfl) ?_
  refine lv_if_ne (tgt := 12) hx hb dX7_command_1 (by decide) (fun c_z1 => ?_) (fun c_z1 => ?_)
  · skip
    refine lv_iconst (v := 0) hx hb dX7_command_12 (by decide) ?_
    refine lv_istore (lv' := [(5, .int 0), (0, .ref (a 0)), (1, .int 7), (2, .int (nI o)), (3, .int (nI i)), (4, .int (nI 0))]) hx hb dX7_command_13 hl (by decide) rfl (fun ls hl => ?_)
    refine lv_iload_n hx hb dX7_command_15 rfl (lv_at hl 2 rfl) ?_
    refine lv_tableIn (off := 309) (tgt := 325) hx hb dX7_command_16 (by decide) (by decide) rfl (by decide) ?_
    refine lv_iload hx hb dX7_command_325 (lv_at hl 5 rfl) ?_
    refine lv_if_ne (tgt := 368) hx hb dX7_command_327 (by decide) (fun c_1 => absurd rfl c_1) (fun c_1 => ?_)
    refine lv_aload_n hx hb dX7_command_330 rfl (lv_at hl 1 rfl) ?_
    refine z_get (ci := 7) (v := .ref (a 4)) (C := RX7) (T := TX7) (N := 16) hx hb hts (by decide +kernel) hown hK hM 0 rfl rfl 4 (by decide) (hts (.fieldLink RX7 16 "ShiftIslesModel" "trial" "[I") (by decide +kernel)) (fun _ h9 => h9) rfl dX7_command_331 ?_
    refine lv_iload_n hx hb dX7_command_334 rfl (lv_at hl 3 rfl) ?_
    refine z_callS (As := [.ref (a 4), .int (nI o)]) (rest := []) (wc := rfW G (a 4) h b) (wr := [((a 0), .inr (7, [.int (u 0), .ref (a 1), .int (u 2), .ref (a 3), .ref (a 4), .ref (a 5), .ref (a 6), .int (u 7), .ref (a 8), .ref (a 9), .int (u 10), .int (u 11), .int (u 12), .long x, .int (u 14), .int (u 15)])), ((a 5), .inl (G.2 1, 121, .inl f))]) (w1 := rfW G (a 4) h b) (ws' := [((a 0), .inr (7, [.int (u 0), .ref (a 1), .int (u 2), .ref (a 3), .ref (a 4), .ref (a 5), .ref (a 6), .int (u 7), .ref (a 8), .ref (a 9), .int (u 10), .int (u 11), .int (u 12), .long x, .int (u 14), .int (u 15)])), ((a 4), .inl (G.2 1, 121, .inl (flt h b))), ((a 5), .inl (G.2 1, 121, .inl f))]) ⟨hx, hb, hml, hown, hts⟩ (c_r_isPlayer l G (a 4) h b P hG.1.1.1 hP4 (nI o) ) (va_cwS 2 hts gX7_command_X7_isPlayer rfl rfl rfl (by decide +kernel) ⟨Nat.le_of_ble_eq_true rfl, Nat.le_of_ble_eq_true rfl⟩) rfl hl.1 rfl (Nat.le_of_ble_eq_true rfl) dX7_command_335 ⟨Nat.le_of_ble_eq_true rfl, Nat.le_of_ble_eq_true rfl⟩ hK hE hA hM (pm_at 3 [1] [0, 2] rfl rfl rfl (by decide)) ((pm_at 3 [1] [0, 2] rfl rfl rfl (by decide))).symm (fun H locs hM hz => ?_)
    refine z_ifeq (tgt := 368) hx hb dX7_command_338 (by decide) (fun c_2 => Bool.noConfusion (hp9.symm.trans c_2)) (fun c_2 => ?_)
    refine lv_iload_n hx hb dX7_command_341 rfl (lv_at hl 4 rfl) ?_
    refine z_callS (As := [.int (nI i)]) (rest := []) (wc := []) (wr := [((a 0), .inr (7, [.int (u 0), .ref (a 1), .int (u 2), .ref (a 3), .ref (a 4), .ref (a 5), .ref (a 6), .int (u 7), .ref (a 8), .ref (a 9), .int (u 10), .int (u 11), .int (u 12), .long x, .int (u 14), .int (u 15)])), ((a 4), .inl (G.2 1, 121, .inl (flt h b))), ((a 5), .inl (G.2 1, 121, .inl f))]) (w1 := []) (ws' := [((a 0), .inr (7, [.int (u 0), .ref (a 1), .int (u 2), .ref (a 3), .ref (a 4), .ref (a 5), .ref (a 6), .int (u 7), .ref (a 8), .ref (a 9), .int (u 10), .int (u 11), .int (u 12), .long x, .int (u 14), .int (u 15)])), ((a 4), .inl (G.2 1, 121, .inl (flt h b))), ((a 5), .inl (G.2 1, 121, .inl f))]) ⟨hx, hb, hml, hown, hts⟩ (c_r_isLine l G (nI i)) (va_cwS 1 hts gX7_command_X7_isLine rfl rfl rfl (by decide +kernel) ⟨Nat.le_of_ble_eq_true rfl, Nat.le_of_ble_eq_true rfl⟩) rfl hl.1 rfl (Nat.le_of_ble_eq_true rfl) dX7_command_342 ⟨Nat.le_of_ble_eq_true rfl, Nat.le_of_ble_eq_true rfl⟩ hK hE hA hM (List.Perm.refl _) (List.Perm.refl _) (fun H locs hM hz => ?_)
    refine z_ifeq (tgt := 368) hx hb dX7_command_345 (by decide) (fun c_3 => Bool.noConfusion (hl9.symm.trans c_3)) (fun c_3 => ?_)
    have hoP : o < P := (zHp_lt hG.1.1.1 hP4 (by omega)).mp hp9
    refine lv_aload_n hx hb dX7_command_348 rfl (lv_at hl 1 rfl) ?_
    refine z_get (ci := 7) (v := .ref (a 4)) (C := RX7) (T := TX7) (N := 16) hx hb hts (by decide +kernel) hown hK hM 0 rfl rfl 4 (by decide) (hts (.fieldLink RX7 16 "ShiftIslesModel" "trial" "[I") (by decide +kernel)) (fun _ h9 => h9) rfl dX7_command_349 ?_
    refine lv_iload_n hx hb dX7_command_352 rfl (lv_at hl 3 rfl) ?_
    refine z_callS (As := [.int (nI o)]) (rest := [.ref (a 4)]) (wc := []) (wr := [((a 0), .inr (7, [.int (u 0), .ref (a 1), .int (u 2), .ref (a 3), .ref (a 4), .ref (a 5), .ref (a 6), .int (u 7), .ref (a 8), .ref (a 9), .int (u 10), .int (u 11), .int (u 12), .long x, .int (u 14), .int (u 15)])), ((a 4), .inl (G.2 1, 121, .inl (flt h b))), ((a 5), .inl (G.2 1, 121, .inl f))]) (w1 := []) (ws' := [((a 0), .inr (7, [.int (u 0), .ref (a 1), .int (u 2), .ref (a 3), .ref (a 4), .ref (a 5), .ref (a 6), .int (u 7), .ref (a 8), .ref (a 9), .int (u 10), .int (u 11), .int (u 12), .long x, .int (u 14), .int (u 15)])), ((a 4), .inl (G.2 1, 121, .inl (flt h b))), ((a 5), .inl (G.2 1, 121, .inl f))]) ⟨hx, hb, hml, hown, hts⟩ (c_at l G o (by omega)) (va_cwS 1 hts gX7_command_X7_at rfl rfl rfl (by decide +kernel) ⟨Nat.le_of_ble_eq_true rfl, Nat.le_of_ble_eq_true rfl⟩) rfl hl.1 rfl (Nat.le_of_ble_eq_true rfl) dX7_command_353 ⟨Nat.le_of_ble_eq_true rfl, Nat.le_of_ble_eq_true rfl⟩ hK hE hA hM (List.Perm.refl _) (List.Perm.refl _) (fun H locs hM hz => ?_)
    refine lv_bipush (v := nI 25) hx hb dX7_command_356 (by decide) ?_
    refine lv_iadd hx hb dX7_command_358 ?_
    refine z_topi (y := nI ((9 + (28 * o)) + 25)) (nI_add (9 + (28 * o)) 25) ?_
    refine z_iald hx hb hK hM 1 rfl (v := b o 25) (vp_in_nI (by omega) (by decide)) (by rw [nI_clamp (by omega)]; exact flt_b o 25 (by omega) (by omega)) dX7_command_359 ?_
    refine lv_iload_n hx hb dX7_command_360 rfl (lv_at hl 4 rfl) ?_
    refine lv_icmp_ne (tgt := 368) hx hb dX7_command_361 (by decide) (fun c_4 => absurd hc c_4) (fun c_4 => ?_)
    refine lv_iconst (v := 1) hx hb dX7_command_364 (by decide) ?_
    refine lv_goto (tgt := 369) hx hb dX7_command_365 (by decide) ?_
    exact z_zret hx hb hr hlocks dX7_command_369 hM (Nat.le_of_ble_eq_true rfl) (Nat.le_of_ble_eq_true rfl) (by first | exact Or.inl rfl | exact Or.inr rfl | exact zb_01 _) rfl
  · skip
    refine lv_iload_n hx hb dX7_command_4 rfl (lv_at hl 3 rfl) ?_
    refine lv_if_ne (tgt := 12) hx hb dX7_command_5 (by decide) (fun c_z2 => ?_) (fun c_z2 => ?_)
    · skip
      refine lv_iconst (v := 0) hx hb dX7_command_12 (by decide) ?_
      refine lv_istore (lv' := [(5, .int 0), (0, .ref (a 0)), (1, .int 7), (2, .int (nI o)), (3, .int (nI i)), (4, .int (nI 0))]) hx hb dX7_command_13 hl (by decide) rfl (fun ls hl => ?_)
      refine lv_iload_n hx hb dX7_command_15 rfl (lv_at hl 2 rfl) ?_
      refine lv_tableIn (off := 309) (tgt := 325) hx hb dX7_command_16 (by decide) (by decide) rfl (by decide) ?_
      refine lv_iload hx hb dX7_command_325 (lv_at hl 5 rfl) ?_
      refine lv_if_ne (tgt := 368) hx hb dX7_command_327 (by decide) (fun c_5 => absurd rfl c_5) (fun c_5 => ?_)
      refine lv_aload_n hx hb dX7_command_330 rfl (lv_at hl 1 rfl) ?_
      refine z_get (ci := 7) (v := .ref (a 4)) (C := RX7) (T := TX7) (N := 16) hx hb hts (by decide +kernel) hown hK hM 0 rfl rfl 4 (by decide) (hts (.fieldLink RX7 16 "ShiftIslesModel" "trial" "[I") (by decide +kernel)) (fun _ h9 => h9) rfl dX7_command_331 ?_
      refine lv_iload_n hx hb dX7_command_334 rfl (lv_at hl 3 rfl) ?_
      refine z_callS (As := [.ref (a 4), .int (nI o)]) (rest := []) (wc := rfW G (a 4) h b) (wr := [((a 0), .inr (7, [.int (u 0), .ref (a 1), .int (u 2), .ref (a 3), .ref (a 4), .ref (a 5), .ref (a 6), .int (u 7), .ref (a 8), .ref (a 9), .int (u 10), .int (u 11), .int (u 12), .long x, .int (u 14), .int (u 15)])), ((a 5), .inl (G.2 1, 121, .inl f))]) (w1 := rfW G (a 4) h b) (ws' := [((a 0), .inr (7, [.int (u 0), .ref (a 1), .int (u 2), .ref (a 3), .ref (a 4), .ref (a 5), .ref (a 6), .int (u 7), .ref (a 8), .ref (a 9), .int (u 10), .int (u 11), .int (u 12), .long x, .int (u 14), .int (u 15)])), ((a 4), .inl (G.2 1, 121, .inl (flt h b))), ((a 5), .inl (G.2 1, 121, .inl f))]) ⟨hx, hb, hml, hown, hts⟩ (c_r_isPlayer l G (a 4) h b P hG.1.1.1 hP4 (nI o) ) (va_cwS 2 hts gX7_command_X7_isPlayer rfl rfl rfl (by decide +kernel) ⟨Nat.le_of_ble_eq_true rfl, Nat.le_of_ble_eq_true rfl⟩) rfl hl.1 rfl (Nat.le_of_ble_eq_true rfl) dX7_command_335 ⟨Nat.le_of_ble_eq_true rfl, Nat.le_of_ble_eq_true rfl⟩ hK hE hA hM (pm_at 3 [1] [0, 2] rfl rfl rfl (by decide)) ((pm_at 3 [1] [0, 2] rfl rfl rfl (by decide))).symm (fun H locs hM hz => ?_)
      refine z_ifeq (tgt := 368) hx hb dX7_command_338 (by decide) (fun c_6 => Bool.noConfusion (hp9.symm.trans c_6)) (fun c_6 => ?_)
      refine lv_iload_n hx hb dX7_command_341 rfl (lv_at hl 4 rfl) ?_
      refine z_callS (As := [.int (nI i)]) (rest := []) (wc := []) (wr := [((a 0), .inr (7, [.int (u 0), .ref (a 1), .int (u 2), .ref (a 3), .ref (a 4), .ref (a 5), .ref (a 6), .int (u 7), .ref (a 8), .ref (a 9), .int (u 10), .int (u 11), .int (u 12), .long x, .int (u 14), .int (u 15)])), ((a 4), .inl (G.2 1, 121, .inl (flt h b))), ((a 5), .inl (G.2 1, 121, .inl f))]) (w1 := []) (ws' := [((a 0), .inr (7, [.int (u 0), .ref (a 1), .int (u 2), .ref (a 3), .ref (a 4), .ref (a 5), .ref (a 6), .int (u 7), .ref (a 8), .ref (a 9), .int (u 10), .int (u 11), .int (u 12), .long x, .int (u 14), .int (u 15)])), ((a 4), .inl (G.2 1, 121, .inl (flt h b))), ((a 5), .inl (G.2 1, 121, .inl f))]) ⟨hx, hb, hml, hown, hts⟩ (c_r_isLine l G (nI i)) (va_cwS 1 hts gX7_command_X7_isLine rfl rfl rfl (by decide +kernel) ⟨Nat.le_of_ble_eq_true rfl, Nat.le_of_ble_eq_true rfl⟩) rfl hl.1 rfl (Nat.le_of_ble_eq_true rfl) dX7_command_342 ⟨Nat.le_of_ble_eq_true rfl, Nat.le_of_ble_eq_true rfl⟩ hK hE hA hM (List.Perm.refl _) (List.Perm.refl _) (fun H locs hM hz => ?_)
      refine z_ifeq (tgt := 368) hx hb dX7_command_345 (by decide) (fun c_7 => Bool.noConfusion (hl9.symm.trans c_7)) (fun c_7 => ?_)
      have hoP : o < P := (zHp_lt hG.1.1.1 hP4 (by omega)).mp hp9
      refine lv_aload_n hx hb dX7_command_348 rfl (lv_at hl 1 rfl) ?_
      refine z_get (ci := 7) (v := .ref (a 4)) (C := RX7) (T := TX7) (N := 16) hx hb hts (by decide +kernel) hown hK hM 0 rfl rfl 4 (by decide) (hts (.fieldLink RX7 16 "ShiftIslesModel" "trial" "[I") (by decide +kernel)) (fun _ h9 => h9) rfl dX7_command_349 ?_
      refine lv_iload_n hx hb dX7_command_352 rfl (lv_at hl 3 rfl) ?_
      refine z_callS (As := [.int (nI o)]) (rest := [.ref (a 4)]) (wc := []) (wr := [((a 0), .inr (7, [.int (u 0), .ref (a 1), .int (u 2), .ref (a 3), .ref (a 4), .ref (a 5), .ref (a 6), .int (u 7), .ref (a 8), .ref (a 9), .int (u 10), .int (u 11), .int (u 12), .long x, .int (u 14), .int (u 15)])), ((a 4), .inl (G.2 1, 121, .inl (flt h b))), ((a 5), .inl (G.2 1, 121, .inl f))]) (w1 := []) (ws' := [((a 0), .inr (7, [.int (u 0), .ref (a 1), .int (u 2), .ref (a 3), .ref (a 4), .ref (a 5), .ref (a 6), .int (u 7), .ref (a 8), .ref (a 9), .int (u 10), .int (u 11), .int (u 12), .long x, .int (u 14), .int (u 15)])), ((a 4), .inl (G.2 1, 121, .inl (flt h b))), ((a 5), .inl (G.2 1, 121, .inl f))]) ⟨hx, hb, hml, hown, hts⟩ (c_at l G o (by omega)) (va_cwS 1 hts gX7_command_X7_at rfl rfl rfl (by decide +kernel) ⟨Nat.le_of_ble_eq_true rfl, Nat.le_of_ble_eq_true rfl⟩) rfl hl.1 rfl (Nat.le_of_ble_eq_true rfl) dX7_command_353 ⟨Nat.le_of_ble_eq_true rfl, Nat.le_of_ble_eq_true rfl⟩ hK hE hA hM (List.Perm.refl _) (List.Perm.refl _) (fun H locs hM hz => ?_)
      refine lv_bipush (v := nI 25) hx hb dX7_command_356 (by decide) ?_
      refine lv_iadd hx hb dX7_command_358 ?_
      refine z_topi (y := nI ((9 + (28 * o)) + 25)) (nI_add (9 + (28 * o)) 25) ?_
      refine z_iald hx hb hK hM 1 rfl (v := b o 25) (vp_in_nI (by omega) (by decide)) (by rw [nI_clamp (by omega)]; exact flt_b o 25 (by omega) (by omega)) dX7_command_359 ?_
      refine lv_iload_n hx hb dX7_command_360 rfl (lv_at hl 4 rfl) ?_
      refine lv_icmp_ne (tgt := 368) hx hb dX7_command_361 (by decide) (fun c_8 => absurd hc c_8) (fun c_8 => ?_)
      refine lv_iconst (v := 1) hx hb dX7_command_364 (by decide) ?_
      refine lv_goto (tgt := 369) hx hb dX7_command_365 (by decide) ?_
      exact z_zret hx hb hr hlocks dX7_command_369 hM (Nat.le_of_ble_eq_true rfl) (Nat.le_of_ble_eq_true rfl) (by first | exact Or.inl rfl | exact Or.inr rfl | exact zb_01 _) rfl
    · skip
      refine lv_iconst (v := 1) hx hb dX7_command_8 (by decide) ?_
      refine lv_goto (tgt := 13) hx hb dX7_command_9 (by decide) ?_
      refine lv_istore (lv' := [(5, .int 1), (0, .ref (a 0)), (1, .int 7), (2, .int (nI o)), (3, .int (nI i)), (4, .int (nI 0))]) hx hb dX7_command_13 hl (by decide) rfl (fun ls hl => ?_)
      refine lv_iload_n hx hb dX7_command_15 rfl (lv_at hl 2 rfl) ?_
      refine lv_tableIn (off := 309) (tgt := 325) hx hb dX7_command_16 (by decide) (by decide) rfl (by decide) ?_
      refine lv_iload hx hb dX7_command_325 (lv_at hl 5 rfl) ?_
      refine lv_if_ne (tgt := 368) hx hb dX7_command_327 (by decide) (fun c_9 => absurd rfl c_9) (fun c_9 => ?_)
      refine lv_aload_n hx hb dX7_command_330 rfl (lv_at hl 1 rfl) ?_
      refine z_get (ci := 7) (v := .ref (a 4)) (C := RX7) (T := TX7) (N := 16) hx hb hts (by decide +kernel) hown hK hM 0 rfl rfl 4 (by decide) (hts (.fieldLink RX7 16 "ShiftIslesModel" "trial" "[I") (by decide +kernel)) (fun _ h9 => h9) rfl dX7_command_331 ?_
      refine lv_iload_n hx hb dX7_command_334 rfl (lv_at hl 3 rfl) ?_
      refine z_callS (As := [.ref (a 4), .int (nI o)]) (rest := []) (wc := rfW G (a 4) h b) (wr := [((a 0), .inr (7, [.int (u 0), .ref (a 1), .int (u 2), .ref (a 3), .ref (a 4), .ref (a 5), .ref (a 6), .int (u 7), .ref (a 8), .ref (a 9), .int (u 10), .int (u 11), .int (u 12), .long x, .int (u 14), .int (u 15)])), ((a 5), .inl (G.2 1, 121, .inl f))]) (w1 := rfW G (a 4) h b) (ws' := [((a 0), .inr (7, [.int (u 0), .ref (a 1), .int (u 2), .ref (a 3), .ref (a 4), .ref (a 5), .ref (a 6), .int (u 7), .ref (a 8), .ref (a 9), .int (u 10), .int (u 11), .int (u 12), .long x, .int (u 14), .int (u 15)])), ((a 4), .inl (G.2 1, 121, .inl (flt h b))), ((a 5), .inl (G.2 1, 121, .inl f))]) ⟨hx, hb, hml, hown, hts⟩ (c_r_isPlayer l G (a 4) h b P hG.1.1.1 hP4 (nI o) ) (va_cwS 2 hts gX7_command_X7_isPlayer rfl rfl rfl (by decide +kernel) ⟨Nat.le_of_ble_eq_true rfl, Nat.le_of_ble_eq_true rfl⟩) rfl hl.1 rfl (Nat.le_of_ble_eq_true rfl) dX7_command_335 ⟨Nat.le_of_ble_eq_true rfl, Nat.le_of_ble_eq_true rfl⟩ hK hE hA hM (pm_at 3 [1] [0, 2] rfl rfl rfl (by decide)) ((pm_at 3 [1] [0, 2] rfl rfl rfl (by decide))).symm (fun H locs hM hz => ?_)
      refine z_ifeq (tgt := 368) hx hb dX7_command_338 (by decide) (fun c_10 => Bool.noConfusion (hp9.symm.trans c_10)) (fun c_10 => ?_)
      refine lv_iload_n hx hb dX7_command_341 rfl (lv_at hl 4 rfl) ?_
      refine z_callS (As := [.int (nI i)]) (rest := []) (wc := []) (wr := [((a 0), .inr (7, [.int (u 0), .ref (a 1), .int (u 2), .ref (a 3), .ref (a 4), .ref (a 5), .ref (a 6), .int (u 7), .ref (a 8), .ref (a 9), .int (u 10), .int (u 11), .int (u 12), .long x, .int (u 14), .int (u 15)])), ((a 4), .inl (G.2 1, 121, .inl (flt h b))), ((a 5), .inl (G.2 1, 121, .inl f))]) (w1 := []) (ws' := [((a 0), .inr (7, [.int (u 0), .ref (a 1), .int (u 2), .ref (a 3), .ref (a 4), .ref (a 5), .ref (a 6), .int (u 7), .ref (a 8), .ref (a 9), .int (u 10), .int (u 11), .int (u 12), .long x, .int (u 14), .int (u 15)])), ((a 4), .inl (G.2 1, 121, .inl (flt h b))), ((a 5), .inl (G.2 1, 121, .inl f))]) ⟨hx, hb, hml, hown, hts⟩ (c_r_isLine l G (nI i)) (va_cwS 1 hts gX7_command_X7_isLine rfl rfl rfl (by decide +kernel) ⟨Nat.le_of_ble_eq_true rfl, Nat.le_of_ble_eq_true rfl⟩) rfl hl.1 rfl (Nat.le_of_ble_eq_true rfl) dX7_command_342 ⟨Nat.le_of_ble_eq_true rfl, Nat.le_of_ble_eq_true rfl⟩ hK hE hA hM (List.Perm.refl _) (List.Perm.refl _) (fun H locs hM hz => ?_)
      refine z_ifeq (tgt := 368) hx hb dX7_command_345 (by decide) (fun c_11 => Bool.noConfusion (hl9.symm.trans c_11)) (fun c_11 => ?_)
      have hoP : o < P := (zHp_lt hG.1.1.1 hP4 (by omega)).mp hp9
      refine lv_aload_n hx hb dX7_command_348 rfl (lv_at hl 1 rfl) ?_
      refine z_get (ci := 7) (v := .ref (a 4)) (C := RX7) (T := TX7) (N := 16) hx hb hts (by decide +kernel) hown hK hM 0 rfl rfl 4 (by decide) (hts (.fieldLink RX7 16 "ShiftIslesModel" "trial" "[I") (by decide +kernel)) (fun _ h9 => h9) rfl dX7_command_349 ?_
      refine lv_iload_n hx hb dX7_command_352 rfl (lv_at hl 3 rfl) ?_
      refine z_callS (As := [.int (nI o)]) (rest := [.ref (a 4)]) (wc := []) (wr := [((a 0), .inr (7, [.int (u 0), .ref (a 1), .int (u 2), .ref (a 3), .ref (a 4), .ref (a 5), .ref (a 6), .int (u 7), .ref (a 8), .ref (a 9), .int (u 10), .int (u 11), .int (u 12), .long x, .int (u 14), .int (u 15)])), ((a 4), .inl (G.2 1, 121, .inl (flt h b))), ((a 5), .inl (G.2 1, 121, .inl f))]) (w1 := []) (ws' := [((a 0), .inr (7, [.int (u 0), .ref (a 1), .int (u 2), .ref (a 3), .ref (a 4), .ref (a 5), .ref (a 6), .int (u 7), .ref (a 8), .ref (a 9), .int (u 10), .int (u 11), .int (u 12), .long x, .int (u 14), .int (u 15)])), ((a 4), .inl (G.2 1, 121, .inl (flt h b))), ((a 5), .inl (G.2 1, 121, .inl f))]) ⟨hx, hb, hml, hown, hts⟩ (c_at l G o (by omega)) (va_cwS 1 hts gX7_command_X7_at rfl rfl rfl (by decide +kernel) ⟨Nat.le_of_ble_eq_true rfl, Nat.le_of_ble_eq_true rfl⟩) rfl hl.1 rfl (Nat.le_of_ble_eq_true rfl) dX7_command_353 ⟨Nat.le_of_ble_eq_true rfl, Nat.le_of_ble_eq_true rfl⟩ hK hE hA hM (List.Perm.refl _) (List.Perm.refl _) (fun H locs hM hz => ?_)
      refine lv_bipush (v := nI 25) hx hb dX7_command_356 (by decide) ?_
      refine lv_iadd hx hb dX7_command_358 ?_
      refine z_topi (y := nI ((9 + (28 * o)) + 25)) (nI_add (9 + (28 * o)) 25) ?_
      refine z_iald hx hb hK hM 1 rfl (v := b o 25) (vp_in_nI (by omega) (by decide)) (by rw [nI_clamp (by omega)]; exact flt_b o 25 (by omega) (by omega)) dX7_command_359 ?_
      refine lv_iload_n hx hb dX7_command_360 rfl (lv_at hl 4 rfl) ?_
      refine lv_icmp_ne (tgt := 368) hx hb dX7_command_361 (by decide) (fun c_12 => absurd hc c_12) (fun c_12 => ?_)
      refine lv_iconst (v := 1) hx hb dX7_command_364 (by decide) ?_
      refine lv_goto (tgt := 369) hx hb dX7_command_365 (by decide) ?_
      exact z_zret hx hb hr hlocks dX7_command_369 hM (Nat.le_of_ble_eq_true rfl) (Nat.le_of_ble_eq_true rfl) (by first | exact Or.inl rfl | exact Or.inr rfl | exact zb_01 _) rfl

set_option maxHeartbeats 4000000 in
set_option maxRecDepth 100000 in
theorem c_cmd7n (l : Launch) (G : zC) (a : Nat → Nat) (u : Nat → Int32) (x : Int64) (f : Nat → Int32) (h : Nat → Int32) (b : Nat → Nat → Int32) (P t S e0 : Nat) (hG : zGs h b P t S e0) (o i j : Nat) (ho9 : o < 10) (hi9 : i < 10) (hj9 : j < 10) (hc : (decide (j = 0) && zHp h (nI o) && zLi (nI i) && decide (b o 25 = nI i)) = false) : zMet l G yX7_command wsX7_command rmX7_command [.ref (a 0), .int 7, .int (nI o), .int (nI i), .int (nI j)] ([((a 0), .inr (7, [.int (u 0), .ref (a 1), .int (u 2), .ref (a 3), .ref (a 4), .ref (a 5), .ref (a 6), .int (u 7), .ref (a 8), .ref (a 9), .int (u 10), .int (u 11), .int (u 12), .long x, .int (u 14), .int (u 15)])), ((a 4), .inl (G.2 1, 121, .inl (flt h b))), ((a 5), .inl (G.2 1, 121, .inl f))]) (some (.int 0)) ([((a 0), .inr (7, [.int (u 0), .ref (a 1), .int (u 2), .ref (a 3), .ref (a 4), .ref (a 5), .ref (a 6), .int (u 7), .ref (a 8), .ref (a 9), .int (u 10), .int (u 11), .int (u 12), .long x, .int (u 14), .int (u 15)])), ((a 4), .inl (G.2 1, 121, .inl (flt h b))), ((a 5), .inl (G.2 1, 121, .inl f))]) := by
  refine zMet_of (cc := cX7_command) (maxL := 6) (ret := (some .boolean)) (by decide) rfl (Nat.le_of_ble_eq_true rfl) ?_
  intro p e s m below meth c A ls hx hb hr hml hown hts hK hA hE hlocks hin hM hl
  have hown : s.vm.findClass RX7 = some m.cls := hown
  have hM : zM G A s s.heap [] ([((a 0), .inr (7, [.int (u 0), .ref (a 1), .int (u 2), .ref (a 3), .ref (a 4), .ref (a 5), .ref (a 6), .int (u 7), .ref (a 8), .ref (a 9), .int (u 10), .int (u 11), .int (u 12), .long x, .int (u 14), .int (u 15)])), ((a 4), .inl (G.2 1, 121, .inl (flt h b))), ((a 5), .inl (G.2 1, 121, .inl f))]) := hM
  have hl : lv_has ls 6 [(0, .ref (a 0)), (1, .int 7), (2, .int (nI o)), (3, .int (nI i)), (4, .int (nI j))] := hl
  have hP4 := hG.1.1.2.1
  have h6 := hG.1.1.2.2.2.2.1
  have hS := hG.1.1.2.2.2.2.2.1
  refine lv_iload_n hx hb dX7_command_0 rfl (lv_at hl 2 rfl) ?_
  refine lv_if_ne (tgt := 12) hx hb dX7_command_1 (by decide) (fun c_z1 => ?_) (fun c_z1 => ?_)
  · skip
    refine lv_iconst (v := 0) hx hb dX7_command_12 (by decide) ?_
    refine lv_istore (lv' := [(5, .int 0), (0, .ref (a 0)), (1, .int 7), (2, .int (nI o)), (3, .int (nI i)), (4, .int (nI j))]) hx hb dX7_command_13 hl (by decide) rfl (fun ls hl => ?_)
    refine lv_iload_n hx hb dX7_command_15 rfl (lv_at hl 2 rfl) ?_
    refine lv_tableIn (off := 309) (tgt := 325) hx hb dX7_command_16 (by decide) (by decide) rfl (by decide) ?_
    refine lv_iload hx hb dX7_command_325 (lv_at hl 5 rfl) ?_
    refine lv_if_ne (tgt := 368) hx hb dX7_command_327 (by decide) (fun c_z3 => ?_) (fun c_z3 => ?_)
    · skip
      refine lv_iconst (v := 0) hx hb dX7_command_368 (by decide) ?_
      exact z_zret hx hb hr hlocks dX7_command_369 hM (Nat.le_of_ble_eq_true rfl) (Nat.le_of_ble_eq_true rfl) (by first | exact Or.inl rfl | exact Or.inr rfl | exact zb_01 _) rfl
    · skip
      refine lv_aload_n hx hb dX7_command_330 rfl (lv_at hl 1 rfl) ?_
      refine z_get (ci := 7) (v := .ref (a 4)) (C := RX7) (T := TX7) (N := 16) hx hb hts (by decide +kernel) hown hK hM 0 rfl rfl 4 (by decide) (hts (.fieldLink RX7 16 "ShiftIslesModel" "trial" "[I") (by decide +kernel)) (fun _ h9 => h9) rfl dX7_command_331 ?_
      refine lv_iload_n hx hb dX7_command_334 rfl (lv_at hl 3 rfl) ?_
      refine z_callS (As := [.ref (a 4), .int (nI o)]) (rest := []) (wc := rfW G (a 4) h b) (wr := [((a 0), .inr (7, [.int (u 0), .ref (a 1), .int (u 2), .ref (a 3), .ref (a 4), .ref (a 5), .ref (a 6), .int (u 7), .ref (a 8), .ref (a 9), .int (u 10), .int (u 11), .int (u 12), .long x, .int (u 14), .int (u 15)])), ((a 5), .inl (G.2 1, 121, .inl f))]) (w1 := rfW G (a 4) h b) (ws' := [((a 0), .inr (7, [.int (u 0), .ref (a 1), .int (u 2), .ref (a 3), .ref (a 4), .ref (a 5), .ref (a 6), .int (u 7), .ref (a 8), .ref (a 9), .int (u 10), .int (u 11), .int (u 12), .long x, .int (u 14), .int (u 15)])), ((a 4), .inl (G.2 1, 121, .inl (flt h b))), ((a 5), .inl (G.2 1, 121, .inl f))]) ⟨hx, hb, hml, hown, hts⟩ (c_r_isPlayer l G (a 4) h b P hG.1.1.1 hP4 (nI o) ) (va_cwS 2 hts gX7_command_X7_isPlayer rfl rfl rfl (by decide +kernel) ⟨Nat.le_of_ble_eq_true rfl, Nat.le_of_ble_eq_true rfl⟩) rfl hl.1 rfl (Nat.le_of_ble_eq_true rfl) dX7_command_335 ⟨Nat.le_of_ble_eq_true rfl, Nat.le_of_ble_eq_true rfl⟩ hK hE hA hM (pm_at 3 [1] [0, 2] rfl rfl rfl (by decide)) ((pm_at 3 [1] [0, 2] rfl rfl rfl (by decide))).symm (fun H locs hM hz => ?_)
      refine z_ifeq (tgt := 368) hx hb dX7_command_338 (by decide) (fun c_p => ?_) (fun c_p => ?_)
      · skip
        refine lv_iconst (v := 0) hx hb dX7_command_368 (by decide) ?_
        exact z_zret hx hb hr hlocks dX7_command_369 hM (Nat.le_of_ble_eq_true rfl) (Nat.le_of_ble_eq_true rfl) (by first | exact Or.inl rfl | exact Or.inr rfl | exact zb_01 _) rfl
      · skip
        refine lv_iload_n hx hb dX7_command_341 rfl (lv_at hl 4 rfl) ?_
        refine z_callS (As := [.int (nI i)]) (rest := []) (wc := []) (wr := [((a 0), .inr (7, [.int (u 0), .ref (a 1), .int (u 2), .ref (a 3), .ref (a 4), .ref (a 5), .ref (a 6), .int (u 7), .ref (a 8), .ref (a 9), .int (u 10), .int (u 11), .int (u 12), .long x, .int (u 14), .int (u 15)])), ((a 4), .inl (G.2 1, 121, .inl (flt h b))), ((a 5), .inl (G.2 1, 121, .inl f))]) (w1 := []) (ws' := [((a 0), .inr (7, [.int (u 0), .ref (a 1), .int (u 2), .ref (a 3), .ref (a 4), .ref (a 5), .ref (a 6), .int (u 7), .ref (a 8), .ref (a 9), .int (u 10), .int (u 11), .int (u 12), .long x, .int (u 14), .int (u 15)])), ((a 4), .inl (G.2 1, 121, .inl (flt h b))), ((a 5), .inl (G.2 1, 121, .inl f))]) ⟨hx, hb, hml, hown, hts⟩ (c_r_isLine l G (nI i)) (va_cwS 1 hts gX7_command_X7_isLine rfl rfl rfl (by decide +kernel) ⟨Nat.le_of_ble_eq_true rfl, Nat.le_of_ble_eq_true rfl⟩) rfl hl.1 rfl (Nat.le_of_ble_eq_true rfl) dX7_command_342 ⟨Nat.le_of_ble_eq_true rfl, Nat.le_of_ble_eq_true rfl⟩ hK hE hA hM (List.Perm.refl _) (List.Perm.refl _) (fun H locs hM hz => ?_)
        refine z_ifeq (tgt := 368) hx hb dX7_command_345 (by decide) (fun c_n => ?_) (fun c_n => ?_)
        · skip
          refine lv_iconst (v := 0) hx hb dX7_command_368 (by decide) ?_
          exact z_zret hx hb hr hlocks dX7_command_369 hM (Nat.le_of_ble_eq_true rfl) (Nat.le_of_ble_eq_true rfl) (by first | exact Or.inl rfl | exact Or.inr rfl | exact zb_01 _) rfl
        · skip
          have hoP : o < P := (zHp_lt hG.1.1.1 hP4 (by omega)).mp c_p
          refine lv_aload_n hx hb dX7_command_348 rfl (lv_at hl 1 rfl) ?_
          refine z_get (ci := 7) (v := .ref (a 4)) (C := RX7) (T := TX7) (N := 16) hx hb hts (by decide +kernel) hown hK hM 0 rfl rfl 4 (by decide) (hts (.fieldLink RX7 16 "ShiftIslesModel" "trial" "[I") (by decide +kernel)) (fun _ h9 => h9) rfl dX7_command_349 ?_
          refine lv_iload_n hx hb dX7_command_352 rfl (lv_at hl 3 rfl) ?_
          refine z_callS (As := [.int (nI o)]) (rest := [.ref (a 4)]) (wc := []) (wr := [((a 0), .inr (7, [.int (u 0), .ref (a 1), .int (u 2), .ref (a 3), .ref (a 4), .ref (a 5), .ref (a 6), .int (u 7), .ref (a 8), .ref (a 9), .int (u 10), .int (u 11), .int (u 12), .long x, .int (u 14), .int (u 15)])), ((a 4), .inl (G.2 1, 121, .inl (flt h b))), ((a 5), .inl (G.2 1, 121, .inl f))]) (w1 := []) (ws' := [((a 0), .inr (7, [.int (u 0), .ref (a 1), .int (u 2), .ref (a 3), .ref (a 4), .ref (a 5), .ref (a 6), .int (u 7), .ref (a 8), .ref (a 9), .int (u 10), .int (u 11), .int (u 12), .long x, .int (u 14), .int (u 15)])), ((a 4), .inl (G.2 1, 121, .inl (flt h b))), ((a 5), .inl (G.2 1, 121, .inl f))]) ⟨hx, hb, hml, hown, hts⟩ (c_at l G o (by omega)) (va_cwS 1 hts gX7_command_X7_at rfl rfl rfl (by decide +kernel) ⟨Nat.le_of_ble_eq_true rfl, Nat.le_of_ble_eq_true rfl⟩) rfl hl.1 rfl (Nat.le_of_ble_eq_true rfl) dX7_command_353 ⟨Nat.le_of_ble_eq_true rfl, Nat.le_of_ble_eq_true rfl⟩ hK hE hA hM (List.Perm.refl _) (List.Perm.refl _) (fun H locs hM hz => ?_)
          refine lv_bipush (v := nI 25) hx hb dX7_command_356 (by decide) ?_
          refine lv_iadd hx hb dX7_command_358 ?_
          refine z_topi (y := nI ((9 + (28 * o)) + 25)) (nI_add (9 + (28 * o)) 25) ?_
          refine z_iald hx hb hK hM 1 rfl (v := b o 25) (vp_in_nI (by omega) (by decide)) (by rw [nI_clamp (by omega)]; exact flt_b o 25 (by omega) (by omega)) dX7_command_359 ?_
          refine lv_iload_n hx hb dX7_command_360 rfl (lv_at hl 4 rfl) ?_
          refine lv_icmp_ne (tgt := 368) hx hb dX7_command_361 (by decide) (fun c_1 => ?_) (fun c_1 => (by rw [decide_eq_true ((nI_eq (a := j) (b := 0) (by omega) (by decide)).mp c_z3), c_p, c_n, decide_eq_true c_1] at hc; exact Bool.noConfusion hc))
          refine lv_iconst (v := 0) hx hb dX7_command_368 (by decide) ?_
          exact z_zret hx hb hr hlocks dX7_command_369 hM (Nat.le_of_ble_eq_true rfl) (Nat.le_of_ble_eq_true rfl) (by first | exact Or.inl rfl | exact Or.inr rfl | exact zb_01 _) rfl
  · skip
    refine lv_iload_n hx hb dX7_command_4 rfl (lv_at hl 3 rfl) ?_
    refine lv_if_ne (tgt := 12) hx hb dX7_command_5 (by decide) (fun c_z2 => ?_) (fun c_z2 => ?_)
    · skip
      refine lv_iconst (v := 0) hx hb dX7_command_12 (by decide) ?_
      refine lv_istore (lv' := [(5, .int 0), (0, .ref (a 0)), (1, .int 7), (2, .int (nI o)), (3, .int (nI i)), (4, .int (nI j))]) hx hb dX7_command_13 hl (by decide) rfl (fun ls hl => ?_)
      refine lv_iload_n hx hb dX7_command_15 rfl (lv_at hl 2 rfl) ?_
      refine lv_tableIn (off := 309) (tgt := 325) hx hb dX7_command_16 (by decide) (by decide) rfl (by decide) ?_
      refine lv_iload hx hb dX7_command_325 (lv_at hl 5 rfl) ?_
      refine lv_if_ne (tgt := 368) hx hb dX7_command_327 (by decide) (fun c_z3 => ?_) (fun c_z3 => ?_)
      · skip
        refine lv_iconst (v := 0) hx hb dX7_command_368 (by decide) ?_
        exact z_zret hx hb hr hlocks dX7_command_369 hM (Nat.le_of_ble_eq_true rfl) (Nat.le_of_ble_eq_true rfl) (by first | exact Or.inl rfl | exact Or.inr rfl | exact zb_01 _) rfl
      · skip
        refine lv_aload_n hx hb dX7_command_330 rfl (lv_at hl 1 rfl) ?_
        refine z_get (ci := 7) (v := .ref (a 4)) (C := RX7) (T := TX7) (N := 16) hx hb hts (by decide +kernel) hown hK hM 0 rfl rfl 4 (by decide) (hts (.fieldLink RX7 16 "ShiftIslesModel" "trial" "[I") (by decide +kernel)) (fun _ h9 => h9) rfl dX7_command_331 ?_
        refine lv_iload_n hx hb dX7_command_334 rfl (lv_at hl 3 rfl) ?_
        refine z_callS (As := [.ref (a 4), .int (nI o)]) (rest := []) (wc := rfW G (a 4) h b) (wr := [((a 0), .inr (7, [.int (u 0), .ref (a 1), .int (u 2), .ref (a 3), .ref (a 4), .ref (a 5), .ref (a 6), .int (u 7), .ref (a 8), .ref (a 9), .int (u 10), .int (u 11), .int (u 12), .long x, .int (u 14), .int (u 15)])), ((a 5), .inl (G.2 1, 121, .inl f))]) (w1 := rfW G (a 4) h b) (ws' := [((a 0), .inr (7, [.int (u 0), .ref (a 1), .int (u 2), .ref (a 3), .ref (a 4), .ref (a 5), .ref (a 6), .int (u 7), .ref (a 8), .ref (a 9), .int (u 10), .int (u 11), .int (u 12), .long x, .int (u 14), .int (u 15)])), ((a 4), .inl (G.2 1, 121, .inl (flt h b))), ((a 5), .inl (G.2 1, 121, .inl f))]) ⟨hx, hb, hml, hown, hts⟩ (c_r_isPlayer l G (a 4) h b P hG.1.1.1 hP4 (nI o) ) (va_cwS 2 hts gX7_command_X7_isPlayer rfl rfl rfl (by decide +kernel) ⟨Nat.le_of_ble_eq_true rfl, Nat.le_of_ble_eq_true rfl⟩) rfl hl.1 rfl (Nat.le_of_ble_eq_true rfl) dX7_command_335 ⟨Nat.le_of_ble_eq_true rfl, Nat.le_of_ble_eq_true rfl⟩ hK hE hA hM (pm_at 3 [1] [0, 2] rfl rfl rfl (by decide)) ((pm_at 3 [1] [0, 2] rfl rfl rfl (by decide))).symm (fun H locs hM hz => ?_)
        refine z_ifeq (tgt := 368) hx hb dX7_command_338 (by decide) (fun c_p => ?_) (fun c_p => ?_)
        · skip
          refine lv_iconst (v := 0) hx hb dX7_command_368 (by decide) ?_
          exact z_zret hx hb hr hlocks dX7_command_369 hM (Nat.le_of_ble_eq_true rfl) (Nat.le_of_ble_eq_true rfl) (by first | exact Or.inl rfl | exact Or.inr rfl | exact zb_01 _) rfl
        · skip
          refine lv_iload_n hx hb dX7_command_341 rfl (lv_at hl 4 rfl) ?_
          refine z_callS (As := [.int (nI i)]) (rest := []) (wc := []) (wr := [((a 0), .inr (7, [.int (u 0), .ref (a 1), .int (u 2), .ref (a 3), .ref (a 4), .ref (a 5), .ref (a 6), .int (u 7), .ref (a 8), .ref (a 9), .int (u 10), .int (u 11), .int (u 12), .long x, .int (u 14), .int (u 15)])), ((a 4), .inl (G.2 1, 121, .inl (flt h b))), ((a 5), .inl (G.2 1, 121, .inl f))]) (w1 := []) (ws' := [((a 0), .inr (7, [.int (u 0), .ref (a 1), .int (u 2), .ref (a 3), .ref (a 4), .ref (a 5), .ref (a 6), .int (u 7), .ref (a 8), .ref (a 9), .int (u 10), .int (u 11), .int (u 12), .long x, .int (u 14), .int (u 15)])), ((a 4), .inl (G.2 1, 121, .inl (flt h b))), ((a 5), .inl (G.2 1, 121, .inl f))]) ⟨hx, hb, hml, hown, hts⟩ (c_r_isLine l G (nI i)) (va_cwS 1 hts gX7_command_X7_isLine rfl rfl rfl (by decide +kernel) ⟨Nat.le_of_ble_eq_true rfl, Nat.le_of_ble_eq_true rfl⟩) rfl hl.1 rfl (Nat.le_of_ble_eq_true rfl) dX7_command_342 ⟨Nat.le_of_ble_eq_true rfl, Nat.le_of_ble_eq_true rfl⟩ hK hE hA hM (List.Perm.refl _) (List.Perm.refl _) (fun H locs hM hz => ?_)
          refine z_ifeq (tgt := 368) hx hb dX7_command_345 (by decide) (fun c_n => ?_) (fun c_n => ?_)
          · skip
            refine lv_iconst (v := 0) hx hb dX7_command_368 (by decide) ?_
            exact z_zret hx hb hr hlocks dX7_command_369 hM (Nat.le_of_ble_eq_true rfl) (Nat.le_of_ble_eq_true rfl) (by first | exact Or.inl rfl | exact Or.inr rfl | exact zb_01 _) rfl
          · skip
            have hoP : o < P := (zHp_lt hG.1.1.1 hP4 (by omega)).mp c_p
            refine lv_aload_n hx hb dX7_command_348 rfl (lv_at hl 1 rfl) ?_
            refine z_get (ci := 7) (v := .ref (a 4)) (C := RX7) (T := TX7) (N := 16) hx hb hts (by decide +kernel) hown hK hM 0 rfl rfl 4 (by decide) (hts (.fieldLink RX7 16 "ShiftIslesModel" "trial" "[I") (by decide +kernel)) (fun _ h9 => h9) rfl dX7_command_349 ?_
            refine lv_iload_n hx hb dX7_command_352 rfl (lv_at hl 3 rfl) ?_
            refine z_callS (As := [.int (nI o)]) (rest := [.ref (a 4)]) (wc := []) (wr := [((a 0), .inr (7, [.int (u 0), .ref (a 1), .int (u 2), .ref (a 3), .ref (a 4), .ref (a 5), .ref (a 6), .int (u 7), .ref (a 8), .ref (a 9), .int (u 10), .int (u 11), .int (u 12), .long x, .int (u 14), .int (u 15)])), ((a 4), .inl (G.2 1, 121, .inl (flt h b))), ((a 5), .inl (G.2 1, 121, .inl f))]) (w1 := []) (ws' := [((a 0), .inr (7, [.int (u 0), .ref (a 1), .int (u 2), .ref (a 3), .ref (a 4), .ref (a 5), .ref (a 6), .int (u 7), .ref (a 8), .ref (a 9), .int (u 10), .int (u 11), .int (u 12), .long x, .int (u 14), .int (u 15)])), ((a 4), .inl (G.2 1, 121, .inl (flt h b))), ((a 5), .inl (G.2 1, 121, .inl f))]) ⟨hx, hb, hml, hown, hts⟩ (c_at l G o (by omega)) (va_cwS 1 hts gX7_command_X7_at rfl rfl rfl (by decide +kernel) ⟨Nat.le_of_ble_eq_true rfl, Nat.le_of_ble_eq_true rfl⟩) rfl hl.1 rfl (Nat.le_of_ble_eq_true rfl) dX7_command_353 ⟨Nat.le_of_ble_eq_true rfl, Nat.le_of_ble_eq_true rfl⟩ hK hE hA hM (List.Perm.refl _) (List.Perm.refl _) (fun H locs hM hz => ?_)
            refine lv_bipush (v := nI 25) hx hb dX7_command_356 (by decide) ?_
            refine lv_iadd hx hb dX7_command_358 ?_
            refine z_topi (y := nI ((9 + (28 * o)) + 25)) (nI_add (9 + (28 * o)) 25) ?_
            refine z_iald hx hb hK hM 1 rfl (v := b o 25) (vp_in_nI (by omega) (by decide)) (by rw [nI_clamp (by omega)]; exact flt_b o 25 (by omega) (by omega)) dX7_command_359 ?_
            refine lv_iload_n hx hb dX7_command_360 rfl (lv_at hl 4 rfl) ?_
            refine lv_icmp_ne (tgt := 368) hx hb dX7_command_361 (by decide) (fun c_2 => ?_) (fun c_2 => (by rw [decide_eq_true ((nI_eq (a := j) (b := 0) (by omega) (by decide)).mp c_z3), c_p, c_n, decide_eq_true c_2] at hc; exact Bool.noConfusion hc))
            refine lv_iconst (v := 0) hx hb dX7_command_368 (by decide) ?_
            exact z_zret hx hb hr hlocks dX7_command_369 hM (Nat.le_of_ble_eq_true rfl) (Nat.le_of_ble_eq_true rfl) (by first | exact Or.inl rfl | exact Or.inr rfl | exact zb_01 _) rfl
    · skip
      refine lv_iconst (v := 1) hx hb dX7_command_8 (by decide) ?_
      refine lv_goto (tgt := 13) hx hb dX7_command_9 (by decide) ?_
      refine lv_istore (lv' := [(5, .int 1), (0, .ref (a 0)), (1, .int 7), (2, .int (nI o)), (3, .int (nI i)), (4, .int (nI j))]) hx hb dX7_command_13 hl (by decide) rfl (fun ls hl => ?_)
      refine lv_iload_n hx hb dX7_command_15 rfl (lv_at hl 2 rfl) ?_
      refine lv_tableIn (off := 309) (tgt := 325) hx hb dX7_command_16 (by decide) (by decide) rfl (by decide) ?_
      refine lv_iload hx hb dX7_command_325 (lv_at hl 5 rfl) ?_
      refine lv_if_ne (tgt := 368) hx hb dX7_command_327 (by decide) (fun c_z3 => ?_) (fun c_z3 => ?_)
      · skip
        refine lv_iconst (v := 0) hx hb dX7_command_368 (by decide) ?_
        exact z_zret hx hb hr hlocks dX7_command_369 hM (Nat.le_of_ble_eq_true rfl) (Nat.le_of_ble_eq_true rfl) (by first | exact Or.inl rfl | exact Or.inr rfl | exact zb_01 _) rfl
      · skip
        refine lv_aload_n hx hb dX7_command_330 rfl (lv_at hl 1 rfl) ?_
        refine z_get (ci := 7) (v := .ref (a 4)) (C := RX7) (T := TX7) (N := 16) hx hb hts (by decide +kernel) hown hK hM 0 rfl rfl 4 (by decide) (hts (.fieldLink RX7 16 "ShiftIslesModel" "trial" "[I") (by decide +kernel)) (fun _ h9 => h9) rfl dX7_command_331 ?_
        refine lv_iload_n hx hb dX7_command_334 rfl (lv_at hl 3 rfl) ?_
        refine z_callS (As := [.ref (a 4), .int (nI o)]) (rest := []) (wc := rfW G (a 4) h b) (wr := [((a 0), .inr (7, [.int (u 0), .ref (a 1), .int (u 2), .ref (a 3), .ref (a 4), .ref (a 5), .ref (a 6), .int (u 7), .ref (a 8), .ref (a 9), .int (u 10), .int (u 11), .int (u 12), .long x, .int (u 14), .int (u 15)])), ((a 5), .inl (G.2 1, 121, .inl f))]) (w1 := rfW G (a 4) h b) (ws' := [((a 0), .inr (7, [.int (u 0), .ref (a 1), .int (u 2), .ref (a 3), .ref (a 4), .ref (a 5), .ref (a 6), .int (u 7), .ref (a 8), .ref (a 9), .int (u 10), .int (u 11), .int (u 12), .long x, .int (u 14), .int (u 15)])), ((a 4), .inl (G.2 1, 121, .inl (flt h b))), ((a 5), .inl (G.2 1, 121, .inl f))]) ⟨hx, hb, hml, hown, hts⟩ (c_r_isPlayer l G (a 4) h b P hG.1.1.1 hP4 (nI o) ) (va_cwS 2 hts gX7_command_X7_isPlayer rfl rfl rfl (by decide +kernel) ⟨Nat.le_of_ble_eq_true rfl, Nat.le_of_ble_eq_true rfl⟩) rfl hl.1 rfl (Nat.le_of_ble_eq_true rfl) dX7_command_335 ⟨Nat.le_of_ble_eq_true rfl, Nat.le_of_ble_eq_true rfl⟩ hK hE hA hM (pm_at 3 [1] [0, 2] rfl rfl rfl (by decide)) ((pm_at 3 [1] [0, 2] rfl rfl rfl (by decide))).symm (fun H locs hM hz => ?_)
        refine z_ifeq (tgt := 368) hx hb dX7_command_338 (by decide) (fun c_p => ?_) (fun c_p => ?_)
        · skip
          refine lv_iconst (v := 0) hx hb dX7_command_368 (by decide) ?_
          exact z_zret hx hb hr hlocks dX7_command_369 hM (Nat.le_of_ble_eq_true rfl) (Nat.le_of_ble_eq_true rfl) (by first | exact Or.inl rfl | exact Or.inr rfl | exact zb_01 _) rfl
        · skip
          refine lv_iload_n hx hb dX7_command_341 rfl (lv_at hl 4 rfl) ?_
          refine z_callS (As := [.int (nI i)]) (rest := []) (wc := []) (wr := [((a 0), .inr (7, [.int (u 0), .ref (a 1), .int (u 2), .ref (a 3), .ref (a 4), .ref (a 5), .ref (a 6), .int (u 7), .ref (a 8), .ref (a 9), .int (u 10), .int (u 11), .int (u 12), .long x, .int (u 14), .int (u 15)])), ((a 4), .inl (G.2 1, 121, .inl (flt h b))), ((a 5), .inl (G.2 1, 121, .inl f))]) (w1 := []) (ws' := [((a 0), .inr (7, [.int (u 0), .ref (a 1), .int (u 2), .ref (a 3), .ref (a 4), .ref (a 5), .ref (a 6), .int (u 7), .ref (a 8), .ref (a 9), .int (u 10), .int (u 11), .int (u 12), .long x, .int (u 14), .int (u 15)])), ((a 4), .inl (G.2 1, 121, .inl (flt h b))), ((a 5), .inl (G.2 1, 121, .inl f))]) ⟨hx, hb, hml, hown, hts⟩ (c_r_isLine l G (nI i)) (va_cwS 1 hts gX7_command_X7_isLine rfl rfl rfl (by decide +kernel) ⟨Nat.le_of_ble_eq_true rfl, Nat.le_of_ble_eq_true rfl⟩) rfl hl.1 rfl (Nat.le_of_ble_eq_true rfl) dX7_command_342 ⟨Nat.le_of_ble_eq_true rfl, Nat.le_of_ble_eq_true rfl⟩ hK hE hA hM (List.Perm.refl _) (List.Perm.refl _) (fun H locs hM hz => ?_)
          refine z_ifeq (tgt := 368) hx hb dX7_command_345 (by decide) (fun c_n => ?_) (fun c_n => ?_)
          · skip
            refine lv_iconst (v := 0) hx hb dX7_command_368 (by decide) ?_
            exact z_zret hx hb hr hlocks dX7_command_369 hM (Nat.le_of_ble_eq_true rfl) (Nat.le_of_ble_eq_true rfl) (by first | exact Or.inl rfl | exact Or.inr rfl | exact zb_01 _) rfl
          · skip
            have hoP : o < P := (zHp_lt hG.1.1.1 hP4 (by omega)).mp c_p
            refine lv_aload_n hx hb dX7_command_348 rfl (lv_at hl 1 rfl) ?_
            refine z_get (ci := 7) (v := .ref (a 4)) (C := RX7) (T := TX7) (N := 16) hx hb hts (by decide +kernel) hown hK hM 0 rfl rfl 4 (by decide) (hts (.fieldLink RX7 16 "ShiftIslesModel" "trial" "[I") (by decide +kernel)) (fun _ h9 => h9) rfl dX7_command_349 ?_
            refine lv_iload_n hx hb dX7_command_352 rfl (lv_at hl 3 rfl) ?_
            refine z_callS (As := [.int (nI o)]) (rest := [.ref (a 4)]) (wc := []) (wr := [((a 0), .inr (7, [.int (u 0), .ref (a 1), .int (u 2), .ref (a 3), .ref (a 4), .ref (a 5), .ref (a 6), .int (u 7), .ref (a 8), .ref (a 9), .int (u 10), .int (u 11), .int (u 12), .long x, .int (u 14), .int (u 15)])), ((a 4), .inl (G.2 1, 121, .inl (flt h b))), ((a 5), .inl (G.2 1, 121, .inl f))]) (w1 := []) (ws' := [((a 0), .inr (7, [.int (u 0), .ref (a 1), .int (u 2), .ref (a 3), .ref (a 4), .ref (a 5), .ref (a 6), .int (u 7), .ref (a 8), .ref (a 9), .int (u 10), .int (u 11), .int (u 12), .long x, .int (u 14), .int (u 15)])), ((a 4), .inl (G.2 1, 121, .inl (flt h b))), ((a 5), .inl (G.2 1, 121, .inl f))]) ⟨hx, hb, hml, hown, hts⟩ (c_at l G o (by omega)) (va_cwS 1 hts gX7_command_X7_at rfl rfl rfl (by decide +kernel) ⟨Nat.le_of_ble_eq_true rfl, Nat.le_of_ble_eq_true rfl⟩) rfl hl.1 rfl (Nat.le_of_ble_eq_true rfl) dX7_command_353 ⟨Nat.le_of_ble_eq_true rfl, Nat.le_of_ble_eq_true rfl⟩ hK hE hA hM (List.Perm.refl _) (List.Perm.refl _) (fun H locs hM hz => ?_)
            refine lv_bipush (v := nI 25) hx hb dX7_command_356 (by decide) ?_
            refine lv_iadd hx hb dX7_command_358 ?_
            refine z_topi (y := nI ((9 + (28 * o)) + 25)) (nI_add (9 + (28 * o)) 25) ?_
            refine z_iald hx hb hK hM 1 rfl (v := b o 25) (vp_in_nI (by omega) (by decide)) (by rw [nI_clamp (by omega)]; exact flt_b o 25 (by omega) (by omega)) dX7_command_359 ?_
            refine lv_iload_n hx hb dX7_command_360 rfl (lv_at hl 4 rfl) ?_
            refine lv_icmp_ne (tgt := 368) hx hb dX7_command_361 (by decide) (fun c_3 => ?_) (fun c_3 => (by rw [decide_eq_true ((nI_eq (a := j) (b := 0) (by omega) (by decide)).mp c_z3), c_p, c_n, decide_eq_true c_3] at hc; exact Bool.noConfusion hc))
            refine lv_iconst (v := 0) hx hb dX7_command_368 (by decide) ?_
            exact z_zret hx hb hr hlocks dX7_command_369 hM (Nat.le_of_ble_eq_true rfl) (Nat.le_of_ble_eq_true rfl) (by first | exact Or.inl rfl | exact Or.inr rfl | exact zb_01 _) rfl

set_option maxHeartbeats 4000000 in
set_option maxRecDepth 100000 in
theorem c_cmd8y (l : Launch) (G : zC) (a : Nat → Nat) (u : Nat → Int32) (x : Int64) (f : Nat → Int32) (h : Nat → Int32) (b : Nat → Nat → Int32) (P t S e0 : Nat) (hG : zGs h b P t S e0) (o i j : Nat) (ho9 : o < 10) (hi9 : i < 10) (hj9 : j < 10) (hru : zRu h = true) (hc : h 1 = nI j) : zMet l G yX7_command wsX7_command rmX7_command [.ref (a 0), .int 8, .int (nI 0), .int (nI 0), .int (nI j)] ([((a 0), .inr (7, [.int (u 0), .ref (a 1), .int (u 2), .ref (a 3), .ref (a 4), .ref (a 5), .ref (a 6), .int (u 7), .ref (a 8), .ref (a 9), .int (u 10), .int (u 11), .int (u 12), .long x, .int (u 14), .int (u 15)])), ((a 4), .inl (G.2 1, 121, .inl (flt h b))), ((a 5), .inl (G.2 1, 121, .inl f))]) (some (.int 1)) ([((a 0), .inr (7, [.int (u 0), .ref (a 1), .int (u 2), .ref (a 3), .ref (a 4), .ref (a 5), .ref (a 6), .int (u 7), .ref (a 8), .ref (a 9), .int (u 10), .int (u 11), .int (u 12), .long x, .int (u 14), .int (u 15)])), ((a 4), .inl (G.2 1, 121, .inl (flt h b))), ((a 5), .inl (G.2 1, 121, .inl f))]) := by
  refine zMet_of (cc := cX7_command) (maxL := 6) (ret := (some .boolean)) (by decide) rfl (Nat.le_of_ble_eq_true rfl) ?_
  intro p e s m below meth c A ls hx hb hr hml hown hts hK hA hE hlocks hin hM hl
  have hown : s.vm.findClass RX7 = some m.cls := hown
  have hM : zM G A s s.heap [] ([((a 0), .inr (7, [.int (u 0), .ref (a 1), .int (u 2), .ref (a 3), .ref (a 4), .ref (a 5), .ref (a 6), .int (u 7), .ref (a 8), .ref (a 9), .int (u 10), .int (u 11), .int (u 12), .long x, .int (u 14), .int (u 15)])), ((a 4), .inl (G.2 1, 121, .inl (flt h b))), ((a 5), .inl (G.2 1, 121, .inl f))]) := hM
  have hl : lv_has ls 6 [(0, .ref (a 0)), (1, .int 8), (2, .int (nI 0)), (3, .int (nI 0)), (4, .int (nI j))] := hl
  have hP4 := hG.1.1.2.1
  have h6 := hG.1.1.2.2.2.2.1
  have hS := hG.1.1.2.2.2.2.2.1
  refine lv_iload_n hx hb dX7_command_0 rfl (lv_at hl 2 rfl) ?_
  refine lv_if_ne (tgt := 12) hx hb dX7_command_1 (by decide) (fun c_1 => absurd rfl c_1) (fun c_1 => ?_)
  refine lv_iload_n hx hb dX7_command_4 rfl (lv_at hl 3 rfl) ?_
  refine lv_if_ne (tgt := 12) hx hb dX7_command_5 (by decide) (fun c_2 => absurd rfl c_2) (fun c_2 => ?_)
  refine lv_iconst (v := 1) hx hb dX7_command_8 (by decide) ?_
  refine lv_goto (tgt := 13) hx hb dX7_command_9 (by decide) ?_
  refine lv_istore (lv' := [(5, .int 1), (0, .ref (a 0)), (1, .int 8), (2, .int (nI 0)), (3, .int (nI 0)), (4, .int (nI j))]) hx hb dX7_command_13 hl (by decide) rfl (fun ls hl => ?_)
  refine lv_iload_n hx hb dX7_command_15 rfl (lv_at hl 2 rfl) ?_
  refine lv_tableIn (off := 354) (tgt := 370) hx hb dX7_command_16 (by decide) (by decide) rfl (by decide) ?_
  refine lv_iload hx hb dX7_command_370 (lv_at hl 0 rfl) ?_
  refine lv_if_eq (tgt := 400) hx hb dX7_command_372 (by decide) (fun c_3 => absurd c_3 (by decide)) (fun c_3 => ?_)
  refine lv_aload_n hx hb dX7_command_375 rfl (lv_at hl 1 rfl) ?_
  refine z_get (ci := 7) (v := .ref (a 4)) (C := RX7) (T := TX7) (N := 16) hx hb hts (by decide +kernel) hown hK hM 0 rfl rfl 4 (by decide) (hts (.fieldLink RX7 16 "ShiftIslesModel" "trial" "[I") (by decide +kernel)) (fun _ h9 => h9) rfl dX7_command_376 ?_
  refine z_callS (As := [.ref (a 4)]) (rest := []) (wc := rfW G (a 4) h b) (wr := [((a 0), .inr (7, [.int (u 0), .ref (a 1), .int (u 2), .ref (a 3), .ref (a 4), .ref (a 5), .ref (a 6), .int (u 7), .ref (a 8), .ref (a 9), .int (u 10), .int (u 11), .int (u 12), .long x, .int (u 14), .int (u 15)])), ((a 5), .inl (G.2 1, 121, .inl f))]) (w1 := rfW G (a 4) h b) (ws' := [((a 0), .inr (7, [.int (u 0), .ref (a 1), .int (u 2), .ref (a 3), .ref (a 4), .ref (a 5), .ref (a 6), .int (u 7), .ref (a 8), .ref (a 9), .int (u 10), .int (u 11), .int (u 12), .long x, .int (u 14), .int (u 15)])), ((a 4), .inl (G.2 1, 121, .inl (flt h b))), ((a 5), .inl (G.2 1, 121, .inl f))]) ⟨hx, hb, hml, hown, hts⟩ (c_r_isOn l G (a 4) h b  ) (va_cwS 1 hts gX7_command_X7_isOn rfl rfl rfl (by decide +kernel) ⟨Nat.le_of_ble_eq_true rfl, Nat.le_of_ble_eq_true rfl⟩) rfl hl.1 rfl (Nat.le_of_ble_eq_true rfl) dX7_command_379 ⟨Nat.le_of_ble_eq_true rfl, Nat.le_of_ble_eq_true rfl⟩ hK hE hA hM (pm_at 3 [1] [0, 2] rfl rfl rfl (by decide)) ((pm_at 3 [1] [0, 2] rfl rfl rfl (by decide))).symm (fun H locs hM hz => ?_)
  refine z_ifeq (tgt := 400) hx hb dX7_command_382 (by decide) (fun c_4 => Bool.noConfusion (hru.symm.trans c_4)) (fun c_4 => ?_)
  refine lv_aload_n hx hb dX7_command_385 rfl (lv_at hl 1 rfl) ?_
  refine z_get (ci := 7) (v := .ref (a 4)) (C := RX7) (T := TX7) (N := 16) hx hb hts (by decide +kernel) hown hK hM 0 rfl rfl 4 (by decide) (hts (.fieldLink RX7 16 "ShiftIslesModel" "trial" "[I") (by decide +kernel)) (fun _ h9 => h9) rfl dX7_command_386 ?_
  refine lv_iconst (v := 1) hx hb dX7_command_389 (by decide) ?_
  refine z_iald hx hb hK hM 1 rfl (v := h 1) (vp_in_nI (n := 1) (by decide) (by decide)) (flt_h (k := 1) (by decide)) dX7_command_390 ?_
  refine lv_iload hx hb dX7_command_391 (lv_at hl 5 rfl) ?_
  refine lv_icmp_ne (tgt := 400) hx hb dX7_command_393 (by decide) (fun c_5 => absurd hc c_5) (fun c_5 => ?_)
  refine lv_iconst (v := 1) hx hb dX7_command_396 (by decide) ?_
  refine lv_goto (tgt := 401) hx hb dX7_command_397 (by decide) ?_
  exact z_zret hx hb hr hlocks dX7_command_401 hM (Nat.le_of_ble_eq_true rfl) (Nat.le_of_ble_eq_true rfl) (by first | exact Or.inl rfl | exact Or.inr rfl | exact zb_01 _) rfl

set_option maxHeartbeats 4000000 in
set_option maxRecDepth 100000 in
theorem c_cmd8n (l : Launch) (G : zC) (a : Nat → Nat) (u : Nat → Int32) (x : Int64) (f : Nat → Int32) (h : Nat → Int32) (b : Nat → Nat → Int32) (P t S e0 : Nat) (hG : zGs h b P t S e0) (o i j : Nat) (ho9 : o < 10) (hi9 : i < 10) (hj9 : j < 10) (hc : (decide (o = 0) && decide (i = 0) && zRu h && decide (h 1 = nI j)) = false) : zMet l G yX7_command wsX7_command rmX7_command [.ref (a 0), .int 8, .int (nI o), .int (nI i), .int (nI j)] ([((a 0), .inr (7, [.int (u 0), .ref (a 1), .int (u 2), .ref (a 3), .ref (a 4), .ref (a 5), .ref (a 6), .int (u 7), .ref (a 8), .ref (a 9), .int (u 10), .int (u 11), .int (u 12), .long x, .int (u 14), .int (u 15)])), ((a 4), .inl (G.2 1, 121, .inl (flt h b))), ((a 5), .inl (G.2 1, 121, .inl f))]) (some (.int 0)) ([((a 0), .inr (7, [.int (u 0), .ref (a 1), .int (u 2), .ref (a 3), .ref (a 4), .ref (a 5), .ref (a 6), .int (u 7), .ref (a 8), .ref (a 9), .int (u 10), .int (u 11), .int (u 12), .long x, .int (u 14), .int (u 15)])), ((a 4), .inl (G.2 1, 121, .inl (flt h b))), ((a 5), .inl (G.2 1, 121, .inl f))]) := by
  refine zMet_of (cc := cX7_command) (maxL := 6) (ret := (some .boolean)) (by decide) rfl (Nat.le_of_ble_eq_true rfl) ?_
  intro p e s m below meth c A ls hx hb hr hml hown hts hK hA hE hlocks hin hM hl
  have hown : s.vm.findClass RX7 = some m.cls := hown
  have hM : zM G A s s.heap [] ([((a 0), .inr (7, [.int (u 0), .ref (a 1), .int (u 2), .ref (a 3), .ref (a 4), .ref (a 5), .ref (a 6), .int (u 7), .ref (a 8), .ref (a 9), .int (u 10), .int (u 11), .int (u 12), .long x, .int (u 14), .int (u 15)])), ((a 4), .inl (G.2 1, 121, .inl (flt h b))), ((a 5), .inl (G.2 1, 121, .inl f))]) := hM
  have hl : lv_has ls 6 [(0, .ref (a 0)), (1, .int 8), (2, .int (nI o)), (3, .int (nI i)), (4, .int (nI j))] := hl
  have hP4 := hG.1.1.2.1
  have h6 := hG.1.1.2.2.2.2.1
  have hS := hG.1.1.2.2.2.2.2.1
  refine lv_iload_n hx hb dX7_command_0 rfl (lv_at hl 2 rfl) ?_
  refine lv_if_ne (tgt := 12) hx hb dX7_command_1 (by decide) (fun c_z1 => ?_) (fun c_z1 => ?_)
  · skip
    refine lv_iconst (v := 0) hx hb dX7_command_12 (by decide) ?_
    refine lv_istore (lv' := [(5, .int 0), (0, .ref (a 0)), (1, .int 8), (2, .int (nI o)), (3, .int (nI i)), (4, .int (nI j))]) hx hb dX7_command_13 hl (by decide) rfl (fun ls hl => ?_)
    refine lv_iload_n hx hb dX7_command_15 rfl (lv_at hl 2 rfl) ?_
    refine lv_tableIn (off := 354) (tgt := 370) hx hb dX7_command_16 (by decide) (by decide) rfl (by decide) ?_
    refine lv_iload hx hb dX7_command_370 (lv_at hl 0 rfl) ?_
    refine lv_if_eq (tgt := 400) hx hb dX7_command_372 (by decide) (fun c_1 => ?_) (fun c_1 => absurd rfl c_1)
    refine lv_iconst (v := 0) hx hb dX7_command_400 (by decide) ?_
    exact z_zret hx hb hr hlocks dX7_command_401 hM (Nat.le_of_ble_eq_true rfl) (Nat.le_of_ble_eq_true rfl) (by first | exact Or.inl rfl | exact Or.inr rfl | exact zb_01 _) rfl
  · skip
    refine lv_iload_n hx hb dX7_command_4 rfl (lv_at hl 3 rfl) ?_
    refine lv_if_ne (tgt := 12) hx hb dX7_command_5 (by decide) (fun c_z2 => ?_) (fun c_z2 => ?_)
    · skip
      refine lv_iconst (v := 0) hx hb dX7_command_12 (by decide) ?_
      refine lv_istore (lv' := [(5, .int 0), (0, .ref (a 0)), (1, .int 8), (2, .int (nI o)), (3, .int (nI i)), (4, .int (nI j))]) hx hb dX7_command_13 hl (by decide) rfl (fun ls hl => ?_)
      refine lv_iload_n hx hb dX7_command_15 rfl (lv_at hl 2 rfl) ?_
      refine lv_tableIn (off := 354) (tgt := 370) hx hb dX7_command_16 (by decide) (by decide) rfl (by decide) ?_
      refine lv_iload hx hb dX7_command_370 (lv_at hl 0 rfl) ?_
      refine lv_if_eq (tgt := 400) hx hb dX7_command_372 (by decide) (fun c_2 => ?_) (fun c_2 => absurd rfl c_2)
      refine lv_iconst (v := 0) hx hb dX7_command_400 (by decide) ?_
      exact z_zret hx hb hr hlocks dX7_command_401 hM (Nat.le_of_ble_eq_true rfl) (Nat.le_of_ble_eq_true rfl) (by first | exact Or.inl rfl | exact Or.inr rfl | exact zb_01 _) rfl
    · skip
      refine lv_iconst (v := 1) hx hb dX7_command_8 (by decide) ?_
      refine lv_goto (tgt := 13) hx hb dX7_command_9 (by decide) ?_
      refine lv_istore (lv' := [(5, .int 1), (0, .ref (a 0)), (1, .int 8), (2, .int (nI o)), (3, .int (nI i)), (4, .int (nI j))]) hx hb dX7_command_13 hl (by decide) rfl (fun ls hl => ?_)
      refine lv_iload_n hx hb dX7_command_15 rfl (lv_at hl 2 rfl) ?_
      refine lv_tableIn (off := 354) (tgt := 370) hx hb dX7_command_16 (by decide) (by decide) rfl (by decide) ?_
      refine lv_iload hx hb dX7_command_370 (lv_at hl 0 rfl) ?_
      refine lv_if_eq (tgt := 400) hx hb dX7_command_372 (by decide) (fun c_3 => absurd c_3 (by decide)) (fun c_3 => ?_)
      refine lv_aload_n hx hb dX7_command_375 rfl (lv_at hl 1 rfl) ?_
      refine z_get (ci := 7) (v := .ref (a 4)) (C := RX7) (T := TX7) (N := 16) hx hb hts (by decide +kernel) hown hK hM 0 rfl rfl 4 (by decide) (hts (.fieldLink RX7 16 "ShiftIslesModel" "trial" "[I") (by decide +kernel)) (fun _ h9 => h9) rfl dX7_command_376 ?_
      refine z_callS (As := [.ref (a 4)]) (rest := []) (wc := rfW G (a 4) h b) (wr := [((a 0), .inr (7, [.int (u 0), .ref (a 1), .int (u 2), .ref (a 3), .ref (a 4), .ref (a 5), .ref (a 6), .int (u 7), .ref (a 8), .ref (a 9), .int (u 10), .int (u 11), .int (u 12), .long x, .int (u 14), .int (u 15)])), ((a 5), .inl (G.2 1, 121, .inl f))]) (w1 := rfW G (a 4) h b) (ws' := [((a 0), .inr (7, [.int (u 0), .ref (a 1), .int (u 2), .ref (a 3), .ref (a 4), .ref (a 5), .ref (a 6), .int (u 7), .ref (a 8), .ref (a 9), .int (u 10), .int (u 11), .int (u 12), .long x, .int (u 14), .int (u 15)])), ((a 4), .inl (G.2 1, 121, .inl (flt h b))), ((a 5), .inl (G.2 1, 121, .inl f))]) ⟨hx, hb, hml, hown, hts⟩ (c_r_isOn l G (a 4) h b  ) (va_cwS 1 hts gX7_command_X7_isOn rfl rfl rfl (by decide +kernel) ⟨Nat.le_of_ble_eq_true rfl, Nat.le_of_ble_eq_true rfl⟩) rfl hl.1 rfl (Nat.le_of_ble_eq_true rfl) dX7_command_379 ⟨Nat.le_of_ble_eq_true rfl, Nat.le_of_ble_eq_true rfl⟩ hK hE hA hM (pm_at 3 [1] [0, 2] rfl rfl rfl (by decide)) ((pm_at 3 [1] [0, 2] rfl rfl rfl (by decide))).symm (fun H locs hM hz => ?_)
      refine z_ifeq (tgt := 400) hx hb dX7_command_382 (by decide) (fun c_r => ?_) (fun c_r => ?_)
      · skip
        refine lv_iconst (v := 0) hx hb dX7_command_400 (by decide) ?_
        exact z_zret hx hb hr hlocks dX7_command_401 hM (Nat.le_of_ble_eq_true rfl) (Nat.le_of_ble_eq_true rfl) (by first | exact Or.inl rfl | exact Or.inr rfl | exact zb_01 _) rfl
      · skip
        refine lv_aload_n hx hb dX7_command_385 rfl (lv_at hl 1 rfl) ?_
        refine z_get (ci := 7) (v := .ref (a 4)) (C := RX7) (T := TX7) (N := 16) hx hb hts (by decide +kernel) hown hK hM 0 rfl rfl 4 (by decide) (hts (.fieldLink RX7 16 "ShiftIslesModel" "trial" "[I") (by decide +kernel)) (fun _ h9 => h9) rfl dX7_command_386 ?_
        refine lv_iconst (v := 1) hx hb dX7_command_389 (by decide) ?_
        refine z_iald hx hb hK hM 1 rfl (v := h 1) (vp_in_nI (n := 1) (by decide) (by decide)) (flt_h (k := 1) (by decide)) dX7_command_390 ?_
        refine lv_iload hx hb dX7_command_391 (lv_at hl 5 rfl) ?_
        refine lv_icmp_ne (tgt := 400) hx hb dX7_command_393 (by decide) (fun c_4 => ?_) (fun c_4 => (by rw [decide_eq_true ((nI_eq (a := o) (b := 0) (by omega) (by decide)).mp c_z1), decide_eq_true ((nI_eq (a := i) (b := 0) (by omega) (by decide)).mp c_z2), c_r, decide_eq_true c_4] at hc; exact Bool.noConfusion hc))
        refine lv_iconst (v := 0) hx hb dX7_command_400 (by decide) ?_
        exact z_zret hx hb hr hlocks dX7_command_401 hM (Nat.le_of_ble_eq_true rfl) (Nat.le_of_ble_eq_true rfl) (by first | exact Or.inl rfl | exact Or.inr rfl | exact zb_01 _) rfl

set_option maxHeartbeats 4000000 in
set_option maxRecDepth 100000 in
theorem c_cmd9y (l : Launch) (G : zC) (a : Nat → Nat) (u : Nat → Int32) (x : Int64) (f : Nat → Int32) (h : Nat → Int32) (b : Nat → Nat → Int32) (P t S e0 : Nat) (hG : zGs h b P t S e0) (o i j : Nat) (ho9 : o < 10) (hi9 : i < 10) (hj9 : j < 10) (hc : h 3 ≤ nI (100 * o + 10 * i + j)) : zMet l G yX7_command wsX7_command rmX7_command [.ref (a 0), .int 9, .int (nI o), .int (nI i), .int (nI j)] ([((a 0), .inr (7, [.int (u 0), .ref (a 1), .int (u 2), .ref (a 3), .ref (a 4), .ref (a 5), .ref (a 6), .int (u 7), .ref (a 8), .ref (a 9), .int (u 10), .int (u 11), .int (u 12), .long x, .int (u 14), .int (u 15)])), ((a 4), .inl (G.2 1, 121, .inl (flt h b))), ((a 5), .inl (G.2 1, 121, .inl f))]) (some (.int 1)) ([((a 0), .inr (7, [.int (u 0), .ref (a 1), .int (u 2), .ref (a 3), .ref (a 4), .ref (a 5), .ref (a 6), .int (u 7), .ref (a 8), .ref (a 9), .int (u 10), .int (u 11), .int (u 12), .long x, .int (u 14), .int (u 15)])), ((a 4), .inl (G.2 1, 121, .inl (flt h b))), ((a 5), .inl (G.2 1, 121, .inl f))]) := by
  refine zMet_of (cc := cX7_command) (maxL := 6) (ret := (some .boolean)) (by decide) rfl (Nat.le_of_ble_eq_true rfl) ?_
  intro p e s m below meth c A ls hx hb hr hml hown hts hK hA hE hlocks hin hM hl
  have hown : s.vm.findClass RX7 = some m.cls := hown
  have hM : zM G A s s.heap [] ([((a 0), .inr (7, [.int (u 0), .ref (a 1), .int (u 2), .ref (a 3), .ref (a 4), .ref (a 5), .ref (a 6), .int (u 7), .ref (a 8), .ref (a 9), .int (u 10), .int (u 11), .int (u 12), .long x, .int (u 14), .int (u 15)])), ((a 4), .inl (G.2 1, 121, .inl (flt h b))), ((a 5), .inl (G.2 1, 121, .inl f))]) := hM
  have hl : lv_has ls 6 [(0, .ref (a 0)), (1, .int 9), (2, .int (nI o)), (3, .int (nI i)), (4, .int (nI j))] := hl
  have hP4 := hG.1.1.2.1
  have h6 := hG.1.1.2.2.2.2.1
  have hS := hG.1.1.2.2.2.2.2.1
  refine lv_iload_n hx hb dX7_command_0 rfl (lv_at hl 2 rfl) ?_
  refine lv_if_ne (tgt := 12) hx hb dX7_command_1 (by decide) (fun c_z1 => ?_) (fun c_z1 => ?_)
  · skip
    refine lv_iconst (v := 0) hx hb dX7_command_12 (by decide) ?_
    refine lv_istore (lv' := [(5, .int 0), (0, .ref (a 0)), (1, .int 9), (2, .int (nI o)), (3, .int (nI i)), (4, .int (nI j))]) hx hb dX7_command_13 hl (by decide) rfl (fun ls hl => ?_)
    refine lv_iload_n hx hb dX7_command_15 rfl (lv_at hl 2 rfl) ?_
    refine lv_tableIn (off := 386) (tgt := 402) hx hb dX7_command_16 (by decide) (by decide) rfl (by decide) ?_
    refine lv_aload_n hx hb dX7_command_402 rfl (lv_at hl 1 rfl) ?_
    refine z_get (ci := 7) (v := .ref (a 4)) (C := RX7) (T := TX7) (N := 16) hx hb hts (by decide +kernel) hown hK hM 0 rfl rfl 4 (by decide) (hts (.fieldLink RX7 16 "ShiftIslesModel" "trial" "[I") (by decide +kernel)) (fun _ h9 => h9) rfl dX7_command_403 ?_
    refine lv_iconst (v := 3) hx hb dX7_command_406 (by decide) ?_
    refine z_iald hx hb hK hM 1 rfl (v := h 3) (vp_in_nI (n := 3) (by decide) (by decide)) (flt_h (k := 3) (by decide)) dX7_command_407 ?_
    refine lv_bipush (v := 100) hx hb dX7_command_408 (by decide) ?_
    refine lv_iload_n hx hb dX7_command_410 rfl (lv_at hl 3 rfl) ?_
    refine lv_imul hx hb dX7_command_411 ?_
    refine z_topi (y := nI (100 * o)) (pk_mul 100 o) ?_
    refine lv_bipush (v := nI 10) hx hb dX7_command_412 (by decide) ?_
    refine lv_iload_n hx hb dX7_command_414 rfl (lv_at hl 4 rfl) ?_
    refine lv_imul hx hb dX7_command_415 ?_
    refine z_topi (y := nI (10 * i)) (pk_mul 10 i) ?_
    refine lv_iadd hx hb dX7_command_416 ?_
    refine z_topi (y := nI ((100 * o) + (10 * i))) (nI_add (100 * o) (10 * i)) ?_
    refine lv_iload hx hb dX7_command_417 (lv_at hl 5 rfl) ?_
    refine lv_iadd hx hb dX7_command_419 ?_
    refine z_topi (y := nI (((100 * o) + (10 * i)) + j)) (nI_add ((100 * o) + (10 * i)) j) ?_
    refine lv_icmp_gt (tgt := 427) hx hb dX7_command_420 (by decide) (fun c_1 => absurd hc (Int32.not_le.mpr c_1)) (fun c_1 => ?_)
    refine lv_iconst (v := 1) hx hb dX7_command_423 (by decide) ?_
    refine lv_goto (tgt := 428) hx hb dX7_command_424 (by decide) ?_
    exact z_zret hx hb hr hlocks dX7_command_428 hM (Nat.le_of_ble_eq_true rfl) (Nat.le_of_ble_eq_true rfl) (by first | exact Or.inl rfl | exact Or.inr rfl | exact zb_01 _) rfl
  · skip
    refine lv_iload_n hx hb dX7_command_4 rfl (lv_at hl 3 rfl) ?_
    refine lv_if_ne (tgt := 12) hx hb dX7_command_5 (by decide) (fun c_z2 => ?_) (fun c_z2 => ?_)
    · skip
      refine lv_iconst (v := 0) hx hb dX7_command_12 (by decide) ?_
      refine lv_istore (lv' := [(5, .int 0), (0, .ref (a 0)), (1, .int 9), (2, .int (nI o)), (3, .int (nI i)), (4, .int (nI j))]) hx hb dX7_command_13 hl (by decide) rfl (fun ls hl => ?_)
      refine lv_iload_n hx hb dX7_command_15 rfl (lv_at hl 2 rfl) ?_
      refine lv_tableIn (off := 386) (tgt := 402) hx hb dX7_command_16 (by decide) (by decide) rfl (by decide) ?_
      refine lv_aload_n hx hb dX7_command_402 rfl (lv_at hl 1 rfl) ?_
      refine z_get (ci := 7) (v := .ref (a 4)) (C := RX7) (T := TX7) (N := 16) hx hb hts (by decide +kernel) hown hK hM 0 rfl rfl 4 (by decide) (hts (.fieldLink RX7 16 "ShiftIslesModel" "trial" "[I") (by decide +kernel)) (fun _ h9 => h9) rfl dX7_command_403 ?_
      refine lv_iconst (v := 3) hx hb dX7_command_406 (by decide) ?_
      refine z_iald hx hb hK hM 1 rfl (v := h 3) (vp_in_nI (n := 3) (by decide) (by decide)) (flt_h (k := 3) (by decide)) dX7_command_407 ?_
      refine lv_bipush (v := 100) hx hb dX7_command_408 (by decide) ?_
      refine lv_iload_n hx hb dX7_command_410 rfl (lv_at hl 3 rfl) ?_
      refine lv_imul hx hb dX7_command_411 ?_
      refine z_topi (y := nI (100 * o)) (pk_mul 100 o) ?_
      refine lv_bipush (v := nI 10) hx hb dX7_command_412 (by decide) ?_
      refine lv_iload_n hx hb dX7_command_414 rfl (lv_at hl 4 rfl) ?_
      refine lv_imul hx hb dX7_command_415 ?_
      refine z_topi (y := nI (10 * i)) (pk_mul 10 i) ?_
      refine lv_iadd hx hb dX7_command_416 ?_
      refine z_topi (y := nI ((100 * o) + (10 * i))) (nI_add (100 * o) (10 * i)) ?_
      refine lv_iload hx hb dX7_command_417 (lv_at hl 5 rfl) ?_
      refine lv_iadd hx hb dX7_command_419 ?_
      refine z_topi (y := nI (((100 * o) + (10 * i)) + j)) (nI_add ((100 * o) + (10 * i)) j) ?_
      refine lv_icmp_gt (tgt := 427) hx hb dX7_command_420 (by decide) (fun c_2 => absurd hc (Int32.not_le.mpr c_2)) (fun c_2 => ?_)
      refine lv_iconst (v := 1) hx hb dX7_command_423 (by decide) ?_
      refine lv_goto (tgt := 428) hx hb dX7_command_424 (by decide) ?_
      exact z_zret hx hb hr hlocks dX7_command_428 hM (Nat.le_of_ble_eq_true rfl) (Nat.le_of_ble_eq_true rfl) (by first | exact Or.inl rfl | exact Or.inr rfl | exact zb_01 _) rfl
    · skip
      refine lv_iconst (v := 1) hx hb dX7_command_8 (by decide) ?_
      refine lv_goto (tgt := 13) hx hb dX7_command_9 (by decide) ?_
      refine lv_istore (lv' := [(5, .int 1), (0, .ref (a 0)), (1, .int 9), (2, .int (nI o)), (3, .int (nI i)), (4, .int (nI j))]) hx hb dX7_command_13 hl (by decide) rfl (fun ls hl => ?_)
      refine lv_iload_n hx hb dX7_command_15 rfl (lv_at hl 2 rfl) ?_
      refine lv_tableIn (off := 386) (tgt := 402) hx hb dX7_command_16 (by decide) (by decide) rfl (by decide) ?_
      refine lv_aload_n hx hb dX7_command_402 rfl (lv_at hl 1 rfl) ?_
      refine z_get (ci := 7) (v := .ref (a 4)) (C := RX7) (T := TX7) (N := 16) hx hb hts (by decide +kernel) hown hK hM 0 rfl rfl 4 (by decide) (hts (.fieldLink RX7 16 "ShiftIslesModel" "trial" "[I") (by decide +kernel)) (fun _ h9 => h9) rfl dX7_command_403 ?_
      refine lv_iconst (v := 3) hx hb dX7_command_406 (by decide) ?_
      refine z_iald hx hb hK hM 1 rfl (v := h 3) (vp_in_nI (n := 3) (by decide) (by decide)) (flt_h (k := 3) (by decide)) dX7_command_407 ?_
      refine lv_bipush (v := 100) hx hb dX7_command_408 (by decide) ?_
      refine lv_iload_n hx hb dX7_command_410 rfl (lv_at hl 3 rfl) ?_
      refine lv_imul hx hb dX7_command_411 ?_
      refine z_topi (y := nI (100 * o)) (pk_mul 100 o) ?_
      refine lv_bipush (v := nI 10) hx hb dX7_command_412 (by decide) ?_
      refine lv_iload_n hx hb dX7_command_414 rfl (lv_at hl 4 rfl) ?_
      refine lv_imul hx hb dX7_command_415 ?_
      refine z_topi (y := nI (10 * i)) (pk_mul 10 i) ?_
      refine lv_iadd hx hb dX7_command_416 ?_
      refine z_topi (y := nI ((100 * o) + (10 * i))) (nI_add (100 * o) (10 * i)) ?_
      refine lv_iload hx hb dX7_command_417 (lv_at hl 5 rfl) ?_
      refine lv_iadd hx hb dX7_command_419 ?_
      refine z_topi (y := nI (((100 * o) + (10 * i)) + j)) (nI_add ((100 * o) + (10 * i)) j) ?_
      refine lv_icmp_gt (tgt := 427) hx hb dX7_command_420 (by decide) (fun c_3 => absurd hc (Int32.not_le.mpr c_3)) (fun c_3 => ?_)
      refine lv_iconst (v := 1) hx hb dX7_command_423 (by decide) ?_
      refine lv_goto (tgt := 428) hx hb dX7_command_424 (by decide) ?_
      exact z_zret hx hb hr hlocks dX7_command_428 hM (Nat.le_of_ble_eq_true rfl) (Nat.le_of_ble_eq_true rfl) (by first | exact Or.inl rfl | exact Or.inr rfl | exact zb_01 _) rfl

set_option maxHeartbeats 4000000 in
set_option maxRecDepth 100000 in
theorem c_cmd9n (l : Launch) (G : zC) (a : Nat → Nat) (u : Nat → Int32) (x : Int64) (f : Nat → Int32) (h : Nat → Int32) (b : Nat → Nat → Int32) (P t S e0 : Nat) (hG : zGs h b P t S e0) (o i j : Nat) (ho9 : o < 10) (hi9 : i < 10) (hj9 : j < 10) (hc : ¬ h 3 ≤ nI (100 * o + 10 * i + j)) : zMet l G yX7_command wsX7_command rmX7_command [.ref (a 0), .int 9, .int (nI o), .int (nI i), .int (nI j)] ([((a 0), .inr (7, [.int (u 0), .ref (a 1), .int (u 2), .ref (a 3), .ref (a 4), .ref (a 5), .ref (a 6), .int (u 7), .ref (a 8), .ref (a 9), .int (u 10), .int (u 11), .int (u 12), .long x, .int (u 14), .int (u 15)])), ((a 4), .inl (G.2 1, 121, .inl (flt h b))), ((a 5), .inl (G.2 1, 121, .inl f))]) (some (.int 0)) ([((a 0), .inr (7, [.int (u 0), .ref (a 1), .int (u 2), .ref (a 3), .ref (a 4), .ref (a 5), .ref (a 6), .int (u 7), .ref (a 8), .ref (a 9), .int (u 10), .int (u 11), .int (u 12), .long x, .int (u 14), .int (u 15)])), ((a 4), .inl (G.2 1, 121, .inl (flt h b))), ((a 5), .inl (G.2 1, 121, .inl f))]) := by
  refine zMet_of (cc := cX7_command) (maxL := 6) (ret := (some .boolean)) (by decide) rfl (Nat.le_of_ble_eq_true rfl) ?_
  intro p e s m below meth c A ls hx hb hr hml hown hts hK hA hE hlocks hin hM hl
  have hown : s.vm.findClass RX7 = some m.cls := hown
  have hM : zM G A s s.heap [] ([((a 0), .inr (7, [.int (u 0), .ref (a 1), .int (u 2), .ref (a 3), .ref (a 4), .ref (a 5), .ref (a 6), .int (u 7), .ref (a 8), .ref (a 9), .int (u 10), .int (u 11), .int (u 12), .long x, .int (u 14), .int (u 15)])), ((a 4), .inl (G.2 1, 121, .inl (flt h b))), ((a 5), .inl (G.2 1, 121, .inl f))]) := hM
  have hl : lv_has ls 6 [(0, .ref (a 0)), (1, .int 9), (2, .int (nI o)), (3, .int (nI i)), (4, .int (nI j))] := hl
  have hP4 := hG.1.1.2.1
  have h6 := hG.1.1.2.2.2.2.1
  have hS := hG.1.1.2.2.2.2.2.1
  refine lv_iload_n hx hb dX7_command_0 rfl (lv_at hl 2 rfl) ?_
  refine lv_if_ne (tgt := 12) hx hb dX7_command_1 (by decide) (fun c_z1 => ?_) (fun c_z1 => ?_)
  · skip
    refine lv_iconst (v := 0) hx hb dX7_command_12 (by decide) ?_
    refine lv_istore (lv' := [(5, .int 0), (0, .ref (a 0)), (1, .int 9), (2, .int (nI o)), (3, .int (nI i)), (4, .int (nI j))]) hx hb dX7_command_13 hl (by decide) rfl (fun ls hl => ?_)
    refine lv_iload_n hx hb dX7_command_15 rfl (lv_at hl 2 rfl) ?_
    refine lv_tableIn (off := 386) (tgt := 402) hx hb dX7_command_16 (by decide) (by decide) rfl (by decide) ?_
    refine lv_aload_n hx hb dX7_command_402 rfl (lv_at hl 1 rfl) ?_
    refine z_get (ci := 7) (v := .ref (a 4)) (C := RX7) (T := TX7) (N := 16) hx hb hts (by decide +kernel) hown hK hM 0 rfl rfl 4 (by decide) (hts (.fieldLink RX7 16 "ShiftIslesModel" "trial" "[I") (by decide +kernel)) (fun _ h9 => h9) rfl dX7_command_403 ?_
    refine lv_iconst (v := 3) hx hb dX7_command_406 (by decide) ?_
    refine z_iald hx hb hK hM 1 rfl (v := h 3) (vp_in_nI (n := 3) (by decide) (by decide)) (flt_h (k := 3) (by decide)) dX7_command_407 ?_
    refine lv_bipush (v := 100) hx hb dX7_command_408 (by decide) ?_
    refine lv_iload_n hx hb dX7_command_410 rfl (lv_at hl 3 rfl) ?_
    refine lv_imul hx hb dX7_command_411 ?_
    refine z_topi (y := nI (100 * o)) (pk_mul 100 o) ?_
    refine lv_bipush (v := nI 10) hx hb dX7_command_412 (by decide) ?_
    refine lv_iload_n hx hb dX7_command_414 rfl (lv_at hl 4 rfl) ?_
    refine lv_imul hx hb dX7_command_415 ?_
    refine z_topi (y := nI (10 * i)) (pk_mul 10 i) ?_
    refine lv_iadd hx hb dX7_command_416 ?_
    refine z_topi (y := nI ((100 * o) + (10 * i))) (nI_add (100 * o) (10 * i)) ?_
    refine lv_iload hx hb dX7_command_417 (lv_at hl 5 rfl) ?_
    refine lv_iadd hx hb dX7_command_419 ?_
    refine z_topi (y := nI (((100 * o) + (10 * i)) + j)) (nI_add ((100 * o) + (10 * i)) j) ?_
    refine lv_icmp_gt (tgt := 427) hx hb dX7_command_420 (by decide) (fun c_1 => ?_) (fun c_1 => absurd (Int32.not_lt.mp c_1) hc)
    refine lv_iconst (v := 0) hx hb dX7_command_427 (by decide) ?_
    exact z_zret hx hb hr hlocks dX7_command_428 hM (Nat.le_of_ble_eq_true rfl) (Nat.le_of_ble_eq_true rfl) (by first | exact Or.inl rfl | exact Or.inr rfl | exact zb_01 _) rfl
  · skip
    refine lv_iload_n hx hb dX7_command_4 rfl (lv_at hl 3 rfl) ?_
    refine lv_if_ne (tgt := 12) hx hb dX7_command_5 (by decide) (fun c_z2 => ?_) (fun c_z2 => ?_)
    · skip
      refine lv_iconst (v := 0) hx hb dX7_command_12 (by decide) ?_
      refine lv_istore (lv' := [(5, .int 0), (0, .ref (a 0)), (1, .int 9), (2, .int (nI o)), (3, .int (nI i)), (4, .int (nI j))]) hx hb dX7_command_13 hl (by decide) rfl (fun ls hl => ?_)
      refine lv_iload_n hx hb dX7_command_15 rfl (lv_at hl 2 rfl) ?_
      refine lv_tableIn (off := 386) (tgt := 402) hx hb dX7_command_16 (by decide) (by decide) rfl (by decide) ?_
      refine lv_aload_n hx hb dX7_command_402 rfl (lv_at hl 1 rfl) ?_
      refine z_get (ci := 7) (v := .ref (a 4)) (C := RX7) (T := TX7) (N := 16) hx hb hts (by decide +kernel) hown hK hM 0 rfl rfl 4 (by decide) (hts (.fieldLink RX7 16 "ShiftIslesModel" "trial" "[I") (by decide +kernel)) (fun _ h9 => h9) rfl dX7_command_403 ?_
      refine lv_iconst (v := 3) hx hb dX7_command_406 (by decide) ?_
      refine z_iald hx hb hK hM 1 rfl (v := h 3) (vp_in_nI (n := 3) (by decide) (by decide)) (flt_h (k := 3) (by decide)) dX7_command_407 ?_
      refine lv_bipush (v := 100) hx hb dX7_command_408 (by decide) ?_
      refine lv_iload_n hx hb dX7_command_410 rfl (lv_at hl 3 rfl) ?_
      refine lv_imul hx hb dX7_command_411 ?_
      refine z_topi (y := nI (100 * o)) (pk_mul 100 o) ?_
      refine lv_bipush (v := nI 10) hx hb dX7_command_412 (by decide) ?_
      refine lv_iload_n hx hb dX7_command_414 rfl (lv_at hl 4 rfl) ?_
      refine lv_imul hx hb dX7_command_415 ?_
      refine z_topi (y := nI (10 * i)) (pk_mul 10 i) ?_
      refine lv_iadd hx hb dX7_command_416 ?_
      refine z_topi (y := nI ((100 * o) + (10 * i))) (nI_add (100 * o) (10 * i)) ?_
      refine lv_iload hx hb dX7_command_417 (lv_at hl 5 rfl) ?_
      refine lv_iadd hx hb dX7_command_419 ?_
      refine z_topi (y := nI (((100 * o) + (10 * i)) + j)) (nI_add ((100 * o) + (10 * i)) j) ?_
      refine lv_icmp_gt (tgt := 427) hx hb dX7_command_420 (by decide) (fun c_2 => ?_) (fun c_2 => absurd (Int32.not_lt.mp c_2) hc)
      refine lv_iconst (v := 0) hx hb dX7_command_427 (by decide) ?_
      exact z_zret hx hb hr hlocks dX7_command_428 hM (Nat.le_of_ble_eq_true rfl) (Nat.le_of_ble_eq_true rfl) (by first | exact Or.inl rfl | exact Or.inr rfl | exact zb_01 _) rfl
    · skip
      refine lv_iconst (v := 1) hx hb dX7_command_8 (by decide) ?_
      refine lv_goto (tgt := 13) hx hb dX7_command_9 (by decide) ?_
      refine lv_istore (lv' := [(5, .int 1), (0, .ref (a 0)), (1, .int 9), (2, .int (nI o)), (3, .int (nI i)), (4, .int (nI j))]) hx hb dX7_command_13 hl (by decide) rfl (fun ls hl => ?_)
      refine lv_iload_n hx hb dX7_command_15 rfl (lv_at hl 2 rfl) ?_
      refine lv_tableIn (off := 386) (tgt := 402) hx hb dX7_command_16 (by decide) (by decide) rfl (by decide) ?_
      refine lv_aload_n hx hb dX7_command_402 rfl (lv_at hl 1 rfl) ?_
      refine z_get (ci := 7) (v := .ref (a 4)) (C := RX7) (T := TX7) (N := 16) hx hb hts (by decide +kernel) hown hK hM 0 rfl rfl 4 (by decide) (hts (.fieldLink RX7 16 "ShiftIslesModel" "trial" "[I") (by decide +kernel)) (fun _ h9 => h9) rfl dX7_command_403 ?_
      refine lv_iconst (v := 3) hx hb dX7_command_406 (by decide) ?_
      refine z_iald hx hb hK hM 1 rfl (v := h 3) (vp_in_nI (n := 3) (by decide) (by decide)) (flt_h (k := 3) (by decide)) dX7_command_407 ?_
      refine lv_bipush (v := 100) hx hb dX7_command_408 (by decide) ?_
      refine lv_iload_n hx hb dX7_command_410 rfl (lv_at hl 3 rfl) ?_
      refine lv_imul hx hb dX7_command_411 ?_
      refine z_topi (y := nI (100 * o)) (pk_mul 100 o) ?_
      refine lv_bipush (v := nI 10) hx hb dX7_command_412 (by decide) ?_
      refine lv_iload_n hx hb dX7_command_414 rfl (lv_at hl 4 rfl) ?_
      refine lv_imul hx hb dX7_command_415 ?_
      refine z_topi (y := nI (10 * i)) (pk_mul 10 i) ?_
      refine lv_iadd hx hb dX7_command_416 ?_
      refine z_topi (y := nI ((100 * o) + (10 * i))) (nI_add (100 * o) (10 * i)) ?_
      refine lv_iload hx hb dX7_command_417 (lv_at hl 5 rfl) ?_
      refine lv_iadd hx hb dX7_command_419 ?_
      refine z_topi (y := nI (((100 * o) + (10 * i)) + j)) (nI_add ((100 * o) + (10 * i)) j) ?_
      refine lv_icmp_gt (tgt := 427) hx hb dX7_command_420 (by decide) (fun c_3 => ?_) (fun c_3 => absurd (Int32.not_lt.mp c_3) hc)
      refine lv_iconst (v := 0) hx hb dX7_command_427 (by decide) ?_
      exact z_zret hx hb hr hlocks dX7_command_428 hM (Nat.le_of_ble_eq_true rfl) (Nat.le_of_ble_eq_true rfl) (by first | exact Or.inl rfl | exact Or.inr rfl | exact zb_01 _) rfl

set_option maxHeartbeats 4000000 in
set_option maxRecDepth 100000 in
theorem c_cmd0 (l : Launch) (G : zC) (a : Nat → Nat) (u : Nat → Int32) (x : Int64) (f : Nat → Int32) (h : Nat → Int32) (b : Nat → Nat → Int32) (P t S e0 : Nat) (hG : zGs h b P t S e0) (o i j : Nat) (ho9 : o < 10) (hi9 : i < 10) (hj9 : j < 10) : zMet l G yX7_command wsX7_command rmX7_command [.ref (a 0), .int 0, .int (nI o), .int (nI i), .int (nI j)] ([((a 0), .inr (7, [.int (u 0), .ref (a 1), .int (u 2), .ref (a 3), .ref (a 4), .ref (a 5), .ref (a 6), .int (u 7), .ref (a 8), .ref (a 9), .int (u 10), .int (u 11), .int (u 12), .long x, .int (u 14), .int (u 15)])), ((a 4), .inl (G.2 1, 121, .inl (flt h b))), ((a 5), .inl (G.2 1, 121, .inl f))]) (some (.int 0)) ([((a 0), .inr (7, [.int (u 0), .ref (a 1), .int (u 2), .ref (a 3), .ref (a 4), .ref (a 5), .ref (a 6), .int (u 7), .ref (a 8), .ref (a 9), .int (u 10), .int (u 11), .int (u 12), .long x, .int (u 14), .int (u 15)])), ((a 4), .inl (G.2 1, 121, .inl (flt h b))), ((a 5), .inl (G.2 1, 121, .inl f))]) := by
  refine zMet_of (cc := cX7_command) (maxL := 6) (ret := (some .boolean)) (by decide) rfl (Nat.le_of_ble_eq_true rfl) ?_
  intro p e s m below meth c A ls hx hb hr hml hown hts hK hA hE hlocks hin hM hl
  have hown : s.vm.findClass RX7 = some m.cls := hown
  have hM : zM G A s s.heap [] ([((a 0), .inr (7, [.int (u 0), .ref (a 1), .int (u 2), .ref (a 3), .ref (a 4), .ref (a 5), .ref (a 6), .int (u 7), .ref (a 8), .ref (a 9), .int (u 10), .int (u 11), .int (u 12), .long x, .int (u 14), .int (u 15)])), ((a 4), .inl (G.2 1, 121, .inl (flt h b))), ((a 5), .inl (G.2 1, 121, .inl f))]) := hM
  have hl : lv_has ls 6 [(0, .ref (a 0)), (1, .int 0), (2, .int (nI o)), (3, .int (nI i)), (4, .int (nI j))] := hl
  have hP4 := hG.1.1.2.1
  have h6 := hG.1.1.2.2.2.2.1
  have hS := hG.1.1.2.2.2.2.2.1
  refine lv_iload_n hx hb dX7_command_0 rfl (lv_at hl 2 rfl) ?_
  refine lv_if_ne (tgt := 12) hx hb dX7_command_1 (by decide) (fun c_z1 => ?_) (fun c_z1 => ?_)
  · skip
    refine lv_iconst (v := 0) hx hb dX7_command_12 (by decide) ?_
    refine lv_istore (lv' := [(5, .int 0), (0, .ref (a 0)), (1, .int 0), (2, .int (nI o)), (3, .int (nI i)), (4, .int (nI j))]) hx hb dX7_command_13 hl (by decide) rfl (fun ls hl => ?_)
    refine lv_iload_n hx hb dX7_command_15 rfl (lv_at hl 2 rfl) ?_
    refine lv_tableOut (tgt := 429) hx hb dX7_command_16 (Or.inl (by decide)) (by decide) ?_
    refine lv_iconst (v := 0) hx hb dX7_command_429 (by decide) ?_
    exact z_zret hx hb hr hlocks dX7_command_430 hM (Nat.le_of_ble_eq_true rfl) (Nat.le_of_ble_eq_true rfl) (by first | exact Or.inl rfl | exact Or.inr rfl | exact zb_01 _) rfl
  · skip
    refine lv_iload_n hx hb dX7_command_4 rfl (lv_at hl 3 rfl) ?_
    refine lv_if_ne (tgt := 12) hx hb dX7_command_5 (by decide) (fun c_z2 => ?_) (fun c_z2 => ?_)
    · skip
      refine lv_iconst (v := 0) hx hb dX7_command_12 (by decide) ?_
      refine lv_istore (lv' := [(5, .int 0), (0, .ref (a 0)), (1, .int 0), (2, .int (nI o)), (3, .int (nI i)), (4, .int (nI j))]) hx hb dX7_command_13 hl (by decide) rfl (fun ls hl => ?_)
      refine lv_iload_n hx hb dX7_command_15 rfl (lv_at hl 2 rfl) ?_
      refine lv_tableOut (tgt := 429) hx hb dX7_command_16 (Or.inl (by decide)) (by decide) ?_
      refine lv_iconst (v := 0) hx hb dX7_command_429 (by decide) ?_
      exact z_zret hx hb hr hlocks dX7_command_430 hM (Nat.le_of_ble_eq_true rfl) (Nat.le_of_ble_eq_true rfl) (by first | exact Or.inl rfl | exact Or.inr rfl | exact zb_01 _) rfl
    · skip
      refine lv_iconst (v := 1) hx hb dX7_command_8 (by decide) ?_
      refine lv_goto (tgt := 13) hx hb dX7_command_9 (by decide) ?_
      refine lv_istore (lv' := [(5, .int 1), (0, .ref (a 0)), (1, .int 0), (2, .int (nI o)), (3, .int (nI i)), (4, .int (nI j))]) hx hb dX7_command_13 hl (by decide) rfl (fun ls hl => ?_)
      refine lv_iload_n hx hb dX7_command_15 rfl (lv_at hl 2 rfl) ?_
      refine lv_tableOut (tgt := 429) hx hb dX7_command_16 (Or.inl (by decide)) (by decide) ?_
      refine lv_iconst (v := 0) hx hb dX7_command_429 (by decide) ?_
      exact z_zret hx hb hr hlocks dX7_command_430 hM (Nat.le_of_ble_eq_true rfl) (Nat.le_of_ble_eq_true rfl) (by first | exact Or.inl rfl | exact Or.inr rfl | exact zb_01 _) rfl
set_option maxHeartbeats 4000000 in
theorem c_command (l : Launch) (G : zC) (a : Nat → Nat) (u : Nat → Int32) (x : Int64) (f : Nat → Int32) (h : Nat → Int32) (b : Nat → Nat → Int32) (P t S e0 : Nat) (hG : zGs h b P t S e0) (o i j : Nat) (ho9 : o < 10) (hi9 : i < 10) (hj9 : j < 10) (w : Nat) (hw9 : w < 10) : zMet l G yX7_command wsX7_command rmX7_command [.ref (a 0), .int (nI w), .int (nI o), .int (nI i), .int (nI j)] ([((a 0), .inr (7, [.int (u 0), .ref (a 1), .int (u 2), .ref (a 3), .ref (a 4), .ref (a 5), .ref (a 6), .int (u 7), .ref (a 8), .ref (a 9), .int (u 10), .int (u 11), .int (u 12), .long x, .int (u 14), .int (u 15)])), ((a 4), .inl (G.2 1, 121, .inl (flt h b))), ((a 5), .inl (G.2 1, 121, .inl f))]) (some (.int (zb (zCmdB w o i j (h, b))))) ([((a 0), .inr (7, [.int (u 0), .ref (a 1), .int (u 2), .ref (a 3), .ref (a 4), .ref (a 5), .ref (a 6), .int (u 7), .ref (a 8), .ref (a 9), .int ((zCmdW w o i j ((h, b), u 10, u 11, u 12, f)).2.1), .int ((zCmdW w o i j ((h, b), u 10, u 11, u 12, f)).2.2.1), .int ((zCmdW w o i j ((h, b), u 10, u 11, u 12, f)).2.2.2.1), .long x, .int (u 14), .int (u 15)])), ((a 4), .inl (G.2 1, 121, .inl (flt (zCmdW w o i j ((h, b), u 10, u 11, u 12, f)).1.1 (zCmdW w o i j ((h, b), u 10, u 11, u 12, f)).1.2))), ((a 5), .inl (G.2 1, 121, .inl ((zCmdW w o i j ((h, b), u 10, u 11, u 12, f)).2.2.2.2)))]) := by
  have hw10 : w = 0 ∨ w = 1 ∨ w = 2 ∨ w = 3 ∨ w = 4 ∨ w = 5 ∨ w = 6 ∨ w = 7 ∨ w = 8 ∨ w = 9 := by omega
  have hV := hG.1
  rcases hw10 with rfl | rfl | rfl | rfl | rfl | rfl | rfl | rfl | rfl | rfl
  · rw [zCmdW_n (t := ((h, b), u 10, u 11, u 12, f)) (zCmdB_0 (h := h) (b := b) o i j), zCmdB_0 (h := h) (b := b) o i j]
    exact c_cmd0 l G a u x f h b P t S e0 hG o i j ho9 hi9 hj9
  · by_cases hq : zCmdB 1 o i j (h, b) = true
    · rw [zCmdW_y (t := ((h, b), u 10, u 11, u 12, f)) hq, hq]
      rw [zCmdB_1 hV] at hq
      rw [show zCmdU 1 o i j ((h, b), u 10, u 11, u 12, f) = (zShS o i (nI j) (h, b), u 10, u 11, u 12, f) from if_pos rfl]
      exact c_cmd1y l G a u x f h b P t S e0 hG o i j ho9 hi9 hj9 hq
    · have hq : zCmdB 1 o i j (h, b) = false := Bool.eq_false_iff.mpr hq
      rw [zCmdW_n (t := ((h, b), u 10, u 11, u 12, f)) hq, hq]
      rw [zCmdB_1 hV] at hq
      exact c_cmd1n l G a u x f h b P t S e0 hG o i j ho9 hi9 hj9 hq
  · by_cases hq : zCmdB 2 o i j (h, b) = true
    · rw [zCmdW_y (t := ((h, b), u 10, u 11, u 12, f)) hq, hq]
      rw [zCmdB_2 hV] at hq
      simp only [Bool.and_eq_true, decide_eq_true_eq] at hq
      obtain ⟨⟨rfl, rfl⟩, hq⟩ := hq
      rw [show zCmdU 2 0 0 j ((h, b), u 10, u 11, u 12, f) = (zGoS j (h, b), u 10, u 11, u 12, f) from (if_neg (by decide)).trans (if_pos rfl), zGoS_e hV]
      exact c_cmd2y l G a u x f h b P t S e0 hG 0 0 j ho9 hi9 hj9 hq
    · have hq : zCmdB 2 o i j (h, b) = false := Bool.eq_false_iff.mpr hq
      rw [zCmdW_n (t := ((h, b), u 10, u 11, u 12, f)) hq, hq]
      rw [zCmdB_2 hV] at hq
      exact c_cmd2n l G a u x f h b P t S e0 hG o i j ho9 hi9 hj9 hq
  · by_cases hq : zCmdB 3 o i j (h, b) = true
    · rw [zCmdW_y (t := ((h, b), u 10, u 11, u 12, f)) hq, hq]
      rw [zCmdB_3 hV] at hq
      simp only [Bool.and_eq_true, decide_eq_true_eq] at hq
      obtain ⟨⟨⟨rfl, rfl⟩, hq2⟩, hq⟩ := hq
      rw [show zCmdU 3 0 0 j ((h, b), u 10, u 11, u 12, f) = (zLkS (nI j) (h, b), u 10, u 11, u 12, f) from (if_neg (by decide)).trans ((if_neg (by decide)).trans (if_pos rfl)), zLkS_e hV]
      exact c_cmd3y l G a u x f h b P t S e0 hG 0 0 j ho9 hi9 hj9 hq2 hq
    · have hq : zCmdB 3 o i j (h, b) = false := Bool.eq_false_iff.mpr hq
      rw [zCmdW_n (t := ((h, b), u 10, u 11, u 12, f)) hq, hq]
      rw [zCmdB_3 hV] at hq
      exact c_cmd3n l G a u x f h b P t S e0 hG o i j ho9 hi9 hj9 hq
  · by_cases hq : zCmdB 4 o i j (h, b) = true
    · rw [zCmdW_y (t := ((h, b), u 10, u 11, u 12, f)) hq, hq]
      rw [zCmdB_4 hV] at hq
      simp only [Bool.and_eq_true, decide_eq_true_eq] at hq
      obtain ⟨⟨⟨rfl, rfl⟩, rfl⟩, hq⟩ := hq
      rw [show zCmdU 4 0 0 0 ((h, b), u 10, u 11, u 12, f) = zQu ((h, b), u 10, u 11, u 12, f) from (if_neg (by decide)).trans ((if_neg (by decide)).trans ((if_neg (by decide)).trans (if_pos rfl))), zQu_e hV zZ]
      exact c_cmd4y l G a u x f h b P t S e0 hG 0 0 0 ho9 hi9 hj9 hq
    · have hq : zCmdB 4 o i j (h, b) = false := Bool.eq_false_iff.mpr hq
      rw [zCmdW_n (t := ((h, b), u 10, u 11, u 12, f)) hq, hq]
      rw [zCmdB_4 hV] at hq
      exact c_cmd4n l G a u x f h b P t S e0 hG o i j ho9 hi9 hj9 hq
  · by_cases hq : zCmdB 5 o i j (h, b) = true
    · rw [zCmdW_y (t := ((h, b), u 10, u 11, u 12, f)) hq, hq]
      rw [zCmdB_5 hV] at hq
      simp only [Bool.and_eq_true, decide_eq_true_eq] at hq
      obtain ⟨rfl, hq⟩ := hq
      rw [show zCmdU 5 o i 0 ((h, b), u 10, u 11, u 12, f) = ((h, b), u 10, u 11, u 12, f) from (if_neg (by decide)).trans ((if_neg (by decide)).trans ((if_neg (by decide)).trans (if_neg (by decide))))]
      exact c_cmd5y l G a u x f h b P t S e0 hG o i 0 ho9 hi9 hj9 hq
    · have hq : zCmdB 5 o i j (h, b) = false := Bool.eq_false_iff.mpr hq
      rw [zCmdW_n (t := ((h, b), u 10, u 11, u 12, f)) hq, hq]
      rw [zCmdB_5 hV] at hq
      exact c_cmd5n l G a u x f h b P t S e0 hG o i j ho9 hi9 hj9 hq
  · by_cases hq : zCmdB 6 o i j (h, b) = true
    · rw [zCmdW_y (t := ((h, b), u 10, u 11, u 12, f)) hq, hq]
      rw [zCmdB_6 hV] at hq
      simp only [Bool.and_eq_true, decide_eq_true_eq] at hq
      obtain ⟨⟨rfl, hq2⟩, hq⟩ := hq
      rw [show zCmdU 6 o 0 j ((h, b), u 10, u 11, u 12, f) = ((h, b), u 10, u 11, u 12, f) from (if_neg (by decide)).trans ((if_neg (by decide)).trans ((if_neg (by decide)).trans (if_neg (by decide))))]
      exact c_cmd6y l G a u x f h b P t S e0 hG o 0 j ho9 hi9 hj9 hq2 hq
    · have hq : zCmdB 6 o i j (h, b) = false := Bool.eq_false_iff.mpr hq
      rw [zCmdW_n (t := ((h, b), u 10, u 11, u 12, f)) hq, hq]
      rw [zCmdB_6 hV] at hq
      exact c_cmd6n l G a u x f h b P t S e0 hG o i j ho9 hi9 hj9 hq
  · by_cases hq : zCmdB 7 o i j (h, b) = true
    · rw [zCmdW_y (t := ((h, b), u 10, u 11, u 12, f)) hq, hq]
      rw [zCmdB_7 hV] at hq
      simp only [Bool.and_eq_true, decide_eq_true_eq] at hq
      obtain ⟨⟨⟨rfl, hq2⟩, hq3⟩, hq⟩ := hq
      rw [show zCmdU 7 o i 0 ((h, b), u 10, u 11, u 12, f) = ((h, b), u 10, u 11, u 12, f) from (if_neg (by decide)).trans ((if_neg (by decide)).trans ((if_neg (by decide)).trans (if_neg (by decide))))]
      exact c_cmd7y l G a u x f h b P t S e0 hG o i 0 ho9 hi9 hj9 hq2 hq3 hq
    · have hq : zCmdB 7 o i j (h, b) = false := Bool.eq_false_iff.mpr hq
      rw [zCmdW_n (t := ((h, b), u 10, u 11, u 12, f)) hq, hq]
      rw [zCmdB_7 hV] at hq
      exact c_cmd7n l G a u x f h b P t S e0 hG o i j ho9 hi9 hj9 hq
  · by_cases hq : zCmdB 8 o i j (h, b) = true
    · rw [zCmdW_y (t := ((h, b), u 10, u 11, u 12, f)) hq, hq]
      rw [zCmdB_8 hV] at hq
      simp only [Bool.and_eq_true, decide_eq_true_eq] at hq
      obtain ⟨⟨⟨rfl, rfl⟩, hq2⟩, hq⟩ := hq
      rw [show zCmdU 8 0 0 j ((h, b), u 10, u 11, u 12, f) = ((h, b), u 10, u 11, u 12, f) from (if_neg (by decide)).trans ((if_neg (by decide)).trans ((if_neg (by decide)).trans (if_neg (by decide))))]
      exact c_cmd8y l G a u x f h b P t S e0 hG 0 0 j ho9 hi9 hj9 hq2 hq
    · have hq : zCmdB 8 o i j (h, b) = false := Bool.eq_false_iff.mpr hq
      rw [zCmdW_n (t := ((h, b), u 10, u 11, u 12, f)) hq, hq]
      rw [zCmdB_8 hV] at hq
      exact c_cmd8n l G a u x f h b P t S e0 hG o i j ho9 hi9 hj9 hq
  · by_cases hq : zCmdB 9 o i j (h, b) = true
    · rw [zCmdW_y (t := ((h, b), u 10, u 11, u 12, f)) hq, hq]
      rw [zCmdB_9 hV] at hq
      rw [show zCmdU 9 o i j ((h, b), u 10, u 11, u 12, f) = ((h, b), u 10, u 11, u 12, f) from (if_neg (by decide)).trans ((if_neg (by decide)).trans ((if_neg (by decide)).trans (if_neg (by decide))))]
      exact c_cmd9y l G a u x f h b P t S e0 hG o i j ho9 hi9 hj9 (of_decide_eq_true hq)
    · have hq : zCmdB 9 o i j (h, b) = false := Bool.eq_false_iff.mpr hq
      rw [zCmdW_n (t := ((h, b), u 10, u 11, u 12, f)) hq, hq]
      rw [zCmdB_9 hV] at hq
      exact c_cmd9n l G a u x f h b P t S e0 hG o i j ho9 hi9 hj9 (of_decide_eq_false hq)

set_option maxHeartbeats 4000000 in
set_option maxRecDepth 100000 in
theorem c_r_run1 (l : Launch) (G : zC) (a : Nat → Nat) (u : Nat → Int32) (x : Int64) (f F : Nat → Int32) (h : Nat → Int32) (b : Nat → Nat → Int32) (w9 : Int32) (x9 : Int64) (hw0 : w9 ≤ 0) (hc : zI0 w9.toInt64 1 3 = false) : zMet l G yX7_runScript wsX7_runScript rmX7_runScript [.ref (a 0), .int w9, .long x9] ([((a 0), .inr (7, [.int (u 0), .ref (a 1), .int (u 2), .ref (a 3), .ref (a 4), .ref (a 5), .ref (a 6), .int (u 7), .ref (a 8), .ref (a 9), .int (u 10), .int (u 11), .int (u 12), .long x, .int (u 14), .int (u 15)])), ((a 3), .inl (G.2 1, 121, .inl (flt h b))), ((a 4), .inl (G.2 1, 121, .inl F)), ((a 5), .inl (G.2 1, 121, .inl f))]) (some (.int 0)) ([((a 0), .inr (7, [.int 1, .ref (a 1), .int (u 2), .ref (a 3), .ref (a 4), .ref (a 5), .ref (a 6), .int (u 7), .ref (a 8), .ref (a 9), .int (u 10), .int (u 11), .int (u 12), .long x, .int (u 14), .int (u 15)])), ((a 3), .inl (G.2 1, 121, .inl (flt h b))), ((a 4), .inl (G.2 1, 121, .inl F)), ((a 5), .inl (G.2 1, 121, .inl f))]) := by
  refine zMet_of (cc := cX7_runScript) (maxL := 8) (ret := (some .int)) (by decide) rfl (Nat.le_of_ble_eq_true rfl) ?_
  intro p e s m below meth c A ls hx hb hr hml hown hts hK hA hE hlocks hin hM hl
  have hown : s.vm.findClass RX7 = some m.cls := hown
  have hM : zM G A s s.heap [] ([((a 0), .inr (7, [.int (u 0), .ref (a 1), .int (u 2), .ref (a 3), .ref (a 4), .ref (a 5), .ref (a 6), .int (u 7), .ref (a 8), .ref (a 9), .int (u 10), .int (u 11), .int (u 12), .long x, .int (u 14), .int (u 15)])), ((a 3), .inl (G.2 1, 121, .inl (flt h b))), ((a 4), .inl (G.2 1, 121, .inl F)), ((a 5), .inl (G.2 1, 121, .inl f))]) := hM
  have hl : lv_has ls 8 [(0, .ref (a 0)), (1, .int w9), (2, .long x9)] := hl
  refine lv_lconst (v := 1) hx hb dX7_runScript_0 (by decide) ?_
  refine lv_lstore (lv' := [(4, .long 1), (0, .ref (a 0)), (1, .int w9), (2, .long x9)]) hx hb dX7_runScript_1 hl (by decide) rfl (fun ls hl => ?_)
  refine lv_iconst (v := 0) hx hb dX7_runScript_3 (by decide) ?_
  refine lv_istore (lv' := [(6, .int 0), (4, .long 1), (0, .ref (a 0)), (1, .int w9), (2, .long x9)]) hx hb dX7_runScript_4 hl (by decide) rfl (fun ls hl => ?_)
  refine lv_iload hx hb dX7_runScript_6 (lv_at hl 0 rfl) ?_
  refine lv_iload_n hx hb dX7_runScript_8 rfl (lv_at hl 3 rfl) ?_
  refine lv_icmp_ge (tgt := 32) hx hb dX7_runScript_9 (by decide) (fun c_1 => ?_) (fun c_1 => absurd hw0 c_1)
  refine lv_aload_n hx hb dX7_runScript_32 rfl (lv_at hl 2 rfl) ?_
  refine lv_iload_n hx hb dX7_runScript_33 rfl (lv_at hl 3 rfl) ?_
  refine lv_i2l (v := w9.toInt64) hx hb dX7_runScript_34 rfl ?_
  refine lv_lconst (v := 1) hx hb dX7_runScript_35 (by decide) ?_
  refine lv_ldc2 (v := 3) hx hb hown (hts (.constantLong RX7 229 3) (by decide +kernel)) dX7_runScript_36 ?_
  refine z_callS (As := [.long w9.toInt64, .long 1, .long 3]) (rest := [.ref (a 0)]) (wc := []) (wr := [((a 0), .inr (7, [.int (u 0), .ref (a 1), .int (u 2), .ref (a 3), .ref (a 4), .ref (a 5), .ref (a 6), .int (u 7), .ref (a 8), .ref (a 9), .int (u 10), .int (u 11), .int (u 12), .long x, .int (u 14), .int (u 15)])), ((a 3), .inl (G.2 1, 121, .inl (flt h b))), ((a 4), .inl (G.2 1, 121, .inl F)), ((a 5), .inl (G.2 1, 121, .inl f))]) (w1 := []) (ws' := [((a 0), .inr (7, [.int (u 0), .ref (a 1), .int (u 2), .ref (a 3), .ref (a 4), .ref (a 5), .ref (a 6), .int (u 7), .ref (a 8), .ref (a 9), .int (u 10), .int (u 11), .int (u 12), .long x, .int (u 14), .int (u 15)])), ((a 3), .inl (G.2 1, 121, .inl (flt h b))), ((a 4), .inl (G.2 1, 121, .inl F)), ((a 5), .inl (G.2 1, 121, .inl f))]) ⟨hx, hb, hml, hown, hts⟩ (c_in l G w9.toInt64 1 3) (va_cwS 3 hts gX7_runScript_X7_in rfl rfl rfl (by decide +kernel) ⟨Nat.le_of_ble_eq_true rfl, Nat.le_of_ble_eq_true rfl⟩) rfl hl.1 rfl (Nat.le_of_ble_eq_true rfl) dX7_runScript_39 ⟨Nat.le_of_ble_eq_true rfl, Nat.le_of_ble_eq_true rfl⟩ hK hE hA hM (List.Perm.refl _) (List.Perm.refl _) (fun H locs hM hz => ?_)
  refine z_ifeq (tgt := 61) hx hb dX7_runScript_42 (by decide) (fun c_2 => ?_) (fun c_2 => Bool.noConfusion (c_2.symm.trans hc))
  refine lv_iconst (v := 1) hx hb dX7_runScript_61 (by decide) ?_
  refine z_callV (As := [.int 1]) (rest := []) (wc := [((a 0), .inr (7, [.int (u 0), .ref (a 1), .int (u 2), .ref (a 3), .ref (a 4), .ref (a 5), .ref (a 6), .int (u 7), .ref (a 8), .ref (a 9), .int (u 10), .int (u 11), .int (u 12), .long x, .int (u 14), .int (u 15)]))]) (wr := [((a 3), .inl (G.2 1, 121, .inl (flt h b))), ((a 4), .inl (G.2 1, 121, .inl F)), ((a 5), .inl (G.2 1, 121, .inl f))]) (w1 := [((a 0), .inr (7, [.int 1, .ref (a 1), .int (u 2), .ref (a 3), .ref (a 4), .ref (a 5), .ref (a 6), .int (u 7), .ref (a 8), .ref (a 9), .int (u 10), .int (u 11), .int (u 12), .long x, .int (u 14), .int (u 15)]))]) (ws' := [((a 0), .inr (7, [.int 1, .ref (a 1), .int (u 2), .ref (a 3), .ref (a 4), .ref (a 5), .ref (a 6), .int (u 7), .ref (a 8), .ref (a 9), .int (u 10), .int (u 11), .int (u 12), .long x, .int (u 14), .int (u 15)])), ((a 3), .inl (G.2 1, 121, .inl (flt h b))), ((a 4), .inl (G.2 1, 121, .inl F)), ((a 5), .inl (G.2 1, 121, .inl f))]) ⟨hx, hb, hml, hown, hts⟩ (c_refused l G (a 0) (.int (u 0)) (.ref (a 1)) (.int (u 2)) (.ref (a 3)) (.ref (a 4)) (.ref (a 5)) (.ref (a 6)) (.int (u 7)) (.ref (a 8)) (.ref (a 9)) (.int (u 10)) (.int (u 11)) (.int (u 12)) (.long x) (.int (u 14)) (.int (u 15)) 1) (cwV 1 hts gX7_runScript_X7_refused rfl rfl rfl (by decide +kernel) ⟨Nat.le_of_ble_eq_true rfl, Nat.le_of_ble_eq_true rfl⟩) 7 rfl rfl rfl rfl hl.1 rfl (Nat.le_of_ble_eq_true rfl) dX7_runScript_62 ⟨Nat.le_of_ble_eq_true rfl, Nat.le_of_ble_eq_true rfl⟩ hK hE hA hM (pm_at 4 [0] [1, 2, 3] rfl rfl rfl (by decide)) ((pm_at 4 [0] [1, 2, 3] rfl rfl rfl (by decide))).symm (fun H locs hM hz => ?_)
  refine z_ifeq (tgt := 70) hx hb dX7_runScript_65 (by decide) (fun c_3 => absurd c_3 (by decide)) (fun c_3 => ?_)
  refine lv_iconst (v := 0) hx hb dX7_runScript_68 (by decide) ?_
  exact z_iret hx hb hr hlocks dX7_runScript_69 hM (Nat.le_of_ble_eq_true rfl) (Nat.le_of_ble_eq_true rfl) rfl

set_option maxHeartbeats 4000000 in
set_option maxRecDepth 100000 in
theorem c_r_run2 (l : Launch) (G : zC) (a : Nat → Nat) (u : Nat → Int32) (x : Int64) (f F : Nat → Int32) (h : Nat → Int32) (b : Nat → Nat → Int32) (w9 : Int32) (x9 : Int64) (hw3 : 3 < w9) (hc : zI0 w9.toInt64 1 3 = false) : zMet l G yX7_runScript wsX7_runScript rmX7_runScript [.ref (a 0), .int w9, .long x9] ([((a 0), .inr (7, [.int (u 0), .ref (a 1), .int (u 2), .ref (a 3), .ref (a 4), .ref (a 5), .ref (a 6), .int (u 7), .ref (a 8), .ref (a 9), .int (u 10), .int (u 11), .int (u 12), .long x, .int (u 14), .int (u 15)])), ((a 3), .inl (G.2 1, 121, .inl (flt h b))), ((a 4), .inl (G.2 1, 121, .inl F)), ((a 5), .inl (G.2 1, 121, .inl f))]) (some (.int 0)) ([((a 0), .inr (7, [.int 1, .ref (a 1), .int (u 2), .ref (a 3), .ref (a 4), .ref (a 5), .ref (a 6), .int (u 7), .ref (a 8), .ref (a 9), .int (u 10), .int (u 11), .int (u 12), .long x, .int (u 14), .int (u 15)])), ((a 3), .inl (G.2 1, 121, .inl (flt h b))), ((a 4), .inl (G.2 1, 121, .inl F)), ((a 5), .inl (G.2 1, 121, .inl f))]) := by
  refine zMet_of (cc := cX7_runScript) (maxL := 8) (ret := (some .int)) (by decide) rfl (Nat.le_of_ble_eq_true rfl) ?_
  intro p e s m below meth c A ls hx hb hr hml hown hts hK hA hE hlocks hin hM hl
  have hown : s.vm.findClass RX7 = some m.cls := hown
  have hM : zM G A s s.heap [] ([((a 0), .inr (7, [.int (u 0), .ref (a 1), .int (u 2), .ref (a 3), .ref (a 4), .ref (a 5), .ref (a 6), .int (u 7), .ref (a 8), .ref (a 9), .int (u 10), .int (u 11), .int (u 12), .long x, .int (u 14), .int (u 15)])), ((a 3), .inl (G.2 1, 121, .inl (flt h b))), ((a 4), .inl (G.2 1, 121, .inl F)), ((a 5), .inl (G.2 1, 121, .inl f))]) := hM
  have hl : lv_has ls 8 [(0, .ref (a 0)), (1, .int w9), (2, .long x9)] := hl
  refine lv_lconst (v := 1) hx hb dX7_runScript_0 (by decide) ?_
  refine lv_lstore (lv' := [(4, .long 1), (0, .ref (a 0)), (1, .int w9), (2, .long x9)]) hx hb dX7_runScript_1 hl (by decide) rfl (fun ls hl => ?_)
  refine lv_iconst (v := nI 0) hx hb dX7_runScript_3 (by decide) ?_
  refine lv_istore (lv' := [(6, .int (nI 0)), (4, .long 1), (0, .ref (a 0)), (1, .int w9), (2, .long x9)]) hx hb dX7_runScript_4 hl (by decide) rfl (fun ls hl => ?_)
  have lp6 : ∀ (k1 : Nat) (i : Nat), (i + k1 = 3) → ∀ (H : Heap) (locs : List Loc), zM G A s H locs ([((a 0), .inr (7, [.int (u 0), .ref (a 1), .int (u 2), .ref (a 3), .ref (a 4), .ref (a 5), .ref (a 6), .int (u 7), .ref (a 8), .ref (a 9), .int (u 10), .int (u 11), .int (u 12), .long x, .int (u 14), .int (u 15)])), ((a 3), .inl (G.2 1, 121, .inl (flt h b))), ((a 4), .inl (G.2 1, 121, .inl F)), ((a 5), .inl (G.2 1, 121, .inl f))]) → ∀ ls : Array Slot, lv_has ls 8 [(0, .ref (a 0)), (1, .int w9), (2, .long x9), (4, .long (zPw i)), (6, .int (nI i))] → W p l e rmX7_runScript s m ([.ref (a 0), .int w9, .long x9] : List Value).toArray below meth c H locs 0 0 (zEnd G below ([.ref (a 0), .int w9, .long x9] : List Value).toArray s rmX7_runScript A (some (.int 0)) ([((a 0), .inr (7, [.int 1, .ref (a 1), .int (u 2), .ref (a 3), .ref (a 4), .ref (a 5), .ref (a 6), .int (u 7), .ref (a 8), .ref (a 9), .int (u 10), .int (u 11), .int (u 12), .long x, .int (u 14), .int (u 15)])), ((a 3), .inl (G.2 1, 121, .inl (flt h b))), ((a 4), .inl (G.2 1, 121, .inl F)), ((a 5), .inl (G.2 1, 121, .inl f))])) (F0 m 6 ls []) := by
    intro k1
    induction k1 with
    | zero =>
      intro i hik H locs hM ls hl
      refine lv_iload hx hb dX7_runScript_6 (lv_at hl 4 rfl) ?_
      refine lv_iload_n hx hb dX7_runScript_8 rfl (lv_at hl 1 rfl) ?_
      refine lv_icmp_ge (tgt := 32) hx hb dX7_runScript_9 (by decide) (fun c_1 => absurd (Int32.le_trans c_1 (show nI i ≤ 3 from nI_le (b := 3) (by omega) (by decide))) (Int32.not_le.mpr hw3)) (fun c_1 => ?_)
      refine lv_iload hx hb dX7_runScript_12 (lv_at hl 4 rfl) ?_
      refine lv_iconst (v := 3) hx hb dX7_runScript_14 (by decide) ?_
      refine z_topi (y := nI 3) rfl ?_
      refine lv_icmp_ge (tgt := 32) hx hb dX7_runScript_15 (by decide) (fun c_2 => ?_) (fun c_2 => absurd (nI_le (by omega) (by omega)) c_2)
      refine lv_aload_n hx hb dX7_runScript_32 rfl (lv_at hl 0 rfl) ?_
      refine lv_iload_n hx hb dX7_runScript_33 rfl (lv_at hl 1 rfl) ?_
      refine lv_i2l (v := w9.toInt64) hx hb dX7_runScript_34 rfl ?_
      refine lv_lconst (v := 1) hx hb dX7_runScript_35 (by decide) ?_
      refine lv_ldc2 (v := 3) hx hb hown (hts (.constantLong RX7 229 3) (by decide +kernel)) dX7_runScript_36 ?_
      refine z_callS (As := [.long w9.toInt64, .long 1, .long 3]) (rest := [.ref (a 0)]) (wc := []) (wr := [((a 0), .inr (7, [.int (u 0), .ref (a 1), .int (u 2), .ref (a 3), .ref (a 4), .ref (a 5), .ref (a 6), .int (u 7), .ref (a 8), .ref (a 9), .int (u 10), .int (u 11), .int (u 12), .long x, .int (u 14), .int (u 15)])), ((a 3), .inl (G.2 1, 121, .inl (flt h b))), ((a 4), .inl (G.2 1, 121, .inl F)), ((a 5), .inl (G.2 1, 121, .inl f))]) (w1 := []) (ws' := [((a 0), .inr (7, [.int (u 0), .ref (a 1), .int (u 2), .ref (a 3), .ref (a 4), .ref (a 5), .ref (a 6), .int (u 7), .ref (a 8), .ref (a 9), .int (u 10), .int (u 11), .int (u 12), .long x, .int (u 14), .int (u 15)])), ((a 3), .inl (G.2 1, 121, .inl (flt h b))), ((a 4), .inl (G.2 1, 121, .inl F)), ((a 5), .inl (G.2 1, 121, .inl f))]) ⟨hx, hb, hml, hown, hts⟩ (c_in l G w9.toInt64 1 3) (va_cwS 3 hts gX7_runScript_X7_in rfl rfl rfl (by decide +kernel) ⟨Nat.le_of_ble_eq_true rfl, Nat.le_of_ble_eq_true rfl⟩) rfl hl.1 rfl (Nat.le_of_ble_eq_true rfl) dX7_runScript_39 ⟨Nat.le_of_ble_eq_true rfl, Nat.le_of_ble_eq_true rfl⟩ hK hE hA hM (List.Perm.refl _) (List.Perm.refl _) (fun H locs hM hz => ?_)
      refine z_ifeq (tgt := 61) hx hb dX7_runScript_42 (by decide) (fun c_3 => ?_) (fun c_3 => Bool.noConfusion (c_3.symm.trans hc))
      refine lv_iconst (v := 1) hx hb dX7_runScript_61 (by decide) ?_
      refine z_callV (As := [.int 1]) (rest := []) (wc := [((a 0), .inr (7, [.int (u 0), .ref (a 1), .int (u 2), .ref (a 3), .ref (a 4), .ref (a 5), .ref (a 6), .int (u 7), .ref (a 8), .ref (a 9), .int (u 10), .int (u 11), .int (u 12), .long x, .int (u 14), .int (u 15)]))]) (wr := [((a 3), .inl (G.2 1, 121, .inl (flt h b))), ((a 4), .inl (G.2 1, 121, .inl F)), ((a 5), .inl (G.2 1, 121, .inl f))]) (w1 := [((a 0), .inr (7, [.int 1, .ref (a 1), .int (u 2), .ref (a 3), .ref (a 4), .ref (a 5), .ref (a 6), .int (u 7), .ref (a 8), .ref (a 9), .int (u 10), .int (u 11), .int (u 12), .long x, .int (u 14), .int (u 15)]))]) (ws' := [((a 0), .inr (7, [.int 1, .ref (a 1), .int (u 2), .ref (a 3), .ref (a 4), .ref (a 5), .ref (a 6), .int (u 7), .ref (a 8), .ref (a 9), .int (u 10), .int (u 11), .int (u 12), .long x, .int (u 14), .int (u 15)])), ((a 3), .inl (G.2 1, 121, .inl (flt h b))), ((a 4), .inl (G.2 1, 121, .inl F)), ((a 5), .inl (G.2 1, 121, .inl f))]) ⟨hx, hb, hml, hown, hts⟩ (c_refused l G (a 0) (.int (u 0)) (.ref (a 1)) (.int (u 2)) (.ref (a 3)) (.ref (a 4)) (.ref (a 5)) (.ref (a 6)) (.int (u 7)) (.ref (a 8)) (.ref (a 9)) (.int (u 10)) (.int (u 11)) (.int (u 12)) (.long x) (.int (u 14)) (.int (u 15)) 1) (cwV 1 hts gX7_runScript_X7_refused rfl rfl rfl (by decide +kernel) ⟨Nat.le_of_ble_eq_true rfl, Nat.le_of_ble_eq_true rfl⟩) 7 rfl rfl rfl rfl hl.1 rfl (Nat.le_of_ble_eq_true rfl) dX7_runScript_62 ⟨Nat.le_of_ble_eq_true rfl, Nat.le_of_ble_eq_true rfl⟩ hK hE hA hM (pm_at 4 [0] [1, 2, 3] rfl rfl rfl (by decide)) ((pm_at 4 [0] [1, 2, 3] rfl rfl rfl (by decide))).symm (fun H locs hM hz => ?_)
      refine z_ifeq (tgt := 70) hx hb dX7_runScript_65 (by decide) (fun c_4 => absurd c_4 (by decide)) (fun c_4 => ?_)
      refine lv_iconst (v := 0) hx hb dX7_runScript_68 (by decide) ?_
      exact z_iret hx hb hr hlocks dX7_runScript_69 hM (Nat.le_of_ble_eq_true rfl) (Nat.le_of_ble_eq_true rfl) rfl
    | succ k1 ihk1 =>
      intro i hik H locs hM ls hl
      refine lv_iload hx hb dX7_runScript_6 (lv_at hl 4 rfl) ?_
      refine lv_iload_n hx hb dX7_runScript_8 rfl (lv_at hl 1 rfl) ?_
      refine lv_icmp_ge (tgt := 32) hx hb dX7_runScript_9 (by decide) (fun c_5 => absurd (Int32.le_trans c_5 (show nI i ≤ 3 from nI_le (b := 3) (by omega) (by decide))) (Int32.not_le.mpr hw3)) (fun c_5 => ?_)
      refine lv_iload hx hb dX7_runScript_12 (lv_at hl 4 rfl) ?_
      refine lv_iconst (v := 3) hx hb dX7_runScript_14 (by decide) ?_
      refine z_topi (y := nI 3) rfl ?_
      refine lv_icmp_ge (tgt := 32) hx hb dX7_runScript_15 (by decide) (fun c_6 => absurd c_6 (nI_ge (by omega) (by omega))) (fun c_6 => ?_)
      refine lv_lload hx hb dX7_runScript_18 (lv_at hl 3 rfl) ?_
      refine lv_ldc2 (v := 10000) hx hb hown (hts (.constantLong RX7 227 10000) (by decide +kernel)) dX7_runScript_20 ?_
      refine lv_lmul hx hb dX7_runScript_23 ?_
      have hpw : zPw i * 10000 = zPw (i + 1) := zPw_s (by omega)
      refine z_topl (y := zPw (i + 1)) hpw ?_
      refine lv_lstore (lv' := [(4, .long (zPw (i + 1))), (0, .ref (a 0)), (1, .int w9), (2, .long x9), (6, .int (nI i))]) hx hb dX7_runScript_24 hl (by decide) rfl (fun ls hl => ?_)
      refine lv_iinc (v := nI (i + 1)) (lv' := [(6, .int (nI (i + 1))), (4, .long (zPw (i + 1))), (0, .ref (a 0)), (1, .int w9), (2, .long x9)]) hx hb dX7_runScript_26 hl (k := 4) rfl (nI_1 i) (by decide) rfl (fun ls hl => ?_)
      refine lv_goto (tgt := 6) hx hb dX7_runScript_29 (by decide) ?_
      exact ihk1 (i + 1) (by omega) _ _ hM _ (lv_sub hl [2, 3, 4, 1, 0] rfl)
  exact lp6 3 0 (by omega) _ _ hM _ (lv_sub hl [2, 3, 4, 1, 0] rfl)

set_option maxHeartbeats 4000000 in
set_option maxRecDepth 100000 in
theorem c_r_run3 (l : Launch) (G : zC) (a : Nat → Nat) (u : Nat → Int32) (x : Int64) (f F : Nat → Int32) (h : Nat → Int32) (b : Nat → Nat → Int32) (N : Nat) (hN1 : 1 ≤ N) (hN3 : N ≤ 3) (x9 : Int64) (hn9 : zI0 (nI N).toInt64 1 3 = true) (hc : zI0 x9 0 (zPw N - 1) = false) : zMet l G yX7_runScript wsX7_runScript rmX7_runScript [.ref (a 0), .int (nI N), .long x9] ([((a 0), .inr (7, [.int (u 0), .ref (a 1), .int (u 2), .ref (a 3), .ref (a 4), .ref (a 5), .ref (a 6), .int (u 7), .ref (a 8), .ref (a 9), .int (u 10), .int (u 11), .int (u 12), .long x, .int (u 14), .int (u 15)])), ((a 3), .inl (G.2 1, 121, .inl (flt h b))), ((a 4), .inl (G.2 1, 121, .inl F)), ((a 5), .inl (G.2 1, 121, .inl f))]) (some (.int 0)) ([((a 0), .inr (7, [.int 1, .ref (a 1), .int (u 2), .ref (a 3), .ref (a 4), .ref (a 5), .ref (a 6), .int (u 7), .ref (a 8), .ref (a 9), .int (u 10), .int (u 11), .int (u 12), .long x, .int (u 14), .int (u 15)])), ((a 3), .inl (G.2 1, 121, .inl (flt h b))), ((a 4), .inl (G.2 1, 121, .inl F)), ((a 5), .inl (G.2 1, 121, .inl f))]) := by
  refine zMet_of (cc := cX7_runScript) (maxL := 8) (ret := (some .int)) (by decide) rfl (Nat.le_of_ble_eq_true rfl) ?_
  intro p e s m below meth c A ls hx hb hr hml hown hts hK hA hE hlocks hin hM hl
  have hown : s.vm.findClass RX7 = some m.cls := hown
  have hM : zM G A s s.heap [] ([((a 0), .inr (7, [.int (u 0), .ref (a 1), .int (u 2), .ref (a 3), .ref (a 4), .ref (a 5), .ref (a 6), .int (u 7), .ref (a 8), .ref (a 9), .int (u 10), .int (u 11), .int (u 12), .long x, .int (u 14), .int (u 15)])), ((a 3), .inl (G.2 1, 121, .inl (flt h b))), ((a 4), .inl (G.2 1, 121, .inl F)), ((a 5), .inl (G.2 1, 121, .inl f))]) := hM
  have hl : lv_has ls 8 [(0, .ref (a 0)), (1, .int (nI N)), (2, .long x9)] := hl
  refine lv_lconst (v := 1) hx hb dX7_runScript_0 (by decide) ?_
  refine lv_lstore (lv' := [(4, .long 1), (0, .ref (a 0)), (1, .int (nI N)), (2, .long x9)]) hx hb dX7_runScript_1 hl (by decide) rfl (fun ls hl => ?_)
  refine lv_iconst (v := nI 0) hx hb dX7_runScript_3 (by decide) ?_
  refine lv_istore (lv' := [(6, .int (nI 0)), (4, .long 1), (0, .ref (a 0)), (1, .int (nI N)), (2, .long x9)]) hx hb dX7_runScript_4 hl (by decide) rfl (fun ls hl => ?_)
  have lp6 : ∀ (k1 : Nat) (i : Nat), (i + k1 = N) → ∀ (H : Heap) (locs : List Loc), zM G A s H locs ([((a 0), .inr (7, [.int (u 0), .ref (a 1), .int (u 2), .ref (a 3), .ref (a 4), .ref (a 5), .ref (a 6), .int (u 7), .ref (a 8), .ref (a 9), .int (u 10), .int (u 11), .int (u 12), .long x, .int (u 14), .int (u 15)])), ((a 3), .inl (G.2 1, 121, .inl (flt h b))), ((a 4), .inl (G.2 1, 121, .inl F)), ((a 5), .inl (G.2 1, 121, .inl f))]) → ∀ ls : Array Slot, lv_has ls 8 [(0, .ref (a 0)), (1, .int (nI N)), (2, .long x9), (4, .long (zPw i)), (6, .int (nI i))] → W p l e rmX7_runScript s m ([.ref (a 0), .int (nI N), .long x9] : List Value).toArray below meth c H locs 0 0 (zEnd G below ([.ref (a 0), .int (nI N), .long x9] : List Value).toArray s rmX7_runScript A (some (.int 0)) ([((a 0), .inr (7, [.int 1, .ref (a 1), .int (u 2), .ref (a 3), .ref (a 4), .ref (a 5), .ref (a 6), .int (u 7), .ref (a 8), .ref (a 9), .int (u 10), .int (u 11), .int (u 12), .long x, .int (u 14), .int (u 15)])), ((a 3), .inl (G.2 1, 121, .inl (flt h b))), ((a 4), .inl (G.2 1, 121, .inl F)), ((a 5), .inl (G.2 1, 121, .inl f))])) (F0 m 6 ls []) := by
    intro k1
    induction k1 with
    | zero =>
      intro i hik H locs hM ls hl
      refine lv_iload hx hb dX7_runScript_6 (lv_at hl 4 rfl) ?_
      refine lv_iload_n hx hb dX7_runScript_8 rfl (lv_at hl 1 rfl) ?_
      refine lv_icmp_ge (tgt := 32) hx hb dX7_runScript_9 (by decide) (fun c_1 => ?_) (fun c_1 => absurd (nI_le (by omega) (by omega)) c_1)
      have hiN : i = N := by omega
      rw [hiN] at hl
      refine lv_aload_n hx hb dX7_runScript_32 rfl (lv_at hl 0 rfl) ?_
      refine lv_iload_n hx hb dX7_runScript_33 rfl (lv_at hl 1 rfl) ?_
      refine lv_i2l (v := (nI N).toInt64) hx hb dX7_runScript_34 rfl ?_
      refine lv_lconst (v := 1) hx hb dX7_runScript_35 (by decide) ?_
      refine lv_ldc2 (v := 3) hx hb hown (hts (.constantLong RX7 229 3) (by decide +kernel)) dX7_runScript_36 ?_
      refine z_callS (As := [.long ((nI N).toInt64), .long 1, .long 3]) (rest := [.ref (a 0)]) (wc := []) (wr := [((a 0), .inr (7, [.int (u 0), .ref (a 1), .int (u 2), .ref (a 3), .ref (a 4), .ref (a 5), .ref (a 6), .int (u 7), .ref (a 8), .ref (a 9), .int (u 10), .int (u 11), .int (u 12), .long x, .int (u 14), .int (u 15)])), ((a 3), .inl (G.2 1, 121, .inl (flt h b))), ((a 4), .inl (G.2 1, 121, .inl F)), ((a 5), .inl (G.2 1, 121, .inl f))]) (w1 := []) (ws' := [((a 0), .inr (7, [.int (u 0), .ref (a 1), .int (u 2), .ref (a 3), .ref (a 4), .ref (a 5), .ref (a 6), .int (u 7), .ref (a 8), .ref (a 9), .int (u 10), .int (u 11), .int (u 12), .long x, .int (u 14), .int (u 15)])), ((a 3), .inl (G.2 1, 121, .inl (flt h b))), ((a 4), .inl (G.2 1, 121, .inl F)), ((a 5), .inl (G.2 1, 121, .inl f))]) ⟨hx, hb, hml, hown, hts⟩ (c_in l G ((nI N).toInt64) 1 3) (va_cwS 3 hts gX7_runScript_X7_in rfl rfl rfl (by decide +kernel) ⟨Nat.le_of_ble_eq_true rfl, Nat.le_of_ble_eq_true rfl⟩) rfl hl.1 rfl (Nat.le_of_ble_eq_true rfl) dX7_runScript_39 ⟨Nat.le_of_ble_eq_true rfl, Nat.le_of_ble_eq_true rfl⟩ hK hE hA hM (List.Perm.refl _) (List.Perm.refl _) (fun H locs hM hz => ?_)
      refine z_ifeq (tgt := 61) hx hb dX7_runScript_42 (by decide) (fun c_2 => Bool.noConfusion (hn9.symm.trans c_2)) (fun c_2 => ?_)
      refine lv_lload_n hx hb dX7_runScript_45 rfl (lv_at hl 2 rfl) ?_
      refine lv_lconst (v := 0) hx hb dX7_runScript_46 (by decide) ?_
      refine lv_lload hx hb dX7_runScript_47 (lv_at hl 3 rfl) ?_
      refine lv_lconst (v := 1) hx hb dX7_runScript_49 (by decide) ?_
      refine lv_lsub hx hb dX7_runScript_50 ?_
      refine z_callS (As := [.long x9, .long 0, .long ((zPw N) - 1)]) (rest := [.ref (a 0)]) (wc := []) (wr := [((a 0), .inr (7, [.int (u 0), .ref (a 1), .int (u 2), .ref (a 3), .ref (a 4), .ref (a 5), .ref (a 6), .int (u 7), .ref (a 8), .ref (a 9), .int (u 10), .int (u 11), .int (u 12), .long x, .int (u 14), .int (u 15)])), ((a 3), .inl (G.2 1, 121, .inl (flt h b))), ((a 4), .inl (G.2 1, 121, .inl F)), ((a 5), .inl (G.2 1, 121, .inl f))]) (w1 := []) (ws' := [((a 0), .inr (7, [.int (u 0), .ref (a 1), .int (u 2), .ref (a 3), .ref (a 4), .ref (a 5), .ref (a 6), .int (u 7), .ref (a 8), .ref (a 9), .int (u 10), .int (u 11), .int (u 12), .long x, .int (u 14), .int (u 15)])), ((a 3), .inl (G.2 1, 121, .inl (flt h b))), ((a 4), .inl (G.2 1, 121, .inl F)), ((a 5), .inl (G.2 1, 121, .inl f))]) ⟨hx, hb, hml, hown, hts⟩ (c_in l G x9 0 ((zPw N) - 1)) (va_cwS 3 hts gX7_runScript_X7_in rfl rfl rfl (by decide +kernel) ⟨Nat.le_of_ble_eq_true rfl, Nat.le_of_ble_eq_true rfl⟩) rfl hl.1 rfl (Nat.le_of_ble_eq_true rfl) dX7_runScript_51 ⟨Nat.le_of_ble_eq_true rfl, Nat.le_of_ble_eq_true rfl⟩ hK hE hA hM (List.Perm.refl _) (List.Perm.refl _) (fun H locs hM hz => ?_)
      refine z_ifeq (tgt := 61) hx hb dX7_runScript_54 (by decide) (fun c_3 => ?_) (fun c_3 => Bool.noConfusion (c_3.symm.trans hc))
      refine lv_iconst (v := 1) hx hb dX7_runScript_61 (by decide) ?_
      refine z_callV (As := [.int 1]) (rest := []) (wc := [((a 0), .inr (7, [.int (u 0), .ref (a 1), .int (u 2), .ref (a 3), .ref (a 4), .ref (a 5), .ref (a 6), .int (u 7), .ref (a 8), .ref (a 9), .int (u 10), .int (u 11), .int (u 12), .long x, .int (u 14), .int (u 15)]))]) (wr := [((a 3), .inl (G.2 1, 121, .inl (flt h b))), ((a 4), .inl (G.2 1, 121, .inl F)), ((a 5), .inl (G.2 1, 121, .inl f))]) (w1 := [((a 0), .inr (7, [.int 1, .ref (a 1), .int (u 2), .ref (a 3), .ref (a 4), .ref (a 5), .ref (a 6), .int (u 7), .ref (a 8), .ref (a 9), .int (u 10), .int (u 11), .int (u 12), .long x, .int (u 14), .int (u 15)]))]) (ws' := [((a 0), .inr (7, [.int 1, .ref (a 1), .int (u 2), .ref (a 3), .ref (a 4), .ref (a 5), .ref (a 6), .int (u 7), .ref (a 8), .ref (a 9), .int (u 10), .int (u 11), .int (u 12), .long x, .int (u 14), .int (u 15)])), ((a 3), .inl (G.2 1, 121, .inl (flt h b))), ((a 4), .inl (G.2 1, 121, .inl F)), ((a 5), .inl (G.2 1, 121, .inl f))]) ⟨hx, hb, hml, hown, hts⟩ (c_refused l G (a 0) (.int (u 0)) (.ref (a 1)) (.int (u 2)) (.ref (a 3)) (.ref (a 4)) (.ref (a 5)) (.ref (a 6)) (.int (u 7)) (.ref (a 8)) (.ref (a 9)) (.int (u 10)) (.int (u 11)) (.int (u 12)) (.long x) (.int (u 14)) (.int (u 15)) 1) (cwV 1 hts gX7_runScript_X7_refused rfl rfl rfl (by decide +kernel) ⟨Nat.le_of_ble_eq_true rfl, Nat.le_of_ble_eq_true rfl⟩) 7 rfl rfl rfl rfl hl.1 rfl (Nat.le_of_ble_eq_true rfl) dX7_runScript_62 ⟨Nat.le_of_ble_eq_true rfl, Nat.le_of_ble_eq_true rfl⟩ hK hE hA hM (pm_at 4 [0] [1, 2, 3] rfl rfl rfl (by decide)) ((pm_at 4 [0] [1, 2, 3] rfl rfl rfl (by decide))).symm (fun H locs hM hz => ?_)
      refine z_ifeq (tgt := 70) hx hb dX7_runScript_65 (by decide) (fun c_4 => absurd c_4 (by decide)) (fun c_4 => ?_)
      refine lv_iconst (v := 0) hx hb dX7_runScript_68 (by decide) ?_
      exact z_iret hx hb hr hlocks dX7_runScript_69 hM (Nat.le_of_ble_eq_true rfl) (Nat.le_of_ble_eq_true rfl) rfl
    | succ k1 ihk1 =>
      intro i hik H locs hM ls hl
      refine lv_iload hx hb dX7_runScript_6 (lv_at hl 4 rfl) ?_
      refine lv_iload_n hx hb dX7_runScript_8 rfl (lv_at hl 1 rfl) ?_
      refine lv_icmp_ge (tgt := 32) hx hb dX7_runScript_9 (by decide) (fun c_5 => absurd c_5 (nI_ge (by omega) (by omega))) (fun c_5 => ?_)
      refine lv_iload hx hb dX7_runScript_12 (lv_at hl 4 rfl) ?_
      refine lv_iconst (v := 3) hx hb dX7_runScript_14 (by decide) ?_
      refine z_topi (y := nI 3) rfl ?_
      refine lv_icmp_ge (tgt := 32) hx hb dX7_runScript_15 (by decide) (fun c_6 => absurd c_6 (nI_ge (by omega) (by decide))) (fun c_6 => ?_)
      refine lv_lload hx hb dX7_runScript_18 (lv_at hl 3 rfl) ?_
      refine lv_ldc2 (v := 10000) hx hb hown (hts (.constantLong RX7 227 10000) (by decide +kernel)) dX7_runScript_20 ?_
      refine lv_lmul hx hb dX7_runScript_23 ?_
      have hpw : zPw i * 10000 = zPw (i + 1) := zPw_s (by omega)
      refine z_topl (y := zPw (i + 1)) hpw ?_
      refine lv_lstore (lv' := [(4, .long (zPw (i + 1))), (0, .ref (a 0)), (1, .int (nI N)), (2, .long x9), (6, .int (nI i))]) hx hb dX7_runScript_24 hl (by decide) rfl (fun ls hl => ?_)
      refine lv_iinc (v := nI (i + 1)) (lv' := [(6, .int (nI (i + 1))), (4, .long (zPw (i + 1))), (0, .ref (a 0)), (1, .int (nI N)), (2, .long x9)]) hx hb dX7_runScript_26 hl (k := 4) rfl (nI_1 i) (by decide) rfl (fun ls hl => ?_)
      refine lv_goto (tgt := 6) hx hb dX7_runScript_29 (by decide) ?_
      exact ihk1 (i + 1) (by omega) _ _ hM _ (lv_sub hl [2, 3, 4, 1, 0] rfl)
  exact lp6 N 0 (by omega) _ _ hM _ (lv_sub hl [2, 3, 4, 1, 0] rfl)

set_option maxHeartbeats 4000000 in
set_option maxRecDepth 100000 in
theorem c_r_run0 (l : Launch) (G : zC) (a : Nat → Nat) (u : Nat → Int32) (x : Int64) (f F : Nat → Int32) (h : Nat → Int32) (b : Nat → Nat → Int32) (P t S e0 : Nat) (hG : zGs h b P t S e0) (N : Nat) (hN1 : 1 ≤ N) (hN3 : N ≤ 3) (x9 : Int64) (hn9 : zI0 (nI N).toInt64 1 3 = true) (hc : zI0 x9 0 (zPw N - 1) = true) : zMet l G yX7_runScript wsX7_runScript rmX7_runScript [.ref (a 0), .int (nI N), .long x9] ([((a 0), .inr (7, [.int (u 0), .ref (a 1), .int (u 2), .ref (a 3), .ref (a 4), .ref (a 5), .ref (a 6), .int (u 7), .ref (a 8), .ref (a 9), .int (u 10), .int (u 11), .int (u 12), .long x, .int (u 14), .int (u 15)])), ((a 3), .inl (G.2 1, 121, .inl (flt h b))), ((a 4), .inl (G.2 1, 121, .inl F)), ((a 5), .inl (G.2 1, 121, .inl f))]) (some (.int (zScr x9 N N 0 (h, b)))) ([((a 0), .inr (7, [.int 0, .ref (a 1), .int (u 2), .ref (a 3), .ref (a 4), .ref (a 5), .ref (a 6), .int (u 7), .ref (a 8), .ref (a 9), .int ((zScrU x9 N N 0 ((h, b), u 10, u 11, u 12, f)).2.1), .int ((zScrU x9 N N 0 ((h, b), u 10, u 11, u 12, f)).2.2.1), .int ((zScrU x9 N N 0 ((h, b), u 10, u 11, u 12, f)).2.2.2.1), .long x, .int (u 14), .int (u 15)])), ((a 3), .inl (G.2 1, 121, .inl (flt h b))), ((a 4), .inl (G.2 1, 121, .inl (flt (zScrU x9 N N 0 ((h, b), u 10, u 11, u 12, f)).1.1 (zScrU x9 N N 0 ((h, b), u 10, u 11, u 12, f)).1.2))), ((a 5), .inl (G.2 1, 121, .inl ((zScrU x9 N N 0 ((h, b), u 10, u 11, u 12, f)).2.2.2.2)))]) := by
  refine zMet_of (cc := cX7_runScript) (maxL := 8) (ret := (some .int)) (by decide) rfl (Nat.le_of_ble_eq_true rfl) ?_
  intro p e s m below meth c A ls hx hb hr hml hown hts hK hA hE hlocks hin hM hl
  have hown : s.vm.findClass RX7 = some m.cls := hown
  have hM : zM G A s s.heap [] ([((a 0), .inr (7, [.int (u 0), .ref (a 1), .int (u 2), .ref (a 3), .ref (a 4), .ref (a 5), .ref (a 6), .int (u 7), .ref (a 8), .ref (a 9), .int (u 10), .int (u 11), .int (u 12), .long x, .int (u 14), .int (u 15)])), ((a 3), .inl (G.2 1, 121, .inl (flt h b))), ((a 4), .inl (G.2 1, 121, .inl F)), ((a 5), .inl (G.2 1, 121, .inl f))]) := hM
  have hl : lv_has ls 8 [(0, .ref (a 0)), (1, .int (nI N)), (2, .long x9)] := hl
  have hx0 := zScr_ge hc
  refine lv_lconst (v := 1) hx hb dX7_runScript_0 (by decide) ?_
  refine lv_lstore (lv' := [(4, .long 1), (0, .ref (a 0)), (1, .int (nI N)), (2, .long x9)]) hx hb dX7_runScript_1 hl (by decide) rfl (fun ls hl => ?_)
  refine lv_iconst (v := nI 0) hx hb dX7_runScript_3 (by decide) ?_
  refine lv_istore (lv' := [(6, .int (nI 0)), (4, .long 1), (0, .ref (a 0)), (1, .int (nI N)), (2, .long x9)]) hx hb dX7_runScript_4 hl (by decide) rfl (fun ls hl => ?_)
  have lp6 : ∀ (k1 : Nat) (i : Nat), (i + k1 = N) → ∀ (H : Heap) (locs : List Loc), zM G A s H locs ([((a 0), .inr (7, [.int (u 0), .ref (a 1), .int (u 2), .ref (a 3), .ref (a 4), .ref (a 5), .ref (a 6), .int (u 7), .ref (a 8), .ref (a 9), .int (u 10), .int (u 11), .int (u 12), .long x, .int (u 14), .int (u 15)])), ((a 3), .inl (G.2 1, 121, .inl (flt h b))), ((a 4), .inl (G.2 1, 121, .inl F)), ((a 5), .inl (G.2 1, 121, .inl f))]) → ∀ ls : Array Slot, lv_has ls 8 [(0, .ref (a 0)), (1, .int (nI N)), (2, .long x9), (4, .long (zPw i)), (6, .int (nI i))] → W p l e rmX7_runScript s m ([.ref (a 0), .int (nI N), .long x9] : List Value).toArray below meth c H locs 0 0 (zEnd G below ([.ref (a 0), .int (nI N), .long x9] : List Value).toArray s rmX7_runScript A (some (.int (zScr x9 N N 0 (h, b)))) ([((a 0), .inr (7, [.int 0, .ref (a 1), .int (u 2), .ref (a 3), .ref (a 4), .ref (a 5), .ref (a 6), .int (u 7), .ref (a 8), .ref (a 9), .int ((zScrU x9 N N 0 ((h, b), u 10, u 11, u 12, f)).2.1), .int ((zScrU x9 N N 0 ((h, b), u 10, u 11, u 12, f)).2.2.1), .int ((zScrU x9 N N 0 ((h, b), u 10, u 11, u 12, f)).2.2.2.1), .long x, .int (u 14), .int (u 15)])), ((a 3), .inl (G.2 1, 121, .inl (flt h b))), ((a 4), .inl (G.2 1, 121, .inl (flt (zScrU x9 N N 0 ((h, b), u 10, u 11, u 12, f)).1.1 (zScrU x9 N N 0 ((h, b), u 10, u 11, u 12, f)).1.2))), ((a 5), .inl (G.2 1, 121, .inl ((zScrU x9 N N 0 ((h, b), u 10, u 11, u 12, f)).2.2.2.2)))])) (F0 m 6 ls []) := by
    intro k1
    induction k1 with
    | zero =>
      intro i hik H locs hM ls hl
      refine lv_iload hx hb dX7_runScript_6 (lv_at hl 4 rfl) ?_
      refine lv_iload_n hx hb dX7_runScript_8 rfl (lv_at hl 1 rfl) ?_
      refine lv_icmp_ge (tgt := 32) hx hb dX7_runScript_9 (by decide) (fun c_1 => ?_) (fun c_1 => absurd (nI_le (by omega) (by omega)) c_1)
      have hiN : i = N := by omega
      rw [hiN] at hl
      refine lv_aload_n hx hb dX7_runScript_32 rfl (lv_at hl 0 rfl) ?_
      refine lv_iload_n hx hb dX7_runScript_33 rfl (lv_at hl 1 rfl) ?_
      refine lv_i2l (v := (nI N).toInt64) hx hb dX7_runScript_34 rfl ?_
      refine lv_lconst (v := 1) hx hb dX7_runScript_35 (by decide) ?_
      refine lv_ldc2 (v := 3) hx hb hown (hts (.constantLong RX7 229 3) (by decide +kernel)) dX7_runScript_36 ?_
      refine z_callS (As := [.long ((nI N).toInt64), .long 1, .long 3]) (rest := [.ref (a 0)]) (wc := []) (wr := [((a 0), .inr (7, [.int (u 0), .ref (a 1), .int (u 2), .ref (a 3), .ref (a 4), .ref (a 5), .ref (a 6), .int (u 7), .ref (a 8), .ref (a 9), .int (u 10), .int (u 11), .int (u 12), .long x, .int (u 14), .int (u 15)])), ((a 3), .inl (G.2 1, 121, .inl (flt h b))), ((a 4), .inl (G.2 1, 121, .inl F)), ((a 5), .inl (G.2 1, 121, .inl f))]) (w1 := []) (ws' := [((a 0), .inr (7, [.int (u 0), .ref (a 1), .int (u 2), .ref (a 3), .ref (a 4), .ref (a 5), .ref (a 6), .int (u 7), .ref (a 8), .ref (a 9), .int (u 10), .int (u 11), .int (u 12), .long x, .int (u 14), .int (u 15)])), ((a 3), .inl (G.2 1, 121, .inl (flt h b))), ((a 4), .inl (G.2 1, 121, .inl F)), ((a 5), .inl (G.2 1, 121, .inl f))]) ⟨hx, hb, hml, hown, hts⟩ (c_in l G ((nI N).toInt64) 1 3) (va_cwS 3 hts gX7_runScript_X7_in rfl rfl rfl (by decide +kernel) ⟨Nat.le_of_ble_eq_true rfl, Nat.le_of_ble_eq_true rfl⟩) rfl hl.1 rfl (Nat.le_of_ble_eq_true rfl) dX7_runScript_39 ⟨Nat.le_of_ble_eq_true rfl, Nat.le_of_ble_eq_true rfl⟩ hK hE hA hM (List.Perm.refl _) (List.Perm.refl _) (fun H locs hM hz => ?_)
      refine z_ifeq (tgt := 61) hx hb dX7_runScript_42 (by decide) (fun c_2 => Bool.noConfusion (hn9.symm.trans c_2)) (fun c_2 => ?_)
      refine lv_lload_n hx hb dX7_runScript_45 rfl (lv_at hl 2 rfl) ?_
      refine lv_lconst (v := 0) hx hb dX7_runScript_46 (by decide) ?_
      refine lv_lload hx hb dX7_runScript_47 (lv_at hl 3 rfl) ?_
      refine lv_lconst (v := 1) hx hb dX7_runScript_49 (by decide) ?_
      refine lv_lsub hx hb dX7_runScript_50 ?_
      refine z_callS (As := [.long x9, .long 0, .long ((zPw N) - 1)]) (rest := [.ref (a 0)]) (wc := []) (wr := [((a 0), .inr (7, [.int (u 0), .ref (a 1), .int (u 2), .ref (a 3), .ref (a 4), .ref (a 5), .ref (a 6), .int (u 7), .ref (a 8), .ref (a 9), .int (u 10), .int (u 11), .int (u 12), .long x, .int (u 14), .int (u 15)])), ((a 3), .inl (G.2 1, 121, .inl (flt h b))), ((a 4), .inl (G.2 1, 121, .inl F)), ((a 5), .inl (G.2 1, 121, .inl f))]) (w1 := []) (ws' := [((a 0), .inr (7, [.int (u 0), .ref (a 1), .int (u 2), .ref (a 3), .ref (a 4), .ref (a 5), .ref (a 6), .int (u 7), .ref (a 8), .ref (a 9), .int (u 10), .int (u 11), .int (u 12), .long x, .int (u 14), .int (u 15)])), ((a 3), .inl (G.2 1, 121, .inl (flt h b))), ((a 4), .inl (G.2 1, 121, .inl F)), ((a 5), .inl (G.2 1, 121, .inl f))]) ⟨hx, hb, hml, hown, hts⟩ (c_in l G x9 0 ((zPw N) - 1)) (va_cwS 3 hts gX7_runScript_X7_in rfl rfl rfl (by decide +kernel) ⟨Nat.le_of_ble_eq_true rfl, Nat.le_of_ble_eq_true rfl⟩) rfl hl.1 rfl (Nat.le_of_ble_eq_true rfl) dX7_runScript_51 ⟨Nat.le_of_ble_eq_true rfl, Nat.le_of_ble_eq_true rfl⟩ hK hE hA hM (List.Perm.refl _) (List.Perm.refl _) (fun H locs hM hz => ?_)
      refine z_ifeq (tgt := 61) hx hb dX7_runScript_54 (by decide) (fun c_3 => Bool.noConfusion (hc.symm.trans c_3)) (fun c_3 => ?_)
      refine lv_iconst (v := 0) hx hb dX7_runScript_57 (by decide) ?_
      refine lv_goto (tgt := 62) hx hb dX7_runScript_58 (by decide) ?_
      refine z_callV (As := [.int 0]) (rest := []) (wc := [((a 0), .inr (7, [.int (u 0), .ref (a 1), .int (u 2), .ref (a 3), .ref (a 4), .ref (a 5), .ref (a 6), .int (u 7), .ref (a 8), .ref (a 9), .int (u 10), .int (u 11), .int (u 12), .long x, .int (u 14), .int (u 15)]))]) (wr := [((a 3), .inl (G.2 1, 121, .inl (flt h b))), ((a 4), .inl (G.2 1, 121, .inl F)), ((a 5), .inl (G.2 1, 121, .inl f))]) (w1 := [((a 0), .inr (7, [.int 0, .ref (a 1), .int (u 2), .ref (a 3), .ref (a 4), .ref (a 5), .ref (a 6), .int (u 7), .ref (a 8), .ref (a 9), .int (u 10), .int (u 11), .int (u 12), .long x, .int (u 14), .int (u 15)]))]) (ws' := [((a 0), .inr (7, [.int 0, .ref (a 1), .int (u 2), .ref (a 3), .ref (a 4), .ref (a 5), .ref (a 6), .int (u 7), .ref (a 8), .ref (a 9), .int (u 10), .int (u 11), .int (u 12), .long x, .int (u 14), .int (u 15)])), ((a 3), .inl (G.2 1, 121, .inl (flt h b))), ((a 4), .inl (G.2 1, 121, .inl F)), ((a 5), .inl (G.2 1, 121, .inl f))]) ⟨hx, hb, hml, hown, hts⟩ (c_refused l G (a 0) (.int (u 0)) (.ref (a 1)) (.int (u 2)) (.ref (a 3)) (.ref (a 4)) (.ref (a 5)) (.ref (a 6)) (.int (u 7)) (.ref (a 8)) (.ref (a 9)) (.int (u 10)) (.int (u 11)) (.int (u 12)) (.long x) (.int (u 14)) (.int (u 15)) 0) (cwV 1 hts gX7_runScript_X7_refused rfl rfl rfl (by decide +kernel) ⟨Nat.le_of_ble_eq_true rfl, Nat.le_of_ble_eq_true rfl⟩) 7 rfl rfl rfl rfl hl.1 rfl (Nat.le_of_ble_eq_true rfl) dX7_runScript_62 ⟨Nat.le_of_ble_eq_true rfl, Nat.le_of_ble_eq_true rfl⟩ hK hE hA hM (pm_at 4 [0] [1, 2, 3] rfl rfl rfl (by decide)) ((pm_at 4 [0] [1, 2, 3] rfl rfl rfl (by decide))).symm (fun H locs hM hz => ?_)
      refine z_ifeq (tgt := 70) hx hb dX7_runScript_65 (by decide) (fun c_4 => ?_) (fun c_4 => absurd c_4 (by decide))
      refine lv_aload_n hx hb dX7_runScript_70 rfl (lv_at hl 0 rfl) ?_
      refine z_get (ci := 7) (v := .ref (a 3)) (C := RX7) (T := TX7) (N := 16) hx hb hts (by decide +kernel) hown hK hM 0 rfl rfl 3 (by decide) (hts (.fieldLink RX7 13 "ShiftIslesModel" "now" "[I") (by decide +kernel)) (fun _ h9 => h9) rfl dX7_runScript_71 ?_
      refine lv_iconst (v := nI 0) hx hb dX7_runScript_74 (by decide) ?_
      refine lv_aload_n hx hb dX7_runScript_75 rfl (lv_at hl 0 rfl) ?_
      refine z_get (ci := 7) (v := .ref (a 4)) (C := RX7) (T := TX7) (N := 16) hx hb hts (by decide +kernel) hown hK hM 0 rfl rfl 4 (by decide) (hts (.fieldLink RX7 16 "ShiftIslesModel" "trial" "[I") (by decide +kernel)) (fun _ h9 => h9) rfl dX7_runScript_76 ?_
      refine lv_iconst (v := nI 0) hx hb dX7_runScript_79 (by decide) ?_
      refine z_callS (As := [.ref (a 3), .int (nI 0), .ref (a 4), .int (nI 0)]) (rest := []) (wc := [((a 3), .inl (G.2 1, 121, .inl (flt h b))), ((a 4), .inl (G.2 1, 121, .inl F))]) (wr := [((a 0), .inr (7, [.int 0, .ref (a 1), .int (u 2), .ref (a 3), .ref (a 4), .ref (a 5), .ref (a 6), .int (u 7), .ref (a 8), .ref (a 9), .int (u 10), .int (u 11), .int (u 12), .long x, .int (u 14), .int (u 15)])), ((a 5), .inl (G.2 1, 121, .inl f))]) (w1 := [((a 3), .inl (G.2 1, 121, .inl (flt h b))), ((a 4), .inl (G.2 1, 121, .inl (cpv (flt h b) F 0 0 121)))]) (ws' := [((a 0), .inr (7, [.int 0, .ref (a 1), .int (u 2), .ref (a 3), .ref (a 4), .ref (a 5), .ref (a 6), .int (u 7), .ref (a 8), .ref (a 9), .int (u 10), .int (u 11), .int (u 12), .long x, .int (u 14), .int (u 15)])), ((a 3), .inl (G.2 1, 121, .inl (flt h b))), ((a 4), .inl (G.2 1, 121, .inl (cpv (flt h b) F 0 0 121))), ((a 5), .inl (G.2 1, 121, .inl f))]) ⟨hx, hb, hml, hown, hts⟩ (c_copyState l G (a 3) (a 4) 121 121 0 0 (flt h b) F (by omega) (by omega) (by decide) (by decide)) (va_cwS 4 hts gX7_runScript_X7_copyState rfl rfl rfl (by decide +kernel) ⟨Nat.le_of_ble_eq_true rfl, Nat.le_of_ble_eq_true rfl⟩) rfl hl.1 rfl (Nat.le_of_ble_eq_true rfl) dX7_runScript_80 ⟨Nat.le_of_ble_eq_true rfl, Nat.le_of_ble_eq_true rfl⟩ hK hE hA hM (pm_at 4 [1, 2] [0, 3] rfl rfl rfl (by decide)) ((pm_at 4 [1, 2] [0, 3] rfl rfl rfl (by decide))).symm (fun H locs hM hz => ?_)
      refine lv_iconst (v := nI 0) hx hb dX7_runScript_83 (by decide) ?_
      refine lv_istore (lv' := [(6, .int (nI 0)), (0, .ref (a 0)), (1, .int (nI N)), (2, .long x9), (4, .long (zPw N))]) hx hb dX7_runScript_84 hl (by decide) rfl (fun ls hl => ?_)
      have lp86 : ∀ (k2 : Nat) (i : Nat) (g1 : Nat → Int32) (d1 : Nat → Nat → Int32) (t1 e1 : Nat) (y1 y2 y3 : Int32) (g : Nat → Int32), (i + k2 = N) → (zGs g1 d1 P t1 S e1) → ((zScrU x9 N N 0 ((h, b), u 10, u 11, u 12, f)) = zScrU x9 N k2 i ((g1, d1), y1, y2, y3, g)) → (zScr x9 N N 0 (h, b) = zScr x9 N k2 i (g1, d1)) → ∀ (H : Heap) (locs : List Loc), zM G A s H locs ([((a 0), .inr (7, [.int 0, .ref (a 1), .int (u 2), .ref (a 3), .ref (a 4), .ref (a 5), .ref (a 6), .int (u 7), .ref (a 8), .ref (a 9), .int y1, .int y2, .int y3, .long x, .int (u 14), .int (u 15)])), ((a 3), .inl (G.2 1, 121, .inl (flt h b))), ((a 4), .inl (G.2 1, 121, .inl (flt g1 d1))), ((a 5), .inl (G.2 1, 121, .inl g))]) → ∀ ls : Array Slot, lv_has ls 8 [(0, .ref (a 0)), (1, .int (nI N)), (2, .long x9), (4, .long (zPw (N - i))), (6, .int (nI i))] → W p l e rmX7_runScript s m ([.ref (a 0), .int (nI N), .long x9] : List Value).toArray below meth c H locs 0 0 (zEnd G below ([.ref (a 0), .int (nI N), .long x9] : List Value).toArray s rmX7_runScript A (some (.int (zScr x9 N N 0 (h, b)))) ([((a 0), .inr (7, [.int 0, .ref (a 1), .int (u 2), .ref (a 3), .ref (a 4), .ref (a 5), .ref (a 6), .int (u 7), .ref (a 8), .ref (a 9), .int ((zScrU x9 N N 0 ((h, b), u 10, u 11, u 12, f)).2.1), .int ((zScrU x9 N N 0 ((h, b), u 10, u 11, u 12, f)).2.2.1), .int ((zScrU x9 N N 0 ((h, b), u 10, u 11, u 12, f)).2.2.2.1), .long x, .int (u 14), .int (u 15)])), ((a 3), .inl (G.2 1, 121, .inl (flt h b))), ((a 4), .inl (G.2 1, 121, .inl (flt (zScrU x9 N N 0 ((h, b), u 10, u 11, u 12, f)).1.1 (zScrU x9 N N 0 ((h, b), u 10, u 11, u 12, f)).1.2))), ((a 5), .inl (G.2 1, 121, .inl ((zScrU x9 N N 0 ((h, b), u 10, u 11, u 12, f)).2.2.2.2)))])) (F0 m 86 ls []) := by
        intro k2
        induction k2 with
        | zero =>
          intro i g1 d1 t1 e1 y1 y2 y3 g hik hG1 hR hAn H locs hM ls hl
          refine lv_iload hx hb dX7_runScript_86 (lv_at hl 4 rfl) ?_
          refine lv_iload_n hx hb dX7_runScript_88 rfl (lv_at hl 1 rfl) ?_
          refine lv_icmp_ge (tgt := 154) hx hb dX7_runScript_89 (by decide) (fun c_5 => ?_) (fun c_5 => absurd (nI_le (by omega) (by omega)) c_5)
          refine lv_iconst (v := (-1)) hx hb dX7_runScript_154 (by decide) ?_
          exact z_iret hx hb hr hlocks dX7_runScript_155 (by rw [hR]; exact hM) (Nat.le_of_ble_eq_true rfl) (Nat.le_of_ble_eq_true rfl) (by rw [hAn]; rfl)
        | succ k2 ihk2 =>
          intro i g1 d1 t1 e1 y1 y2 y3 g hik hG1 hR hAn H locs hM ls hl
          refine lv_iload hx hb dX7_runScript_86 (lv_at hl 4 rfl) ?_
          refine lv_iload_n hx hb dX7_runScript_88 rfl (lv_at hl 1 rfl) ?_
          refine lv_icmp_ge (tgt := 154) hx hb dX7_runScript_89 (by decide) (fun c_6 => absurd c_6 (nI_ge (by omega) (by omega))) (fun c_6 => ?_)
          refine lv_lload hx hb dX7_runScript_92 (lv_at hl 3 rfl) ?_
          refine lv_ldc2 (v := 10000) hx hb hown (hts (.constantLong RX7 227 10000) (by decide +kernel)) dX7_runScript_94 ?_
          refine lv_ldiv hx hb dX7_runScript_97 (by decide) ?_
          have hpd : zPw (N - i) / 10000 = zPw (N - (i + 1)) := by rw [show N - i = (N - (i + 1)) + 1 by omega]; exact zPw_d (by omega)
          refine z_topl (y := zPw (N - (i + 1))) hpd ?_
          refine lv_lstore (lv' := [(4, .long (zPw (N - (i + 1)))), (0, .ref (a 0)), (1, .int (nI N)), (2, .long x9), (6, .int (nI i))]) hx hb dX7_runScript_98 hl (by decide) rfl (fun ls hl => ?_)
          refine lv_lload_n hx hb dX7_runScript_100 rfl (lv_at hl 3 rfl) ?_
          refine lv_lload hx hb dX7_runScript_101 (lv_at hl 0 rfl) ?_
          refine lv_ldiv hx hb dX7_runScript_103 (zPw_n (by omega)) ?_
          refine lv_ldc2 (v := 10000) hx hb hown (hts (.constantLong RX7 227 10000) (by decide +kernel)) dX7_runScript_104 ?_
          refine lv_lrem hx hb dX7_runScript_107 (by decide) ?_
          refine lv_l2i (v := ((x9 / (zPw (N - (i + 1)))) - (x9 / (zPw (N - (i + 1)))) / 10000 * 10000).toInt32) hx hb dX7_runScript_108 rfl ?_
          have hgl := zGn_lt x9 (N - 1 - i)
          refine z_topi (y := nI (zGn x9 (N - 1 - i))) (by rw [show N - (i + 1) = N - 1 - i by omega]; exact zGn_e hx0 (by omega)) ?_
          refine lv_istore (lv' := [(7, .int (nI (zGn x9 (N - 1 - i)))), (4, .long (zPw (N - (i + 1)))), (0, .ref (a 0)), (1, .int (nI N)), (2, .long x9), (6, .int (nI i))]) hx hb dX7_runScript_109 hl (by decide) rfl (fun ls hl => ?_)
          refine lv_aload_n hx hb dX7_runScript_111 rfl (lv_at hl 2 rfl) ?_
          refine lv_iload hx hb dX7_runScript_112 (lv_at hl 0 rfl) ?_
          refine lv_sipush (v := 1000) hx hb dX7_runScript_114 (by decide) ?_
          refine lv_idiv hx hb dX7_runScript_117 (by decide) ?_
          refine z_topi (y := nI ((zGn x9 (N - 1 - i)) / 1000)) (pk_div (a := (zGn x9 (N - 1 - i))) (d := 1000) (by omega) (by decide) (by decide)) ?_
          refine lv_iload hx hb dX7_runScript_118 (lv_at hl 0 rfl) ?_
          refine lv_bipush (v := 100) hx hb dX7_runScript_120 (by decide) ?_
          refine lv_idiv hx hb dX7_runScript_122 (by decide) ?_
          refine z_topi (y := nI ((zGn x9 (N - 1 - i)) / 100)) (pk_div (a := (zGn x9 (N - 1 - i))) (d := 100) (by omega) (by decide) (by decide)) ?_
          refine lv_bipush (v := 10) hx hb dX7_runScript_123 (by decide) ?_
          refine lv_irem hx hb dX7_runScript_125 (by decide) ?_
          refine z_topi (y := nI (((zGn x9 (N - 1 - i)) / 100) % 10)) (pk_rem (a := ((zGn x9 (N - 1 - i)) / 100)) (d := 10) (by omega) (by decide) (by decide)) ?_
          refine lv_iload hx hb dX7_runScript_126 (lv_at hl 0 rfl) ?_
          refine lv_bipush (v := 10) hx hb dX7_runScript_128 (by decide) ?_
          refine lv_idiv hx hb dX7_runScript_130 (by decide) ?_
          refine z_topi (y := nI ((zGn x9 (N - 1 - i)) / 10)) (pk_div (a := (zGn x9 (N - 1 - i))) (d := 10) (by omega) (by decide) (by decide)) ?_
          refine lv_bipush (v := 10) hx hb dX7_runScript_131 (by decide) ?_
          refine lv_irem hx hb dX7_runScript_133 (by decide) ?_
          refine z_topi (y := nI (((zGn x9 (N - 1 - i)) / 10) % 10)) (pk_rem (a := ((zGn x9 (N - 1 - i)) / 10)) (d := 10) (by omega) (by decide) (by decide)) ?_
          refine lv_iload hx hb dX7_runScript_134 (lv_at hl 0 rfl) ?_
          refine lv_bipush (v := 10) hx hb dX7_runScript_136 (by decide) ?_
          refine lv_irem hx hb dX7_runScript_138 (by decide) ?_
          refine z_topi (y := nI ((zGn x9 (N - 1 - i)) % 10)) (pk_rem (a := (zGn x9 (N - 1 - i))) (d := 10) (by omega) (by decide) (by decide)) ?_
          refine z_callV (As := [.int (nI ((zGn x9 (N - 1 - i)) / 1000)), .int (nI (((zGn x9 (N - 1 - i)) / 100) % 10)), .int (nI (((zGn x9 (N - 1 - i)) / 10) % 10)), .int (nI ((zGn x9 (N - 1 - i)) % 10))]) (rest := []) (wc := [((a 0), .inr (7, [.int 0, .ref (a 1), .int (u 2), .ref (a 3), .ref (a 4), .ref (a 5), .ref (a 6), .int (u 7), .ref (a 8), .ref (a 9), .int y1, .int y2, .int y3, .long x, .int (u 14), .int (u 15)])), ((a 4), .inl (G.2 1, 121, .inl (flt g1 d1))), ((a 5), .inl (G.2 1, 121, .inl g))]) (wr := [((a 3), .inl (G.2 1, 121, .inl (flt h b)))]) (w1 := [((a 0), .inr (7, [.int 0, .ref (a 1), .int (u 2), .ref (a 3), .ref (a 4), .ref (a 5), .ref (a 6), .int (u 7), .ref (a 8), .ref (a 9), .int ((zCmdW ((zGn x9 (N - 1 - i)) / 1000) (((zGn x9 (N - 1 - i)) / 100) % 10) (((zGn x9 (N - 1 - i)) / 10) % 10) ((zGn x9 (N - 1 - i)) % 10) ((g1, d1), y1, y2, y3, g)).2.1), .int ((zCmdW ((zGn x9 (N - 1 - i)) / 1000) (((zGn x9 (N - 1 - i)) / 100) % 10) (((zGn x9 (N - 1 - i)) / 10) % 10) ((zGn x9 (N - 1 - i)) % 10) ((g1, d1), y1, y2, y3, g)).2.2.1), .int ((zCmdW ((zGn x9 (N - 1 - i)) / 1000) (((zGn x9 (N - 1 - i)) / 100) % 10) (((zGn x9 (N - 1 - i)) / 10) % 10) ((zGn x9 (N - 1 - i)) % 10) ((g1, d1), y1, y2, y3, g)).2.2.2.1), .long x, .int (u 14), .int (u 15)])), ((a 4), .inl (G.2 1, 121, .inl (flt (zCmdW ((zGn x9 (N - 1 - i)) / 1000) (((zGn x9 (N - 1 - i)) / 100) % 10) (((zGn x9 (N - 1 - i)) / 10) % 10) ((zGn x9 (N - 1 - i)) % 10) ((g1, d1), y1, y2, y3, g)).1.1 (zCmdW ((zGn x9 (N - 1 - i)) / 1000) (((zGn x9 (N - 1 - i)) / 100) % 10) (((zGn x9 (N - 1 - i)) / 10) % 10) ((zGn x9 (N - 1 - i)) % 10) ((g1, d1), y1, y2, y3, g)).1.2))), ((a 5), .inl (G.2 1, 121, .inl ((zCmdW ((zGn x9 (N - 1 - i)) / 1000) (((zGn x9 (N - 1 - i)) / 100) % 10) (((zGn x9 (N - 1 - i)) / 10) % 10) ((zGn x9 (N - 1 - i)) % 10) ((g1, d1), y1, y2, y3, g)).2.2.2.2)))]) (ws' := [((a 0), .inr (7, [.int 0, .ref (a 1), .int (u 2), .ref (a 3), .ref (a 4), .ref (a 5), .ref (a 6), .int (u 7), .ref (a 8), .ref (a 9), .int ((zCmdW ((zGn x9 (N - 1 - i)) / 1000) (((zGn x9 (N - 1 - i)) / 100) % 10) (((zGn x9 (N - 1 - i)) / 10) % 10) ((zGn x9 (N - 1 - i)) % 10) ((g1, d1), y1, y2, y3, g)).2.1), .int ((zCmdW ((zGn x9 (N - 1 - i)) / 1000) (((zGn x9 (N - 1 - i)) / 100) % 10) (((zGn x9 (N - 1 - i)) / 10) % 10) ((zGn x9 (N - 1 - i)) % 10) ((g1, d1), y1, y2, y3, g)).2.2.1), .int ((zCmdW ((zGn x9 (N - 1 - i)) / 1000) (((zGn x9 (N - 1 - i)) / 100) % 10) (((zGn x9 (N - 1 - i)) / 10) % 10) ((zGn x9 (N - 1 - i)) % 10) ((g1, d1), y1, y2, y3, g)).2.2.2.1), .long x, .int (u 14), .int (u 15)])), ((a 3), .inl (G.2 1, 121, .inl (flt h b))), ((a 4), .inl (G.2 1, 121, .inl (flt (zCmdW ((zGn x9 (N - 1 - i)) / 1000) (((zGn x9 (N - 1 - i)) / 100) % 10) (((zGn x9 (N - 1 - i)) / 10) % 10) ((zGn x9 (N - 1 - i)) % 10) ((g1, d1), y1, y2, y3, g)).1.1 (zCmdW ((zGn x9 (N - 1 - i)) / 1000) (((zGn x9 (N - 1 - i)) / 100) % 10) (((zGn x9 (N - 1 - i)) / 10) % 10) ((zGn x9 (N - 1 - i)) % 10) ((g1, d1), y1, y2, y3, g)).1.2))), ((a 5), .inl (G.2 1, 121, .inl ((zCmdW ((zGn x9 (N - 1 - i)) / 1000) (((zGn x9 (N - 1 - i)) / 100) % 10) (((zGn x9 (N - 1 - i)) / 10) % 10) ((zGn x9 (N - 1 - i)) % 10) ((g1, d1), y1, y2, y3, g)).2.2.2.2)))]) ⟨hx, hb, hml, hown, hts⟩ (c_command l G a (upd (upd (upd (upd u 0 0) 10 y1) 11 y2) 12 y3) x g g1 d1 P t1 S e1 hG1 (((zGn x9 (N - 1 - i)) / 100) % 10) (((zGn x9 (N - 1 - i)) / 10) % 10) ((zGn x9 (N - 1 - i)) % 10) (by omega) (by omega) (by omega) ((zGn x9 (N - 1 - i)) / 1000) (by omega)) (cwV 4 hts gX7_runScript_X7_command rfl rfl rfl (by decide +kernel) ⟨Nat.le_of_ble_eq_true rfl, Nat.le_of_ble_eq_true rfl⟩) 7 rfl rfl rfl rfl hl.1 rfl (Nat.le_of_ble_eq_true rfl) dX7_runScript_139 ⟨Nat.le_of_ble_eq_true rfl, Nat.le_of_ble_eq_true rfl⟩ hK hE hA hM (pm_at 4 [0, 2, 3] [1] rfl rfl rfl (by decide)) ((pm_at 4 [0, 2, 3] [1] rfl rfl rfl (by decide))).symm (fun H locs hM hz => ?_)
          refine z_ifne (tgt := 148) hx hb dX7_runScript_142 (by decide) (fun c_b => ?_) (fun c_b => ?_)
          · skip
            obtain ⟨h2, b2, z1, z2, z3, g2, t2, e2, hmv, hmv1, hG2⟩ := zCmdW_e (y1 := y1) (y2 := y2) (y3 := y3) (g := g) hG1 (by omega) (by omega) (by omega) c_b
            refine lv_iinc (v := nI (i + 1)) (lv' := [(6, .int (nI (i + 1))), (7, .int (nI (zGn x9 (N - 1 - i)))), (4, .long (zPw (N - (i + 1)))), (0, .ref (a 0)), (1, .int (nI N)), (2, .long x9)]) hx hb dX7_runScript_148 hl (k := 5) rfl (nI_1 i) (by decide) rfl (fun ls hl => ?_)
            refine lv_goto (tgt := 86) hx hb dX7_runScript_151 (by decide) ?_
            exact ihk2 (i + 1) _ _ t2 e2 _ _ _ _ (by omega) hG2 (by rw [hR, zScrU_y (t := ((g1, d1), y1, y2, y3, g)) c_b, hmv]) (by rw [hAn, zScr_y c_b, hmv1]) _ _ (by rw [zCmdW_y (t := ((g1, d1), y1, y2, y3, g)) c_b, hmv] at hM; exact hM) _ (lv_sub hl [3, 4, 5, 2, 0] rfl)
          · skip
            refine lv_iload hx hb dX7_runScript_145 (lv_at hl 5 rfl) ?_
            exact z_iret hx hb hr hlocks dX7_runScript_147 (by rw [hR, zScrU_n (t := ((g1, d1), y1, y2, y3, g)) c_b]; rw [zCmdW_n (t := ((g1, d1), y1, y2, y3, g)) c_b] at hM; exact hM) (Nat.le_of_ble_eq_true rfl) (Nat.le_of_ble_eq_true rfl) (by rw [hAn, zScr_n c_b])
      have hsim : zSim ([((a 0), .inr (7, [.int 0, .ref (a 1), .int (u 2), .ref (a 3), .ref (a 4), .ref (a 5), .ref (a 6), .int (u 7), .ref (a 8), .ref (a 9), .int (u 10), .int (u 11), .int (u 12), .long x, .int (u 14), .int (u 15)])), ((a 3), .inl (G.2 1, 121, .inl (flt h b))), ((a 4), .inl (G.2 1, 121, .inl (cpv (flt h b) F 0 0 121))), ((a 5), .inl (G.2 1, 121, .inl f))]) ([((a 0), .inr (7, [.int 0, .ref (a 1), .int (u 2), .ref (a 3), .ref (a 4), .ref (a 5), .ref (a 6), .int (u 7), .ref (a 8), .ref (a 9), .int (u 10), .int (u 11), .int (u 12), .long x, .int (u 14), .int (u 15)])), ((a 3), .inl (G.2 1, 121, .inl (flt h b))), ((a 4), .inl (G.2 1, 121, .inl (flt h b))), ((a 5), .inl (G.2 1, 121, .inl f))]) := ⟨zSame_rf _, zSame_rf _, zSame_arr cpv_all, zSame_rf _, trivial⟩
      exact lp86 N 0 _ _ t e0 _ _ _ _ (by omega) hG rfl rfl _ _ (zM_sim hsim hM) _ (lv_sub hl [1, 2, 3, 4, 0] rfl)
    | succ k1 ihk1 =>
      intro i hik H locs hM ls hl
      refine lv_iload hx hb dX7_runScript_6 (lv_at hl 4 rfl) ?_
      refine lv_iload_n hx hb dX7_runScript_8 rfl (lv_at hl 1 rfl) ?_
      refine lv_icmp_ge (tgt := 32) hx hb dX7_runScript_9 (by decide) (fun c_7 => absurd c_7 (nI_ge (by omega) (by omega))) (fun c_7 => ?_)
      refine lv_iload hx hb dX7_runScript_12 (lv_at hl 4 rfl) ?_
      refine lv_iconst (v := 3) hx hb dX7_runScript_14 (by decide) ?_
      refine z_topi (y := nI 3) rfl ?_
      refine lv_icmp_ge (tgt := 32) hx hb dX7_runScript_15 (by decide) (fun c_8 => absurd c_8 (nI_ge (by omega) (by decide))) (fun c_8 => ?_)
      refine lv_lload hx hb dX7_runScript_18 (lv_at hl 3 rfl) ?_
      refine lv_ldc2 (v := 10000) hx hb hown (hts (.constantLong RX7 227 10000) (by decide +kernel)) dX7_runScript_20 ?_
      refine lv_lmul hx hb dX7_runScript_23 ?_
      have hpw : zPw i * 10000 = zPw (i + 1) := zPw_s (by omega)
      refine z_topl (y := zPw (i + 1)) hpw ?_
      refine lv_lstore (lv' := [(4, .long (zPw (i + 1))), (0, .ref (a 0)), (1, .int (nI N)), (2, .long x9), (6, .int (nI i))]) hx hb dX7_runScript_24 hl (by decide) rfl (fun ls hl => ?_)
      refine lv_iinc (v := nI (i + 1)) (lv' := [(6, .int (nI (i + 1))), (4, .long (zPw (i + 1))), (0, .ref (a 0)), (1, .int (nI N)), (2, .long x9)]) hx hb dX7_runScript_26 hl (k := 4) rfl (nI_1 i) (by decide) rfl (fun ls hl => ?_)
      refine lv_goto (tgt := 6) hx hb dX7_runScript_29 (by decide) ?_
      exact ihk1 (i + 1) (by omega) _ _ hM _ (lv_sub hl [2, 3, 4, 1, 0] rfl)
  exact lp6 N 0 (by omega) _ _ hM _ (lv_sub hl [2, 3, 4, 1, 0] rfl)
