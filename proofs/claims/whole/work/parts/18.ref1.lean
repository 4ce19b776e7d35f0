/-! REFERENCE: the 121 numbers of a game, out of its head and its boards -/
def flt (h : Nat → Int32) (b : Nat → Nat → Int32) : Nat → Int32 := fun k => if k < 9 then h k else b ((k - 9) / 28) ((k - 9) % 28)
theorem flt_h {h : Nat → Int32} {b : Nat → Nat → Int32} {k : Nat} (hk : k < 9) : flt h b k = h k := by
  unfold flt
  rw [if_pos hk]
theorem flt_b {h : Nat → Int32} {b : Nat → Nat → Int32} {i : Nat} (p j : Nat) (hj : j < 28) (e : i = 9 + 28 * p + j) : flt h b i = b p j := by
  unfold flt
  rw [if_neg (by omega), show (i - 9) / 28 = p by omega, show (i - 9) % 28 = j by omega]
theorem flt_uh {h : Nat → Int32} {b : Nat → Nat → Int32} {k : Nat} {v : Int32} (hk : k < 9) : upd (flt h b) k v = flt (upd h k v) b := by
  funext i
  by_cases e : i = k
  · subst e
    rw [pk_us, flt_h hk, pk_us]
  · rw [pk_un e]
    by_cases hi : i < 9
    · rw [flt_h hi, flt_h hi, pk_un e]
    · unfold flt
      rw [if_neg hi, if_neg hi]
theorem flt_ub {h : Nat → Int32} {b : Nat → Nat → Int32} {k : Nat} {v : Int32} (p j : Nat) (hj : j < 28) (e : k = 9 + 28 * p + j) : upd (flt h b) k v = flt h (va_up b p (upd (b p) j v)) := by
  funext i
  by_cases ei : i = k
  · subst ei
    rw [pk_us, flt_b p j hj e]
    unfold va_up
    rw [if_pos rfl, pk_us]
  · rw [pk_un ei]
    by_cases hi : i < 9
    · rw [flt_h hi, flt_h hi]
    · have e2 : i = 9 + 28 * ((i - 9) / 28) + (i - 9) % 28 := by omega
      rw [flt_b _ _ (Nat.mod_lt _ (by decide)) e2, flt_b _ _ (Nat.mod_lt _ (by decide)) e2]
      unfold va_up
      by_cases ep : (i - 9) / 28 = p
      · rw [if_pos ep, ep, pk_un (by omega)]
      · rw [if_neg ep]
abbrev rfW (G : zC) (r : Nat) (h : Nat → Int32) (b : Nat → Nat → Int32) : va_W := [(r, .inl (G.2 1, 121, .inl (flt h b)))]
def zBw (f : Nat → Int32) : Prop := (∃ k, k ≤ 5 ∧ f 23 = nI k) ∧ (∃ k, k < 9 ∧ f 24 = nI k) ∧ (∀ i, i < 9 → ∃ k, k ≤ 5 ∧ f (9 + i) = nI k) ∧ (∀ i, i < 5 → ∃ k, k ≤ 5 ∧ f (18 + i) = nI k)
theorem zSo_e {f : Nat → Int32} {k : Nat} (hk : k ≤ 5) (e : f 23 = nI k) : zSo f = if k = 5 then -1 else f (18 + k) := by
  unfold zSo
  rw [e, nI_clamp (by omega)]
  by_cases h5 : k = 5
  · subst h5
    rw [if_neg (by decide), if_pos rfl]
  · rw [if_neg h5, if_pos]
    simp only [Bool.and_eq_true, Bool.not_eq_true', decide_eq_false_iff_not]
    exact ⟨nI_pos (by omega), nI_ge (a := k) (b := 5) (by omega) (by decide)⟩
theorem zFd_no {t : Nat → Int32} (v : Int32) : ∀ (k i : Nat), (∀ j, i ≤ j → j < i + k → ¬ t j = v) → zFd t v k i = -1
  | 0, _, _ => rfl
  | k + 1, i, h => by
    rw [zFd, if_neg (h i (Nat.le_refl i) (by omega))]
    exact zFd_no v k (i + 1) (fun j h1 h2 => h j (by omega) (by omega))
theorem nI_m1 {k : Nat} (h : k < 2 ^ 31) : ¬ nI k = -1 := by
  intro q
  have h1 := nI_pos h
  rw [q] at h1
  exact h1 (by decide)
theorem zSp_none {f : Nat → Int32} (hw : zBw f) (e : zSo f = -1) : zSp f = -1 := by
  unfold zSp
  refine zFd_no _ 9 0 (fun j _ hj q => ?_)
  obtain ⟨k, hk, ek⟩ := hw.2.2.1 j (by omega)
  rw [e] at q
  exact nI_m1 (k := k) (by omega) (ek.symm.trans q)
section ZL
variable {p : Program} {l : Launch} {e : Env} {R : Room} {s : State} {m : MethodId} {args : Array Value} {below : List Frame} {meth : Method} {c : Code} {H : Heap} {locs : List Loc} {cells slots : Nat} {Q : State → Prop}
variable {cc : ByteArray} {pc : Nat} {ls : Array Slot} {rest : List Value} {off : Int} {tgt : Nat} {x y : Int64}
theorem z_clt (hexec : p.tables.exec = Jvm.exec) (hb : c.code = cc) (hdg : decode cc pc = .ok (.ifCond .lt off, 3)) (ht : (pc : Int) + off = (tgt : Int)) (k1 : x < y → W p l e R s m args below meth c H locs cells slots Q (F0 m tgt ls rest)) (k2 : ¬ x < y → W p l e R s m args below meth c H locs cells slots Q (F0 m (pc + 3) ls rest)) : W p l e R s m args below meth c H locs cells slots Q (F0 m pc ls (.int (lg_cmp x y) :: rest)) :=
  lv_if_lt hexec hb hdg ht (fun h => k1 ((lg_cmp_lt x y).mp h)) (fun h => k2 (fun q => h ((lg_cmp_lt x y).mpr q)))
theorem z_cgt (hexec : p.tables.exec = Jvm.exec) (hb : c.code = cc) (hdg : decode cc pc = .ok (.ifCond .gt off, 3)) (ht : (pc : Int) + off = (tgt : Int)) (k1 : y < x → W p l e R s m args below meth c H locs cells slots Q (F0 m tgt ls rest)) (k2 : ¬ y < x → W p l e R s m args below meth c H locs cells slots Q (F0 m (pc + 3) ls rest)) : W p l e R s m args below meth c H locs cells slots Q (F0 m pc ls (.int (lg_cmp x y) :: rest)) :=
  lv_if_gt hexec hb hdg ht (fun h => k1 ((lg_cmp_gt x y).mp h)) (fun h => k2 (fun q => h ((lg_cmp_gt x y).mpr q)))
theorem z_cge (hexec : p.tables.exec = Jvm.exec) (hb : c.code = cc) (hdg : decode cc pc = .ok (.ifCond .ge off, 3)) (ht : (pc : Int) + off = (tgt : Int)) (k1 : y ≤ x → W p l e R s m args below meth c H locs cells slots Q (F0 m tgt ls rest)) (k2 : ¬ y ≤ x → W p l e R s m args below meth c H locs cells slots Q (F0 m (pc + 3) ls rest)) : W p l e R s m args below meth c H locs cells slots Q (F0 m pc ls (.int (lg_cmp x y) :: rest)) :=
  lv_if_ge hexec hb hdg ht (fun h => k1 ((lg_cmp_ge x y).mp h)) (fun h => k2 (fun q => h ((lg_cmp_ge x y).mpr q)))
theorem z_ceq (hexec : p.tables.exec = Jvm.exec) (hb : c.code = cc) (hdg : decode cc pc = .ok (.ifCond .eq off, 3)) (ht : (pc : Int) + off = (tgt : Int)) (k1 : x = y → W p l e R s m args below meth c H locs cells slots Q (F0 m tgt ls rest)) (k2 : ¬ x = y → W p l e R s m args below meth c H locs cells slots Q (F0 m (pc + 3) ls rest)) : W p l e R s m args below meth c H locs cells slots Q (F0 m pc ls (.int (lg_cmp x y) :: rest)) :=
  lv_if_eq hexec hb hdg ht (fun h => k1 ((lg_cmp_eq x y).mp h)) (fun h => k2 (fun q => h ((lg_cmp_eq x y).mpr q)))
end ZL
def zI0 (x y z : Int64) : Bool := !decide (x < y) && !decide (z < x)
theorem zI0_i (n : Int32) (a b : Int64) : zI0 n.toInt64 a b = (decide (a.toInt ≤ n.toInt) && decide (n.toInt ≤ b.toInt)) := by
  have h1 : n.toInt64 < a ↔ n.toInt < a.toInt := by rw [Int64.lt_iff_toInt_lt, Int32.toInt_toInt64]
  have h2 : b < n.toInt64 ↔ b.toInt < n.toInt := by rw [Int64.lt_iff_toInt_lt, Int32.toInt_toInt64]
  unfold zI0
  by_cases q1 : n.toInt < a.toInt <;> by_cases q2 : b.toInt < n.toInt <;> simp [h1, h2, q1, q2] <;> omega
theorem zRg (n : Int32) (lo hi : Int32) : (!decide (n < lo) && !decide (hi ≤ n)) = (decide (lo.toInt ≤ n.toInt) && decide (n.toInt ≤ hi.toInt - 1)) := by
  have h1 : n < lo ↔ n.toInt < lo.toInt := Int32.lt_iff_toInt_lt
  have h2 : hi ≤ n ↔ hi.toInt ≤ n.toInt := Int32.le_iff_toInt_le
  by_cases q1 : n.toInt < lo.toInt <;> by_cases q2 : hi.toInt ≤ n.toInt <;> simp [h1, h2, q1, q2] <;> omega
theorem zI0_pl (n : Int32) : zI0 n.toInt64 0 8 = zPl n := by
  rw [zI0_i, zPl, zRg]
  rfl
theorem zI0_li (n : Int32) : zI0 n.toInt64 0 5 = zLi n := by
  rw [zI0_i, zLi, zRg]
  rfl
theorem zI0_se (n : Int32) : zI0 n.toInt64 0 2 = zSe n := by
  rw [zI0_i, zSe, zRg]
  rfl
theorem zI0_sl (n : Int32) : zI0 n.toInt64 0 1 = zSl n := by
  rw [zI0_i, zSl, zRg]
  rfl
theorem zI0_di (n : Int32) : zI0 n.toInt64 0 1 = zDi n := by
  rw [zI0_i, zDi]
  have h0 : n = 0 ↔ n.toInt = 0 := by rw [← Int32.toInt_inj]; rfl
  have h1 : n = 1 ↔ n.toInt = 1 := by rw [← Int32.toInt_inj]; rfl
  rw [show (0 : Int64).toInt = 0 from rfl, show (1 : Int64).toInt = 1 from rfl]
  by_cases q0 : n.toInt = 0 <;> by_cases q1 : n.toInt = 1 <;> simp [h0, h1, q0, q1] <;> omega
theorem zI0_hp {h : Nat → Int32} {P : Nat} (hP : h 0 = nI P) (hP4 : P ≤ 4) (n : Int32) : zI0 n.toInt64 0 (h 0 - 1).toInt64 = zHp h n := by
  rw [zI0_i, zHp, zRg, hP, Int32.toInt_toInt64]
  have h5 : P = 0 ∨ P = 1 ∨ P = 2 ∨ P = 3 ∨ P = 4 := by omega
  rcases h5 with rfl | rfl | rfl | rfl | rfl <;> rfl
def zIl (n k : Nat) : Nat := if n < 3 then 3 * n + k else n - 3 + 3 * k
def zXg (u : Nat → Int32) (i j : Nat) : Nat → Int32 := upd (upd u i (u j)) j (u i)
theorem zXg_e (u : Nat → Int32) (i j : Nat) : zXg u i j = upd (upd u i (u j)) j (u i) := rfl
theorem va_upup {α : Type} (f : Nat → α) (k : Nat) (v w : α) : va_up (va_up f k v) k w = va_up f k w := by
  funext j
  unfold va_up
  by_cases e : j = k
  · rw [if_pos e, if_pos e]
  · rw [if_neg e, if_neg e, if_neg e]
theorem va_ups {α : Type} (f : Nat → α) (k : Nat) (v : α) : va_up f k v k = v := by unfold va_up; rw [if_pos rfl]
theorem zAl_e (f : Nat → Int32) (n d : Int32) : zAl f n d = (!decide (f 25 = n) && (!decide (f 26 = n) || decide (f 27 = d))) := by
  unfold zAl
  rw [decide_eq_decide.mpr (eq_comm (a := n) (b := f 25)), decide_eq_decide.mpr (eq_comm (a := n) (b := f 26)), decide_eq_decide.mpr (eq_comm (a := d) (b := f 27))]
  cases decide (f 25 = n) <;> cases decide (f 26 = n) <;> cases decide (f 27 = d) <;> rfl
theorem flt_sim {G : zC} {r : Nat} {h : Nat → Int32} {b : Nat → Nat → Int32} {k : Nat} {f g : Nat → Int32} (hfg : ∀ j, j < 28 → f j = g j) : zSim (rfW G r h (va_up b k f)) (rfW G r h (va_up b k g)) := by
  refine ⟨zSame_arr (fun i hi => ?_), trivial⟩
  by_cases h9 : i < 9
  · rw [flt_h h9, flt_h h9]
  · have e2 : i = 9 + 28 * ((i - 9) / 28) + (i - 9) % 28 := by omega
    rw [flt_b _ _ (Nat.mod_lt _ (by decide)) e2, flt_b _ _ (Nat.mod_lt _ (by decide)) e2]
    unfold va_up
    by_cases ep : (i - 9) / 28 = k
    · rw [if_pos ep, if_pos ep]
      exact hfg _ (Nat.mod_lt _ (by decide))
    · rw [if_neg ep, if_neg ep]
set_option maxHeartbeats 4000000 in
set_option maxRecDepth 100000 in
theorem c_in (l : Launch) (G : zC) (x y z : Int64) : zMet l G yX7_in wsX7_in rmX7_in [.long x, .long y, .long z] ([]) (some (.int (zb (zI0 x y z)))) ([]) := by
  refine zMet_of (cc := cX7_in) (maxL := 6) (ret := (some .boolean)) (by decide) rfl (Nat.le_of_ble_eq_true rfl) ?_
  intro p e s m below meth c A ls hx hb hr hml hown hts hK hA hE hlocks hin hM hl
  have hown : s.vm.findClass RX7 = some m.cls := hown
  have hM : zM G A s s.heap [] ([]) := hM
  have hl : lv_has ls 6 [(0, .long x), (2, .long y), (4, .long z)] := hl
  refine lv_lload_n hx hb dX7_in_0 rfl (lv_at hl 0 rfl) ?_
  refine lv_lload_n hx hb dX7_in_1 rfl (lv_at hl 1 rfl) ?_
  refine W.lcmp hx hb dX7_in_2 ?_
  refine z_clt (tgt := 17) hx hb dX7_in_3 (by decide) (fun c_1 => ?_) (fun c_1 => ?_)
  · skip
    refine lv_iconst (v := 0) hx hb dX7_in_17 (by decide) ?_
    exact z_zret hx hb hr hlocks dX7_in_18 hM (Nat.le_of_ble_eq_true rfl) (Nat.le_of_ble_eq_true rfl) (by first | exact Or.inl rfl | exact Or.inr rfl | exact zb_01 _) (by simp only [zb, zI0, decide_eq_true c_1] <;> rfl)
  · skip
    refine lv_lload_n hx hb dX7_in_6 rfl (lv_at hl 0 rfl) ?_
    refine lv_lload hx hb dX7_in_7 (lv_at hl 2 rfl) ?_
    refine W.lcmp hx hb dX7_in_9 ?_
    refine z_cgt (tgt := 17) hx hb dX7_in_10 (by decide) (fun c_2 => ?_) (fun c_2 => ?_)
    · skip
      refine lv_iconst (v := 0) hx hb dX7_in_17 (by decide) ?_
      exact z_zret hx hb hr hlocks dX7_in_18 hM (Nat.le_of_ble_eq_true rfl) (Nat.le_of_ble_eq_true rfl) (by first | exact Or.inl rfl | exact Or.inr rfl | exact zb_01 _) (by simp only [zb, zI0, decide_eq_false c_1, decide_eq_true c_2] <;> rfl)
    · skip
      refine lv_iconst (v := 1) hx hb dX7_in_13 (by decide) ?_
      refine lv_goto (tgt := 18) hx hb dX7_in_14 (by decide) ?_
      exact z_zret hx hb hr hlocks dX7_in_18 hM (Nat.le_of_ble_eq_true rfl) (Nat.le_of_ble_eq_true rfl) (by first | exact Or.inl rfl | exact Or.inr rfl | exact zb_01 _) (by simp only [zb, zI0, decide_eq_false c_1, decide_eq_false c_2] <;> rfl)

set_option maxHeartbeats 4000000 in
set_option maxRecDepth 100000 in
theorem c_r_isPlace (l : Launch) (G : zC) (n : Int32) : zMet l G yX7_isPlace wsX7_isPlace rmX7_isPlace [.int n] ([]) (some (.int (zb (zPl n)))) ([]) := by
  refine zMet_of (cc := cX7_isPlace) (maxL := 1) (ret := (some .boolean)) (by decide) rfl (Nat.le_of_ble_eq_true rfl) ?_
  intro p e s m below meth c A ls hx hb hr hml hown hts hK hA hE hlocks hin hM hl
  have hown : s.vm.findClass RX7 = some m.cls := hown
  have hM : zM G A s s.heap [] ([]) := hM
  have hl : lv_has ls 1 [(0, .int n)] := hl
  refine lv_iload_n hx hb dX7_isPlace_0 rfl (lv_at hl 0 rfl) ?_
  refine lv_i2l (v := n.toInt64) hx hb dX7_isPlace_1 rfl ?_
  refine lv_lconst (v := 0) hx hb dX7_isPlace_2 (by decide) ?_
  refine lv_ldc2 (v := 8) hx hb hown (hts (.constantLong RX7 44 8) (by decide +kernel)) dX7_isPlace_3 ?_
  refine z_callS (As := [.long n.toInt64, .long 0, .long 8]) (rest := []) (wc := []) (wr := []) (w1 := []) (ws' := []) ⟨hx, hb, hml, hown, hts⟩ (c_in l G n.toInt64 0 8) (va_cwS 3 hts gX7_isPlace_X7_in rfl rfl rfl (by decide +kernel) ⟨Nat.le_of_ble_eq_true rfl, Nat.le_of_ble_eq_true rfl⟩) rfl hl.1 rfl (Nat.le_of_ble_eq_true rfl) dX7_isPlace_6 ⟨Nat.le_of_ble_eq_true rfl, Nat.le_of_ble_eq_true rfl⟩ hK hE hA hM (List.Perm.refl _) (List.Perm.refl _) (fun H locs hM hz => ?_)
  exact z_zret hx hb hr hlocks dX7_isPlace_9 hM (Nat.le_of_ble_eq_true rfl) (Nat.le_of_ble_eq_true rfl) (by first | exact Or.inl rfl | exact Or.inr rfl | exact zb_01 _) (by rw [← zI0_pl])

set_option maxHeartbeats 4000000 in
set_option maxRecDepth 100000 in
theorem c_r_isLine (l : Launch) (G : zC) (n : Int32) : zMet l G yX7_isLine wsX7_isLine rmX7_isLine [.int n] ([]) (some (.int (zb (zLi n)))) ([]) := by
  refine zMet_of (cc := cX7_isLine) (maxL := 1) (ret := (some .boolean)) (by decide) rfl (Nat.le_of_ble_eq_true rfl) ?_
  intro p e s m below meth c A ls hx hb hr hml hown hts hK hA hE hlocks hin hM hl
  have hown : s.vm.findClass RX7 = some m.cls := hown
  have hM : zM G A s s.heap [] ([]) := hM
  have hl : lv_has ls 1 [(0, .int n)] := hl
  refine lv_iload_n hx hb dX7_isLine_0 rfl (lv_at hl 0 rfl) ?_
  refine lv_i2l (v := n.toInt64) hx hb dX7_isLine_1 rfl ?_
  refine lv_lconst (v := 0) hx hb dX7_isLine_2 (by decide) ?_
  refine lv_ldc2 (v := 5) hx hb hown (hts (.constantLong RX7 46 5) (by decide +kernel)) dX7_isLine_3 ?_
  refine z_callS (As := [.long n.toInt64, .long 0, .long 5]) (rest := []) (wc := []) (wr := []) (w1 := []) (ws' := []) ⟨hx, hb, hml, hown, hts⟩ (c_in l G n.toInt64 0 5) (va_cwS 3 hts gX7_isLine_X7_in rfl rfl rfl (by decide +kernel) ⟨Nat.le_of_ble_eq_true rfl, Nat.le_of_ble_eq_true rfl⟩) rfl hl.1 rfl (Nat.le_of_ble_eq_true rfl) dX7_isLine_6 ⟨Nat.le_of_ble_eq_true rfl, Nat.le_of_ble_eq_true rfl⟩ hK hE hA hM (List.Perm.refl _) (List.Perm.refl _) (fun H locs hM hz => ?_)
  exact z_zret hx hb hr hlocks dX7_isLine_9 hM (Nat.le_of_ble_eq_true rfl) (Nat.le_of_ble_eq_true rfl) (by first | exact Or.inl rfl | exact Or.inr rfl | exact zb_01 _) (by rw [← zI0_li])

set_option maxHeartbeats 4000000 in
set_option maxRecDepth 100000 in
theorem c_r_isPlayer (l : Launch) (G : zC) (r : Nat) (h : Nat → Int32) (b : Nat → Nat → Int32) (P : Nat) (hP : h 0 = nI P) (hP4 : P ≤ 4) (n : Int32) : zMet l G yX7_isPlayer wsX7_isPlayer rmX7_isPlayer [.ref r, .int n] (rfW G r h b) (some (.int (zb (zHp h n)))) (rfW G r h b) := by
  refine zMet_of (cc := cX7_isPlayer) (maxL := 2) (ret := (some .boolean)) (by decide) rfl (Nat.le_of_ble_eq_true rfl) ?_
  intro p e s m below meth c A ls hx hb hr hml hown hts hK hA hE hlocks hin hM hl
  have hown : s.vm.findClass RX7 = some m.cls := hown
  have hM : zM G A s s.heap [] ([(r, .inl (G.2 1, 121, .inl (flt h b)))]) := hM
  have hl : lv_has ls 2 [(0, .ref r), (1, .int n)] := hl
  refine lv_iload_n hx hb dX7_isPlayer_0 rfl (lv_at hl 1 rfl) ?_
  refine lv_i2l (v := n.toInt64) hx hb dX7_isPlayer_1 rfl ?_
  refine lv_lconst (v := 0) hx hb dX7_isPlayer_2 (by decide) ?_
  refine lv_aload_n hx hb dX7_isPlayer_3 rfl (lv_at hl 0 rfl) ?_
  refine lv_iconst (v := 0) hx hb dX7_isPlayer_4 (by decide) ?_
  refine z_iald hx hb hK hM 0 rfl (v := h 0) (vp_in_nI (n := 0) (by decide) (by decide)) (flt_h (k := 0) (by decide)) dX7_isPlayer_5 ?_
  refine lv_iconst (v := 1) hx hb dX7_isPlayer_6 (by decide) ?_
  refine lv_isub hx hb dX7_isPlayer_7 ?_
  refine lv_i2l (v := ((h 0) - 1).toInt64) hx hb dX7_isPlayer_8 rfl ?_
  refine z_callS (As := [.long n.toInt64, .long 0, .long (((h 0) - 1).toInt64)]) (rest := []) (wc := []) (wr := [(r, .inl (G.2 1, 121, .inl (flt h b)))]) (w1 := []) (ws' := [(r, .inl (G.2 1, 121, .inl (flt h b)))]) ⟨hx, hb, hml, hown, hts⟩ (c_in l G n.toInt64 0 (((h 0) - 1).toInt64)) (va_cwS 3 hts gX7_isPlayer_X7_in rfl rfl rfl (by decide +kernel) ⟨Nat.le_of_ble_eq_true rfl, Nat.le_of_ble_eq_true rfl⟩) rfl hl.1 rfl (Nat.le_of_ble_eq_true rfl) dX7_isPlayer_9 ⟨Nat.le_of_ble_eq_true rfl, Nat.le_of_ble_eq_true rfl⟩ hK hE hA hM (List.Perm.refl _) (List.Perm.refl _) (fun H locs hM hz => ?_)
  exact z_zret hx hb hr hlocks dX7_isPlayer_12 hM (Nat.le_of_ble_eq_true rfl) (Nat.le_of_ble_eq_true rfl) (by first | exact Or.inl rfl | exact Or.inr rfl | exact zb_01 _) (by rw [← zI0_hp hP hP4])

set_option maxHeartbeats 4000000 in
set_option maxRecDepth 100000 in
theorem c_r_isOn (l : Launch) (G : zC) (r : Nat) (h : Nat → Int32) (b : Nat → Nat → Int32) : zMet l G yX7_isOn wsX7_isOn rmX7_isOn [.ref r] (rfW G r h b) (some (.int (zb (zRu h)))) (rfW G r h b) := by
  refine zMet_of (cc := cX7_isOn) (maxL := 1) (ret := (some .boolean)) (by decide) rfl (Nat.le_of_ble_eq_true rfl) ?_
  intro p e s m below meth c A ls hx hb hr hml hown hts hK hA hE hlocks hin hM hl
  have hown : s.vm.findClass RX7 = some m.cls := hown
  have hM : zM G A s s.heap [] ([(r, .inl (G.2 1, 121, .inl (flt h b)))]) := hM
  have hl : lv_has ls 1 [(0, .ref r)] := hl
  refine lv_aload_n hx hb dX7_isOn_0 rfl (lv_at hl 0 rfl) ?_
  refine lv_iconst (v := 0) hx hb dX7_isOn_1 (by decide) ?_
  refine z_iald hx hb hK hM 0 rfl (v := h 0) (vp_in_nI (n := 0) (by decide) (by decide)) (flt_h (k := 0) (by decide)) dX7_isOn_2 ?_
  refine lv_if_le (tgt := 16) hx hb dX7_isOn_3 (by decide) (fun c_1 => ?_) (fun c_1 => ?_)
  · skip
    refine lv_iconst (v := 0) hx hb dX7_isOn_16 (by decide) ?_
    exact z_zret hx hb hr hlocks dX7_isOn_17 hM (Nat.le_of_ble_eq_true rfl) (Nat.le_of_ble_eq_true rfl) (by first | exact Or.inl rfl | exact Or.inr rfl | exact zb_01 _) (by simp only [zb, zRu, decide_eq_true c_1] <;> rfl)
  · skip
    refine lv_aload_n hx hb dX7_isOn_6 rfl (lv_at hl 0 rfl) ?_
    refine lv_iconst (v := 4) hx hb dX7_isOn_7 (by decide) ?_
    refine z_iald hx hb hK hM 0 rfl (v := h 4) (vp_in_nI (n := 4) (by decide) (by decide)) (flt_h (k := 4) (by decide)) dX7_isOn_8 ?_
    refine lv_if_ne (tgt := 16) hx hb dX7_isOn_9 (by decide) (fun c_2 => ?_) (fun c_2 => ?_)
    · skip
      refine lv_iconst (v := 0) hx hb dX7_isOn_16 (by decide) ?_
      exact z_zret hx hb hr hlocks dX7_isOn_17 hM (Nat.le_of_ble_eq_true rfl) (Nat.le_of_ble_eq_true rfl) (by first | exact Or.inl rfl | exact Or.inr rfl | exact zb_01 _) (by simp only [zb, zRu, decide_eq_false c_1, decide_eq_false c_2] <;> rfl)
    · skip
      refine lv_iconst (v := 1) hx hb dX7_isOn_12 (by decide) ?_
      refine lv_goto (tgt := 17) hx hb dX7_isOn_13 (by decide) ?_
      exact z_zret hx hb hr hlocks dX7_isOn_17 hM (Nat.le_of_ble_eq_true rfl) (Nat.le_of_ble_eq_true rfl) (by first | exact Or.inl rfl | exact Or.inr rfl | exact zb_01 _) (by simp only [zb, zRu, decide_eq_false c_1, decide_eq_true c_2] <;> rfl)

set_option maxHeartbeats 4000000 in
set_option maxRecDepth 100000 in
theorem c_at (l : Launch) (G : zC) (k : Nat) (hk : k < 1000) : zMet l G yX7_at wsX7_at rmX7_at [.int (nI k)] ([]) (some (.int (nI (9 + (28 * k))))) ([]) := by
  refine zMet_of (cc := cX7_at) (maxL := 1) (ret := (some .int)) (by decide) rfl (Nat.le_of_ble_eq_true rfl) ?_
  intro p e s m below meth c A ls hx hb hr hml hown hts hK hA hE hlocks hin hM hl
  have hown : s.vm.findClass RX7 = some m.cls := hown
  have hM : zM G A s s.heap [] ([]) := hM
  have hl : lv_has ls 1 [(0, .int (nI k))] := hl
  refine lv_bipush (v := 9) hx hb dX7_at_0 (by decide) ?_
  refine lv_bipush (v := 28) hx hb dX7_at_2 (by decide) ?_
  refine lv_iload_n hx hb dX7_at_4 rfl (lv_at hl 0 rfl) ?_
  refine lv_imul hx hb dX7_at_5 ?_
  refine z_topi (y := nI (28 * k)) (pk_mul 28 k) ?_
  refine lv_iadd hx hb dX7_at_6 ?_
  refine z_topi (y := nI (9 + (28 * k))) (nI_add 9 (28 * k)) ?_
  exact z_iret hx hb hr hlocks dX7_at_7 hM (Nat.le_of_ble_eq_true rfl) (Nat.le_of_ble_eq_true rfl) rfl

set_option maxHeartbeats 4000000 in
set_option maxRecDepth 100000 in
theorem c_r_sought (l : Launch) (G : zC) (r : Nat) (h : Nat → Int32) (b : Nat → Nat → Int32) (k : Nat) (hk : k < 4) (hw : zBw (b k)) : zMet l G yX7_sought wsX7_sought rmX7_sought [.ref r, .int (nI k)] (rfW G r h b) (some (.int (zSo (b k)))) (rfW G r h b) := by
  refine zMet_of (cc := cX7_sought) (maxL := 3) (ret := (some .int)) (by decide) rfl (Nat.le_of_ble_eq_true rfl) ?_
  intro p e s m below meth c A ls hx hb hr hml hown hts hK hA hE hlocks hin hM hl
  have hown : s.vm.findClass RX7 = some m.cls := hown
  have hM : zM G A s s.heap [] ([(r, .inl (G.2 1, 121, .inl (flt h b)))]) := hM
  have hl : lv_has ls 3 [(0, .ref r), (1, .int (nI k))] := hl
  obtain ⟨j, hj, ej⟩ := hw.1
  refine lv_aload_n hx hb dX7_sought_0 rfl (lv_at hl 0 rfl) ?_
  refine lv_iload_n hx hb dX7_sought_1 rfl (lv_at hl 1 rfl) ?_
  refine z_callS (As := [.int (nI k)]) (rest := [.ref r]) (wc := []) (wr := [(r, .inl (G.2 1, 121, .inl (flt h b)))]) (w1 := []) (ws' := [(r, .inl (G.2 1, 121, .inl (flt h b)))]) ⟨hx, hb, hml, hown, hts⟩ (c_at l G k (by omega)) (va_cwS 1 hts gX7_sought_X7_at rfl rfl rfl (by decide +kernel) ⟨Nat.le_of_ble_eq_true rfl, Nat.le_of_ble_eq_true rfl⟩) rfl hl.1 rfl (Nat.le_of_ble_eq_true rfl) dX7_sought_2 ⟨Nat.le_of_ble_eq_true rfl, Nat.le_of_ble_eq_true rfl⟩ hK hE hA hM (List.Perm.refl _) (List.Perm.refl _) (fun H locs hM hz => ?_)
  refine lv_bipush (v := 23) hx hb dX7_sought_5 (by decide) ?_
  refine lv_iadd hx hb dX7_sought_7 ?_
  refine z_topi (y := nI ((9 + (28 * k)) + 23)) (nI_add (9 + (28 * k)) 23) ?_
  refine z_iald hx hb hK hM 0 rfl (v := b k 23) (vp_in_nI (by omega) (by decide)) (by rw [nI_clamp (by omega)]; exact flt_b k 23 (by omega) (by omega)) dX7_sought_8 ?_
  refine z_topi (y := nI j) ej ?_
  refine lv_istore_n (lv' := [(2, .int (nI j)), (0, .ref r), (1, .int (nI k))]) hx hb dX7_sought_9 rfl hl (by decide) rfl (fun ls hl => ?_)
  refine lv_iload_n hx hb dX7_sought_10 rfl (lv_at hl 0 rfl) ?_
  refine lv_iconst (v := 5) hx hb dX7_sought_11 (by decide) ?_
  refine z_topi (y := nI 5) rfl ?_
  refine lv_icmp_ne (tgt := 19) hx hb dX7_sought_12 (by decide) (fun c_5 => ?_) (fun c_5 => ?_)
  · skip
    refine lv_aload_n hx hb dX7_sought_19 rfl (lv_at hl 1 rfl) ?_
    refine lv_iload_n hx hb dX7_sought_20 rfl (lv_at hl 2 rfl) ?_
    refine z_callS (As := [.int (nI k)]) (rest := [.ref r]) (wc := []) (wr := [(r, .inl (G.2 1, 121, .inl (flt h b)))]) (w1 := []) (ws' := [(r, .inl (G.2 1, 121, .inl (flt h b)))]) ⟨hx, hb, hml, hown, hts⟩ (c_at l G k (by omega)) (va_cwS 1 hts gX7_sought_X7_at rfl rfl rfl (by decide +kernel) ⟨Nat.le_of_ble_eq_true rfl, Nat.le_of_ble_eq_true rfl⟩) rfl hl.1 rfl (Nat.le_of_ble_eq_true rfl) dX7_sought_21 ⟨Nat.le_of_ble_eq_true rfl, Nat.le_of_ble_eq_true rfl⟩ hK hE hA hM (List.Perm.refl _) (List.Perm.refl _) (fun H locs hM hz => ?_)
    refine lv_bipush (v := 18) hx hb dX7_sought_24 (by decide) ?_
    refine lv_iadd hx hb dX7_sought_26 ?_
    refine z_topi (y := nI ((9 + (28 * k)) + 18)) (nI_add (9 + (28 * k)) 18) ?_
    refine lv_iload_n hx hb dX7_sought_27 rfl (lv_at hl 0 rfl) ?_
    refine lv_iadd hx hb dX7_sought_28 ?_
    refine z_topi (y := nI (((9 + (28 * k)) + 18) + j)) (nI_add ((9 + (28 * k)) + 18) j) ?_
    refine z_iald hx hb hK hM 0 rfl (v := b k (18 + j)) (vp_in_nI (by omega) (by decide)) (by rw [nI_clamp (by omega)]; exact flt_b k (18 + j) (by omega) (by omega)) dX7_sought_29 ?_
    exact z_iret hx hb hr hlocks dX7_sought_30 hM (Nat.le_of_ble_eq_true rfl) (Nat.le_of_ble_eq_true rfl) (by rw [zSo_e hj ej, if_neg (fun q => c_5 (by rw [q]))])
  · skip
    refine lv_iconst (v := (-1)) hx hb dX7_sought_15 (by decide) ?_
    refine lv_goto (tgt := 30) hx hb dX7_sought_16 (by decide) ?_
    exact z_iret hx hb hr hlocks dX7_sought_30 hM (Nat.le_of_ble_eq_true rfl) (Nat.le_of_ble_eq_true rfl) (by rw [zSo_e hj ej, if_pos ((nI_eq (a := j) (b := 5) (by omega) (by decide)).mp c_5)])

set_option maxHeartbeats 4000000 in
set_option maxRecDepth 100000 in
theorem c_r_pos (l : Launch) (G : zC) (r : Nat) (h : Nat → Int32) (b : Nat → Nat → Int32) (k : Nat) (hk : k < 4) (hw : zBw (b k)) : zMet l G yX7_placeOfSought wsX7_placeOfSought rmX7_placeOfSought [.ref r, .int (nI k)] (rfW G r h b) (some (.int (zSp (b k)))) (rfW G r h b) := by
  refine zMet_of (cc := cX7_placeOfSought) (maxL := 4) (ret := (some .int)) (by decide) rfl (Nat.le_of_ble_eq_true rfl) ?_
  intro p e s m below meth c A ls hx hb hr hml hown hts hK hA hE hlocks hin hM hl
  have hown : s.vm.findClass RX7 = some m.cls := hown
  have hM : zM G A s s.heap [] ([(r, .inl (G.2 1, 121, .inl (flt h b)))]) := hM
  have hl : lv_has ls 4 [(0, .ref r), (1, .int (nI k))] := hl
  refine lv_aload_n hx hb dX7_placeOfSought_0 rfl (lv_at hl 0 rfl) ?_
  refine lv_iload_n hx hb dX7_placeOfSought_1 rfl (lv_at hl 1 rfl) ?_
  refine z_callS (As := [.ref r, .int (nI k)]) (rest := []) (wc := rfW G r h b) (wr := []) (w1 := rfW G r h b) (ws' := [(r, .inl (G.2 1, 121, .inl (flt h b)))]) ⟨hx, hb, hml, hown, hts⟩ (c_r_sought l G r h b k (by omega) hw) (va_cwS 2 hts gX7_placeOfSought_X7_sought rfl rfl rfl (by decide +kernel) ⟨Nat.le_of_ble_eq_true rfl, Nat.le_of_ble_eq_true rfl⟩) rfl hl.1 rfl (Nat.le_of_ble_eq_true rfl) dX7_placeOfSought_2 ⟨Nat.le_of_ble_eq_true rfl, Nat.le_of_ble_eq_true rfl⟩ hK hE hA hM (pm_at 1 [0] [] rfl rfl rfl (by decide)) ((pm_at 1 [0] [] rfl rfl rfl (by decide))).symm (fun H locs hM hz => ?_)
  refine lv_istore_n (lv' := [(2, .int (zSo (b k))), (0, .ref r), (1, .int (nI k))]) hx hb dX7_placeOfSought_5 rfl hl (by decide) rfl (fun ls hl => ?_)
  refine lv_iconst (v := nI 0) hx hb dX7_placeOfSought_6 (by decide) ?_
  refine lv_istore_n (lv' := [(3, .int (nI 0)), (2, .int (zSo (b k))), (0, .ref r), (1, .int (nI k))]) hx hb dX7_placeOfSought_7 rfl hl (by decide) rfl (fun ls hl => ?_)
  have lp8 : ∀ (k2 : Nat) (i : Nat), (i + k2 = 9) → (¬ zSo (b k) = -1 → zSp (b k) = zFd (fun i => b k (9 + i)) (zSo (b k)) k2 i) → ∀ (H : Heap) (locs : List Loc), zM G A s H locs ([(r, .inl (G.2 1, 121, .inl (flt h b)))]) → ∀ ls : Array Slot, lv_has ls 4 [(0, .ref r), (1, .int (nI k)), (2, .int (zSo (b k))), (3, .int (nI i))] → W p l e rmX7_placeOfSought s m ([.ref r, .int (nI k)] : List Value).toArray below meth c H locs 0 0 (zEnd G below ([.ref r, .int (nI k)] : List Value).toArray s rmX7_placeOfSought A (some (.int (zSp (b k)))) (rfW G r h b)) (F0 m 8 ls []) := by
    intro k2
    induction k2 with
    | zero =>
      intro i hik hR H locs hM ls hl
      refine lv_iload_n hx hb dX7_placeOfSought_8 rfl (lv_at hl 3 rfl) ?_
      refine lv_bipush (v := 9) hx hb dX7_placeOfSought_9 (by decide) ?_
      refine z_topi (y := nI 9) rfl ?_
      refine lv_icmp_ge (tgt := 42) hx hb dX7_placeOfSought_11 (by decide) (fun c_1 => ?_) (fun c_1 => absurd (nI_le (by omega) (by omega)) c_1)
      refine lv_iconst (v := (-1)) hx hb dX7_placeOfSought_42 (by decide) ?_
      exact z_iret hx hb hr hlocks dX7_placeOfSought_43 hM (Nat.le_of_ble_eq_true rfl) (Nat.le_of_ble_eq_true rfl) (by by_cases q : zSo (b k) = -1 <;> first | rw [zSp_none hw q] | (rw [hR q]; rfl))
    | succ k2 ihk2 =>
      intro i hik hR H locs hM ls hl
      refine lv_iload_n hx hb dX7_placeOfSought_8 rfl (lv_at hl 3 rfl) ?_
      refine lv_bipush (v := 9) hx hb dX7_placeOfSought_9 (by decide) ?_
      refine z_topi (y := nI 9) rfl ?_
      refine lv_icmp_ge (tgt := 42) hx hb dX7_placeOfSought_11 (by decide) (fun c_2 => absurd c_2 (nI_ge (by omega) (by omega))) (fun c_2 => ?_)
      refine lv_iload_n hx hb dX7_placeOfSought_14 rfl (lv_at hl 2 rfl) ?_
      refine lv_iconst (v := (-1)) hx hb dX7_placeOfSought_15 (by decide) ?_
      refine lv_icmp_eq (tgt := 36) hx hb dX7_placeOfSought_16 (by decide) (fun c_s => ?_) (fun c_s => ?_)
      · skip
        refine lv_iinc (v := nI (i + 1)) (lv' := [(3, .int (nI (i + 1))), (0, .ref r), (1, .int (nI k)), (2, .int (zSo (b k)))]) hx hb dX7_placeOfSought_36 hl (k := 3) rfl (nI_1 i) (by decide) rfl (fun ls hl => ?_)
        refine lv_goto (tgt := 8) hx hb dX7_placeOfSought_39 (by decide) ?_
        exact ihk2 (i + 1) (by omega) (fun q => absurd c_s q) _ _ hM _ (lv_sub hl [1, 2, 3, 0] rfl)
      · skip
        refine lv_aload_n hx hb dX7_placeOfSought_19 rfl (lv_at hl 0 rfl) ?_
        refine lv_iload_n hx hb dX7_placeOfSought_20 rfl (lv_at hl 1 rfl) ?_
        refine z_callS (As := [.int (nI k)]) (rest := [.ref r]) (wc := []) (wr := [(r, .inl (G.2 1, 121, .inl (flt h b)))]) (w1 := []) (ws' := [(r, .inl (G.2 1, 121, .inl (flt h b)))]) ⟨hx, hb, hml, hown, hts⟩ (c_at l G k (by omega)) (va_cwS 1 hts gX7_placeOfSought_X7_at rfl rfl rfl (by decide +kernel) ⟨Nat.le_of_ble_eq_true rfl, Nat.le_of_ble_eq_true rfl⟩) rfl hl.1 rfl (Nat.le_of_ble_eq_true rfl) dX7_placeOfSought_21 ⟨Nat.le_of_ble_eq_true rfl, Nat.le_of_ble_eq_true rfl⟩ hK hE hA hM (List.Perm.refl _) (List.Perm.refl _) (fun H locs hM hz => ?_)
        refine lv_bipush (v := 9) hx hb dX7_placeOfSought_24 (by decide) ?_
        refine lv_iadd hx hb dX7_placeOfSought_26 ?_
        refine z_topi (y := nI ((9 + (28 * k)) + 9)) (nI_add (9 + (28 * k)) 9) ?_
        refine lv_iload_n hx hb dX7_placeOfSought_27 rfl (lv_at hl 3 rfl) ?_
        refine lv_iadd hx hb dX7_placeOfSought_28 ?_
        refine z_topi (y := nI (((9 + (28 * k)) + 9) + i)) (nI_add ((9 + (28 * k)) + 9) i) ?_
        refine z_iald hx hb hK hM 0 rfl (v := b k (9 + i)) (vp_in_nI (by omega) (by decide)) (by rw [nI_clamp (by omega)]; exact flt_b k (9 + i) (by omega) (by omega)) dX7_placeOfSought_29 ?_
        refine lv_iload_n hx hb dX7_placeOfSought_30 rfl (lv_at hl 2 rfl) ?_
        refine lv_icmp_ne (tgt := 36) hx hb dX7_placeOfSought_31 (by decide) (fun c_v => ?_) (fun c_v => ?_)
        · skip
          refine lv_iinc (v := nI (i + 1)) (lv' := [(3, .int (nI (i + 1))), (0, .ref r), (1, .int (nI k)), (2, .int (zSo (b k)))]) hx hb dX7_placeOfSought_36 hl (k := 3) rfl (nI_1 i) (by decide) rfl (fun ls hl => ?_)
          refine lv_goto (tgt := 8) hx hb dX7_placeOfSought_39 (by decide) ?_
          exact ihk2 (i + 1) (by omega) (fun q => (by rw [hR q, zFd, if_neg c_v])) _ _ hM _ (lv_sub hl [1, 2, 3, 0] rfl)
        · skip
          refine lv_iload_n hx hb dX7_placeOfSought_34 rfl (lv_at hl 3 rfl) ?_
          exact z_iret hx hb hr hlocks dX7_placeOfSought_35 hM (Nat.le_of_ble_eq_true rfl) (Nat.le_of_ble_eq_true rfl) (by rw [hR c_s, zFd, if_pos c_v])
  exact lp8 9 0 rfl (fun _ => rfl) _ _ hM _ (lv_sub hl [2, 3, 1, 0] rfl)

set_option maxHeartbeats 4000000 in
set_option maxRecDepth 100000 in
theorem c_inLine (l : Launch) (G : zC) (n k : Nat) (hn : n < 100) (hk : k < 100) : zMet l G yX7_inLine wsX7_inLine rmX7_inLine [.int (nI n), .int (nI k)] ([]) (some (.int (nI (zIl n k)))) ([]) := by
  refine zMet_of (cc := cX7_inLine) (maxL := 2) (ret := (some .int)) (by decide) rfl (Nat.le_of_ble_eq_true rfl) ?_
  intro p e s m below meth c A ls hx hb hr hml hown hts hK hA hE hlocks hin hM hl
  have hown : s.vm.findClass RX7 = some m.cls := hown
  have hM : zM G A s s.heap [] ([]) := hM
  have hl : lv_has ls 2 [(0, .int (nI n)), (1, .int (nI k))] := hl
  refine lv_iload_n hx hb dX7_inLine_0 rfl (lv_at hl 0 rfl) ?_
  refine lv_iconst (v := 3) hx hb dX7_inLine_1 (by decide) ?_
  refine z_topi (y := nI 3) rfl ?_
  refine lv_icmp_ge (tgt := 13) hx hb dX7_inLine_2 (by decide) (fun c_3 => ?_) (fun c_3 => ?_)
  · have h3 : ¬ n < 3 := Nat.not_lt.mpr ((nI_leI (by decide) (by omega)).mp c_3)
    refine lv_iload_n hx hb dX7_inLine_13 rfl (lv_at hl 0 rfl) ?_
    refine lv_iconst (v := 3) hx hb dX7_inLine_14 (by decide) ?_
    refine lv_isub hx hb dX7_inLine_15 ?_
    refine z_topi (y := nI (n - 3)) (pk_sub (a := n) (b := 3) (by omega)) ?_
    refine lv_iconst (v := 3) hx hb dX7_inLine_16 (by decide) ?_
    refine lv_iload_n hx hb dX7_inLine_17 rfl (lv_at hl 1 rfl) ?_
    refine lv_imul hx hb dX7_inLine_18 ?_
    refine z_topi (y := nI (3 * k)) (pk_mul 3 k) ?_
    refine lv_iadd hx hb dX7_inLine_19 ?_
    refine z_topi (y := nI ((n - 3) + (3 * k))) (nI_add (n - 3) (3 * k)) ?_
    exact z_iret hx hb hr hlocks dX7_inLine_20 hM (Nat.le_of_ble_eq_true rfl) (Nat.le_of_ble_eq_true rfl) (by rw [zIl, if_neg h3])
  · have h3 : n < 3 := Nat.not_le.mp (fun q => c_3 ((nI_leI (by decide) (by omega)).mpr q))
    refine lv_iconst (v := 3) hx hb dX7_inLine_5 (by decide) ?_
    refine lv_iload_n hx hb dX7_inLine_6 rfl (lv_at hl 0 rfl) ?_
    refine lv_imul hx hb dX7_inLine_7 ?_
    refine z_topi (y := nI (3 * n)) (pk_mul 3 n) ?_
    refine lv_iload_n hx hb dX7_inLine_8 rfl (lv_at hl 1 rfl) ?_
    refine lv_iadd hx hb dX7_inLine_9 ?_
    refine z_topi (y := nI ((3 * n) + k)) (nI_add (3 * n) k) ?_
    refine lv_goto (tgt := 20) hx hb dX7_inLine_10 (by decide) ?_
    exact z_iret hx hb hr hlocks dX7_inLine_20 hM (Nat.le_of_ble_eq_true rfl) (Nat.le_of_ble_eq_true rfl) (by rw [zIl, if_pos h3])

set_option maxHeartbeats 4000000 in
set_option maxRecDepth 100000 in
theorem c_r_exch (l : Launch) (G : zC) (r : Nat) (h : Nat → Int32) (b : Nat → Nat → Int32) (k x y o : Nat) (hxo : x + o < 28) (hyo : y + o < 28) (hk : k < 4) (i j : Nat) (ei : i = 9 + 28 * k + (x + o)) (ej : j = 9 + 28 * k + (y + o)) : zMet l G yX7_exchange wsX7_exchange rmX7_exchange [.ref r, .int (nI i), .int (nI j)] (rfW G r h b) none (rfW G r h (va_up b k (zXg (b k) (x + o) (y + o)))) := by
  refine zMet_of (cc := cX7_exchange) (maxL := 4) (ret := none) (by decide) rfl (Nat.le_of_ble_eq_true rfl) ?_
  intro p e s m below meth c A ls hx hb hr hml hown hts hK hA hE hlocks hin hM hl
  have hown : s.vm.findClass RX7 = some m.cls := hown
  have hM : zM G A s s.heap [] ([(r, .inl (G.2 1, 121, .inl (flt h b)))]) := hM
  have hl : lv_has ls 4 [(0, .ref r), (1, .int (nI i)), (2, .int (nI j))] := hl
  have hi121 : i < 121 := by omega
  have hj121 : j < 121 := by omega
  refine lv_aload_n hx hb dX7_exchange_0 rfl (lv_at hl 0 rfl) ?_
  refine lv_iload_n hx hb dX7_exchange_1 rfl (lv_at hl 1 rfl) ?_
  refine z_iald hx hb hK hM 0 rfl (v := b k (x + o)) (vp_in_nI (by omega) (by decide)) (by rw [nI_clamp (by omega)]; exact flt_b k (x + o) (by omega) (by omega)) dX7_exchange_2 ?_
  refine lv_istore_n (lv' := [(3, .int (b k (x + o))), (0, .ref r), (1, .int (nI i)), (2, .int (nI j))]) hx hb dX7_exchange_3 rfl hl (by decide) rfl (fun ls hl => ?_)
  refine lv_aload_n hx hb dX7_exchange_4 rfl (lv_at hl 1 rfl) ?_
  refine lv_iload_n hx hb dX7_exchange_5 rfl (lv_at hl 2 rfl) ?_
  refine lv_aload_n hx hb dX7_exchange_6 rfl (lv_at hl 1 rfl) ?_
  refine lv_iload_n hx hb dX7_exchange_7 rfl (lv_at hl 3 rfl) ?_
  refine z_iald hx hb hK hM 0 rfl (v := b k (y + o)) (vp_in_nI (by omega) (by decide)) (by rw [nI_clamp (by omega)]; exact flt_b k (y + o) (by omega) (by omega)) dX7_exchange_8 ?_
  refine z_iast (ws' := [(r, .inl (G.2 1, 121, .inl (flt h (va_up b k (upd (b k) (x + o) (b k (y + o)))))))]) hx hb hK hM 0 rfl (vp_in_nI (by omega) (by decide)) dX7_exchange_9 (by rw [nI_clamp (by omega), flt_ub k (x + o) (by omega) (by omega)]; rfl) (fun H locs hM => ?_)
  refine lv_aload_n hx hb dX7_exchange_10 rfl (lv_at hl 1 rfl) ?_
  refine lv_iload_n hx hb dX7_exchange_11 rfl (lv_at hl 3 rfl) ?_
  refine lv_iload_n hx hb dX7_exchange_12 rfl (lv_at hl 0 rfl) ?_
  refine z_iast (ws' := [(r, .inl (G.2 1, 121, .inl (flt h (va_up (va_up b k (upd (b k) (x + o) (b k (y + o)))) k (upd ((va_up b k (upd (b k) (x + o) (b k (y + o)))) k) (y + o) (b k (x + o)))))))]) hx hb hK hM 0 rfl (vp_in_nI (by omega) (by decide)) dX7_exchange_13 (by rw [nI_clamp (by omega), flt_ub k (y + o) (by omega) (by omega)]; rfl) (fun H locs hM => ?_)
  exact z_vret hx hb hr hlocks dX7_exchange_14 (by rw [zXg_e]; have h9 := hM; rw [va_upup, va_ups] at h9; exact h9) (Nat.le_of_ble_eq_true rfl) (Nat.le_of_ble_eq_true rfl)

set_option maxHeartbeats 4000000 in
set_option maxRecDepth 100000 in
theorem c_may (l : Launch) (G : zC) (r : Nat) (h : Nat → Int32) (b : Nat → Nat → Int32) (k : Nat) (hk : k < 4) (n d : Int32) : zMet l G yX7_may wsX7_may rmX7_may [.ref r, .int (nI k), .int n, .int d] (rfW G r h b) (some (.int (zb (zAl (b k) n d)))) (rfW G r h b) := by
  refine zMet_of (cc := cX7_may) (maxL := 5) (ret := (some .boolean)) (by decide) rfl (Nat.le_of_ble_eq_true rfl) ?_
  intro p e s m below meth c A ls hx hb hr hml hown hts hK hA hE hlocks hin hM hl
  have hown : s.vm.findClass RX7 = some m.cls := hown
  have hM : zM G A s s.heap [] ([(r, .inl (G.2 1, 121, .inl (flt h b)))]) := hM
  have hl : lv_has ls 5 [(0, .ref r), (1, .int (nI k)), (2, .int n), (3, .int d)] := hl
  refine lv_iload_n hx hb dX7_may_0 rfl (lv_at hl 1 rfl) ?_
  refine z_callS (As := [.int (nI k)]) (rest := []) (wc := []) (wr := [(r, .inl (G.2 1, 121, .inl (flt h b)))]) (w1 := []) (ws' := [(r, .inl (G.2 1, 121, .inl (flt h b)))]) ⟨hx, hb, hml, hown, hts⟩ (c_at l G k (by omega)) (va_cwS 1 hts gX7_may_X7_at rfl rfl rfl (by decide +kernel) ⟨Nat.le_of_ble_eq_true rfl, Nat.le_of_ble_eq_true rfl⟩) rfl hl.1 rfl (Nat.le_of_ble_eq_true rfl) dX7_may_1 ⟨Nat.le_of_ble_eq_true rfl, Nat.le_of_ble_eq_true rfl⟩ hK hE hA hM (List.Perm.refl _) (List.Perm.refl _) (fun H locs hM hz => ?_)
  refine lv_istore (lv' := [(4, .int (nI (9 + (28 * k)))), (0, .ref r), (1, .int (nI k)), (2, .int n), (3, .int d)]) hx hb dX7_may_4 hl (by decide) rfl (fun ls hl => ?_)
  refine lv_aload_n hx hb dX7_may_6 rfl (lv_at hl 1 rfl) ?_
  refine lv_iload hx hb dX7_may_7 (lv_at hl 0 rfl) ?_
  refine lv_bipush (v := 25) hx hb dX7_may_9 (by decide) ?_
  refine lv_iadd hx hb dX7_may_11 ?_
  refine z_topi (y := nI ((9 + (28 * k)) + 25)) (nI_add (9 + (28 * k)) 25) ?_
  refine z_iald hx hb hK hM 0 rfl (v := b k 25) (vp_in_nI (by omega) (by decide)) (by rw [nI_clamp (by omega)]; exact flt_b k 25 (by omega) (by omega)) dX7_may_12 ?_
  refine lv_iload_n hx hb dX7_may_13 rfl (lv_at hl 3 rfl) ?_
  refine lv_icmp_eq (tgt := 43) hx hb dX7_may_14 (by decide) (fun c_1 => ?_) (fun c_1 => ?_)
  · skip
    refine lv_iconst (v := 0) hx hb dX7_may_43 (by decide) ?_
    exact z_zret hx hb hr hlocks dX7_may_44 hM (Nat.le_of_ble_eq_true rfl) (Nat.le_of_ble_eq_true rfl) (by first | exact Or.inl rfl | exact Or.inr rfl | exact zb_01 _) (by rw [zAl_e]; simp only [decide_eq_true c_1] <;> rfl)
  · skip
    refine lv_aload_n hx hb dX7_may_17 rfl (lv_at hl 1 rfl) ?_
    refine lv_iload hx hb dX7_may_18 (lv_at hl 0 rfl) ?_
    refine lv_bipush (v := 26) hx hb dX7_may_20 (by decide) ?_
    refine lv_iadd hx hb dX7_may_22 ?_
    refine z_topi (y := nI ((9 + (28 * k)) + 26)) (nI_add (9 + (28 * k)) 26) ?_
    refine z_iald hx hb hK hM 0 rfl (v := b k 26) (vp_in_nI (by omega) (by decide)) (by rw [nI_clamp (by omega)]; exact flt_b k 26 (by omega) (by omega)) dX7_may_23 ?_
    refine lv_iload_n hx hb dX7_may_24 rfl (lv_at hl 3 rfl) ?_
    refine lv_icmp_ne (tgt := 39) hx hb dX7_may_25 (by decide) (fun c_2 => ?_) (fun c_2 => ?_)
    · skip
      refine lv_iconst (v := 1) hx hb dX7_may_39 (by decide) ?_
      refine lv_goto (tgt := 44) hx hb dX7_may_40 (by decide) ?_
      exact z_zret hx hb hr hlocks dX7_may_44 hM (Nat.le_of_ble_eq_true rfl) (Nat.le_of_ble_eq_true rfl) (by first | exact Or.inl rfl | exact Or.inr rfl | exact zb_01 _) (by rw [zAl_e]; simp only [decide_eq_false c_1, decide_eq_false c_2] <;> rfl)
    · skip
      refine lv_aload_n hx hb dX7_may_28 rfl (lv_at hl 1 rfl) ?_
      refine lv_iload hx hb dX7_may_29 (lv_at hl 0 rfl) ?_
      refine lv_bipush (v := 27) hx hb dX7_may_31 (by decide) ?_
      refine lv_iadd hx hb dX7_may_33 ?_
      refine z_topi (y := nI ((9 + (28 * k)) + 27)) (nI_add (9 + (28 * k)) 27) ?_
      refine z_iald hx hb hK hM 0 rfl (v := b k 27) (vp_in_nI (by omega) (by decide)) (by rw [nI_clamp (by omega)]; exact flt_b k 27 (by omega) (by omega)) dX7_may_34 ?_
      refine lv_iload_n hx hb dX7_may_35 rfl (lv_at hl 4 rfl) ?_
      refine lv_icmp_ne (tgt := 43) hx hb dX7_may_36 (by decide) (fun c_3 => ?_) (fun c_3 => ?_)
      · skip
        refine lv_iconst (v := 0) hx hb dX7_may_43 (by decide) ?_
        exact z_zret hx hb hr hlocks dX7_may_44 hM (Nat.le_of_ble_eq_true rfl) (Nat.le_of_ble_eq_true rfl) (by first | exact Or.inl rfl | exact Or.inr rfl | exact zb_01 _) (by rw [zAl_e]; simp only [decide_eq_false c_1, decide_eq_true c_2, decide_eq_false c_3] <;> rfl)
      · skip
        refine lv_iconst (v := 1) hx hb dX7_may_39 (by decide) ?_
        refine lv_goto (tgt := 44) hx hb dX7_may_40 (by decide) ?_
        exact z_zret hx hb hr hlocks dX7_may_44 hM (Nat.le_of_ble_eq_true rfl) (Nat.le_of_ble_eq_true rfl) (by first | exact Or.inl rfl | exact Or.inr rfl | exact zb_01 _) (by rw [zAl_e]; simp only [decide_eq_false c_1, decide_eq_true c_2, decide_eq_true c_3] <;> rfl)
