/-! REFERENCE, thirteenth part: a text read as a whole -/
def zHk (v : Nat → Int32) (n : Nat) : Bool := zKy v n 0 0 && zKy v n 1 1 && zKy v n 2 2 && zKy v n 3 3
def zHq (v : Nat → Int32) (n : Nat) : Nat := if zKy v n 0 0 = true then (if zKy v n 1 1 = true then (if zKy v n 2 2 = true then 3 else 2) else 1) else 0
def zTs (v : Nat → Int32) (n : Nat) : Int64 := (nI (10 * zDn v n 2 + zDn v n 3)).toInt64
def zTb (v : Nat → Int32) (n : Nat) : Int64 × (Nat → Nat → Int32) := zBg (zDn v n 1) (zTs v n) (fun _ _ => 0)
def zT0 (v : Nat → Int32) (n : Nat) : zHB := (zGdH zClH (zDn v n 1), zBb (zDn v n 1) (zTb v n).2)
def zRtX (v : Nat → Int32) (n : Nat) (x0 : Int64) : Int64 := if zHk v n = true then (zTb v n).1 else x0
def zRtL (v : Nat → Int32) (n : Nat) : Nat × zHB × Nat := if zHk v n = true then zRdL v n 120 4 (zT0 v n, 0) else (zHq v n, (zClH, fun _ _ => 0), 0)
theorem zRt_no {v : Nat → Int32} {n q : Nat} (x0 : Int64) (hk : zHk v n = false) (hq : zHq v n = q) : zRtX v n x0 = x0 ∧ zRtL v n = (q, (zClH, fun _ _ => 0), 0) := by
  unfold zRtX zRtL
  rw [hk, hq]
  exact ⟨rfl, rfl⟩
theorem zRt_yes {v : Nat → Int32} {n : Nat} (x0 : Int64) (hk : zHk v n = true) : zRtX v n x0 = (zTb v n).1 ∧ zRtL v n = zRdL v n 120 4 (zT0 v n, 0) := by
  unfold zRtX zRtL
  rw [hk]
  exact ⟨rfl, rfl⟩
theorem zDu_0 (k : Int32) : zDu 0 k = if k = 73 then 1 else -1 := if_pos rfl
theorem zKy_00 {v : Nat → Int32} {n : Nat} : zKy v n 0 0 = true ↔ 0 < n ∧ v 0 = 73 := by
  constructor
  · intro q
    obtain ⟨h1, h2⟩ := zKy_lt q
    refine ⟨h1, ?_⟩
    rw [zDu_0] at h2
    by_cases e : v 0 = 73
    · exact e
    · rw [if_neg e] at h2
      exact absurd rfl h2
  · rintro ⟨h1, h2⟩
    unfold zKy
    rw [decide_eq_true h1, zDu_0, if_pos h2]
    rfl
theorem zW_0 {v : Nat → Int32} {n : Nat} (h : zKy v n 0 0 = false) : zWr v n n 0 0 = nI 0 := zWr_bad (i := 0) (Nat.zero_le n) (by decide) h
theorem zW_1 {v : Nat → Int32} {n : Nat} (h : zKy v n 0 0 = true) : zWr v n n 0 0 = zWr v n (n - 1) 1 1 := by
  refine (zWr_ok (i := 0) h).trans ?_
  rw [zDu_0, if_pos (zKy_00.mp h).2]
theorem zW_2 {v : Nat → Int32} {n : Nat} (h : zKy v n 1 1 = true) : zWr v n (n - 1) 1 1 = zWr v n (n - 2) 2 2 := by
  rw [zWr_ok h, zDu_1 (zKy_lt h).2]
theorem zW_3 {v : Nat → Int32} {n : Nat} (h : zKy v n 2 2 = true) : zWr v n (n - 2) 2 2 = zWr v n (n - 3) 3 3 := by
  rw [zWr_ok h, zDu_2 (zKy_lt h).2]
theorem zW_4 {v : Nat → Int32} {n : Nat} (h : zKy v n 3 3 = true) : zWr v n (n - 3) 3 3 = zWr v n (n - 4) 4 4 := by
  rw [zWr_ok h, zDu_3 (zKy_lt h).2]
theorem zHq_0 {v : Nat → Int32} {n : Nat} (h : zKy v n 0 0 = false) : zHk v n = false ∧ zHq v n = 0 := by
  unfold zHk zHq
  rw [h]
  exact ⟨rfl, rfl⟩
theorem zHq_1 {v : Nat → Int32} {n : Nat} (h0 : zKy v n 0 0 = true) (h : zKy v n 1 1 = false) : zHk v n = false ∧ zHq v n = 1 := by
  unfold zHk zHq
  rw [h0, h]
  exact ⟨rfl, rfl⟩
theorem zHq_2 {v : Nat → Int32} {n : Nat} (h0 : zKy v n 0 0 = true) (h1 : zKy v n 1 1 = true) (h : zKy v n 2 2 = false) : zHk v n = false ∧ zHq v n = 2 := by
  unfold zHk zHq
  rw [h0, h1, h]
  exact ⟨rfl, rfl⟩
theorem zHq_3 {v : Nat → Int32} {n : Nat} (h0 : zKy v n 0 0 = true) (h1 : zKy v n 1 1 = true) (h2 : zKy v n 2 2 = true) (h : zKy v n 3 3 = false) : zHk v n = false ∧ zHq v n = 3 := by
  unfold zHk zHq
  rw [h0, h1, h2, h]
  exact ⟨rfl, rfl⟩
theorem zHq_4 {v : Nat → Int32} {n : Nat} (h0 : zKy v n 0 0 = true) (h1 : zKy v n 1 1 = true) (h2 : zKy v n 2 2 = true) (h : zKy v n 3 3 = true) : zHk v n = true := by
  unfold zHk
  rw [h0, h1, h2, h]
  rfl
set_option maxHeartbeats 4000000 in
theorem c_readText (l : Launch) (G : zC) (q : Nat) (v0 v3 v4 v5 v6 v7 v8 v9 v10 v11 v12 : Value) (z n j9 o9 : Nat) (v F : Nat → Int32) (r : Nat) (x0 : Int64) (hn : n ≤ 120) (hv : zTu v) : zMet l G yX7_readText wsX7_readText rmX7_readText [.ref q, .ref r] ([(q, .inr (7, [v0, .ref z, .int (nI n), v3, v4, v5, v6, v7, v8, v9, v10, v11, v12, .long x0, .int (nI j9), .int (nI o9)])), (z, .inl (G.2 1, 120, .inl v)), (r, .inl (G.2 1, 121, .inl F))]) (some (.int (zWr v n n 0 0))) ([(q, .inr (7, [v0, .ref z, .int (nI n), v3, v4, v5, v6, v7, v8, v9, v10, v11, v12, .long (zRtX v n x0), .int (nI ((zRtL v n).1)), .int (nI ((zRtL v n).2.2))])), (z, .inl (G.2 1, 120, .inl v)), (r, .inl (G.2 1, 121, .inl (flt (zRtL v n).2.1.1 (zRtL v n).2.1.2)))]) := by
  by_cases k0 : zKy v n 0 0 = true
  · obtain ⟨h0, h1⟩ := zKy_00.mp k0
    rcases zKy_d (i := 1) hv hn (by decide) zDg_1 with ⟨k1, g1⟩ | ⟨k1, _, g1, k8, hk8, e1, ek1, hlo, hhi⟩
    · skip
      obtain ⟨a1, a2⟩ := zRt_no x0 (zHq_1 k0 k1).1 (zHq_1 k0 k1).2
      rw [a1, a2, zW_1 k0, zWr_bad (by omega) (by decide) k1]
      exact c_rt2 l G q v0 v3 v4 v5 v6 v7 v8 v9 v10 v11 v12 z n j9 o9 v F r x0 hn h0 h1 g1
    rcases zKy_d (i := 2) hv hn (by decide) zDg_2 with ⟨k2, g2⟩ | ⟨k2, _, g2, l8, hl8, e2, ek2, _⟩
    · have hn2 := (zKy_lt k1).1
      obtain ⟨a1, a2⟩ := zRt_no x0 (zHq_2 k0 k1 k2).1 (zHq_2 k0 k1 k2).2
      rw [a1, a2, zW_1 k0, zW_2 k1, zWr_bad (by omega) (by decide) k2]
      exact c_rt3 l G q v0 v3 v4 v5 v6 v7 v8 v9 v10 v11 v12 z n j9 o9 v F r x0 hn h0 h1 k8 hk8 e1 g1 g2
    rcases zKy_d (i := 3) hv hn (by decide) zDg_3 with ⟨k3, g3⟩ | ⟨k3, hn4, g3, m8, hm8, e3, ek3, _⟩
    · have hn2 := (zKy_lt k2).1
      obtain ⟨a1, a2⟩ := zRt_no x0 (zHq_3 k0 k1 k2 k3).1 (zHq_3 k0 k1 k2 k3).2
      rw [a1, a2, zW_1 k0, zW_2 k1, zW_3 k2, zWr_bad (by omega) (by decide) k3]
      exact c_rt4 l G q v0 v3 v4 v5 v6 v7 v8 v9 v10 v11 v12 z n j9 o9 v F r x0 hn h0 h1 k8 hk8 e1 g1 l8 hl8 e2 g2 g3
    have hk82 : 2 ≤ k8 := Nat.not_lt.mp (fun q => Int32.not_lt.mpr hlo (nI_lt (a := k8) (b := 2) q (by decide)))
    have hk84 : k8 ≤ 4 := Nat.not_lt.mp (fun q => Int32.not_lt.mpr hhi (nI_lt (a := 4) (b := k8) q (by omega)))
    obtain ⟨a1, a2⟩ := zRt_yes x0 (zHq_4 k0 k1 k2 k3)
    rw [a1, a2]
    unfold zT0 zTb zTs
    rw [ek1, ek2, ek3]
    exact c_rt5 l G q v0 v3 v4 v5 v6 v7 v8 v9 v10 v11 v12 z n j9 o9 v F r x0 hn h0 h1 k8 hk8 e1 g1 l8 hl8 e2 g2 m8 hm8 e3 g3 hk82 hk84 (by omega) hv (by rw [zW_1 k0, zW_2 k1, zW_3 k2, zW_4 k3])
  · have k0 := bfalse k0
    by_cases h0 : n = 0
    · skip
      obtain ⟨a1, a2⟩ := zRt_no x0 (zHq_0 k0).1 (zHq_0 k0).2
      rw [a1, a2, zW_0 k0]
      exact c_rt0 l G q v0 v3 v4 v5 v6 v7 v8 v9 v10 v11 v12 z n j9 o9 v F r x0 hn h0
    · have h1 : ¬ v 0 = 73 := fun q => Bool.noConfusion (k0.symm.trans (zKy_00.mpr ⟨by omega, q⟩))
      obtain ⟨a1, a2⟩ := zRt_no x0 (zHq_0 k0).1 (zHq_0 k0).2
      rw [a1, a2, zW_0 k0]
      exact c_rt1 l G q v0 v3 v4 v5 v6 v7 v8 v9 v10 v11 v12 z n j9 o9 v F r x0 hn (by omega) h1

set_option maxHeartbeats 4000000 in
set_option maxRecDepth 100000 in
theorem c_r_errorPosition (l : Launch) (G : zC) (q : Nat) (v0 v3 v5 v6 v7 v8 v9 v10 v11 v12 : Value) (z n j9 o9 w4 : Nat) (v F : Nat → Int32) (x0 : Int64) (hn : n ≤ 120) (hv : zTu v) : zMet l G yX7_errorPosition wsX7_errorPosition rmX7_errorPosition [.ref q] ([(q, .inr (7, [v0, .ref z, .int (nI n), v3, .ref w4, v5, v6, v7, v8, v9, v10, v11, v12, .long x0, .int (nI j9), .int (nI o9)])), (z, .inl (G.2 1, 120, .inl v)), (w4, .inl (G.2 1, 121, .inl F))]) (some (.int (zWr v n n 0 0))) ([(q, .inr (7, [.int 0, .ref z, .int (nI n), v3, .ref w4, v5, v6, v7, v8, v9, v10, v11, v12, .long (zRtX v n x0), .int (nI ((zRtL v n).1)), .int (nI ((zRtL v n).2.2))])), (z, .inl (G.2 1, 120, .inl v)), (w4, .inl (G.2 1, 121, .inl (flt (zRtL v n).2.1.1 (zRtL v n).2.1.2)))]) := by
  refine zMet_of (cc := cX7_errorPosition) (maxL := 1) (ret := (some .int)) (by decide) rfl (Nat.le_of_ble_eq_true rfl) ?_
  intro p e s m below meth c A ls hx hb hr hml hown hts hK hA hE hlocks hin hM hl
  have hown : s.vm.findClass RX7 = some m.cls := hown
  have hM : zM G A s s.heap [] ([(q, .inr (7, [v0, .ref z, .int (nI n), v3, .ref w4, v5, v6, v7, v8, v9, v10, v11, v12, .long x0, .int (nI j9), .int (nI o9)])), (z, .inl (G.2 1, 120, .inl v)), (w4, .inl (G.2 1, 121, .inl F))]) := hM
  have hl : lv_has ls 1 [(0, .ref q)] := hl
  refine lv_aload_n hx hb dX7_errorPosition_0 rfl (lv_at hl 0 rfl) ?_
  refine lv_iconst (v := 0) hx hb dX7_errorPosition_1 (by decide) ?_
  refine z_put (ci := 7) (ty := .int) (v := .int 0) (C := RX7) (T := TX7) (N := 16) (ws' := [(q, .inr (7, [.int 0, .ref z, .int (nI n), v3, .ref w4, v5, v6, v7, v8, v9, v10, v11, v12, .long x0, .int (nI j9), .int (nI o9)])), (z, .inl (G.2 1, 120, .inl v)), (w4, .inl (G.2 1, 121, .inl F))]) hx hb hts (by decide +kernel) tyX7 tyX7_ok nmX7 hown hK hM 0 rfl rfl 0 (by decide) (hts (.fieldLink RX7 36 "ShiftIslesModel" "refusal" "I") (by decide +kernel)) (fun _ h9 => h9) rfl (by decide +kernel) rfl rfl (Nat.le_of_ble_eq_true rfl) dX7_errorPosition_2 rfl (fun H locs hM => ?_)
  refine lv_aload_n hx hb dX7_errorPosition_5 rfl (lv_at hl 0 rfl) ?_
  refine lv_aload_n hx hb dX7_errorPosition_6 rfl (lv_at hl 0 rfl) ?_
  refine z_get (ci := 7) (v := .ref w4) (C := RX7) (T := TX7) (N := 16) hx hb hts (by decide +kernel) hown hK hM 0 rfl rfl 4 (by decide) (hts (.fieldLink RX7 16 "ShiftIslesModel" "trial" "[I") (by decide +kernel)) (fun _ h9 => h9) rfl dX7_errorPosition_7 ?_
  refine z_callV (As := [.ref w4]) (rest := []) (wc := [(q, .inr (7, [.int 0, .ref z, .int (nI n), v3, .ref w4, v5, v6, v7, v8, v9, v10, v11, v12, .long x0, .int (nI j9), .int (nI o9)])), (z, .inl (G.2 1, 120, .inl v)), (w4, .inl (G.2 1, 121, .inl F))]) (wr := []) (w1 := [(q, .inr (7, [.int 0, .ref z, .int (nI n), v3, .ref w4, v5, v6, v7, v8, v9, v10, v11, v12, .long (zRtX v n x0), .int (nI (zRtL v n).1), .int (nI (zRtL v n).2.2)])), (z, .inl (G.2 1, 120, .inl v)), (w4, .inl (G.2 1, 121, .inl (flt (zRtL v n).2.1.1 (zRtL v n).2.1.2)))]) (ws' := [(q, .inr (7, [.int 0, .ref z, .int (nI n), v3, .ref w4, v5, v6, v7, v8, v9, v10, v11, v12, .long (zRtX v n x0), .int (nI (zRtL v n).1), .int (nI (zRtL v n).2.2)])), (z, .inl (G.2 1, 120, .inl v)), (w4, .inl (G.2 1, 121, .inl (flt (zRtL v n).2.1.1 (zRtL v n).2.1.2)))]) ⟨hx, hb, hml, hown, hts⟩ (c_readText l G q (.int 0) v3 (.ref w4) v5 v6 v7 v8 v9 v10 v11 v12 z n j9 o9 v F w4 x0 hn hv) (cwV 1 hts gX7_errorPosition_X7_readText rfl rfl rfl (by decide +kernel) ⟨Nat.le_of_ble_eq_true rfl, Nat.le_of_ble_eq_true rfl⟩) 7 rfl rfl rfl rfl hl.1 rfl (Nat.le_of_ble_eq_true rfl) dX7_errorPosition_10 ⟨Nat.le_of_ble_eq_true rfl, Nat.le_of_ble_eq_true rfl⟩ hK hE hA hM (pm_at 3 [0, 1, 2] [] rfl rfl rfl (by decide)) ((pm_at 3 [0, 1, 2] [] rfl rfl rfl (by decide))).symm (fun H locs hM hz => ?_)
  exact z_iret hx hb hr hlocks dX7_errorPosition_13 hM (Nat.le_of_ble_eq_true rfl) (Nat.le_of_ble_eq_true rfl) rfl

set_option maxHeartbeats 4000000 in
set_option maxRecDepth 100000 in
theorem c_r_load1 (l : Launch) (G : zC) (q : Nat) (v0 v5 v6 v8 v10 v11 v12 : Value) (z n j9 o9 w3 w4 w9 a7 : Nat) (v F F3 K : Nat → Int32) (x0 : Int64) (hn : n ≤ 120) (hv : zTu v) (hc : ¬ zWr v n n 0 0 = -1) : zMet l G yX7_load wsX7_load rmX7_load [.ref q] ([(q, .inr (7, [v0, .ref z, .int (nI n), .ref w3, .ref w4, v5, v6, .int (nI a7), v8, .ref w9, v10, v11, v12, .long x0, .int (nI j9), .int (nI o9)])), (z, .inl (G.2 1, 120, .inl v)), (w4, .inl (G.2 1, 121, .inl F)), (w3, .inl (G.2 1, 121, .inl F3)), (w9, .inl (G.2 2, 2, .inl K))]) (some (.int 0)) ([(q, .inr (7, [.int 1, .ref z, .int (nI n), .ref w3, .ref w4, v5, v6, .int (nI a7), v8, .ref w9, v10, v11, v12, .long (zRtX v n x0), .int (nI ((zRtL v n).1)), .int (nI ((zRtL v n).2.2))])), (z, .inl (G.2 1, 120, .inl v)), (w4, .inl (G.2 1, 121, .inl (flt (zRtL v n).2.1.1 (zRtL v n).2.1.2))), (w3, .inl (G.2 1, 121, .inl F3)), (w9, .inl (G.2 2, 2, .inl K))]) := by
  refine zMet_of (cc := cX7_load) (maxL := 1) (ret := (some .int)) (by decide) rfl (Nat.le_of_ble_eq_true rfl) ?_
  intro p e s m below meth c A ls hx hb hr hml hown hts hK hA hE hlocks hin hM hl
  have hown : s.vm.findClass RX7 = some m.cls := hown
  have hM : zM G A s s.heap [] ([(q, .inr (7, [v0, .ref z, .int (nI n), .ref w3, .ref w4, v5, v6, .int (nI a7), v8, .ref w9, v10, v11, v12, .long x0, .int (nI j9), .int (nI o9)])), (z, .inl (G.2 1, 120, .inl v)), (w4, .inl (G.2 1, 121, .inl F)), (w3, .inl (G.2 1, 121, .inl F3)), (w9, .inl (G.2 2, 2, .inl K))]) := hM
  have hl : lv_has ls 1 [(0, .ref q)] := hl
  refine lv_aload_n hx hb dX7_load_0 rfl (lv_at hl 0 rfl) ?_
  refine lv_aload_n hx hb dX7_load_1 rfl (lv_at hl 0 rfl) ?_
  refine lv_aload_n hx hb dX7_load_2 rfl (lv_at hl 0 rfl) ?_
  refine z_get (ci := 7) (v := .ref w4) (C := RX7) (T := TX7) (N := 16) hx hb hts (by decide +kernel) hown hK hM 0 rfl rfl 4 (by decide) (hts (.fieldLink RX7 16 "ShiftIslesModel" "trial" "[I") (by decide +kernel)) (fun _ h9 => h9) rfl dX7_load_3 ?_
  refine z_callV (As := [.ref w4]) (rest := [.ref q]) (wc := [(q, .inr (7, [v0, .ref z, .int (nI n), .ref w3, .ref w4, v5, v6, .int (nI a7), v8, .ref w9, v10, v11, v12, .long x0, .int (nI j9), .int (nI o9)])), (z, .inl (G.2 1, 120, .inl v)), (w4, .inl (G.2 1, 121, .inl F))]) (wr := [(w3, .inl (G.2 1, 121, .inl F3)), (w9, .inl (G.2 2, 2, .inl K))]) (w1 := [(q, .inr (7, [v0, .ref z, .int (nI n), .ref w3, .ref w4, v5, v6, .int (nI a7), v8, .ref w9, v10, v11, v12, .long (zRtX v n x0), .int (nI (zRtL v n).1), .int (nI (zRtL v n).2.2)])), (z, .inl (G.2 1, 120, .inl v)), (w4, .inl (G.2 1, 121, .inl (flt (zRtL v n).2.1.1 (zRtL v n).2.1.2)))]) (ws' := [(q, .inr (7, [v0, .ref z, .int (nI n), .ref w3, .ref w4, v5, v6, .int (nI a7), v8, .ref w9, v10, v11, v12, .long (zRtX v n x0), .int (nI (zRtL v n).1), .int (nI (zRtL v n).2.2)])), (z, .inl (G.2 1, 120, .inl v)), (w4, .inl (G.2 1, 121, .inl (flt (zRtL v n).2.1.1 (zRtL v n).2.1.2))), (w3, .inl (G.2 1, 121, .inl F3)), (w9, .inl (G.2 2, 2, .inl K))]) ⟨hx, hb, hml, hown, hts⟩ (c_readText l G q v0 (.ref w3) (.ref w4) v5 v6 (.int (nI a7)) v8 (.ref w9) v10 v11 v12 z n j9 o9 v F w4 x0 hn hv) (cwV 1 hts gX7_load_X7_readText rfl rfl rfl (by decide +kernel) ⟨Nat.le_of_ble_eq_true rfl, Nat.le_of_ble_eq_true rfl⟩) 7 rfl rfl rfl rfl hl.1 rfl (Nat.le_of_ble_eq_true rfl) dX7_load_6 ⟨Nat.le_of_ble_eq_true rfl, Nat.le_of_ble_eq_true rfl⟩ hK hE hA hM (pm_at 5 [0, 1, 2] [3, 4] rfl rfl rfl (by decide)) ((pm_at 5 [0, 1, 2] [3, 4] rfl rfl rfl (by decide))).symm (fun H locs hM hz => ?_)
  refine lv_iconst (v := (-1)) hx hb dX7_load_9 (by decide) ?_
  refine lv_icmp_ne (tgt := 17) hx hb dX7_load_10 (by decide) (fun c_1 => ?_) (fun c_1 => absurd c_1 hc)
  refine lv_iconst (v := 1) hx hb dX7_load_17 (by decide) ?_
  refine z_callV (As := [.int 1]) (rest := []) (wc := [(q, .inr (7, [v0, .ref z, .int (nI n), .ref w3, .ref w4, v5, v6, .int (nI a7), v8, .ref w9, v10, v11, v12, .long (zRtX v n x0), .int (nI (zRtL v n).1), .int (nI (zRtL v n).2.2)]))]) (wr := [(z, .inl (G.2 1, 120, .inl v)), (w4, .inl (G.2 1, 121, .inl (flt (zRtL v n).2.1.1 (zRtL v n).2.1.2))), (w3, .inl (G.2 1, 121, .inl F3)), (w9, .inl (G.2 2, 2, .inl K))]) (w1 := [(q, .inr (7, [.int 1, .ref z, .int (nI n), .ref w3, .ref w4, v5, v6, .int (nI a7), v8, .ref w9, v10, v11, v12, .long (zRtX v n x0), .int (nI (zRtL v n).1), .int (nI (zRtL v n).2.2)]))]) (ws' := [(q, .inr (7, [.int 1, .ref z, .int (nI n), .ref w3, .ref w4, v5, v6, .int (nI a7), v8, .ref w9, v10, v11, v12, .long (zRtX v n x0), .int (nI (zRtL v n).1), .int (nI (zRtL v n).2.2)])), (z, .inl (G.2 1, 120, .inl v)), (w4, .inl (G.2 1, 121, .inl (flt (zRtL v n).2.1.1 (zRtL v n).2.1.2))), (w3, .inl (G.2 1, 121, .inl F3)), (w9, .inl (G.2 2, 2, .inl K))]) ⟨hx, hb, hml, hown, hts⟩ (c_refused l G q v0 (.ref z) (.int (nI n)) (.ref w3) (.ref w4) v5 v6 (.int (nI a7)) v8 (.ref w9) v10 v11 v12 (.long (zRtX v n x0)) (.int (nI (zRtL v n).1)) (.int (nI (zRtL v n).2.2)) 1) (cwV 1 hts gX7_load_X7_refused rfl rfl rfl (by decide +kernel) ⟨Nat.le_of_ble_eq_true rfl, Nat.le_of_ble_eq_true rfl⟩) 7 rfl rfl rfl rfl hl.1 rfl (Nat.le_of_ble_eq_true rfl) dX7_load_18 ⟨Nat.le_of_ble_eq_true rfl, Nat.le_of_ble_eq_true rfl⟩ hK hE hA hM (pm_at 5 [0] [1, 2, 3, 4] rfl rfl rfl (by decide)) ((pm_at 5 [0] [1, 2, 3, 4] rfl rfl rfl (by decide))).symm (fun H locs hM hz => ?_)
  refine z_ifeq (tgt := 26) hx hb dX7_load_21 (by decide) (fun c_2 => absurd c_2 (by decide)) (fun c_2 => ?_)
  refine lv_iconst (v := 0) hx hb dX7_load_24 (by decide) ?_
  exact z_iret hx hb hr hlocks dX7_load_25 hM (Nat.le_of_ble_eq_true rfl) (Nat.le_of_ble_eq_true rfl) rfl

set_option maxHeartbeats 4000000 in
set_option maxRecDepth 100000 in
theorem c_r_load0 (l : Launch) (G : zC) (q : Nat) (v0 v5 v6 v8 v10 v11 v12 : Value) (z n j9 o9 w3 w4 w9 a7 : Nat) (v F F3 K : Nat → Int32) (x0 : Int64) (hn : n ≤ 120) (hv : zTu v) (hc : zWr v n n 0 0 = -1) : zMet l G yX7_load wsX7_load rmX7_load [.ref q] ([(q, .inr (7, [v0, .ref z, .int (nI n), .ref w3, .ref w4, v5, v6, .int (nI a7), v8, .ref w9, v10, v11, v12, .long x0, .int (nI j9), .int (nI o9)])), (z, .inl (G.2 1, 120, .inl v)), (w4, .inl (G.2 1, 121, .inl F)), (w3, .inl (G.2 1, 121, .inl F3)), (w9, .inl (G.2 2, 2, .inl K))]) (some (.int (nI (zRtL v n).2.2))) ([(q, .inr (7, [.int 0, .ref z, .int (nI n), .ref w3, .ref w4, v5, v6, .int (nI 0), v8, .ref w9, v10, v11, v12, .long (zRtX v n x0), .int (nI ((zRtL v n).1)), .int (nI ((zRtL v n).2.2))])), (z, .inl (G.2 1, 120, .inl v)), (w4, .inl (G.2 1, 121, .inl (flt (zRtL v n).2.1.1 (zRtL v n).2.1.2))), (w3, .inl (G.2 1, 121, .inl (flt (zRtL v n).2.1.1 (zRtL v n).2.1.2))), (w9, .inl (G.2 2, 2, .inl (upd (upd K 0 0) 1 0)))]) := by
  refine zMet_of (cc := cX7_load) (maxL := 1) (ret := (some .int)) (by decide) rfl (Nat.le_of_ble_eq_true rfl) ?_
  intro p e s m below meth c A ls hx hb hr hml hown hts hK hA hE hlocks hin hM hl
  have hown : s.vm.findClass RX7 = some m.cls := hown
  have hM : zM G A s s.heap [] ([(q, .inr (7, [v0, .ref z, .int (nI n), .ref w3, .ref w4, v5, v6, .int (nI a7), v8, .ref w9, v10, v11, v12, .long x0, .int (nI j9), .int (nI o9)])), (z, .inl (G.2 1, 120, .inl v)), (w4, .inl (G.2 1, 121, .inl F)), (w3, .inl (G.2 1, 121, .inl F3)), (w9, .inl (G.2 2, 2, .inl K))]) := hM
  have hl : lv_has ls 1 [(0, .ref q)] := hl
  refine lv_aload_n hx hb dX7_load_0 rfl (lv_at hl 0 rfl) ?_
  refine lv_aload_n hx hb dX7_load_1 rfl (lv_at hl 0 rfl) ?_
  refine lv_aload_n hx hb dX7_load_2 rfl (lv_at hl 0 rfl) ?_
  refine z_get (ci := 7) (v := .ref w4) (C := RX7) (T := TX7) (N := 16) hx hb hts (by decide +kernel) hown hK hM 0 rfl rfl 4 (by decide) (hts (.fieldLink RX7 16 "ShiftIslesModel" "trial" "[I") (by decide +kernel)) (fun _ h9 => h9) rfl dX7_load_3 ?_
  refine z_callV (As := [.ref w4]) (rest := [.ref q]) (wc := [(q, .inr (7, [v0, .ref z, .int (nI n), .ref w3, .ref w4, v5, v6, .int (nI a7), v8, .ref w9, v10, v11, v12, .long x0, .int (nI j9), .int (nI o9)])), (z, .inl (G.2 1, 120, .inl v)), (w4, .inl (G.2 1, 121, .inl F))]) (wr := [(w3, .inl (G.2 1, 121, .inl F3)), (w9, .inl (G.2 2, 2, .inl K))]) (w1 := [(q, .inr (7, [v0, .ref z, .int (nI n), .ref w3, .ref w4, v5, v6, .int (nI a7), v8, .ref w9, v10, v11, v12, .long (zRtX v n x0), .int (nI (zRtL v n).1), .int (nI (zRtL v n).2.2)])), (z, .inl (G.2 1, 120, .inl v)), (w4, .inl (G.2 1, 121, .inl (flt (zRtL v n).2.1.1 (zRtL v n).2.1.2)))]) (ws' := [(q, .inr (7, [v0, .ref z, .int (nI n), .ref w3, .ref w4, v5, v6, .int (nI a7), v8, .ref w9, v10, v11, v12, .long (zRtX v n x0), .int (nI (zRtL v n).1), .int (nI (zRtL v n).2.2)])), (z, .inl (G.2 1, 120, .inl v)), (w4, .inl (G.2 1, 121, .inl (flt (zRtL v n).2.1.1 (zRtL v n).2.1.2))), (w3, .inl (G.2 1, 121, .inl F3)), (w9, .inl (G.2 2, 2, .inl K))]) ⟨hx, hb, hml, hown, hts⟩ (c_readText l G q v0 (.ref w3) (.ref w4) v5 v6 (.int (nI a7)) v8 (.ref w9) v10 v11 v12 z n j9 o9 v F w4 x0 hn hv) (cwV 1 hts gX7_load_X7_readText rfl rfl rfl (by decide +kernel) ⟨Nat.le_of_ble_eq_true rfl, Nat.le_of_ble_eq_true rfl⟩) 7 rfl rfl rfl rfl hl.1 rfl (Nat.le_of_ble_eq_true rfl) dX7_load_6 ⟨Nat.le_of_ble_eq_true rfl, Nat.le_of_ble_eq_true rfl⟩ hK hE hA hM (pm_at 5 [0, 1, 2] [3, 4] rfl rfl rfl (by decide)) ((pm_at 5 [0, 1, 2] [3, 4] rfl rfl rfl (by decide))).symm (fun H locs hM hz => ?_)
  refine lv_iconst (v := (-1)) hx hb dX7_load_9 (by decide) ?_
  refine lv_icmp_ne (tgt := 17) hx hb dX7_load_10 (by decide) (fun c_1 => absurd hc c_1) (fun c_1 => ?_)
  refine lv_iconst (v := 0) hx hb dX7_load_13 (by decide) ?_
  refine lv_goto (tgt := 18) hx hb dX7_load_14 (by decide) ?_
  refine z_callV (As := [.int 0]) (rest := []) (wc := [(q, .inr (7, [v0, .ref z, .int (nI n), .ref w3, .ref w4, v5, v6, .int (nI a7), v8, .ref w9, v10, v11, v12, .long (zRtX v n x0), .int (nI (zRtL v n).1), .int (nI (zRtL v n).2.2)]))]) (wr := [(z, .inl (G.2 1, 120, .inl v)), (w4, .inl (G.2 1, 121, .inl (flt (zRtL v n).2.1.1 (zRtL v n).2.1.2))), (w3, .inl (G.2 1, 121, .inl F3)), (w9, .inl (G.2 2, 2, .inl K))]) (w1 := [(q, .inr (7, [.int 0, .ref z, .int (nI n), .ref w3, .ref w4, v5, v6, .int (nI a7), v8, .ref w9, v10, v11, v12, .long (zRtX v n x0), .int (nI (zRtL v n).1), .int (nI (zRtL v n).2.2)]))]) (ws' := [(q, .inr (7, [.int 0, .ref z, .int (nI n), .ref w3, .ref w4, v5, v6, .int (nI a7), v8, .ref w9, v10, v11, v12, .long (zRtX v n x0), .int (nI (zRtL v n).1), .int (nI (zRtL v n).2.2)])), (z, .inl (G.2 1, 120, .inl v)), (w4, .inl (G.2 1, 121, .inl (flt (zRtL v n).2.1.1 (zRtL v n).2.1.2))), (w3, .inl (G.2 1, 121, .inl F3)), (w9, .inl (G.2 2, 2, .inl K))]) ⟨hx, hb, hml, hown, hts⟩ (c_refused l G q v0 (.ref z) (.int (nI n)) (.ref w3) (.ref w4) v5 v6 (.int (nI a7)) v8 (.ref w9) v10 v11 v12 (.long (zRtX v n x0)) (.int (nI (zRtL v n).1)) (.int (nI (zRtL v n).2.2)) 0) (cwV 1 hts gX7_load_X7_refused rfl rfl rfl (by decide +kernel) ⟨Nat.le_of_ble_eq_true rfl, Nat.le_of_ble_eq_true rfl⟩) 7 rfl rfl rfl rfl hl.1 rfl (Nat.le_of_ble_eq_true rfl) dX7_load_18 ⟨Nat.le_of_ble_eq_true rfl, Nat.le_of_ble_eq_true rfl⟩ hK hE hA hM (pm_at 5 [0] [1, 2, 3, 4] rfl rfl rfl (by decide)) ((pm_at 5 [0] [1, 2, 3, 4] rfl rfl rfl (by decide))).symm (fun H locs hM hz => ?_)
  refine z_ifeq (tgt := 26) hx hb dX7_load_21 (by decide) (fun c_2 => ?_) (fun c_2 => absurd c_2 (by decide))
  refine lv_aload_n hx hb dX7_load_26 rfl (lv_at hl 0 rfl) ?_
  refine z_get (ci := 7) (v := .ref w4) (C := RX7) (T := TX7) (N := 16) hx hb hts (by decide +kernel) hown hK hM 0 rfl rfl 4 (by decide) (hts (.fieldLink RX7 16 "ShiftIslesModel" "trial" "[I") (by decide +kernel)) (fun _ h9 => h9) rfl dX7_load_27 ?_
  refine lv_iconst (v := nI 0) hx hb dX7_load_30 (by decide) ?_
  refine lv_aload_n hx hb dX7_load_31 rfl (lv_at hl 0 rfl) ?_
  refine z_get (ci := 7) (v := .ref w3) (C := RX7) (T := TX7) (N := 16) hx hb hts (by decide +kernel) hown hK hM 0 rfl rfl 3 (by decide) (hts (.fieldLink RX7 13 "ShiftIslesModel" "now" "[I") (by decide +kernel)) (fun _ h9 => h9) rfl dX7_load_32 ?_
  refine lv_iconst (v := nI 0) hx hb dX7_load_35 (by decide) ?_
  refine z_callS (As := [.ref w4, .int (nI 0), .ref w3, .int (nI 0)]) (rest := []) (wc := [(w4, .inl (G.2 1, 121, .inl (flt (zRtL v n).2.1.1 (zRtL v n).2.1.2))), (w3, .inl (G.2 1, 121, .inl F3))]) (wr := [(q, .inr (7, [.int 0, .ref z, .int (nI n), .ref w3, .ref w4, v5, v6, .int (nI a7), v8, .ref w9, v10, v11, v12, .long (zRtX v n x0), .int (nI (zRtL v n).1), .int (nI (zRtL v n).2.2)])), (z, .inl (G.2 1, 120, .inl v)), (w9, .inl (G.2 2, 2, .inl K))]) (w1 := [(w4, .inl (G.2 1, 121, .inl (flt (zRtL v n).2.1.1 (zRtL v n).2.1.2))), (w3, .inl (G.2 1, 121, .inl (cpv (flt (zRtL v n).2.1.1 (zRtL v n).2.1.2) F3 0 0 121)))]) (ws' := [(q, .inr (7, [.int 0, .ref z, .int (nI n), .ref w3, .ref w4, v5, v6, .int (nI a7), v8, .ref w9, v10, v11, v12, .long (zRtX v n x0), .int (nI (zRtL v n).1), .int (nI (zRtL v n).2.2)])), (z, .inl (G.2 1, 120, .inl v)), (w4, .inl (G.2 1, 121, .inl (flt (zRtL v n).2.1.1 (zRtL v n).2.1.2))), (w3, .inl (G.2 1, 121, .inl (cpv (flt (zRtL v n).2.1.1 (zRtL v n).2.1.2) F3 0 0 121))), (w9, .inl (G.2 2, 2, .inl K))]) ⟨hx, hb, hml, hown, hts⟩ (c_copyState l G w4 w3 121 121 0 0 (flt (zRtL v n).2.1.1 (zRtL v n).2.1.2) F3 (by omega) (by omega) (by decide) (by decide)) (va_cwS 4 hts gX7_load_X7_copyState rfl rfl rfl (by decide +kernel) ⟨Nat.le_of_ble_eq_true rfl, Nat.le_of_ble_eq_true rfl⟩) rfl hl.1 rfl (Nat.le_of_ble_eq_true rfl) dX7_load_36 ⟨Nat.le_of_ble_eq_true rfl, Nat.le_of_ble_eq_true rfl⟩ hK hE hA hM (pm_at 5 [2, 3] [0, 1, 4] rfl rfl rfl (by decide)) ((pm_at 5 [2, 3] [0, 1, 4] rfl rfl rfl (by decide))).symm (fun H locs hM hz => ?_)
  have hsim : zSim ([(q, .inr (7, [.int 0, .ref z, .int (nI n), .ref w3, .ref w4, v5, v6, .int (nI a7), v8, .ref w9, v10, v11, v12, .long (zRtX v n x0), .int (nI (zRtL v n).1), .int (nI (zRtL v n).2.2)])), (z, .inl (G.2 1, 120, .inl v)), (w4, .inl (G.2 1, 121, .inl (flt (zRtL v n).2.1.1 (zRtL v n).2.1.2))), (w3, .inl (G.2 1, 121, .inl (cpv (flt (zRtL v n).2.1.1 (zRtL v n).2.1.2) F3 0 0 121))), (w9, .inl (G.2 2, 2, .inl K))]) ([(q, .inr (7, [.int 0, .ref z, .int (nI n), .ref w3, .ref w4, v5, v6, .int (nI a7), v8, .ref w9, v10, v11, v12, .long (zRtX v n x0), .int (nI (zRtL v n).1), .int (nI (zRtL v n).2.2)])), (z, .inl (G.2 1, 120, .inl v)), (w4, .inl (G.2 1, 121, .inl (flt (zRtL v n).2.1.1 (zRtL v n).2.1.2))), (w3, .inl (G.2 1, 121, .inl (flt (zRtL v n).2.1.1 (zRtL v n).2.1.2))), (w9, .inl (G.2 2, 2, .inl K))]) := ⟨zSame_rf _, zSame_rf _, zSame_rf _, zSame_arr cpv_all, zSame_rf _, trivial⟩
  have hM : zM G A s H locs ([(q, .inr (7, [.int 0, .ref z, .int (nI n), .ref w3, .ref w4, v5, v6, .int (nI a7), v8, .ref w9, v10, v11, v12, .long (zRtX v n x0), .int (nI (zRtL v n).1), .int (nI (zRtL v n).2.2)])), (z, .inl (G.2 1, 120, .inl v)), (w4, .inl (G.2 1, 121, .inl (flt (zRtL v n).2.1.1 (zRtL v n).2.1.2))), (w3, .inl (G.2 1, 121, .inl (flt (zRtL v n).2.1.1 (zRtL v n).2.1.2))), (w9, .inl (G.2 2, 2, .inl K))]) := zM_sim hsim hM
  refine lv_aload_n hx hb dX7_load_39 rfl (lv_at hl 0 rfl) ?_
  refine lv_iconst (v := nI 0) hx hb dX7_load_40 (by decide) ?_
  refine z_put (ci := 7) (ty := .int) (v := .int (nI 0)) (C := RX7) (T := TX7) (N := 16) (ws' := [(q, .inr (7, [.int 0, .ref z, .int (nI n), .ref w3, .ref w4, v5, v6, .int (nI 0), v8, .ref w9, v10, v11, v12, .long (zRtX v n x0), .int (nI (zRtL v n).1), .int (nI (zRtL v n).2.2)])), (z, .inl (G.2 1, 120, .inl v)), (w4, .inl (G.2 1, 121, .inl (flt (zRtL v n).2.1.1 (zRtL v n).2.1.2))), (w3, .inl (G.2 1, 121, .inl (flt (zRtL v n).2.1.1 (zRtL v n).2.1.2))), (w9, .inl (G.2 2, 2, .inl K))]) hx hb hts (by decide +kernel) tyX7 tyX7_ok nmX7 hown hK hM 0 rfl rfl 7 (by decide) (hts (.fieldLink RX7 203 "ShiftIslesModel" "acts" "I") (by decide +kernel)) (fun _ h9 => h9) rfl (by decide +kernel) rfl rfl (Nat.le_of_ble_eq_true rfl) dX7_load_41 rfl (fun H locs hM => ?_)
  refine lv_aload_n hx hb dX7_load_44 rfl (lv_at hl 0 rfl) ?_
  refine z_get (ci := 7) (v := .ref w9) (C := RX7) (T := TX7) (N := 16) hx hb hts (by decide +kernel) hown hK hM 0 rfl rfl 9 (by decide) (hts (.fieldLink RX7 28 "ShiftIslesModel" "isKept" "[Z") (by decide +kernel)) (fun _ h9 => h9) rfl dX7_load_45 ?_
  refine lv_iconst (v := nI 0) hx hb dX7_load_48 (by decide) ?_
  refine lv_iconst (v := 0) hx hb dX7_load_49 (by decide) ?_
  refine z_zast (ws' := [(q, .inr (7, [.int 0, .ref z, .int (nI n), .ref w3, .ref w4, v5, v6, .int (nI 0), v8, .ref w9, v10, v11, v12, .long (zRtX v n x0), .int (nI (zRtL v n).1), .int (nI (zRtL v n).2.2)])), (z, .inl (G.2 1, 120, .inl v)), (w4, .inl (G.2 1, 121, .inl (flt (zRtL v n).2.1.1 (zRtL v n).2.1.2))), (w3, .inl (G.2 1, 121, .inl (flt (zRtL v n).2.1.1 (zRtL v n).2.1.2))), (w9, .inl (G.2 2, 2, .inl (upd K 0 0)))]) hx hb hK hM 4 rfl (vp_in_nI (by omega) (by decide)) dX7_load_50 (by rw [nI_clamp (by omega)]; rfl) (fun H locs hM => ?_)
  refine lv_aload_n hx hb dX7_load_51 rfl (lv_at hl 0 rfl) ?_
  refine z_get (ci := 7) (v := .ref w9) (C := RX7) (T := TX7) (N := 16) hx hb hts (by decide +kernel) hown hK hM 0 rfl rfl 9 (by decide) (hts (.fieldLink RX7 28 "ShiftIslesModel" "isKept" "[Z") (by decide +kernel)) (fun _ h9 => h9) rfl dX7_load_52 ?_
  refine lv_iconst (v := nI 1) hx hb dX7_load_55 (by decide) ?_
  refine lv_iconst (v := 0) hx hb dX7_load_56 (by decide) ?_
  refine z_zast (ws' := [(q, .inr (7, [.int 0, .ref z, .int (nI n), .ref w3, .ref w4, v5, v6, .int (nI 0), v8, .ref w9, v10, v11, v12, .long (zRtX v n x0), .int (nI (zRtL v n).1), .int (nI (zRtL v n).2.2)])), (z, .inl (G.2 1, 120, .inl v)), (w4, .inl (G.2 1, 121, .inl (flt (zRtL v n).2.1.1 (zRtL v n).2.1.2))), (w3, .inl (G.2 1, 121, .inl (flt (zRtL v n).2.1.1 (zRtL v n).2.1.2))), (w9, .inl (G.2 2, 2, .inl (upd (upd K 0 0) 1 0)))]) hx hb hK hM 4 rfl (vp_in_nI (by omega) (by decide)) dX7_load_57 (by rw [nI_clamp (by omega)]; rfl) (fun H locs hM => ?_)
  refine lv_aload_n hx hb dX7_load_58 rfl (lv_at hl 0 rfl) ?_
  refine z_get (ci := 7) (v := .int (nI (zRtL v n).2.2)) (C := RX7) (T := TX7) (N := 16) hx hb hts (by decide +kernel) hown hK hM 0 rfl rfl 15 (by decide) (hts (.fieldLink RX7 170 "ShiftIslesModel" "out" "I") (by decide +kernel)) (fun _ h9 => h9) rfl dX7_load_59 ?_
  exact z_iret hx hb hr hlocks dX7_load_62 hM (Nat.le_of_ble_eq_true rfl) (Nat.le_of_ble_eq_true rfl) rfl
