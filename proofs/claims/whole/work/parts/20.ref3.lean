/-! REFERENCE, second part: states that are well, and what each act makes of them -/
def zWf (h : Nat → Int32) (b : Nat → Nat → Int32) (P t S : Nat) : Prop := zGw h P t S ∧ (0 < P → t < P) ∧ ∀ p, p < P → zBw (b p)
theorem va_upn {α : Type} (f : Nat → α) {k j : Nat} (v : α) (h : ¬ j = k) : va_up f k v j = f j := by
  unfold va_up
  rw [if_neg h]
theorem zWf_b {h : Nat → Int32} {b : Nat → Nat → Int32} {P t S q : Nat} {f : Nat → Int32} (w : zWf h b P t S) (hf : zBw f) : zWf h (va_up b q f) P t S := by
  refine ⟨w.1, w.2.1, fun p hp => ?_⟩
  by_cases e : p = q
  · subst e
    rw [va_ups]
    exact hf
  · rw [va_upn _ _ e]
    exact w.2.2 p hp
theorem upd_comm {f : Nat → Int32} {i j : Nat} {x y : Int32} (h : ¬ i = j) : upd (upd f i x) j y = upd (upd f j y) i x := by
  funext k
  by_cases e1 : k = i
  · subst e1
    rw [pk_un h, pk_us, pk_us]
  · rw [pk_un (k := i) e1]
    by_cases e2 : k = j
    · subst e2
      rw [pk_us, pk_us]
    · rw [pk_un e2, pk_un e1, pk_un e2]
theorem zNt_rem {t P : Nat} (h : t < P) : (t + 1) % P = zNt t P := by
  unfold zNt
  by_cases e : t + 1 < P
  · rw [if_pos e, Nat.mod_eq_of_lt e]
  · rw [if_neg e, show t + 1 = P by omega, Nat.mod_self]
theorem zNt_ltP {t P : Nat} (h : t < P) : zNt t P < P := by
  unfold zNt
  split <;> omega
theorem nI_nz {a : Nat} (h : 0 < a) (h2 : a < 2 ^ 31) : nI a ≠ 0 := by
  intro q
  have := (nI_eq (a := a) (b := 0) h2 (by decide)).mp q
  omega
theorem zRu_P {h : Nat → Int32} {P : Nat} (h0 : h 0 = nI P) (hP : P ≤ 4) (q : zRu h = true) : 0 < P := by
  refine Nat.pos_of_ne_zero (fun e => ?_)
  subst e
  rw [zRu, h0] at q
  have q2 := (Bool.and_eq_true _ _).mp q
  exact absurd q2.1 (by decide)
theorem zBw_set {f g : Nat → Int32} (w : zBw f) (h23 : g 23 = f 23) (h24 : g 24 = f 24) (ht : ∀ i, i < 9 → g (9 + i) = f (9 + i)) (ho : ∀ i, i < 5 → g (18 + i) = f (18 + i)) : zBw g :=
  ⟨by rw [h23]; exact w.1, by rw [h24]; exact w.2.1, fun i hi => by rw [ht i hi]; exact w.2.2.1 i hi, fun i hi => by rw [ho i hi]; exact w.2.2.2 i hi⟩
theorem zBw_25 {f : Nat → Int32} (w : zBw f) (v : Int32) : zBw (upd f 25 v) :=
  zBw_set w (pk_un (by decide)) (pk_un (by decide)) (fun i hi => pk_un (by omega)) (fun i hi => pk_un (by omega))
theorem zBw_24 {f : Nat → Int32} (w : zBw f) {k : Nat} (hk : k < 9) : zBw (upd f 24 (nI k)) :=
  ⟨by rw [pk_un (by decide)]; exact w.1, ⟨k, hk, pk_us⟩, fun i hi => by rw [pk_un (by omega)]; exact w.2.2.1 i hi, fun i hi => by rw [pk_un (by omega)]; exact w.2.2.2 i hi⟩
theorem zBw_g0 {f : Nat → Int32} (w : zBw f) {k : Nat} (hk : k < 9) : zBw (upd f (9 + k) 0) := by
  refine ⟨by rw [pk_un (by omega)]; exact w.1, by rw [pk_un (by omega)]; exact w.2.1, fun i hi => ?_, fun i hi => by rw [pk_un (by omega)]; exact w.2.2.2 i hi⟩
  by_cases e : i = k
  · subst e
    exact ⟨0, by decide, pk_us⟩
  · rw [pk_un (by omega)]
    exact w.2.2.1 i hi
theorem zSo_5 {f : Nat → Int32} (w : zBw f) (h : ¬ zSo f = -1) : ∃ k, k < 5 ∧ f 23 = nI k := by
  obtain ⟨k, hk, ek⟩ := w.1
  rw [zSo_e hk ek] at h
  by_cases e : k = 5
  · rw [if_pos e] at h
    exact absurd rfl h
  · exact ⟨k, by omega, ek⟩
theorem zBw_ld {f : Nat → Int32} (w : zBw f) {k : Nat} (hk : k < 9) : zBw (zLd f k) := by
  unfold zLd
  split
  · exact zBw_24 w hk
  · rename_i h
    have h2 : f (9 + k) = zSo f := Decidable.not_not.mp (fun q => h (Or.inr q))
    obtain ⟨j, hj, ej⟩ := w.2.2.1 k hk
    have h3 : ¬ zSo f = -1 := by
      rw [← h2, ej]
      exact nI_m1 (by omega)
    obtain ⟨c, hc, ec⟩ := zSo_5 w h3
    have w2 := zBw_g0 (zBw_24 w hk) hk
    refine ⟨⟨c + 1, by omega, ?_⟩, ?_, ?_, ?_⟩
    · rw [pk_us, ec]
      exact nI_1 c
    · rw [pk_un (by decide)]
      exact w2.2.1
    · intro i hi
      rw [pk_un (by omega)]
      exact w2.2.2.1 i hi
    · intro i hi
      rw [pk_un (by omega)]
      exact w2.2.2.2 i hi
def zAll (Q : Int32 → Prop) (t : Nat → Int32) : Prop := ∀ i, i < 9 → Q (t i)
theorem zAll_upd {Q : Int32 → Prop} {t : Nat → Int32} {k : Nat} {v : Int32} (h : zAll Q t) (hv : Q v) : zAll Q (upd t k v) := by
  intro i hi
  by_cases e : i = k
  · subst e
    rw [pk_us]
    exact hv
  · rw [pk_un e]
    exact h i hi
theorem zAll_cy {Q : Int32 → Prop} {a c : Nat} (hac : a + c + c < 9) {t : Nat → Int32} (h : zAll Q t) : zAll Q (zCy a c t) := by
  unfold zCy
  exact zAll_upd (zAll_upd (zAll_upd h (h _ (by omega))) (zAll_upd h (h _ (by omega)) _ (by omega))) (h _ (by omega))
theorem zAll_cyN {Q : Int32 → Prop} {a c : Nat} (hac : a + c + c < 9) : ∀ (n : Nat) {t : Nat → Int32}, zAll Q t → zAll Q (zCyN a c n t)
  | 0, _, h => h
  | n + 1, _, h => zAll_cyN hac n (zAll_cy hac h)
theorem zMab {n : Nat} (hn : n < 6) : zMa n + zMb n + zMb n < 9 := by
  unfold zMa zMb
  split <;> omega
theorem zSh_r {a c : Nat} (hac : a + c + c < 9) (q : Nat) : ∀ (k i : Nat) (s : Nat), s < 9 → ∃ j, j < 9 ∧ zSh a c q (nI s) k i = nI j
  | 0, _, s, hs => ⟨s, hs, rfl⟩
  | k + 1, i, s, hs => by
    rw [zSh]
    split
    · have h3 : (i + q) % 3 = 0 ∨ (i + q) % 3 = 1 ∨ (i + q) % 3 = 2 := by omega
      refine ⟨a + (i + q) % 3 * c, ?_, rfl⟩
      rcases h3 with e | e | e <;> rw [e] <;> omega
    · exact zSh_r hac q k (i + 1) s hs
theorem zBw_mv {f : Nat → Int32} (w : zBw f) {n : Nat} (hn : n < 6) (d : Int32) : zBw (zMv f n d) := by
  refine ⟨?_, ?_, ?_, ?_⟩
  · exact w.1
  · obtain ⟨s, hs, es⟩ := w.2.1
    show ∃ k, k < 9 ∧ zSh (zMa n) (zMb n) (zMh d) (f 24) 3 0 = nI k
    rw [es]
    exact zSh_r (zMab hn) _ 3 0 s hs
  · intro i hi
    have h1 : zMv f n d (9 + i) = zCyN (zMa n) (zMb n) (zMh d) (fun i => f (9 + i)) i := by
      show (if 9 + i < 9 then _ else _) = _
      rw [if_neg (by omega), if_pos (by omega), show 9 + i - 9 = i by omega]
    rw [h1]
    exact zAll_cyN (Q := fun x => ∃ k, k ≤ 5 ∧ x = nI k) (zMab hn) _ (fun i hi => w.2.2.1 i hi) i hi
  · intro i hi
    have h1 : zMv f n d (18 + i) = f (18 + i) := by
      show (if 18 + i < 9 then _ else _) = _
      rw [if_neg (by omega), if_neg (by omega), if_neg (by omega), if_neg (by omega), if_neg (by omega)]
    rw [h1]
    exact w.2.2.2 i hi
theorem zPu_mvd {f : Nat → Int32} (w : zBw f) {n : Nat} (hn : n < 6) {d : Int32} (hd : d = 0 ∨ d = 1) : ∀ j, j < 28 → upd (upd (zPu f n d) 26 (nI n)) 27 d j = zMv f n d j := by
  obtain ⟨s, hs, es⟩ := w.2.1
  rcases hd with rfl | rfl
  · exact zPu_mv f hn (w := 0) (by decide) hs es
  · exact zPu_mv f hn (w := 1) (by decide) hs es
theorem zIl_dummy : True := trivial
theorem zWf_h {h g : Nat → Int32} {b : Nat → Nat → Int32} {P t S : Nat} (w : zWf h b P t S) (e0 : g 0 = h 0) (e1 : g 1 = h 1) (e6 : g 6 = h 6) (e2 : g 2 = 0 ∨ g 2 = 1) (e4 : g 4 = 0 ∨ g 4 = 1) : zWf g b P t S := by
  obtain ⟨⟨h0, hP4, h1, ht4, h6, hS9, _, _⟩, hpt, hwb⟩ := w
  exact ⟨⟨e0.trans h0, hP4, e1.trans h1, ht4, e6.trans h6, hS9, e2, e4⟩, hpt, hwb⟩
theorem zWf_sh {h : Nat → Int32} {b : Nat → Nat → Int32} {P t S o n : Nat} {d : Int32} (w : zWf h b P t S) (ho : o < P) (hn : n < 6) : zWf (zShH h) (va_up b o (zMv (b o) n d)) P t S :=
  zWf_b (zWf_h w (pk_un (by decide)) (pk_un (by decide)) (pk_un (by decide)) (Or.inr pk_us) (by rw [zShH, pk_un (by decide)]; exact w.1.2.2.2.2.2.2.2)) (zBw_mv (w.2.2 o ho) hn d)
set_option maxHeartbeats 4000000 in
set_option maxRecDepth 100000 in
theorem c_csn (l : Launch) (G : zC) (r : Nat) (h : Nat → Int32) (b : Nat → Nat → Int32) (P t S : Nat) (hg : zWf h b P t S) (o : Nat) (n d : Int32) (ho : o < 1000) (hn : zLi n = true) (hd : zDi d = true) : zMet l G yX7_canShiftNow wsX7_canShiftNow rmX7_canShiftNow [.ref r, .int (nI o), .int n, .int d] (rfW G r h b) (some (.int (zb (zMs h b o n d)))) (rfW G r h b) := by
  refine zMet_of (cc := cX7_canShiftNow) (maxL := 4) (ret := (some .boolean)) (by decide) rfl (Nat.le_of_ble_eq_true rfl) ?_
  intro p e s m below meth c A ls hx hb hr hml hown hts hK hA hE hlocks hin hM hl
  have hown : s.vm.findClass RX7 = some m.cls := hown
  have hM : zM G A s s.heap [] ([(r, .inl (G.2 1, 121, .inl (flt h b)))]) := hM
  have hl : lv_has ls 4 [(0, .ref r), (1, .int (nI o)), (2, .int n), (3, .int d)] := hl
  obtain ⟨⟨h0, hP4, h1, ht4, h6, hS, h22, h44⟩, hpt, hwb⟩ := id hg
  refine lv_aload_n hx hb dX7_canShiftNow_0 rfl (lv_at hl 0 rfl) ?_
  refine z_callS (As := [.ref r]) (rest := []) (wc := rfW G r h b) (wr := []) (w1 := rfW G r h b) (ws' := [(r, .inl (G.2 1, 121, .inl (flt h b)))]) ⟨hx, hb, hml, hown, hts⟩ (c_r_isOn l G r h b  ) (va_cwS 1 hts gX7_canShiftNow_X7_isOn rfl rfl rfl (by decide +kernel) ⟨Nat.le_of_ble_eq_true rfl, Nat.le_of_ble_eq_true rfl⟩) rfl hl.1 rfl (Nat.le_of_ble_eq_true rfl) dX7_canShiftNow_1 ⟨Nat.le_of_ble_eq_true rfl, Nat.le_of_ble_eq_true rfl⟩ hK hE hA hM (pm_at 1 [0] [] rfl rfl rfl (by decide)) ((pm_at 1 [0] [] rfl rfl rfl (by decide))).symm (fun H locs hM hz => ?_)
  refine z_ifeq (tgt := 42) hx hb dX7_canShiftNow_4 (by decide) (fun c_1 => ?_) (fun c_1 => ?_)
  · skip
    refine lv_iconst (v := 0) hx hb dX7_canShiftNow_42 (by decide) ?_
    exact z_zret hx hb hr hlocks dX7_canShiftNow_43 hM (Nat.le_of_ble_eq_true rfl) (Nat.le_of_ble_eq_true rfl) (by first | exact Or.inl rfl | exact Or.inr rfl | exact zb_01 _) (by simp only [zMs, hn, hd, Bool.and_true, c_1] <;> rfl)
  · skip
    refine lv_aload_n hx hb dX7_canShiftNow_7 rfl (lv_at hl 0 rfl) ?_
    refine lv_iconst (v := 2) hx hb dX7_canShiftNow_8 (by decide) ?_
    refine z_iald hx hb hK hM 0 rfl (v := h 2) (vp_in_nI (n := 2) (by decide) (by decide)) (flt_h (k := 2) (by decide)) dX7_canShiftNow_9 ?_
    refine lv_if_ne (tgt := 42) hx hb dX7_canShiftNow_10 (by decide) (fun c_2 => ?_) (fun c_2 => ?_)
    · skip
      refine lv_iconst (v := 0) hx hb dX7_canShiftNow_42 (by decide) ?_
      exact z_zret hx hb hr hlocks dX7_canShiftNow_43 hM (Nat.le_of_ble_eq_true rfl) (Nat.le_of_ble_eq_true rfl) (by first | exact Or.inl rfl | exact Or.inr rfl | exact zb_01 _) (by simp only [zMs, hn, hd, Bool.and_true, c_1, decide_eq_false c_2] <;> rfl)
    · skip
      refine lv_aload_n hx hb dX7_canShiftNow_13 rfl (lv_at hl 0 rfl) ?_
      refine lv_iload_n hx hb dX7_canShiftNow_14 rfl (lv_at hl 1 rfl) ?_
      refine z_callS (As := [.ref r, .int (nI o)]) (rest := []) (wc := rfW G r h b) (wr := []) (w1 := rfW G r h b) (ws' := [(r, .inl (G.2 1, 121, .inl (flt h b)))]) ⟨hx, hb, hml, hown, hts⟩ (c_r_isPlayer l G r h b P h0 hP4 (nI o) ) (va_cwS 2 hts gX7_canShiftNow_X7_isPlayer rfl rfl rfl (by decide +kernel) ⟨Nat.le_of_ble_eq_true rfl, Nat.le_of_ble_eq_true rfl⟩) rfl hl.1 rfl (Nat.le_of_ble_eq_true rfl) dX7_canShiftNow_15 ⟨Nat.le_of_ble_eq_true rfl, Nat.le_of_ble_eq_true rfl⟩ hK hE hA hM (pm_at 1 [0] [] rfl rfl rfl (by decide)) ((pm_at 1 [0] [] rfl rfl rfl (by decide))).symm (fun H locs hM hz => ?_)
      refine z_ifeq (tgt := 42) hx hb dX7_canShiftNow_18 (by decide) (fun c_3 => ?_) (fun c_3 => ?_)
      · skip
        refine lv_iconst (v := 0) hx hb dX7_canShiftNow_42 (by decide) ?_
        exact z_zret hx hb hr hlocks dX7_canShiftNow_43 hM (Nat.le_of_ble_eq_true rfl) (Nat.le_of_ble_eq_true rfl) (by first | exact Or.inl rfl | exact Or.inr rfl | exact zb_01 _) (by simp only [zMs, hn, hd, Bool.and_true, c_1, decide_eq_true c_2, c_3] <;> rfl)
      · skip
        refine lv_iload_n hx hb dX7_canShiftNow_21 rfl (lv_at hl 1 rfl) ?_
        refine lv_aload_n hx hb dX7_canShiftNow_22 rfl (lv_at hl 0 rfl) ?_
        refine lv_iconst (v := 1) hx hb dX7_canShiftNow_23 (by decide) ?_
        refine z_iald hx hb hK hM 0 rfl (v := h 1) (vp_in_nI (n := 1) (by decide) (by decide)) (flt_h (k := 1) (by decide)) dX7_canShiftNow_24 ?_
        refine lv_icmp_eq (tgt := 42) hx hb dX7_canShiftNow_25 (by decide) (fun c_4 => ?_) (fun c_4 => ?_)
        · skip
          refine lv_iconst (v := 0) hx hb dX7_canShiftNow_42 (by decide) ?_
          exact z_zret hx hb hr hlocks dX7_canShiftNow_43 hM (Nat.le_of_ble_eq_true rfl) (Nat.le_of_ble_eq_true rfl) (by first | exact Or.inl rfl | exact Or.inr rfl | exact zb_01 _) (by simp only [zMs, hn, hd, Bool.and_true, c_1, decide_eq_true c_2, c_3, decide_eq_true c_4] <;> rfl)
        · have ho4 : o < 4 := by have h9 := (zHp_lt h0 hP4 (by omega)).mp c_3; omega
          refine lv_aload_n hx hb dX7_canShiftNow_28 rfl (lv_at hl 0 rfl) ?_
          refine lv_iload_n hx hb dX7_canShiftNow_29 rfl (lv_at hl 1 rfl) ?_
          refine lv_iload_n hx hb dX7_canShiftNow_30 rfl (lv_at hl 2 rfl) ?_
          refine lv_iload_n hx hb dX7_canShiftNow_31 rfl (lv_at hl 3 rfl) ?_
          refine z_callS (As := [.ref r, .int (nI o), .int n, .int d]) (rest := []) (wc := rfW G r h b) (wr := []) (w1 := rfW G r h b) (ws' := [(r, .inl (G.2 1, 121, .inl (flt h b)))]) ⟨hx, hb, hml, hown, hts⟩ (c_may l G r h b o (by omega) n d ) (va_cwS 4 hts gX7_canShiftNow_X7_may rfl rfl rfl (by decide +kernel) ⟨Nat.le_of_ble_eq_true rfl, Nat.le_of_ble_eq_true rfl⟩) rfl hl.1 rfl (Nat.le_of_ble_eq_true rfl) dX7_canShiftNow_32 ⟨Nat.le_of_ble_eq_true rfl, Nat.le_of_ble_eq_true rfl⟩ hK hE hA hM (pm_at 1 [0] [] rfl rfl rfl (by decide)) ((pm_at 1 [0] [] rfl rfl rfl (by decide))).symm (fun H locs hM hz => ?_)
          refine z_ifeq (tgt := 42) hx hb dX7_canShiftNow_35 (by decide) (fun c_5 => ?_) (fun c_5 => ?_)
          · skip
            refine lv_iconst (v := 0) hx hb dX7_canShiftNow_42 (by decide) ?_
            exact z_zret hx hb hr hlocks dX7_canShiftNow_43 hM (Nat.le_of_ble_eq_true rfl) (Nat.le_of_ble_eq_true rfl) (by first | exact Or.inl rfl | exact Or.inr rfl | exact zb_01 _) (by simp only [zMs, hn, hd, Bool.and_true, c_1, decide_eq_true c_2, c_3, decide_eq_false c_4, c_5] <;> rfl)
          · skip
            refine lv_iconst (v := 1) hx hb dX7_canShiftNow_38 (by decide) ?_
            refine lv_goto (tgt := 43) hx hb dX7_canShiftNow_39 (by decide) ?_
            exact z_zret hx hb hr hlocks dX7_canShiftNow_43 hM (Nat.le_of_ble_eq_true rfl) (Nat.le_of_ble_eq_true rfl) (by first | exact Or.inl rfl | exact Or.inr rfl | exact zb_01 _) (by simp only [zMs, hn, hd, Bool.and_true, c_1, decide_eq_true c_2, c_3, decide_eq_false c_4, c_5] <;> rfl)

set_option maxHeartbeats 4000000 in
set_option maxRecDepth 100000 in
theorem c_shiftOn (l : Launch) (G : zC) (r : Nat) (h : Nat → Int32) (b : Nat → Nat → Int32) (P t S : Nat) (hg : zWf h b P t S) (o n : Nat) (d : Int32) (ho : o < P) (hn : n < 6) (hd : d = 0 ∨ d = 1) : zMet l G yX7_shiftOn wsX7_shiftOn rmX7_shiftOn [.ref r, .int (nI o), .int (nI n), .int d] (rfW G r h b) (some (.int (zBc (zRch (zMv (b o) n d) S)))) (rfW G r (zShH h) (va_up b o (zMv (b o) n d))) := by
  refine zMet_of (cc := cX7_shiftOn) (maxL := 4) (ret := (some .int)) (by decide) rfl (Nat.le_of_ble_eq_true rfl) ?_
  intro p e s m below meth c A ls hx hb hr hml hown hts hK hA hE hlocks hin hM hl
  have hown : s.vm.findClass RX7 = some m.cls := hown
  have hM : zM G A s s.heap [] ([(r, .inl (G.2 1, 121, .inl (flt h b)))]) := hM
  have hl : lv_has ls 4 [(0, .ref r), (1, .int (nI o)), (2, .int (nI n)), (3, .int d)] := hl
  obtain ⟨⟨h0, hP4, h1, ht4, h6, hS, h22, h44⟩, hpt, hwb⟩ := id hg
  have hwo : zBw (b o) := hwb o ho
  have hwm : zBw (va_up b o (zMv (b o) n d) o) := by rw [va_ups]; exact zBw_mv hwo hn d
  refine lv_aload_n hx hb dX7_shiftOn_0 rfl (lv_at hl 0 rfl) ?_
  refine lv_iload_n hx hb dX7_shiftOn_1 rfl (lv_at hl 1 rfl) ?_
  refine lv_iload_n hx hb dX7_shiftOn_2 rfl (lv_at hl 2 rfl) ?_
  refine lv_iload_n hx hb dX7_shiftOn_3 rfl (lv_at hl 3 rfl) ?_
  refine z_callS (As := [.ref r, .int (nI o), .int (nI n), .int d]) (rest := []) (wc := rfW G r h b) (wr := []) (w1 := rfW G r h (va_up b o (zPu (b o) n d))) (ws' := [(r, .inl (G.2 1, 121, .inl (flt h (va_up b o (zPu (b o) n d)))))]) ⟨hx, hb, hml, hown, hts⟩ (c_push l G r h b o n d (by omega) (by omega) ) (va_cwS 4 hts gX7_shiftOn_X7_push rfl rfl rfl (by decide +kernel) ⟨Nat.le_of_ble_eq_true rfl, Nat.le_of_ble_eq_true rfl⟩) rfl hl.1 rfl (Nat.le_of_ble_eq_true rfl) dX7_shiftOn_4 ⟨Nat.le_of_ble_eq_true rfl, Nat.le_of_ble_eq_true rfl⟩ hK hE hA hM (pm_at 1 [0] [] rfl rfl rfl (by decide)) ((pm_at 1 [0] [] rfl rfl rfl (by decide))).symm (fun H locs hM hz => ?_)
  refine lv_aload_n hx hb dX7_shiftOn_7 rfl (lv_at hl 0 rfl) ?_
  refine lv_iload_n hx hb dX7_shiftOn_8 rfl (lv_at hl 1 rfl) ?_
  refine z_callS (As := [.int (nI o)]) (rest := [.ref r]) (wc := []) (wr := [(r, .inl (G.2 1, 121, .inl (flt h (va_up b o (zPu (b o) n d)))))]) (w1 := []) (ws' := [(r, .inl (G.2 1, 121, .inl (flt h (va_up b o (zPu (b o) n d)))))]) ⟨hx, hb, hml, hown, hts⟩ (c_at l G o (by omega)) (va_cwS 1 hts gX7_shiftOn_X7_at rfl rfl rfl (by decide +kernel) ⟨Nat.le_of_ble_eq_true rfl, Nat.le_of_ble_eq_true rfl⟩) rfl hl.1 rfl (Nat.le_of_ble_eq_true rfl) dX7_shiftOn_9 ⟨Nat.le_of_ble_eq_true rfl, Nat.le_of_ble_eq_true rfl⟩ hK hE hA hM (List.Perm.refl _) (List.Perm.refl _) (fun H locs hM hz => ?_)
  refine lv_bipush (v := 26) hx hb dX7_shiftOn_12 (by decide) ?_
  refine lv_iadd hx hb dX7_shiftOn_14 ?_
  refine z_topi (y := nI ((9 + (28 * o)) + 26)) (nI_add (9 + (28 * o)) 26) ?_
  refine lv_iload_n hx hb dX7_shiftOn_15 rfl (lv_at hl 2 rfl) ?_
  refine z_iast (ws' := [(r, .inl (G.2 1, 121, .inl (flt h (va_up (va_up b o (zPu (b o) n d)) o (upd ((va_up b o (zPu (b o) n d)) o) 26 (nI n))))))]) hx hb hK hM 0 rfl (vp_in_nI (by omega) (by decide)) dX7_shiftOn_16 (by rw [nI_clamp (by omega), flt_ub o 26 (by omega) (by omega)]; rfl) (fun H locs hM => ?_)
  rw [va_upup, va_ups] at hM
  have hM : zM G A s H locs ([(r, .inl (G.2 1, 121, .inl (flt h (va_up b o (upd (zPu (b o) n d) 26 (nI n))))))]) := hM
  refine lv_aload_n hx hb dX7_shiftOn_17 rfl (lv_at hl 0 rfl) ?_
  refine lv_iload_n hx hb dX7_shiftOn_18 rfl (lv_at hl 1 rfl) ?_
  refine z_callS (As := [.int (nI o)]) (rest := [.ref r]) (wc := []) (wr := [(r, .inl (G.2 1, 121, .inl (flt h (va_up b o (upd (zPu (b o) n d) 26 (nI n))))))]) (w1 := []) (ws' := [(r, .inl (G.2 1, 121, .inl (flt h (va_up b o (upd (zPu (b o) n d) 26 (nI n))))))]) ⟨hx, hb, hml, hown, hts⟩ (c_at l G o (by omega)) (va_cwS 1 hts gX7_shiftOn_X7_at rfl rfl rfl (by decide +kernel) ⟨Nat.le_of_ble_eq_true rfl, Nat.le_of_ble_eq_true rfl⟩) rfl hl.1 rfl (Nat.le_of_ble_eq_true rfl) dX7_shiftOn_19 ⟨Nat.le_of_ble_eq_true rfl, Nat.le_of_ble_eq_true rfl⟩ hK hE hA hM (List.Perm.refl _) (List.Perm.refl _) (fun H locs hM hz => ?_)
  refine lv_bipush (v := 27) hx hb dX7_shiftOn_22 (by decide) ?_
  refine lv_iadd hx hb dX7_shiftOn_24 ?_
  refine z_topi (y := nI ((9 + (28 * o)) + 27)) (nI_add (9 + (28 * o)) 27) ?_
  refine lv_iload_n hx hb dX7_shiftOn_25 rfl (lv_at hl 3 rfl) ?_
  refine z_iast (ws' := [(r, .inl (G.2 1, 121, .inl (flt h (va_up (va_up b o (upd (zPu (b o) n d) 26 (nI n))) o (upd ((va_up b o (upd (zPu (b o) n d) 26 (nI n))) o) 27 d)))))]) hx hb hK hM 0 rfl (vp_in_nI (by omega) (by decide)) dX7_shiftOn_26 (by rw [nI_clamp (by omega), flt_ub o 27 (by omega) (by omega)]; rfl) (fun H locs hM => ?_)
  rw [va_upup, va_ups] at hM
  have hM : zM G A s H locs ([(r, .inl (G.2 1, 121, .inl (flt h (va_up b o (upd (upd (zPu (b o) n d) 26 (nI n)) 27 d)))))]) := hM
  have hM : zM G A s H locs ([(r, .inl (G.2 1, 121, .inl (flt h (va_up b o (zMv (b o) n d)))))]) := zM_sim (flt_sim (zPu_mvd hwo hn hd)) hM
  refine lv_aload_n hx hb dX7_shiftOn_27 rfl (lv_at hl 0 rfl) ?_
  refine lv_iconst (v := 2) hx hb dX7_shiftOn_28 (by decide) ?_
  refine lv_iconst (v := 1) hx hb dX7_shiftOn_29 (by decide) ?_
  refine z_iast (ws' := [(r, .inl (G.2 1, 121, .inl (flt (upd h 2 1) (va_up b o (zMv (b o) n d)))))]) hx hb hK hM 0 rfl (vp_in_nI (n := 2) (by decide) (by decide)) dX7_shiftOn_30 (by rw [show (2 : Int32).toNatClampNeg = 2 from rfl, flt_uh (by decide)]; rfl) (fun H locs hM => ?_)
  refine lv_aload_n hx hb dX7_shiftOn_31 rfl (lv_at hl 0 rfl) ?_
  refine lv_iload_n hx hb dX7_shiftOn_32 rfl (lv_at hl 1 rfl) ?_
  refine z_callS (As := [.ref r, .int (nI o)]) (rest := []) (wc := rfW G r (upd h 2 1) (va_up b o (zMv (b o) n d))) (wr := []) (w1 := rfW G r (upd h 2 1) (va_up b o (zMv (b o) n d))) (ws' := [(r, .inl (G.2 1, 121, .inl (flt (upd h 2 1) (va_up b o (zMv (b o) n d)))))]) ⟨hx, hb, hml, hown, hts⟩ (c_reachable l G r (upd h 2 1) (va_up b o (zMv (b o) n d)) o S (by omega) hS hwm ((pk_un (f := h) (k := 2) (j := 6) (x := 1) (by decide)).trans h6)) (va_cwS 2 hts gX7_shiftOn_X7_reachable rfl rfl rfl (by decide +kernel) ⟨Nat.le_of_ble_eq_true rfl, Nat.le_of_ble_eq_true rfl⟩) rfl hl.1 rfl (Nat.le_of_ble_eq_true rfl) dX7_shiftOn_33 ⟨Nat.le_of_ble_eq_true rfl, Nat.le_of_ble_eq_true rfl⟩ hK hE hA hM (pm_at 1 [0] [] rfl rfl rfl (by decide)) ((pm_at 1 [0] [] rfl rfl rfl (by decide))).symm (fun H locs hM hz => ?_)
  refine z_callS (As := [.int (zRch ((va_up b o (zMv (b o) n d)) o) S)]) (rest := []) (wc := []) (wr := [(r, .inl (G.2 1, 121, .inl (flt (upd h 2 1) (va_up b o (zMv (b o) n d)))))]) (w1 := []) (ws' := [(r, .inl (G.2 1, 121, .inl (flt (upd h 2 1) (va_up b o (zMv (b o) n d)))))]) ⟨hx, hb, hml, hown, hts⟩ (c_count l G (zRch ((va_up b o (zMv (b o) n d)) o) S) (zRch_9 hwm S)) (va_cwS 1 hts gX7_shiftOn_X7_count rfl rfl rfl (by decide +kernel) ⟨Nat.le_of_ble_eq_true rfl, Nat.le_of_ble_eq_true rfl⟩) rfl hl.1 rfl (Nat.le_of_ble_eq_true rfl) dX7_shiftOn_36 ⟨Nat.le_of_ble_eq_true rfl, Nat.le_of_ble_eq_true rfl⟩ hK hE hA hM (List.Perm.refl _) (List.Perm.refl _) (fun H locs hM hz => ?_)
  exact z_iret hx hb hr hlocks dX7_shiftOn_39 hM (Nat.le_of_ble_eq_true rfl) (Nat.le_of_ble_eq_true rfl) (by rw [va_ups])

set_option maxHeartbeats 4000000 in
set_option maxRecDepth 100000 in
theorem c_r_endTurn (l : Launch) (G : zC) (r : Nat) (h : Nat → Int32) (b : Nat → Nat → Int32) (P t S : Nat) (hg : zWf h b P t S) (hP0 : 0 < P) : zMet l G yX7_endTurn wsX7_endTurn rmX7_endTurn [.ref r] (rfW G r h b) none (rfW G r (zEtH h b t P) (zEtB h b t P)) := by
  refine zMet_of (cc := cX7_endTurn) (maxL := 1) (ret := none) (by decide) rfl (Nat.le_of_ble_eq_true rfl) ?_
  intro p e s m below meth c A ls hx hb hr hml hown hts hK hA hE hlocks hin hM hl
  have hown : s.vm.findClass RX7 = some m.cls := hown
  have hM : zM G A s s.heap [] ([(r, .inl (G.2 1, 121, .inl (flt h b)))]) := hM
  have hl : lv_has ls 1 [(0, .ref r)] := hl
  obtain ⟨⟨h0, hP4, h1, ht4, h6, hS, h22, h44⟩, hpt, hwb⟩ := id hg
  have hz4 : zNt t P < 4 := zNt_lt ht4 hP4
  refine lv_aload_n hx hb dX7_endTurn_0 rfl (lv_at hl 0 rfl) ?_
  refine lv_iconst (v := 3) hx hb dX7_endTurn_1 (by decide) ?_
  refine lv_dup2_11 hx hb dX7_endTurn_2 rfl rfl ?_
  refine z_iald hx hb hK hM 0 rfl (v := h 3) (vp_in_nI (n := 3) (by decide) (by decide)) (flt_h (k := 3) (by decide)) dX7_endTurn_3 ?_
  refine lv_iconst (v := 1) hx hb dX7_endTurn_4 (by decide) ?_
  refine lv_iadd hx hb dX7_endTurn_5 ?_
  refine z_iast (ws' := [(r, .inl (G.2 1, 121, .inl (flt (upd h 3 ((h 3) + 1)) b)))]) hx hb hK hM 0 rfl (vp_in_nI (n := 3) (by decide) (by decide)) dX7_endTurn_6 (by rw [show (3 : Int32).toNatClampNeg = 3 from rfl, flt_uh (by decide)]; rfl) (fun H locs hM => ?_)
  refine lv_aload_n hx hb dX7_endTurn_7 rfl (lv_at hl 0 rfl) ?_
  refine lv_iconst (v := 2) hx hb dX7_endTurn_8 (by decide) ?_
  refine lv_iconst (v := 0) hx hb dX7_endTurn_9 (by decide) ?_
  refine z_iast (ws' := [(r, .inl (G.2 1, 121, .inl (flt (upd (upd h 3 ((h 3) + 1)) 2 0) b)))]) hx hb hK hM 0 rfl (vp_in_nI (n := 2) (by decide) (by decide)) dX7_endTurn_10 (by rw [show (2 : Int32).toNatClampNeg = 2 from rfl, flt_uh (by decide)]; rfl) (fun H locs hM => ?_)
  have hM : zM G A s H locs ([(r, .inl (G.2 1, 121, .inl (flt (upd (upd h 2 0) 3 (h 3 + 1)) b)))]) := by rw [upd_comm (by decide)] at hM; exact hM
  refine lv_aload_n hx hb dX7_endTurn_11 rfl (lv_at hl 0 rfl) ?_
  refine lv_aload_n hx hb dX7_endTurn_12 rfl (lv_at hl 0 rfl) ?_
  refine lv_iconst (v := 1) hx hb dX7_endTurn_13 (by decide) ?_
  refine z_iald hx hb hK hM 0 rfl (v := h 1) (vp_in_nI (n := 1) (by decide) (by decide)) (flt_h (k := 1) (by decide)) dX7_endTurn_14 ?_
  refine z_topi (y := nI t) h1 ?_
  refine z_callS (As := [.int (nI t)]) (rest := [.ref r]) (wc := []) (wr := [(r, .inl (G.2 1, 121, .inl (flt (upd (upd h 2 0) 3 (h 3 + 1)) b)))]) (w1 := []) (ws' := [(r, .inl (G.2 1, 121, .inl (flt (upd (upd h 2 0) 3 (h 3 + 1)) b)))]) ⟨hx, hb, hml, hown, hts⟩ (c_at l G t (by omega)) (va_cwS 1 hts gX7_endTurn_X7_at rfl rfl rfl (by decide +kernel) ⟨Nat.le_of_ble_eq_true rfl, Nat.le_of_ble_eq_true rfl⟩) rfl hl.1 rfl (Nat.le_of_ble_eq_true rfl) dX7_endTurn_15 ⟨Nat.le_of_ble_eq_true rfl, Nat.le_of_ble_eq_true rfl⟩ hK hE hA hM (List.Perm.refl _) (List.Perm.refl _) (fun H locs hM hz => ?_)
  refine lv_bipush (v := 23) hx hb dX7_endTurn_18 (by decide) ?_
  refine lv_iadd hx hb dX7_endTurn_20 ?_
  refine z_topi (y := nI ((9 + (28 * t)) + 23)) (nI_add (9 + (28 * t)) 23) ?_
  refine z_iald hx hb hK hM 0 rfl (v := b t 23) (vp_in_nI (by omega) (by decide)) (by rw [nI_clamp (by omega)]; exact flt_b t 23 (by omega) (by omega)) dX7_endTurn_21 ?_
  refine lv_aload_n hx hb dX7_endTurn_22 rfl (lv_at hl 0 rfl) ?_
  refine lv_bipush (v := 7) hx hb dX7_endTurn_23 (by decide) ?_
  refine z_iald hx hb hK hM 0 rfl (v := h 7) (vp_in_nI (n := 7) (by decide) (by decide)) (flt_h (k := 7) (by decide)) dX7_endTurn_25 ?_
  refine lv_icmp_lt (tgt := 42) hx hb dX7_endTurn_26 (by decide) (fun c_1 => ?_) (fun c_1 => ?_)
  · skip
    refine lv_aload_n hx hb dX7_endTurn_42 rfl (lv_at hl 0 rfl) ?_
    refine lv_iconst (v := 3) hx hb dX7_endTurn_43 (by decide) ?_
    refine z_iald hx hb hK hM 0 rfl (v := h 3 + 1) (vp_in_nI (n := 3) (by decide) (by decide)) (flt_h (k := 3) (by decide)) dX7_endTurn_44 ?_
    refine lv_aload_n hx hb dX7_endTurn_45 rfl (lv_at hl 0 rfl) ?_
    refine lv_bipush (v := 8) hx hb dX7_endTurn_46 (by decide) ?_
    refine z_iald hx hb hK hM 0 rfl (v := h 8) (vp_in_nI (n := 8) (by decide) (by decide)) (flt_h (k := 8) (by decide)) dX7_endTurn_48 ?_
    refine lv_icmp_lt (tgt := 59) hx hb dX7_endTurn_49 (by decide) (fun c_2 => ?_) (fun c_2 => ?_)
    · skip
      refine lv_aload_n hx hb dX7_endTurn_59 rfl (lv_at hl 0 rfl) ?_
      refine lv_iconst (v := 1) hx hb dX7_endTurn_60 (by decide) ?_
      refine lv_aload_n hx hb dX7_endTurn_61 rfl (lv_at hl 0 rfl) ?_
      refine lv_iconst (v := 1) hx hb dX7_endTurn_62 (by decide) ?_
      refine z_iald hx hb hK hM 0 rfl (v := h 1) (vp_in_nI (n := 1) (by decide) (by decide)) (flt_h (k := 1) (by decide)) dX7_endTurn_63 ?_
      refine z_topi (y := nI t) h1 ?_
      refine lv_iconst (v := 1) hx hb dX7_endTurn_64 (by decide) ?_
      refine lv_iadd hx hb dX7_endTurn_65 ?_
      refine z_topi (y := nI (t + 1)) (nI_add t 1) ?_
      refine lv_aload_n hx hb dX7_endTurn_66 rfl (lv_at hl 0 rfl) ?_
      refine lv_iconst (v := 0) hx hb dX7_endTurn_67 (by decide) ?_
      refine z_iald hx hb hK hM 0 rfl (v := h 0) (vp_in_nI (n := 0) (by decide) (by decide)) (flt_h (k := 0) (by decide)) dX7_endTurn_68 ?_
      refine z_topi (y := nI P) h0 ?_
      refine lv_irem hx hb dX7_endTurn_69 (nI_nz hP0 (by omega)) ?_
      refine z_topi (y := nI (zNt t P)) (by rw [pk_rem (a := t + 1) (d := P) (by omega) (by omega) (by omega), zNt_rem (hpt hP0)]) ?_
      refine z_iast (ws' := [(r, .inl (G.2 1, 121, .inl (flt (upd (upd (upd h 2 0) 3 (h 3 + 1)) 1 (nI (zNt t P))) b)))]) hx hb hK hM 0 rfl (vp_in_nI (n := 1) (by decide) (by decide)) dX7_endTurn_70 (by rw [show (1 : Int32).toNatClampNeg = 1 from rfl, flt_uh (by decide)]; rfl) (fun H locs hM => ?_)
      refine lv_aload_n hx hb dX7_endTurn_71 rfl (lv_at hl 0 rfl) ?_
      refine lv_aload_n hx hb dX7_endTurn_72 rfl (lv_at hl 0 rfl) ?_
      refine lv_iconst (v := 1) hx hb dX7_endTurn_73 (by decide) ?_
      refine z_iald hx hb hK hM 0 rfl (v := nI (zNt t P)) (vp_in_nI (n := 1) (by decide) (by decide)) (flt_h (k := 1) (by decide)) dX7_endTurn_74 ?_
      refine z_callS (As := [.int (nI (zNt t P))]) (rest := [.ref r]) (wc := []) (wr := [(r, .inl (G.2 1, 121, .inl (flt (upd (upd (upd h 2 0) 3 (h 3 + 1)) 1 (nI (zNt t P))) b)))]) (w1 := []) (ws' := [(r, .inl (G.2 1, 121, .inl (flt (upd (upd (upd h 2 0) 3 (h 3 + 1)) 1 (nI (zNt t P))) b)))]) ⟨hx, hb, hml, hown, hts⟩ (c_at l G (zNt t P) (by omega)) (va_cwS 1 hts gX7_endTurn_X7_at rfl rfl rfl (by decide +kernel) ⟨Nat.le_of_ble_eq_true rfl, Nat.le_of_ble_eq_true rfl⟩) rfl hl.1 rfl (Nat.le_of_ble_eq_true rfl) dX7_endTurn_75 ⟨Nat.le_of_ble_eq_true rfl, Nat.le_of_ble_eq_true rfl⟩ hK hE hA hM (List.Perm.refl _) (List.Perm.refl _) (fun H locs hM hz => ?_)
      refine lv_bipush (v := 25) hx hb dX7_endTurn_78 (by decide) ?_
      refine lv_iadd hx hb dX7_endTurn_80 ?_
      refine z_topi (y := nI ((9 + (28 * (zNt t P))) + 25)) (nI_add (9 + (28 * (zNt t P))) 25) ?_
      refine lv_iconst (v := (-1)) hx hb dX7_endTurn_81 (by decide) ?_
      refine z_iast (ws' := [(r, .inl (G.2 1, 121, .inl (flt (upd (upd (upd h 2 0) 3 (h 3 + 1)) 1 (nI (zNt t P))) (va_up b (zNt t P) (upd (b (zNt t P)) 25 (-1))))))]) hx hb hK hM 0 rfl (vp_in_nI (by omega) (by decide)) dX7_endTurn_82 (by rw [nI_clamp (by omega), flt_ub (zNt t P) 25 (by omega) (by omega)]; rfl) (fun H locs hM => ?_)
      exact z_vret hx hb hr hlocks dX7_endTurn_83 (by rw [zEtH, zEtB, if_pos c_1, if_pos c_1, if_pos c_2, if_pos c_2]; exact hM) (Nat.le_of_ble_eq_true rfl) (Nat.le_of_ble_eq_true rfl)
    · skip
      refine lv_aload_n hx hb dX7_endTurn_52 rfl (lv_at hl 0 rfl) ?_
      refine lv_iconst (v := 4) hx hb dX7_endTurn_53 (by decide) ?_
      refine lv_iconst (v := 1) hx hb dX7_endTurn_54 (by decide) ?_
      refine z_iast (ws' := [(r, .inl (G.2 1, 121, .inl (flt (upd (upd (upd h 2 0) 3 (h 3 + 1)) 4 1) b)))]) hx hb hK hM 0 rfl (vp_in_nI (n := 4) (by decide) (by decide)) dX7_endTurn_55 (by rw [show (4 : Int32).toNatClampNeg = 4 from rfl, flt_uh (by decide)]; rfl) (fun H locs hM => ?_)
      refine lv_goto (tgt := 83) hx hb dX7_endTurn_56 (by decide) ?_
      exact z_vret hx hb hr hlocks dX7_endTurn_83 (by rw [zEtH, zEtB, if_pos c_1, if_pos c_1, if_neg c_2, if_neg c_2]; exact hM) (Nat.le_of_ble_eq_true rfl) (Nat.le_of_ble_eq_true rfl)
  · skip
    refine lv_aload_n hx hb dX7_endTurn_29 rfl (lv_at hl 0 rfl) ?_
    refine lv_iconst (v := 4) hx hb dX7_endTurn_30 (by decide) ?_
    refine lv_iconst (v := 1) hx hb dX7_endTurn_31 (by decide) ?_
    refine z_iast (ws' := [(r, .inl (G.2 1, 121, .inl (flt (upd (upd (upd h 2 0) 3 (h 3 + 1)) 4 1) b)))]) hx hb hK hM 0 rfl (vp_in_nI (n := 4) (by decide) (by decide)) dX7_endTurn_32 (by rw [show (4 : Int32).toNatClampNeg = 4 from rfl, flt_uh (by decide)]; rfl) (fun H locs hM => ?_)
    refine lv_aload_n hx hb dX7_endTurn_33 rfl (lv_at hl 0 rfl) ?_
    refine lv_iconst (v := 5) hx hb dX7_endTurn_34 (by decide) ?_
    refine lv_aload_n hx hb dX7_endTurn_35 rfl (lv_at hl 0 rfl) ?_
    refine lv_iconst (v := 1) hx hb dX7_endTurn_36 (by decide) ?_
    refine z_iald hx hb hK hM 0 rfl (v := h 1) (vp_in_nI (n := 1) (by decide) (by decide)) (flt_h (k := 1) (by decide)) dX7_endTurn_37 ?_
    refine z_iast (ws' := [(r, .inl (G.2 1, 121, .inl (flt (upd (upd (upd (upd h 2 0) 3 (h 3 + 1)) 4 1) 5 (h 1)) b)))]) hx hb hK hM 0 rfl (vp_in_nI (n := 5) (by decide) (by decide)) dX7_endTurn_38 (by rw [show (5 : Int32).toNatClampNeg = 5 from rfl, flt_uh (by decide)]; rfl) (fun H locs hM => ?_)
    refine lv_goto (tgt := 83) hx hb dX7_endTurn_39 (by decide) ?_
    exact z_vret hx hb hr hlocks dX7_endTurn_83 (by rw [zEtH, zEtB, if_neg c_1, if_neg c_1]; exact hM) (Nat.le_of_ble_eq_true rfl) (Nat.le_of_ble_eq_true rfl)

set_option maxHeartbeats 4000000 in
set_option maxRecDepth 100000 in
theorem c_canGo (l : Launch) (G : zC) (r : Nat) (h : Nat → Int32) (b : Nat → Nat → Int32) (P t S : Nat) (hg : zWf h b P t S) (n : Int32) (hn : zPl n = true) : zMet l G yX7_canGo wsX7_canGo rmX7_canGo [.ref r, .int n] (rfW G r h b) (some (.int (zb (zMg h b S t n)))) (rfW G r h b) := by
  refine zMet_of (cc := cX7_canGo) (maxL := 2) (ret := (some .boolean)) (by decide) rfl (Nat.le_of_ble_eq_true rfl) ?_
  intro p e s m below meth c A ls hx hb hr hml hown hts hK hA hE hlocks hin hM hl
  have hown : s.vm.findClass RX7 = some m.cls := hown
  have hM : zM G A s s.heap [] ([(r, .inl (G.2 1, 121, .inl (flt h b)))]) := hM
  have hl : lv_has ls 2 [(0, .ref r), (1, .int n)] := hl
  obtain ⟨⟨h0, hP4, h1, ht4, h6, hS, h22, h44⟩, hpt, hwb⟩ := id hg
  refine lv_aload_n hx hb dX7_canGo_0 rfl (lv_at hl 0 rfl) ?_
  refine z_callS (As := [.ref r]) (rest := []) (wc := rfW G r h b) (wr := []) (w1 := rfW G r h b) (ws' := [(r, .inl (G.2 1, 121, .inl (flt h b)))]) ⟨hx, hb, hml, hown, hts⟩ (c_r_isOn l G r h b  ) (va_cwS 1 hts gX7_canGo_X7_isOn rfl rfl rfl (by decide +kernel) ⟨Nat.le_of_ble_eq_true rfl, Nat.le_of_ble_eq_true rfl⟩) rfl hl.1 rfl (Nat.le_of_ble_eq_true rfl) dX7_canGo_1 ⟨Nat.le_of_ble_eq_true rfl, Nat.le_of_ble_eq_true rfl⟩ hK hE hA hM (pm_at 1 [0] [] rfl rfl rfl (by decide)) ((pm_at 1 [0] [] rfl rfl rfl (by decide))).symm (fun H locs hM hz => ?_)
  refine z_ifeq (tgt := 33) hx hb dX7_canGo_4 (by decide) (fun c_1 => ?_) (fun c_1 => ?_)
  · skip
    refine lv_iconst (v := 0) hx hb dX7_canGo_33 (by decide) ?_
    exact z_zret hx hb hr hlocks dX7_canGo_34 hM (Nat.le_of_ble_eq_true rfl) (Nat.le_of_ble_eq_true rfl) (by first | exact Or.inl rfl | exact Or.inr rfl | exact zb_01 _) (by rw [zMg, zMe, c_1]; rfl)
  · skip
    refine lv_aload_n hx hb dX7_canGo_7 rfl (lv_at hl 0 rfl) ?_
    refine lv_iconst (v := 2) hx hb dX7_canGo_8 (by decide) ?_
    refine z_iald hx hb hK hM 0 rfl (v := h 2) (vp_in_nI (n := 2) (by decide) (by decide)) (flt_h (k := 2) (by decide)) dX7_canGo_9 ?_
    refine lv_iconst (v := 1) hx hb dX7_canGo_10 (by decide) ?_
    refine lv_icmp_ne (tgt := 33) hx hb dX7_canGo_11 (by decide) (fun c_2 => ?_) (fun c_2 => ?_)
    · have e2 : h 2 = 0 := h22.resolve_right c_2
      refine lv_iconst (v := 0) hx hb dX7_canGo_33 (by decide) ?_
      exact z_zret hx hb hr hlocks dX7_canGo_34 hM (Nat.le_of_ble_eq_true rfl) (Nat.le_of_ble_eq_true rfl) (by first | exact Or.inl rfl | exact Or.inr rfl | exact zb_01 _) (by rw [zMg, zMe, c_1, decide_eq_true e2]; rfl)
    · have e2 : ¬ h 2 = 0 := by rw [c_2]; decide
      refine lv_aload_n hx hb dX7_canGo_14 rfl (lv_at hl 0 rfl) ?_
      refine lv_aload_n hx hb dX7_canGo_15 rfl (lv_at hl 0 rfl) ?_
      refine lv_iconst (v := 1) hx hb dX7_canGo_16 (by decide) ?_
      refine z_iald hx hb hK hM 0 rfl (v := h 1) (vp_in_nI (n := 1) (by decide) (by decide)) (flt_h (k := 1) (by decide)) dX7_canGo_17 ?_
      refine z_topi (y := nI t) h1 ?_
      have htP : t < P := hpt (zRu_P h0 hP4 c_1)
      have hp : zHp h (nI t) = true := (zHp_lt h0 hP4 (by omega)).mpr htP
      refine z_callS (As := [.ref r, .int (nI t)]) (rest := []) (wc := rfW G r h b) (wr := []) (w1 := rfW G r h b) (ws' := [(r, .inl (G.2 1, 121, .inl (flt h b)))]) ⟨hx, hb, hml, hown, hts⟩ (c_reachable l G r h b t S (by omega) hS (hwb t htP) h6) (va_cwS 2 hts gX7_canGo_X7_reachable rfl rfl rfl (by decide +kernel) ⟨Nat.le_of_ble_eq_true rfl, Nat.le_of_ble_eq_true rfl⟩) rfl hl.1 rfl (Nat.le_of_ble_eq_true rfl) dX7_canGo_18 ⟨Nat.le_of_ble_eq_true rfl, Nat.le_of_ble_eq_true rfl⟩ hK hE hA hM (pm_at 1 [0] [] rfl rfl rfl (by decide)) ((pm_at 1 [0] [] rfl rfl rfl (by decide))).symm (fun H locs hM hz => ?_)
      refine lv_iload_n hx hb dX7_canGo_21 rfl (lv_at hl 1 rfl) ?_
      refine lv_ishr hx hb dX7_canGo_22 ?_
      refine lv_iconst (v := 1) hx hb dX7_canGo_23 (by decide) ?_
      refine lv_iand hx hb dX7_canGo_24 ?_
      refine lv_iconst (v := 1) hx hb dX7_canGo_25 (by decide) ?_
      refine lv_icmp_ne (tgt := 33) hx hb dX7_canGo_26 (by decide) (fun c_3 => ?_) (fun c_3 => ?_)
      · skip
        refine lv_iconst (v := 0) hx hb dX7_canGo_33 (by decide) ?_
        exact z_zret hx hb hr hlocks dX7_canGo_34 hM (Nat.le_of_ble_eq_true rfl) (Nat.le_of_ble_eq_true rfl) (by first | exact Or.inl rfl | exact Or.inr rfl | exact zb_01 _) (by rw [zMg, zMe, zRs, c_1, decide_eq_false e2, hp, zIn, hn, decide_eq_false c_3]; rfl)
      · skip
        refine lv_iconst (v := 1) hx hb dX7_canGo_29 (by decide) ?_
        refine lv_goto (tgt := 34) hx hb dX7_canGo_30 (by decide) ?_
        exact z_zret hx hb hr hlocks dX7_canGo_34 hM (Nat.le_of_ble_eq_true rfl) (Nat.le_of_ble_eq_true rfl) (by first | exact Or.inl rfl | exact Or.inr rfl | exact zb_01 _) (by rw [zMg, zMe, zRs, c_1, decide_eq_false e2, hp, zIn, hn, decide_eq_true c_3]; rfl)

set_option maxHeartbeats 4000000 in
set_option maxRecDepth 100000 in
theorem c_canLock (l : Launch) (G : zC) (r : Nat) (h : Nat → Int32) (b : Nat → Nat → Int32) (P t S : Nat) (hg : zWf h b P t S) : zMet l G yX7_canLock wsX7_canLock rmX7_canLock [.ref r] (rfW G r h b) (some (.int (zb (zMe h)))) (rfW G r h b) := by
  refine zMet_of (cc := cX7_canLock) (maxL := 1) (ret := (some .boolean)) (by decide) rfl (Nat.le_of_ble_eq_true rfl) ?_
  intro p e s m below meth c A ls hx hb hr hml hown hts hK hA hE hlocks hin hM hl
  have hown : s.vm.findClass RX7 = some m.cls := hown
  have hM : zM G A s s.heap [] ([(r, .inl (G.2 1, 121, .inl (flt h b)))]) := hM
  have hl : lv_has ls 1 [(0, .ref r)] := hl
  obtain ⟨⟨h0, hP4, h1, ht4, h6, hS, h22, h44⟩, hpt, hwb⟩ := id hg
  refine lv_aload_n hx hb dX7_canLock_0 rfl (lv_at hl 0 rfl) ?_
  refine z_callS (As := [.ref r]) (rest := []) (wc := rfW G r h b) (wr := []) (w1 := rfW G r h b) (ws' := [(r, .inl (G.2 1, 121, .inl (flt h b)))]) ⟨hx, hb, hml, hown, hts⟩ (c_r_isOn l G r h b  ) (va_cwS 1 hts gX7_canLock_X7_isOn rfl rfl rfl (by decide +kernel) ⟨Nat.le_of_ble_eq_true rfl, Nat.le_of_ble_eq_true rfl⟩) rfl hl.1 rfl (Nat.le_of_ble_eq_true rfl) dX7_canLock_1 ⟨Nat.le_of_ble_eq_true rfl, Nat.le_of_ble_eq_true rfl⟩ hK hE hA hM (pm_at 1 [0] [] rfl rfl rfl (by decide)) ((pm_at 1 [0] [] rfl rfl rfl (by decide))).symm (fun H locs hM hz => ?_)
  refine z_ifeq (tgt := 18) hx hb dX7_canLock_4 (by decide) (fun c_1 => ?_) (fun c_1 => ?_)
  · skip
    refine lv_iconst (v := 0) hx hb dX7_canLock_18 (by decide) ?_
    exact z_zret hx hb hr hlocks dX7_canLock_19 hM (Nat.le_of_ble_eq_true rfl) (Nat.le_of_ble_eq_true rfl) (by first | exact Or.inl rfl | exact Or.inr rfl | exact zb_01 _) (by rw [zMe, c_1]; rfl)
  · skip
    refine lv_aload_n hx hb dX7_canLock_7 rfl (lv_at hl 0 rfl) ?_
    refine lv_iconst (v := 2) hx hb dX7_canLock_8 (by decide) ?_
    refine z_iald hx hb hK hM 0 rfl (v := h 2) (vp_in_nI (n := 2) (by decide) (by decide)) (flt_h (k := 2) (by decide)) dX7_canLock_9 ?_
    refine lv_iconst (v := 1) hx hb dX7_canLock_10 (by decide) ?_
    refine lv_icmp_ne (tgt := 18) hx hb dX7_canLock_11 (by decide) (fun c_2 => ?_) (fun c_2 => ?_)
    · have e2 : h 2 = 0 := h22.resolve_right c_2
      refine lv_iconst (v := 0) hx hb dX7_canLock_18 (by decide) ?_
      exact z_zret hx hb hr hlocks dX7_canLock_19 hM (Nat.le_of_ble_eq_true rfl) (Nat.le_of_ble_eq_true rfl) (by first | exact Or.inl rfl | exact Or.inr rfl | exact zb_01 _) (by rw [zMe, c_1, decide_eq_true e2]; rfl)
    · have e2 : ¬ h 2 = 0 := by rw [c_2]; decide
      refine lv_iconst (v := 1) hx hb dX7_canLock_14 (by decide) ?_
      refine lv_goto (tgt := 19) hx hb dX7_canLock_15 (by decide) ?_
      exact z_zret hx hb hr hlocks dX7_canLock_19 hM (Nat.le_of_ble_eq_true rfl) (Nat.le_of_ble_eq_true rfl) (by first | exact Or.inl rfl | exact Or.inr rfl | exact zb_01 _) (by rw [zMe, c_1, decide_eq_false e2]; rfl)
