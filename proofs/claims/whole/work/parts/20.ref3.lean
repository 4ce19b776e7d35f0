/-! REFERENCE, second part: states that are well, and what each act makes of them -/
def zWf (h : Nat → Int32) (b : Nat → Nat → Int32) (P t S : Nat) : Prop := zGw h P t S ∧ (0 < P → t < P ∧ 2 ≤ P) ∧ ∀ p, p < P → zBw (b p)
theorem va_upn {α : Type} (f : Nat → α) {k j : Nat} (v : α) (h : ¬ j = k) : va_up f k v j = f j := by
  unfold va_up
  rw [if_neg h]
theorem zWf_b {h : Nat → Int32} {b : Nat → Nat → Int32} {P t S q : Nat} {f : Nat → Int32} (w : zWf h b P t S) (hf : zBw f) : zWf h (va_up b q f) P t S := by
  refine ⟨w.1, w.2.1, fun p hp => ?_⟩
  by_cases e : p = q
  · subst e
    rw [va_ups]
    exact hf
  · rw [va_upn _ _ e]
    exact w.2.2 p hp
theorem upd_comm {f : Nat → Int32} {i j : Nat} {x y : Int32} (h : ¬ i = j) : upd (upd f i x) j y = upd (upd f j y) i x := by
  funext k
  by_cases e1 : k = i
  · subst e1
    rw [pk_un h, pk_us, pk_us]
  · rw [pk_un (k := i) e1]
    by_cases e2 : k = j
    · subst e2
      rw [pk_us, pk_us]
    · rw [pk_un e2, pk_un e1, pk_un e2]
theorem zNt_rem {t P : Nat} (h : t < P) : (t + 1) % P = zNt t P := by
  unfold zNt
  by_cases e : t + 1 < P
  · rw [if_pos e, Nat.mod_eq_of_lt e]
  · rw [if_neg e, show t + 1 = P by omega, Nat.mod_self]
theorem zNt_ltP {t P : Nat} (h : t < P) : zNt t P < P := by
  unfold zNt
  split <;> omega
theorem nI_nz {a : Nat} (h : 0 < a) (h2 : a < 2 ^ 31) : nI a ≠ 0 := by
  intro q
  have := (nI_eq (a := a) (b := 0) h2 (by decide)).mp q
  omega
theorem zRu_P {h : Nat → Int32} {P : Nat} (h0 : h 0 = nI P) (hP : P ≤ 4) (q : zRu h = true) : 0 < P := by
  refine Nat.pos_of_ne_zero (fun e => ?_)
  subst e
  rw [zRu, h0] at q
  have q2 := (Bool.and_eq_true _ _).mp q
  exact absurd q2.1 (by decide)
theorem zBw_set {f g : Nat → Int32} (w : zBw f) (h23 : g 23 = f 23) (h24 : g 24 = f 24) (ht : ∀ i, i < 9 → g (9 + i) = f (9 + i)) (ho : ∀ i, i < 5 → g (18 + i) = f (18 + i)) : zBw g :=
  ⟨by rw [h23]; exact w.1, by rw [h24]; exact w.2.1, fun i hi => by rw [ht i hi]; exact w.2.2.1 i hi, fun i hi => by rw [ho i hi]; exact w.2.2.2 i hi⟩
theorem zBw_25 {f : Nat → Int32} (w : zBw f) (v : Int32) : zBw (upd f 25 v) :=
  zBw_set w (pk_un (by decide)) (pk_un (by decide)) (fun i hi => pk_un (by omega)) (fun i hi => pk_un (by omega))
theorem zBw_24 {f : Nat → Int32} (w : zBw f) {k : Nat} (hk : k < 9) : zBw (upd f 24 (nI k)) :=
  ⟨by rw [pk_un (by decide)]; exact w.1, ⟨k, hk, pk_us⟩, fun i hi => by rw [pk_un (by omega)]; exact w.2.2.1 i hi, fun i hi => by rw [pk_un (by omega)]; exact w.2.2.2 i hi⟩
theorem zBw_g0 {f : Nat → Int32} (w : zBw f) {k : Nat} (hk : k < 9) : zBw (upd f (9 + k) 0) := by
  refine ⟨by rw [pk_un (by omega)]; exact w.1, by rw [pk_un (by omega)]; exact w.2.1, fun i hi => ?_, fun i hi => by rw [pk_un (by omega)]; exact w.2.2.2 i hi⟩
  by_cases e : i = k
  · subst e
    exact ⟨0, by decide, pk_us⟩
  · rw [pk_un (by omega)]
    exact w.2.2.1 i hi
theorem zSo_5 {f : Nat → Int32} (w : zBw f) (h : ¬ zSo f = -1) : ∃ k, k < 5 ∧ f 23 = nI k := by
  obtain ⟨k, hk, ek⟩ := w.1
  rw [zSo_e hk ek] at h
  by_cases e : k = 5
  · rw [if_pos e] at h
    exact absurd rfl h
  · exact ⟨k, by omega, ek⟩
theorem zBw_ld {f : Nat → Int32} (w : zBw f) {k : Nat} (hk : k < 9) : zBw (zLd f k) := by
  unfold zLd
  split
  · exact zBw_24 w hk
  · rename_i h
    have h2 : f (9 + k) = zSo f := Decidable.not_not.mp (fun q => h (Or.inr q))
    obtain ⟨j, hj, ej⟩ := w.2.2.1 k hk
    have h3 : ¬ zSo f = -1 := by
      rw [← h2, ej]
      exact nI_m1 (by omega)
    obtain ⟨c, hc, ec⟩ := zSo_5 w h3
    have w2 := zBw_g0 (zBw_24 w hk) hk
    refine ⟨⟨c + 1, by omega, ?_⟩, ?_, ?_, ?_⟩
    · rw [pk_us, ec]
      exact nI_1 c
    · rw [pk_un (by decide)]
      exact w2.2.1
    · intro i hi
      rw [pk_un (by omega)]
      exact w2.2.2.1 i hi
    · intro i hi
      rw [pk_un (by omega)]
      exact w2.2.2.2 i hi
def zAll (Q : Int32 → Prop) (t : Nat → Int32) : Prop := ∀ i, i < 9 → Q (t i)
theorem zAll_upd {Q : Int32 → Prop} {t : Nat → Int32} {k : Nat} {v : Int32} (h : zAll Q t) (hv : Q v) : zAll Q (upd t k v) := by
  intro i hi
  by_cases e : i = k
  · subst e
    rw [pk_us]
    exact hv
  · rw [pk_un e]
    exact h i hi
theorem zAll_cy {Q : Int32 → Prop} {a c : Nat} (hac : a + c + c < 9) {t : Nat → Int32} (h : zAll Q t) : zAll Q (zCy a c t) := by
  unfold zCy
  exact zAll_upd (zAll_upd (zAll_upd h (h _ (by omega))) (zAll_upd h (h _ (by omega)) _ (by omega))) (h _ (by omega))
theorem zAll_cyN {Q : Int32 → Prop} {a c : Nat} (hac : a + c + c < 9) : ∀ (n : Nat) {t : Nat → Int32}, zAll Q t → zAll Q (zCyN a c n t)
  | 0, _, h => h
  | n + 1, _, h => zAll_cyN hac n (zAll_cy hac h)
theorem zMab {n : Nat} (hn : n < 6) : zMa n + zMb n + zMb n < 9 := by
  unfold zMa zMb
  split <;> omega
theorem zSh_r {a c : Nat} (hac : a + c + c < 9) (q : Nat) : ∀ (k i : Nat) (s : Nat), s < 9 → ∃ j, j < 9 ∧ zSh a c q (nI s) k i = nI j
  | 0, _, s, hs => ⟨s, hs, rfl⟩
  | k + 1, i, s, hs => by
    rw [zSh]
    split
    · have h3 : (i + q) % 3 = 0 ∨ (i + q) % 3 = 1 ∨ (i + q) % 3 = 2 := by omega
      refine ⟨a + (i + q) % 3 * c, ?_, rfl⟩
      rcases h3 with e | e | e <;> rw [e] <;> omega
    · exact zSh_r hac q k (i + 1) s hs
theorem zBw_mv {f : Nat → Int32} (w : zBw f) {n : Nat} (hn : n < 6) (d : Int32) : zBw (zMv f n d) := by
  refine ⟨?_, ?_, ?_, ?_⟩
  · exact w.1
  · obtain ⟨s, hs, es⟩ := w.2.1
    show ∃ k, k < 9 ∧ zSh (zMa n) (zMb n) (zMh d) (f 24) 3 0 = nI k
    rw [es]
    exact zSh_r (zMab hn) _ 3 0 s hs
  · intro i hi
    have h1 : zMv f n d (9 + i) = zCyN (zMa n) (zMb n) (zMh d) (fun i => f (9 + i)) i := by
      show (if 9 + i < 9 then _ else _) = _
      rw [if_neg (by omega), if_pos (by omega), show 9 + i - 9 = i by omega]
    rw [h1]
    exact zAll_cyN (Q := fun x => ∃ k, k ≤ 5 ∧ x = nI k) (zMab hn) _ (fun i hi => w.2.2.1 i hi) i hi
  · intro i hi
    have h1 : zMv f n d (18 + i) = f (18 + i) := by
      show (if 18 + i < 9 then _ else _) = _
      rw [if_neg (by omega), if_neg (by omega), if_neg (by omega), if_neg (by omega), if_neg (by omega)]
    rw [h1]
    exact w.2.2.2 i hi
theorem zPu_mvd {f : Nat → Int32} (w : zBw f) {n : Nat} (hn : n < 6) {d : Int32} (hd : d = 0 ∨ d = 1) : ∀ j, j < 28 → upd (upd (zPu f n d) 26 (nI n)) 27 d j = zMv f n d j := by
  obtain ⟨s, hs, es⟩ := w.2.1
  rcases hd with rfl | rfl
  · exact zPu_mv f hn (w := 0) (by decide) hs es
  · exact zPu_mv f hn (w := 1) (by decide) hs es
theorem zIl_dummy : True := trivial
theorem zWf_h {h g : Nat → Int32} {b : Nat → Nat → Int32} {P t S : Nat} (w : zWf h b P t S) (e0 : g 0 = h 0) (e1 : g 1 = h 1) (e6 : g 6 = h 6) (e2 : g 2 = 0 ∨ g 2 = 1) (e4 : g 4 = 0 ∨ g 4 = 1) : zWf g b P t S := by
  obtain ⟨⟨h0, hP4, h1, ht4, h6, hS9, _, _⟩, hpt, hwb⟩ := w
  exact ⟨⟨e0.trans h0, hP4, e1.trans h1, ht4, e6.trans h6, hS9, e2, e4⟩, hpt, hwb⟩
theorem zWf_sh {h : Nat → Int32} {b : Nat → Nat → Int32} {P t S o n : Nat} {d : Int32} (w : zWf h b P t S) (ho : o < P) (hn : n < 6) : zWf (zShH h) (va_up b o (zMv (b o) n d)) P t S :=
  zWf_b (zWf_h w (pk_un (by decide)) (pk_un (by decide)) (pk_un (by decide)) (Or.inr pk_us) (by rw [zShH, pk_un (by decide)]; exact w.1.2.2.2.2.2.2.2)) (zBw_mv (w.2.2 o ho) hn d)
set_option maxHeartbeats 4000000 in
set_option maxRecDepth 100000 in
theorem c_csn (l : Launch) (G : zC) (r : Nat) (h : Nat → Int32) (b : Nat → Nat → Int32) (P t S : Nat) (hg : zWf h b P t S) (o : Nat) (n d : Int32) (ho : o < 1000) (hn : zLi n = true) (hd : zDi d = true) : zMet l G yX7_canShiftNow wsX7_canShiftNow rmX7_canShiftNow [.ref r, .int (nI o), .int n, .int d] (rfW G r h b) (some (.int (zb (zMs h b o n d)))) (rfW G r h b) := by
  refine zMet_of (cc := cX7_canShiftNow) (maxL := 4) (ret := (some .boolean)) (by decide) rfl (Nat.le_of_ble_eq_true rfl) ?_
  intro p e s m below meth c A ls hx hb hr hml hown hts hK hA hE hlocks hin hM hl
  have hown : s.vm.findClass RX7 = some m.cls := hown
  have hM : zM G A s s.heap [] ([(r, .inl (G.2 1, 121, .inl (flt h b)))]) := hM
  have hl : lv_has ls 4 [(0, .ref r), (1, .int (nI o)), (2, .int n), (3, .int d)] := hl
  obtain ⟨⟨h0, hP4, h1, ht4, h6, hS, h22, h44⟩, hpt, hwb⟩ := id hg
  refine lv_aload_n hx hb dX7_canShiftNow_0 rfl (lv_at hl 0 rfl) ?_
  refine z_callS (As := [.ref r]) (rest := []) (wc := rfW G r h b) (wr := []) (w1 := rfW G r h b) (ws' := [(r, .inl (G.2 1, 121, .inl (flt h b)))]) ⟨hx, hb, hml, hown, hts⟩ (c_r_isOn l G r h b  ) (va_cwS 1 hts gX7_canShiftNow_X7_isOn rfl rfl rfl (by decide +kernel) ⟨Nat.le_of_ble_eq_true rfl, Nat.le_of_ble_eq_true rfl⟩) rfl hl.1 rfl (Nat.le_of_ble_eq_true rfl) dX7_canShiftNow_1 ⟨Nat.le_of_ble_eq_true rfl, Nat.le_of_ble_eq_true rfl⟩ hK hE hA hM (pm_at 1 [0] [] rfl rfl rfl (by decide)) ((pm_at 1 [0] [] rfl rfl rfl (by decide))).symm (fun H locs hM hz => ?_)
  refine z_ifeq (tgt := 42) hx hb dX7_canShiftNow_4 (by decide) (fun c_1 => ?_) (fun c_1 => ?_)
  · skip
    refine lv_iconst (v := 0) hx hb dX7_canShiftNow_42 (by decide) ?_
    exact z_zret hx hb hr hlocks dX7_canShiftNow_43 hM (Nat.le_of_ble_eq_true rfl) (Nat.le_of_ble_eq_true rfl) (by first | exact Or.inl rfl | exact Or.inr rfl | exact zb_01 _) (by simp only [zMs, hn, hd, Bool.and_true, c_1] <;> rfl)
  · skip
    refine lv_aload_n hx hb dX7_canShiftNow_7 rfl (lv_at hl 0 rfl) ?_
    refine lv_iconst (v := 2) hx hb dX7_canShiftNow_8 (by decide) ?_
    refine z_iald hx hb hK hM 0 rfl (v := h 2) (vp_in_nI (n := 2) (by decide) (by decide)) (flt_h (k := 2) (by decide)) dX7_canShiftNow_9 ?_
    refine lv_if_ne (tgt := 42) hx hb dX7_canShiftNow_10 (by decide) (fun c_2 => ?_) (fun c_2 => ?_)
    · skip
      refine lv_iconst (v := 0) hx hb dX7_canShiftNow_42 (by decide) ?_
      exact z_zret hx hb hr hlocks dX7_canShiftNow_43 hM (Nat.le_of_ble_eq_true rfl) (Nat.le_of_ble_eq_true rfl) (by first | exact Or.inl rfl | exact Or.inr rfl | exact zb_01 _) (by simp only [zMs, hn, hd, Bool.and_true, c_1, decide_eq_false c_2] <;> rfl)
    · skip
      refine lv_aload_n hx hb dX7_canShiftNow_13 rfl (lv_at hl 0 rfl) ?_
      refine lv_iload_n hx hb dX7_canShiftNow_14 rfl (lv_at hl 1 rfl) ?_
      refine z_callS (As := [.ref r, .int (nI o)]) (rest := []) (wc := rfW G r h b) (wr := []) (w1 := rfW G r h b) (ws' := [(r, .inl (G.2 1, 121, .inl (flt h b)))]) ⟨hx, hb, hml, hown, hts⟩ (c_r_isPlayer l G r h b P h0 hP4 (nI o) ) (va_cwS 2 hts gX7_canShiftNow_X7_isPlayer rfl rfl rfl (by decide +kernel) ⟨Nat.le_of_ble_eq_true rfl, Nat.le_of_ble_eq_true rfl⟩) rfl hl.1 rfl (Nat.le_of_ble_eq_true rfl) dX7_canShiftNow_15 ⟨Nat.le_of_ble_eq_true rfl, Nat.le_of_ble_eq_true rfl⟩ hK hE hA hM (pm_at 1 [0] [] rfl rfl rfl (by decide)) ((pm_at 1 [0] [] rfl rfl rfl (by decide))).symm (fun H locs hM hz => ?_)
      refine z_ifeq (tgt := 42) hx hb dX7_canShiftNow_18 (by decide) (fun c_3 => ?_) (fun c_3 => ?_)
      · skip
        refine lv_iconst (v := 0) hx hb dX7_canShiftNow_42 (by decide) ?_
        exact z_zret hx hb hr hlocks dX7_canShiftNow_43 hM (Nat.le_of_ble_eq_true rfl) (Nat.le_of_ble_eq_true rfl) (by first | exact Or.inl rfl | exact Or.inr rfl | exact zb_01 _) (by simp only [zMs, hn, hd, Bool.and_true, c_1, decide_eq_true c_2, c_3] <;> rfl)
      · skip
        refine lv_iload_n hx hb dX7_canShiftNow_21 rfl (lv_at hl 1 rfl) ?_
        refine lv_aload_n hx hb dX7_canShiftNow_22 rfl (lv_at hl 0 rfl) ?_
        refine lv_iconst (v := 1) hx hb dX7_canShiftNow_23 (by decide) ?_
        refine z_iald hx hb hK hM 0 rfl (v := h 1) (vp_in_nI (n := 1) (by decide) (by decide)) (flt_h (k := 1) (by decide)) dX7_canShiftNow_24 ?_
        refine lv_icmp_eq (tgt := 42) hx hb dX7_canShiftNow_25 (by decide) (fun c_4 => ?_) (fun c_4 => ?_)
        · skip
          refine lv_iconst (v := 0) hx hb dX7_canShiftNow_42 (by decide) ?_
          exact z_zret hx hb hr hlocks dX7_canShiftNow_43 hM (Nat.le_of_ble_eq_true rfl) (Nat.le_of_ble_eq_true rfl) (by first | exact Or.inl rfl | exact Or.inr rfl | exact zb_01 _) (by simp only [zMs, hn, hd, Bool.and_true, c_1, decide_eq_true c_2, c_3, decide_eq_true c_4] <;> rfl)
        · have ho4 : o < 4 := by have h9 := (zHp_lt h0 hP4 (by omega)).mp c_3; omega
          refine lv_aload_n hx hb dX7_canShiftNow_28 rfl (lv_at hl 0 rfl) ?_
          refine lv_iload_n hx hb dX7_canShiftNow_29 rfl (lv_at hl 1 rfl) ?_
          refine lv_iload_n hx hb dX7_canShiftNow_30 rfl (lv_at hl 2 rfl) ?_
          refine lv_iload_n hx hb dX7_canShiftNow_31 rfl (lv_at hl 3 rfl) ?_
          refine z_callS (As := [.ref r, .int (nI o), .int n, .int d]) (rest := []) (wc := rfW G r h b) (wr := []) (w1 := rfW G r h b) (ws' := [(r, .inl (G.2 1, 121, .inl (flt h b)))]) ⟨hx, hb, hml, hown, hts⟩ (c_may l G r h b o (by omega) n d ) (va_cwS 4 hts gX7_canShiftNow_X7_may rfl rfl rfl (by decide +kernel) ⟨Nat.le_of_ble_eq_true rfl, Nat.le_of_ble_eq_true rfl⟩) rfl hl.1 rfl (Nat.le_of_ble_eq_true rfl) dX7_canShiftNow_32 ⟨Nat.le_of_ble_eq_true rfl, Nat.le_of_ble_eq_true rfl⟩ hK hE hA hM (pm_at 1 [0] [] rfl rfl rfl (by decide)) ((pm_at 1 [0] [] rfl rfl rfl (by decide))).symm (fun H locs hM hz => ?_)
          refine z_ifeq (tgt := 42) hx hb dX7_canShiftNow_35 (by decide) (fun c_5 => ?_) (fun c_5 => ?_)
          · skip
            refine lv_iconst (v := 0) hx hb dX7_canShiftNow_42 (by decide) ?_
            exact z_zret hx hb hr hlocks dX7_canShiftNow_43 hM (Nat.le_of_ble_eq_true rfl) (Nat.le_of_ble_eq_true rfl) (by first | exact Or.inl rfl | exact Or.inr rfl | exact zb_01 _) (by simp only [zMs, hn, hd, Bool.and_true, c_1, decide_eq_true c_2, c_3, decide_eq_false c_4, c_5] <;> rfl)
          · skip
            refine lv_iconst (v := 1) hx hb dX7_canShiftNow_38 (by decide) ?_
            refine lv_goto (tgt := 43) hx hb dX7_canShiftNow_39 (by decide) ?_
            exact z_zret hx hb hr hlocks dX7_canShiftNow_43 hM (Nat.le_of_ble_eq_true rfl) (Nat.le_of_ble_eq_true rfl) (by first | exact Or.inl rfl | exact Or.inr rfl | exact zb_01 _) (by simp only [zMs, hn, hd, Bool.and_true, c_1, decide_eq_true c_2, c_3, decide_eq_false c_4, c_5] <;> rfl)

set_option maxHeartbeats 4000000 in
set_option maxRecDepth 100000 in
theorem c_shiftOn (l : Launch) (G : zC) (r : Nat) (h : Nat → Int32) (b : Nat → Nat → Int32) (P t S : Nat) (hg : zWf h b P t S) (o n : Nat) (d : Int32) (ho : o < P) (hn : n < 6) (hd : d = 0 ∨ d = 1) : zMet l G yX7_shiftOn wsX7_shiftOn rmX7_shiftOn [.ref r, .int (nI o), .int (nI n), .int d] (rfW G r h b) (some (.int (zBc (zRch (zMv (b o) n d) S)))) (rfW G r (zShH h) (va_up b o (zMv (b o) n d))) := by
  refine zMet_of (cc := cX7_shiftOn) (maxL := 4) (ret := (some .int)) (by decide) rfl (Nat.le_of_ble_eq_true rfl) ?_
  intro p e s m below meth c A ls hx hb hr hml hown hts hK hA hE hlocks hin hM hl
  have hown : s.vm.findClass RX7 = some m.cls := hown
  have hM : zM G A s s.heap [] ([(r, .inl (G.2 1, 121, .inl (flt h b)))]) := hM
  have hl : lv_has ls 4 [(0, .ref r), (1, .int (nI o)), (2, .int (nI n)), (3, .int d)] := hl
  obtain ⟨⟨h0, hP4, h1, ht4, h6, hS, h22, h44⟩, hpt, hwb⟩ := id hg
  have hwo : zBw (b o) := hwb o ho
  have hwm : zBw (va_up b o (zMv (b o) n d) o) := by rw [va_ups]; exact zBw_mv hwo hn d
  refine lv_aload_n hx hb dX7_shiftOn_0 rfl (lv_at hl 0 rfl) ?_
  refine lv_iload_n hx hb dX7_shiftOn_1 rfl (lv_at hl 1 rfl) ?_
  refine lv_iload_n hx hb dX7_shiftOn_2 rfl (lv_at hl 2 rfl) ?_
  refine lv_iload_n hx hb dX7_shiftOn_3 rfl (lv_at hl 3 rfl) ?_
  refine z_callS (As := [.ref r, .int (nI o), .int (nI n), .int d]) (rest := []) (wc := rfW G r h b) (wr := []) (w1 := rfW G r h (va_up b o (zPu (b o) n d))) (ws' := [(r, .inl (G.2 1, 121, .inl (flt h (va_up b o (zPu (b o) n d)))))]) ⟨hx, hb, hml, hown, hts⟩ (c_push l G r h b o n d (by omega) (by omega) ) (va_cwS 4 hts gX7_shiftOn_X7_push rfl rfl rfl (by decide +kernel) ⟨Nat.le_of_ble_eq_true rfl, Nat.le_of_ble_eq_true rfl⟩) rfl hl.1 rfl (Nat.le_of_ble_eq_true rfl) dX7_shiftOn_4 ⟨Nat.le_of_ble_eq_true rfl, Nat.le_of_ble_eq_true rfl⟩ hK hE hA hM (pm_at 1 [0] [] rfl rfl rfl (by decide)) ((pm_at 1 [0] [] rfl rfl rfl (by decide))).symm (fun H locs hM hz => ?_)
  refine lv_aload_n hx hb dX7_shiftOn_7 rfl (lv_at hl 0 rfl) ?_
  refine lv_iload_n hx hb dX7_shiftOn_8 rfl (lv_at hl 1 rfl) ?_
  refine z_callS (As := [.int (nI o)]) (rest := [.ref r]) (wc := []) (wr := [(r, .inl (G.2 1, 121, .inl (flt h (va_up b o (zPu (b o) n d)))))]) (w1 := []) (ws' := [(r, .inl (G.2 1, 121, .inl (flt h (va_up b o (zPu (b o) n d)))))]) ⟨hx, hb, hml, hown, hts⟩ (c_at l G o (by omega)) (va_cwS 1 hts gX7_shiftOn_X7_at rfl rfl rfl (by decide +kernel) ⟨Nat.le_of_ble_eq_true rfl, Nat.le_of_ble_eq_true rfl⟩) rfl hl.1 rfl (Nat.le_of_ble_eq_true rfl) dX7_shiftOn_9 ⟨Nat.le_of_ble_eq_true rfl, Nat.le_of_ble_eq_true rfl⟩ hK hE hA hM (List.Perm.refl _) (List.Perm.refl _) (fun H locs hM hz => ?_)
  refine lv_bipush (v := 26) hx hb dX7_shiftOn_12 (by decide) ?_
  refine lv_iadd hx hb dX7_shiftOn_14 ?_
  refine z_topi (y := nI ((9 + (28 * o)) + 26)) (nI_add (9 + (28 * o)) 26) ?_
  refine lv_iload_n hx hb dX7_shiftOn_15 rfl (lv_at hl 2 rfl) ?_
  refine z_iast (ws' := [(r, .inl (G.2 1, 121, .inl (flt h (va_up (va_up b o (zPu (b o) n d)) o (upd ((va_up b o (zPu (b o) n d)) o) 26 (nI n))))))]) hx hb hK hM 0 rfl (vp_in_nI (by omega) (by decide)) dX7_shiftOn_16 (by rw [nI_clamp (by omega), flt_ub o 26 (by omega) (by omega)]; rfl) (fun H locs hM => ?_)
  rw [va_upup, va_ups] at hM
  have hM : zM G A s H locs ([(r, .inl (G.2 1, 121, .inl (flt h (va_up b o (upd (zPu (b o) n d) 26 (nI n))))))]) := hM
  refine lv_aload_n hx hb dX7_shiftOn_17 rfl (lv_at hl 0 rfl) ?_
  refine lv_iload_n hx hb dX7_shiftOn_18 rfl (lv_at hl 1 rfl) ?_
  refine z_callS (As := [.int (nI o)]) (rest := [.ref r]) (wc := []) (wr := [(r, .inl (G.2 1, 121, .inl (flt h (va_up b o (upd (zPu (b o) n d) 26 (nI n))))))]) (w1 := []) (ws' := [(r, .inl (G.2 1, 121, .inl (flt h (va_up b o (upd (zPu (b o) n d) 26 (nI n))))))]) ⟨hx, hb, hml, hown, hts⟩ (c_at l G o (by omega)) (va_cwS 1 hts gX7_shiftOn_X7_at rfl rfl rfl (by decide +kernel) ⟨Nat.le_of_ble_eq_true rfl, Nat.le_of_ble_eq_true rfl⟩) rfl hl.1 rfl (Nat.le_of_ble_eq_true rfl) dX7_shiftOn_19 ⟨Nat.le_of_ble_eq_true rfl, Nat.le_of_ble_eq_true rfl⟩ hK hE hA hM (List.Perm.refl _) (List.Perm.refl _) (fun H locs hM hz => ?_)
  refine lv_bipush (v := 27) hx hb dX7_shiftOn_22 (by decide) ?_
  refine lv_iadd hx hb dX7_shiftOn_24 ?_
  refine z_topi (y := nI ((9 + (28 * o)) + 27)) (nI_add (9 + (28 * o)) 27) ?_
  refine lv_iload_n hx hb dX7_shiftOn_25 rfl (lv_at hl 3 rfl) ?_
  refine z_iast (ws' := [(r, .inl (G.2 1, 121, .inl (flt h (va_up (va_up b o (upd (zPu (b o) n d) 26 (nI n))) o (upd ((va_up b o (upd (zPu (b o) n d) 26 (nI n))) o) 27 d)))))]) hx hb hK hM 0 rfl (vp_in_nI (by omega) (by decide)) dX7_shiftOn_26 (by rw [nI_clamp (by omega), flt_ub o 27 (by omega) (by omega)]; rfl) (fun H locs hM => ?_)
  rw [va_upup, va_ups] at hM
  have hM : zM G A s H locs ([(r, .inl (G.2 1, 121, .inl (flt h (va_up b o (upd (upd (zPu (b o) n d) 26 (nI n)) 27 d)))))]) := hM
  have hM : zM G A s H locs ([(r, .inl (G.2 1, 121, .inl (flt h (va_up b o (zMv (b o) n d)))))]) := zM_sim (flt_sim (zPu_mvd hwo hn hd)) hM
  refine lv_aload_n hx hb dX7_shiftOn_27 rfl (lv_at hl 0 rfl) ?_
  refine lv_iconst (v := 2) hx hb dX7_shiftOn_28 (by decide) ?_
  refine lv_iconst (v := 1) hx hb dX7_shiftOn_29 (by decide) ?_
  refine z_iast (ws' := [(r, .inl (G.2 1, 121, .inl (flt (upd h 2 1) (va_up b o (zMv (b o) n d)))))]) hx hb hK hM 0 rfl (vp_in_nI (n := 2) (by decide) (by decide)) dX7_shiftOn_30 (by rw [show (2 : Int32).toNatClampNeg = 2 from rfl, flt_uh (by decide)]; rfl) (fun H locs hM => ?_)
  refine lv_aload_n hx hb dX7_shiftOn_31 rfl (lv_at hl 0 rfl) ?_
  refine lv_iload_n hx hb dX7_shiftOn_32 rfl (lv_at hl 1 rfl) ?_
  refine z_callS (As := [.ref r, .int (nI o)]) (rest := []) (wc := rfW G r (upd h 2 1) (va_up b o (zMv (b o) n d))) (wr := []) (w1 := rfW G r (upd h 2 1) (va_up b o (zMv (b o) n d))) (ws' := [(r, .inl (G.2 1, 121, .inl (flt (upd h 2 1) (va_up b o (zMv (b o) n d)))))]) ⟨hx, hb, hml, hown, hts⟩ (c_reachable l G r (upd h 2 1) (va_up b o (zMv (b o) n d)) o S (by omega) hS hwm ((pk_un (f := h) (k := 2) (j := 6) (x := 1) (by decide)).trans h6)) (va_cwS 2 hts gX7_shiftOn_X7_reachable rfl rfl rfl (by decide +kernel) ⟨Nat.le_of_ble_eq_true rfl, Nat.le_of_ble_eq_true rfl⟩) rfl hl.1 rfl (Nat.le_of_ble_eq_true rfl) dX7_shiftOn_33 ⟨Nat.le_of_ble_eq_true rfl, Nat.le_of_ble_eq_true rfl⟩ hK hE hA hM (pm_at 1 [0] [] rfl rfl rfl (by decide)) ((pm_at 1 [0] [] rfl rfl rfl (by decide))).symm (fun H locs hM hz => ?_)
  refine z_callS (As := [.int (zRch ((va_up b o (zMv (b o) n d)) o) S)]) (rest := []) (wc := []) (wr := [(r, .inl (G.2 1, 121, .inl (flt (upd h 2 1) (va_up b o (zMv (b o) n d)))))]) (w1 := []) (ws' := [(r, .inl (G.2 1, 121, .inl (flt (upd h 2 1) (va_up b o (zMv (b o) n d)))))]) ⟨hx, hb, hml, hown, hts⟩ (c_count l G (zRch ((va_up b o (zMv (b o) n d)) o) S) (zRch_9 hwm S)) (va_cwS 1 hts gX7_shiftOn_X7_count rfl rfl rfl (by decide +kernel) ⟨Nat.le_of_ble_eq_true rfl, Nat.le_of_ble_eq_true rfl⟩) rfl hl.1 rfl (Nat.le_of_ble_eq_true rfl) dX7_shiftOn_36 ⟨Nat.le_of_ble_eq_true rfl, Nat.le_of_ble_eq_true rfl⟩ hK hE hA hM (List.Perm.refl _) (List.Perm.refl _) (fun H locs hM hz => ?_)
  exact z_iret hx hb hr hlocks dX7_shiftOn_39 hM (Nat.le_of_ble_eq_true rfl) (Nat.le_of_ble_eq_true rfl) (by rw [va_ups])

set_option maxHeartbeats 4000000 in
set_option maxRecDepth 100000 in
theorem c_r_endTurn (l : Launch) (G : zC) (r : Nat) (h : Nat → Int32) (b : Nat → Nat → Int32) (P t S : Nat) (hg : zWf h b P t S) (hP0 : 0 < P) : zMet l G yX7_endTurn wsX7_endTurn rmX7_endTurn [.ref r] (rfW G r h b) none (rfW G r (zEtH h b t P) (zEtB h b t P)) := by
  refine zMet_of (cc := cX7_endTurn) (maxL := 1) (ret := none) (by decide) rfl (Nat.le_of_ble_eq_true rfl) ?_
  intro p e s m below meth c A ls hx hb hr hml hown hts hK hA hE hlocks hin hM hl
  have hown : s.vm.findClass RX7 = some m.cls := hown
  have hM : zM G A s s.heap [] ([(r, .inl (G.2 1, 121, .inl (flt h b)))]) := hM
  have hl : lv_has ls 1 [(0, .ref r)] := hl
  obtain ⟨⟨h0, hP4, h1, ht4, h6, hS, h22, h44⟩, hpt, hwb⟩ := id hg
  have hz4 : zNt t P < 4 := zNt_lt ht4 hP4
  refine lv_aload_n hx hb dX7_endTurn_0 rfl (lv_at hl 0 rfl) ?_
  refine lv_iconst (v := 3) hx hb dX7_endTurn_1 (by decide) ?_
  refine lv_dup2_11 hx hb dX7_endTurn_2 rfl rfl ?_
  refine z_iald hx hb hK hM 0 rfl (v := h 3) (vp_in_nI (n := 3) (by decide) (by decide)) (flt_h (k := 3) (by decide)) dX7_endTurn_3 ?_
  refine lv_iconst (v := 1) hx hb dX7_endTurn_4 (by decide) ?_
  refine lv_iadd hx hb dX7_endTurn_5 ?_
  refine z_iast (ws' := [(r, .inl (G.2 1, 121, .inl (flt (upd h 3 ((h 3) + 1)) b)))]) hx hb hK hM 0 rfl (vp_in_nI (n := 3) (by decide) (by decide)) dX7_endTurn_6 (by rw [show (3 : Int32).toNatClampNeg = 3 from rfl, flt_uh (by decide)]; rfl) (fun H locs hM => ?_)
  refine lv_aload_n hx hb dX7_endTurn_7 rfl (lv_at hl 0 rfl) ?_
  refine lv_iconst (v := 2) hx hb dX7_endTurn_8 (by decide) ?_
  refine lv_iconst (v := 0) hx hb dX7_endTurn_9 (by decide) ?_
  refine z_iast (ws' := [(r, .inl (G.2 1, 121, .inl (flt (upd (upd h 3 ((h 3) + 1)) 2 0) b)))]) hx hb hK hM 0 rfl (vp_in_nI (n := 2) (by decide) (by decide)) dX7_endTurn_10 (by rw [show (2 : Int32).toNatClampNeg = 2 from rfl, flt_uh (by decide)]; rfl) (fun H locs hM => ?_)
  have hM : zM G A s H locs ([(r, .inl (G.2 1, 121, .inl (flt (upd (upd h 2 0) 3 (h 3 + 1)) b)))]) := by rw [upd_comm (by decide)] at hM; exact hM
  refine lv_aload_n hx hb dX7_endTurn_11 rfl (lv_at hl 0 rfl) ?_
  refine lv_aload_n hx hb dX7_endTurn_12 rfl (lv_at hl 0 rfl) ?_
  refine lv_iconst (v := 1) hx hb dX7_endTurn_13 (by decide) ?_
  refine z_iald hx hb hK hM 0 rfl (v := h 1) (vp_in_nI (n := 1) (by decide) (by decide)) (flt_h (k := 1) (by decide)) dX7_endTurn_14 ?_
  refine z_topi (y := nI t) h1 ?_
  refine z_callS (As := [.int (nI t)]) (rest := [.ref r]) (wc := []) (wr := [(r, .inl (G.2 1, 121, .inl (flt (upd (upd h 2 0) 3 (h 3 + 1)) b)))]) (w1 := []) (ws' := [(r, .inl (G.2 1, 121, .inl (flt (upd (upd h 2 0) 3 (h 3 + 1)) b)))]) ⟨hx, hb, hml, hown, hts⟩ (c_at l G t (by omega)) (va_cwS 1 hts gX7_endTurn_X7_at rfl rfl rfl (by decide +kernel) ⟨Nat.le_of_ble_eq_true rfl, Nat.le_of_ble_eq_true rfl⟩) rfl hl.1 rfl (Nat.le_of_ble_eq_true rfl) dX7_endTurn_15 ⟨Nat.le_of_ble_eq_true rfl, Nat.le_of_ble_eq_true rfl⟩ hK hE hA hM (List.Perm.refl _) (List.Perm.refl _) (fun H locs hM hz => ?_)
  refine lv_bipush (v := 23) hx hb dX7_endTurn_18 (by decide) ?_
  refine lv_iadd hx hb dX7_endTurn_20 ?_
  refine z_topi (y := nI ((9 + (28 * t)) + 23)) (nI_add (9 + (28 * t)) 23) ?_
  refine z_iald hx hb hK hM 0 rfl (v := b t 23) (vp_in_nI (by omega) (by decide)) (by rw [nI_clamp (by omega)]; exact flt_b t 23 (by omega) (by omega)) dX7_endTurn_21 ?_
  refine lv_aload_n hx hb dX7_endTurn_22 rfl (lv_at hl 0 rfl) ?_
  refine lv_bipush (v := 7) hx hb dX7_endTurn_23 (by decide) ?_
  refine z_iald hx hb hK hM 0 rfl (v := h 7) (vp_in_nI (n := 7) (by decide) (by decide)) (flt_h (k := 7) (by decide)) dX7_endTurn_25 ?_
  refine lv_icmp_lt (tgt := 42) hx hb dX7_endTurn_26 (by decide) (fun c_1 => ?_) (fun c_1 => ?_)
  · skip
    refine lv_aload_n hx hb dX7_endTurn_42 rfl (lv_at hl 0 rfl) ?_
    refine lv_iconst (v := 3) hx hb dX7_endTurn_43 (by decide) ?_
    refine z_iald hx hb hK hM 0 rfl (v := h 3 + 1) (vp_in_nI (n := 3) (by decide) (by decide)) (flt_h (k := 3) (by decide)) dX7_endTurn_44 ?_
    refine lv_aload_n hx hb dX7_endTurn_45 rfl (lv_at hl 0 rfl) ?_
    refine lv_bipush (v := 8) hx hb dX7_endTurn_46 (by decide) ?_
    refine z_iald hx hb hK hM 0 rfl (v := h 8) (vp_in_nI (n := 8) (by decide) (by decide)) (flt_h (k := 8) (by decide)) dX7_endTurn_48 ?_
    refine lv_icmp_lt (tgt := 59) hx hb dX7_endTurn_49 (by decide) (fun c_2 => ?_) (fun c_2 => ?_)
    · skip
      refine lv_aload_n hx hb dX7_endTurn_59 rfl (lv_at hl 0 rfl) ?_
      refine lv_iconst (v := 1) hx hb dX7_endTurn_60 (by decide) ?_
      refine lv_aload_n hx hb dX7_endTurn_61 rfl (lv_at hl 0 rfl) ?_
      refine lv_iconst (v := 1) hx hb dX7_endTurn_62 (by decide) ?_
      refine z_iald hx hb hK hM 0 rfl (v := h 1) (vp_in_nI (n := 1) (by decide) (by decide)) (flt_h (k := 1) (by decide)) dX7_endTurn_63 ?_
      refine z_topi (y := nI t) h1 ?_
      refine lv_iconst (v := 1) hx hb dX7_endTurn_64 (by decide) ?_
      refine lv_iadd hx hb dX7_endTurn_65 ?_
      refine z_topi (y := nI (t + 1)) (nI_add t 1) ?_
      refine lv_aload_n hx hb dX7_endTurn_66 rfl (lv_at hl 0 rfl) ?_
      refine lv_iconst (v := 0) hx hb dX7_endTurn_67 (by decide) ?_
      refine z_iald hx hb hK hM 0 rfl (v := h 0) (vp_in_nI (n := 0) (by decide) (by decide)) (flt_h (k := 0) (by decide)) dX7_endTurn_68 ?_
      refine z_topi (y := nI P) h0 ?_
      refine lv_irem hx hb dX7_endTurn_69 (nI_nz hP0 (by omega)) ?_
      refine z_topi (y := nI (zNt t P)) (by rw [pk_rem (a := t + 1) (d := P) (by omega) (by omega) (by omega), zNt_rem (hpt hP0).1]) ?_
      refine z_iast (ws' := [(r, .inl (G.2 1, 121, .inl (flt (upd (upd (upd h 2 0) 3 (h 3 + 1)) 1 (nI (zNt t P))) b)))]) hx hb hK hM 0 rfl (vp_in_nI (n := 1) (by decide) (by decide)) dX7_endTurn_70 (by rw [show (1 : Int32).toNatClampNeg = 1 from rfl, flt_uh (by decide)]; rfl) (fun H locs hM => ?_)
      refine lv_aload_n hx hb dX7_endTurn_71 rfl (lv_at hl 0 rfl) ?_
      refine lv_aload_n hx hb dX7_endTurn_72 rfl (lv_at hl 0 rfl) ?_
      refine lv_iconst (v := 1) hx hb dX7_endTurn_73 (by decide) ?_
      refine z_iald hx hb hK hM 0 rfl (v := nI (zNt t P)) (vp_in_nI (n := 1) (by decide) (by decide)) (flt_h (k := 1) (by decide)) dX7_endTurn_74 ?_
      refine z_callS (As := [.int (nI (zNt t P))]) (rest := [.ref r]) (wc := []) (wr := [(r, .inl (G.2 1, 121, .inl (flt (upd (upd (upd h 2 0) 3 (h 3 + 1)) 1 (nI (zNt t P))) b)))]) (w1 := []) (ws' := [(r, .inl (G.2 1, 121, .inl (flt (upd (upd (upd h 2 0) 3 (h 3 + 1)) 1 (nI (zNt t P))) b)))]) ⟨hx, hb, hml, hown, hts⟩ (c_at l G (zNt t P) (by omega)) (va_cwS 1 hts gX7_endTurn_X7_at rfl rfl rfl (by decide +kernel) ⟨Nat.le_of_ble_eq_true rfl, Nat.le_of_ble_eq_true rfl⟩) rfl hl.1 rfl (Nat.le_of_ble_eq_true rfl) dX7_endTurn_75 ⟨Nat.le_of_ble_eq_true rfl, Nat.le_of_ble_eq_true rfl⟩ hK hE hA hM (List.Perm.refl _) (List.Perm.refl _) (fun H locs hM hz => ?_)
      refine lv_bipush (v := 25) hx hb dX7_endTurn_78 (by decide) ?_
      refine lv_iadd hx hb dX7_endTurn_80 ?_
      refine z_topi (y := nI ((9 + (28 * (zNt t P))) + 25)) (nI_add (9 + (28 * (zNt t P))) 25) ?_
      refine lv_iconst (v := (-1)) hx hb dX7_endTurn_81 (by decide) ?_
      refine z_iast (ws' := [(r, .inl (G.2 1, 121, .inl (flt (upd (upd (upd h 2 0) 3 (h 3 + 1)) 1 (nI (zNt t P))) (va_up b (zNt t P) (upd (b (zNt t P)) 25 (-1))))))]) hx hb hK hM 0 rfl (vp_in_nI (by omega) (by decide)) dX7_endTurn_82 (by rw [nI_clamp (by omega), flt_ub (zNt t P) 25 (by omega) (by omega)]; rfl) (fun H locs hM => ?_)
      exact z_vret hx hb hr hlocks dX7_endTurn_83 (by rw [zEtH, zEtB, if_pos c_1, if_pos c_1, if_pos c_2, if_pos c_2]; exact hM) (Nat.le_of_ble_eq_true rfl) (Nat.le_of_ble_eq_true rfl)
    · skip
      refine lv_aload_n hx hb dX7_endTurn_52 rfl (lv_at hl 0 rfl) ?_
      refine lv_iconst (v := 4) hx hb dX7_endTurn_53 (by decide) ?_
      refine lv_iconst (v := 1) hx hb dX7_endTurn_54 (by decide) ?_
      refine z_iast (ws' := [(r, .inl (G.2 1, 121, .inl (flt (upd (upd (upd h 2 0) 3 (h 3 + 1)) 4 1) b)))]) hx hb hK hM 0 rfl (vp_in_nI (n := 4) (by decide) (by decide)) dX7_endTurn_55 (by rw [show (4 : Int32).toNatClampNeg = 4 from rfl, flt_uh (by decide)]; rfl) (fun H locs hM => ?_)
      refine lv_goto (tgt := 83) hx hb dX7_endTurn_56 (by decide) ?_
      exact z_vret hx hb hr hlocks dX7_endTurn_83 (by rw [zEtH, zEtB, if_pos c_1, if_pos c_1, if_neg c_2, if_neg c_2]; exact hM) (Nat.le_of_ble_eq_true rfl) (Nat.le_of_ble_eq_true rfl)
  · skip
    refine lv_aload_n hx hb dX7_endTurn_29 rfl (lv_at hl 0 rfl) ?_
    refine lv_iconst (v := 4) hx hb dX7_endTurn_30 (by decide) ?_
    refine lv_iconst (v := 1) hx hb dX7_endTurn_31 (by decide) ?_
    refine z_iast (ws' := [(r, .inl (G.2 1, 121, .inl (flt (upd (upd (upd h 2 0) 3 (h 3 + 1)) 4 1) b)))]) hx hb hK hM 0 rfl (vp_in_nI (n := 4) (by decide) (by decide)) dX7_endTurn_32 (by rw [show (4 : Int32).toNatClampNeg = 4 from rfl, flt_uh (by decide)]; rfl) (fun H locs hM => ?_)
    refine lv_aload_n hx hb dX7_endTurn_33 rfl (lv_at hl 0 rfl) ?_
    refine lv_iconst (v := 5) hx hb dX7_endTurn_34 (by decide) ?_
    refine lv_aload_n hx hb dX7_endTurn_35 rfl (lv_at hl 0 rfl) ?_
    refine lv_iconst (v := 1) hx hb dX7_endTurn_36 (by decide) ?_
    refine z_iald hx hb hK hM 0 rfl (v := h 1) (vp_in_nI (n := 1) (by decide) (by decide)) (flt_h (k := 1) (by decide)) dX7_endTurn_37 ?_
    refine z_iast (ws' := [(r, .inl (G.2 1, 121, .inl (flt (upd (upd (upd (upd h 2 0) 3 (h 3 + 1)) 4 1) 5 (h 1)) b)))]) hx hb hK hM 0 rfl (vp_in_nI (n := 5) (by decide) (by decide)) dX7_endTurn_38 (by rw [show (5 : Int32).toNatClampNeg = 5 from rfl, flt_uh (by decide)]; rfl) (fun H locs hM => ?_)
    refine lv_goto (tgt := 83) hx hb dX7_endTurn_39 (by decide) ?_
    exact z_vret hx hb hr hlocks dX7_endTurn_83 (by rw [zEtH, zEtB, if_neg c_1, if_neg c_1]; exact hM) (Nat.le_of_ble_eq_true rfl) (Nat.le_of_ble_eq_true rfl)

set_option maxHeartbeats 4000000 in
set_option maxRecDepth 100000 in
theorem c_canGo (l : Launch) (G : zC) (r : Nat) (h : Nat → Int32) (b : Nat → Nat → Int32) (P t S : Nat) (hg : zWf h b P t S) (n : Int32) (hn : zPl n = true) : zMet l G yX7_canGo wsX7_canGo rmX7_canGo [.ref r, .int n] (rfW G r h b) (some (.int (zb (zMg h b S t n)))) (rfW G r h b) := by
  refine zMet_of (cc := cX7_canGo) (maxL := 2) (ret := (some .boolean)) (by decide) rfl (Nat.le_of_ble_eq_true rfl) ?_
  intro p e s m below meth c A ls hx hb hr hml hown hts hK hA hE hlocks hin hM hl
  have hown : s.vm.findClass RX7 = some m.cls := hown
  have hM : zM G A s s.heap [] ([(r, .inl (G.2 1, 121, .inl (flt h b)))]) := hM
  have hl : lv_has ls 2 [(0, .ref r), (1, .int n)] := hl
  obtain ⟨⟨h0, hP4, h1, ht4, h6, hS, h22, h44⟩, hpt, hwb⟩ := id hg
  refine lv_aload_n hx hb dX7_canGo_0 rfl (lv_at hl 0 rfl) ?_
  refine z_callS (As := [.ref r]) (rest := []) (wc := rfW G r h b) (wr := []) (w1 := rfW G r h b) (ws' := [(r, .inl (G.2 1, 121, .inl (flt h b)))]) ⟨hx, hb, hml, hown, hts⟩ (c_r_isOn l G r h b  ) (va_cwS 1 hts gX7_canGo_X7_isOn rfl rfl rfl (by decide +kernel) ⟨Nat.le_of_ble_eq_true rfl, Nat.le_of_ble_eq_true rfl⟩) rfl hl.1 rfl (Nat.le_of_ble_eq_true rfl) dX7_canGo_1 ⟨Nat.le_of_ble_eq_true rfl, Nat.le_of_ble_eq_true rfl⟩ hK hE hA hM (pm_at 1 [0] [] rfl rfl rfl (by decide)) ((pm_at 1 [0] [] rfl rfl rfl (by decide))).symm (fun H locs hM hz => ?_)
  refine z_ifeq (tgt := 33) hx hb dX7_canGo_4 (by decide) (fun c_1 => ?_) (fun c_1 => ?_)
  · skip
    refine lv_iconst (v := 0) hx hb dX7_canGo_33 (by decide) ?_
    exact z_zret hx hb hr hlocks dX7_canGo_34 hM (Nat.le_of_ble_eq_true rfl) (Nat.le_of_ble_eq_true rfl) (by first | exact Or.inl rfl | exact Or.inr rfl | exact zb_01 _) (by rw [zMg, zMe, c_1]; rfl)
  · skip
    refine lv_aload_n hx hb dX7_canGo_7 rfl (lv_at hl 0 rfl) ?_
    refine lv_iconst (v := 2) hx hb dX7_canGo_8 (by decide) ?_
    refine z_iald hx hb hK hM 0 rfl (v := h 2) (vp_in_nI (n := 2) (by decide) (by decide)) (flt_h (k := 2) (by decide)) dX7_canGo_9 ?_
    refine lv_iconst (v := 1) hx hb dX7_canGo_10 (by decide) ?_
    refine lv_icmp_ne (tgt := 33) hx hb dX7_canGo_11 (by decide) (fun c_2 => ?_) (fun c_2 => ?_)
    · have e2 : h 2 = 0 := h22.resolve_right c_2
      refine lv_iconst (v := 0) hx hb dX7_canGo_33 (by decide) ?_
      exact z_zret hx hb hr hlocks dX7_canGo_34 hM (Nat.le_of_ble_eq_true rfl) (Nat.le_of_ble_eq_true rfl) (by first | exact Or.inl rfl | exact Or.inr rfl | exact zb_01 _) (by rw [zMg, zMe, c_1, decide_eq_true e2]; rfl)
    · have e2 : ¬ h 2 = 0 := by rw [c_2]; decide
      refine lv_aload_n hx hb dX7_canGo_14 rfl (lv_at hl 0 rfl) ?_
      refine lv_aload_n hx hb dX7_canGo_15 rfl (lv_at hl 0 rfl) ?_
      refine lv_iconst (v := 1) hx hb dX7_canGo_16 (by decide) ?_
      refine z_iald hx hb hK hM 0 rfl (v := h 1) (vp_in_nI (n := 1) (by decide) (by decide)) (flt_h (k := 1) (by decide)) dX7_canGo_17 ?_
      refine z_topi (y := nI t) h1 ?_
      have htP : t < P := (hpt (zRu_P h0 hP4 c_1)).1
      have hp : zHp h (nI t) = true := (zHp_lt h0 hP4 (by omega)).mpr htP
      refine z_callS (As := [.ref r, .int (nI t)]) (rest := []) (wc := rfW G r h b) (wr := []) (w1 := rfW G r h b) (ws' := [(r, .inl (G.2 1, 121, .inl (flt h b)))]) ⟨hx, hb, hml, hown, hts⟩ (c_reachable l G r h b t S (by omega) hS (hwb t htP) h6) (va_cwS 2 hts gX7_canGo_X7_reachable rfl rfl rfl (by decide +kernel) ⟨Nat.le_of_ble_eq_true rfl, Nat.le_of_ble_eq_true rfl⟩) rfl hl.1 rfl (Nat.le_of_ble_eq_true rfl) dX7_canGo_18 ⟨Nat.le_of_ble_eq_true rfl, Nat.le_of_ble_eq_true rfl⟩ hK hE hA hM (pm_at 1 [0] [] rfl rfl rfl (by decide)) ((pm_at 1 [0] [] rfl rfl rfl (by decide))).symm (fun H locs hM hz => ?_)
      refine lv_iload_n hx hb dX7_canGo_21 rfl (lv_at hl 1 rfl) ?_
      refine lv_ishr hx hb dX7_canGo_22 ?_
      refine lv_iconst (v := 1) hx hb dX7_canGo_23 (by decide) ?_
      refine lv_iand hx hb dX7_canGo_24 ?_
      refine lv_iconst (v := 1) hx hb dX7_canGo_25 (by decide) ?_
      refine lv_icmp_ne (tgt := 33) hx hb dX7_canGo_26 (by decide) (fun c_3 => ?_) (fun c_3 => ?_)
      · skip
        refine lv_iconst (v := 0) hx hb dX7_canGo_33 (by decide) ?_
        exact z_zret hx hb hr hlocks dX7_canGo_34 hM (Nat.le_of_ble_eq_true rfl) (Nat.le_of_ble_eq_true rfl) (by first | exact Or.inl rfl | exact Or.inr rfl | exact zb_01 _) (by rw [zMg, zMe, zRs, c_1, decide_eq_false e2, hp, zIn, hn, decide_eq_false c_3]; rfl)
      · skip
        refine lv_iconst (v := 1) hx hb dX7_canGo_29 (by decide) ?_
        refine lv_goto (tgt := 34) hx hb dX7_canGo_30 (by decide) ?_
        exact z_zret hx hb hr hlocks dX7_canGo_34 hM (Nat.le_of_ble_eq_true rfl) (Nat.le_of_ble_eq_true rfl) (by first | exact Or.inl rfl | exact Or.inr rfl | exact zb_01 _) (by rw [zMg, zMe, zRs, c_1, decide_eq_false e2, hp, zIn, hn, decide_eq_true c_3]; rfl)

set_option maxHeartbeats 4000000 in
set_option maxRecDepth 100000 in
theorem c_canLock (l : Launch) (G : zC) (r : Nat) (h : Nat → Int32) (b : Nat → Nat → Int32) (P t S : Nat) (hg : zWf h b P t S) : zMet l G yX7_canLock wsX7_canLock rmX7_canLock [.ref r] (rfW G r h b) (some (.int (zb (zMe h)))) (rfW G r h b) := by
  refine zMet_of (cc := cX7_canLock) (maxL := 1) (ret := (some .boolean)) (by decide) rfl (Nat.le_of_ble_eq_true rfl) ?_
  intro p e s m below meth c A ls hx hb hr hml hown hts hK hA hE hlocks hin hM hl
  have hown : s.vm.findClass RX7 = some m.cls := hown
  have hM : zM G A s s.heap [] ([(r, .inl (G.2 1, 121, .inl (flt h b)))]) := hM
  have hl : lv_has ls 1 [(0, .ref r)] := hl
  obtain ⟨⟨h0, hP4, h1, ht4, h6, hS, h22, h44⟩, hpt, hwb⟩ := id hg
  refine lv_aload_n hx hb dX7_canLock_0 rfl (lv_at hl 0 rfl) ?_
  refine z_callS (As := [.ref r]) (rest := []) (wc := rfW G r h b) (wr := []) (w1 := rfW G r h b) (ws' := [(r, .inl (G.2 1, 121, .inl (flt h b)))]) ⟨hx, hb, hml, hown, hts⟩ (c_r_isOn l G r h b  ) (va_cwS 1 hts gX7_canLock_X7_isOn rfl rfl rfl (by decide +kernel) ⟨Nat.le_of_ble_eq_true rfl, Nat.le_of_ble_eq_true rfl⟩) rfl hl.1 rfl (Nat.le_of_ble_eq_true rfl) dX7_canLock_1 ⟨Nat.le_of_ble_eq_true rfl, Nat.le_of_ble_eq_true rfl⟩ hK hE hA hM (pm_at 1 [0] [] rfl rfl rfl (by decide)) ((pm_at 1 [0] [] rfl rfl rfl (by decide))).symm (fun H locs hM hz => ?_)
  refine z_ifeq (tgt := 18) hx hb dX7_canLock_4 (by decide) (fun c_1 => ?_) (fun c_1 => ?_)
  · skip
    refine lv_iconst (v := 0) hx hb dX7_canLock_18 (by decide) ?_
    exact z_zret hx hb hr hlocks dX7_canLock_19 hM (Nat.le_of_ble_eq_true rfl) (Nat.le_of_ble_eq_true rfl) (by first | exact Or.inl rfl | exact Or.inr rfl | exact zb_01 _) (by rw [zMe, c_1]; rfl)
  · skip
    refine lv_aload_n hx hb dX7_canLock_7 rfl (lv_at hl 0 rfl) ?_
    refine lv_iconst (v := 2) hx hb dX7_canLock_8 (by decide) ?_
    refine z_iald hx hb hK hM 0 rfl (v := h 2) (vp_in_nI (n := 2) (by decide) (by decide)) (flt_h (k := 2) (by decide)) dX7_canLock_9 ?_
    refine lv_iconst (v := 1) hx hb dX7_canLock_10 (by decide) ?_
    refine lv_icmp_ne (tgt := 18) hx hb dX7_canLock_11 (by decide) (fun c_2 => ?_) (fun c_2 => ?_)
    · have e2 : h 2 = 0 := h22.resolve_right c_2
      refine lv_iconst (v := 0) hx hb dX7_canLock_18 (by decide) ?_
      exact z_zret hx hb hr hlocks dX7_canLock_19 hM (Nat.le_of_ble_eq_true rfl) (Nat.le_of_ble_eq_true rfl) (by first | exact Or.inl rfl | exact Or.inr rfl | exact zb_01 _) (by rw [zMe, c_1, decide_eq_true e2]; rfl)
    · have e2 : ¬ h 2 = 0 := by rw [c_2]; decide
      refine lv_iconst (v := 1) hx hb dX7_canLock_14 (by decide) ?_
      refine lv_goto (tgt := 19) hx hb dX7_canLock_15 (by decide) ?_
      exact z_zret hx hb hr hlocks dX7_canLock_19 hM (Nat.le_of_ble_eq_true rfl) (Nat.le_of_ble_eq_true rfl) (by first | exact Or.inl rfl | exact Or.inr rfl | exact zb_01 _) (by rw [zMe, c_1, decide_eq_false e2]; rfl)
/-! REFERENCE, third part: going, locking, copying, leaving -/
def zAb (x y : Int32) : Int32 := (if 0 ≤ x / 3 - y / 3 then x / 3 - y / 3 else -(x / 3 - y / 3)) + (if 0 ≤ (x - x / 3 * 3) - (y - y / 3 * 3) then (x - x / 3 * 3) - (y - y / 3 * 3) else -((x - x / 3 * 3) - (y - y / 3 * 3)))
theorem zAb_ds (n : Nat) (g : Int32) : zAb (nI n) g = zDs n g := by
  unfold zAb zDs
  rw [← Int32.zero_sub, ← Int32.zero_sub]
def zSet (n v : Int32) : Bool := zI0 n.toInt64 0 2 && zI0 v.toInt64 1 (if n = 0 then 9 else if n = 1 then 5 else 200)
def cpv (f g : Nat → Int32) (u v i : Nat) : Nat → Int32 := fun k => if v ≤ k ∧ k < v + i then f (u + (k - v)) else g k
theorem cpv_0 (f g : Nat → Int32) (u v : Nat) : cpv f g u v 0 = g := by
  funext k
  unfold cpv
  rw [if_neg (by omega)]
theorem cpv_s (f g : Nat → Int32) (u v i : Nat) : upd (cpv f g u v i) (v + i) (f (u + i)) = cpv f g u v (i + 1) := by
  funext k
  by_cases e : k = v + i
  · subst e
    rw [pk_us]
    unfold cpv
    rw [if_pos (by omega), show v + i - v = i by omega]
  · rw [pk_un e]
    unfold cpv
    by_cases h : v ≤ k ∧ k < v + i
    · rw [if_pos h, if_pos (by omega)]
    · rw [if_neg h, if_neg (by omega)]
theorem cpv_in {f g : Nat → Int32} {u v n i : Nat} (h : i < n) : cpv f g u v n (v + i) = f (u + i) := by
  unfold cpv
  rw [if_pos (by omega), show v + i - v = i by omega]
theorem cpv_out {f g : Nat → Int32} {u v n k : Nat} (h : ¬ (v ≤ k ∧ k < v + n)) : cpv f g u v n k = g k := by
  unfold cpv
  rw [if_neg h]
theorem cpv_all {f g : Nat → Int32} : ∀ k, k < 121 → cpv f g 0 0 121 k = f k := by
  intro k hk
  have h := cpv_in (f := f) (g := g) (u := 0) (v := 0) hk
  rw [Nat.zero_add] at h
  exact h
def clr (f : Nat → Int32) (i : Nat) : Nat → Int32 := fun k => if k < i then 0 else f k
theorem clr_0 (f : Nat → Int32) : clr f 0 = f := by
  funext k
  unfold clr
  rw [if_neg (by omega)]
theorem clr_s (f : Nat → Int32) (i : Nat) : upd (clr f i) i 0 = clr f (i + 1) := by
  funext k
  by_cases e : k = i
  · subst e
    rw [pk_us]
    unfold clr
    rw [if_pos (by omega)]
  · rw [pk_un e]
    unfold clr
    by_cases h : k < i
    · rw [if_pos h, if_pos (by omega)]
    · rw [if_neg h, if_neg (by omega)]
def zClH : Nat → Int32 := upd (upd (upd (upd (fun _ => 0) 5 (-1)) 6 4) 7 3) 8 60
theorem flt_z : ∀ k, flt (fun _ => 0) (fun _ _ => 0) k = 0 := by
  intro k
  unfold flt
  split <;> rfl
theorem clr_e (f : Nat → Int32) : ∀ k, k < 121 → upd (upd (upd (upd (clr f 121) 5 (-1)) 6 4) 7 3) 8 60 k = flt zClH (fun _ _ => 0) k := by
  intro k hk
  have h1 : flt zClH (fun _ _ => 0) = upd (upd (upd (upd (flt (fun _ => 0) (fun _ _ => 0)) 5 (-1)) 6 4) 7 3) 8 60 := by
    rw [flt_uh (by decide), flt_uh (by decide), flt_uh (by decide), flt_uh (by decide)]
    rfl
  rw [h1]
  by_cases e8 : k = 8
  · subst e8
    rw [pk_us, pk_us]
  rw [pk_un e8, pk_un (k := 8) e8]
  by_cases e7 : k = 7
  · subst e7
    rw [pk_us, pk_us]
  rw [pk_un e7, pk_un (k := 7) e7]
  by_cases e6 : k = 6
  · subst e6
    rw [pk_us, pk_us]
  rw [pk_un e6, pk_un (k := 6) e6]
  by_cases e5 : k = 5
  · subst e5
    rw [pk_us, pk_us]
  rw [pk_un e5, pk_un (k := 5) e5, flt_z]
  unfold clr
  rw [if_pos hk]
theorem zAc_c {f g : Nat → Int32} : ∀ (k i : Nat) (x : Int32), (∀ j, j ≤ i + k → f j = g j) → zAc f k i x = zAc g k i x
  | 0, _, _, _ => rfl
  | k + 1, i, x, h => by
    rw [zAc, zAc, h i (by omega), h (i + 1) (by omega)]
    exact zAc_c k (i + 1) _ (fun j hj => h j (by omega))
theorem zDo_c {f g : Nat → Int32} : ∀ (k i : Nat) (x : Int32), (∀ j, j ≤ i + k + 2 → f j = g j) → zDo f k i x = zDo g k i x
  | 0, _, _, _ => rfl
  | k + 1, i, x, h => by
    rw [zDo, zDo, h i (by omega), h (i + 3) (by omega)]
    exact zDo_c k (i + 1) _ (fun j hj => h j (by omega))
theorem zRch_c {f g : Nat → Int32} (h : ∀ j, j < 9 → f j = g j) (h24 : f 24 = g 24) (k : Nat) : zRch f k = zRch g k := by
  rw [zRch, zRch, zAcr, zAcr, zDow, zDow, zAc_c 8 0 0 (fun j hj => h j (by omega)), zDo_c 6 0 0 (fun j hj => h j (by omega)), h24]
theorem zFd_c {t u : Nat → Int32} (v : Int32) : ∀ (k i : Nat), (∀ j, j < i + k → t j = u j) → zFd t v k i = zFd u v k i
  | 0, _, _ => rfl
  | k + 1, i, h => by
    rw [zFd, zFd, h i (by omega), zFd_c v k (i + 1) (fun j hj => h j (by omega))]
theorem zSo_c {f g : Nat → Int32} (h23 : f 23 = g 23) (ho : ∀ j, j < 5 → f (18 + j) = g (18 + j)) : zSo f = zSo g := by
  unfold zSo
  rw [h23]
  split
  · rename_i h
    simp only [Bool.and_eq_true, Bool.not_eq_true', decide_eq_false_iff_not] at h
    obtain ⟨j, hj, e⟩ := vp_in_of (vpin_of (n := 5) (by decide) h.1 h.2) (by decide)
    rw [e, nI_clamp (by omega)]
    exact ho j hj
  · rfl
theorem zSp_c {f g : Nat → Int32} (h23 : f 23 = g 23) (ht : ∀ j, j < 9 → f (9 + j) = g (9 + j)) (ho : ∀ j, j < 5 → f (18 + j) = g (18 + j)) : zSp f = zSp g := by
  unfold zSp
  rw [zSo_c h23 ho]
  exact zFd_c _ 9 0 (fun j hj => ht j (by omega))
theorem zPu_26 {f : Nat → Int32} (w : zBw f) {n : Nat} (hn : n < 6) {d : Int32} (hd : d = 0 ∨ d = 1) : ∀ j, j < 26 → zPu f n d j = zMv f n d j := by
  intro j hj
  have h := zPu_mvd w hn hd j (by omega)
  rw [pk_un (by omega), pk_un (by omega)] at h
  exact h
theorem zBw_pu {f : Nat → Int32} (w : zBw f) {n : Nat} (hn : n < 6) {d : Int32} (hd : d = 0 ∨ d = 1) : zBw (zPu f n d) := by
  have h := zPu_26 w hn hd
  exact zBw_set (zBw_mv w hn d) (h 23 (by decide)) (h 24 (by decide)) (fun i hi => h (9 + i) (by omega)) (fun i hi => h (18 + i) (by omega))
theorem zRch_pu {f : Nat → Int32} (w : zBw f) {n : Nat} (hn : n < 6) {d : Int32} (hd : d = 0 ∨ d = 1) (S : Nat) : zRch (zPu f n d) S = zRch (zMv f n d) S := by
  have h := zPu_26 w hn hd
  exact zRch_c (fun j hj => h j (by omega)) (h 24 (by decide)) S
theorem zSp_pu {f : Nat → Int32} (w : zBw f) {n : Nat} (hn : n < 6) {d : Int32} (hd : d = 0 ∨ d = 1) : zSp (zPu f n d) = zSp (zMv f n d) := by
  have h := zPu_26 w hn hd
  exact zSp_c (h 23 (by decide)) (fun j hj => h (9 + j) (by omega)) (fun j hj => h (18 + j) (by omega))
def zLv (f : Nat → Int32) (S : Nat) : Int32 := (if zIn (zRch f S) (zSp f) = true then 100 else 0) + zBc (zRch f S)
set_option maxHeartbeats 4000000 in
set_option maxRecDepth 100000 in
theorem c_goOn (l : Launch) (G : zC) (r : Nat) (h : Nat → Int32) (b : Nat → Nat → Int32) (P t S : Nat) (hg : zWf h b P t S) (hP0 : 0 < P) (n : Nat) (hn : n < 9) : zMet l G yX7_goOn wsX7_goOn rmX7_goOn [.ref r, .int (nI n)] (rfW G r h b) (some (.int (zLr (b t) n))) (rfW G r (zEtH h (zGoB b t n) t P) (zEtB h (zGoB b t n) t P)) := by
  refine zMet_of (cc := cX7_goOn) (maxL := 5) (ret := (some .int)) (by decide) rfl (Nat.le_of_ble_eq_true rfl) ?_
  intro p e s m below meth c A ls hx hb hr hml hown hts hK hA hE hlocks hin hM hl
  have hown : s.vm.findClass RX7 = some m.cls := hown
  have hM : zM G A s s.heap [] ([(r, .inl (G.2 1, 121, .inl (flt h b)))]) := hM
  have hl : lv_has ls 5 [(0, .ref r), (1, .int (nI n))] := hl
  obtain ⟨⟨h0, hP4, h1, ht4, h6, hS, h22, h44⟩, hpt, hwb⟩ := id hg
  have htP : t < P := (hpt hP0).1
  have hwt : zBw (b t) := hwb t htP
  have hp9 : 0 < P := hP0
  obtain ⟨k9, hk9, ek9⟩ := hwt.2.2.1 n hn
  have hg2 : zWf h (zGoB b t n) P t S := zWf_b hg (zBw_ld hwt hn)
  refine lv_aload_n hx hb dX7_goOn_0 rfl (lv_at hl 0 rfl) ?_
  refine lv_iconst (v := 1) hx hb dX7_goOn_1 (by decide) ?_
  refine z_iald hx hb hK hM 0 rfl (v := h 1) (vp_in_nI (n := 1) (by decide) (by decide)) (flt_h (k := 1) (by decide)) dX7_goOn_2 ?_
  refine z_topi (y := nI t) h1 ?_
  refine z_callS (As := [.int (nI t)]) (rest := []) (wc := []) (wr := [(r, .inl (G.2 1, 121, .inl (flt h b)))]) (w1 := []) (ws' := [(r, .inl (G.2 1, 121, .inl (flt h b)))]) ⟨hx, hb, hml, hown, hts⟩ (c_at l G t (by omega)) (va_cwS 1 hts gX7_goOn_X7_at rfl rfl rfl (by decide +kernel) ⟨Nat.le_of_ble_eq_true rfl, Nat.le_of_ble_eq_true rfl⟩) rfl hl.1 rfl (Nat.le_of_ble_eq_true rfl) dX7_goOn_3 ⟨Nat.le_of_ble_eq_true rfl, Nat.le_of_ble_eq_true rfl⟩ hK hE hA hM (List.Perm.refl _) (List.Perm.refl _) (fun H locs hM hz => ?_)
  refine lv_istore_n (lv' := [(2, .int (nI (9 + (28 * t)))), (0, .ref r), (1, .int (nI n))]) hx hb dX7_goOn_6 rfl hl (by decide) rfl (fun ls hl => ?_)
  refine lv_aload_n hx hb dX7_goOn_7 rfl (lv_at hl 1 rfl) ?_
  refine lv_iload_n hx hb dX7_goOn_8 rfl (lv_at hl 0 rfl) ?_
  refine lv_bipush (v := 24) hx hb dX7_goOn_9 (by decide) ?_
  refine lv_iadd hx hb dX7_goOn_11 ?_
  refine z_topi (y := nI ((9 + (28 * t)) + 24)) (nI_add (9 + (28 * t)) 24) ?_
  refine lv_iload_n hx hb dX7_goOn_12 rfl (lv_at hl 2 rfl) ?_
  refine z_iast (ws' := [(r, .inl (G.2 1, 121, .inl (flt h (va_up b t (upd (b t) 24 (nI n))))))]) hx hb hK hM 0 rfl (vp_in_nI (by omega) (by decide)) dX7_goOn_13 (by rw [nI_clamp (by omega), flt_ub t 24 (by omega) (by omega)]; rfl) (fun H locs hM => ?_)
  refine lv_aload_n hx hb dX7_goOn_14 rfl (lv_at hl 1 rfl) ?_
  refine lv_iload_n hx hb dX7_goOn_15 rfl (lv_at hl 0 rfl) ?_
  refine lv_bipush (v := 9) hx hb dX7_goOn_16 (by decide) ?_
  refine lv_iadd hx hb dX7_goOn_18 ?_
  refine z_topi (y := nI ((9 + (28 * t)) + 9)) (nI_add (9 + (28 * t)) 9) ?_
  refine lv_iload_n hx hb dX7_goOn_19 rfl (lv_at hl 2 rfl) ?_
  refine lv_iadd hx hb dX7_goOn_20 ?_
  refine z_topi (y := nI (((9 + (28 * t)) + 9) + n)) (nI_add ((9 + (28 * t)) + 9) n) ?_
  refine z_iald hx hb hK hM 0 rfl (v := b t (9 + n)) (vp_in_nI (by omega) (by decide)) (by rw [nI_clamp (by omega), flt_b t (9 + n) (by omega) (by omega), va_ups, pk_un (by omega)]) dX7_goOn_21 ?_
  refine lv_istore_n (lv' := [(3, .int (b t (9 + n))), (2, .int (nI (9 + (28 * t)))), (0, .ref r), (1, .int (nI n))]) hx hb dX7_goOn_22 rfl hl (by decide) rfl (fun ls hl => ?_)
  refine lv_iload_n hx hb dX7_goOn_23 rfl (lv_at hl 0 rfl) ?_
  refine lv_if_le (tgt := 42) hx hb dX7_goOn_24 (by decide) (fun c_1 => ?_) (fun c_1 => ?_)
  · have e0 : b t (9 + n) = 0 := by rw [ek9] at c_1 ⊢; rw [(nI_le0 (by omega)).mp c_1]; rfl
    refine lv_iconst (v := 0) hx hb dX7_goOn_42 (by decide) ?_
    refine lv_istore (lv' := [(4, .int 0), (3, .int (b t (9 + n))), (2, .int (nI (9 + (28 * t)))), (0, .ref r), (1, .int (nI n))]) hx hb dX7_goOn_43 hl (by decide) rfl (fun ls hl => ?_)
    refine lv_iload hx hb dX7_goOn_45 (lv_at hl 0 rfl) ?_
    refine lv_if_eq (tgt := 69) hx hb dX7_goOn_47 (by decide) (fun c_1 => ?_) (fun c_1 => absurd rfl c_1)
    have hM : zM G A s H locs ([(r, .inl (G.2 1, 121, .inl (flt h (zGoB b t n))))]) := by rw [zGoB, zLd, if_pos (Or.inl e0)]; exact hM
    refine lv_aload_n hx hb dX7_goOn_69 rfl (lv_at hl 3 rfl) ?_
    refine z_callS (As := [.ref r]) (rest := []) (wc := rfW G r h (zGoB b t n)) (wr := []) (w1 := rfW G r (zEtH h (zGoB b t n) t P) (zEtB h (zGoB b t n) t P)) (ws' := [(r, .inl (G.2 1, 121, .inl (flt (zEtH h (zGoB b t n) t P) (zEtB h (zGoB b t n) t P))))]) ⟨hx, hb, hml, hown, hts⟩ (c_r_endTurn l G r h (zGoB b t n) P t S hg2 hP0 ) (va_cwS 1 hts gX7_goOn_X7_endTurn rfl rfl rfl (by decide +kernel) ⟨Nat.le_of_ble_eq_true rfl, Nat.le_of_ble_eq_true rfl⟩) rfl hl.1 rfl (Nat.le_of_ble_eq_true rfl) dX7_goOn_70 ⟨Nat.le_of_ble_eq_true rfl, Nat.le_of_ble_eq_true rfl⟩ hK hE hA hM (pm_at 1 [0] [] rfl rfl rfl (by decide)) ((pm_at 1 [0] [] rfl rfl rfl (by decide))).symm (fun H locs hM hz => ?_)
    refine lv_iload hx hb dX7_goOn_73 (lv_at hl 0 rfl) ?_
    refine lv_if_eq (tgt := 82) hx hb dX7_goOn_75 (by decide) (fun c_2 => ?_) (fun c_2 => absurd rfl c_2)
    refine lv_iconst (v := 0) hx hb dX7_goOn_82 (by decide) ?_
    exact z_iret hx hb hr hlocks dX7_goOn_83 hM (Nat.le_of_ble_eq_true rfl) (Nat.le_of_ble_eq_true rfl) (by rw [zLr, if_pos (Or.inl e0)])
  · skip
    refine lv_iload_n hx hb dX7_goOn_27 rfl (lv_at hl 0 rfl) ?_
    refine lv_aload_n hx hb dX7_goOn_28 rfl (lv_at hl 2 rfl) ?_
    refine lv_aload_n hx hb dX7_goOn_29 rfl (lv_at hl 2 rfl) ?_
    refine lv_iconst (v := 1) hx hb dX7_goOn_30 (by decide) ?_
    refine z_iald hx hb hK hM 0 rfl (v := h 1) (vp_in_nI (n := 1) (by decide) (by decide)) (flt_h (k := 1) (by decide)) dX7_goOn_31 ?_
    refine z_topi (y := nI t) h1 ?_
    refine z_callS (As := [.ref r, .int (nI t)]) (rest := [.int (b t (9 + n))]) (wc := rfW G r h (va_up b t (upd (b t) 24 (nI n)))) (wr := []) (w1 := rfW G r h (va_up b t (upd (b t) 24 (nI n)))) (ws' := [(r, .inl (G.2 1, 121, .inl (flt h (va_up b t (upd (b t) 24 (nI n))))))]) ⟨hx, hb, hml, hown, hts⟩ (c_r_sought l G r h (va_up b t (upd (b t) 24 (nI n))) t (by omega) (by rw [va_ups]; exact zBw_24 hwt hn)) (va_cwS 2 hts gX7_goOn_X7_sought rfl rfl rfl (by decide +kernel) ⟨Nat.le_of_ble_eq_true rfl, Nat.le_of_ble_eq_true rfl⟩) rfl hl.1 rfl (Nat.le_of_ble_eq_true rfl) dX7_goOn_32 ⟨Nat.le_of_ble_eq_true rfl, Nat.le_of_ble_eq_true rfl⟩ hK hE hA hM (pm_at 1 [0] [] rfl rfl rfl (by decide)) ((pm_at 1 [0] [] rfl rfl rfl (by decide))).symm (fun H locs hM hz => ?_)
    refine z_topi (y := zSo (b t)) (by rw [va_ups, zSo_ship]) ?_
    refine lv_icmp_ne (tgt := 42) hx hb dX7_goOn_35 (by decide) (fun c_2 => ?_) (fun c_2 => ?_)
    · skip
      refine lv_iconst (v := 0) hx hb dX7_goOn_42 (by decide) ?_
      refine lv_istore (lv' := [(4, .int 0), (3, .int (b t (9 + n))), (2, .int (nI (9 + (28 * t)))), (0, .ref r), (1, .int (nI n))]) hx hb dX7_goOn_43 hl (by decide) rfl (fun ls hl => ?_)
      refine lv_iload hx hb dX7_goOn_45 (lv_at hl 0 rfl) ?_
      refine lv_if_eq (tgt := 69) hx hb dX7_goOn_47 (by decide) (fun c_3 => ?_) (fun c_3 => absurd rfl c_3)
      have hM : zM G A s H locs ([(r, .inl (G.2 1, 121, .inl (flt h (zGoB b t n))))]) := by rw [zGoB, zLd, if_pos (Or.inr c_2)]; exact hM
      refine lv_aload_n hx hb dX7_goOn_69 rfl (lv_at hl 3 rfl) ?_
      refine z_callS (As := [.ref r]) (rest := []) (wc := rfW G r h (zGoB b t n)) (wr := []) (w1 := rfW G r (zEtH h (zGoB b t n) t P) (zEtB h (zGoB b t n) t P)) (ws' := [(r, .inl (G.2 1, 121, .inl (flt (zEtH h (zGoB b t n) t P) (zEtB h (zGoB b t n) t P))))]) ⟨hx, hb, hml, hown, hts⟩ (c_r_endTurn l G r h (zGoB b t n) P t S hg2 hP0 ) (va_cwS 1 hts gX7_goOn_X7_endTurn rfl rfl rfl (by decide +kernel) ⟨Nat.le_of_ble_eq_true rfl, Nat.le_of_ble_eq_true rfl⟩) rfl hl.1 rfl (Nat.le_of_ble_eq_true rfl) dX7_goOn_70 ⟨Nat.le_of_ble_eq_true rfl, Nat.le_of_ble_eq_true rfl⟩ hK hE hA hM (pm_at 1 [0] [] rfl rfl rfl (by decide)) ((pm_at 1 [0] [] rfl rfl rfl (by decide))).symm (fun H locs hM hz => ?_)
      refine lv_iload hx hb dX7_goOn_73 (lv_at hl 0 rfl) ?_
      refine lv_if_eq (tgt := 82) hx hb dX7_goOn_75 (by decide) (fun c_4 => ?_) (fun c_4 => absurd rfl c_4)
      refine lv_iconst (v := 0) hx hb dX7_goOn_82 (by decide) ?_
      exact z_iret hx hb hr hlocks dX7_goOn_83 hM (Nat.le_of_ble_eq_true rfl) (Nat.le_of_ble_eq_true rfl) (by rw [zLr, if_pos (Or.inr c_2)])
    · skip
      refine lv_iconst (v := 1) hx hb dX7_goOn_38 (by decide) ?_
      refine lv_goto (tgt := 43) hx hb dX7_goOn_39 (by decide) ?_
      refine lv_istore (lv' := [(4, .int 1), (3, .int (b t (9 + n))), (2, .int (nI (9 + (28 * t)))), (0, .ref r), (1, .int (nI n))]) hx hb dX7_goOn_43 hl (by decide) rfl (fun ls hl => ?_)
      refine lv_iload hx hb dX7_goOn_45 (lv_at hl 0 rfl) ?_
      refine lv_if_eq (tgt := 69) hx hb dX7_goOn_47 (by decide) (fun c_5 => absurd c_5 (by decide)) (fun c_5 => ?_)
      refine lv_aload_n hx hb dX7_goOn_50 rfl (lv_at hl 3 rfl) ?_
      refine lv_iload_n hx hb dX7_goOn_51 rfl (lv_at hl 2 rfl) ?_
      refine lv_bipush (v := 9) hx hb dX7_goOn_52 (by decide) ?_
      refine lv_iadd hx hb dX7_goOn_54 ?_
      refine z_topi (y := nI ((9 + (28 * t)) + 9)) (nI_add (9 + (28 * t)) 9) ?_
      refine lv_iload_n hx hb dX7_goOn_55 rfl (lv_at hl 4 rfl) ?_
      refine lv_iadd hx hb dX7_goOn_56 ?_
      refine z_topi (y := nI (((9 + (28 * t)) + 9) + n)) (nI_add ((9 + (28 * t)) + 9) n) ?_
      refine lv_iconst (v := 0) hx hb dX7_goOn_57 (by decide) ?_
      refine z_iast (ws' := [(r, .inl (G.2 1, 121, .inl (flt h (va_up (va_up b t (upd (b t) 24 (nI n))) t (upd ((va_up b t (upd (b t) 24 (nI n))) t) (9 + n) 0)))))]) hx hb hK hM 0 rfl (vp_in_nI (by omega) (by decide)) dX7_goOn_58 (by rw [nI_clamp (by omega), flt_ub t (9 + n) (by omega) (by omega)]; rfl) (fun H locs hM => ?_)
      rw [va_upup, va_ups] at hM
      have hM : zM G A s H locs ([(r, .inl (G.2 1, 121, .inl (flt h (va_up b t (upd (upd (b t) 24 (nI n)) (9 + n) 0)))))]) := hM
      refine lv_aload_n hx hb dX7_goOn_59 rfl (lv_at hl 3 rfl) ?_
      refine lv_iload_n hx hb dX7_goOn_60 rfl (lv_at hl 2 rfl) ?_
      refine lv_bipush (v := 23) hx hb dX7_goOn_61 (by decide) ?_
      refine lv_iadd hx hb dX7_goOn_63 ?_
      refine z_topi (y := nI ((9 + (28 * t)) + 23)) (nI_add (9 + (28 * t)) 23) ?_
      refine lv_dup2_11 hx hb dX7_goOn_64 rfl rfl ?_
      refine z_iald hx hb hK hM 0 rfl (v := b t 23) (vp_in_nI (by omega) (by decide)) (by rw [nI_clamp (by omega), flt_b t 23 (by omega) (by omega), va_ups, pk_un (by omega), pk_un (by omega)]) dX7_goOn_65 ?_
      refine lv_iconst (v := 1) hx hb dX7_goOn_66 (by decide) ?_
      refine lv_iadd hx hb dX7_goOn_67 ?_
      refine z_iast (ws' := [(r, .inl (G.2 1, 121, .inl (flt h (va_up (va_up b t (upd (upd (b t) 24 (nI n)) (9 + n) 0)) t (upd ((va_up b t (upd (upd (b t) 24 (nI n)) (9 + n) 0)) t) 23 ((b t 23) + 1))))))]) hx hb hK hM 0 rfl (vp_in_nI (by omega) (by decide)) dX7_goOn_68 (by rw [nI_clamp (by omega), flt_ub t 23 (by omega) (by omega)]; rfl) (fun H locs hM => ?_)
      rw [va_upup, va_ups] at hM
      have hM : zM G A s H locs ([(r, .inl (G.2 1, 121, .inl (flt h (va_up b t (upd (upd (upd (b t) 24 (nI n)) (9 + n) 0) 23 ((b t 23) + 1))))))]) := hM
      have hM : zM G A s H locs ([(r, .inl (G.2 1, 121, .inl (flt h (zGoB b t n))))]) := by rw [zGoB, zLd, if_neg (fun q => q.elim (fun q1 => c_1 (by rw [q1]; exact Int32.le_refl 0)) (fun q2 => q2 c_2))]; exact hM
      refine lv_aload_n hx hb dX7_goOn_69 rfl (lv_at hl 3 rfl) ?_
      refine z_callS (As := [.ref r]) (rest := []) (wc := rfW G r h (zGoB b t n)) (wr := []) (w1 := rfW G r (zEtH h (zGoB b t n) t P) (zEtB h (zGoB b t n) t P)) (ws' := [(r, .inl (G.2 1, 121, .inl (flt (zEtH h (zGoB b t n) t P) (zEtB h (zGoB b t n) t P))))]) ⟨hx, hb, hml, hown, hts⟩ (c_r_endTurn l G r h (zGoB b t n) P t S hg2 hP0 ) (va_cwS 1 hts gX7_goOn_X7_endTurn rfl rfl rfl (by decide +kernel) ⟨Nat.le_of_ble_eq_true rfl, Nat.le_of_ble_eq_true rfl⟩) rfl hl.1 rfl (Nat.le_of_ble_eq_true rfl) dX7_goOn_70 ⟨Nat.le_of_ble_eq_true rfl, Nat.le_of_ble_eq_true rfl⟩ hK hE hA hM (pm_at 1 [0] [] rfl rfl rfl (by decide)) ((pm_at 1 [0] [] rfl rfl rfl (by decide))).symm (fun H locs hM hz => ?_)
      refine lv_iload hx hb dX7_goOn_73 (lv_at hl 0 rfl) ?_
      refine lv_if_eq (tgt := 82) hx hb dX7_goOn_75 (by decide) (fun c_6 => absurd c_6 (by decide)) (fun c_6 => ?_)
      refine lv_iload_n hx hb dX7_goOn_78 rfl (lv_at hl 1 rfl) ?_
      refine lv_goto (tgt := 83) hx hb dX7_goOn_79 (by decide) ?_
      exact z_iret hx hb hr hlocks dX7_goOn_83 hM (Nat.le_of_ble_eq_true rfl) (Nat.le_of_ble_eq_true rfl) (by rw [zLr, if_neg (fun q => q.elim (fun q1 => c_1 (by rw [q1]; exact Int32.le_refl 0)) (fun q2 => q2 c_2))])

set_option maxHeartbeats 4000000 in
set_option maxRecDepth 100000 in
theorem c_r_lockOn (l : Launch) (G : zC) (r : Nat) (h : Nat → Int32) (b : Nat → Nat → Int32) (P t S : Nat) (hg : zWf h b P t S) (hP0 : 0 < P) (n : Int32) : zMet l G yX7_lockOn wsX7_lockOn rmX7_lockOn [.ref r, .int n] (rfW G r h b) (some (.int (if (zEtH h (zLkB b t n) t P) 4 = 1 then -1 else (zEtH h (zLkB b t n) t P) 1))) (rfW G r (zEtH h (zLkB b t n) t P) (zEtB h (zLkB b t n) t P)) := by
  refine zMet_of (cc := cX7_lockOn) (maxL := 2) (ret := (some .int)) (by decide) rfl (Nat.le_of_ble_eq_true rfl) ?_
  intro p e s m below meth c A ls hx hb hr hml hown hts hK hA hE hlocks hin hM hl
  have hown : s.vm.findClass RX7 = some m.cls := hown
  have hM : zM G A s s.heap [] ([(r, .inl (G.2 1, 121, .inl (flt h b)))]) := hM
  have hl : lv_has ls 2 [(0, .ref r), (1, .int n)] := hl
  obtain ⟨⟨h0, hP4, h1, ht4, h6, hS, h22, h44⟩, hpt, hwb⟩ := id hg
  have htP : t < P := (hpt hP0).1
  have hwt : zBw (b t) := hwb t htP
  have hp9 : 0 < P := hP0
  have hg2 : zWf h (zLkB b t n) P t S := zWf_b hg (zBw_25 hwt n)
  refine lv_aload_n hx hb dX7_lockOn_0 rfl (lv_at hl 0 rfl) ?_
  refine lv_aload_n hx hb dX7_lockOn_1 rfl (lv_at hl 0 rfl) ?_
  refine lv_iconst (v := 1) hx hb dX7_lockOn_2 (by decide) ?_
  refine z_iald hx hb hK hM 0 rfl (v := h 1) (vp_in_nI (n := 1) (by decide) (by decide)) (flt_h (k := 1) (by decide)) dX7_lockOn_3 ?_
  refine z_topi (y := nI t) h1 ?_
  refine z_callS (As := [.int (nI t)]) (rest := [.ref r]) (wc := []) (wr := [(r, .inl (G.2 1, 121, .inl (flt h b)))]) (w1 := []) (ws' := [(r, .inl (G.2 1, 121, .inl (flt h b)))]) ⟨hx, hb, hml, hown, hts⟩ (c_at l G t (by omega)) (va_cwS 1 hts gX7_lockOn_X7_at rfl rfl rfl (by decide +kernel) ⟨Nat.le_of_ble_eq_true rfl, Nat.le_of_ble_eq_true rfl⟩) rfl hl.1 rfl (Nat.le_of_ble_eq_true rfl) dX7_lockOn_4 ⟨Nat.le_of_ble_eq_true rfl, Nat.le_of_ble_eq_true rfl⟩ hK hE hA hM (List.Perm.refl _) (List.Perm.refl _) (fun H locs hM hz => ?_)
  refine lv_bipush (v := 25) hx hb dX7_lockOn_7 (by decide) ?_
  refine lv_iadd hx hb dX7_lockOn_9 ?_
  refine z_topi (y := nI ((9 + (28 * t)) + 25)) (nI_add (9 + (28 * t)) 25) ?_
  refine lv_iload_n hx hb dX7_lockOn_10 rfl (lv_at hl 1 rfl) ?_
  refine z_iast (ws' := [(r, .inl (G.2 1, 121, .inl (flt h (va_up b t (upd (b t) 25 n)))))]) hx hb hK hM 0 rfl (vp_in_nI (by omega) (by decide)) dX7_lockOn_11 (by rw [nI_clamp (by omega), flt_ub t 25 (by omega) (by omega)]; rfl) (fun H locs hM => ?_)
  have hM : zM G A s H locs ([(r, .inl (G.2 1, 121, .inl (flt h (zLkB b t n))))]) := hM
  refine lv_aload_n hx hb dX7_lockOn_12 rfl (lv_at hl 0 rfl) ?_
  refine z_callS (As := [.ref r]) (rest := []) (wc := rfW G r h (zLkB b t n)) (wr := []) (w1 := rfW G r (zEtH h (zLkB b t n) t P) (zEtB h (zLkB b t n) t P)) (ws' := [(r, .inl (G.2 1, 121, .inl (flt (zEtH h (zLkB b t n) t P) (zEtB h (zLkB b t n) t P))))]) ⟨hx, hb, hml, hown, hts⟩ (c_r_endTurn l G r h (zLkB b t n) P t S hg2 hP0 ) (va_cwS 1 hts gX7_lockOn_X7_endTurn rfl rfl rfl (by decide +kernel) ⟨Nat.le_of_ble_eq_true rfl, Nat.le_of_ble_eq_true rfl⟩) rfl hl.1 rfl (Nat.le_of_ble_eq_true rfl) dX7_lockOn_13 ⟨Nat.le_of_ble_eq_true rfl, Nat.le_of_ble_eq_true rfl⟩ hK hE hA hM (pm_at 1 [0] [] rfl rfl rfl (by decide)) ((pm_at 1 [0] [] rfl rfl rfl (by decide))).symm (fun H locs hM hz => ?_)
  refine lv_aload_n hx hb dX7_lockOn_16 rfl (lv_at hl 0 rfl) ?_
  refine lv_iconst (v := 4) hx hb dX7_lockOn_17 (by decide) ?_
  refine z_iald hx hb hK hM 0 rfl (v := (zEtH h (zLkB b t n) t P) 4) (vp_in_nI (n := 4) (by decide) (by decide)) (flt_h (k := 4) (by decide)) dX7_lockOn_18 ?_
  refine lv_iconst (v := 1) hx hb dX7_lockOn_19 (by decide) ?_
  refine lv_icmp_ne (tgt := 27) hx hb dX7_lockOn_20 (by decide) (fun c_1 => ?_) (fun c_1 => ?_)
  · skip
    refine lv_aload_n hx hb dX7_lockOn_27 rfl (lv_at hl 0 rfl) ?_
    refine lv_iconst (v := 1) hx hb dX7_lockOn_28 (by decide) ?_
    refine z_iald hx hb hK hM 0 rfl (v := (zEtH h (zLkB b t n) t P) 1) (vp_in_nI (n := 1) (by decide) (by decide)) (flt_h (k := 1) (by decide)) dX7_lockOn_29 ?_
    exact z_iret hx hb hr hlocks dX7_lockOn_30 hM (Nat.le_of_ble_eq_true rfl) (Nat.le_of_ble_eq_true rfl) (by rw [if_neg c_1])
  · skip
    refine lv_iconst (v := (-1)) hx hb dX7_lockOn_23 (by decide) ?_
    refine lv_goto (tgt := 30) hx hb dX7_lockOn_24 (by decide) ?_
    exact z_iret hx hb hr hlocks dX7_lockOn_30 hM (Nat.le_of_ble_eq_true rfl) (Nat.le_of_ble_eq_true rfl) (by rw [if_pos c_1])

set_option maxHeartbeats 4000000 in
set_option maxRecDepth 100000 in
theorem c_apartBy (l : Launch) (G : zC) (x y : Int32) : zMet l G yX7_apartBy wsX7_apartBy rmX7_apartBy [.int x, .int y] ([]) (some (.int (zAb x y))) ([]) := by
  refine zMet_of (cc := cX7_apartBy) (maxL := 4) (ret := (some .int)) (by decide) rfl (Nat.le_of_ble_eq_true rfl) ?_
  intro p e s m below meth c A ls hx hb hr hml hown hts hK hA hE hlocks hin hM hl
  have hown : s.vm.findClass RX7 = some m.cls := hown
  have hM : zM G A s s.heap [] ([]) := hM
  have hl : lv_has ls 4 [(0, .int x), (1, .int y)] := hl
  refine lv_iload_n hx hb dX7_apartBy_0 rfl (lv_at hl 0 rfl) ?_
  refine lv_iconst (v := 3) hx hb dX7_apartBy_1 (by decide) ?_
  refine lv_idiv hx hb dX7_apartBy_2 (by decide) ?_
  refine lv_iload_n hx hb dX7_apartBy_3 rfl (lv_at hl 1 rfl) ?_
  refine lv_iconst (v := 3) hx hb dX7_apartBy_4 (by decide) ?_
  refine lv_idiv hx hb dX7_apartBy_5 (by decide) ?_
  refine lv_isub hx hb dX7_apartBy_6 ?_
  refine lv_istore_n (lv' := [(2, .int ((x / 3) - (y / 3))), (0, .int x), (1, .int y)]) hx hb dX7_apartBy_7 rfl hl (by decide) rfl (fun ls hl => ?_)
  refine lv_iload_n hx hb dX7_apartBy_8 rfl (lv_at hl 1 rfl) ?_
  refine lv_iconst (v := 3) hx hb dX7_apartBy_9 (by decide) ?_
  refine lv_irem hx hb dX7_apartBy_10 (by decide) ?_
  refine lv_iload_n hx hb dX7_apartBy_11 rfl (lv_at hl 2 rfl) ?_
  refine lv_iconst (v := 3) hx hb dX7_apartBy_12 (by decide) ?_
  refine lv_irem hx hb dX7_apartBy_13 (by decide) ?_
  refine lv_isub hx hb dX7_apartBy_14 ?_
  refine lv_istore_n (lv' := [(3, .int ((x - x / 3 * 3) - (y - y / 3 * 3))), (2, .int ((x / 3) - (y / 3))), (0, .int x), (1, .int y)]) hx hb dX7_apartBy_15 rfl hl (by decide) rfl (fun ls hl => ?_)
  refine lv_iload_n hx hb dX7_apartBy_16 rfl (lv_at hl 1 rfl) ?_
  refine lv_if_ge (tgt := 25) hx hb dX7_apartBy_17 (by decide) (fun c_1 => ?_) (fun c_1 => ?_)
  · skip
    refine lv_iload_n hx hb dX7_apartBy_25 rfl (lv_at hl 1 rfl) ?_
    refine lv_iload_n hx hb dX7_apartBy_26 rfl (lv_at hl 0 rfl) ?_
    refine lv_if_ge (tgt := 35) hx hb dX7_apartBy_27 (by decide) (fun c_2 => ?_) (fun c_2 => ?_)
    · skip
      refine lv_iload_n hx hb dX7_apartBy_35 rfl (lv_at hl 0 rfl) ?_
      refine lv_iadd hx hb dX7_apartBy_36 ?_
      exact z_iret hx hb hr hlocks dX7_apartBy_37 hM (Nat.le_of_ble_eq_true rfl) (Nat.le_of_ble_eq_true rfl) (by rw [zAb, if_pos c_1, if_pos c_2])
    · skip
      refine lv_iload_n hx hb dX7_apartBy_30 rfl (lv_at hl 0 rfl) ?_
      refine lv_ineg hx hb dX7_apartBy_31 ?_
      refine lv_goto (tgt := 36) hx hb dX7_apartBy_32 (by decide) ?_
      refine lv_iadd hx hb dX7_apartBy_36 ?_
      exact z_iret hx hb hr hlocks dX7_apartBy_37 hM (Nat.le_of_ble_eq_true rfl) (Nat.le_of_ble_eq_true rfl) (by rw [zAb, if_pos c_1, if_neg c_2])
  · skip
    refine lv_iload_n hx hb dX7_apartBy_20 rfl (lv_at hl 1 rfl) ?_
    refine lv_ineg hx hb dX7_apartBy_21 ?_
    refine lv_goto (tgt := 26) hx hb dX7_apartBy_22 (by decide) ?_
    refine lv_iload_n hx hb dX7_apartBy_26 rfl (lv_at hl 0 rfl) ?_
    refine lv_if_ge (tgt := 35) hx hb dX7_apartBy_27 (by decide) (fun c_3 => ?_) (fun c_3 => ?_)
    · skip
      refine lv_iload_n hx hb dX7_apartBy_35 rfl (lv_at hl 0 rfl) ?_
      refine lv_iadd hx hb dX7_apartBy_36 ?_
      exact z_iret hx hb hr hlocks dX7_apartBy_37 hM (Nat.le_of_ble_eq_true rfl) (Nat.le_of_ble_eq_true rfl) (by rw [zAb, if_neg c_1, if_pos c_3])
    · skip
      refine lv_iload_n hx hb dX7_apartBy_30 rfl (lv_at hl 0 rfl) ?_
      refine lv_ineg hx hb dX7_apartBy_31 ?_
      refine lv_goto (tgt := 36) hx hb dX7_apartBy_32 (by decide) ?_
      refine lv_iadd hx hb dX7_apartBy_36 ?_
      exact z_iret hx hb hr hlocks dX7_apartBy_37 hM (Nat.le_of_ble_eq_true rfl) (Nat.le_of_ble_eq_true rfl) (by rw [zAb, if_neg c_1, if_neg c_3])

set_option maxHeartbeats 4000000 in
set_option maxRecDepth 100000 in
theorem c_r_takenByAll (l : Launch) (G : zC) (r : Nat) (h : Nat → Int32) (b : Nat → Nat → Int32) (P : Nat) (h0 : h 0 = nI P) (hP4 : P ≤ 4) : zMet l G yX7_takenByAll wsX7_takenByAll rmX7_takenByAll [.ref r] (rfW G r h b) (some (.int (zTk b P 0 0))) (rfW G r h b) := by
  refine zMet_of (cc := cX7_takenByAll) (maxL := 3) (ret := (some .int)) (by decide) rfl (Nat.le_of_ble_eq_true rfl) ?_
  intro p e s m below meth c A ls hx hb hr hml hown hts hK hA hE hlocks hin hM hl
  have hown : s.vm.findClass RX7 = some m.cls := hown
  have hM : zM G A s s.heap [] ([(r, .inl (G.2 1, 121, .inl (flt h b)))]) := hM
  have hl : lv_has ls 3 [(0, .ref r)] := hl
  refine lv_iconst (v := 0) hx hb dX7_takenByAll_0 (by decide) ?_
  refine lv_istore_n (lv' := [(1, .int 0), (0, .ref r)]) hx hb dX7_takenByAll_1 rfl hl (by decide) rfl (fun ls hl => ?_)
  refine lv_iconst (v := nI 0) hx hb dX7_takenByAll_2 (by decide) ?_
  refine lv_istore_n (lv' := [(2, .int (nI 0)), (1, .int 0), (0, .ref r)]) hx hb dX7_takenByAll_3 rfl hl (by decide) rfl (fun ls hl => ?_)
  have lp4 : ∀ (k : Nat) (i : Nat) (x : Int32), (i + k = P) → (zTk b P 0 0 = zTk b k i x) → ∀ (H : Heap) (locs : List Loc), zM G A s H locs ([(r, .inl (G.2 1, 121, .inl (flt h b)))]) → ∀ ls : Array Slot, lv_has ls 3 [(0, .ref r), (1, .int x), (2, .int (nI i))] → W p l e rmX7_takenByAll s m ([.ref r] : List Value).toArray below meth c H locs 0 0 (zEnd G below ([.ref r] : List Value).toArray s rmX7_takenByAll A (some (.int (zTk b P 0 0))) (rfW G r h b)) (F0 m 4 ls []) := by
    intro k
    induction k with
    | zero =>
      intro i x hik hR H locs hM ls hl
      refine lv_iload_n hx hb dX7_takenByAll_4 rfl (lv_at hl 2 rfl) ?_
      refine lv_aload_n hx hb dX7_takenByAll_5 rfl (lv_at hl 0 rfl) ?_
      refine lv_iconst (v := 0) hx hb dX7_takenByAll_6 (by decide) ?_
      refine z_iald hx hb hK hM 0 rfl (v := h 0) (vp_in_nI (n := 0) (by decide) (by decide)) (flt_h (k := 0) (by decide)) dX7_takenByAll_7 ?_
      refine z_topi (y := nI P) h0 ?_
      refine lv_icmp_ge (tgt := 29) hx hb dX7_takenByAll_8 (by decide) (fun c_1 => ?_) (fun c_1 => absurd (nI_le (by omega) (by omega)) c_1)
      refine lv_iload_n hx hb dX7_takenByAll_29 rfl (lv_at hl 1 rfl) ?_
      exact z_iret hx hb hr hlocks dX7_takenByAll_30 hM (Nat.le_of_ble_eq_true rfl) (Nat.le_of_ble_eq_true rfl) (by rw [hR]; rfl)
    | succ k ih =>
      intro i x hik hR H locs hM ls hl
      refine lv_iload_n hx hb dX7_takenByAll_4 rfl (lv_at hl 2 rfl) ?_
      refine lv_aload_n hx hb dX7_takenByAll_5 rfl (lv_at hl 0 rfl) ?_
      refine lv_iconst (v := 0) hx hb dX7_takenByAll_6 (by decide) ?_
      refine z_iald hx hb hK hM 0 rfl (v := h 0) (vp_in_nI (n := 0) (by decide) (by decide)) (flt_h (k := 0) (by decide)) dX7_takenByAll_7 ?_
      refine z_topi (y := nI P) h0 ?_
      refine lv_icmp_ge (tgt := 29) hx hb dX7_takenByAll_8 (by decide) (fun c_2 => absurd c_2 (nI_ge (by omega) (by omega))) (fun c_2 => ?_)
      refine lv_iload_n hx hb dX7_takenByAll_11 rfl (lv_at hl 1 rfl) ?_
      refine lv_aload_n hx hb dX7_takenByAll_12 rfl (lv_at hl 0 rfl) ?_
      refine lv_iload_n hx hb dX7_takenByAll_13 rfl (lv_at hl 2 rfl) ?_
      refine z_callS (As := [.int (nI i)]) (rest := [.ref r, .int x]) (wc := []) (wr := [(r, .inl (G.2 1, 121, .inl (flt h b)))]) (w1 := []) (ws' := [(r, .inl (G.2 1, 121, .inl (flt h b)))]) ⟨hx, hb, hml, hown, hts⟩ (c_at l G i (by omega)) (va_cwS 1 hts gX7_takenByAll_X7_at rfl rfl rfl (by decide +kernel) ⟨Nat.le_of_ble_eq_true rfl, Nat.le_of_ble_eq_true rfl⟩) rfl hl.1 rfl (Nat.le_of_ble_eq_true rfl) dX7_takenByAll_14 ⟨Nat.le_of_ble_eq_true rfl, Nat.le_of_ble_eq_true rfl⟩ hK hE hA hM (List.Perm.refl _) (List.Perm.refl _) (fun H locs hM hz => ?_)
      refine lv_bipush (v := 23) hx hb dX7_takenByAll_17 (by decide) ?_
      refine lv_iadd hx hb dX7_takenByAll_19 ?_
      refine z_topi (y := nI ((9 + (28 * i)) + 23)) (nI_add (9 + (28 * i)) 23) ?_
      refine z_iald hx hb hK hM 0 rfl (v := b i 23) (vp_in_nI (by omega) (by decide)) (by rw [nI_clamp (by omega)]; exact flt_b i 23 (by omega) (by omega)) dX7_takenByAll_20 ?_
      refine lv_iadd hx hb dX7_takenByAll_21 ?_
      refine lv_istore_n (lv' := [(1, .int (x + (b i 23))), (0, .ref r), (2, .int (nI i))]) hx hb dX7_takenByAll_22 rfl hl (by decide) rfl (fun ls hl => ?_)
      refine lv_iinc (v := nI (i + 1)) (lv' := [(2, .int (nI (i + 1))), (1, .int (x + (b i 23))), (0, .ref r)]) hx hb dX7_takenByAll_23 hl (k := 2) rfl (nI_1 i) (by decide) rfl (fun ls hl => ?_)
      refine lv_goto (tgt := 4) hx hb dX7_takenByAll_26 (by decide) ?_
      exact ih (i + 1) _ (by omega) (by rw [hR, zTk]) _ _ hM _ (lv_sub hl [2, 1, 0] rfl)
  exact lp4 P 0 0 (by omega) rfl _ _ hM _ (lv_sub hl [2, 1, 0] rfl)

set_option maxHeartbeats 4000000 in
set_option maxRecDepth 100000 in
theorem c_r_isSetting (l : Launch) (G : zC) (n v : Int32) : zMet l G yX7_isSetting wsX7_isSetting rmX7_isSetting [.int n, .int v] ([]) (some (.int (zb (zSet n v)))) ([]) := by
  refine zMet_of (cc := cX7_isSetting) (maxL := 2) (ret := (some .boolean)) (by decide) rfl (Nat.le_of_ble_eq_true rfl) ?_
  intro p e s m below meth c A ls hx hb hr hml hown hts hK hA hE hlocks hin hM hl
  have hown : s.vm.findClass RX7 = some m.cls := hown
  have hM : zM G A s s.heap [] ([]) := hM
  have hl : lv_has ls 2 [(0, .int n), (1, .int v)] := hl
  refine lv_iload_n hx hb dX7_isSetting_0 rfl (lv_at hl 0 rfl) ?_
  refine lv_i2l (v := n.toInt64) hx hb dX7_isSetting_1 rfl ?_
  refine lv_lconst (v := 0) hx hb dX7_isSetting_2 (by decide) ?_
  refine lv_ldc2 (v := 2) hx hb hown (hts (.constantLong RX7 152 2) (by decide +kernel)) dX7_isSetting_3 ?_
  refine z_callS (As := [.long n.toInt64, .long 0, .long 2]) (rest := []) (wc := []) (wr := []) (w1 := []) (ws' := []) ⟨hx, hb, hml, hown, hts⟩ (c_in l G n.toInt64 0 2) (va_cwS 3 hts gX7_isSetting_X7_in rfl rfl rfl (by decide +kernel) ⟨Nat.le_of_ble_eq_true rfl, Nat.le_of_ble_eq_true rfl⟩) rfl hl.1 rfl (Nat.le_of_ble_eq_true rfl) dX7_isSetting_6 ⟨Nat.le_of_ble_eq_true rfl, Nat.le_of_ble_eq_true rfl⟩ hK hE hA hM (List.Perm.refl _) (List.Perm.refl _) (fun H locs hM hz => ?_)
  refine z_ifeq (tgt := 49) hx hb dX7_isSetting_9 (by decide) (fun c_1 => ?_) (fun c_1 => ?_)
  · skip
    refine lv_iconst (v := 0) hx hb dX7_isSetting_49 (by decide) ?_
    exact z_zret hx hb hr hlocks dX7_isSetting_50 hM (Nat.le_of_ble_eq_true rfl) (Nat.le_of_ble_eq_true rfl) (by first | exact Or.inl rfl | exact Or.inr rfl | exact zb_01 _) (by rw [zSet, c_1]; rfl)
  · skip
    refine lv_iload_n hx hb dX7_isSetting_12 rfl (lv_at hl 1 rfl) ?_
    refine lv_i2l (v := v.toInt64) hx hb dX7_isSetting_13 rfl ?_
    refine lv_lconst (v := 1) hx hb dX7_isSetting_14 (by decide) ?_
    refine lv_iload_n hx hb dX7_isSetting_15 rfl (lv_at hl 0 rfl) ?_
    refine lv_if_ne (tgt := 25) hx hb dX7_isSetting_16 (by decide) (fun c_n => ?_) (fun c_n => ?_)
    · skip
      refine lv_iload_n hx hb dX7_isSetting_25 rfl (lv_at hl 0 rfl) ?_
      refine lv_iconst (v := 1) hx hb dX7_isSetting_26 (by decide) ?_
      refine lv_icmp_ne (tgt := 36) hx hb dX7_isSetting_27 (by decide) (fun c_m => ?_) (fun c_m => ?_)
      · skip
        refine lv_ldc2 (v := 200) hx hb hown (hts (.constantLong RX7 156 200) (by decide +kernel)) dX7_isSetting_36 ?_
        refine z_callS (As := [.long v.toInt64, .long 1, .long 200]) (rest := []) (wc := []) (wr := []) (w1 := []) (ws' := []) ⟨hx, hb, hml, hown, hts⟩ (c_in l G v.toInt64 1 200) (va_cwS 3 hts gX7_isSetting_X7_in rfl rfl rfl (by decide +kernel) ⟨Nat.le_of_ble_eq_true rfl, Nat.le_of_ble_eq_true rfl⟩) rfl hl.1 rfl (Nat.le_of_ble_eq_true rfl) dX7_isSetting_39 ⟨Nat.le_of_ble_eq_true rfl, Nat.le_of_ble_eq_true rfl⟩ hK hE hA hM (List.Perm.refl _) (List.Perm.refl _) (fun H locs hM hz => ?_)
        refine z_ifeq (tgt := 49) hx hb dX7_isSetting_42 (by decide) (fun c_2 => ?_) (fun c_2 => ?_)
        · skip
          refine lv_iconst (v := 0) hx hb dX7_isSetting_49 (by decide) ?_
          exact z_zret hx hb hr hlocks dX7_isSetting_50 hM (Nat.le_of_ble_eq_true rfl) (Nat.le_of_ble_eq_true rfl) (by first | exact Or.inl rfl | exact Or.inr rfl | exact zb_01 _) (by rw [zSet, c_1, if_neg c_n, if_neg c_m, c_2]; rfl)
        · skip
          refine lv_iconst (v := 1) hx hb dX7_isSetting_45 (by decide) ?_
          refine lv_goto (tgt := 50) hx hb dX7_isSetting_46 (by decide) ?_
          exact z_zret hx hb hr hlocks dX7_isSetting_50 hM (Nat.le_of_ble_eq_true rfl) (Nat.le_of_ble_eq_true rfl) (by first | exact Or.inl rfl | exact Or.inr rfl | exact zb_01 _) (by rw [zSet, c_1, if_neg c_n, if_neg c_m, c_2]; rfl)
      · skip
        refine lv_ldc2 (v := 5) hx hb hown (hts (.constantLong RX7 46 5) (by decide +kernel)) dX7_isSetting_30 ?_
        refine lv_goto (tgt := 39) hx hb dX7_isSetting_33 (by decide) ?_
        refine z_callS (As := [.long v.toInt64, .long 1, .long 5]) (rest := []) (wc := []) (wr := []) (w1 := []) (ws' := []) ⟨hx, hb, hml, hown, hts⟩ (c_in l G v.toInt64 1 5) (va_cwS 3 hts gX7_isSetting_X7_in rfl rfl rfl (by decide +kernel) ⟨Nat.le_of_ble_eq_true rfl, Nat.le_of_ble_eq_true rfl⟩) rfl hl.1 rfl (Nat.le_of_ble_eq_true rfl) dX7_isSetting_39 ⟨Nat.le_of_ble_eq_true rfl, Nat.le_of_ble_eq_true rfl⟩ hK hE hA hM (List.Perm.refl _) (List.Perm.refl _) (fun H locs hM hz => ?_)
        refine z_ifeq (tgt := 49) hx hb dX7_isSetting_42 (by decide) (fun c_2 => ?_) (fun c_2 => ?_)
        · skip
          refine lv_iconst (v := 0) hx hb dX7_isSetting_49 (by decide) ?_
          exact z_zret hx hb hr hlocks dX7_isSetting_50 hM (Nat.le_of_ble_eq_true rfl) (Nat.le_of_ble_eq_true rfl) (by first | exact Or.inl rfl | exact Or.inr rfl | exact zb_01 _) (by rw [zSet, c_1, if_neg c_n, if_pos c_m, c_2]; rfl)
        · skip
          refine lv_iconst (v := 1) hx hb dX7_isSetting_45 (by decide) ?_
          refine lv_goto (tgt := 50) hx hb dX7_isSetting_46 (by decide) ?_
          exact z_zret hx hb hr hlocks dX7_isSetting_50 hM (Nat.le_of_ble_eq_true rfl) (Nat.le_of_ble_eq_true rfl) (by first | exact Or.inl rfl | exact Or.inr rfl | exact zb_01 _) (by rw [zSet, c_1, if_neg c_n, if_pos c_m, c_2]; rfl)
    · skip
      refine lv_ldc2 (v := 9) hx hb hown (hts (.constantLong RX7 154 9) (by decide +kernel)) dX7_isSetting_19 ?_
      refine lv_goto (tgt := 39) hx hb dX7_isSetting_22 (by decide) ?_
      refine z_callS (As := [.long v.toInt64, .long 1, .long 9]) (rest := []) (wc := []) (wr := []) (w1 := []) (ws' := []) ⟨hx, hb, hml, hown, hts⟩ (c_in l G v.toInt64 1 9) (va_cwS 3 hts gX7_isSetting_X7_in rfl rfl rfl (by decide +kernel) ⟨Nat.le_of_ble_eq_true rfl, Nat.le_of_ble_eq_true rfl⟩) rfl hl.1 rfl (Nat.le_of_ble_eq_true rfl) dX7_isSetting_39 ⟨Nat.le_of_ble_eq_true rfl, Nat.le_of_ble_eq_true rfl⟩ hK hE hA hM (List.Perm.refl _) (List.Perm.refl _) (fun H locs hM hz => ?_)
      refine z_ifeq (tgt := 49) hx hb dX7_isSetting_42 (by decide) (fun c_2 => ?_) (fun c_2 => ?_)
      · skip
        refine lv_iconst (v := 0) hx hb dX7_isSetting_49 (by decide) ?_
        exact z_zret hx hb hr hlocks dX7_isSetting_50 hM (Nat.le_of_ble_eq_true rfl) (Nat.le_of_ble_eq_true rfl) (by first | exact Or.inl rfl | exact Or.inr rfl | exact zb_01 _) (by rw [zSet, c_1, if_pos c_n, c_2]; rfl)
      · skip
        refine lv_iconst (v := 1) hx hb dX7_isSetting_45 (by decide) ?_
        refine lv_goto (tgt := 50) hx hb dX7_isSetting_46 (by decide) ?_
        exact z_zret hx hb hr hlocks dX7_isSetting_50 hM (Nat.le_of_ble_eq_true rfl) (Nat.le_of_ble_eq_true rfl) (by first | exact Or.inl rfl | exact Or.inr rfl | exact zb_01 _) (by rw [zSet, c_1, if_pos c_n, c_2]; rfl)

set_option maxHeartbeats 4000000 in
set_option maxRecDepth 100000 in
theorem c_copyState (l : Launch) (G : zC) (q z N M u v : Nat) (f g : Nat → Int32) (hu : u + 121 ≤ N) (hv : v + 121 ≤ M) (hN : N < 10000) (hM9 : M < 10000) : zMet l G yX7_copyState wsX7_copyState rmX7_copyState [.ref q, .int (nI u), .ref z, .int (nI v)] ([(q, .inl (G.2 1, N, .inl f)), (z, .inl (G.2 1, M, .inl g))]) none ([(q, .inl (G.2 1, N, .inl f)), (z, .inl (G.2 1, M, .inl (cpv f g u v 121)))]) := by
  refine zMet_of (cc := cX7_copyState) (maxL := 5) (ret := none) (by decide) rfl (Nat.le_of_ble_eq_true rfl) ?_
  intro p e s m below meth c A ls hx hb hr hml hown hts hK hA hE hlocks hin hM hl
  have hown : s.vm.findClass RX7 = some m.cls := hown
  have hM : zM G A s s.heap [] ([(q, .inl (G.2 1, N, .inl f)), (z, .inl (G.2 1, M, .inl g))]) := hM
  have hl : lv_has ls 5 [(0, .ref q), (1, .int (nI u)), (2, .ref z), (3, .int (nI v))] := hl
  refine lv_iconst (v := nI 0) hx hb dX7_copyState_0 (by decide) ?_
  refine lv_istore (lv' := [(4, .int (nI 0)), (0, .ref q), (1, .int (nI u)), (2, .ref z), (3, .int (nI v))]) hx hb dX7_copyState_1 hl (by decide) rfl (fun ls hl => ?_)
  have lp3 : ∀ (k : Nat) (w0 : Nat), (w0 + k = 121) → ∀ (H : Heap) (locs : List Loc), zM G A s H locs ([(q, .inl (G.2 1, N, .inl f)), (z, .inl (G.2 1, M, .inl (cpv f g u v w0)))]) → ∀ ls : Array Slot, lv_has ls 5 [(0, .ref q), (1, .int (nI u)), (2, .ref z), (3, .int (nI v)), (4, .int (nI w0))] → W p l e rmX7_copyState s m ([.ref q, .int (nI u), .ref z, .int (nI v)] : List Value).toArray below meth c H locs 0 0 (zEnd G below ([.ref q, .int (nI u), .ref z, .int (nI v)] : List Value).toArray s rmX7_copyState A none ([(q, .inl (G.2 1, N, .inl f)), (z, .inl (G.2 1, M, .inl (cpv f g u v 121)))])) (F0 m 3 ls []) := by
    intro k
    induction k with
    | zero =>
      intro w0 hik H locs hM ls hl
      obtain rfl : w0 = 121 := by omega
      refine lv_iload hx hb dX7_copyState_3 (lv_at hl 4 rfl) ?_
      refine lv_bipush (v := 121) hx hb dX7_copyState_5 (by decide) ?_
      refine z_topi (y := nI 121) rfl ?_
      refine lv_icmp_ge (tgt := 28) hx hb dX7_copyState_7 (by decide) (fun c_1 => ?_) (fun c_1 => absurd (nI_le (by omega) (by omega)) c_1)
      exact z_vret hx hb hr hlocks dX7_copyState_28 hM (Nat.le_of_ble_eq_true rfl) (Nat.le_of_ble_eq_true rfl)
    | succ k ih =>
      intro w0 hik H locs hM ls hl
      refine lv_iload hx hb dX7_copyState_3 (lv_at hl 4 rfl) ?_
      refine lv_bipush (v := 121) hx hb dX7_copyState_5 (by decide) ?_
      refine z_topi (y := nI 121) rfl ?_
      refine lv_icmp_ge (tgt := 28) hx hb dX7_copyState_7 (by decide) (fun c_2 => absurd c_2 (nI_ge (by omega) (by omega))) (fun c_2 => ?_)
      refine lv_aload_n hx hb dX7_copyState_10 rfl (lv_at hl 2 rfl) ?_
      refine lv_iload_n hx hb dX7_copyState_11 rfl (lv_at hl 3 rfl) ?_
      refine lv_iload hx hb dX7_copyState_12 (lv_at hl 4 rfl) ?_
      refine lv_iadd hx hb dX7_copyState_14 ?_
      refine z_topi (y := nI (v + w0)) (nI_add v w0) ?_
      refine lv_aload_n hx hb dX7_copyState_15 rfl (lv_at hl 0 rfl) ?_
      refine lv_iload_n hx hb dX7_copyState_16 rfl (lv_at hl 1 rfl) ?_
      refine lv_iload hx hb dX7_copyState_17 (lv_at hl 4 rfl) ?_
      refine lv_iadd hx hb dX7_copyState_19 ?_
      refine z_topi (y := nI (u + w0)) (nI_add u w0) ?_
      refine z_iald hx hb hK hM 0 rfl (v := f (u + w0)) (vp_in_nI (by omega) (by omega)) (by rw [nI_clamp (by omega)]) dX7_copyState_20 ?_
      refine z_iast (ws' := [(q, .inl (G.2 1, N, .inl f)), (z, .inl (G.2 1, M, .inl (upd (cpv f g u v w0) (v + w0) (f (u + w0)))))]) hx hb hK hM 1 rfl (vp_in_nI (by omega) (by omega)) dX7_copyState_21 (by rw [nI_clamp (by omega)]; rfl) (fun H locs hM => ?_)
      have hM : zM G A s H locs ([(q, .inl (G.2 1, N, .inl f)), (z, .inl (G.2 1, M, .inl (cpv f g u v (w0 + 1))))]) := by rw [← cpv_s]; exact hM
      refine lv_iinc (v := nI (w0 + 1)) (lv' := [(4, .int (nI (w0 + 1))), (0, .ref q), (1, .int (nI u)), (2, .ref z), (3, .int (nI v))]) hx hb dX7_copyState_22 hl (k := 4) rfl (nI_1 w0) (by decide) rfl (fun ls hl => ?_)
      refine lv_goto (tgt := 3) hx hb dX7_copyState_25 (by decide) ?_
      exact ih (w0 + 1) (by omega) _ _ hM _ (lv_sub hl [1, 2, 3, 4, 0] rfl)
  exact lp3 121 0 rfl _ _ (by rw [cpv_0]; exact hM) _ (lv_sub hl [1, 2, 3, 4, 0] rfl)

set_option maxHeartbeats 4000000 in
set_option maxRecDepth 100000 in
theorem c_clear (l : Launch) (G : zC) (r : Nat) (f : Nat → Int32) : zMet l G yX7_clear wsX7_clear rmX7_clear [.ref r] ([(r, .inl (G.2 1, 121, .inl f))]) none (rfW G r zClH (fun _ _ => 0)) := by
  refine zMet_of (cc := cX7_clear) (maxL := 2) (ret := none) (by decide) rfl (Nat.le_of_ble_eq_true rfl) ?_
  intro p e s m below meth c A ls hx hb hr hml hown hts hK hA hE hlocks hin hM hl
  have hown : s.vm.findClass RX7 = some m.cls := hown
  have hM : zM G A s s.heap [] ([(r, .inl (G.2 1, 121, .inl f))]) := hM
  have hl : lv_has ls 2 [(0, .ref r)] := hl
  refine lv_iconst (v := nI 0) hx hb dX7_clear_0 (by decide) ?_
  refine lv_istore_n (lv' := [(1, .int (nI 0)), (0, .ref r)]) hx hb dX7_clear_1 rfl hl (by decide) rfl (fun ls hl => ?_)
  have lp2 : ∀ (k : Nat) (w0 : Nat), (w0 + k = 121) → ∀ (H : Heap) (locs : List Loc), zM G A s H locs ([(r, .inl (G.2 1, 121, .inl (clr f w0)))]) → ∀ ls : Array Slot, lv_has ls 2 [(0, .ref r), (1, .int (nI w0))] → W p l e rmX7_clear s m ([.ref r] : List Value).toArray below meth c H locs 0 0 (zEnd G below ([.ref r] : List Value).toArray s rmX7_clear A none (rfW G r zClH (fun _ _ => 0))) (F0 m 2 ls []) := by
    intro k
    induction k with
    | zero =>
      intro w0 hik H locs hM ls hl
      obtain rfl : w0 = 121 := by omega
      refine lv_iload_n hx hb dX7_clear_2 rfl (lv_at hl 1 rfl) ?_
      refine lv_bipush (v := 121) hx hb dX7_clear_3 (by decide) ?_
      refine z_topi (y := nI 121) rfl ?_
      refine lv_icmp_ge (tgt := 18) hx hb dX7_clear_5 (by decide) (fun c_1 => ?_) (fun c_1 => absurd (nI_le (by omega) (by omega)) c_1)
      refine lv_aload_n hx hb dX7_clear_18 rfl (lv_at hl 0 rfl) ?_
      refine lv_iconst (v := 5) hx hb dX7_clear_19 (by decide) ?_
      refine lv_iconst (v := (-1)) hx hb dX7_clear_20 (by decide) ?_
      refine z_iast (ws' := [(r, .inl (G.2 1, 121, .inl (upd (clr f 121) 5 (-1))))]) hx hb hK hM 0 rfl (vp_in_nI (n := 5) (by decide) (by decide)) dX7_clear_21 rfl (fun H locs hM => ?_)
      refine lv_aload_n hx hb dX7_clear_22 rfl (lv_at hl 0 rfl) ?_
      refine lv_bipush (v := 6) hx hb dX7_clear_23 (by decide) ?_
      refine lv_iconst (v := 4) hx hb dX7_clear_25 (by decide) ?_
      refine z_iast (ws' := [(r, .inl (G.2 1, 121, .inl (upd (upd (clr f 121) 5 (-1)) 6 4)))]) hx hb hK hM 0 rfl (vp_in_nI (n := 6) (by decide) (by decide)) dX7_clear_26 rfl (fun H locs hM => ?_)
      refine lv_aload_n hx hb dX7_clear_27 rfl (lv_at hl 0 rfl) ?_
      refine lv_bipush (v := 7) hx hb dX7_clear_28 (by decide) ?_
      refine lv_iconst (v := 3) hx hb dX7_clear_30 (by decide) ?_
      refine z_iast (ws' := [(r, .inl (G.2 1, 121, .inl (upd (upd (upd (clr f 121) 5 (-1)) 6 4) 7 3)))]) hx hb hK hM 0 rfl (vp_in_nI (n := 7) (by decide) (by decide)) dX7_clear_31 rfl (fun H locs hM => ?_)
      refine lv_aload_n hx hb dX7_clear_32 rfl (lv_at hl 0 rfl) ?_
      refine lv_bipush (v := 8) hx hb dX7_clear_33 (by decide) ?_
      refine lv_bipush (v := 60) hx hb dX7_clear_35 (by decide) ?_
      refine z_iast (ws' := [(r, .inl (G.2 1, 121, .inl (upd (upd (upd (upd (clr f 121) 5 (-1)) 6 4) 7 3) 8 60)))]) hx hb hK hM 0 rfl (vp_in_nI (n := 8) (by decide) (by decide)) dX7_clear_37 rfl (fun H locs hM => ?_)
      have hsim : zSim ([(r, .inl (G.2 1, 121, .inl (upd (upd (upd (upd (clr f 121) 5 (-1)) 6 4) 7 3) 8 60)))]) (rfW G r zClH (fun _ _ => 0)) := ⟨zSame_arr (clr_e f), trivial⟩
      exact z_vret hx hb hr hlocks dX7_clear_38 (zM_sim hsim hM) (Nat.le_of_ble_eq_true rfl) (Nat.le_of_ble_eq_true rfl)
    | succ k ih =>
      intro w0 hik H locs hM ls hl
      refine lv_iload_n hx hb dX7_clear_2 rfl (lv_at hl 1 rfl) ?_
      refine lv_bipush (v := 121) hx hb dX7_clear_3 (by decide) ?_
      refine z_topi (y := nI 121) rfl ?_
      refine lv_icmp_ge (tgt := 18) hx hb dX7_clear_5 (by decide) (fun c_2 => absurd c_2 (nI_ge (by omega) (by omega))) (fun c_2 => ?_)
      refine lv_aload_n hx hb dX7_clear_8 rfl (lv_at hl 0 rfl) ?_
      refine lv_iload_n hx hb dX7_clear_9 rfl (lv_at hl 1 rfl) ?_
      refine lv_iconst (v := 0) hx hb dX7_clear_10 (by decide) ?_
      refine z_iast (ws' := [(r, .inl (G.2 1, 121, .inl (upd (clr f w0) w0 0)))]) hx hb hK hM 0 rfl (vp_in_nI (by omega) (by decide)) dX7_clear_11 (by rw [nI_clamp (by omega)]; rfl) (fun H locs hM => ?_)
      have hM : zM G A s H locs ([(r, .inl (G.2 1, 121, .inl (clr f (w0 + 1))))]) := by rw [← clr_s]; exact hM
      refine lv_iinc (v := nI (w0 + 1)) (lv' := [(1, .int (nI (w0 + 1))), (0, .ref r)]) hx hb dX7_clear_12 hl (k := 1) rfl (nI_1 w0) (by decide) rfl (fun ls hl => ?_)
      refine lv_goto (tgt := 2) hx hb dX7_clear_15 (by decide) ?_
      exact ih (w0 + 1) (by omega) _ _ hM _ (lv_sub hl [1, 0] rfl)
  exact lp2 121 0 rfl _ _ (by rw [clr_0]; exact hM) _ (lv_sub hl [1, 0] rfl)
/-! REFERENCE, fourth part: the shift by rule, as the reference looks for it -/
abbrev moW (a : Nat → Nat) (u : Nat → Int32) (x : Int64) : va_W := [(a 0, .inr (7, [.int (u 0), .ref (a 1), .int (u 2), .ref (a 3), .ref (a 4), .ref (a 5), .ref (a 6), .int (u 7), .ref (a 8), .ref (a 9), .int (u 10), .int (u 11), .int (u 12), .long x, .int (u 14), .int (u 15)]))]
def zFo (h : Nat → Int32) (b : Nat → Nat → Int32) (S k c : Nat) (u : zRU) : zRU :=
  if zMs h b k (nI (c / 2)) (nI (c % 2)) = true then
    (if zLv (zMv (b k) (c / 2) (nI (c % 2))) S < u.2.2.2.1 then (nI k, nI (c / 2), nI (c % 2), zLv (zMv (b k) (c / 2) (nI (c % 2))) S, flt h (va_up b k (zPu (b k) (c / 2) (nI (c % 2)))))
     else (u.1, u.2.1, u.2.2.1, u.2.2.2.1, flt h (va_up b k (zPu (b k) (c / 2) (nI (c % 2))))))
  else u
theorem zFo_n {h : Nat → Int32} {b : Nat → Nat → Int32} {S k c : Nat} {v1 v2 v3 v4 : Int32} {f : Nat → Int32} (hm : zMs h b k (nI (c / 2)) (nI (c % 2)) = false) : zFo h b S k c (v1, v2, v3, v4, f) = (v1, v2, v3, v4, f) := by
  rw [zFo, hm]
  rfl
theorem zFo_y {h : Nat → Int32} {b : Nat → Nat → Int32} {S k c : Nat} {v1 v2 v3 v4 : Int32} {f : Nat → Int32} (hm : zMs h b k (nI (c / 2)) (nI (c % 2)) = true) (hv : ¬ v4 ≤ zLv (zMv (b k) (c / 2) (nI (c % 2))) S) : zFo h b S k c (v1, v2, v3, v4, f) = (nI k, nI (c / 2), nI (c % 2), zLv (zMv (b k) (c / 2) (nI (c % 2))) S, flt h (va_up b k (zPu (b k) (c / 2) (nI (c % 2))))) := by
  rw [zFo, if_pos hm, if_pos (Int32.not_le.mp hv)]
theorem zFo_k {h : Nat → Int32} {b : Nat → Nat → Int32} {S k c : Nat} {v1 v2 v3 v4 : Int32} {f : Nat → Int32} (hm : zMs h b k (nI (c / 2)) (nI (c % 2)) = true) (hv : v4 ≤ zLv (zMv (b k) (c / 2) (nI (c % 2))) S) : zFo h b S k c (v1, v2, v3, v4, f) = (v1, v2, v3, v4, flt h (va_up b k (zPu (b k) (c / 2) (nI (c % 2))))) := by
  rw [zFo, if_pos hm, if_neg (Int32.not_lt.mpr hv)]
def zF2 (h : Nat → Int32) (b : Nat → Nat → Int32) (S k : Nat) (u : zRU) : zRU := zIt (zFo h b S k) 12 0 u
theorem zF2_e (h : Nat → Int32) (b : Nat → Nat → Int32) (S k : Nat) (u : zRU) : zF2 h b S k u = zIt (zFo h b S k) 12 0 u := rfl
def zFs (h : Nat → Int32) (b : Nat → Nat → Int32) (S P : Nat) (v2 v3 : Int32) (f : Nat → Int32) : zRU := zIt (zF2 h b S) P 0 (-1, v2, v3, 1000, f)
theorem zFs_e (h : Nat → Int32) (b : Nat → Nat → Int32) (S P : Nat) (v2 v3 : Int32) (f : Nat → Int32) : zFs h b S P v2 v3 f = zIt (zF2 h b S) P 0 (-1, v2, v3, 1000, f) := rfl
theorem zLi_c {c : Nat} (h : c < 12) : zLi (nI (c / 2)) = true := zLi_nI (by omega)
theorem nI_c2 (c : Nat) : nI (c % 2) = 0 ∨ nI (c % 2) = 1 := by
  have h : c % 2 = 0 ∨ c % 2 = 1 := by omega
  rcases h with e | e <;> rw [e]
  · exact Or.inl rfl
  · exact Or.inr rfl
theorem zDi_c (c : Nat) : zDi (nI (c % 2)) = true := by
  rcases nI_c2 c with e | e <;> rw [e] <;> rfl
set_option maxHeartbeats 4000000 in
set_option maxRecDepth 100000 in
theorem c_leaves (l : Launch) (G : zC) (a : Nat → Nat) (u : Nat → Int32) (x : Int64) (f : Nat → Int32) (r : Nat) (h : Nat → Int32) (b : Nat → Nat → Int32) (P t S : Nat) (hg : zWf h b P t S) (o n : Nat) (d : Int32) (ho : o < P) (hn : n < 6) (hd : d = 0 ∨ d = 1) : zMet l G yX7_leaves wsX7_leaves rmX7_leaves [.ref (a 0), .ref r, .int (nI o), .int (nI n), .int d] ([((a 0), .inr (7, [.int (u 0), .ref (a 1), .int (u 2), .ref (a 3), .ref (a 4), .ref (a 5), .ref (a 6), .int (u 7), .ref (a 8), .ref (a 9), .int (u 10), .int (u 11), .int (u 12), .long x, .int (u 14), .int (u 15)])), (r, .inl (G.2 1, 121, .inl (flt h b))), ((a 5), .inl (G.2 1, 121, .inl f))]) (some (.int (zLv (zMv (b o) n d) S))) ([((a 0), .inr (7, [.int (u 0), .ref (a 1), .int (u 2), .ref (a 3), .ref (a 4), .ref (a 5), .ref (a 6), .int (u 7), .ref (a 8), .ref (a 9), .int (u 10), .int (u 11), .int (u 12), .long x, .int (u 14), .int (u 15)])), (r, .inl (G.2 1, 121, .inl (flt h b))), ((a 5), .inl (G.2 1, 121, .inl (flt h (va_up b o (zPu (b o) n d)))))]) := by
  refine zMet_of (cc := cX7_leaves) (maxL := 5) (ret := (some .int)) (by decide) rfl (Nat.le_of_ble_eq_true rfl) ?_
  intro p e s m below meth c A ls hx hb hr hml hown hts hK hA hE hlocks hin hM hl
  have hown : s.vm.findClass RX7 = some m.cls := hown
  have hM : zM G A s s.heap [] ([((a 0), .inr (7, [.int (u 0), .ref (a 1), .int (u 2), .ref (a 3), .ref (a 4), .ref (a 5), .ref (a 6), .int (u 7), .ref (a 8), .ref (a 9), .int (u 10), .int (u 11), .int (u 12), .long x, .int (u 14), .int (u 15)])), (r, .inl (G.2 1, 121, .inl (flt h b))), ((a 5), .inl (G.2 1, 121, .inl f))]) := hM
  have hl : lv_has ls 5 [(0, .ref (a 0)), (1, .ref r), (2, .int (nI o)), (3, .int (nI n)), (4, .int d)] := hl
  obtain ⟨⟨h0, hP4, h1, ht4, h6, hS, h22, h44⟩, hpt, hwb⟩ := id hg
  have hwo : zBw (b o) := hwb o ho
  have hwB : zBw (va_up b o (zPu (b o) n d) o) := by rw [va_ups]; exact zBw_pu hwo hn hd
  refine lv_aload_n hx hb dX7_leaves_0 rfl (lv_at hl 1 rfl) ?_
  refine lv_iconst (v := nI 0) hx hb dX7_leaves_1 (by decide) ?_
  refine lv_aload_n hx hb dX7_leaves_2 rfl (lv_at hl 0 rfl) ?_
  refine z_get (ci := 7) (v := .ref (a 5)) (C := RX7) (T := TX7) (N := 16) hx hb hts (by decide +kernel) hown hK hM 0 rfl rfl 5 (by decide) (hts (.fieldLink RX7 19 "ShiftIslesModel" "apart" "[I") (by decide +kernel)) (fun _ h9 => h9) rfl dX7_leaves_3 ?_
  refine lv_iconst (v := nI 0) hx hb dX7_leaves_6 (by decide) ?_
  refine z_callS (As := [.ref r, .int (nI 0), .ref (a 5), .int (nI 0)]) (rest := []) (wc := [(r, .inl (G.2 1, 121, .inl (flt h b))), ((a 5), .inl (G.2 1, 121, .inl f))]) (wr := [((a 0), .inr (7, [.int (u 0), .ref (a 1), .int (u 2), .ref (a 3), .ref (a 4), .ref (a 5), .ref (a 6), .int (u 7), .ref (a 8), .ref (a 9), .int (u 10), .int (u 11), .int (u 12), .long x, .int (u 14), .int (u 15)]))]) (w1 := [(r, .inl (G.2 1, 121, .inl (flt h b))), ((a 5), .inl (G.2 1, 121, .inl (cpv (flt h b) f 0 0 121)))]) (ws' := [((a 0), .inr (7, [.int (u 0), .ref (a 1), .int (u 2), .ref (a 3), .ref (a 4), .ref (a 5), .ref (a 6), .int (u 7), .ref (a 8), .ref (a 9), .int (u 10), .int (u 11), .int (u 12), .long x, .int (u 14), .int (u 15)])), (r, .inl (G.2 1, 121, .inl (flt h b))), ((a 5), .inl (G.2 1, 121, .inl (cpv (flt h b) f 0 0 121)))]) ⟨hx, hb, hml, hown, hts⟩ (c_copyState l G r (a 5) 121 121 0 0 (flt h b) f (by omega) (by omega) (by decide) (by decide)) (va_cwS 4 hts gX7_leaves_X7_copyState rfl rfl rfl (by decide +kernel) ⟨Nat.le_of_ble_eq_true rfl, Nat.le_of_ble_eq_true rfl⟩) rfl hl.1 rfl (Nat.le_of_ble_eq_true rfl) dX7_leaves_7 ⟨Nat.le_of_ble_eq_true rfl, Nat.le_of_ble_eq_true rfl⟩ hK hE hA hM (pm_at 3 [1, 2] [0] rfl rfl rfl (by decide)) ((pm_at 3 [1, 2] [0] rfl rfl rfl (by decide))).symm (fun H locs hM hz => ?_)
  have hsim : zSim ([((a 0), .inr (7, [.int (u 0), .ref (a 1), .int (u 2), .ref (a 3), .ref (a 4), .ref (a 5), .ref (a 6), .int (u 7), .ref (a 8), .ref (a 9), .int (u 10), .int (u 11), .int (u 12), .long x, .int (u 14), .int (u 15)])), (r, .inl (G.2 1, 121, .inl (flt h b))), ((a 5), .inl (G.2 1, 121, .inl (cpv (flt h b) f 0 0 121)))]) ([((a 0), .inr (7, [.int (u 0), .ref (a 1), .int (u 2), .ref (a 3), .ref (a 4), .ref (a 5), .ref (a 6), .int (u 7), .ref (a 8), .ref (a 9), .int (u 10), .int (u 11), .int (u 12), .long x, .int (u 14), .int (u 15)])), (r, .inl (G.2 1, 121, .inl (flt h b))), ((a 5), .inl (G.2 1, 121, .inl (flt h b)))]) := ⟨zSame_rf _, zSame_rf _, zSame_arr cpv_all, trivial⟩
  have hM : zM G A s H locs ([((a 0), .inr (7, [.int (u 0), .ref (a 1), .int (u 2), .ref (a 3), .ref (a 4), .ref (a 5), .ref (a 6), .int (u 7), .ref (a 8), .ref (a 9), .int (u 10), .int (u 11), .int (u 12), .long x, .int (u 14), .int (u 15)])), (r, .inl (G.2 1, 121, .inl (flt h b))), ((a 5), .inl (G.2 1, 121, .inl (flt h b)))]) := zM_sim hsim hM
  refine lv_aload_n hx hb dX7_leaves_10 rfl (lv_at hl 0 rfl) ?_
  refine z_get (ci := 7) (v := .ref (a 5)) (C := RX7) (T := TX7) (N := 16) hx hb hts (by decide +kernel) hown hK hM 0 rfl rfl 5 (by decide) (hts (.fieldLink RX7 19 "ShiftIslesModel" "apart" "[I") (by decide +kernel)) (fun _ h9 => h9) rfl dX7_leaves_11 ?_
  refine lv_iload_n hx hb dX7_leaves_14 rfl (lv_at hl 2 rfl) ?_
  refine lv_iload_n hx hb dX7_leaves_15 rfl (lv_at hl 3 rfl) ?_
  refine lv_iload hx hb dX7_leaves_16 (lv_at hl 4 rfl) ?_
  refine z_callS (As := [.ref (a 5), .int (nI o), .int (nI n), .int d]) (rest := []) (wc := rfW G (a 5) h b) (wr := [((a 0), .inr (7, [.int (u 0), .ref (a 1), .int (u 2), .ref (a 3), .ref (a 4), .ref (a 5), .ref (a 6), .int (u 7), .ref (a 8), .ref (a 9), .int (u 10), .int (u 11), .int (u 12), .long x, .int (u 14), .int (u 15)])), (r, .inl (G.2 1, 121, .inl (flt h b)))]) (w1 := rfW G (a 5) h (va_up b o (zPu (b o) n d))) (ws' := [((a 0), .inr (7, [.int (u 0), .ref (a 1), .int (u 2), .ref (a 3), .ref (a 4), .ref (a 5), .ref (a 6), .int (u 7), .ref (a 8), .ref (a 9), .int (u 10), .int (u 11), .int (u 12), .long x, .int (u 14), .int (u 15)])), (r, .inl (G.2 1, 121, .inl (flt h b))), ((a 5), .inl (G.2 1, 121, .inl (flt h (va_up b o (zPu (b o) n d)))))]) ⟨hx, hb, hml, hown, hts⟩ (c_push l G (a 5) h b o n d (by omega) (by omega) ) (va_cwS 4 hts gX7_leaves_X7_push rfl rfl rfl (by decide +kernel) ⟨Nat.le_of_ble_eq_true rfl, Nat.le_of_ble_eq_true rfl⟩) rfl hl.1 rfl (Nat.le_of_ble_eq_true rfl) dX7_leaves_18 ⟨Nat.le_of_ble_eq_true rfl, Nat.le_of_ble_eq_true rfl⟩ hK hE hA hM (pm_at 3 [2] [0, 1] rfl rfl rfl (by decide)) ((pm_at 3 [2] [0, 1] rfl rfl rfl (by decide))).symm (fun H locs hM hz => ?_)
  refine lv_aload_n hx hb dX7_leaves_21 rfl (lv_at hl 0 rfl) ?_
  refine z_get (ci := 7) (v := .ref (a 5)) (C := RX7) (T := TX7) (N := 16) hx hb hts (by decide +kernel) hown hK hM 0 rfl rfl 5 (by decide) (hts (.fieldLink RX7 19 "ShiftIslesModel" "apart" "[I") (by decide +kernel)) (fun _ h9 => h9) rfl dX7_leaves_22 ?_
  refine lv_iload_n hx hb dX7_leaves_25 rfl (lv_at hl 2 rfl) ?_
  refine z_callS (As := [.ref (a 5), .int (nI o)]) (rest := []) (wc := rfW G (a 5) h (va_up b o (zPu (b o) n d))) (wr := [((a 0), .inr (7, [.int (u 0), .ref (a 1), .int (u 2), .ref (a 3), .ref (a 4), .ref (a 5), .ref (a 6), .int (u 7), .ref (a 8), .ref (a 9), .int (u 10), .int (u 11), .int (u 12), .long x, .int (u 14), .int (u 15)])), (r, .inl (G.2 1, 121, .inl (flt h b)))]) (w1 := rfW G (a 5) h (va_up b o (zPu (b o) n d))) (ws' := [((a 0), .inr (7, [.int (u 0), .ref (a 1), .int (u 2), .ref (a 3), .ref (a 4), .ref (a 5), .ref (a 6), .int (u 7), .ref (a 8), .ref (a 9), .int (u 10), .int (u 11), .int (u 12), .long x, .int (u 14), .int (u 15)])), (r, .inl (G.2 1, 121, .inl (flt h b))), ((a 5), .inl (G.2 1, 121, .inl (flt h (va_up b o (zPu (b o) n d)))))]) ⟨hx, hb, hml, hown, hts⟩ (c_canTake l G (a 5) h (va_up b o (zPu (b o) n d)) o S (by omega) hS hwB h6) (va_cwS 2 hts gX7_leaves_X7_canTake rfl rfl rfl (by decide +kernel) ⟨Nat.le_of_ble_eq_true rfl, Nat.le_of_ble_eq_true rfl⟩) rfl hl.1 rfl (Nat.le_of_ble_eq_true rfl) dX7_leaves_26 ⟨Nat.le_of_ble_eq_true rfl, Nat.le_of_ble_eq_true rfl⟩ hK hE hA hM (pm_at 3 [2] [0, 1] rfl rfl rfl (by decide)) ((pm_at 3 [2] [0, 1] rfl rfl rfl (by decide))).symm (fun H locs hM hz => ?_)
  refine z_ifeq (tgt := 37) hx hb dX7_leaves_29 (by decide) (fun c_1 => ?_) (fun c_1 => ?_)
  · rw [va_ups] at c_1
    refine lv_iconst (v := 0) hx hb dX7_leaves_37 (by decide) ?_
    refine lv_aload_n hx hb dX7_leaves_38 rfl (lv_at hl 0 rfl) ?_
    refine z_get (ci := 7) (v := .ref (a 5)) (C := RX7) (T := TX7) (N := 16) hx hb hts (by decide +kernel) hown hK hM 0 rfl rfl 5 (by decide) (hts (.fieldLink RX7 19 "ShiftIslesModel" "apart" "[I") (by decide +kernel)) (fun _ h9 => h9) rfl dX7_leaves_39 ?_
    refine lv_iload_n hx hb dX7_leaves_42 rfl (lv_at hl 2 rfl) ?_
    refine z_callS (As := [.ref (a 5), .int (nI o)]) (rest := [.int 0]) (wc := rfW G (a 5) h (va_up b o (zPu (b o) n d))) (wr := [((a 0), .inr (7, [.int (u 0), .ref (a 1), .int (u 2), .ref (a 3), .ref (a 4), .ref (a 5), .ref (a 6), .int (u 7), .ref (a 8), .ref (a 9), .int (u 10), .int (u 11), .int (u 12), .long x, .int (u 14), .int (u 15)])), (r, .inl (G.2 1, 121, .inl (flt h b)))]) (w1 := rfW G (a 5) h (va_up b o (zPu (b o) n d))) (ws' := [((a 0), .inr (7, [.int (u 0), .ref (a 1), .int (u 2), .ref (a 3), .ref (a 4), .ref (a 5), .ref (a 6), .int (u 7), .ref (a 8), .ref (a 9), .int (u 10), .int (u 11), .int (u 12), .long x, .int (u 14), .int (u 15)])), (r, .inl (G.2 1, 121, .inl (flt h b))), ((a 5), .inl (G.2 1, 121, .inl (flt h (va_up b o (zPu (b o) n d)))))]) ⟨hx, hb, hml, hown, hts⟩ (c_reachable l G (a 5) h (va_up b o (zPu (b o) n d)) o S (by omega) hS hwB h6) (va_cwS 2 hts gX7_leaves_X7_reachable rfl rfl rfl (by decide +kernel) ⟨Nat.le_of_ble_eq_true rfl, Nat.le_of_ble_eq_true rfl⟩) rfl hl.1 rfl (Nat.le_of_ble_eq_true rfl) dX7_leaves_43 ⟨Nat.le_of_ble_eq_true rfl, Nat.le_of_ble_eq_true rfl⟩ hK hE hA hM (pm_at 3 [2] [0, 1] rfl rfl rfl (by decide)) ((pm_at 3 [2] [0, 1] rfl rfl rfl (by decide))).symm (fun H locs hM hz => ?_)
    refine z_callS (As := [.int (zRch ((va_up b o (zPu (b o) n d)) o) S)]) (rest := [.int 0]) (wc := []) (wr := [((a 0), .inr (7, [.int (u 0), .ref (a 1), .int (u 2), .ref (a 3), .ref (a 4), .ref (a 5), .ref (a 6), .int (u 7), .ref (a 8), .ref (a 9), .int (u 10), .int (u 11), .int (u 12), .long x, .int (u 14), .int (u 15)])), (r, .inl (G.2 1, 121, .inl (flt h b))), ((a 5), .inl (G.2 1, 121, .inl (flt h (va_up b o (zPu (b o) n d)))))]) (w1 := []) (ws' := [((a 0), .inr (7, [.int (u 0), .ref (a 1), .int (u 2), .ref (a 3), .ref (a 4), .ref (a 5), .ref (a 6), .int (u 7), .ref (a 8), .ref (a 9), .int (u 10), .int (u 11), .int (u 12), .long x, .int (u 14), .int (u 15)])), (r, .inl (G.2 1, 121, .inl (flt h b))), ((a 5), .inl (G.2 1, 121, .inl (flt h (va_up b o (zPu (b o) n d)))))]) ⟨hx, hb, hml, hown, hts⟩ (c_count l G (zRch ((va_up b o (zPu (b o) n d)) o) S) (zRch_9 hwB S)) (va_cwS 1 hts gX7_leaves_X7_count rfl rfl rfl (by decide +kernel) ⟨Nat.le_of_ble_eq_true rfl, Nat.le_of_ble_eq_true rfl⟩) rfl hl.1 rfl (Nat.le_of_ble_eq_true rfl) dX7_leaves_46 ⟨Nat.le_of_ble_eq_true rfl, Nat.le_of_ble_eq_true rfl⟩ hK hE hA hM (List.Perm.refl _) (List.Perm.refl _) (fun H locs hM hz => ?_)
    refine lv_iadd hx hb dX7_leaves_49 ?_
    exact z_iret hx hb hr hlocks dX7_leaves_50 hM (Nat.le_of_ble_eq_true rfl) (Nat.le_of_ble_eq_true rfl) (by rw [va_ups, zLv, ← zRch_pu hwo hn hd, ← zSp_pu hwo hn hd, if_neg (by rw [c_1]; decide)])
  · rw [va_ups] at c_1
    refine lv_bipush (v := 100) hx hb dX7_leaves_32 (by decide) ?_
    refine lv_goto (tgt := 38) hx hb dX7_leaves_34 (by decide) ?_
    refine lv_aload_n hx hb dX7_leaves_38 rfl (lv_at hl 0 rfl) ?_
    refine z_get (ci := 7) (v := .ref (a 5)) (C := RX7) (T := TX7) (N := 16) hx hb hts (by decide +kernel) hown hK hM 0 rfl rfl 5 (by decide) (hts (.fieldLink RX7 19 "ShiftIslesModel" "apart" "[I") (by decide +kernel)) (fun _ h9 => h9) rfl dX7_leaves_39 ?_
    refine lv_iload_n hx hb dX7_leaves_42 rfl (lv_at hl 2 rfl) ?_
    refine z_callS (As := [.ref (a 5), .int (nI o)]) (rest := [.int 100]) (wc := rfW G (a 5) h (va_up b o (zPu (b o) n d))) (wr := [((a 0), .inr (7, [.int (u 0), .ref (a 1), .int (u 2), .ref (a 3), .ref (a 4), .ref (a 5), .ref (a 6), .int (u 7), .ref (a 8), .ref (a 9), .int (u 10), .int (u 11), .int (u 12), .long x, .int (u 14), .int (u 15)])), (r, .inl (G.2 1, 121, .inl (flt h b)))]) (w1 := rfW G (a 5) h (va_up b o (zPu (b o) n d))) (ws' := [((a 0), .inr (7, [.int (u 0), .ref (a 1), .int (u 2), .ref (a 3), .ref (a 4), .ref (a 5), .ref (a 6), .int (u 7), .ref (a 8), .ref (a 9), .int (u 10), .int (u 11), .int (u 12), .long x, .int (u 14), .int (u 15)])), (r, .inl (G.2 1, 121, .inl (flt h b))), ((a 5), .inl (G.2 1, 121, .inl (flt h (va_up b o (zPu (b o) n d)))))]) ⟨hx, hb, hml, hown, hts⟩ (c_reachable l G (a 5) h (va_up b o (zPu (b o) n d)) o S (by omega) hS hwB h6) (va_cwS 2 hts gX7_leaves_X7_reachable rfl rfl rfl (by decide +kernel) ⟨Nat.le_of_ble_eq_true rfl, Nat.le_of_ble_eq_true rfl⟩) rfl hl.1 rfl (Nat.le_of_ble_eq_true rfl) dX7_leaves_43 ⟨Nat.le_of_ble_eq_true rfl, Nat.le_of_ble_eq_true rfl⟩ hK hE hA hM (pm_at 3 [2] [0, 1] rfl rfl rfl (by decide)) ((pm_at 3 [2] [0, 1] rfl rfl rfl (by decide))).symm (fun H locs hM hz => ?_)
    refine z_callS (As := [.int (zRch ((va_up b o (zPu (b o) n d)) o) S)]) (rest := [.int 100]) (wc := []) (wr := [((a 0), .inr (7, [.int (u 0), .ref (a 1), .int (u 2), .ref (a 3), .ref (a 4), .ref (a 5), .ref (a 6), .int (u 7), .ref (a 8), .ref (a 9), .int (u 10), .int (u 11), .int (u 12), .long x, .int (u 14), .int (u 15)])), (r, .inl (G.2 1, 121, .inl (flt h b))), ((a 5), .inl (G.2 1, 121, .inl (flt h (va_up b o (zPu (b o) n d)))))]) (w1 := []) (ws' := [((a 0), .inr (7, [.int (u 0), .ref (a 1), .int (u 2), .ref (a 3), .ref (a 4), .ref (a 5), .ref (a 6), .int (u 7), .ref (a 8), .ref (a 9), .int (u 10), .int (u 11), .int (u 12), .long x, .int (u 14), .int (u 15)])), (r, .inl (G.2 1, 121, .inl (flt h b))), ((a 5), .inl (G.2 1, 121, .inl (flt h (va_up b o (zPu (b o) n d)))))]) ⟨hx, hb, hml, hown, hts⟩ (c_count l G (zRch ((va_up b o (zPu (b o) n d)) o) S) (zRch_9 hwB S)) (va_cwS 1 hts gX7_leaves_X7_count rfl rfl rfl (by decide +kernel) ⟨Nat.le_of_ble_eq_true rfl, Nat.le_of_ble_eq_true rfl⟩) rfl hl.1 rfl (Nat.le_of_ble_eq_true rfl) dX7_leaves_46 ⟨Nat.le_of_ble_eq_true rfl, Nat.le_of_ble_eq_true rfl⟩ hK hE hA hM (List.Perm.refl _) (List.Perm.refl _) (fun H locs hM hz => ?_)
    refine lv_iadd hx hb dX7_leaves_49 ?_
    exact z_iret hx hb hr hlocks dX7_leaves_50 hM (Nat.le_of_ble_eq_true rfl) (Nat.le_of_ble_eq_true rfl) (by rw [va_ups, zLv, ← zRch_pu hwo hn hd, ← zSp_pu hwo hn hd, if_pos c_1])

set_option maxHeartbeats 4000000 in
set_option maxRecDepth 100000 in
theorem c_findShift (l : Launch) (G : zC) (a : Nat → Nat) (u : Nat → Int32) (x : Int64) (f : Nat → Int32) (r : Nat) (h : Nat → Int32) (b : Nat → Nat → Int32) (P t S : Nat) (hg : zWf h b P t S) : zMet l G yX7_findShift wsX7_findShift rmX7_findShift [.ref (a 0), .ref r] ([((a 0), .inr (7, [.int (u 0), .ref (a 1), .int (u 2), .ref (a 3), .ref (a 4), .ref (a 5), .ref (a 6), .int (u 7), .ref (a 8), .ref (a 9), .int (u 10), .int (u 11), .int (u 12), .long x, .int (u 14), .int (u 15)])), (r, .inl (G.2 1, 121, .inl (flt h b))), ((a 5), .inl (G.2 1, 121, .inl f))]) none ([((a 0), .inr (7, [.int (u 0), .ref (a 1), .int (u 2), .ref (a 3), .ref (a 4), .ref (a 5), .ref (a 6), .int (u 7), .ref (a 8), .ref (a 9), .int ((zFs h b S P (u 11) (u 12) f).1), .int ((zFs h b S P (u 11) (u 12) f).2.1), .int ((zFs h b S P (u 11) (u 12) f).2.2.1), .long x, .int (u 14), .int (u 15)])), (r, .inl (G.2 1, 121, .inl (flt h b))), ((a 5), .inl (G.2 1, 121, .inl ((zFs h b S P (u 11) (u 12) f).2.2.2.2)))]) := by
  refine zMet_of (cc := cX7_findShift) (maxL := 6) (ret := none) (by decide) rfl (Nat.le_of_ble_eq_true rfl) ?_
  intro p e s m below meth c A ls hx hb hr hml hown hts hK hA hE hlocks hin hM hl
  have hown : s.vm.findClass RX7 = some m.cls := hown
  have hM : zM G A s s.heap [] ([((a 0), .inr (7, [.int (u 0), .ref (a 1), .int (u 2), .ref (a 3), .ref (a 4), .ref (a 5), .ref (a 6), .int (u 7), .ref (a 8), .ref (a 9), .int (u 10), .int (u 11), .int (u 12), .long x, .int (u 14), .int (u 15)])), (r, .inl (G.2 1, 121, .inl (flt h b))), ((a 5), .inl (G.2 1, 121, .inl f))]) := hM
  have hl : lv_has ls 6 [(0, .ref (a 0)), (1, .ref r)] := hl
  obtain ⟨⟨h0, hP4, h1, ht4, h6, hS, h22, h44⟩, hpt, hwb⟩ := id hg
  refine lv_sipush (v := 1000) hx hb dX7_findShift_0 (by decide) ?_
  refine lv_istore_n (lv' := [(2, .int 1000), (0, .ref (a 0)), (1, .ref r)]) hx hb dX7_findShift_3 rfl hl (by decide) rfl (fun ls hl => ?_)
  refine lv_aload_n hx hb dX7_findShift_4 rfl (lv_at hl 1 rfl) ?_
  refine lv_iconst (v := (-1)) hx hb dX7_findShift_5 (by decide) ?_
  refine z_put (ci := 7) (ty := .int) (v := .int (-1)) (C := RX7) (T := TX7) (N := 16) (ws' := [((a 0), .inr (7, [.int (u 0), .ref (a 1), .int (u 2), .ref (a 3), .ref (a 4), .ref (a 5), .ref (a 6), .int (u 7), .ref (a 8), .ref (a 9), .int (-1), .int (u 11), .int (u 12), .long x, .int (u 14), .int (u 15)])), (r, .inl (G.2 1, 121, .inl (flt h b))), ((a 5), .inl (G.2 1, 121, .inl f))]) hx hb hts (by decide +kernel) tyX7 tyX7_ok nmX7 hown hK hM 0 rfl rfl 10 (by decide) (hts (.fieldLink RX7 124 "ShiftIslesModel" "toPlayer" "I") (by decide +kernel)) (fun _ h9 => h9) rfl (by decide +kernel) rfl rfl (Nat.le_of_ble_eq_true rfl) dX7_findShift_6 rfl (fun H locs hM => ?_)
  refine lv_iconst (v := nI 0) hx hb dX7_findShift_9 (by decide) ?_
  refine lv_istore_n (lv' := [(3, .int (nI 0)), (2, .int 1000), (0, .ref (a 0)), (1, .ref r)]) hx hb dX7_findShift_10 rfl hl (by decide) rfl (fun ls hl => ?_)
  have lp11 : ∀ (k1 : Nat) (i : Nat) (v1 v2 v3 v4 : Int32) (g : Nat → Int32), (i + k1 = P) → (zFs h b S P (u 11) (u 12) f = zIt (zF2 h b S) k1 i (v1, v2, v3, v4, g)) → ∀ (H : Heap) (locs : List Loc), zM G A s H locs ([((a 0), .inr (7, [.int (u 0), .ref (a 1), .int (u 2), .ref (a 3), .ref (a 4), .ref (a 5), .ref (a 6), .int (u 7), .ref (a 8), .ref (a 9), .int v1, .int v2, .int v3, .long x, .int (u 14), .int (u 15)])), (r, .inl (G.2 1, 121, .inl (flt h b))), ((a 5), .inl (G.2 1, 121, .inl g))]) → ∀ ls : Array Slot, lv_has ls 6 [(0, .ref (a 0)), (1, .ref r), (2, .int v4), (3, .int (nI i))] → W p l e rmX7_findShift s m ([.ref (a 0), .ref r] : List Value).toArray below meth c H locs 0 0 (zEnd G below ([.ref (a 0), .ref r] : List Value).toArray s rmX7_findShift A none ([((a 0), .inr (7, [.int (u 0), .ref (a 1), .int (u 2), .ref (a 3), .ref (a 4), .ref (a 5), .ref (a 6), .int (u 7), .ref (a 8), .ref (a 9), .int ((zFs h b S P (u 11) (u 12) f).1), .int ((zFs h b S P (u 11) (u 12) f).2.1), .int ((zFs h b S P (u 11) (u 12) f).2.2.1), .long x, .int (u 14), .int (u 15)])), (r, .inl (G.2 1, 121, .inl (flt h b))), ((a 5), .inl (G.2 1, 121, .inl ((zFs h b S P (u 11) (u 12) f).2.2.2.2)))])) (F0 m 11 ls []) := by
    intro k1
    induction k1 with
    | zero =>
      intro i v1 v2 v3 v4 g hik hR H locs hM ls hl
      refine lv_iload_n hx hb dX7_findShift_11 rfl (lv_at hl 3 rfl) ?_
      refine lv_aload_n hx hb dX7_findShift_12 rfl (lv_at hl 1 rfl) ?_
      refine lv_iconst (v := 0) hx hb dX7_findShift_13 (by decide) ?_
      refine z_iald hx hb hK hM 1 rfl (v := h 0) (vp_in_nI (n := 0) (by decide) (by decide)) (flt_h (k := 0) (by decide)) dX7_findShift_14 ?_
      refine z_topi (y := nI P) h0 ?_
      refine lv_icmp_ge (tgt := 102) hx hb dX7_findShift_15 (by decide) (fun c_1 => ?_) (fun c_1 => absurd (nI_le (by omega) (by omega)) c_1)
      exact z_vret hx hb hr hlocks dX7_findShift_102 (by rw [hR, zIt_0]; exact hM) (Nat.le_of_ble_eq_true rfl) (Nat.le_of_ble_eq_true rfl)
    | succ k1 ihk1 =>
      intro i v1 v2 v3 v4 g hik hR H locs hM ls hl
      refine lv_iload_n hx hb dX7_findShift_11 rfl (lv_at hl 3 rfl) ?_
      refine lv_aload_n hx hb dX7_findShift_12 rfl (lv_at hl 1 rfl) ?_
      refine lv_iconst (v := 0) hx hb dX7_findShift_13 (by decide) ?_
      refine z_iald hx hb hK hM 1 rfl (v := h 0) (vp_in_nI (n := 0) (by decide) (by decide)) (flt_h (k := 0) (by decide)) dX7_findShift_14 ?_
      refine z_topi (y := nI P) h0 ?_
      refine lv_icmp_ge (tgt := 102) hx hb dX7_findShift_15 (by decide) (fun c_2 => absurd c_2 (nI_ge (by omega) (by omega))) (fun c_2 => ?_)
      refine lv_iconst (v := nI 0) hx hb dX7_findShift_18 (by decide) ?_
      refine lv_istore (lv' := [(4, .int (nI 0)), (0, .ref (a 0)), (1, .ref r), (2, .int v4), (3, .int (nI i))]) hx hb dX7_findShift_19 hl (by decide) rfl (fun ls hl => ?_)
      have lp21 : ∀ (k2 : Nat) (j : Nat) (y1 y2 y3 y4 : Int32) (g2 : Nat → Int32), (j + k2 = 12) → (zF2 h b S i (v1, v2, v3, v4, g) = zIt (zFo h b S i) k2 j (y1, y2, y3, y4, g2)) → ∀ (H : Heap) (locs : List Loc), zM G A s H locs ([((a 0), .inr (7, [.int (u 0), .ref (a 1), .int (u 2), .ref (a 3), .ref (a 4), .ref (a 5), .ref (a 6), .int (u 7), .ref (a 8), .ref (a 9), .int y1, .int y2, .int y3, .long x, .int (u 14), .int (u 15)])), (r, .inl (G.2 1, 121, .inl (flt h b))), ((a 5), .inl (G.2 1, 121, .inl g2))]) → ∀ ls : Array Slot, lv_has ls 6 [(0, .ref (a 0)), (1, .ref r), (2, .int y4), (3, .int (nI i)), (4, .int (nI j))] → W p l e rmX7_findShift s m ([.ref (a 0), .ref r] : List Value).toArray below meth c H locs 0 0 (zEnd G below ([.ref (a 0), .ref r] : List Value).toArray s rmX7_findShift A none ([((a 0), .inr (7, [.int (u 0), .ref (a 1), .int (u 2), .ref (a 3), .ref (a 4), .ref (a 5), .ref (a 6), .int (u 7), .ref (a 8), .ref (a 9), .int ((zFs h b S P (u 11) (u 12) f).1), .int ((zFs h b S P (u 11) (u 12) f).2.1), .int ((zFs h b S P (u 11) (u 12) f).2.2.1), .long x, .int (u 14), .int (u 15)])), (r, .inl (G.2 1, 121, .inl (flt h b))), ((a 5), .inl (G.2 1, 121, .inl ((zFs h b S P (u 11) (u 12) f).2.2.2.2)))])) (F0 m 21 ls []) := by
        intro k2
        induction k2 with
        | zero =>
          intro j y1 y2 y3 y4 g2 hj hN H locs hM ls hl
          refine lv_iload hx hb dX7_findShift_21 (lv_at hl 4 rfl) ?_
          refine lv_bipush (v := 12) hx hb dX7_findShift_23 (by decide) ?_
          refine z_topi (y := nI 12) rfl ?_
          refine lv_icmp_ge (tgt := 96) hx hb dX7_findShift_25 (by decide) (fun c_3 => ?_) (fun c_3 => absurd (nI_le (by omega) (by omega)) c_3)
          refine lv_iinc (v := nI (i + 1)) (lv' := [(3, .int (nI (i + 1))), (0, .ref (a 0)), (1, .ref r), (2, .int y4), (4, .int (nI j))]) hx hb dX7_findShift_96 hl (k := 3) rfl (nI_1 i) (by decide) rfl (fun ls hl => ?_)
          refine lv_goto (tgt := 11) hx hb dX7_findShift_99 (by decide) ?_
          exact ihk1 (i + 1) _ _ _ _ _ (by omega) (by rw [hR, zIt_s, hN, zIt_0]) _ _ hM _ (lv_sub hl [1, 2, 3, 0] rfl)
        | succ k2 ihk2 =>
          intro j y1 y2 y3 y4 g2 hj hN H locs hM ls hl
          refine lv_iload hx hb dX7_findShift_21 (lv_at hl 4 rfl) ?_
          refine lv_bipush (v := 12) hx hb dX7_findShift_23 (by decide) ?_
          refine z_topi (y := nI 12) rfl ?_
          refine lv_icmp_ge (tgt := 96) hx hb dX7_findShift_25 (by decide) (fun c_4 => absurd c_4 (nI_ge (by omega) (by omega))) (fun c_4 => ?_)
          refine lv_aload_n hx hb dX7_findShift_28 rfl (lv_at hl 1 rfl) ?_
          refine lv_iload_n hx hb dX7_findShift_29 rfl (lv_at hl 3 rfl) ?_
          refine lv_iload hx hb dX7_findShift_30 (lv_at hl 4 rfl) ?_
          refine lv_iconst (v := 2) hx hb dX7_findShift_32 (by decide) ?_
          refine lv_idiv hx hb dX7_findShift_33 (by decide) ?_
          refine z_topi (y := nI (j / 2)) (pk_div (a := j) (d := 2) (by omega) (by decide) (by decide)) ?_
          refine lv_iload hx hb dX7_findShift_34 (lv_at hl 4 rfl) ?_
          refine lv_iconst (v := 2) hx hb dX7_findShift_36 (by decide) ?_
          refine lv_irem hx hb dX7_findShift_37 (by decide) ?_
          refine z_topi (y := nI (j % 2)) (pk_rem (a := j) (d := 2) (by omega) (by decide) (by decide)) ?_
          refine z_callS (As := [.ref r, .int (nI i), .int (nI (j / 2)), .int (nI (j % 2))]) (rest := []) (wc := rfW G r h b) (wr := [((a 0), .inr (7, [.int (u 0), .ref (a 1), .int (u 2), .ref (a 3), .ref (a 4), .ref (a 5), .ref (a 6), .int (u 7), .ref (a 8), .ref (a 9), .int y1, .int y2, .int y3, .long x, .int (u 14), .int (u 15)])), ((a 5), .inl (G.2 1, 121, .inl g2))]) (w1 := rfW G r h b) (ws' := [((a 0), .inr (7, [.int (u 0), .ref (a 1), .int (u 2), .ref (a 3), .ref (a 4), .ref (a 5), .ref (a 6), .int (u 7), .ref (a 8), .ref (a 9), .int y1, .int y2, .int y3, .long x, .int (u 14), .int (u 15)])), (r, .inl (G.2 1, 121, .inl (flt h b))), ((a 5), .inl (G.2 1, 121, .inl g2))]) ⟨hx, hb, hml, hown, hts⟩ (c_csn l G r h b P t S hg i (nI (j / 2)) (nI (j % 2)) (by omega) (zLi_c (by omega)) (zDi_c j)) (va_cwS 4 hts gX7_findShift_X7_canShiftNow rfl rfl rfl (by decide +kernel) ⟨Nat.le_of_ble_eq_true rfl, Nat.le_of_ble_eq_true rfl⟩) rfl hl.1 rfl (Nat.le_of_ble_eq_true rfl) dX7_findShift_38 ⟨Nat.le_of_ble_eq_true rfl, Nat.le_of_ble_eq_true rfl⟩ hK hE hA hM (pm_at 3 [1] [0, 2] rfl rfl rfl (by decide)) ((pm_at 3 [1] [0, 2] rfl rfl rfl (by decide))).symm (fun H locs hM hz => ?_)
          refine z_ifeq (tgt := 90) hx hb dX7_findShift_41 (by decide) (fun c_m => ?_) (fun c_m => ?_)
          · skip
            refine lv_iinc (v := nI (j + 1)) (lv' := [(4, .int (nI (j + 1))), (0, .ref (a 0)), (1, .ref r), (2, .int y4), (3, .int (nI i))]) hx hb dX7_findShift_90 hl (k := 4) rfl (nI_1 j) (by decide) rfl (fun ls hl => ?_)
            refine lv_goto (tgt := 21) hx hb dX7_findShift_93 (by decide) ?_
            exact ihk2 (j + 1) _ _ _ _ _ (by omega) (by rw [hN, zIt_s, zFo_n c_m]) _ _ hM _ (lv_sub hl [1, 2, 3, 4, 0] rfl)
          · skip
            refine lv_aload_n hx hb dX7_findShift_44 rfl (lv_at hl 0 rfl) ?_
            refine lv_aload_n hx hb dX7_findShift_45 rfl (lv_at hl 1 rfl) ?_
            refine lv_iload_n hx hb dX7_findShift_46 rfl (lv_at hl 3 rfl) ?_
            refine lv_iload hx hb dX7_findShift_47 (lv_at hl 4 rfl) ?_
            refine lv_iconst (v := 2) hx hb dX7_findShift_49 (by decide) ?_
            refine lv_idiv hx hb dX7_findShift_50 (by decide) ?_
            refine z_topi (y := nI (j / 2)) (pk_div (a := j) (d := 2) (by omega) (by decide) (by decide)) ?_
            refine lv_iload hx hb dX7_findShift_51 (lv_at hl 4 rfl) ?_
            refine lv_iconst (v := 2) hx hb dX7_findShift_53 (by decide) ?_
            refine lv_irem hx hb dX7_findShift_54 (by decide) ?_
            refine z_topi (y := nI (j % 2)) (pk_rem (a := j) (d := 2) (by omega) (by decide) (by decide)) ?_
            refine z_callV (As := [.ref r, .int (nI i), .int (nI (j / 2)), .int (nI (j % 2))]) (rest := []) (wc := [((a 0), .inr (7, [.int (u 0), .ref (a 1), .int (u 2), .ref (a 3), .ref (a 4), .ref (a 5), .ref (a 6), .int (u 7), .ref (a 8), .ref (a 9), .int y1, .int y2, .int y3, .long x, .int (u 14), .int (u 15)])), (r, .inl (G.2 1, 121, .inl (flt h b))), ((a 5), .inl (G.2 1, 121, .inl g2))]) (wr := []) (w1 := [((a 0), .inr (7, [.int (u 0), .ref (a 1), .int (u 2), .ref (a 3), .ref (a 4), .ref (a 5), .ref (a 6), .int (u 7), .ref (a 8), .ref (a 9), .int y1, .int y2, .int y3, .long x, .int (u 14), .int (u 15)])), (r, .inl (G.2 1, 121, .inl (flt h b))), ((a 5), .inl (G.2 1, 121, .inl (flt h (va_up b i (zPu (b i) (j / 2) (nI (j % 2)))))))]) (ws' := [((a 0), .inr (7, [.int (u 0), .ref (a 1), .int (u 2), .ref (a 3), .ref (a 4), .ref (a 5), .ref (a 6), .int (u 7), .ref (a 8), .ref (a 9), .int y1, .int y2, .int y3, .long x, .int (u 14), .int (u 15)])), (r, .inl (G.2 1, 121, .inl (flt h b))), ((a 5), .inl (G.2 1, 121, .inl (flt h (va_up b i (zPu (b i) (j / 2) (nI (j % 2)))))))]) ⟨hx, hb, hml, hown, hts⟩ (c_leaves l G a (upd (upd (upd u 10 y1) 11 y2) 12 y3) x g2 r h b P t S hg i (j / 2) (nI (j % 2)) (by omega) (by omega) (nI_c2 j)) (cwV 4 hts gX7_findShift_X7_leaves rfl rfl rfl (by decide +kernel) ⟨Nat.le_of_ble_eq_true rfl, Nat.le_of_ble_eq_true rfl⟩) 7 rfl rfl rfl rfl hl.1 rfl (Nat.le_of_ble_eq_true rfl) dX7_findShift_55 ⟨Nat.le_of_ble_eq_true rfl, Nat.le_of_ble_eq_true rfl⟩ hK hE hA hM (pm_at 3 [0, 1, 2] [] rfl rfl rfl (by decide)) ((pm_at 3 [0, 1, 2] [] rfl rfl rfl (by decide))).symm (fun H locs hM hz => ?_)
            refine lv_istore (lv' := [(5, .int (zLv (zMv (b i) (j / 2) (nI (j % 2))) S)), (0, .ref (a 0)), (1, .ref r), (2, .int y4), (3, .int (nI i)), (4, .int (nI j))]) hx hb dX7_findShift_58 hl (by decide) rfl (fun ls hl => ?_)
            refine lv_iload hx hb dX7_findShift_60 (lv_at hl 0 rfl) ?_
            refine lv_iload_n hx hb dX7_findShift_62 rfl (lv_at hl 3 rfl) ?_
            refine lv_icmp_ge (tgt := 90) hx hb dX7_findShift_63 (by decide) (fun c_v => ?_) (fun c_v => ?_)
            · skip
              refine lv_iinc (v := nI (j + 1)) (lv' := [(4, .int (nI (j + 1))), (5, .int (zLv (zMv (b i) (j / 2) (nI (j % 2))) S)), (0, .ref (a 0)), (1, .ref r), (2, .int y4), (3, .int (nI i))]) hx hb dX7_findShift_90 hl (k := 5) rfl (nI_1 j) (by decide) rfl (fun ls hl => ?_)
              refine lv_goto (tgt := 21) hx hb dX7_findShift_93 (by decide) ?_
              exact ihk2 (j + 1) _ _ _ _ _ (by omega) (by rw [hN, zIt_s, zFo_k c_m c_v]) _ _ hM _ (lv_sub hl [2, 3, 4, 5, 0] rfl)
            · skip
              refine lv_iload hx hb dX7_findShift_66 (lv_at hl 0 rfl) ?_
              refine lv_istore_n (lv' := [(2, .int (zLv (zMv (b i) (j / 2) (nI (j % 2))) S)), (5, .int (zLv (zMv (b i) (j / 2) (nI (j % 2))) S)), (0, .ref (a 0)), (1, .ref r), (3, .int (nI i)), (4, .int (nI j))]) hx hb dX7_findShift_68 rfl hl (by decide) rfl (fun ls hl => ?_)
              refine lv_aload_n hx hb dX7_findShift_69 rfl (lv_at hl 2 rfl) ?_
              refine lv_iload_n hx hb dX7_findShift_70 rfl (lv_at hl 4 rfl) ?_
              refine z_put (ci := 7) (ty := .int) (v := .int (nI i)) (C := RX7) (T := TX7) (N := 16) (ws' := [((a 0), .inr (7, [.int (u 0), .ref (a 1), .int (u 2), .ref (a 3), .ref (a 4), .ref (a 5), .ref (a 6), .int (u 7), .ref (a 8), .ref (a 9), .int (nI i), .int y2, .int y3, .long x, .int (u 14), .int (u 15)])), (r, .inl (G.2 1, 121, .inl (flt h b))), ((a 5), .inl (G.2 1, 121, .inl (flt h (va_up b i (zPu (b i) (j / 2) (nI (j % 2)))))))]) hx hb hts (by decide +kernel) tyX7 tyX7_ok nmX7 hown hK hM 0 rfl rfl 10 (by decide) (hts (.fieldLink RX7 124 "ShiftIslesModel" "toPlayer" "I") (by decide +kernel)) (fun _ h9 => h9) rfl (by decide +kernel) rfl rfl (Nat.le_of_ble_eq_true rfl) dX7_findShift_71 rfl (fun H locs hM => ?_)
              refine lv_aload_n hx hb dX7_findShift_74 rfl (lv_at hl 2 rfl) ?_
              refine lv_iload hx hb dX7_findShift_75 (lv_at hl 5 rfl) ?_
              refine lv_iconst (v := 2) hx hb dX7_findShift_77 (by decide) ?_
              refine lv_idiv hx hb dX7_findShift_78 (by decide) ?_
              refine z_topi (y := nI (j / 2)) (pk_div (a := j) (d := 2) (by omega) (by decide) (by decide)) ?_
              refine z_put (ci := 7) (ty := .int) (v := .int (nI (j / 2))) (C := RX7) (T := TX7) (N := 16) (ws' := [((a 0), .inr (7, [.int (u 0), .ref (a 1), .int (u 2), .ref (a 3), .ref (a 4), .ref (a 5), .ref (a 6), .int (u 7), .ref (a 8), .ref (a 9), .int (nI i), .int (nI (j / 2)), .int y3, .long x, .int (u 14), .int (u 15)])), (r, .inl (G.2 1, 121, .inl (flt h b))), ((a 5), .inl (G.2 1, 121, .inl (flt h (va_up b i (zPu (b i) (j / 2) (nI (j % 2)))))))]) hx hb hts (by decide +kernel) tyX7 tyX7_ok nmX7 hown hK hM 0 rfl rfl 11 (by decide) (hts (.fieldLink RX7 134 "ShiftIslesModel" "toLine" "I") (by decide +kernel)) (fun _ h9 => h9) rfl (by decide +kernel) rfl rfl (Nat.le_of_ble_eq_true rfl) dX7_findShift_79 rfl (fun H locs hM => ?_)
              refine lv_aload_n hx hb dX7_findShift_82 rfl (lv_at hl 2 rfl) ?_
              refine lv_iload hx hb dX7_findShift_83 (lv_at hl 5 rfl) ?_
              refine lv_iconst (v := 2) hx hb dX7_findShift_85 (by decide) ?_
              refine lv_irem hx hb dX7_findShift_86 (by decide) ?_
              refine z_topi (y := nI (j % 2)) (pk_rem (a := j) (d := 2) (by omega) (by decide) (by decide)) ?_
              refine z_put (ci := 7) (ty := .int) (v := .int (nI (j % 2))) (C := RX7) (T := TX7) (N := 16) (ws' := [((a 0), .inr (7, [.int (u 0), .ref (a 1), .int (u 2), .ref (a 3), .ref (a 4), .ref (a 5), .ref (a 6), .int (u 7), .ref (a 8), .ref (a 9), .int (nI i), .int (nI (j / 2)), .int (nI (j % 2)), .long x, .int (u 14), .int (u 15)])), (r, .inl (G.2 1, 121, .inl (flt h b))), ((a 5), .inl (G.2 1, 121, .inl (flt h (va_up b i (zPu (b i) (j / 2) (nI (j % 2)))))))]) hx hb hts (by decide +kernel) tyX7 tyX7_ok nmX7 hown hK hM 0 rfl rfl 12 (by decide) (hts (.fieldLink RX7 137 "ShiftIslesModel" "toDirection" "I") (by decide +kernel)) (fun _ h9 => h9) rfl (by decide +kernel) rfl rfl (Nat.le_of_ble_eq_true rfl) dX7_findShift_87 rfl (fun H locs hM => ?_)
              refine lv_iinc (v := nI (j + 1)) (lv' := [(4, .int (nI (j + 1))), (2, .int (zLv (zMv (b i) (j / 2) (nI (j % 2))) S)), (5, .int (zLv (zMv (b i) (j / 2) (nI (j % 2))) S)), (0, .ref (a 0)), (1, .ref r), (3, .int (nI i))]) hx hb dX7_findShift_90 hl (k := 5) rfl (nI_1 j) (by decide) rfl (fun ls hl => ?_)
              refine lv_goto (tgt := 21) hx hb dX7_findShift_93 (by decide) ?_
              exact ihk2 (j + 1) _ _ _ _ _ (by omega) (by rw [hN, zIt_s, zFo_y c_m c_v]) _ _ hM _ (lv_sub hl [3, 4, 1, 5, 0] rfl)
      exact lp21 12 0 _ _ _ _ _ rfl (zF2_e h b S i (v1, v2, v3, v4, g)) _ _ hM _ (lv_sub hl [1, 2, 3, 4, 0] rfl)
  exact lp11 P 0 _ _ _ _ _ (by omega) (zFs_e h b S P (u 11) (u 12) f) _ _ hM _ (lv_sub hl [2, 3, 1, 0] rfl)
/-! the reference's choices are the class's -/
def zRel (u v : zRU) : Prop := u.1 = v.1 ∧ ((u.1 = -1 ∧ u.2.2.2.1 = 1000 ∧ v.2.2.2.1 = 100) ∨ (¬ u.1 = -1 ∧ u.2.1 = v.2.1 ∧ u.2.2.1 = v.2.2.1 ∧ ∃ t c : Nat, t < 2 ∧ c < 10 ∧ u.2.2.2.1 = nI (100 * t + c) ∧ v.2.2.2.1 = nI (10 * t + c)))
theorem zBc_t : ∀ v : Fin 512, ∃ c : Fin 10, zBc (nI v.val) = nI c.val := by decide +kernel
theorem zLv_v {f : Nat → Int32} (S : Nat) (hw : zBw f) : ∃ t c : Nat, t < 2 ∧ c < 10 ∧ zLv f S = nI (100 * t + c) ∧ zLf f S = nI (10 * t + c) := by
  obtain ⟨v, hv, ev⟩ := zW9_lt (zRch_9 hw S)
  obtain ⟨c, hc⟩ := zBc_t ⟨v, hv⟩
  have hb : zBc (zRch f S) = nI c.val := by rw [ev]; exact hc
  by_cases h : zIn (zRch f S) (zSp f) = true
  · refine ⟨1, c.val, by decide, c.isLt, ?_, ?_⟩
    · rw [zLv, if_pos h, hb]
      exact nI_add 100 c.val
    · rw [zLf, if_pos h, hb]
      exact nI_add 10 c.val
  · refine ⟨0, c.val, by decide, c.isLt, ?_, ?_⟩
    · rw [zLv, if_neg h, hb, Int32.zero_add, show 100 * 0 + c.val = c.val by omega]
    · rw [zLf, if_neg h, hb, Int32.zero_add, show 10 * 0 + c.val = c.val by omega]
theorem zFo_rel {h : Nat → Int32} {b : Nat → Nat → Int32} {S k n w : Nat} {u v : zRU} (hwb : zBw (b k)) (hk : k < 4) (hn : n < 6) (hw : w < 2) (R : zRel u v) : zRel (zFo h b S k (2 * n + w) u) (zCo h b S k n (nI w) v) := by
  unfold zFo zCo
  rw [show (2 * n + w) / 2 = n by omega, show (2 * n + w) % 2 = w by omega]
  by_cases hm : zMs h b k (nI n) (nI w) = true
  · rw [if_pos hm, if_pos hm]
    obtain ⟨t, c, ht, hc, e1, e2⟩ := zLv_v S (zBw_mv hwb hn (nI w))
    rw [e1, e2]
    obtain ⟨r1, r2⟩ := R
    rcases r2 with ⟨q1, q2, q3⟩ | ⟨q1, q2, q3, t2, c2, ht2, hc2, q4, q5⟩
    · rw [q2, q3, if_pos (show nI (100 * t + c) < 1000 from nI_lt (b := 1000) (by omega) (by decide)), if_pos (show nI (10 * t + c) < 100 from nI_lt (b := 100) (by omega) (by decide))]
      exact ⟨rfl, Or.inr ⟨nI_m1 (by omega), rfl, rfl, t, c, ht, hc, rfl, rfl⟩⟩
    · rw [q4, q5]
      by_cases hl : 100 * t + c < 100 * t2 + c2
      · rw [if_pos (nI_lt hl (by omega)), if_pos (nI_lt (a := 10 * t + c) (b := 10 * t2 + c2) (by omega) (by omega))]
        exact ⟨rfl, Or.inr ⟨nI_m1 (by omega), rfl, rfl, t, c, ht, hc, rfl, rfl⟩⟩
      · rw [if_neg (nI_nlt (by omega) (by omega)), if_neg (nI_nlt (a := 10 * t + c) (b := 10 * t2 + c2) (by omega) (by omega))]
        exact ⟨r1, Or.inr ⟨q1, q2, q3, t2, c2, ht2, hc2, rfl, rfl⟩⟩
  · rw [if_neg hm, if_neg hm]
    exact R
theorem zF2_rel {h : Nat → Int32} {b : Nat → Nat → Int32} {S k : Nat} (hwb : zBw (b k)) (hk : k < 4) : ∀ (n i : Nat) (u v : zRU), i + n ≤ 6 → zRel u v → zRel (zIt (zFo h b S k) (2 * n) (2 * i) u) (zIt (zC1 h b S k) n i v)
  | 0, _, _, _, _, R => R
  | n + 1, i, u, v, hi, R => by
    rw [show 2 * (n + 1) = (2 * n + 1) + 1 by omega, zIt_s, zIt_s, zIt_s, show 2 * i + 1 + 1 = 2 * (i + 1) by omega]
    refine zF2_rel hwb hk n (i + 1) _ _ (by omega) ?_
    rw [zC1_e]
    exact zFo_rel (w := 1) hwb hk (by omega) (by decide) (zFo_rel (w := 0) hwb hk (by omega) (by decide) R)
theorem zFs_rel {h : Nat → Int32} {b : Nat → Nat → Int32} {S P : Nat} (hP4 : P ≤ 4) (hwb : ∀ q, q < P → zBw (b q)) (v2 v3 : Int32) (f sf : Nat → Int32) : zRel (zFs h b S P v2 v3 f) (zCs h b S P sf) := by
  rw [zFs_e, zCs_e]
  have key : ∀ (n i : Nat) (u v : zRU), i + n ≤ P → zRel u v → zRel (zIt (zF2 h b S) n i u) (zIt (zC2 h b S) n i v) := by
    intro n
    induction n with
    | zero => intro i u v _ R; exact R
    | succ n ih =>
      intro i u v hi R
      rw [zIt_s, zIt_s]
      refine ih (i + 1) _ _ (by omega) ?_
      rw [zF2_e, zC2_e]
      exact zF2_rel (hwb i (by omega)) (by omega) 6 0 u v (by decide) R
  exact key P 0 _ _ (by omega) ⟨rfl, Or.inl ⟨rfl, rfl, rfl⟩⟩
def zB1 (g r : Int32) (n : Nat) (y : Int32) : Int32 := if zIn r (nI n) = true ∧ (y = -1 ∨ zAb (nI n) g < zAb y g) then nI n else y
def zTr (g y : Int32) (u : Int32 × Int32) : Prop := (y = -1 ∧ u.1 = 100) ∨ ∃ n : Nat, n < 9 ∧ y = nI n ∧ u = (zDs n g, nI n)
theorem zDs_max : ∀ n j : Fin 9, zDs n.val (nI j.val) < 100 := by decide +kernel
theorem zTr_s {g r y : Int32} {u : Int32 × Int32} {n j : Nat} (hn : n < 9) (hj : j < 9) (eg : g = nI j) (R : zTr g y u) : zTr g (zB1 g r n y) (zT1 g r n u) := by
  unfold zB1 zT1
  by_cases hi : zIn r (nI n) = true
  · rw [if_pos hi]
    rcases R with ⟨q1, q2⟩ | ⟨i, q1, q2, q3⟩
    · have hd : zDs n g < u.1 := by
        rw [q2, eg]
        exact zDs_max ⟨n, hn⟩ ⟨j, hj⟩
      rw [if_pos ⟨hi, Or.inl q1⟩, if_pos hd]
      exact Or.inr ⟨n, hn, rfl, rfl⟩
    · subst q2 q3
      rw [zAb_ds, zAb_ds]
      by_cases hd : zDs n g < zDs i g
      · rw [if_pos ⟨hi, Or.inr hd⟩, if_pos hd]
        exact Or.inr ⟨n, hn, rfl, rfl⟩
      · rw [if_neg (fun q => q.2.elim (fun q => nI_m1 (by omega) q) hd), if_neg hd]
        exact Or.inr ⟨i, q1, rfl, rfl⟩
  · rw [if_neg (fun q => hi q.1), if_neg hi]
    exact R
theorem zTr_n {g r : Int32} {j : Nat} (hj : j < 9) (eg : g = nI j) : ∀ (k i : Nat) (y : Int32) (u : Int32 × Int32), i + k ≤ 9 → zTr g y u → zTr g (zIt (zB1 g r) k i y) (zIt (zT1 g r) k i u)
  | 0, _, _, _, _, R => R
  | k + 1, i, y, u, h, R => by
    rw [zIt_s, zIt_s]
    exact zTr_n hj eg k (i + 1) _ _ (by omega) (zTr_s (by omega) hj eg R)
theorem zB1_ne {g r : Int32} : ∀ (k i : Nat) (y : Int32), i + k ≤ 9 → (¬ y = -1 ∨ ∃ s, i ≤ s ∧ s < i + k ∧ zIn r (nI s) = true) → ¬ zIt (zB1 g r) k i y = -1
  | 0, i, y, _, h => by
    rw [zIt_0]
    rcases h with q | ⟨s, h1, h2, _⟩
    · exact q
    · omega
  | k + 1, i, y, hk, h => by
    rw [zIt_s]
    refine zB1_ne k (i + 1) _ (by omega) ?_
    unfold zB1
    by_cases c : zIn r (nI i) = true ∧ (y = -1 ∨ zAb (nI i) g < zAb y g)
    · rw [if_pos c]
      exact Or.inl (nI_m1 (by omega))
    · rw [if_neg c]
      by_cases hy : y = -1
      · rcases h with q | ⟨s, h1, h2, h3⟩
        · exact Or.inl q
        · refine Or.inr ⟨s, ?_, by omega, h3⟩
          by_cases e : s = i
          · subst e
            exact absurd ⟨h3, Or.inl hy⟩ c
          · omega
      · exact Or.inl hy
theorem zRe_bt {f : Nat → Int32} {j : Nat} (hj : j < 32) : ∀ (k : Nat) {x : Int32}, zW9 x → bt x j = true → bt (zRe (zAcr f) (zDow f) k x) j = true
  | 0, _, _, h => h
  | k + 1, x, h9, h => by
    rw [zRe]
    refine zRe_bt hj k (zWi_9 f h9) ?_
    rw [bt_wi _ _ h9 j hj, h]
    rfl
theorem zRch_ship {f : Nat → Int32} {s : Nat} (hw : zBw f) (hs : s < 9) (es : f 24 = nI s) (S : Nat) : zIn (zRch f S) (nI s) = true := by
  rw [zIn_nI hs]
  refine decide_eq_true ((bt_at (by omega) (zRch_9 hw S 31 (by decide))).mpr ?_)
  rw [zRch, es]
  refine zRe_bt (by omega) S (zOne_9 hs) ?_
  rw [bt_one _ (by omega) _ (by omega)]
  exact decide_eq_true rfl
theorem zB9_ct {f : Nat → Int32} {S : Nat} (hw : zBw f) (hg : ¬ zSp f = -1) : zIt (zB1 (zSp f) (zRch f S)) 9 0 (-1) = zCt f S := by
  obtain ⟨s, hs, es⟩ := hw.2.1
  rcases zSp_r f with q | ⟨j, hj, ej, _⟩
  · exact absurd q hg
  · have h1 := zTr_n (r := zRch f S) hj ej 9 0 (-1) ((if zSp f = -1 then 0 else 100), f 24) (by decide) (Or.inl ⟨rfl, if_neg hg⟩)
    have h2 := zB1_ne (g := zSp f) (r := zRch f S) 9 0 (-1) (by decide) (Or.inr ⟨s, by omega, by omega, zRch_ship hw hs es S⟩)
    rw [zCt_e]
    rcases h1 with ⟨q1, _⟩ | ⟨n, _, q2, q3⟩
    · exact absurd q1 h2
    · rw [q3, q2]
theorem zCs_no {h : Nat → Int32} {b : Nat → Nat → Int32} {S P : Nat} {sf : Nat → Int32} (c : ¬ h 2 = 0) : (zCs h b S P sf).1 = -1 := by
  rcases zCs_ok h b S P sf with q | ⟨k, n, w, _, _, _, _, _, _, hm⟩
  · exact q
  · simp only [zMs, Bool.and_eq_true, decide_eq_true_eq] at hm
    exact absurd hm.1.1.1.1.1.2 c
set_option maxHeartbeats 4000000 in
set_option maxRecDepth 100000 in
theorem c_playOn (l : Launch) (G : zC) (a : Nat → Nat) (u : Nat → Int32) (x : Int64) (f : Nat → Int32) (r : Nat) (h : Nat → Int32) (b : Nat → Nat → Int32) (P t S : Nat) (hg : zWf h b P t S) (sf : Nat → Int32) (hP0 : 0 < P) (hC : h 2 = 0 → ¬ (zCs h b S P sf).1 = -1) (hGs : ¬ zSp (b t) = -1) : zMet l G yX7_playOn wsX7_playOn rmX7_playOn [.ref (a 0), .ref r] ([((a 0), .inr (7, [.int (u 0), .ref (a 1), .int (u 2), .ref (a 3), .ref (a 4), .ref (a 5), .ref (a 6), .int (u 7), .ref (a 8), .ref (a 9), .int (u 10), .int (u 11), .int (u 12), .long x, .int (u 14), .int (u 15)])), (r, .inl (G.2 1, 121, .inl (flt h b))), ((a 5), .inl (G.2 1, 121, .inl f))]) (some (.int (zFtR h b P t S sf))) ([((a 0), .inr (7, [.int (u 0), .ref (a 1), .int (u 2), .ref (a 3), .ref (a 4), .ref (a 5), .ref (a 6), .int (u 7), .ref (a 8), .ref (a 9), .int (if h 2 = 0 then (zFs h b S P (u 11) (u 12) f).1 else u 10), .int (if h 2 = 0 then (zFs h b S P (u 11) (u 12) f).2.1 else u 11), .int (if h 2 = 0 then (zFs h b S P (u 11) (u 12) f).2.2.1 else u 12), .long x, .int (u 14), .int (u 15)])), (r, .inl (G.2 1, 121, .inl (flt (zFtH h b P t S sf) (zFtB h b P t S sf)))), ((a 5), .inl (G.2 1, 121, .inl (if h 2 = 0 then (zFs h b S P (u 11) (u 12) f).2.2.2.2 else f)))]) := by
  refine zMet_of (cc := cX7_playOn) (maxL := 8) (ret := (some .int)) (by decide) rfl (Nat.le_of_ble_eq_true rfl) ?_
  intro p e s m below meth c A ls hx hb hr hml hown hts hK hA hE hlocks hin hM hl
  have hown : s.vm.findClass RX7 = some m.cls := hown
  have hM : zM G A s s.heap [] ([((a 0), .inr (7, [.int (u 0), .ref (a 1), .int (u 2), .ref (a 3), .ref (a 4), .ref (a 5), .ref (a 6), .int (u 7), .ref (a 8), .ref (a 9), .int (u 10), .int (u 11), .int (u 12), .long x, .int (u 14), .int (u 15)])), (r, .inl (G.2 1, 121, .inl (flt h b))), ((a 5), .inl (G.2 1, 121, .inl f))]) := hM
  have hl : lv_has ls 8 [(0, .ref (a 0)), (1, .ref r)] := hl
  obtain ⟨⟨h0, hP4, h1, ht4, h6, hS, h22, h44⟩, hpt, hwb⟩ := id hg
  have htP : t < P := (hpt hP0).1
  have hwt : zBw (b t) := hwb t htP
  refine lv_aload_n hx hb dX7_playOn_0 rfl (lv_at hl 1 rfl) ?_
  refine lv_iconst (v := 2) hx hb dX7_playOn_1 (by decide) ?_
  refine z_iald hx hb hK hM 1 rfl (v := h 2) (vp_in_nI (n := 2) (by decide) (by decide)) (flt_h (k := 2) (by decide)) dX7_playOn_2 ?_
  refine lv_if_ne (tgt := 28) hx hb dX7_playOn_3 (by decide) (fun c_0 => ?_) (fun c_0 => ?_)
  · have hF1 : zF1H h b S P sf = h := by rw [zF1H, if_pos (zCs_no c_0)]
    have hF2 : zF1B h b S P sf = b := by rw [zF1B, if_pos (zCs_no c_0)]
    have hg2 := hg
    have hbt : b t = b t := rfl
    refine lv_aload_n hx hb dX7_playOn_28 rfl (lv_at hl 1 rfl) ?_
    refine lv_iconst (v := 1) hx hb dX7_playOn_29 (by decide) ?_
    refine z_iald hx hb hK hM 1 rfl (v := h 1) (vp_in_nI (n := 1) (by decide) (by decide)) (flt_h (k := 1) (by decide)) dX7_playOn_30 ?_
    refine z_topi (y := nI t) h1 ?_
    refine lv_istore_n (lv' := [(2, .int (nI t)), (0, .ref (a 0)), (1, .ref r)]) hx hb dX7_playOn_31 rfl hl (by decide) rfl (fun ls hl => ?_)
    refine lv_aload_n hx hb dX7_playOn_32 rfl (lv_at hl 2 rfl) ?_
    refine lv_iload_n hx hb dX7_playOn_33 rfl (lv_at hl 0 rfl) ?_
    refine z_callS (As := [.ref r, .int (nI t)]) (rest := []) (wc := rfW G r h b) (wr := [((a 0), .inr (7, [.int (u 0), .ref (a 1), .int (u 2), .ref (a 3), .ref (a 4), .ref (a 5), .ref (a 6), .int (u 7), .ref (a 8), .ref (a 9), .int (u 10), .int (u 11), .int (u 12), .long x, .int (u 14), .int (u 15)])), ((a 5), .inl (G.2 1, 121, .inl f))]) (w1 := rfW G r h b) (ws' := [((a 0), .inr (7, [.int (u 0), .ref (a 1), .int (u 2), .ref (a 3), .ref (a 4), .ref (a 5), .ref (a 6), .int (u 7), .ref (a 8), .ref (a 9), .int (u 10), .int (u 11), .int (u 12), .long x, .int (u 14), .int (u 15)])), (r, .inl (G.2 1, 121, .inl (flt h b))), ((a 5), .inl (G.2 1, 121, .inl f))]) ⟨hx, hb, hml, hown, hts⟩ (c_r_pos l G r h b t (by omega) (by rw [hbt]; exact hwt)) (va_cwS 2 hts gX7_playOn_X7_placeOfSought rfl rfl rfl (by decide +kernel) ⟨Nat.le_of_ble_eq_true rfl, Nat.le_of_ble_eq_true rfl⟩) rfl hl.1 rfl (Nat.le_of_ble_eq_true rfl) dX7_playOn_34 ⟨Nat.le_of_ble_eq_true rfl, Nat.le_of_ble_eq_true rfl⟩ hK hE hA hM (pm_at 3 [1] [0, 2] rfl rfl rfl (by decide)) ((pm_at 3 [1] [0, 2] rfl rfl rfl (by decide))).symm (fun H locs hM hz => ?_)
    refine lv_istore_n (lv' := [(3, .int (zSp (b t))), (2, .int (nI t)), (0, .ref (a 0)), (1, .ref r)]) hx hb dX7_playOn_37 rfl hl (by decide) rfl (fun ls hl => ?_)
    refine lv_aload_n hx hb dX7_playOn_38 rfl (lv_at hl 3 rfl) ?_
    refine lv_iload_n hx hb dX7_playOn_39 rfl (lv_at hl 1 rfl) ?_
    refine z_callS (As := [.ref r, .int (nI t)]) (rest := []) (wc := rfW G r h b) (wr := [((a 0), .inr (7, [.int (u 0), .ref (a 1), .int (u 2), .ref (a 3), .ref (a 4), .ref (a 5), .ref (a 6), .int (u 7), .ref (a 8), .ref (a 9), .int (u 10), .int (u 11), .int (u 12), .long x, .int (u 14), .int (u 15)])), ((a 5), .inl (G.2 1, 121, .inl f))]) (w1 := rfW G r h b) (ws' := [((a 0), .inr (7, [.int (u 0), .ref (a 1), .int (u 2), .ref (a 3), .ref (a 4), .ref (a 5), .ref (a 6), .int (u 7), .ref (a 8), .ref (a 9), .int (u 10), .int (u 11), .int (u 12), .long x, .int (u 14), .int (u 15)])), (r, .inl (G.2 1, 121, .inl (flt h b))), ((a 5), .inl (G.2 1, 121, .inl f))]) ⟨hx, hb, hml, hown, hts⟩ (c_reachable l G r h b t S (by omega) hS (by rw [hbt]; exact hwt) h6) (va_cwS 2 hts gX7_playOn_X7_reachable rfl rfl rfl (by decide +kernel) ⟨Nat.le_of_ble_eq_true rfl, Nat.le_of_ble_eq_true rfl⟩) rfl hl.1 rfl (Nat.le_of_ble_eq_true rfl) dX7_playOn_40 ⟨Nat.le_of_ble_eq_true rfl, Nat.le_of_ble_eq_true rfl⟩ hK hE hA hM (pm_at 3 [1] [0, 2] rfl rfl rfl (by decide)) ((pm_at 3 [1] [0, 2] rfl rfl rfl (by decide))).symm (fun H locs hM hz => ?_)
    refine lv_istore (lv' := [(4, .int (zRch (b t) S)), (3, .int (zSp (b t))), (2, .int (nI t)), (0, .ref (a 0)), (1, .ref r)]) hx hb dX7_playOn_43 hl (by decide) rfl (fun ls hl => ?_)
    refine lv_iconst (v := (-1)) hx hb dX7_playOn_45 (by decide) ?_
    refine lv_istore (lv' := [(5, .int (-1)), (4, .int (zRch (b t) S)), (3, .int (zSp (b t))), (2, .int (nI t)), (0, .ref (a 0)), (1, .ref r)]) hx hb dX7_playOn_46 hl (by decide) rfl (fun ls hl => ?_)
    refine lv_iconst (v := nI 0) hx hb dX7_playOn_48 (by decide) ?_
    refine lv_istore (lv' := [(6, .int (nI 0)), (5, .int (-1)), (4, .int (zRch (b t) S)), (3, .int (zSp (b t))), (2, .int (nI t)), (0, .ref (a 0)), (1, .ref r)]) hx hb dX7_playOn_49 hl (by decide) rfl (fun ls hl => ?_)
    have lp51 : ∀ (k : Nat) (i : Nat) (y : Int32), (i + k = 9) → (zIt (zB1 (zSp (b t)) (zRch (b t) S)) 9 0 (-1) = zIt (zB1 (zSp (b t)) (zRch (b t) S)) k i y) → ∀ (H : Heap) (locs : List Loc), zM G A s H locs ([((a 0), .inr (7, [.int (u 0), .ref (a 1), .int (u 2), .ref (a 3), .ref (a 4), .ref (a 5), .ref (a 6), .int (u 7), .ref (a 8), .ref (a 9), .int (u 10), .int (u 11), .int (u 12), .long x, .int (u 14), .int (u 15)])), (r, .inl (G.2 1, 121, .inl (flt h b))), ((a 5), .inl (G.2 1, 121, .inl f))]) → ∀ ls : Array Slot, lv_has ls 8 [(0, .ref (a 0)), (1, .ref r), (2, .int (nI t)), (3, .int (zSp (b t))), (4, .int (zRch (b t) S)), (5, .int y), (6, .int (nI i))] → W p l e rmX7_playOn s m ([.ref (a 0), .ref r] : List Value).toArray below meth c H locs 0 0 (zEnd G below ([.ref (a 0), .ref r] : List Value).toArray s rmX7_playOn A (some (.int (zFtR h b P t S sf))) ([((a 0), .inr (7, [.int (u 0), .ref (a 1), .int (u 2), .ref (a 3), .ref (a 4), .ref (a 5), .ref (a 6), .int (u 7), .ref (a 8), .ref (a 9), .int (if h 2 = 0 then (zFs h b S P (u 11) (u 12) f).1 else u 10), .int (if h 2 = 0 then (zFs h b S P (u 11) (u 12) f).2.1 else u 11), .int (if h 2 = 0 then (zFs h b S P (u 11) (u 12) f).2.2.1 else u 12), .long x, .int (u 14), .int (u 15)])), (r, .inl (G.2 1, 121, .inl (flt (zFtH h b P t S sf) (zFtB h b P t S sf)))), ((a 5), .inl (G.2 1, 121, .inl (if h 2 = 0 then (zFs h b S P (u 11) (u 12) f).2.2.2.2 else f)))])) (F0 m 51 ls []) := by
      intro k
      induction k with
      | zero =>
        intro i y hik hR H locs hM ls hl
        refine lv_iload hx hb dX7_playOn_51 (lv_at hl 6 rfl) ?_
        refine lv_bipush (v := 9) hx hb dX7_playOn_53 (by decide) ?_
        refine z_topi (y := nI 9) rfl ?_
        refine lv_icmp_ge (tgt := 117) hx hb dX7_playOn_55 (by decide) (fun c_1 => ?_) (fun c_1 => absurd (nI_le (by omega) (by omega)) c_1)
        refine lv_aload_n hx hb dX7_playOn_117 rfl (lv_at hl 1 rfl) ?_
        refine lv_iload hx hb dX7_playOn_118 (lv_at hl 5 rfl) ?_
        refine z_topi (y := nI (zFn b S t)) (by rw [← (zFn_ok hwt.2.1).2, ← zB9_ct hwt hGs, hR, zIt_0]) ?_
        refine z_callS (As := [.ref r, .int (nI (zFn b S t))]) (rest := []) (wc := rfW G r h b) (wr := [((a 0), .inr (7, [.int (u 0), .ref (a 1), .int (u 2), .ref (a 3), .ref (a 4), .ref (a 5), .ref (a 6), .int (u 7), .ref (a 8), .ref (a 9), .int (u 10), .int (u 11), .int (u 12), .long x, .int (u 14), .int (u 15)])), ((a 5), .inl (G.2 1, 121, .inl f))]) (w1 := [(r, .inl (G.2 1, 121, .inl (flt (zEtH h (zGoB b t (zFn b S t)) t P) (zEtB h (zGoB b t (zFn b S t)) t P))))]) (ws' := [((a 0), .inr (7, [.int (u 0), .ref (a 1), .int (u 2), .ref (a 3), .ref (a 4), .ref (a 5), .ref (a 6), .int (u 7), .ref (a 8), .ref (a 9), .int (u 10), .int (u 11), .int (u 12), .long x, .int (u 14), .int (u 15)])), (r, .inl (G.2 1, 121, .inl (flt (zEtH h (zGoB b t (zFn b S t)) t P) (zEtB h (zGoB b t (zFn b S t)) t P)))), ((a 5), .inl (G.2 1, 121, .inl f))]) ⟨hx, hb, hml, hown, hts⟩ (c_goOn l G r h b P t S hg2 hP0 (zFn b S t) (zFn_ok hwt.2.1).1) (va_cwS 2 hts gX7_playOn_X7_goOn rfl rfl rfl (by decide +kernel) ⟨Nat.le_of_ble_eq_true rfl, Nat.le_of_ble_eq_true rfl⟩) rfl hl.1 rfl (Nat.le_of_ble_eq_true rfl) dX7_playOn_120 ⟨Nat.le_of_ble_eq_true rfl, Nat.le_of_ble_eq_true rfl⟩ hK hE hA hM (pm_at 3 [1] [0, 2] rfl rfl rfl (by decide)) ((pm_at 3 [1] [0, 2] rfl rfl rfl (by decide))).symm (fun H locs hM hz => ?_)
        exact z_iret hx hb hr hlocks dX7_playOn_123 (by rw [zFtH, zFtB, hF1, hF2, if_neg c_0, if_neg c_0, if_neg c_0, if_neg c_0]; exact hM) (Nat.le_of_ble_eq_true rfl) (Nat.le_of_ble_eq_true rfl) (by rw [zFtR, hF2])
      | succ k ih =>
        intro i y hik hR H locs hM ls hl
        refine lv_iload hx hb dX7_playOn_51 (lv_at hl 6 rfl) ?_
        refine lv_bipush (v := 9) hx hb dX7_playOn_53 (by decide) ?_
        refine z_topi (y := nI 9) rfl ?_
        refine lv_icmp_ge (tgt := 117) hx hb dX7_playOn_55 (by decide) (fun c_2 => absurd c_2 (nI_ge (by omega) (by omega))) (fun c_2 => ?_)
        refine lv_iload hx hb dX7_playOn_58 (lv_at hl 4 rfl) ?_
        refine lv_iload hx hb dX7_playOn_60 (lv_at hl 6 rfl) ?_
        refine lv_ishr hx hb dX7_playOn_62 ?_
        refine lv_iconst (v := 1) hx hb dX7_playOn_63 (by decide) ?_
        refine lv_iand hx hb dX7_playOn_64 ?_
        refine lv_iconst (v := 1) hx hb dX7_playOn_65 (by decide) ?_
        refine lv_icmp_ne (tgt := 73) hx hb dX7_playOn_66 (by decide) (fun c_b => ?_) (fun c_b => ?_)
        · skip
          refine lv_iconst (v := 0) hx hb dX7_playOn_73 (by decide) ?_
          refine lv_istore (lv' := [(7, .int 0), (0, .ref (a 0)), (1, .ref r), (2, .int (nI t)), (3, .int (zSp (b t))), (4, .int (zRch (b t) S)), (5, .int y), (6, .int (nI i))]) hx hb dX7_playOn_74 hl (by decide) rfl (fun ls hl => ?_)
          refine lv_iload hx hb dX7_playOn_76 (lv_at hl 0 rfl) ?_
          refine lv_if_eq (tgt := 107) hx hb dX7_playOn_78 (by decide) (fun c_3 => ?_) (fun c_3 => absurd rfl c_3)
          refine lv_iload hx hb dX7_playOn_107 (lv_at hl 6 rfl) ?_
          refine lv_istore (lv' := [(5, .int y), (7, .int 0), (0, .ref (a 0)), (1, .ref r), (2, .int (nI t)), (3, .int (zSp (b t))), (4, .int (zRch (b t) S)), (6, .int (nI i))]) hx hb dX7_playOn_109 hl (by decide) rfl (fun ls hl => ?_)
          refine lv_iinc (v := nI (i + 1)) (lv' := [(6, .int (nI (i + 1))), (5, .int y), (7, .int 0), (0, .ref (a 0)), (1, .ref r), (2, .int (nI t)), (3, .int (zSp (b t))), (4, .int (zRch (b t) S))]) hx hb dX7_playOn_111 hl (k := 7) rfl (nI_1 i) (by decide) rfl (fun ls hl => ?_)
          refine lv_goto (tgt := 51) hx hb dX7_playOn_114 (by decide) ?_
          exact ih (i + 1) _ (by omega) (by rw [hR, zIt_s, zB1, if_neg (fun q => absurd q.1 (by rw [zIn_nI (by omega), decide_eq_false c_b]; decide))]) _ _ hM _ (lv_sub hl [3, 4, 5, 6, 7, 1, 0] rfl)
        · have hin : zIn (zRch (b t) S) (nI i) = true := by rw [zIn_nI (by omega)]; exact decide_eq_true c_b
          refine lv_iconst (v := 1) hx hb dX7_playOn_69 (by decide) ?_
          refine lv_goto (tgt := 74) hx hb dX7_playOn_70 (by decide) ?_
          refine lv_istore (lv' := [(7, .int 1), (0, .ref (a 0)), (1, .ref r), (2, .int (nI t)), (3, .int (zSp (b t))), (4, .int (zRch (b t) S)), (5, .int y), (6, .int (nI i))]) hx hb dX7_playOn_74 hl (by decide) rfl (fun ls hl => ?_)
          refine lv_iload hx hb dX7_playOn_76 (lv_at hl 0 rfl) ?_
          refine lv_if_eq (tgt := 107) hx hb dX7_playOn_78 (by decide) (fun c_4 => absurd c_4 (by decide)) (fun c_4 => ?_)
          refine lv_iload hx hb dX7_playOn_81 (lv_at hl 6 rfl) ?_
          refine lv_iconst (v := (-1)) hx hb dX7_playOn_83 (by decide) ?_
          refine lv_icmp_eq (tgt := 102) hx hb dX7_playOn_84 (by decide) (fun c_n => ?_) (fun c_n => ?_)
          · skip
            refine lv_iload hx hb dX7_playOn_102 (lv_at hl 7 rfl) ?_
            refine lv_goto (tgt := 109) hx hb dX7_playOn_104 (by decide) ?_
            refine lv_istore (lv' := [(5, .int (nI i)), (7, .int 1), (0, .ref (a 0)), (1, .ref r), (2, .int (nI t)), (3, .int (zSp (b t))), (4, .int (zRch (b t) S)), (6, .int (nI i))]) hx hb dX7_playOn_109 hl (by decide) rfl (fun ls hl => ?_)
            refine lv_iinc (v := nI (i + 1)) (lv' := [(6, .int (nI (i + 1))), (5, .int (nI i)), (7, .int 1), (0, .ref (a 0)), (1, .ref r), (2, .int (nI t)), (3, .int (zSp (b t))), (4, .int (zRch (b t) S))]) hx hb dX7_playOn_111 hl (k := 7) rfl (nI_1 i) (by decide) rfl (fun ls hl => ?_)
            refine lv_goto (tgt := 51) hx hb dX7_playOn_114 (by decide) ?_
            exact ih (i + 1) _ (by omega) (by rw [hR, zIt_s, zB1, if_pos ⟨hin, Or.inl c_n⟩]) _ _ hM _ (lv_sub hl [3, 4, 5, 6, 7, 1, 0] rfl)
          · skip
            refine lv_iload hx hb dX7_playOn_87 (lv_at hl 7 rfl) ?_
            refine lv_iload_n hx hb dX7_playOn_89 rfl (lv_at hl 4 rfl) ?_
            refine z_callS (As := [.int (nI i), .int (zSp (b t))]) (rest := []) (wc := []) (wr := [((a 0), .inr (7, [.int (u 0), .ref (a 1), .int (u 2), .ref (a 3), .ref (a 4), .ref (a 5), .ref (a 6), .int (u 7), .ref (a 8), .ref (a 9), .int (u 10), .int (u 11), .int (u 12), .long x, .int (u 14), .int (u 15)])), (r, .inl (G.2 1, 121, .inl (flt h b))), ((a 5), .inl (G.2 1, 121, .inl f))]) (w1 := []) (ws' := [((a 0), .inr (7, [.int (u 0), .ref (a 1), .int (u 2), .ref (a 3), .ref (a 4), .ref (a 5), .ref (a 6), .int (u 7), .ref (a 8), .ref (a 9), .int (u 10), .int (u 11), .int (u 12), .long x, .int (u 14), .int (u 15)])), (r, .inl (G.2 1, 121, .inl (flt h b))), ((a 5), .inl (G.2 1, 121, .inl f))]) ⟨hx, hb, hml, hown, hts⟩ (c_apartBy l G (nI i) (zSp (b t))) (va_cwS 2 hts gX7_playOn_X7_apartBy rfl rfl rfl (by decide +kernel) ⟨Nat.le_of_ble_eq_true rfl, Nat.le_of_ble_eq_true rfl⟩) rfl hl.1 rfl (Nat.le_of_ble_eq_true rfl) dX7_playOn_90 ⟨Nat.le_of_ble_eq_true rfl, Nat.le_of_ble_eq_true rfl⟩ hK hE hA hM (List.Perm.refl _) (List.Perm.refl _) (fun H locs hM hz => ?_)
            refine lv_iload hx hb dX7_playOn_93 (lv_at hl 6 rfl) ?_
            refine lv_iload_n hx hb dX7_playOn_95 rfl (lv_at hl 4 rfl) ?_
            refine z_callS (As := [.int y, .int (zSp (b t))]) (rest := [.int (zAb (nI i) (zSp (b t)))]) (wc := []) (wr := [((a 0), .inr (7, [.int (u 0), .ref (a 1), .int (u 2), .ref (a 3), .ref (a 4), .ref (a 5), .ref (a 6), .int (u 7), .ref (a 8), .ref (a 9), .int (u 10), .int (u 11), .int (u 12), .long x, .int (u 14), .int (u 15)])), (r, .inl (G.2 1, 121, .inl (flt h b))), ((a 5), .inl (G.2 1, 121, .inl f))]) (w1 := []) (ws' := [((a 0), .inr (7, [.int (u 0), .ref (a 1), .int (u 2), .ref (a 3), .ref (a 4), .ref (a 5), .ref (a 6), .int (u 7), .ref (a 8), .ref (a 9), .int (u 10), .int (u 11), .int (u 12), .long x, .int (u 14), .int (u 15)])), (r, .inl (G.2 1, 121, .inl (flt h b))), ((a 5), .inl (G.2 1, 121, .inl f))]) ⟨hx, hb, hml, hown, hts⟩ (c_apartBy l G y (zSp (b t))) (va_cwS 2 hts gX7_playOn_X7_apartBy rfl rfl rfl (by decide +kernel) ⟨Nat.le_of_ble_eq_true rfl, Nat.le_of_ble_eq_true rfl⟩) rfl hl.1 rfl (Nat.le_of_ble_eq_true rfl) dX7_playOn_96 ⟨Nat.le_of_ble_eq_true rfl, Nat.le_of_ble_eq_true rfl⟩ hK hE hA hM (List.Perm.refl _) (List.Perm.refl _) (fun H locs hM hz => ?_)
            refine lv_icmp_ge (tgt := 107) hx hb dX7_playOn_99 (by decide) (fun c_l => ?_) (fun c_l => ?_)
            · skip
              refine lv_iload hx hb dX7_playOn_107 (lv_at hl 6 rfl) ?_
              refine lv_istore (lv' := [(5, .int y), (7, .int 1), (0, .ref (a 0)), (1, .ref r), (2, .int (nI t)), (3, .int (zSp (b t))), (4, .int (zRch (b t) S)), (6, .int (nI i))]) hx hb dX7_playOn_109 hl (by decide) rfl (fun ls hl => ?_)
              refine lv_iinc (v := nI (i + 1)) (lv' := [(6, .int (nI (i + 1))), (5, .int y), (7, .int 1), (0, .ref (a 0)), (1, .ref r), (2, .int (nI t)), (3, .int (zSp (b t))), (4, .int (zRch (b t) S))]) hx hb dX7_playOn_111 hl (k := 7) rfl (nI_1 i) (by decide) rfl (fun ls hl => ?_)
              refine lv_goto (tgt := 51) hx hb dX7_playOn_114 (by decide) ?_
              exact ih (i + 1) _ (by omega) (by rw [hR, zIt_s, zB1, if_neg (fun q => q.2.elim c_n (Int32.not_lt.mpr c_l))]) _ _ hM _ (lv_sub hl [3, 4, 5, 6, 7, 1, 0] rfl)
            · skip
              refine lv_iload hx hb dX7_playOn_102 (lv_at hl 7 rfl) ?_
              refine lv_goto (tgt := 109) hx hb dX7_playOn_104 (by decide) ?_
              refine lv_istore (lv' := [(5, .int (nI i)), (7, .int 1), (0, .ref (a 0)), (1, .ref r), (2, .int (nI t)), (3, .int (zSp (b t))), (4, .int (zRch (b t) S)), (6, .int (nI i))]) hx hb dX7_playOn_109 hl (by decide) rfl (fun ls hl => ?_)
              refine lv_iinc (v := nI (i + 1)) (lv' := [(6, .int (nI (i + 1))), (5, .int (nI i)), (7, .int 1), (0, .ref (a 0)), (1, .ref r), (2, .int (nI t)), (3, .int (zSp (b t))), (4, .int (zRch (b t) S))]) hx hb dX7_playOn_111 hl (k := 7) rfl (nI_1 i) (by decide) rfl (fun ls hl => ?_)
              refine lv_goto (tgt := 51) hx hb dX7_playOn_114 (by decide) ?_
              exact ih (i + 1) _ (by omega) (by rw [hR, zIt_s, zB1, if_pos ⟨hin, Or.inr (Int32.not_le.mp c_l)⟩]) _ _ hM _ (lv_sub hl [3, 4, 5, 6, 7, 1, 0] rfl)
    exact lp51 9 0 _ rfl rfl _ _ hM _ (lv_sub hl [5, 6, 4, 3, 2, 1, 0] rfl)
  · obtain ⟨k8, n8, w8, hk8, hn8, hw8, e81, e82, e83, hm8⟩ := (zCs_ok h b S P sf).resolve_left (hC c_0)
    have hrl := zFs_rel (h := h) (S := S) hP4 hwb (u 11) (u 12) f sf
    have E1 : (zFs h b S P (u 11) (u 12) f).1 = nI k8 := hrl.1.trans e81
    have hr2 := hrl.2.resolve_left (fun q => nI_m1 (k := k8) (by omega) (E1.symm.trans q.1))
    have E2 : (zFs h b S P (u 11) (u 12) f).2.1 = nI n8 := hr2.2.1.trans e82
    have E3 : (zFs h b S P (u 11) (u 12) f).2.2.1 = w8 := hr2.2.2.1.trans e83
    have hF1 : zF1H h b S P sf = zShH h := by rw [zF1H, if_neg (hC c_0)]
    have hF2 : zF1B h b S P sf = va_up b k8 (zMv (b k8) n8 w8) := by rw [zF1B, if_neg (hC c_0), e81, e82, e83, nI_clamp (by omega), nI_clamp (by omega), zShB]
    refine lv_aload_n hx hb dX7_playOn_6 rfl (lv_at hl 0 rfl) ?_
    refine lv_aload_n hx hb dX7_playOn_7 rfl (lv_at hl 1 rfl) ?_
    refine z_callV (As := [.ref r]) (rest := []) (wc := [((a 0), .inr (7, [.int (u 0), .ref (a 1), .int (u 2), .ref (a 3), .ref (a 4), .ref (a 5), .ref (a 6), .int (u 7), .ref (a 8), .ref (a 9), .int (u 10), .int (u 11), .int (u 12), .long x, .int (u 14), .int (u 15)])), (r, .inl (G.2 1, 121, .inl (flt h b))), ((a 5), .inl (G.2 1, 121, .inl f))]) (wr := []) (w1 := [((a 0), .inr (7, [.int (u 0), .ref (a 1), .int (u 2), .ref (a 3), .ref (a 4), .ref (a 5), .ref (a 6), .int (u 7), .ref (a 8), .ref (a 9), .int ((zFs h b S P (u 11) (u 12) f).1), .int ((zFs h b S P (u 11) (u 12) f).2.1), .int ((zFs h b S P (u 11) (u 12) f).2.2.1), .long x, .int (u 14), .int (u 15)])), (r, .inl (G.2 1, 121, .inl (flt h b))), ((a 5), .inl (G.2 1, 121, .inl ((zFs h b S P (u 11) (u 12) f).2.2.2.2)))]) (ws' := [((a 0), .inr (7, [.int (u 0), .ref (a 1), .int (u 2), .ref (a 3), .ref (a 4), .ref (a 5), .ref (a 6), .int (u 7), .ref (a 8), .ref (a 9), .int ((zFs h b S P (u 11) (u 12) f).1), .int ((zFs h b S P (u 11) (u 12) f).2.1), .int ((zFs h b S P (u 11) (u 12) f).2.2.1), .long x, .int (u 14), .int (u 15)])), (r, .inl (G.2 1, 121, .inl (flt h b))), ((a 5), .inl (G.2 1, 121, .inl ((zFs h b S P (u 11) (u 12) f).2.2.2.2)))]) ⟨hx, hb, hml, hown, hts⟩ (c_findShift l G a u x f r h b P t S hg) (cwV 1 hts gX7_playOn_X7_findShift rfl rfl rfl (by decide +kernel) ⟨Nat.le_of_ble_eq_true rfl, Nat.le_of_ble_eq_true rfl⟩) 7 rfl rfl rfl rfl hl.1 rfl (Nat.le_of_ble_eq_true rfl) dX7_playOn_8 ⟨Nat.le_of_ble_eq_true rfl, Nat.le_of_ble_eq_true rfl⟩ hK hE hA hM (pm_at 3 [0, 1, 2] [] rfl rfl rfl (by decide)) ((pm_at 3 [0, 1, 2] [] rfl rfl rfl (by decide))).symm (fun H locs hM hz => ?_)
    refine lv_aload_n hx hb dX7_playOn_11 rfl (lv_at hl 1 rfl) ?_
    refine lv_aload_n hx hb dX7_playOn_12 rfl (lv_at hl 0 rfl) ?_
    refine z_get (ci := 7) (v := .int ((zFs h b S P (u 11) (u 12) f).1)) (C := RX7) (T := TX7) (N := 16) hx hb hts (by decide +kernel) hown hK hM 0 rfl rfl 10 (by decide) (hts (.fieldLink RX7 124 "ShiftIslesModel" "toPlayer" "I") (by decide +kernel)) (fun _ h9 => h9) rfl dX7_playOn_13 ?_
    refine lv_aload_n hx hb dX7_playOn_16 rfl (lv_at hl 0 rfl) ?_
    refine z_get (ci := 7) (v := .int ((zFs h b S P (u 11) (u 12) f).2.1)) (C := RX7) (T := TX7) (N := 16) hx hb hts (by decide +kernel) hown hK hM 0 rfl rfl 11 (by decide) (hts (.fieldLink RX7 134 "ShiftIslesModel" "toLine" "I") (by decide +kernel)) (fun _ h9 => h9) rfl dX7_playOn_17 ?_
    refine lv_aload_n hx hb dX7_playOn_20 rfl (lv_at hl 0 rfl) ?_
    refine z_get (ci := 7) (v := .int ((zFs h b S P (u 11) (u 12) f).2.2.1)) (C := RX7) (T := TX7) (N := 16) hx hb hts (by decide +kernel) hown hK hM 0 rfl rfl 12 (by decide) (hts (.fieldLink RX7 137 "ShiftIslesModel" "toDirection" "I") (by decide +kernel)) (fun _ h9 => h9) rfl dX7_playOn_21 ?_
    refine z_topi (y := w8) E3 ?_
    refine z_topi2 (y := nI n8) E2 ?_
    refine z_topi3 (y := nI k8) E1 ?_
    refine z_callS (As := [.ref r, .int (nI k8), .int (nI n8), .int w8]) (rest := []) (wc := rfW G r h b) (wr := [((a 0), .inr (7, [.int (u 0), .ref (a 1), .int (u 2), .ref (a 3), .ref (a 4), .ref (a 5), .ref (a 6), .int (u 7), .ref (a 8), .ref (a 9), .int ((zFs h b S P (u 11) (u 12) f).1), .int ((zFs h b S P (u 11) (u 12) f).2.1), .int ((zFs h b S P (u 11) (u 12) f).2.2.1), .long x, .int (u 14), .int (u 15)])), ((a 5), .inl (G.2 1, 121, .inl ((zFs h b S P (u 11) (u 12) f).2.2.2.2)))]) (w1 := [(r, .inl (G.2 1, 121, .inl (flt (zShH h) (va_up b k8 (zMv (b k8) n8 w8)))))]) (ws' := [((a 0), .inr (7, [.int (u 0), .ref (a 1), .int (u 2), .ref (a 3), .ref (a 4), .ref (a 5), .ref (a 6), .int (u 7), .ref (a 8), .ref (a 9), .int ((zFs h b S P (u 11) (u 12) f).1), .int ((zFs h b S P (u 11) (u 12) f).2.1), .int ((zFs h b S P (u 11) (u 12) f).2.2.1), .long x, .int (u 14), .int (u 15)])), (r, .inl (G.2 1, 121, .inl (flt (zShH h) (va_up b k8 (zMv (b k8) n8 w8))))), ((a 5), .inl (G.2 1, 121, .inl ((zFs h b S P (u 11) (u 12) f).2.2.2.2)))]) ⟨hx, hb, hml, hown, hts⟩ (c_shiftOn l G r h b P t S hg k8 n8 w8 hk8 hn8 hw8) (va_cwS 4 hts gX7_playOn_X7_shiftOn rfl rfl rfl (by decide +kernel) ⟨Nat.le_of_ble_eq_true rfl, Nat.le_of_ble_eq_true rfl⟩) rfl hl.1 rfl (Nat.le_of_ble_eq_true rfl) dX7_playOn_24 ⟨Nat.le_of_ble_eq_true rfl, Nat.le_of_ble_eq_true rfl⟩ hK hE hA hM (pm_at 3 [1] [0, 2] rfl rfl rfl (by decide)) ((pm_at 3 [1] [0, 2] rfl rfl rfl (by decide))).symm (fun H locs hM hz => ?_)
    refine lv_pop hx hb dX7_playOn_27 rfl ?_
    have hg2 : zWf (zShH h) (va_up b k8 (zMv (b k8) n8 w8)) P t S := zWf_sh hg hk8 hn8
    have hbt : va_up b k8 (zMv (b k8) n8 w8) t = b t := va_upn _ _ (Ne.symm (zMs_ne h1 hm8))
    refine lv_aload_n hx hb dX7_playOn_28 rfl (lv_at hl 1 rfl) ?_
    refine lv_iconst (v := 1) hx hb dX7_playOn_29 (by decide) ?_
    refine z_iald hx hb hK hM 1 rfl (v := h 1) (vp_in_nI (n := 1) (by decide) (by decide)) (flt_h (k := 1) (by decide)) dX7_playOn_30 ?_
    refine z_topi (y := nI t) h1 ?_
    refine lv_istore_n (lv' := [(2, .int (nI t)), (0, .ref (a 0)), (1, .ref r)]) hx hb dX7_playOn_31 rfl hl (by decide) rfl (fun ls hl => ?_)
    refine lv_aload_n hx hb dX7_playOn_32 rfl (lv_at hl 2 rfl) ?_
    refine lv_iload_n hx hb dX7_playOn_33 rfl (lv_at hl 0 rfl) ?_
    refine z_callS (As := [.ref r, .int (nI t)]) (rest := []) (wc := rfW G r (zShH h) (va_up b k8 (zMv (b k8) n8 w8))) (wr := [((a 0), .inr (7, [.int (u 0), .ref (a 1), .int (u 2), .ref (a 3), .ref (a 4), .ref (a 5), .ref (a 6), .int (u 7), .ref (a 8), .ref (a 9), .int ((zFs h b S P (u 11) (u 12) f).1), .int ((zFs h b S P (u 11) (u 12) f).2.1), .int ((zFs h b S P (u 11) (u 12) f).2.2.1), .long x, .int (u 14), .int (u 15)])), ((a 5), .inl (G.2 1, 121, .inl ((zFs h b S P (u 11) (u 12) f).2.2.2.2)))]) (w1 := rfW G r (zShH h) (va_up b k8 (zMv (b k8) n8 w8))) (ws' := [((a 0), .inr (7, [.int (u 0), .ref (a 1), .int (u 2), .ref (a 3), .ref (a 4), .ref (a 5), .ref (a 6), .int (u 7), .ref (a 8), .ref (a 9), .int ((zFs h b S P (u 11) (u 12) f).1), .int ((zFs h b S P (u 11) (u 12) f).2.1), .int ((zFs h b S P (u 11) (u 12) f).2.2.1), .long x, .int (u 14), .int (u 15)])), (r, .inl (G.2 1, 121, .inl (flt (zShH h) (va_up b k8 (zMv (b k8) n8 w8))))), ((a 5), .inl (G.2 1, 121, .inl ((zFs h b S P (u 11) (u 12) f).2.2.2.2)))]) ⟨hx, hb, hml, hown, hts⟩ (c_r_pos l G r (zShH h) (va_up b k8 (zMv (b k8) n8 w8)) t (by omega) (by rw [hbt]; exact hwt)) (va_cwS 2 hts gX7_playOn_X7_placeOfSought rfl rfl rfl (by decide +kernel) ⟨Nat.le_of_ble_eq_true rfl, Nat.le_of_ble_eq_true rfl⟩) rfl hl.1 rfl (Nat.le_of_ble_eq_true rfl) dX7_playOn_34 ⟨Nat.le_of_ble_eq_true rfl, Nat.le_of_ble_eq_true rfl⟩ hK hE hA hM (pm_at 3 [1] [0, 2] rfl rfl rfl (by decide)) ((pm_at 3 [1] [0, 2] rfl rfl rfl (by decide))).symm (fun H locs hM hz => ?_)
    refine z_topi (y := zSp (b t)) (by rw [hbt]) ?_
    refine lv_istore_n (lv' := [(3, .int (zSp (b t))), (2, .int (nI t)), (0, .ref (a 0)), (1, .ref r)]) hx hb dX7_playOn_37 rfl hl (by decide) rfl (fun ls hl => ?_)
    refine lv_aload_n hx hb dX7_playOn_38 rfl (lv_at hl 3 rfl) ?_
    refine lv_iload_n hx hb dX7_playOn_39 rfl (lv_at hl 1 rfl) ?_
    refine z_callS (As := [.ref r, .int (nI t)]) (rest := []) (wc := rfW G r (zShH h) (va_up b k8 (zMv (b k8) n8 w8))) (wr := [((a 0), .inr (7, [.int (u 0), .ref (a 1), .int (u 2), .ref (a 3), .ref (a 4), .ref (a 5), .ref (a 6), .int (u 7), .ref (a 8), .ref (a 9), .int ((zFs h b S P (u 11) (u 12) f).1), .int ((zFs h b S P (u 11) (u 12) f).2.1), .int ((zFs h b S P (u 11) (u 12) f).2.2.1), .long x, .int (u 14), .int (u 15)])), ((a 5), .inl (G.2 1, 121, .inl ((zFs h b S P (u 11) (u 12) f).2.2.2.2)))]) (w1 := rfW G r (zShH h) (va_up b k8 (zMv (b k8) n8 w8))) (ws' := [((a 0), .inr (7, [.int (u 0), .ref (a 1), .int (u 2), .ref (a 3), .ref (a 4), .ref (a 5), .ref (a 6), .int (u 7), .ref (a 8), .ref (a 9), .int ((zFs h b S P (u 11) (u 12) f).1), .int ((zFs h b S P (u 11) (u 12) f).2.1), .int ((zFs h b S P (u 11) (u 12) f).2.2.1), .long x, .int (u 14), .int (u 15)])), (r, .inl (G.2 1, 121, .inl (flt (zShH h) (va_up b k8 (zMv (b k8) n8 w8))))), ((a 5), .inl (G.2 1, 121, .inl ((zFs h b S P (u 11) (u 12) f).2.2.2.2)))]) ⟨hx, hb, hml, hown, hts⟩ (c_reachable l G r (zShH h) (va_up b k8 (zMv (b k8) n8 w8)) t S (by omega) hS (by rw [hbt]; exact hwt) ((pk_un (f := h) (k := 2) (j := 6) (x := 1) (by decide)).trans h6)) (va_cwS 2 hts gX7_playOn_X7_reachable rfl rfl rfl (by decide +kernel) ⟨Nat.le_of_ble_eq_true rfl, Nat.le_of_ble_eq_true rfl⟩) rfl hl.1 rfl (Nat.le_of_ble_eq_true rfl) dX7_playOn_40 ⟨Nat.le_of_ble_eq_true rfl, Nat.le_of_ble_eq_true rfl⟩ hK hE hA hM (pm_at 3 [1] [0, 2] rfl rfl rfl (by decide)) ((pm_at 3 [1] [0, 2] rfl rfl rfl (by decide))).symm (fun H locs hM hz => ?_)
    refine z_topi (y := zRch (b t) S) (by rw [hbt]) ?_
    refine lv_istore (lv' := [(4, .int (zRch (b t) S)), (3, .int (zSp (b t))), (2, .int (nI t)), (0, .ref (a 0)), (1, .ref r)]) hx hb dX7_playOn_43 hl (by decide) rfl (fun ls hl => ?_)
    refine lv_iconst (v := (-1)) hx hb dX7_playOn_45 (by decide) ?_
    refine lv_istore (lv' := [(5, .int (-1)), (4, .int (zRch (b t) S)), (3, .int (zSp (b t))), (2, .int (nI t)), (0, .ref (a 0)), (1, .ref r)]) hx hb dX7_playOn_46 hl (by decide) rfl (fun ls hl => ?_)
    refine lv_iconst (v := nI 0) hx hb dX7_playOn_48 (by decide) ?_
    refine lv_istore (lv' := [(6, .int (nI 0)), (5, .int (-1)), (4, .int (zRch (b t) S)), (3, .int (zSp (b t))), (2, .int (nI t)), (0, .ref (a 0)), (1, .ref r)]) hx hb dX7_playOn_49 hl (by decide) rfl (fun ls hl => ?_)
    have lp51 : ∀ (k : Nat) (i : Nat) (y : Int32), (i + k = 9) → (zIt (zB1 (zSp (b t)) (zRch (b t) S)) 9 0 (-1) = zIt (zB1 (zSp (b t)) (zRch (b t) S)) k i y) → ∀ (H : Heap) (locs : List Loc), zM G A s H locs ([((a 0), .inr (7, [.int (u 0), .ref (a 1), .int (u 2), .ref (a 3), .ref (a 4), .ref (a 5), .ref (a 6), .int (u 7), .ref (a 8), .ref (a 9), .int ((zFs h b S P (u 11) (u 12) f).1), .int ((zFs h b S P (u 11) (u 12) f).2.1), .int ((zFs h b S P (u 11) (u 12) f).2.2.1), .long x, .int (u 14), .int (u 15)])), (r, .inl (G.2 1, 121, .inl (flt (zShH h) (va_up b k8 (zMv (b k8) n8 w8))))), ((a 5), .inl (G.2 1, 121, .inl ((zFs h b S P (u 11) (u 12) f).2.2.2.2)))]) → ∀ ls : Array Slot, lv_has ls 8 [(0, .ref (a 0)), (1, .ref r), (2, .int (nI t)), (3, .int (zSp (b t))), (4, .int (zRch (b t) S)), (5, .int y), (6, .int (nI i))] → W p l e rmX7_playOn s m ([.ref (a 0), .ref r] : List Value).toArray below meth c H locs 0 0 (zEnd G below ([.ref (a 0), .ref r] : List Value).toArray s rmX7_playOn A (some (.int (zFtR h b P t S sf))) ([((a 0), .inr (7, [.int (u 0), .ref (a 1), .int (u 2), .ref (a 3), .ref (a 4), .ref (a 5), .ref (a 6), .int (u 7), .ref (a 8), .ref (a 9), .int (if h 2 = 0 then (zFs h b S P (u 11) (u 12) f).1 else u 10), .int (if h 2 = 0 then (zFs h b S P (u 11) (u 12) f).2.1 else u 11), .int (if h 2 = 0 then (zFs h b S P (u 11) (u 12) f).2.2.1 else u 12), .long x, .int (u 14), .int (u 15)])), (r, .inl (G.2 1, 121, .inl (flt (zFtH h b P t S sf) (zFtB h b P t S sf)))), ((a 5), .inl (G.2 1, 121, .inl (if h 2 = 0 then (zFs h b S P (u 11) (u 12) f).2.2.2.2 else f)))])) (F0 m 51 ls []) := by
      intro k
      induction k with
      | zero =>
        intro i y hik hR H locs hM ls hl
        refine lv_iload hx hb dX7_playOn_51 (lv_at hl 6 rfl) ?_
        refine lv_bipush (v := 9) hx hb dX7_playOn_53 (by decide) ?_
        refine z_topi (y := nI 9) rfl ?_
        refine lv_icmp_ge (tgt := 117) hx hb dX7_playOn_55 (by decide) (fun c_5 => ?_) (fun c_5 => absurd (nI_le (by omega) (by omega)) c_5)
        refine lv_aload_n hx hb dX7_playOn_117 rfl (lv_at hl 1 rfl) ?_
        refine lv_iload hx hb dX7_playOn_118 (lv_at hl 5 rfl) ?_
        refine z_topi (y := nI (zFn b S t)) (by rw [← (zFn_ok hwt.2.1).2, ← zB9_ct hwt hGs, hR, zIt_0]) ?_
        refine z_callS (As := [.ref r, .int (nI (zFn b S t))]) (rest := []) (wc := rfW G r (zShH h) (va_up b k8 (zMv (b k8) n8 w8))) (wr := [((a 0), .inr (7, [.int (u 0), .ref (a 1), .int (u 2), .ref (a 3), .ref (a 4), .ref (a 5), .ref (a 6), .int (u 7), .ref (a 8), .ref (a 9), .int ((zFs h b S P (u 11) (u 12) f).1), .int ((zFs h b S P (u 11) (u 12) f).2.1), .int ((zFs h b S P (u 11) (u 12) f).2.2.1), .long x, .int (u 14), .int (u 15)])), ((a 5), .inl (G.2 1, 121, .inl ((zFs h b S P (u 11) (u 12) f).2.2.2.2)))]) (w1 := [(r, .inl (G.2 1, 121, .inl (flt (zEtH (zShH h) (zGoB (va_up b k8 (zMv (b k8) n8 w8)) t (zFn b S t)) t P) (zEtB (zShH h) (zGoB (va_up b k8 (zMv (b k8) n8 w8)) t (zFn b S t)) t P))))]) (ws' := [((a 0), .inr (7, [.int (u 0), .ref (a 1), .int (u 2), .ref (a 3), .ref (a 4), .ref (a 5), .ref (a 6), .int (u 7), .ref (a 8), .ref (a 9), .int ((zFs h b S P (u 11) (u 12) f).1), .int ((zFs h b S P (u 11) (u 12) f).2.1), .int ((zFs h b S P (u 11) (u 12) f).2.2.1), .long x, .int (u 14), .int (u 15)])), (r, .inl (G.2 1, 121, .inl (flt (zEtH (zShH h) (zGoB (va_up b k8 (zMv (b k8) n8 w8)) t (zFn b S t)) t P) (zEtB (zShH h) (zGoB (va_up b k8 (zMv (b k8) n8 w8)) t (zFn b S t)) t P)))), ((a 5), .inl (G.2 1, 121, .inl ((zFs h b S P (u 11) (u 12) f).2.2.2.2)))]) ⟨hx, hb, hml, hown, hts⟩ (c_goOn l G r (zShH h) (va_up b k8 (zMv (b k8) n8 w8)) P t S hg2 hP0 (zFn b S t) (zFn_ok hwt.2.1).1) (va_cwS 2 hts gX7_playOn_X7_goOn rfl rfl rfl (by decide +kernel) ⟨Nat.le_of_ble_eq_true rfl, Nat.le_of_ble_eq_true rfl⟩) rfl hl.1 rfl (Nat.le_of_ble_eq_true rfl) dX7_playOn_120 ⟨Nat.le_of_ble_eq_true rfl, Nat.le_of_ble_eq_true rfl⟩ hK hE hA hM (pm_at 3 [1] [0, 2] rfl rfl rfl (by decide)) ((pm_at 3 [1] [0, 2] rfl rfl rfl (by decide))).symm (fun H locs hM hz => ?_)
        exact z_iret hx hb hr hlocks dX7_playOn_123 (by rw [zFtH, zFtB, hF1, hF2, if_pos c_0, if_pos c_0, if_pos c_0, if_pos c_0]; exact hM) (Nat.le_of_ble_eq_true rfl) (Nat.le_of_ble_eq_true rfl) (by rw [zFtR, hF2])
      | succ k ih =>
        intro i y hik hR H locs hM ls hl
        refine lv_iload hx hb dX7_playOn_51 (lv_at hl 6 rfl) ?_
        refine lv_bipush (v := 9) hx hb dX7_playOn_53 (by decide) ?_
        refine z_topi (y := nI 9) rfl ?_
        refine lv_icmp_ge (tgt := 117) hx hb dX7_playOn_55 (by decide) (fun c_6 => absurd c_6 (nI_ge (by omega) (by omega))) (fun c_6 => ?_)
        refine lv_iload hx hb dX7_playOn_58 (lv_at hl 4 rfl) ?_
        refine lv_iload hx hb dX7_playOn_60 (lv_at hl 6 rfl) ?_
        refine lv_ishr hx hb dX7_playOn_62 ?_
        refine lv_iconst (v := 1) hx hb dX7_playOn_63 (by decide) ?_
        refine lv_iand hx hb dX7_playOn_64 ?_
        refine lv_iconst (v := 1) hx hb dX7_playOn_65 (by decide) ?_
        refine lv_icmp_ne (tgt := 73) hx hb dX7_playOn_66 (by decide) (fun c_b => ?_) (fun c_b => ?_)
        · skip
          refine lv_iconst (v := 0) hx hb dX7_playOn_73 (by decide) ?_
          refine lv_istore (lv' := [(7, .int 0), (0, .ref (a 0)), (1, .ref r), (2, .int (nI t)), (3, .int (zSp (b t))), (4, .int (zRch (b t) S)), (5, .int y), (6, .int (nI i))]) hx hb dX7_playOn_74 hl (by decide) rfl (fun ls hl => ?_)
          refine lv_iload hx hb dX7_playOn_76 (lv_at hl 0 rfl) ?_
          refine lv_if_eq (tgt := 107) hx hb dX7_playOn_78 (by decide) (fun c_7 => ?_) (fun c_7 => absurd rfl c_7)
          refine lv_iload hx hb dX7_playOn_107 (lv_at hl 6 rfl) ?_
          refine lv_istore (lv' := [(5, .int y), (7, .int 0), (0, .ref (a 0)), (1, .ref r), (2, .int (nI t)), (3, .int (zSp (b t))), (4, .int (zRch (b t) S)), (6, .int (nI i))]) hx hb dX7_playOn_109 hl (by decide) rfl (fun ls hl => ?_)
          refine lv_iinc (v := nI (i + 1)) (lv' := [(6, .int (nI (i + 1))), (5, .int y), (7, .int 0), (0, .ref (a 0)), (1, .ref r), (2, .int (nI t)), (3, .int (zSp (b t))), (4, .int (zRch (b t) S))]) hx hb dX7_playOn_111 hl (k := 7) rfl (nI_1 i) (by decide) rfl (fun ls hl => ?_)
          refine lv_goto (tgt := 51) hx hb dX7_playOn_114 (by decide) ?_
          exact ih (i + 1) _ (by omega) (by rw [hR, zIt_s, zB1, if_neg (fun q => absurd q.1 (by rw [zIn_nI (by omega), decide_eq_false c_b]; decide))]) _ _ hM _ (lv_sub hl [3, 4, 5, 6, 7, 1, 0] rfl)
        · have hin : zIn (zRch (b t) S) (nI i) = true := by rw [zIn_nI (by omega)]; exact decide_eq_true c_b
          refine lv_iconst (v := 1) hx hb dX7_playOn_69 (by decide) ?_
          refine lv_goto (tgt := 74) hx hb dX7_playOn_70 (by decide) ?_
          refine lv_istore (lv' := [(7, .int 1), (0, .ref (a 0)), (1, .ref r), (2, .int (nI t)), (3, .int (zSp (b t))), (4, .int (zRch (b t) S)), (5, .int y), (6, .int (nI i))]) hx hb dX7_playOn_74 hl (by decide) rfl (fun ls hl => ?_)
          refine lv_iload hx hb dX7_playOn_76 (lv_at hl 0 rfl) ?_
          refine lv_if_eq (tgt := 107) hx hb dX7_playOn_78 (by decide) (fun c_8 => absurd c_8 (by decide)) (fun c_8 => ?_)
          refine lv_iload hx hb dX7_playOn_81 (lv_at hl 6 rfl) ?_
          refine lv_iconst (v := (-1)) hx hb dX7_playOn_83 (by decide) ?_
          refine lv_icmp_eq (tgt := 102) hx hb dX7_playOn_84 (by decide) (fun c_n => ?_) (fun c_n => ?_)
          · skip
            refine lv_iload hx hb dX7_playOn_102 (lv_at hl 7 rfl) ?_
            refine lv_goto (tgt := 109) hx hb dX7_playOn_104 (by decide) ?_
            refine lv_istore (lv' := [(5, .int (nI i)), (7, .int 1), (0, .ref (a 0)), (1, .ref r), (2, .int (nI t)), (3, .int (zSp (b t))), (4, .int (zRch (b t) S)), (6, .int (nI i))]) hx hb dX7_playOn_109 hl (by decide) rfl (fun ls hl => ?_)
            refine lv_iinc (v := nI (i + 1)) (lv' := [(6, .int (nI (i + 1))), (5, .int (nI i)), (7, .int 1), (0, .ref (a 0)), (1, .ref r), (2, .int (nI t)), (3, .int (zSp (b t))), (4, .int (zRch (b t) S))]) hx hb dX7_playOn_111 hl (k := 7) rfl (nI_1 i) (by decide) rfl (fun ls hl => ?_)
            refine lv_goto (tgt := 51) hx hb dX7_playOn_114 (by decide) ?_
            exact ih (i + 1) _ (by omega) (by rw [hR, zIt_s, zB1, if_pos ⟨hin, Or.inl c_n⟩]) _ _ hM _ (lv_sub hl [3, 4, 5, 6, 7, 1, 0] rfl)
          · skip
            refine lv_iload hx hb dX7_playOn_87 (lv_at hl 7 rfl) ?_
            refine lv_iload_n hx hb dX7_playOn_89 rfl (lv_at hl 4 rfl) ?_
            refine z_callS (As := [.int (nI i), .int (zSp (b t))]) (rest := []) (wc := []) (wr := [((a 0), .inr (7, [.int (u 0), .ref (a 1), .int (u 2), .ref (a 3), .ref (a 4), .ref (a 5), .ref (a 6), .int (u 7), .ref (a 8), .ref (a 9), .int ((zFs h b S P (u 11) (u 12) f).1), .int ((zFs h b S P (u 11) (u 12) f).2.1), .int ((zFs h b S P (u 11) (u 12) f).2.2.1), .long x, .int (u 14), .int (u 15)])), (r, .inl (G.2 1, 121, .inl (flt (zShH h) (va_up b k8 (zMv (b k8) n8 w8))))), ((a 5), .inl (G.2 1, 121, .inl ((zFs h b S P (u 11) (u 12) f).2.2.2.2)))]) (w1 := []) (ws' := [((a 0), .inr (7, [.int (u 0), .ref (a 1), .int (u 2), .ref (a 3), .ref (a 4), .ref (a 5), .ref (a 6), .int (u 7), .ref (a 8), .ref (a 9), .int ((zFs h b S P (u 11) (u 12) f).1), .int ((zFs h b S P (u 11) (u 12) f).2.1), .int ((zFs h b S P (u 11) (u 12) f).2.2.1), .long x, .int (u 14), .int (u 15)])), (r, .inl (G.2 1, 121, .inl (flt (zShH h) (va_up b k8 (zMv (b k8) n8 w8))))), ((a 5), .inl (G.2 1, 121, .inl ((zFs h b S P (u 11) (u 12) f).2.2.2.2)))]) ⟨hx, hb, hml, hown, hts⟩ (c_apartBy l G (nI i) (zSp (b t))) (va_cwS 2 hts gX7_playOn_X7_apartBy rfl rfl rfl (by decide +kernel) ⟨Nat.le_of_ble_eq_true rfl, Nat.le_of_ble_eq_true rfl⟩) rfl hl.1 rfl (Nat.le_of_ble_eq_true rfl) dX7_playOn_90 ⟨Nat.le_of_ble_eq_true rfl, Nat.le_of_ble_eq_true rfl⟩ hK hE hA hM (List.Perm.refl _) (List.Perm.refl _) (fun H locs hM hz => ?_)
            refine lv_iload hx hb dX7_playOn_93 (lv_at hl 6 rfl) ?_
            refine lv_iload_n hx hb dX7_playOn_95 rfl (lv_at hl 4 rfl) ?_
            refine z_callS (As := [.int y, .int (zSp (b t))]) (rest := [.int (zAb (nI i) (zSp (b t)))]) (wc := []) (wr := [((a 0), .inr (7, [.int (u 0), .ref (a 1), .int (u 2), .ref (a 3), .ref (a 4), .ref (a 5), .ref (a 6), .int (u 7), .ref (a 8), .ref (a 9), .int ((zFs h b S P (u 11) (u 12) f).1), .int ((zFs h b S P (u 11) (u 12) f).2.1), .int ((zFs h b S P (u 11) (u 12) f).2.2.1), .long x, .int (u 14), .int (u 15)])), (r, .inl (G.2 1, 121, .inl (flt (zShH h) (va_up b k8 (zMv (b k8) n8 w8))))), ((a 5), .inl (G.2 1, 121, .inl ((zFs h b S P (u 11) (u 12) f).2.2.2.2)))]) (w1 := []) (ws' := [((a 0), .inr (7, [.int (u 0), .ref (a 1), .int (u 2), .ref (a 3), .ref (a 4), .ref (a 5), .ref (a 6), .int (u 7), .ref (a 8), .ref (a 9), .int ((zFs h b S P (u 11) (u 12) f).1), .int ((zFs h b S P (u 11) (u 12) f).2.1), .int ((zFs h b S P (u 11) (u 12) f).2.2.1), .long x, .int (u 14), .int (u 15)])), (r, .inl (G.2 1, 121, .inl (flt (zShH h) (va_up b k8 (zMv (b k8) n8 w8))))), ((a 5), .inl (G.2 1, 121, .inl ((zFs h b S P (u 11) (u 12) f).2.2.2.2)))]) ⟨hx, hb, hml, hown, hts⟩ (c_apartBy l G y (zSp (b t))) (va_cwS 2 hts gX7_playOn_X7_apartBy rfl rfl rfl (by decide +kernel) ⟨Nat.le_of_ble_eq_true rfl, Nat.le_of_ble_eq_true rfl⟩) rfl hl.1 rfl (Nat.le_of_ble_eq_true rfl) dX7_playOn_96 ⟨Nat.le_of_ble_eq_true rfl, Nat.le_of_ble_eq_true rfl⟩ hK hE hA hM (List.Perm.refl _) (List.Perm.refl _) (fun H locs hM hz => ?_)
            refine lv_icmp_ge (tgt := 107) hx hb dX7_playOn_99 (by decide) (fun c_l => ?_) (fun c_l => ?_)
            · skip
              refine lv_iload hx hb dX7_playOn_107 (lv_at hl 6 rfl) ?_
              refine lv_istore (lv' := [(5, .int y), (7, .int 1), (0, .ref (a 0)), (1, .ref r), (2, .int (nI t)), (3, .int (zSp (b t))), (4, .int (zRch (b t) S)), (6, .int (nI i))]) hx hb dX7_playOn_109 hl (by decide) rfl (fun ls hl => ?_)
              refine lv_iinc (v := nI (i + 1)) (lv' := [(6, .int (nI (i + 1))), (5, .int y), (7, .int 1), (0, .ref (a 0)), (1, .ref r), (2, .int (nI t)), (3, .int (zSp (b t))), (4, .int (zRch (b t) S))]) hx hb dX7_playOn_111 hl (k := 7) rfl (nI_1 i) (by decide) rfl (fun ls hl => ?_)
              refine lv_goto (tgt := 51) hx hb dX7_playOn_114 (by decide) ?_
              exact ih (i + 1) _ (by omega) (by rw [hR, zIt_s, zB1, if_neg (fun q => q.2.elim c_n (Int32.not_lt.mpr c_l))]) _ _ hM _ (lv_sub hl [3, 4, 5, 6, 7, 1, 0] rfl)
            · skip
              refine lv_iload hx hb dX7_playOn_102 (lv_at hl 7 rfl) ?_
              refine lv_goto (tgt := 109) hx hb dX7_playOn_104 (by decide) ?_
              refine lv_istore (lv' := [(5, .int (nI i)), (7, .int 1), (0, .ref (a 0)), (1, .ref r), (2, .int (nI t)), (3, .int (zSp (b t))), (4, .int (zRch (b t) S)), (6, .int (nI i))]) hx hb dX7_playOn_109 hl (by decide) rfl (fun ls hl => ?_)
              refine lv_iinc (v := nI (i + 1)) (lv' := [(6, .int (nI (i + 1))), (5, .int (nI i)), (7, .int 1), (0, .ref (a 0)), (1, .ref r), (2, .int (nI t)), (3, .int (zSp (b t))), (4, .int (zRch (b t) S))]) hx hb dX7_playOn_111 hl (k := 7) rfl (nI_1 i) (by decide) rfl (fun ls hl => ?_)
              refine lv_goto (tgt := 51) hx hb dX7_playOn_114 (by decide) ?_
              exact ih (i + 1) _ (by omega) (by rw [hR, zIt_s, zB1, if_pos ⟨hin, Or.inr (Int32.not_le.mp c_l)⟩]) _ _ hM _ (lv_sub hl [3, 4, 5, 6, 7, 1, 0] rfl)
    exact lp51 9 0 _ rfl rfl _ _ hM _ (lv_sub hl [5, 6, 4, 3, 2, 1, 0] rfl)
