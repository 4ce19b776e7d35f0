/-! games that agree go on to games that agree -/
theorem zGs_be {h : Nat → Int32} {b c : Nat → Nat → Int32} {P t S e : Nat} (w : zGs h b P t S e) (q : zBe P b c) : zGs h c P t S e := by
  obtain ⟨⟨g, hp, hw⟩, hx, h5, h6, h7, h8, h9⟩ := w
  refine ⟨⟨g, hp, fun p k => ?_⟩, fun p k => ?_, h5, h6, h7, h8, fun z => ⟨(h9 z).1, fun p k => ?_⟩⟩
  · rw [← q p k]; exact hw p k
  · rw [← q p k]; exact hx p k
  · rw [← q p k]; exact (h9 z).2 p k
theorem zSm_d {h i : Nat → Int32} {b c : Nat → Nat → Int32} {P t S e : Nat} (w : zGs h b P t S e) (q : zSm (h, b) (i, c)) : h = i ∧ zBe P b c := by
  obtain ⟨q1, q2⟩ := q
  refine ⟨q1, ?_⟩
  have e1 := (zWf_e w.1).1
  rw [← e1]
  exact q2
theorem zSm_m {h : Nat → Int32} {b c : Nat → Nat → Int32} {P t S e : Nat} (w : zGs h b P t S e) (q : zBe P b c) : zSm (h, b) (h, c) := by
  refine ⟨rfl, ?_⟩
  have e1 := (zWf_e w.1).1
  show zBe (zPp h) b c
  rw [e1]
  exact q
theorem zSm_go {s r : zHB} {n : Nat} (w : zXy s) (hr : zRu s.1 = true) (hn : n < 9) (q : zSm s r) : zSm (zGoS n s) (zGoS n r) := by
  obtain ⟨h, b⟩ := s
  obtain ⟨i, c⟩ := r
  obtain ⟨P, t, S, e, w⟩ := w
  have q2 := zSm_d w q
  have q3 := q2.2
  cases q2.1
  have hP := zRu_P w.1.1.1 w.1.1.2.1 hr
  obtain ⟨t', w'⟩ := zGs_go w hP (zRu_4 hr) hn
  have k := zGo_b (h := h) n q3 (w.1.2.1 hP).1
  rw [zGoS_e w.1 n, zGoS_e (zGs_be w q3).1 n, ← k.1]
  exact zSm_m w' k.2
theorem zSm_lk {s r : zHB} {n : Int32} (w : zXy s) (hr : zRu s.1 = true) (q : zSm s r) : zSm (zLkS n s) (zLkS n r) := by
  obtain ⟨h, b⟩ := s
  obtain ⟨i, c⟩ := r
  obtain ⟨P, t, S, e, w⟩ := w
  have q2 := zSm_d w q
  have q3 := q2.2
  cases q2.1
  have hP := zRu_P w.1.1.1 w.1.1.2.1 hr
  obtain ⟨t', w'⟩ := zGs_lk (n := n) w hP (zRu_4 hr)
  have k := zLk_b (h := h) n q3 (w.1.2.1 hP).1
  rw [zLkS_e w.1 n, zLkS_e (zGs_be w q3).1 n, ← k.1]
  exact zSm_m w' k.2
theorem zSm_q {s r : zHB} (w : zXy s) (hr : zRu s.1 = true) (q : zSm s r) : zSm (zPlq s) (zPlq r) := by
  obtain ⟨h, b⟩ := s
  obtain ⟨i, c⟩ := r
  obtain ⟨P, t, S, e, w⟩ := w
  have q2 := zSm_d w q
  have q3 := q2.2
  cases q2.1
  have hP := zRu_P w.1.1.1 w.1.1.2.1 hr
  obtain ⟨t', w'⟩ := zGs_ft zZ w hr
  have k := zFt_b (h := h) w.1.1.2.1 q3 (w.1.2.1 hP).1 S zZ
  rw [zQ_e w.1 zZ, zQ_e (zGs_be w q3).1 zZ, ← k.1]
  exact zSm_m w' k.2.1
theorem zSm_sh {s r : zHB} {k n : Nat} {d : Int32} (w : zXy s) (hk : k < 1000) (hn : n < 1000) (hm : zMs s.1 s.2 k (nI n) d = true) (q : zSm s r) : zSm (zShS k n d s) (zShS k n d r) := by
  obtain ⟨h, b⟩ := s
  obtain ⟨i, c⟩ := r
  obtain ⟨P, t, S, e, w⟩ := w
  have q2 := zSm_d w q
  have q3 := q2.2
  cases q2.1
  have g := zMs_r hm
  have hkP := (zHp_lt w.1.1.1 w.1.1.2.1 (by omega)).mp g.2.2.1
  exact zSm_m (zGs_sh w hkP (zLi_lt (by omega) g.2.2.2.1)) (zBe_up q3 (congrArg (fun f => zMv f n d) (q3 k hkP)))
theorem zMs_m {s r : zHB} {k : Nat} {n d : Int32} (w : zXy s) (hk : k < 1000) (q : zSm s r) : zMs s.1 s.2 k n d = zMs r.1 r.2 k n d := by
  obtain ⟨h, b⟩ := s
  obtain ⟨i, c⟩ := r
  obtain ⟨P, t, S, e, w⟩ := w
  have q2 := zSm_d w q
  have q3 := q2.2
  cases q2.1
  exact zMs_be w.1.1.1 w.1.1.2.1 hk q3 n d
theorem zMg_b {h : Nat → Int32} {b c : Nat → Nat → Int32} {S t : Nat} {n : Int32} (e : b t = c t) : zMg h b S t n = zMg h c S t n := by
  unfold zMg zRs
  rw [e]
theorem zMg_m {s r : zHB} {n : Int32} (w : zXy s) (q : zSm s r) : zMg s.1 s.2 (zSs s.1) (zTt s.1) n = zMg r.1 r.2 (zSs r.1) (zTt r.1) n := by
  obtain ⟨h, b⟩ := s
  obtain ⟨i, c⟩ := r
  obtain ⟨P, t, S, e, w⟩ := w
  have q2 := zSm_d w q
  have q3 := q2.2
  cases q2.1
  have e3 := zWf_e w.1
  show zMg h b (zSs h) (zTt h) n = zMg h c (zSs h) (zTt h) n
  by_cases hr : zRu h = true
  · refine zMg_b ?_
    rw [e3.2.1]
    exact q3 t (w.1.2.1 (zRu_P w.1.1.1 w.1.1.2.1 hr)).1
  · unfold zMg zMe
    rw [Bool.eq_false_iff.mpr hr]
    simp only [Bool.false_and]
theorem zSm_ru {s r : zHB} (q : zSm s r) : zRu s.1 = zRu r.1 := congrArg zRu q.1
theorem zSm_mv {s r : zHB} {k : Nat} (w : zXy s) (hr : zRu s.1 = true) (q : zSm s r) : zSm (zMvS k s) (zMvS k r) := by
  unfold zMvS
  rw [← zMs_m w (by omega) q, ← zMg_m w q, ← q.1]
  split
  · split
    · rename_i hm
      exact zSm_sh w (by omega) (by omega) hm q
    · exact zSm_q w hr q
  · split
    · exact zSm_lk w hr q
    · split
      · exact zSm_go w hr (by omega) q
      · exact zSm_q w hr q
theorem zSm_run : ∀ (k : Nat) {s r : zHB}, zXy s → zSm s r → zSm (zRun k s) (zRun k r)
  | 0, _, _, _, q => q
  | k + 1, s, r, w, q => by
    by_cases hr : zRu s.1 = true
    · rw [zRun_on hr, zRun_on ((zSm_ru q).symm.trans hr)]
      exact zSm_run k (zXs_q w hr) (zSm_q w hr q)
    · rw [zRun_off hr, zRun_off (fun z => hr ((zSm_ru q).trans z))]
      exact q
theorem zSm_sml : ∀ (k : Nat) {s r : zHB} (y : Int64), zXy s → zSm s r → zSm (zSml k y s) (zSml k y r)
  | 0, _, _, _, _, q => q
  | k + 1, s, r, y, w, q => by
    by_cases hr : zRu s.1 = true
    · rw [zSml, zSml, if_pos hr, if_pos ((zSm_ru q).symm.trans hr)]
      exact zSm_sml k (zNx y) (zXs_mv (zRk_lt y) w hr) (zSm_mv w hr q)
    · rw [zSml, zSml, if_neg hr, if_neg (fun z => hr ((zSm_ru q).trans z))]
      exact q
theorem zHp_m {s r : zHB} {P t S e a : Nat} (w : zGs s.1 s.2 P t S e) (q : zBe P s.2 r.2) (ha : a < 1000) (hp : zHp s.1 (nI a) = true) : s.2 a = r.2 a := q a ((zHp_lt w.1.1.1 w.1.1.2.1 (by omega)).mp hp)
theorem and_c {x y z : Bool} (h : x = true → y = z) : (x && y) = (x && z) := by
  cases x
  · rfl
  · rw [h rfl]
theorem zCmd_m {s r : zHB} {w a b c : Nat} (hx : zXy s) (q : zSm s r) (ha : a < 10) : zCmdB w a b c s = zCmdB w a b c r := by
  have e1 := zMs_m (n := nI b) (d := nI c) (k := a) hx (by omega) q
  have e2 := zMg_m (n := nI c) hx q
  obtain ⟨h, b1⟩ := s
  obtain ⟨i, c1⟩ := r
  obtain ⟨P, t, S, e, w1⟩ := hx
  have q2 := zSm_d w1 q
  have q3 := q2.2
  cases q2.1
  have e3 : ∀ z : Bool, zHp h (nI a) = true → b1 a = c1 a := fun _ hp => q3 a ((zHp_lt w1.1.1.1 w1.1.1.2.1 (by omega)).mp hp)
  have e4 : zRs h b1 (zSs h) a (nI b) = zRs h c1 (zSs h) a (nI b) := by
    unfold zRs
    exact and_c (fun hp => by rw [e3 true hp])
  have e5 : (decide (b = 0) && zHp h (nI a) && decide (nI c ≤ b1 a 23)) = (decide (b = 0) && zHp h (nI a) && decide (nI c ≤ c1 a 23)) := by
    by_cases hp : zHp h (nI a) = true
    · rw [e3 true hp]
    · rw [Bool.eq_false_iff.mpr hp]
      simp only [Bool.and_false, Bool.false_and]
  have e6 : (decide (c = 0) && zHp h (nI a) && zLi (nI b) && decide (b1 a 25 = nI b)) = (decide (c = 0) && zHp h (nI a) && zLi (nI b) && decide (c1 a 25 = nI b)) := by
    by_cases hp : zHp h (nI a) = true
    · rw [e3 true hp]
    · rw [Bool.eq_false_iff.mpr hp]
      simp only [Bool.and_false, Bool.false_and]
  unfold zCmdB
  rw [e1, e2]
  show (if w = 1 then _ else if w = 2 then _ else if w = 3 then _ else if w = 4 then _ else if w = 5 then decide (c = 0) && zRs h b1 (zSs h) a (nI b) else if w = 6 then decide (b = 0) && zHp h (nI a) && decide (nI c ≤ b1 a 23) else if w = 7 then decide (c = 0) && zHp h (nI a) && zLi (nI b) && decide (b1 a 25 = nI b) else _) = (if w = 1 then _ else if w = 2 then _ else if w = 3 then _ else if w = 4 then _ else if w = 5 then decide (c = 0) && zRs h c1 (zSs h) a (nI b) else if w = 6 then decide (b = 0) && zHp h (nI a) && decide (nI c ≤ c1 a 23) else if w = 7 then decide (c = 0) && zHp h (nI a) && zLi (nI b) && decide (c1 a 25 = nI b) else _)
  rw [e4, e5, e6]
theorem zSm_cmd {s r : zHB} {w a b c : Nat} (hx : zXy s) (ha : a < 10) (hb : b < 10) (hc : c < 10) (hm : zCmdB w a b c s = true) (q : zSm s r) : zSm (zCmdS w a b c s) (zCmdS w a b c r) := by
  unfold zCmdB at hm
  unfold zCmdS
  by_cases e1 : w = 1
  · rw [if_pos e1] at hm
    rw [if_pos e1, if_pos e1]
    exact zSm_sh hx (by omega) (by omega) hm q
  rw [if_neg e1] at hm
  rw [if_neg e1, if_neg e1]
  by_cases e2 : w = 2
  · rw [if_pos e2, Bool.and_eq_true] at hm
    rw [if_pos e2, if_pos e2]
    exact zSm_go hx (zMg_r hm.2).2 (zMg_lt (by omega) hm.2) q
  rw [if_neg e2] at hm
  rw [if_neg e2, if_neg e2]
  by_cases e3 : w = 3
  · rw [if_pos e3, Bool.and_eq_true] at hm
    rw [if_pos e3, if_pos e3]
    exact zSm_lk hx (zMe_r hm.2) q
  rw [if_neg e3] at hm
  rw [if_neg e3, if_neg e3]
  by_cases e4 : w = 4
  · rw [if_pos e4, Bool.and_eq_true] at hm
    rw [if_pos e4, if_pos e4]
    exact zSm_q hx hm.2 q
  rw [if_neg e4, if_neg e4]
  exact q
theorem zScr_m (x : Int64) (N : Nat) : ∀ (k i : Nat) {s r : zHB}, zXy s → zSm s r → zScr x N k i s = zScr x N k i r
  | 0, _, _, _, _, _ => rfl
  | k + 1, i, s, r, w, q => by
    have hl := zGn_lt x (N - 1 - i)
    have e := zCmd_m (w := zGn x (N - 1 - i) / 1000) (a := zGn x (N - 1 - i) / 100 % 10) (b := zGn x (N - 1 - i) / 10 % 10) (c := zGn x (N - 1 - i) % 10) w q (by omega)
    cases hm : zCmdB (zGn x (N - 1 - i) / 1000) (zGn x (N - 1 - i) / 100 % 10) (zGn x (N - 1 - i) / 10 % 10) (zGn x (N - 1 - i) % 10) s with
    | true =>
      rw [zScr_y hm, zScr_y (e.symm.trans hm)]
      exact zScr_m x N k (i + 1) (zXs_cmd w (by omega) (by omega) (by omega) hm) (zSm_cmd w (by omega) (by omega) (by omega) hm q)
    | false => rw [zScr_n hm, zScr_n (e.symm.trans hm)]
