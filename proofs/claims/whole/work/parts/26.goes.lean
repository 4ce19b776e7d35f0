/-! REFERENCE, twelfth part: how the game would go on -/
theorem zRu_of {h : Nat → Int32} {P : Nat} (h0 : h 0 = nI P) (hP : 0 < P) (hP4 : P ≤ 4) (h4 : h 4 = 0) : zRu h = true := by
  unfold zRu
  rw [h0, decide_eq_true h4, decide_eq_false (fun q => by have := (nI_le0 (by omega)).mp q; omega)]
  rfl
abbrev zUT : Type := zHB × Int32 × Int32 × Int32 × (Nat → Int32)
def zQuF (h : Nat → Int32) (b : Nat → Nat → Int32) (y1 y2 y3 : Int32) (g : Nat → Int32) (F : zRU) : Int32 × Int32 × Int32 × (Nat → Int32) := (if h 2 = 0 then F.1 else y1, if h 2 = 0 then F.2.1 else y2, if h 2 = 0 then F.2.2.1 else y3, if h 2 = 0 then F.2.2.2.2 else g)
def zQu (t : zUT) : zUT := (zPlq t.1, zQuF t.1.1 t.1.2 t.2.1 t.2.2.1 t.2.2.2.1 t.2.2.2.2 (zFs t.1.1 t.1.2 (zSs t.1.1) (zPp t.1.1) t.2.2.1 t.2.2.2.1 t.2.2.2.2))
theorem zQu_e {h : Nat → Int32} {b : Nat → Nat → Int32} {P t S : Nat} (w : zWf h b P t S) (sf : Nat → Int32) (y1 y2 y3 : Int32) (g : Nat → Int32) : zQu ((h, b), y1, y2, y3, g) = ((zFtH h b P t S sf, zFtB h b P t S sf), if h 2 = 0 then (zFs h b S P y2 y3 g).1 else y1, if h 2 = 0 then (zFs h b S P y2 y3 g).2.1 else y2, if h 2 = 0 then (zFs h b S P y2 y3 g).2.2.1 else y3, if h 2 = 0 then (zFs h b S P y2 y3 g).2.2.2.2 else g) := by
  obtain ⟨e1, e2, e3⟩ := zWf_e w
  show (zPlq (h, b), zQuF h b y1 y2 y3 g (zFs h b (zSs h) (zPp h) y2 y3 g)) = _
  rw [e1, e3, zQ_e w sf]
  rfl
def zRunU : Nat → zUT → zUT
  | 0, t => t
  | k + 1, t => if zRu t.1.1 = true then zRunU k (zQu t) else t
theorem zRunU_on {k : Nat} {t : zUT} (hr : zRu t.1.1 = true) : zRunU (k + 1) t = zRunU k (zQu t) := by
  rw [zRunU, if_pos hr]
theorem zRunU_off : ∀ {k : Nat} {t : zUT}, ¬ zRu t.1.1 = true → zRunU k t = t
  | 0, _, _ => rfl
  | k + 1, t, h => by rw [zRunU, if_neg h]
theorem zRunU_1 : ∀ (k : Nat) (t : zUT), (zRunU k t).1 = zRun k t.1
  | 0, _ => rfl
  | k + 1, t => by
    by_cases h : zRu t.1.1 = true
    · rw [zRunU_on h, zRun_on h, zRunU_1 k]
      rfl
    · rw [zRunU_off h, zRun_off h]
/-- a move of a simulation -/
def zMvU (r : Nat) (t : zUT) : zUT :=
  if t.1.1 2 = 0 then (if zMs t.1.1 t.1.2 (r % 4) (nI (r / 4 % 6)) (nI (r / 32 % 2)) = true then (zShS (r % 4) (r / 4 % 6) (nI (r / 32 % 2)) t.1, t.2) else zQu t)
  else if r % 8 = 0 then (zLkS (nI (r / 8 % 6)) t.1, t.2)
  else if zMg t.1.1 t.1.2 (zSs t.1.1) (zTt t.1.1) (nI (r / 8 % 9)) = true then (zGoS (r / 8 % 9) t.1, t.2) else zQu t
theorem zMvU_1 (r : Nat) (t : zUT) : (zMvU r t).1 = zMvS r t.1 := by
  unfold zMvU zMvS
  by_cases h2 : t.1.1 2 = 0
  · rw [if_pos h2, if_pos h2]
    split <;> rfl
  · rw [if_neg h2, if_neg h2]
    by_cases h8 : r % 8 = 0
    · rw [if_pos h8, if_pos h8]
    · rw [if_neg h8, if_neg h8]
      split <;> rfl
def zSimU : Nat → Int64 → zUT → zUT
  | 0, _, t => t
  | k + 1, y, t => if zRu t.1.1 = true then zSimU k (zNx y) (zMvU (zRk y) t) else t
theorem zSimU_on {k : Nat} {y : Int64} {t : zUT} (hr : zRu t.1.1 = true) : zSimU (k + 1) y t = zSimU k (zNx y) (zMvU (zRk y) t) := by
  rw [zSimU, if_pos hr]
theorem zSimU_off : ∀ {k : Nat} {y : Int64} {t : zUT}, ¬ zRu t.1.1 = true → zSimU k y t = t
  | 0, _, _, _ => rfl
  | k + 1, y, t, h => by rw [zSimU, if_neg h]
theorem zSim_on {k : Nat} {y : Int64} {s : zHB} (hr : zRu s.1 = true) : zSml (k + 1) y s = zSml k (zNx y) (zMvS (zRk y) s) := by
  rw [zSml, if_pos hr]
theorem zSim_off : ∀ {k : Nat} {y : Int64} {s : zHB}, ¬ zRu s.1 = true → zSml k y s = s
  | 0, _, _, _ => rfl
  | k + 1, y, s, h => by rw [zSml, if_neg h]
theorem zSimU_1 : ∀ (k : Nat) (y : Int64) (t : zUT), (zSimU k y t).1 = zSml k y t.1
  | 0, _, _ => rfl
  | k + 1, y, t => by
    by_cases h : zRu t.1.1 = true
    · rw [zSimU_on h, zSim_on h, zSimU_1 k, zMvU_1]
    · rw [zSimU_off h, zSim_off h]
theorem zMvU_sh {h : Nat → Int32} {b : Nat → Nat → Int32} {y1 y2 y3 : Int32} {g : Nat → Int32} {r : Nat} (h2 : h 2 = 0) (hm : zMs h b (r % 4) (nI (r / 4 % 6)) (nI (r / 32 % 2)) = true) : zMvU r ((h, b), y1, y2, y3, g) = ((zShH h, va_up b (r % 4) (zMv (b (r % 4)) (r / 4 % 6) (nI (r / 32 % 2)))), y1, y2, y3, g) := (if_pos h2).trans (if_pos hm)
theorem zMvU_q1 {h : Nat → Int32} {b : Nat → Nat → Int32} {y1 y2 y3 : Int32} {g : Nat → Int32} {r : Nat} (h2 : h 2 = 0) (hm : zMs h b (r % 4) (nI (r / 4 % 6)) (nI (r / 32 % 2)) = false) : zMvU r ((h, b), y1, y2, y3, g) = zQu ((h, b), y1, y2, y3, g) := (if_pos h2).trans (if_neg (fun q => Bool.noConfusion (hm.symm.trans q)))
theorem zMvU_lk {h : Nat → Int32} {b : Nat → Nat → Int32} {P t S : Nat} {y1 y2 y3 : Int32} {g : Nat → Int32} {r : Nat} (w : zWf h b P t S) (h2 : ¬ h 2 = 0) (h8 : r % 8 = 0) : zMvU r ((h, b), y1, y2, y3, g) = ((zEtH h (zLkB b t (nI (r / 8 % 6))) t P, zEtB h (zLkB b t (nI (r / 8 % 6))) t P), y1, y2, y3, g) := by
  have e9 : zMvU r ((h, b), y1, y2, y3, g) = (zLkS (nI (r / 8 % 6)) (h, b), y1, y2, y3, g) := (if_neg h2).trans (if_pos h8)
  rw [e9, zLkS_e w]
theorem zMvU_go {h : Nat → Int32} {b : Nat → Nat → Int32} {P t S : Nat} {y1 y2 y3 : Int32} {g : Nat → Int32} {r : Nat} (w : zWf h b P t S) (h2 : ¬ h 2 = 0) (h8 : ¬ r % 8 = 0) (hm : zMg h b S t (nI (r / 8 % 9)) = true) : zMvU r ((h, b), y1, y2, y3, g) = ((zEtH h (zGoB b t (r / 8 % 9)) t P, zEtB h (zGoB b t (r / 8 % 9)) t P), y1, y2, y3, g) := by
  have e3 := zWf_e w
  have hm2 : zMg h b (zSs h) (zTt h) (nI (r / 8 % 9)) = true := by rw [e3.2.1, e3.2.2]; exact hm
  have e9 : zMvU r ((h, b), y1, y2, y3, g) = (zGoS (r / 8 % 9) (h, b), y1, y2, y3, g) := (if_neg h2).trans ((if_neg h8).trans (if_pos hm2))
  rw [e9, zGoS_e w]
theorem zMvU_q2 {h : Nat → Int32} {b : Nat → Nat → Int32} {P t S : Nat} {y1 y2 y3 : Int32} {g : Nat → Int32} {r : Nat} (w : zWf h b P t S) (h2 : ¬ h 2 = 0) (h8 : ¬ r % 8 = 0) (hm : zMg h b S t (nI (r / 8 % 9)) = false) : zMvU r ((h, b), y1, y2, y3, g) = zQu ((h, b), y1, y2, y3, g) := by
  have e3 := zWf_e w
  have hm2 : ¬ zMg h b (zSs h) (zTt h) (nI (r / 8 % 9)) = true := by rw [e3.2.1, e3.2.2, hm]; decide
  exact (if_neg h2).trans ((if_neg h8).trans (if_neg hm2))
theorem zMvU_e {h : Nat → Int32} {b : Nat → Nat → Int32} {P t S e1 : Nat} {y1 y2 y3 : Int32} {g : Nat → Int32} {r : Nat} (hr9 : r < 2 ^ 31) (w : zGs h b P t S e1) (hr : zRu h = true) : ∃ h' b' z1 z2 z3 g' t' e', zMvU r ((h, b), y1, y2, y3, g) = ((h', b'), z1, z2, z3, g') ∧ zGs h' b' P t' S e' := by
  have hP := zRu_P w.1.1.1 w.1.1.2.1 hr
  have h4 := zRu_4 hr
  obtain ⟨tq, wq⟩ := zGs_ft zZ w hr
  by_cases h2 : h 2 = 0
  · by_cases hm : zMs h b (r % 4) (nI (r / 4 % 6)) (nI (r / 32 % 2)) = true
    · rw [zMvU_sh h2 hm]
      have hz := zMs_r hm
      exact ⟨_, _, _, _, _, _, t, e1, rfl, zGs_sh w ((zHp_lt w.1.1.1 w.1.1.2.1 (by omega)).mp hz.2.2.1) (by omega)⟩
    · rw [zMvU_q1 h2 (Bool.eq_false_iff.mpr hm), zQu_e w.1 zZ]
      exact ⟨_, _, _, _, _, _, tq, e1 + 1, rfl, wq⟩
  · by_cases h8 : r % 8 = 0
    · rw [zMvU_lk w.1 h2 h8]
      obtain ⟨t2, w2⟩ := zGs_lk (n := nI (r / 8 % 6)) w hP h4
      exact ⟨_, _, _, _, _, _, t2, e1 + 1, rfl, w2⟩
    · by_cases hm : zMg h b S t (nI (r / 8 % 9)) = true
      · rw [zMvU_go w.1 h2 h8 hm]
        obtain ⟨t2, w2⟩ := zGs_go (n := r / 8 % 9) w hP h4 (by omega)
        exact ⟨_, _, _, _, _, _, t2, e1 + 1, rfl, w2⟩
      · rw [zMvU_q2 w.1 h2 h8 (Bool.eq_false_iff.mpr hm), zQu_e w.1 zZ]
        exact ⟨_, _, _, _, _, _, tq, e1 + 1, rfl, wq⟩
theorem zBc_t0 : ∀ v : Fin 512, v.val = 0 ∨ ¬ zBc (nI v.val) ≤ 0 := by decide +kernel
theorem zBc_pos {f : Nat → Int32} (w : zBw f) (S : Nat) : ¬ zBc (zRch f S) ≤ 0 := by
  obtain ⟨k, hk, ek⟩ := w.2.1
  have h1 := zRch_ship w hk ek S
  obtain ⟨v, hv, ev⟩ := zW9_lt (zRch_9 w S)
  rcases zBc_t0 ⟨v, hv⟩ with q | q
  · have q : v = 0 := q
    subst q
    rw [ev, zIn_nI hk] at h1
    exact absurd (of_decide_eq_true h1) (by
      have h9 : k = 0 ∨ k = 1 ∨ k = 2 ∨ k = 3 ∨ k = 4 ∨ k = 5 ∨ k = 6 ∨ k = 7 ∨ k = 8 := by omega
      rcases h9 with rfl | rfl | rfl | rfl | rfl | rfl | rfl | rfl | rfl <;> decide)
  · rw [ev]
    exact q
theorem zLr_ge {f : Nat → Int32} (w : zBw f) {n : Nat} (hn : n < 9) : ¬ zLr f n < 0 := by
  unfold zLr
  split
  · decide
  · obtain ⟨k, hk, ek⟩ := w.2.2.1 n hn
    rw [ek]
    exact nI_pos (by omega)
theorem zFtR_ge {h : Nat → Int32} {b : Nat → Nat → Int32} {P t S e1 : Nat} (sf : Nat → Int32) (w : zGs h b P t S e1) (hr : zRu h = true) : ¬ zFtR h b P t S sf < 0 := by
  have hP := zRu_P w.1.1.1 w.1.1.2.1 hr
  have hfn := zFt_fn w.1 hP
  unfold zFtR
  refine zLr_ge ?_ hfn
  unfold zF1B
  have ht := (w.1.2.1 hP).1
  split
  · exact w.1.2.2 t ht
  · rcases zCs_ok h b S P sf with q | ⟨k, n, d, hk, hn, hd, q1, q2, q3, hm⟩
    · rename_i q2
      exact absurd q q2
    · rw [zShB_ne (by rw [q1, nI_clamp (by have := w.1.1.2.1; omega)]; exact zMs_ne w.1.1.2.2.1 hm)]
      exact w.1.2.2 t ht
theorem zLk_ge {h : Nat → Int32} {b : Nat → Nat → Int32} {P t S e1 : Nat} {n : Int32} (w : zGs h b P t S e1) (hr : zRu h = true) : ¬ (if zEtH h (zLkB b t n) t P 4 = 1 then (-1 : Int32) else zEtH h (zLkB b t n) t P 1) < -1 := by
  obtain ⟨t', w'⟩ := zGs_lk (n := n) w (zRu_P w.1.1.1 w.1.1.2.1 hr) (zRu_4 hr)
  split
  · decide
  · rw [w'.1.1.2.2.1]
    have h4 : t' = 0 ∨ t' = 1 ∨ t' = 2 ∨ t' = 3 := by
      have := w'.1.1.2.2.2.1
      omega
    rcases h4 with rfl | rfl | rfl | rfl <;> decide
set_option maxHeartbeats 4000000 in
set_option maxRecDepth 100000 in
theorem c_r_goes1 (l : Launch) (G : zC) (a : Nat → Nat) (u : Nat → Int32) (x : Int64) (f F : Nat → Int32) (h : Nat → Int32) (b : Nat → Nat → Int32) (w9 : Int32) (hc : zI0 w9.toInt64 0 2 = false) : zMet l G yX7_goesOn wsX7_goesOn rmX7_goesOn [.ref (a 0), .int w9] ([((a 0), .inr (7, [.int (u 0), .ref (a 1), .int (u 2), .ref (a 3), .ref (a 4), .ref (a 5), .ref (a 6), .int (u 7), .ref (a 8), .ref (a 9), .int (u 10), .int (u 11), .int (u 12), .long x, .int (u 14), .int (u 15)])), ((a 3), .inl (G.2 1, 121, .inl (flt h b))), ((a 4), .inl (G.2 1, 121, .inl F)), ((a 5), .inl (G.2 1, 121, .inl f))]) (some (.int 0)) ([((a 0), .inr (7, [.int 1, .ref (a 1), .int (u 2), .ref (a 3), .ref (a 4), .ref (a 5), .ref (a 6), .int (u 7), .ref (a 8), .ref (a 9), .int (u 10), .int (u 11), .int (u 12), .long x, .int (u 14), .int (u 15)])), ((a 3), .inl (G.2 1, 121, .inl (flt h b))), ((a 4), .inl (G.2 1, 121, .inl F)), ((a 5), .inl (G.2 1, 121, .inl f))]) := by
  refine zMet_of (cc := cX7_goesOn) (maxL := 2) (ret := (some .int)) (by decide) rfl (Nat.le_of_ble_eq_true rfl) ?_
  intro p e s m below meth c A ls hx hb hr hml hown hts hK hA hE hlocks hin hM hl
  have hown : s.vm.findClass RX7 = some m.cls := hown
  have hM : zM G A s s.heap [] ([((a 0), .inr (7, [.int (u 0), .ref (a 1), .int (u 2), .ref (a 3), .ref (a 4), .ref (a 5), .ref (a 6), .int (u 7), .ref (a 8), .ref (a 9), .int (u 10), .int (u 11), .int (u 12), .long x, .int (u 14), .int (u 15)])), ((a 3), .inl (G.2 1, 121, .inl (flt h b))), ((a 4), .inl (G.2 1, 121, .inl F)), ((a 5), .inl (G.2 1, 121, .inl f))]) := hM
  have hl : lv_has ls 2 [(0, .ref (a 0)), (1, .int w9)] := hl
  refine lv_aload_n hx hb dX7_goesOn_0 rfl (lv_at hl 0 rfl) ?_
  refine lv_iload_n hx hb dX7_goesOn_1 rfl (lv_at hl 1 rfl) ?_
  refine lv_i2l (v := w9.toInt64) hx hb dX7_goesOn_2 rfl ?_
  refine lv_lconst (v := 0) hx hb dX7_goesOn_3 (by decide) ?_
  refine lv_ldc2 (v := 2) hx hb hown (hts (.constantLong RX7 152 2) (by decide +kernel)) dX7_goesOn_4 ?_
  refine z_callS (As := [.long w9.toInt64, .long 0, .long 2]) (rest := [.ref (a 0)]) (wc := []) (wr := [((a 0), .inr (7, [.int (u 0), .ref (a 1), .int (u 2), .ref (a 3), .ref (a 4), .ref (a 5), .ref (a 6), .int (u 7), .ref (a 8), .ref (a 9), .int (u 10), .int (u 11), .int (u 12), .long x, .int (u 14), .int (u 15)])), ((a 3), .inl (G.2 1, 121, .inl (flt h b))), ((a 4), .inl (G.2 1, 121, .inl F)), ((a 5), .inl (G.2 1, 121, .inl f))]) (w1 := []) (ws' := [((a 0), .inr (7, [.int (u 0), .ref (a 1), .int (u 2), .ref (a 3), .ref (a 4), .ref (a 5), .ref (a 6), .int (u 7), .ref (a 8), .ref (a 9), .int (u 10), .int (u 11), .int (u 12), .long x, .int (u 14), .int (u 15)])), ((a 3), .inl (G.2 1, 121, .inl (flt h b))), ((a 4), .inl (G.2 1, 121, .inl F)), ((a 5), .inl (G.2 1, 121, .inl f))]) ⟨hx, hb, hml, hown, hts⟩ (c_in l G w9.toInt64 0 2) (va_cwS 3 hts gX7_goesOn_X7_in rfl rfl rfl (by decide +kernel) ⟨Nat.le_of_ble_eq_true rfl, Nat.le_of_ble_eq_true rfl⟩) rfl hl.1 rfl (Nat.le_of_ble_eq_true rfl) dX7_goesOn_7 ⟨Nat.le_of_ble_eq_true rfl, Nat.le_of_ble_eq_true rfl⟩ hK hE hA hM (List.Perm.refl _) (List.Perm.refl _) (fun H locs hM hz => ?_)
  refine z_ifeq (tgt := 17) hx hb dX7_goesOn_10 (by decide) (fun c_1 => ?_) (fun c_1 => Bool.noConfusion (c_1.symm.trans hc))
  refine lv_iconst (v := 1) hx hb dX7_goesOn_17 (by decide) ?_
  refine z_callV (As := [.int 1]) (rest := []) (wc := [((a 0), .inr (7, [.int (u 0), .ref (a 1), .int (u 2), .ref (a 3), .ref (a 4), .ref (a 5), .ref (a 6), .int (u 7), .ref (a 8), .ref (a 9), .int (u 10), .int (u 11), .int (u 12), .long x, .int (u 14), .int (u 15)]))]) (wr := [((a 3), .inl (G.2 1, 121, .inl (flt h b))), ((a 4), .inl (G.2 1, 121, .inl F)), ((a 5), .inl (G.2 1, 121, .inl f))]) (w1 := [((a 0), .inr (7, [.int 1, .ref (a 1), .int (u 2), .ref (a 3), .ref (a 4), .ref (a 5), .ref (a 6), .int (u 7), .ref (a 8), .ref (a 9), .int (u 10), .int (u 11), .int (u 12), .long x, .int (u 14), .int (u 15)]))]) (ws' := [((a 0), .inr (7, [.int 1, .ref (a 1), .int (u 2), .ref (a 3), .ref (a 4), .ref (a 5), .ref (a 6), .int (u 7), .ref (a 8), .ref (a 9), .int (u 10), .int (u 11), .int (u 12), .long x, .int (u 14), .int (u 15)])), ((a 3), .inl (G.2 1, 121, .inl (flt h b))), ((a 4), .inl (G.2 1, 121, .inl F)), ((a 5), .inl (G.2 1, 121, .inl f))]) ⟨hx, hb, hml, hown, hts⟩ (c_refused l G (a 0) (.int (u 0)) (.ref (a 1)) (.int (u 2)) (.ref (a 3)) (.ref (a 4)) (.ref (a 5)) (.ref (a 6)) (.int (u 7)) (.ref (a 8)) (.ref (a 9)) (.int (u 10)) (.int (u 11)) (.int (u 12)) (.long x) (.int (u 14)) (.int (u 15)) 1) (cwV 1 hts gX7_goesOn_X7_refused rfl rfl rfl (by decide +kernel) ⟨Nat.le_of_ble_eq_true rfl, Nat.le_of_ble_eq_true rfl⟩) 7 rfl rfl rfl rfl hl.1 rfl (Nat.le_of_ble_eq_true rfl) dX7_goesOn_18 ⟨Nat.le_of_ble_eq_true rfl, Nat.le_of_ble_eq_true rfl⟩ hK hE hA hM (pm_at 4 [0] [1, 2, 3] rfl rfl rfl (by decide)) ((pm_at 4 [0] [1, 2, 3] rfl rfl rfl (by decide))).symm (fun H locs hM hz => ?_)
  refine z_ifeq (tgt := 26) hx hb dX7_goesOn_21 (by decide) (fun c_2 => absurd c_2 (by decide)) (fun c_2 => ?_)
  refine lv_iconst (v := 0) hx hb dX7_goesOn_24 (by decide) ?_
  exact z_iret hx hb hr hlocks dX7_goesOn_25 hM (Nat.le_of_ble_eq_true rfl) (Nat.le_of_ble_eq_true rfl) rfl

set_option maxHeartbeats 4000000 in
set_option maxRecDepth 100000 in
theorem c_r_goes2 (l : Launch) (G : zC) (a : Nat → Nat) (u : Nat → Int32) (x : Int64) (f F : Nat → Int32) (h : Nat → Int32) (b : Nat → Nat → Int32) (w9 : Int32) (hc : zI0 w9.toInt64 0 2 = true) (h0 : h 0 = 0) : zMet l G yX7_goesOn wsX7_goesOn rmX7_goesOn [.ref (a 0), .int w9] ([((a 0), .inr (7, [.int (u 0), .ref (a 1), .int (u 2), .ref (a 3), .ref (a 4), .ref (a 5), .ref (a 6), .int (u 7), .ref (a 8), .ref (a 9), .int (u 10), .int (u 11), .int (u 12), .long x, .int (u 14), .int (u 15)])), ((a 3), .inl (G.2 1, 121, .inl (flt h b))), ((a 4), .inl (G.2 1, 121, .inl F)), ((a 5), .inl (G.2 1, 121, .inl f))]) (some (.int (-1))) ([((a 0), .inr (7, [.int 0, .ref (a 1), .int (u 2), .ref (a 3), .ref (a 4), .ref (a 5), .ref (a 6), .int (u 7), .ref (a 8), .ref (a 9), .int (u 10), .int (u 11), .int (u 12), .long x, .int (u 14), .int (u 15)])), ((a 3), .inl (G.2 1, 121, .inl (flt h b))), ((a 4), .inl (G.2 1, 121, .inl F)), ((a 5), .inl (G.2 1, 121, .inl f))]) := by
  refine zMet_of (cc := cX7_goesOn) (maxL := 2) (ret := (some .int)) (by decide) rfl (Nat.le_of_ble_eq_true rfl) ?_
  intro p e s m below meth c A ls hx hb hr hml hown hts hK hA hE hlocks hin hM hl
  have hown : s.vm.findClass RX7 = some m.cls := hown
  have hM : zM G A s s.heap [] ([((a 0), .inr (7, [.int (u 0), .ref (a 1), .int (u 2), .ref (a 3), .ref (a 4), .ref (a 5), .ref (a 6), .int (u 7), .ref (a 8), .ref (a 9), .int (u 10), .int (u 11), .int (u 12), .long x, .int (u 14), .int (u 15)])), ((a 3), .inl (G.2 1, 121, .inl (flt h b))), ((a 4), .inl (G.2 1, 121, .inl F)), ((a 5), .inl (G.2 1, 121, .inl f))]) := hM
  have hl : lv_has ls 2 [(0, .ref (a 0)), (1, .int w9)] := hl
  refine lv_aload_n hx hb dX7_goesOn_0 rfl (lv_at hl 0 rfl) ?_
  refine lv_iload_n hx hb dX7_goesOn_1 rfl (lv_at hl 1 rfl) ?_
  refine lv_i2l (v := w9.toInt64) hx hb dX7_goesOn_2 rfl ?_
  refine lv_lconst (v := 0) hx hb dX7_goesOn_3 (by decide) ?_
  refine lv_ldc2 (v := 2) hx hb hown (hts (.constantLong RX7 152 2) (by decide +kernel)) dX7_goesOn_4 ?_
  refine z_callS (As := [.long w9.toInt64, .long 0, .long 2]) (rest := [.ref (a 0)]) (wc := []) (wr := [((a 0), .inr (7, [.int (u 0), .ref (a 1), .int (u 2), .ref (a 3), .ref (a 4), .ref (a 5), .ref (a 6), .int (u 7), .ref (a 8), .ref (a 9), .int (u 10), .int (u 11), .int (u 12), .long x, .int (u 14), .int (u 15)])), ((a 3), .inl (G.2 1, 121, .inl (flt h b))), ((a 4), .inl (G.2 1, 121, .inl F)), ((a 5), .inl (G.2 1, 121, .inl f))]) (w1 := []) (ws' := [((a 0), .inr (7, [.int (u 0), .ref (a 1), .int (u 2), .ref (a 3), .ref (a 4), .ref (a 5), .ref (a 6), .int (u 7), .ref (a 8), .ref (a 9), .int (u 10), .int (u 11), .int (u 12), .long x, .int (u 14), .int (u 15)])), ((a 3), .inl (G.2 1, 121, .inl (flt h b))), ((a 4), .inl (G.2 1, 121, .inl F)), ((a 5), .inl (G.2 1, 121, .inl f))]) ⟨hx, hb, hml, hown, hts⟩ (c_in l G w9.toInt64 0 2) (va_cwS 3 hts gX7_goesOn_X7_in rfl rfl rfl (by decide +kernel) ⟨Nat.le_of_ble_eq_true rfl, Nat.le_of_ble_eq_true rfl⟩) rfl hl.1 rfl (Nat.le_of_ble_eq_true rfl) dX7_goesOn_7 ⟨Nat.le_of_ble_eq_true rfl, Nat.le_of_ble_eq_true rfl⟩ hK hE hA hM (List.Perm.refl _) (List.Perm.refl _) (fun H locs hM hz => ?_)
  refine z_ifeq (tgt := 17) hx hb dX7_goesOn_10 (by decide) (fun c_1 => Bool.noConfusion (hc.symm.trans c_1)) (fun c_1 => ?_)
  refine lv_iconst (v := 0) hx hb dX7_goesOn_13 (by decide) ?_
  refine lv_goto (tgt := 18) hx hb dX7_goesOn_14 (by decide) ?_
  refine z_callV (As := [.int 0]) (rest := []) (wc := [((a 0), .inr (7, [.int (u 0), .ref (a 1), .int (u 2), .ref (a 3), .ref (a 4), .ref (a 5), .ref (a 6), .int (u 7), .ref (a 8), .ref (a 9), .int (u 10), .int (u 11), .int (u 12), .long x, .int (u 14), .int (u 15)]))]) (wr := [((a 3), .inl (G.2 1, 121, .inl (flt h b))), ((a 4), .inl (G.2 1, 121, .inl F)), ((a 5), .inl (G.2 1, 121, .inl f))]) (w1 := [((a 0), .inr (7, [.int 0, .ref (a 1), .int (u 2), .ref (a 3), .ref (a 4), .ref (a 5), .ref (a 6), .int (u 7), .ref (a 8), .ref (a 9), .int (u 10), .int (u 11), .int (u 12), .long x, .int (u 14), .int (u 15)]))]) (ws' := [((a 0), .inr (7, [.int 0, .ref (a 1), .int (u 2), .ref (a 3), .ref (a 4), .ref (a 5), .ref (a 6), .int (u 7), .ref (a 8), .ref (a 9), .int (u 10), .int (u 11), .int (u 12), .long x, .int (u 14), .int (u 15)])), ((a 3), .inl (G.2 1, 121, .inl (flt h b))), ((a 4), .inl (G.2 1, 121, .inl F)), ((a 5), .inl (G.2 1, 121, .inl f))]) ⟨hx, hb, hml, hown, hts⟩ (c_refused l G (a 0) (.int (u 0)) (.ref (a 1)) (.int (u 2)) (.ref (a 3)) (.ref (a 4)) (.ref (a 5)) (.ref (a 6)) (.int (u 7)) (.ref (a 8)) (.ref (a 9)) (.int (u 10)) (.int (u 11)) (.int (u 12)) (.long x) (.int (u 14)) (.int (u 15)) 0) (cwV 1 hts gX7_goesOn_X7_refused rfl rfl rfl (by decide +kernel) ⟨Nat.le_of_ble_eq_true rfl, Nat.le_of_ble_eq_true rfl⟩) 7 rfl rfl rfl rfl hl.1 rfl (Nat.le_of_ble_eq_true rfl) dX7_goesOn_18 ⟨Nat.le_of_ble_eq_true rfl, Nat.le_of_ble_eq_true rfl⟩ hK hE hA hM (pm_at 4 [0] [1, 2, 3] rfl rfl rfl (by decide)) ((pm_at 4 [0] [1, 2, 3] rfl rfl rfl (by decide))).symm (fun H locs hM hz => ?_)
  refine z_ifeq (tgt := 26) hx hb dX7_goesOn_21 (by decide) (fun c_2 => ?_) (fun c_2 => absurd c_2 (by decide))
  refine lv_aload_n hx hb dX7_goesOn_26 rfl (lv_at hl 0 rfl) ?_
  refine z_get (ci := 7) (v := .ref (a 3)) (C := RX7) (T := TX7) (N := 16) hx hb hts (by decide +kernel) hown hK hM 0 rfl rfl 3 (by decide) (hts (.fieldLink RX7 13 "ShiftIslesModel" "now" "[I") (by decide +kernel)) (fun _ h9 => h9) rfl dX7_goesOn_27 ?_
  refine lv_iconst (v := 0) hx hb dX7_goesOn_30 (by decide) ?_
  refine z_iald hx hb hK hM 1 rfl (v := h 0) (vp_in_nI (n := 0) (by decide) (by decide)) (flt_h (k := 0) (by decide)) dX7_goesOn_31 ?_
  refine lv_if_ne (tgt := 37) hx hb dX7_goesOn_32 (by decide) (fun c_3 => absurd h0 c_3) (fun c_3 => ?_)
  refine lv_iconst (v := (-1)) hx hb dX7_goesOn_35 (by decide) ?_
  exact z_iret hx hb hr hlocks dX7_goesOn_36 hM (Nat.le_of_ble_eq_true rfl) (Nat.le_of_ble_eq_true rfl) rfl

set_option maxHeartbeats 4000000 in
set_option maxRecDepth 100000 in
theorem c_r_goes0 (l : Launch) (G : zC) (a : Nat → Nat) (u : Nat → Int32) (x : Int64) (f F : Nat → Int32) (h : Nat → Int32) (b : Nat → Nat → Int32) (P t S e0 : Nat) (hG : zGs h b P t S e0) (K : Nat) (hK9 : e0 + K = 200) (hP0 : 0 < P) (w9 : Int32) (hc : zI0 w9.toInt64 0 2 = true) : zMet l G yX7_goesOn wsX7_goesOn rmX7_goesOn [.ref (a 0), .int w9] ([((a 0), .inr (7, [.int (u 0), .ref (a 1), .int (u 2), .ref (a 3), .ref (a 4), .ref (a 5), .ref (a 6), .int (u 7), .ref (a 8), .ref (a 9), .int (u 10), .int (u 11), .int (u 12), .long x, .int (u 14), .int (u 15)])), ((a 3), .inl (G.2 1, 121, .inl (flt h b))), ((a 4), .inl (G.2 1, 121, .inl F)), ((a 5), .inl (G.2 1, 121, .inl f))]) (some (.int (if w9 = 0 then (zRunU K ((h, b), u 10, u 11, u 12, f)).1.1 5 else if w9 = 1 then (zRunU K ((h, b), u 10, u 11, u 12, f)).1.1 3 else zTk (zRunU K ((h, b), u 10, u 11, u 12, f)).1.2 P 0 0))) ([((a 0), .inr (7, [.int 0, .ref (a 1), .int (u 2), .ref (a 3), .ref (a 4), .ref (a 5), .ref (a 6), .int (u 7), .ref (a 8), .ref (a 9), .int ((zRunU K ((h, b), u 10, u 11, u 12, f)).2.1), .int ((zRunU K ((h, b), u 10, u 11, u 12, f)).2.2.1), .int ((zRunU K ((h, b), u 10, u 11, u 12, f)).2.2.2.1), .long x, .int (u 14), .int (u 15)])), ((a 3), .inl (G.2 1, 121, .inl (flt h b))), ((a 4), .inl (G.2 1, 121, .inl (flt (zRunU K ((h, b), u 10, u 11, u 12, f)).1.1 (zRunU K ((h, b), u 10, u 11, u 12, f)).1.2))), ((a 5), .inl (G.2 1, 121, .inl ((zRunU K ((h, b), u 10, u 11, u 12, f)).2.2.2.2)))]) := by
  refine zMet_of (cc := cX7_goesOn) (maxL := 2) (ret := (some .int)) (by decide) rfl (Nat.le_of_ble_eq_true rfl) ?_
  intro p e s m below meth c A ls hx hb hr hml hown hts hK hA hE hlocks hin hM hl
  have hown : s.vm.findClass RX7 = some m.cls := hown
  have hM : zM G A s s.heap [] ([((a 0), .inr (7, [.int (u 0), .ref (a 1), .int (u 2), .ref (a 3), .ref (a 4), .ref (a 5), .ref (a 6), .int (u 7), .ref (a 8), .ref (a 9), .int (u 10), .int (u 11), .int (u 12), .long x, .int (u 14), .int (u 15)])), ((a 3), .inl (G.2 1, 121, .inl (flt h b))), ((a 4), .inl (G.2 1, 121, .inl F)), ((a 5), .inl (G.2 1, 121, .inl f))]) := hM
  have hl : lv_has ls 2 [(0, .ref (a 0)), (1, .int w9)] := hl
  have h0n : ¬ h 0 = 0 := by rw [hG.1.1.1]; exact nI_nz hP0 (by have := hG.1.1.2.1; omega)
  refine lv_aload_n hx hb dX7_goesOn_0 rfl (lv_at hl 0 rfl) ?_
  refine lv_iload_n hx hb dX7_goesOn_1 rfl (lv_at hl 1 rfl) ?_
  refine lv_i2l (v := w9.toInt64) hx hb dX7_goesOn_2 rfl ?_
  refine lv_lconst (v := 0) hx hb dX7_goesOn_3 (by decide) ?_
  refine lv_ldc2 (v := 2) hx hb hown (hts (.constantLong RX7 152 2) (by decide +kernel)) dX7_goesOn_4 ?_
  refine z_callS (As := [.long w9.toInt64, .long 0, .long 2]) (rest := [.ref (a 0)]) (wc := []) (wr := [((a 0), .inr (7, [.int (u 0), .ref (a 1), .int (u 2), .ref (a 3), .ref (a 4), .ref (a 5), .ref (a 6), .int (u 7), .ref (a 8), .ref (a 9), .int (u 10), .int (u 11), .int (u 12), .long x, .int (u 14), .int (u 15)])), ((a 3), .inl (G.2 1, 121, .inl (flt h b))), ((a 4), .inl (G.2 1, 121, .inl F)), ((a 5), .inl (G.2 1, 121, .inl f))]) (w1 := []) (ws' := [((a 0), .inr (7, [.int (u 0), .ref (a 1), .int (u 2), .ref (a 3), .ref (a 4), .ref (a 5), .ref (a 6), .int (u 7), .ref (a 8), .ref (a 9), .int (u 10), .int (u 11), .int (u 12), .long x, .int (u 14), .int (u 15)])), ((a 3), .inl (G.2 1, 121, .inl (flt h b))), ((a 4), .inl (G.2 1, 121, .inl F)), ((a 5), .inl (G.2 1, 121, .inl f))]) ⟨hx, hb, hml, hown, hts⟩ (c_in l G w9.toInt64 0 2) (va_cwS 3 hts gX7_goesOn_X7_in rfl rfl rfl (by decide +kernel) ⟨Nat.le_of_ble_eq_true rfl, Nat.le_of_ble_eq_true rfl⟩) rfl hl.1 rfl (Nat.le_of_ble_eq_true rfl) dX7_goesOn_7 ⟨Nat.le_of_ble_eq_true rfl, Nat.le_of_ble_eq_true rfl⟩ hK hE hA hM (List.Perm.refl _) (List.Perm.refl _) (fun H locs hM hz => ?_)
  refine z_ifeq (tgt := 17) hx hb dX7_goesOn_10 (by decide) (fun c_1 => Bool.noConfusion (hc.symm.trans c_1)) (fun c_1 => ?_)
  refine lv_iconst (v := 0) hx hb dX7_goesOn_13 (by decide) ?_
  refine lv_goto (tgt := 18) hx hb dX7_goesOn_14 (by decide) ?_
  refine z_callV (As := [.int 0]) (rest := []) (wc := [((a 0), .inr (7, [.int (u 0), .ref (a 1), .int (u 2), .ref (a 3), .ref (a 4), .ref (a 5), .ref (a 6), .int (u 7), .ref (a 8), .ref (a 9), .int (u 10), .int (u 11), .int (u 12), .long x, .int (u 14), .int (u 15)]))]) (wr := [((a 3), .inl (G.2 1, 121, .inl (flt h b))), ((a 4), .inl (G.2 1, 121, .inl F)), ((a 5), .inl (G.2 1, 121, .inl f))]) (w1 := [((a 0), .inr (7, [.int 0, .ref (a 1), .int (u 2), .ref (a 3), .ref (a 4), .ref (a 5), .ref (a 6), .int (u 7), .ref (a 8), .ref (a 9), .int (u 10), .int (u 11), .int (u 12), .long x, .int (u 14), .int (u 15)]))]) (ws' := [((a 0), .inr (7, [.int 0, .ref (a 1), .int (u 2), .ref (a 3), .ref (a 4), .ref (a 5), .ref (a 6), .int (u 7), .ref (a 8), .ref (a 9), .int (u 10), .int (u 11), .int (u 12), .long x, .int (u 14), .int (u 15)])), ((a 3), .inl (G.2 1, 121, .inl (flt h b))), ((a 4), .inl (G.2 1, 121, .inl F)), ((a 5), .inl (G.2 1, 121, .inl f))]) ⟨hx, hb, hml, hown, hts⟩ (c_refused l G (a 0) (.int (u 0)) (.ref (a 1)) (.int (u 2)) (.ref (a 3)) (.ref (a 4)) (.ref (a 5)) (.ref (a 6)) (.int (u 7)) (.ref (a 8)) (.ref (a 9)) (.int (u 10)) (.int (u 11)) (.int (u 12)) (.long x) (.int (u 14)) (.int (u 15)) 0) (cwV 1 hts gX7_goesOn_X7_refused rfl rfl rfl (by decide +kernel) ⟨Nat.le_of_ble_eq_true rfl, Nat.le_of_ble_eq_true rfl⟩) 7 rfl rfl rfl rfl hl.1 rfl (Nat.le_of_ble_eq_true rfl) dX7_goesOn_18 ⟨Nat.le_of_ble_eq_true rfl, Nat.le_of_ble_eq_true rfl⟩ hK hE hA hM (pm_at 4 [0] [1, 2, 3] rfl rfl rfl (by decide)) ((pm_at 4 [0] [1, 2, 3] rfl rfl rfl (by decide))).symm (fun H locs hM hz => ?_)
  refine z_ifeq (tgt := 26) hx hb dX7_goesOn_21 (by decide) (fun c_2 => ?_) (fun c_2 => absurd c_2 (by decide))
  refine lv_aload_n hx hb dX7_goesOn_26 rfl (lv_at hl 0 rfl) ?_
  refine z_get (ci := 7) (v := .ref (a 3)) (C := RX7) (T := TX7) (N := 16) hx hb hts (by decide +kernel) hown hK hM 0 rfl rfl 3 (by decide) (hts (.fieldLink RX7 13 "ShiftIslesModel" "now" "[I") (by decide +kernel)) (fun _ h9 => h9) rfl dX7_goesOn_27 ?_
  refine lv_iconst (v := 0) hx hb dX7_goesOn_30 (by decide) ?_
  refine z_iald hx hb hK hM 1 rfl (v := h 0) (vp_in_nI (n := 0) (by decide) (by decide)) (flt_h (k := 0) (by decide)) dX7_goesOn_31 ?_
  refine lv_if_ne (tgt := 37) hx hb dX7_goesOn_32 (by decide) (fun c_3 => ?_) (fun c_3 => absurd c_3 h0n)
  refine lv_aload_n hx hb dX7_goesOn_37 rfl (lv_at hl 0 rfl) ?_
  refine z_get (ci := 7) (v := .ref (a 3)) (C := RX7) (T := TX7) (N := 16) hx hb hts (by decide +kernel) hown hK hM 0 rfl rfl 3 (by decide) (hts (.fieldLink RX7 13 "ShiftIslesModel" "now" "[I") (by decide +kernel)) (fun _ h9 => h9) rfl dX7_goesOn_38 ?_
  refine lv_iconst (v := nI 0) hx hb dX7_goesOn_41 (by decide) ?_
  refine lv_aload_n hx hb dX7_goesOn_42 rfl (lv_at hl 0 rfl) ?_
  refine z_get (ci := 7) (v := .ref (a 4)) (C := RX7) (T := TX7) (N := 16) hx hb hts (by decide +kernel) hown hK hM 0 rfl rfl 4 (by decide) (hts (.fieldLink RX7 16 "ShiftIslesModel" "trial" "[I") (by decide +kernel)) (fun _ h9 => h9) rfl dX7_goesOn_43 ?_
  refine lv_iconst (v := nI 0) hx hb dX7_goesOn_46 (by decide) ?_
  refine z_callS (As := [.ref (a 3), .int (nI 0), .ref (a 4), .int (nI 0)]) (rest := []) (wc := [((a 3), .inl (G.2 1, 121, .inl (flt h b))), ((a 4), .inl (G.2 1, 121, .inl F))]) (wr := [((a 0), .inr (7, [.int 0, .ref (a 1), .int (u 2), .ref (a 3), .ref (a 4), .ref (a 5), .ref (a 6), .int (u 7), .ref (a 8), .ref (a 9), .int (u 10), .int (u 11), .int (u 12), .long x, .int (u 14), .int (u 15)])), ((a 5), .inl (G.2 1, 121, .inl f))]) (w1 := [((a 3), .inl (G.2 1, 121, .inl (flt h b))), ((a 4), .inl (G.2 1, 121, .inl (cpv (flt h b) F 0 0 121)))]) (ws' := [((a 0), .inr (7, [.int 0, .ref (a 1), .int (u 2), .ref (a 3), .ref (a 4), .ref (a 5), .ref (a 6), .int (u 7), .ref (a 8), .ref (a 9), .int (u 10), .int (u 11), .int (u 12), .long x, .int (u 14), .int (u 15)])), ((a 3), .inl (G.2 1, 121, .inl (flt h b))), ((a 4), .inl (G.2 1, 121, .inl (cpv (flt h b) F 0 0 121))), ((a 5), .inl (G.2 1, 121, .inl f))]) ⟨hx, hb, hml, hown, hts⟩ (c_copyState l G (a 3) (a 4) 121 121 0 0 (flt h b) F (by omega) (by omega) (by decide) (by decide)) (va_cwS 4 hts gX7_goesOn_X7_copyState rfl rfl rfl (by decide +kernel) ⟨Nat.le_of_ble_eq_true rfl, Nat.le_of_ble_eq_true rfl⟩) rfl hl.1 rfl (Nat.le_of_ble_eq_true rfl) dX7_goesOn_47 ⟨Nat.le_of_ble_eq_true rfl, Nat.le_of_ble_eq_true rfl⟩ hK hE hA hM (pm_at 4 [1, 2] [0, 3] rfl rfl rfl (by decide)) ((pm_at 4 [1, 2] [0, 3] rfl rfl rfl (by decide))).symm (fun H locs hM hz => ?_)
  have lp50 : ∀ (k : Nat) (g1 : Nat → Int32) (d1 : Nat → Nat → Int32) (t1 e1 : Nat) (y1 y2 y3 : Int32) (g : Nat → Int32), (zGs g1 d1 P t1 S e1) → (e1 + k = 200) → ((zRunU K ((h, b), u 10, u 11, u 12, f)) = zRunU k ((g1, d1), y1, y2, y3, g)) → ∀ (H : Heap) (locs : List Loc), zM G A s H locs ([((a 0), .inr (7, [.int 0, .ref (a 1), .int (u 2), .ref (a 3), .ref (a 4), .ref (a 5), .ref (a 6), .int (u 7), .ref (a 8), .ref (a 9), .int y1, .int y2, .int y3, .long x, .int (u 14), .int (u 15)])), ((a 3), .inl (G.2 1, 121, .inl (flt h b))), ((a 4), .inl (G.2 1, 121, .inl (flt g1 d1))), ((a 5), .inl (G.2 1, 121, .inl g))]) → ∀ ls : Array Slot, lv_has ls 2 [(0, .ref (a 0)), (1, .int w9)] → W p l e rmX7_goesOn s m ([.ref (a 0), .int w9] : List Value).toArray below meth c H locs 0 0 (zEnd G below ([.ref (a 0), .int w9] : List Value).toArray s rmX7_goesOn A (some (.int (if w9 = 0 then (zRunU K ((h, b), u 10, u 11, u 12, f)).1.1 5 else if w9 = 1 then (zRunU K ((h, b), u 10, u 11, u 12, f)).1.1 3 else zTk (zRunU K ((h, b), u 10, u 11, u 12, f)).1.2 P 0 0))) ([((a 0), .inr (7, [.int 0, .ref (a 1), .int (u 2), .ref (a 3), .ref (a 4), .ref (a 5), .ref (a 6), .int (u 7), .ref (a 8), .ref (a 9), .int ((zRunU K ((h, b), u 10, u 11, u 12, f)).2.1), .int ((zRunU K ((h, b), u 10, u 11, u 12, f)).2.2.1), .int ((zRunU K ((h, b), u 10, u 11, u 12, f)).2.2.2.1), .long x, .int (u 14), .int (u 15)])), ((a 3), .inl (G.2 1, 121, .inl (flt h b))), ((a 4), .inl (G.2 1, 121, .inl (flt (zRunU K ((h, b), u 10, u 11, u 12, f)).1.1 (zRunU K ((h, b), u 10, u 11, u 12, f)).1.2))), ((a 5), .inl (G.2 1, 121, .inl ((zRunU K ((h, b), u 10, u 11, u 12, f)).2.2.2.2)))])) (F0 m 50 ls []) := by
    intro k
    induction k with
    | zero =>
      intro g1 d1 t1 e1 y1 y2 y3 g hG1 hek hR H locs hM ls hl
      refine lv_aload_n hx hb dX7_goesOn_50 rfl (lv_at hl 0 rfl) ?_
      refine z_get (ci := 7) (v := .ref (a 4)) (C := RX7) (T := TX7) (N := 16) hx hb hts (by decide +kernel) hown hK hM 0 rfl rfl 4 (by decide) (hts (.fieldLink RX7 16 "ShiftIslesModel" "trial" "[I") (by decide +kernel)) (fun _ h9 => h9) rfl dX7_goesOn_51 ?_
      refine lv_iconst (v := 4) hx hb dX7_goesOn_54 (by decide) ?_
      refine z_iald hx hb hK hM 2 rfl (v := g1 4) (vp_in_nI (n := 4) (by decide) (by decide)) (flt_h (k := 4) (by decide)) dX7_goesOn_55 ?_
      refine lv_if_ne (tgt := 71) hx hb dX7_goesOn_56 (by decide) (fun c_4 => ?_) (fun c_4 => absurd (hG1.2.2.2.2.2.2 c_4).1 (by omega))
      have hZ : (zRunU K ((h, b), u 10, u 11, u 12, f)) = ((g1, d1), y1, y2, y3, g) := hR.trans (zRunU_off (fun q => c_4 (zRu_4 q)))
      refine lv_iload_n hx hb dX7_goesOn_71 rfl (lv_at hl 1 rfl) ?_
      refine lv_if_ne (tgt := 84) hx hb dX7_goesOn_72 (by decide) (fun c_1 => ?_) (fun c_1 => ?_)
      · skip
        refine lv_iload_n hx hb dX7_goesOn_84 rfl (lv_at hl 1 rfl) ?_
        refine lv_iconst (v := 1) hx hb dX7_goesOn_85 (by decide) ?_
        refine lv_icmp_ne (tgt := 98) hx hb dX7_goesOn_86 (by decide) (fun c_2 => ?_) (fun c_2 => ?_)
        · skip
          refine lv_aload_n hx hb dX7_goesOn_98 rfl (lv_at hl 0 rfl) ?_
          refine z_get (ci := 7) (v := .ref (a 4)) (C := RX7) (T := TX7) (N := 16) hx hb hts (by decide +kernel) hown hK hM 0 rfl rfl 4 (by decide) (hts (.fieldLink RX7 16 "ShiftIslesModel" "trial" "[I") (by decide +kernel)) (fun _ h9 => h9) rfl dX7_goesOn_99 ?_
          refine z_callS (As := [.ref (a 4)]) (rest := []) (wc := rfW G (a 4) g1 d1) (wr := [((a 0), .inr (7, [.int 0, .ref (a 1), .int (u 2), .ref (a 3), .ref (a 4), .ref (a 5), .ref (a 6), .int (u 7), .ref (a 8), .ref (a 9), .int y1, .int y2, .int y3, .long x, .int (u 14), .int (u 15)])), ((a 3), .inl (G.2 1, 121, .inl (flt h b))), ((a 5), .inl (G.2 1, 121, .inl g))]) (w1 := rfW G (a 4) g1 d1) (ws' := [((a 0), .inr (7, [.int 0, .ref (a 1), .int (u 2), .ref (a 3), .ref (a 4), .ref (a 5), .ref (a 6), .int (u 7), .ref (a 8), .ref (a 9), .int y1, .int y2, .int y3, .long x, .int (u 14), .int (u 15)])), ((a 3), .inl (G.2 1, 121, .inl (flt h b))), ((a 4), .inl (G.2 1, 121, .inl (flt g1 d1))), ((a 5), .inl (G.2 1, 121, .inl g))]) ⟨hx, hb, hml, hown, hts⟩ (c_r_takenByAll l G (a 4) g1 d1 P hG1.1.1.1 hG1.1.1.2.1 ) (va_cwS 1 hts gX7_goesOn_X7_takenByAll rfl rfl rfl (by decide +kernel) ⟨Nat.le_of_ble_eq_true rfl, Nat.le_of_ble_eq_true rfl⟩) rfl hl.1 rfl (Nat.le_of_ble_eq_true rfl) dX7_goesOn_102 ⟨Nat.le_of_ble_eq_true rfl, Nat.le_of_ble_eq_true rfl⟩ hK hE hA hM (pm_at 4 [2] [0, 1, 3] rfl rfl rfl (by decide)) ((pm_at 4 [2] [0, 1, 3] rfl rfl rfl (by decide))).symm (fun H locs hM hz => ?_)
          exact z_iret hx hb hr hlocks dX7_goesOn_105 (by rw [hZ]; exact hM) (Nat.le_of_ble_eq_true rfl) (Nat.le_of_ble_eq_true rfl) (by rw [hZ, if_neg c_1, if_neg c_2])
        · skip
          refine lv_aload_n hx hb dX7_goesOn_89 rfl (lv_at hl 0 rfl) ?_
          refine z_get (ci := 7) (v := .ref (a 4)) (C := RX7) (T := TX7) (N := 16) hx hb hts (by decide +kernel) hown hK hM 0 rfl rfl 4 (by decide) (hts (.fieldLink RX7 16 "ShiftIslesModel" "trial" "[I") (by decide +kernel)) (fun _ h9 => h9) rfl dX7_goesOn_90 ?_
          refine lv_iconst (v := 3) hx hb dX7_goesOn_93 (by decide) ?_
          refine z_iald hx hb hK hM 2 rfl (v := g1 3) (vp_in_nI (n := 3) (by decide) (by decide)) (flt_h (k := 3) (by decide)) dX7_goesOn_94 ?_
          refine lv_goto (tgt := 105) hx hb dX7_goesOn_95 (by decide) ?_
          exact z_iret hx hb hr hlocks dX7_goesOn_105 (by rw [hZ]; exact hM) (Nat.le_of_ble_eq_true rfl) (Nat.le_of_ble_eq_true rfl) (by rw [hZ, if_neg c_1, if_pos c_2])
      · skip
        refine lv_aload_n hx hb dX7_goesOn_75 rfl (lv_at hl 0 rfl) ?_
        refine z_get (ci := 7) (v := .ref (a 4)) (C := RX7) (T := TX7) (N := 16) hx hb hts (by decide +kernel) hown hK hM 0 rfl rfl 4 (by decide) (hts (.fieldLink RX7 16 "ShiftIslesModel" "trial" "[I") (by decide +kernel)) (fun _ h9 => h9) rfl dX7_goesOn_76 ?_
        refine lv_iconst (v := 5) hx hb dX7_goesOn_79 (by decide) ?_
        refine z_iald hx hb hK hM 2 rfl (v := g1 5) (vp_in_nI (n := 5) (by decide) (by decide)) (flt_h (k := 5) (by decide)) dX7_goesOn_80 ?_
        refine lv_goto (tgt := 105) hx hb dX7_goesOn_81 (by decide) ?_
        exact z_iret hx hb hr hlocks dX7_goesOn_105 (by rw [hZ]; exact hM) (Nat.le_of_ble_eq_true rfl) (Nat.le_of_ble_eq_true rfl) (by rw [hZ, if_pos c_1])
    | succ k ih =>
      intro g1 d1 t1 e1 y1 y2 y3 g hG1 hek hR H locs hM ls hl
      refine lv_aload_n hx hb dX7_goesOn_50 rfl (lv_at hl 0 rfl) ?_
      refine z_get (ci := 7) (v := .ref (a 4)) (C := RX7) (T := TX7) (N := 16) hx hb hts (by decide +kernel) hown hK hM 0 rfl rfl 4 (by decide) (hts (.fieldLink RX7 16 "ShiftIslesModel" "trial" "[I") (by decide +kernel)) (fun _ h9 => h9) rfl dX7_goesOn_51 ?_
      refine lv_iconst (v := 4) hx hb dX7_goesOn_54 (by decide) ?_
      refine z_iald hx hb hK hM 2 rfl (v := g1 4) (vp_in_nI (n := 4) (by decide) (by decide)) (flt_h (k := 4) (by decide)) dX7_goesOn_55 ?_
      refine lv_if_ne (tgt := 71) hx hb dX7_goesOn_56 (by decide) (fun c_o => ?_) (fun c_o => ?_)
      · skip
        have hZ : (zRunU K ((h, b), u 10, u 11, u 12, f)) = ((g1, d1), y1, y2, y3, g) := hR.trans (zRunU_off (fun q => c_o (zRu_4 q)))
        refine lv_iload_n hx hb dX7_goesOn_71 rfl (lv_at hl 1 rfl) ?_
        refine lv_if_ne (tgt := 84) hx hb dX7_goesOn_72 (by decide) (fun c_1 => ?_) (fun c_1 => ?_)
        · skip
          refine lv_iload_n hx hb dX7_goesOn_84 rfl (lv_at hl 1 rfl) ?_
          refine lv_iconst (v := 1) hx hb dX7_goesOn_85 (by decide) ?_
          refine lv_icmp_ne (tgt := 98) hx hb dX7_goesOn_86 (by decide) (fun c_2 => ?_) (fun c_2 => ?_)
          · skip
            refine lv_aload_n hx hb dX7_goesOn_98 rfl (lv_at hl 0 rfl) ?_
            refine z_get (ci := 7) (v := .ref (a 4)) (C := RX7) (T := TX7) (N := 16) hx hb hts (by decide +kernel) hown hK hM 0 rfl rfl 4 (by decide) (hts (.fieldLink RX7 16 "ShiftIslesModel" "trial" "[I") (by decide +kernel)) (fun _ h9 => h9) rfl dX7_goesOn_99 ?_
            refine z_callS (As := [.ref (a 4)]) (rest := []) (wc := rfW G (a 4) g1 d1) (wr := [((a 0), .inr (7, [.int 0, .ref (a 1), .int (u 2), .ref (a 3), .ref (a 4), .ref (a 5), .ref (a 6), .int (u 7), .ref (a 8), .ref (a 9), .int y1, .int y2, .int y3, .long x, .int (u 14), .int (u 15)])), ((a 3), .inl (G.2 1, 121, .inl (flt h b))), ((a 5), .inl (G.2 1, 121, .inl g))]) (w1 := rfW G (a 4) g1 d1) (ws' := [((a 0), .inr (7, [.int 0, .ref (a 1), .int (u 2), .ref (a 3), .ref (a 4), .ref (a 5), .ref (a 6), .int (u 7), .ref (a 8), .ref (a 9), .int y1, .int y2, .int y3, .long x, .int (u 14), .int (u 15)])), ((a 3), .inl (G.2 1, 121, .inl (flt h b))), ((a 4), .inl (G.2 1, 121, .inl (flt g1 d1))), ((a 5), .inl (G.2 1, 121, .inl g))]) ⟨hx, hb, hml, hown, hts⟩ (c_r_takenByAll l G (a 4) g1 d1 P hG1.1.1.1 hG1.1.1.2.1 ) (va_cwS 1 hts gX7_goesOn_X7_takenByAll rfl rfl rfl (by decide +kernel) ⟨Nat.le_of_ble_eq_true rfl, Nat.le_of_ble_eq_true rfl⟩) rfl hl.1 rfl (Nat.le_of_ble_eq_true rfl) dX7_goesOn_102 ⟨Nat.le_of_ble_eq_true rfl, Nat.le_of_ble_eq_true rfl⟩ hK hE hA hM (pm_at 4 [2] [0, 1, 3] rfl rfl rfl (by decide)) ((pm_at 4 [2] [0, 1, 3] rfl rfl rfl (by decide))).symm (fun H locs hM hz => ?_)
            exact z_iret hx hb hr hlocks dX7_goesOn_105 (by rw [hZ]; exact hM) (Nat.le_of_ble_eq_true rfl) (Nat.le_of_ble_eq_true rfl) (by rw [hZ, if_neg c_1, if_neg c_2])
          · skip
            refine lv_aload_n hx hb dX7_goesOn_89 rfl (lv_at hl 0 rfl) ?_
            refine z_get (ci := 7) (v := .ref (a 4)) (C := RX7) (T := TX7) (N := 16) hx hb hts (by decide +kernel) hown hK hM 0 rfl rfl 4 (by decide) (hts (.fieldLink RX7 16 "ShiftIslesModel" "trial" "[I") (by decide +kernel)) (fun _ h9 => h9) rfl dX7_goesOn_90 ?_
            refine lv_iconst (v := 3) hx hb dX7_goesOn_93 (by decide) ?_
            refine z_iald hx hb hK hM 2 rfl (v := g1 3) (vp_in_nI (n := 3) (by decide) (by decide)) (flt_h (k := 3) (by decide)) dX7_goesOn_94 ?_
            refine lv_goto (tgt := 105) hx hb dX7_goesOn_95 (by decide) ?_
            exact z_iret hx hb hr hlocks dX7_goesOn_105 (by rw [hZ]; exact hM) (Nat.le_of_ble_eq_true rfl) (Nat.le_of_ble_eq_true rfl) (by rw [hZ, if_neg c_1, if_pos c_2])
        · skip
          refine lv_aload_n hx hb dX7_goesOn_75 rfl (lv_at hl 0 rfl) ?_
          refine z_get (ci := 7) (v := .ref (a 4)) (C := RX7) (T := TX7) (N := 16) hx hb hts (by decide +kernel) hown hK hM 0 rfl rfl 4 (by decide) (hts (.fieldLink RX7 16 "ShiftIslesModel" "trial" "[I") (by decide +kernel)) (fun _ h9 => h9) rfl dX7_goesOn_76 ?_
          refine lv_iconst (v := 5) hx hb dX7_goesOn_79 (by decide) ?_
          refine z_iald hx hb hK hM 2 rfl (v := g1 5) (vp_in_nI (n := 5) (by decide) (by decide)) (flt_h (k := 5) (by decide)) dX7_goesOn_80 ?_
          refine lv_goto (tgt := 105) hx hb dX7_goesOn_81 (by decide) ?_
          exact z_iret hx hb hr hlocks dX7_goesOn_105 (by rw [hZ]; exact hM) (Nat.le_of_ble_eq_true rfl) (Nat.le_of_ble_eq_true rfl) (by rw [hZ, if_pos c_1])
      · skip
        refine lv_aload_n hx hb dX7_goesOn_59 rfl (lv_at hl 0 rfl) ?_
        refine lv_aload_n hx hb dX7_goesOn_60 rfl (lv_at hl 0 rfl) ?_
        refine z_get (ci := 7) (v := .ref (a 4)) (C := RX7) (T := TX7) (N := 16) hx hb hts (by decide +kernel) hown hK hM 0 rfl rfl 4 (by decide) (hts (.fieldLink RX7 16 "ShiftIslesModel" "trial" "[I") (by decide +kernel)) (fun _ h9 => h9) rfl dX7_goesOn_61 ?_
        have hru : zRu g1 = true := zRu_of hG1.1.1.1 hP0 hG1.1.1.2.1 c_o
        obtain ⟨t2, hG2⟩ := zGs_ft zZ hG1 hru
        refine z_callV (As := [.ref (a 4)]) (rest := []) (wc := [((a 0), .inr (7, [.int 0, .ref (a 1), .int (u 2), .ref (a 3), .ref (a 4), .ref (a 5), .ref (a 6), .int (u 7), .ref (a 8), .ref (a 9), .int y1, .int y2, .int y3, .long x, .int (u 14), .int (u 15)])), ((a 4), .inl (G.2 1, 121, .inl (flt g1 d1))), ((a 5), .inl (G.2 1, 121, .inl g))]) (wr := [((a 3), .inl (G.2 1, 121, .inl (flt h b)))]) (w1 := [((a 0), .inr (7, [.int 0, .ref (a 1), .int (u 2), .ref (a 3), .ref (a 4), .ref (a 5), .ref (a 6), .int (u 7), .ref (a 8), .ref (a 9), .int (if g1 2 = 0 then (zFs g1 d1 S P y2 y3 g).1 else y1), .int (if g1 2 = 0 then (zFs g1 d1 S P y2 y3 g).2.1 else y2), .int (if g1 2 = 0 then (zFs g1 d1 S P y2 y3 g).2.2.1 else y3), .long x, .int (u 14), .int (u 15)])), ((a 4), .inl (G.2 1, 121, .inl (flt (zFtH g1 d1 P t1 S zZ) (zFtB g1 d1 P t1 S zZ)))), ((a 5), .inl (G.2 1, 121, .inl (if g1 2 = 0 then (zFs g1 d1 S P y2 y3 g).2.2.2.2 else g)))]) (ws' := [((a 0), .inr (7, [.int 0, .ref (a 1), .int (u 2), .ref (a 3), .ref (a 4), .ref (a 5), .ref (a 6), .int (u 7), .ref (a 8), .ref (a 9), .int (if g1 2 = 0 then (zFs g1 d1 S P y2 y3 g).1 else y1), .int (if g1 2 = 0 then (zFs g1 d1 S P y2 y3 g).2.1 else y2), .int (if g1 2 = 0 then (zFs g1 d1 S P y2 y3 g).2.2.1 else y3), .long x, .int (u 14), .int (u 15)])), ((a 3), .inl (G.2 1, 121, .inl (flt h b))), ((a 4), .inl (G.2 1, 121, .inl (flt (zFtH g1 d1 P t1 S zZ) (zFtB g1 d1 P t1 S zZ)))), ((a 5), .inl (G.2 1, 121, .inl (if g1 2 = 0 then (zFs g1 d1 S P y2 y3 g).2.2.2.2 else g)))]) ⟨hx, hb, hml, hown, hts⟩ (c_playOn l G a (upd (upd (upd (upd u 0 0) 10 y1) 11 y2) 12 y3) x g (a 4) g1 d1 P t1 S hG1.1 zZ hP0 (zWf_sel zZ hG1.1 hru) (zGs_sp hG1 hru)) (cwV 1 hts gX7_goesOn_X7_playOn rfl rfl rfl (by decide +kernel) ⟨Nat.le_of_ble_eq_true rfl, Nat.le_of_ble_eq_true rfl⟩) 7 rfl rfl rfl rfl hl.1 rfl (Nat.le_of_ble_eq_true rfl) dX7_goesOn_64 ⟨Nat.le_of_ble_eq_true rfl, Nat.le_of_ble_eq_true rfl⟩ hK hE hA hM (pm_at 4 [0, 2, 3] [1] rfl rfl rfl (by decide)) ((pm_at 4 [0, 2, 3] [1] rfl rfl rfl (by decide))).symm (fun H locs hM hz => ?_)
        refine lv_pop hx hb dX7_goesOn_67 rfl ?_
        refine lv_goto (tgt := 50) hx hb dX7_goesOn_68 (by decide) ?_
        exact ih _ _ t2 (e1 + 1) _ _ _ _ hG2 (by omega) (by rw [hR, zRunU_on hru, zQu_e hG1.1 zZ]) _ _ hM _ (lv_sub hl [0, 1] rfl)
  have hsim : zSim ([((a 0), .inr (7, [.int 0, .ref (a 1), .int (u 2), .ref (a 3), .ref (a 4), .ref (a 5), .ref (a 6), .int (u 7), .ref (a 8), .ref (a 9), .int (u 10), .int (u 11), .int (u 12), .long x, .int (u 14), .int (u 15)])), ((a 3), .inl (G.2 1, 121, .inl (flt h b))), ((a 4), .inl (G.2 1, 121, .inl (cpv (flt h b) F 0 0 121))), ((a 5), .inl (G.2 1, 121, .inl f))]) ([((a 0), .inr (7, [.int 0, .ref (a 1), .int (u 2), .ref (a 3), .ref (a 4), .ref (a 5), .ref (a 6), .int (u 7), .ref (a 8), .ref (a 9), .int (u 10), .int (u 11), .int (u 12), .long x, .int (u 14), .int (u 15)])), ((a 3), .inl (G.2 1, 121, .inl (flt h b))), ((a 4), .inl (G.2 1, 121, .inl (flt h b))), ((a 5), .inl (G.2 1, 121, .inl f))]) := ⟨zSame_rf _, zSame_rf _, zSame_arr cpv_all, zSame_rf _, trivial⟩
  exact lp50 K _ _ t e0 _ _ _ _ hG hK9 rfl _ _ (zM_sim hsim hM) _ (lv_sub hl [0, 1] rfl)
set_option maxHeartbeats 4000000 in
set_option maxRecDepth 100000 in
theorem c_r_move (l : Launch) (G : zC) (a : Nat → Nat) (u : Nat → Int32) (x : Int64) (f : Nat → Int32) (h : Nat → Int32) (b : Nat → Nat → Int32) (P t S e0 : Nat) (hG : zGs h b P t S e0) (hru : zRu h = true) (r9 : Nat) (hr9 : r9 < 2147483648) : zMet l G yX7_move wsX7_move rmX7_move [.ref (a 0), .int (nI r9)] ([((a 0), .inr (7, [.int (u 0), .ref (a 1), .int (u 2), .ref (a 3), .ref (a 4), .ref (a 5), .ref (a 6), .int (u 7), .ref (a 8), .ref (a 9), .int (u 10), .int (u 11), .int (u 12), .long x, .int (u 14), .int (u 15)])), ((a 4), .inl (G.2 1, 121, .inl (flt h b))), ((a 5), .inl (G.2 1, 121, .inl f))]) none ([((a 0), .inr (7, [.int (u 0), .ref (a 1), .int (u 2), .ref (a 3), .ref (a 4), .ref (a 5), .ref (a 6), .int (u 7), .ref (a 8), .ref (a 9), .int ((zMvU r9 ((h, b), u 10, u 11, u 12, f)).2.1), .int ((zMvU r9 ((h, b), u 10, u 11, u 12, f)).2.2.1), .int ((zMvU r9 ((h, b), u 10, u 11, u 12, f)).2.2.2.1), .long x, .int (u 14), .int (u 15)])), ((a 4), .inl (G.2 1, 121, .inl (flt (zMvU r9 ((h, b), u 10, u 11, u 12, f)).1.1 (zMvU r9 ((h, b), u 10, u 11, u 12, f)).1.2))), ((a 5), .inl (G.2 1, 121, .inl ((zMvU r9 ((h, b), u 10, u 11, u 12, f)).2.2.2.2)))]) := by
  refine zMet_of (cc := cX7_move) (maxL := 2) (ret := none) (by decide) rfl (Nat.le_of_ble_eq_true rfl) ?_
  intro p e s m below meth c A ls hx hb hr hml hown hts hK hA hE hlocks hin hM hl
  have hown : s.vm.findClass RX7 = some m.cls := hown
  have hM : zM G A s s.heap [] ([((a 0), .inr (7, [.int (u 0), .ref (a 1), .int (u 2), .ref (a 3), .ref (a 4), .ref (a 5), .ref (a 6), .int (u 7), .ref (a 8), .ref (a 9), .int (u 10), .int (u 11), .int (u 12), .long x, .int (u 14), .int (u 15)])), ((a 4), .inl (G.2 1, 121, .inl (flt h b))), ((a 5), .inl (G.2 1, 121, .inl f))]) := hM
  have hl : lv_has ls 2 [(0, .ref (a 0)), (1, .int (nI r9))] := hl
  have hP0 := zRu_P hG.1.1.1 hG.1.1.2.1 hru
  have hP4 := hG.1.1.2.1
  refine lv_aload_n hx hb dX7_move_0 rfl (lv_at hl 0 rfl) ?_
  refine z_get (ci := 7) (v := .ref (a 4)) (C := RX7) (T := TX7) (N := 16) hx hb hts (by decide +kernel) hown hK hM 0 rfl rfl 4 (by decide) (hts (.fieldLink RX7 16 "ShiftIslesModel" "trial" "[I") (by decide +kernel)) (fun _ h9 => h9) rfl dX7_move_1 ?_
  refine lv_iconst (v := 2) hx hb dX7_move_4 (by decide) ?_
  refine z_iald hx hb hK hM 1 rfl (v := h 2) (vp_in_nI (n := 2) (by decide) (by decide)) (flt_h (k := 2) (by decide)) dX7_move_5 ?_
  refine lv_if_ne (tgt := 72) hx hb dX7_move_6 (by decide) (fun c_0 => ?_) (fun c_0 => ?_)
  · skip
    refine lv_iload_n hx hb dX7_move_72 rfl (lv_at hl 1 rfl) ?_
    refine lv_bipush (v := 8) hx hb dX7_move_73 (by decide) ?_
    refine lv_irem hx hb dX7_move_75 (by decide) ?_
    refine z_topi (y := nI (r9 % 8)) (pk_rem (a := r9) (d := 8) (by omega) (by decide) (by decide)) ?_
    refine lv_if_ne (tgt := 97) hx hb dX7_move_76 (by decide) (fun c_8 => ?_) (fun c_8 => ?_)
    · have h8 : ¬ r9 % 8 = 0 := fun q => c_8 (by rw [q]; rfl)
      refine lv_aload_n hx hb dX7_move_97 rfl (lv_at hl 0 rfl) ?_
      refine z_get (ci := 7) (v := .ref (a 4)) (C := RX7) (T := TX7) (N := 16) hx hb hts (by decide +kernel) hown hK hM 0 rfl rfl 4 (by decide) (hts (.fieldLink RX7 16 "ShiftIslesModel" "trial" "[I") (by decide +kernel)) (fun _ h9 => h9) rfl dX7_move_98 ?_
      refine lv_iload_n hx hb dX7_move_101 rfl (lv_at hl 1 rfl) ?_
      refine lv_bipush (v := 8) hx hb dX7_move_102 (by decide) ?_
      refine lv_idiv hx hb dX7_move_104 (by decide) ?_
      refine z_topi (y := nI (r9 / 8)) (pk_div (a := r9) (d := 8) (by omega) (by decide) (by decide)) ?_
      refine lv_bipush (v := 9) hx hb dX7_move_105 (by decide) ?_
      refine lv_irem hx hb dX7_move_107 (by decide) ?_
      refine z_topi (y := nI ((r9 / 8) % 9)) (pk_rem (a := (r9 / 8)) (d := 9) (by omega) (by decide) (by decide)) ?_
      refine z_callS (As := [.ref (a 4), .int (nI ((r9 / 8) % 9))]) (rest := []) (wc := rfW G (a 4) h b) (wr := [((a 0), .inr (7, [.int (u 0), .ref (a 1), .int (u 2), .ref (a 3), .ref (a 4), .ref (a 5), .ref (a 6), .int (u 7), .ref (a 8), .ref (a 9), .int (u 10), .int (u 11), .int (u 12), .long x, .int (u 14), .int (u 15)])), ((a 5), .inl (G.2 1, 121, .inl f))]) (w1 := rfW G (a 4) h b) (ws' := [((a 0), .inr (7, [.int (u 0), .ref (a 1), .int (u 2), .ref (a 3), .ref (a 4), .ref (a 5), .ref (a 6), .int (u 7), .ref (a 8), .ref (a 9), .int (u 10), .int (u 11), .int (u 12), .long x, .int (u 14), .int (u 15)])), ((a 4), .inl (G.2 1, 121, .inl (flt h b))), ((a 5), .inl (G.2 1, 121, .inl f))]) ⟨hx, hb, hml, hown, hts⟩ (c_canGo l G (a 4) h b P t S hG.1 (nI ((r9 / 8) % 9)) (zPl_nI (by omega)) ) (va_cwS 2 hts gX7_move_X7_canGo rfl rfl rfl (by decide +kernel) ⟨Nat.le_of_ble_eq_true rfl, Nat.le_of_ble_eq_true rfl⟩) rfl hl.1 rfl (Nat.le_of_ble_eq_true rfl) dX7_move_108 ⟨Nat.le_of_ble_eq_true rfl, Nat.le_of_ble_eq_true rfl⟩ hK hE hA hM (pm_at 3 [1] [0, 2] rfl rfl rfl (by decide)) ((pm_at 3 [1] [0, 2] rfl rfl rfl (by decide))).symm (fun H locs hM hz => ?_)
      refine z_ifeq (tgt := 132) hx hb dX7_move_111 (by decide) (fun c_g => ?_) (fun c_g => ?_)
      · skip
        refine lv_aload_n hx hb dX7_move_132 rfl (lv_at hl 0 rfl) ?_
        refine lv_aload_n hx hb dX7_move_133 rfl (lv_at hl 0 rfl) ?_
        refine z_get (ci := 7) (v := .ref (a 4)) (C := RX7) (T := TX7) (N := 16) hx hb hts (by decide +kernel) hown hK hM 0 rfl rfl 4 (by decide) (hts (.fieldLink RX7 16 "ShiftIslesModel" "trial" "[I") (by decide +kernel)) (fun _ h9 => h9) rfl dX7_move_134 ?_
        refine z_callV (As := [.ref (a 4)]) (rest := []) (wc := [((a 0), .inr (7, [.int (u 0), .ref (a 1), .int (u 2), .ref (a 3), .ref (a 4), .ref (a 5), .ref (a 6), .int (u 7), .ref (a 8), .ref (a 9), .int (u 10), .int (u 11), .int (u 12), .long x, .int (u 14), .int (u 15)])), ((a 4), .inl (G.2 1, 121, .inl (flt h b))), ((a 5), .inl (G.2 1, 121, .inl f))]) (wr := []) (w1 := [((a 0), .inr (7, [.int (u 0), .ref (a 1), .int (u 2), .ref (a 3), .ref (a 4), .ref (a 5), .ref (a 6), .int (u 7), .ref (a 8), .ref (a 9), .int (if h 2 = 0 then (zFs h b S P (u 11) (u 12) f).1 else u 10), .int (if h 2 = 0 then (zFs h b S P (u 11) (u 12) f).2.1 else u 11), .int (if h 2 = 0 then (zFs h b S P (u 11) (u 12) f).2.2.1 else u 12), .long x, .int (u 14), .int (u 15)])), ((a 4), .inl (G.2 1, 121, .inl (flt (zFtH h b P t S zZ) (zFtB h b P t S zZ)))), ((a 5), .inl (G.2 1, 121, .inl (if h 2 = 0 then (zFs h b S P (u 11) (u 12) f).2.2.2.2 else f)))]) (ws' := [((a 0), .inr (7, [.int (u 0), .ref (a 1), .int (u 2), .ref (a 3), .ref (a 4), .ref (a 5), .ref (a 6), .int (u 7), .ref (a 8), .ref (a 9), .int (if h 2 = 0 then (zFs h b S P (u 11) (u 12) f).1 else u 10), .int (if h 2 = 0 then (zFs h b S P (u 11) (u 12) f).2.1 else u 11), .int (if h 2 = 0 then (zFs h b S P (u 11) (u 12) f).2.2.1 else u 12), .long x, .int (u 14), .int (u 15)])), ((a 4), .inl (G.2 1, 121, .inl (flt (zFtH h b P t S zZ) (zFtB h b P t S zZ)))), ((a 5), .inl (G.2 1, 121, .inl (if h 2 = 0 then (zFs h b S P (u 11) (u 12) f).2.2.2.2 else f)))]) ⟨hx, hb, hml, hown, hts⟩ (c_playOn l G a (upd (upd (upd (upd u 0 (u 0)) 10 (u 10)) 11 (u 11)) 12 (u 12)) x f (a 4) h b P t S hG.1 zZ hP0 (zWf_sel zZ hG.1 hru) (zGs_sp hG hru)) (cwV 1 hts gX7_move_X7_playOn rfl rfl rfl (by decide +kernel) ⟨Nat.le_of_ble_eq_true rfl, Nat.le_of_ble_eq_true rfl⟩) 7 rfl rfl rfl rfl hl.1 rfl (Nat.le_of_ble_eq_true rfl) dX7_move_137 ⟨Nat.le_of_ble_eq_true rfl, Nat.le_of_ble_eq_true rfl⟩ hK hE hA hM (pm_at 3 [0, 1, 2] [] rfl rfl rfl (by decide)) ((pm_at 3 [0, 1, 2] [] rfl rfl rfl (by decide))).symm (fun H locs hM hz => ?_)
        refine lv_pop hx hb dX7_move_140 rfl ?_
        exact z_vret hx hb hr hlocks dX7_move_141 (by rw [zMvU_q2 hG.1 c_0 h8 c_g, zQu_e hG.1 zZ]; exact hM) (Nat.le_of_ble_eq_true rfl) (Nat.le_of_ble_eq_true rfl)
      · skip
        refine lv_aload_n hx hb dX7_move_114 rfl (lv_at hl 0 rfl) ?_
        refine z_get (ci := 7) (v := .ref (a 4)) (C := RX7) (T := TX7) (N := 16) hx hb hts (by decide +kernel) hown hK hM 0 rfl rfl 4 (by decide) (hts (.fieldLink RX7 16 "ShiftIslesModel" "trial" "[I") (by decide +kernel)) (fun _ h9 => h9) rfl dX7_move_115 ?_
        refine lv_iload_n hx hb dX7_move_118 rfl (lv_at hl 1 rfl) ?_
        refine lv_bipush (v := 8) hx hb dX7_move_119 (by decide) ?_
        refine lv_idiv hx hb dX7_move_121 (by decide) ?_
        refine z_topi (y := nI (r9 / 8)) (pk_div (a := r9) (d := 8) (by omega) (by decide) (by decide)) ?_
        refine lv_bipush (v := 9) hx hb dX7_move_122 (by decide) ?_
        refine lv_irem hx hb dX7_move_124 (by decide) ?_
        refine z_topi (y := nI ((r9 / 8) % 9)) (pk_rem (a := (r9 / 8)) (d := 9) (by omega) (by decide) (by decide)) ?_
        refine z_callS (As := [.ref (a 4), .int (nI ((r9 / 8) % 9))]) (rest := []) (wc := rfW G (a 4) h b) (wr := [((a 0), .inr (7, [.int (u 0), .ref (a 1), .int (u 2), .ref (a 3), .ref (a 4), .ref (a 5), .ref (a 6), .int (u 7), .ref (a 8), .ref (a 9), .int (u 10), .int (u 11), .int (u 12), .long x, .int (u 14), .int (u 15)])), ((a 5), .inl (G.2 1, 121, .inl f))]) (w1 := [((a 4), .inl (G.2 1, 121, .inl (flt (zEtH h (zGoB b t ((r9 / 8) % 9)) t P) (zEtB h (zGoB b t ((r9 / 8) % 9)) t P))))]) (ws' := [((a 0), .inr (7, [.int (u 0), .ref (a 1), .int (u 2), .ref (a 3), .ref (a 4), .ref (a 5), .ref (a 6), .int (u 7), .ref (a 8), .ref (a 9), .int (u 10), .int (u 11), .int (u 12), .long x, .int (u 14), .int (u 15)])), ((a 4), .inl (G.2 1, 121, .inl (flt (zEtH h (zGoB b t ((r9 / 8) % 9)) t P) (zEtB h (zGoB b t ((r9 / 8) % 9)) t P)))), ((a 5), .inl (G.2 1, 121, .inl f))]) ⟨hx, hb, hml, hown, hts⟩ (c_goOn l G (a 4) h b P t S hG.1 hP0 ((r9 / 8) % 9) (by omega)) (va_cwS 2 hts gX7_move_X7_goOn rfl rfl rfl (by decide +kernel) ⟨Nat.le_of_ble_eq_true rfl, Nat.le_of_ble_eq_true rfl⟩) rfl hl.1 rfl (Nat.le_of_ble_eq_true rfl) dX7_move_125 ⟨Nat.le_of_ble_eq_true rfl, Nat.le_of_ble_eq_true rfl⟩ hK hE hA hM (pm_at 3 [1] [0, 2] rfl rfl rfl (by decide)) ((pm_at 3 [1] [0, 2] rfl rfl rfl (by decide))).symm (fun H locs hM hz => ?_)
        refine lv_pop hx hb dX7_move_128 rfl ?_
        refine lv_goto (tgt := 141) hx hb dX7_move_129 (by decide) ?_
        exact z_vret hx hb hr hlocks dX7_move_141 (by rw [zMvU_go hG.1 c_0 h8 c_g]; exact hM) (Nat.le_of_ble_eq_true rfl) (Nat.le_of_ble_eq_true rfl)
    · have h8 : r9 % 8 = 0 := (nI_eq (a := r9 % 8) (b := 0) (by omega) (by decide)).mp c_8
      refine lv_aload_n hx hb dX7_move_79 rfl (lv_at hl 0 rfl) ?_
      refine z_get (ci := 7) (v := .ref (a 4)) (C := RX7) (T := TX7) (N := 16) hx hb hts (by decide +kernel) hown hK hM 0 rfl rfl 4 (by decide) (hts (.fieldLink RX7 16 "ShiftIslesModel" "trial" "[I") (by decide +kernel)) (fun _ h9 => h9) rfl dX7_move_80 ?_
      refine lv_iload_n hx hb dX7_move_83 rfl (lv_at hl 1 rfl) ?_
      refine lv_bipush (v := 8) hx hb dX7_move_84 (by decide) ?_
      refine lv_idiv hx hb dX7_move_86 (by decide) ?_
      refine z_topi (y := nI (r9 / 8)) (pk_div (a := r9) (d := 8) (by omega) (by decide) (by decide)) ?_
      refine lv_bipush (v := 6) hx hb dX7_move_87 (by decide) ?_
      refine lv_irem hx hb dX7_move_89 (by decide) ?_
      refine z_topi (y := nI ((r9 / 8) % 6)) (pk_rem (a := (r9 / 8)) (d := 6) (by omega) (by decide) (by decide)) ?_
      refine z_callS (As := [.ref (a 4), .int (nI ((r9 / 8) % 6))]) (rest := []) (wc := rfW G (a 4) h b) (wr := [((a 0), .inr (7, [.int (u 0), .ref (a 1), .int (u 2), .ref (a 3), .ref (a 4), .ref (a 5), .ref (a 6), .int (u 7), .ref (a 8), .ref (a 9), .int (u 10), .int (u 11), .int (u 12), .long x, .int (u 14), .int (u 15)])), ((a 5), .inl (G.2 1, 121, .inl f))]) (w1 := [((a 4), .inl (G.2 1, 121, .inl (flt (zEtH h (zLkB b t (nI ((r9 / 8) % 6))) t P) (zEtB h (zLkB b t (nI ((r9 / 8) % 6))) t P))))]) (ws' := [((a 0), .inr (7, [.int (u 0), .ref (a 1), .int (u 2), .ref (a 3), .ref (a 4), .ref (a 5), .ref (a 6), .int (u 7), .ref (a 8), .ref (a 9), .int (u 10), .int (u 11), .int (u 12), .long x, .int (u 14), .int (u 15)])), ((a 4), .inl (G.2 1, 121, .inl (flt (zEtH h (zLkB b t (nI ((r9 / 8) % 6))) t P) (zEtB h (zLkB b t (nI ((r9 / 8) % 6))) t P)))), ((a 5), .inl (G.2 1, 121, .inl f))]) ⟨hx, hb, hml, hown, hts⟩ (c_r_lockOn l G (a 4) h b P t S hG.1 hP0 (nI ((r9 / 8) % 6))) (va_cwS 2 hts gX7_move_X7_lockOn rfl rfl rfl (by decide +kernel) ⟨Nat.le_of_ble_eq_true rfl, Nat.le_of_ble_eq_true rfl⟩) rfl hl.1 rfl (Nat.le_of_ble_eq_true rfl) dX7_move_90 ⟨Nat.le_of_ble_eq_true rfl, Nat.le_of_ble_eq_true rfl⟩ hK hE hA hM (pm_at 3 [1] [0, 2] rfl rfl rfl (by decide)) ((pm_at 3 [1] [0, 2] rfl rfl rfl (by decide))).symm (fun H locs hM hz => ?_)
      refine lv_pop hx hb dX7_move_93 rfl ?_
      refine lv_goto (tgt := 141) hx hb dX7_move_94 (by decide) ?_
      exact z_vret hx hb hr hlocks dX7_move_141 (by rw [zMvU_lk hG.1 c_0 h8]; exact hM) (Nat.le_of_ble_eq_true rfl) (Nat.le_of_ble_eq_true rfl)
  · skip
    refine lv_aload_n hx hb dX7_move_9 rfl (lv_at hl 0 rfl) ?_
    refine z_get (ci := 7) (v := .ref (a 4)) (C := RX7) (T := TX7) (N := 16) hx hb hts (by decide +kernel) hown hK hM 0 rfl rfl 4 (by decide) (hts (.fieldLink RX7 16 "ShiftIslesModel" "trial" "[I") (by decide +kernel)) (fun _ h9 => h9) rfl dX7_move_10 ?_
    refine lv_iload_n hx hb dX7_move_13 rfl (lv_at hl 1 rfl) ?_
    refine lv_iconst (v := 4) hx hb dX7_move_14 (by decide) ?_
    refine lv_irem hx hb dX7_move_15 (by decide) ?_
    refine z_topi (y := nI (r9 % 4)) (pk_rem (a := r9) (d := 4) (by omega) (by decide) (by decide)) ?_
    refine lv_iload_n hx hb dX7_move_16 rfl (lv_at hl 1 rfl) ?_
    refine lv_iconst (v := 4) hx hb dX7_move_17 (by decide) ?_
    refine lv_idiv hx hb dX7_move_18 (by decide) ?_
    refine z_topi (y := nI (r9 / 4)) (pk_div (a := r9) (d := 4) (by omega) (by decide) (by decide)) ?_
    refine lv_bipush (v := 6) hx hb dX7_move_19 (by decide) ?_
    refine lv_irem hx hb dX7_move_21 (by decide) ?_
    refine z_topi (y := nI ((r9 / 4) % 6)) (pk_rem (a := (r9 / 4)) (d := 6) (by omega) (by decide) (by decide)) ?_
    refine lv_iload_n hx hb dX7_move_22 rfl (lv_at hl 1 rfl) ?_
    refine lv_bipush (v := 32) hx hb dX7_move_23 (by decide) ?_
    refine lv_idiv hx hb dX7_move_25 (by decide) ?_
    refine z_topi (y := nI (r9 / 32)) (pk_div (a := r9) (d := 32) (by omega) (by decide) (by decide)) ?_
    refine lv_iconst (v := 2) hx hb dX7_move_26 (by decide) ?_
    refine lv_irem hx hb dX7_move_27 (by decide) ?_
    refine z_topi (y := nI ((r9 / 32) % 2)) (pk_rem (a := (r9 / 32)) (d := 2) (by omega) (by decide) (by decide)) ?_
    refine z_callS (As := [.ref (a 4), .int (nI (r9 % 4)), .int (nI ((r9 / 4) % 6)), .int (nI ((r9 / 32) % 2))]) (rest := []) (wc := rfW G (a 4) h b) (wr := [((a 0), .inr (7, [.int (u 0), .ref (a 1), .int (u 2), .ref (a 3), .ref (a 4), .ref (a 5), .ref (a 6), .int (u 7), .ref (a 8), .ref (a 9), .int (u 10), .int (u 11), .int (u 12), .long x, .int (u 14), .int (u 15)])), ((a 5), .inl (G.2 1, 121, .inl f))]) (w1 := rfW G (a 4) h b) (ws' := [((a 0), .inr (7, [.int (u 0), .ref (a 1), .int (u 2), .ref (a 3), .ref (a 4), .ref (a 5), .ref (a 6), .int (u 7), .ref (a 8), .ref (a 9), .int (u 10), .int (u 11), .int (u 12), .long x, .int (u 14), .int (u 15)])), ((a 4), .inl (G.2 1, 121, .inl (flt h b))), ((a 5), .inl (G.2 1, 121, .inl f))]) ⟨hx, hb, hml, hown, hts⟩ (c_csn l G (a 4) h b P t S hG.1 (r9 % 4) (nI ((r9 / 4) % 6)) (nI ((r9 / 32) % 2)) (by omega) (zLi_nI (by omega)) (zDi_c (r9 / 32)) ) (va_cwS 4 hts gX7_move_X7_canShiftNow rfl rfl rfl (by decide +kernel) ⟨Nat.le_of_ble_eq_true rfl, Nat.le_of_ble_eq_true rfl⟩) rfl hl.1 rfl (Nat.le_of_ble_eq_true rfl) dX7_move_28 ⟨Nat.le_of_ble_eq_true rfl, Nat.le_of_ble_eq_true rfl⟩ hK hE hA hM (pm_at 3 [1] [0, 2] rfl rfl rfl (by decide)) ((pm_at 3 [1] [0, 2] rfl rfl rfl (by decide))).symm (fun H locs hM hz => ?_)
    refine z_ifeq (tgt := 60) hx hb dX7_move_31 (by decide) (fun c_m => ?_) (fun c_m => ?_)
    · skip
      refine lv_aload_n hx hb dX7_move_60 rfl (lv_at hl 0 rfl) ?_
      refine lv_aload_n hx hb dX7_move_61 rfl (lv_at hl 0 rfl) ?_
      refine z_get (ci := 7) (v := .ref (a 4)) (C := RX7) (T := TX7) (N := 16) hx hb hts (by decide +kernel) hown hK hM 0 rfl rfl 4 (by decide) (hts (.fieldLink RX7 16 "ShiftIslesModel" "trial" "[I") (by decide +kernel)) (fun _ h9 => h9) rfl dX7_move_62 ?_
      refine z_callV (As := [.ref (a 4)]) (rest := []) (wc := [((a 0), .inr (7, [.int (u 0), .ref (a 1), .int (u 2), .ref (a 3), .ref (a 4), .ref (a 5), .ref (a 6), .int (u 7), .ref (a 8), .ref (a 9), .int (u 10), .int (u 11), .int (u 12), .long x, .int (u 14), .int (u 15)])), ((a 4), .inl (G.2 1, 121, .inl (flt h b))), ((a 5), .inl (G.2 1, 121, .inl f))]) (wr := []) (w1 := [((a 0), .inr (7, [.int (u 0), .ref (a 1), .int (u 2), .ref (a 3), .ref (a 4), .ref (a 5), .ref (a 6), .int (u 7), .ref (a 8), .ref (a 9), .int (if h 2 = 0 then (zFs h b S P (u 11) (u 12) f).1 else u 10), .int (if h 2 = 0 then (zFs h b S P (u 11) (u 12) f).2.1 else u 11), .int (if h 2 = 0 then (zFs h b S P (u 11) (u 12) f).2.2.1 else u 12), .long x, .int (u 14), .int (u 15)])), ((a 4), .inl (G.2 1, 121, .inl (flt (zFtH h b P t S zZ) (zFtB h b P t S zZ)))), ((a 5), .inl (G.2 1, 121, .inl (if h 2 = 0 then (zFs h b S P (u 11) (u 12) f).2.2.2.2 else f)))]) (ws' := [((a 0), .inr (7, [.int (u 0), .ref (a 1), .int (u 2), .ref (a 3), .ref (a 4), .ref (a 5), .ref (a 6), .int (u 7), .ref (a 8), .ref (a 9), .int (if h 2 = 0 then (zFs h b S P (u 11) (u 12) f).1 else u 10), .int (if h 2 = 0 then (zFs h b S P (u 11) (u 12) f).2.1 else u 11), .int (if h 2 = 0 then (zFs h b S P (u 11) (u 12) f).2.2.1 else u 12), .long x, .int (u 14), .int (u 15)])), ((a 4), .inl (G.2 1, 121, .inl (flt (zFtH h b P t S zZ) (zFtB h b P t S zZ)))), ((a 5), .inl (G.2 1, 121, .inl (if h 2 = 0 then (zFs h b S P (u 11) (u 12) f).2.2.2.2 else f)))]) ⟨hx, hb, hml, hown, hts⟩ (c_playOn l G a (upd (upd (upd (upd u 0 (u 0)) 10 (u 10)) 11 (u 11)) 12 (u 12)) x f (a 4) h b P t S hG.1 zZ hP0 (zWf_sel zZ hG.1 hru) (zGs_sp hG hru)) (cwV 1 hts gX7_move_X7_playOn rfl rfl rfl (by decide +kernel) ⟨Nat.le_of_ble_eq_true rfl, Nat.le_of_ble_eq_true rfl⟩) 7 rfl rfl rfl rfl hl.1 rfl (Nat.le_of_ble_eq_true rfl) dX7_move_65 ⟨Nat.le_of_ble_eq_true rfl, Nat.le_of_ble_eq_true rfl⟩ hK hE hA hM (pm_at 3 [0, 1, 2] [] rfl rfl rfl (by decide)) ((pm_at 3 [0, 1, 2] [] rfl rfl rfl (by decide))).symm (fun H locs hM hz => ?_)
      refine lv_pop hx hb dX7_move_68 rfl ?_
      refine lv_goto (tgt := 141) hx hb dX7_move_69 (by decide) ?_
      exact z_vret hx hb hr hlocks dX7_move_141 (by rw [zMvU_q1 c_0 c_m, zQu_e hG.1 zZ]; exact hM) (Nat.le_of_ble_eq_true rfl) (Nat.le_of_ble_eq_true rfl)
    · skip
      refine lv_aload_n hx hb dX7_move_34 rfl (lv_at hl 0 rfl) ?_
      refine z_get (ci := 7) (v := .ref (a 4)) (C := RX7) (T := TX7) (N := 16) hx hb hts (by decide +kernel) hown hK hM 0 rfl rfl 4 (by decide) (hts (.fieldLink RX7 16 "ShiftIslesModel" "trial" "[I") (by decide +kernel)) (fun _ h9 => h9) rfl dX7_move_35 ?_
      refine lv_iload_n hx hb dX7_move_38 rfl (lv_at hl 1 rfl) ?_
      refine lv_iconst (v := 4) hx hb dX7_move_39 (by decide) ?_
      refine lv_irem hx hb dX7_move_40 (by decide) ?_
      refine z_topi (y := nI (r9 % 4)) (pk_rem (a := r9) (d := 4) (by omega) (by decide) (by decide)) ?_
      refine lv_iload_n hx hb dX7_move_41 rfl (lv_at hl 1 rfl) ?_
      refine lv_iconst (v := 4) hx hb dX7_move_42 (by decide) ?_
      refine lv_idiv hx hb dX7_move_43 (by decide) ?_
      refine z_topi (y := nI (r9 / 4)) (pk_div (a := r9) (d := 4) (by omega) (by decide) (by decide)) ?_
      refine lv_bipush (v := 6) hx hb dX7_move_44 (by decide) ?_
      refine lv_irem hx hb dX7_move_46 (by decide) ?_
      refine z_topi (y := nI ((r9 / 4) % 6)) (pk_rem (a := (r9 / 4)) (d := 6) (by omega) (by decide) (by decide)) ?_
      refine lv_iload_n hx hb dX7_move_47 rfl (lv_at hl 1 rfl) ?_
      refine lv_bipush (v := 32) hx hb dX7_move_48 (by decide) ?_
      refine lv_idiv hx hb dX7_move_50 (by decide) ?_
      refine z_topi (y := nI (r9 / 32)) (pk_div (a := r9) (d := 32) (by omega) (by decide) (by decide)) ?_
      refine lv_iconst (v := 2) hx hb dX7_move_51 (by decide) ?_
      refine lv_irem hx hb dX7_move_52 (by decide) ?_
      refine z_topi (y := nI ((r9 / 32) % 2)) (pk_rem (a := (r9 / 32)) (d := 2) (by omega) (by decide) (by decide)) ?_
      refine z_callS (As := [.ref (a 4), .int (nI (r9 % 4)), .int (nI ((r9 / 4) % 6)), .int (nI ((r9 / 32) % 2))]) (rest := []) (wc := rfW G (a 4) h b) (wr := [((a 0), .inr (7, [.int (u 0), .ref (a 1), .int (u 2), .ref (a 3), .ref (a 4), .ref (a 5), .ref (a 6), .int (u 7), .ref (a 8), .ref (a 9), .int (u 10), .int (u 11), .int (u 12), .long x, .int (u 14), .int (u 15)])), ((a 5), .inl (G.2 1, 121, .inl f))]) (w1 := [((a 4), .inl (G.2 1, 121, .inl (flt (zShH h) (va_up b (r9 % 4) (zMv (b (r9 % 4)) ((r9 / 4) % 6) (nI ((r9 / 32) % 2)))))))]) (ws' := [((a 0), .inr (7, [.int (u 0), .ref (a 1), .int (u 2), .ref (a 3), .ref (a 4), .ref (a 5), .ref (a 6), .int (u 7), .ref (a 8), .ref (a 9), .int (u 10), .int (u 11), .int (u 12), .long x, .int (u 14), .int (u 15)])), ((a 4), .inl (G.2 1, 121, .inl (flt (zShH h) (va_up b (r9 % 4) (zMv (b (r9 % 4)) ((r9 / 4) % 6) (nI ((r9 / 32) % 2))))))), ((a 5), .inl (G.2 1, 121, .inl f))]) ⟨hx, hb, hml, hown, hts⟩ (c_shiftOn l G (a 4) h b P t S hG.1 (r9 % 4) ((r9 / 4) % 6) (nI ((r9 / 32) % 2)) ((zHp_lt hG.1.1.1 hP4 (by omega)).mp (zMs_r c_m).2.2.1) (by omega) (nI_c2 (r9 / 32))) (va_cwS 4 hts gX7_move_X7_shiftOn rfl rfl rfl (by decide +kernel) ⟨Nat.le_of_ble_eq_true rfl, Nat.le_of_ble_eq_true rfl⟩) rfl hl.1 rfl (Nat.le_of_ble_eq_true rfl) dX7_move_53 ⟨Nat.le_of_ble_eq_true rfl, Nat.le_of_ble_eq_true rfl⟩ hK hE hA hM (pm_at 3 [1] [0, 2] rfl rfl rfl (by decide)) ((pm_at 3 [1] [0, 2] rfl rfl rfl (by decide))).symm (fun H locs hM hz => ?_)
      refine lv_pop hx hb dX7_move_56 rfl ?_
      refine lv_goto (tgt := 141) hx hb dX7_move_57 (by decide) ?_
      exact z_vret hx hb hr hlocks dX7_move_141 (by rw [zMvU_sh c_0 c_m]; exact hM) (Nat.le_of_ble_eq_true rfl) (Nat.le_of_ble_eq_true rfl)

set_option maxHeartbeats 4000000 in
set_option maxRecDepth 100000 in
theorem c_r_sim1 (l : Launch) (G : zC) (a : Nat → Nat) (u : Nat → Int32) (x : Int64) (f F : Nat → Int32) (h : Nat → Int32) (b : Nat → Nat → Int32) (x9 : Int64) (w9 : Int32) (hc : zI0 w9.toInt64 1 80 = false) : zMet l G yX7_simulate wsX7_simulate rmX7_simulate [.ref (a 0), .long x9, .int w9] ([((a 0), .inr (7, [.int (u 0), .ref (a 1), .int (u 2), .ref (a 3), .ref (a 4), .ref (a 5), .ref (a 6), .int (u 7), .ref (a 8), .ref (a 9), .int (u 10), .int (u 11), .int (u 12), .long x, .int (u 14), .int (u 15)])), ((a 3), .inl (G.2 1, 121, .inl (flt h b))), ((a 4), .inl (G.2 1, 121, .inl F)), ((a 5), .inl (G.2 1, 121, .inl f))]) (some (.int 0)) ([((a 0), .inr (7, [.int 1, .ref (a 1), .int (u 2), .ref (a 3), .ref (a 4), .ref (a 5), .ref (a 6), .int (u 7), .ref (a 8), .ref (a 9), .int (u 10), .int (u 11), .int (u 12), .long x, .int (u 14), .int (u 15)])), ((a 3), .inl (G.2 1, 121, .inl (flt h b))), ((a 4), .inl (G.2 1, 121, .inl F)), ((a 5), .inl (G.2 1, 121, .inl f))]) := by
  refine zMet_of (cc := cX7_simulate) (maxL := 7) (ret := (some .int)) (by decide) rfl (Nat.le_of_ble_eq_true rfl) ?_
  intro p e s m below meth c A ls hx hb hr hml hown hts hK hA hE hlocks hin hM hl
  have hown : s.vm.findClass RX7 = some m.cls := hown
  have hM : zM G A s s.heap [] ([((a 0), .inr (7, [.int (u 0), .ref (a 1), .int (u 2), .ref (a 3), .ref (a 4), .ref (a 5), .ref (a 6), .int (u 7), .ref (a 8), .ref (a 9), .int (u 10), .int (u 11), .int (u 12), .long x, .int (u 14), .int (u 15)])), ((a 3), .inl (G.2 1, 121, .inl (flt h b))), ((a 4), .inl (G.2 1, 121, .inl F)), ((a 5), .inl (G.2 1, 121, .inl f))]) := hM
  have hl : lv_has ls 7 [(0, .ref (a 0)), (1, .long x9), (3, .int w9)] := hl
  refine lv_aload_n hx hb dX7_simulate_0 rfl (lv_at hl 0 rfl) ?_
  refine lv_iload_n hx hb dX7_simulate_1 rfl (lv_at hl 2 rfl) ?_
  refine lv_i2l (v := w9.toInt64) hx hb dX7_simulate_2 rfl ?_
  refine lv_lconst (v := 1) hx hb dX7_simulate_3 (by decide) ?_
  refine lv_ldc2 (v := 80) hx hb hown (hts (.constantLong RX7 235 80) (by decide +kernel)) dX7_simulate_4 ?_
  refine z_callS (As := [.long w9.toInt64, .long 1, .long 80]) (rest := [.ref (a 0)]) (wc := []) (wr := [((a 0), .inr (7, [.int (u 0), .ref (a 1), .int (u 2), .ref (a 3), .ref (a 4), .ref (a 5), .ref (a 6), .int (u 7), .ref (a 8), .ref (a 9), .int (u 10), .int (u 11), .int (u 12), .long x, .int (u 14), .int (u 15)])), ((a 3), .inl (G.2 1, 121, .inl (flt h b))), ((a 4), .inl (G.2 1, 121, .inl F)), ((a 5), .inl (G.2 1, 121, .inl f))]) (w1 := []) (ws' := [((a 0), .inr (7, [.int (u 0), .ref (a 1), .int (u 2), .ref (a 3), .ref (a 4), .ref (a 5), .ref (a 6), .int (u 7), .ref (a 8), .ref (a 9), .int (u 10), .int (u 11), .int (u 12), .long x, .int (u 14), .int (u 15)])), ((a 3), .inl (G.2 1, 121, .inl (flt h b))), ((a 4), .inl (G.2 1, 121, .inl F)), ((a 5), .inl (G.2 1, 121, .inl f))]) ⟨hx, hb, hml, hown, hts⟩ (c_in l G w9.toInt64 1 80) (va_cwS 3 hts gX7_simulate_X7_in rfl rfl rfl (by decide +kernel) ⟨Nat.le_of_ble_eq_true rfl, Nat.le_of_ble_eq_true rfl⟩) rfl hl.1 rfl (Nat.le_of_ble_eq_true rfl) dX7_simulate_7 ⟨Nat.le_of_ble_eq_true rfl, Nat.le_of_ble_eq_true rfl⟩ hK hE hA hM (List.Perm.refl _) (List.Perm.refl _) (fun H locs hM hz => ?_)
  refine z_ifeq (tgt := 17) hx hb dX7_simulate_10 (by decide) (fun c_1 => ?_) (fun c_1 => Bool.noConfusion (c_1.symm.trans hc))
  refine lv_iconst (v := 1) hx hb dX7_simulate_17 (by decide) ?_
  refine z_callV (As := [.int 1]) (rest := []) (wc := [((a 0), .inr (7, [.int (u 0), .ref (a 1), .int (u 2), .ref (a 3), .ref (a 4), .ref (a 5), .ref (a 6), .int (u 7), .ref (a 8), .ref (a 9), .int (u 10), .int (u 11), .int (u 12), .long x, .int (u 14), .int (u 15)]))]) (wr := [((a 3), .inl (G.2 1, 121, .inl (flt h b))), ((a 4), .inl (G.2 1, 121, .inl F)), ((a 5), .inl (G.2 1, 121, .inl f))]) (w1 := [((a 0), .inr (7, [.int 1, .ref (a 1), .int (u 2), .ref (a 3), .ref (a 4), .ref (a 5), .ref (a 6), .int (u 7), .ref (a 8), .ref (a 9), .int (u 10), .int (u 11), .int (u 12), .long x, .int (u 14), .int (u 15)]))]) (ws' := [((a 0), .inr (7, [.int 1, .ref (a 1), .int (u 2), .ref (a 3), .ref (a 4), .ref (a 5), .ref (a 6), .int (u 7), .ref (a 8), .ref (a 9), .int (u 10), .int (u 11), .int (u 12), .long x, .int (u 14), .int (u 15)])), ((a 3), .inl (G.2 1, 121, .inl (flt h b))), ((a 4), .inl (G.2 1, 121, .inl F)), ((a 5), .inl (G.2 1, 121, .inl f))]) ⟨hx, hb, hml, hown, hts⟩ (c_refused l G (a 0) (.int (u 0)) (.ref (a 1)) (.int (u 2)) (.ref (a 3)) (.ref (a 4)) (.ref (a 5)) (.ref (a 6)) (.int (u 7)) (.ref (a 8)) (.ref (a 9)) (.int (u 10)) (.int (u 11)) (.int (u 12)) (.long x) (.int (u 14)) (.int (u 15)) 1) (cwV 1 hts gX7_simulate_X7_refused rfl rfl rfl (by decide +kernel) ⟨Nat.le_of_ble_eq_true rfl, Nat.le_of_ble_eq_true rfl⟩) 7 rfl rfl rfl rfl hl.1 rfl (Nat.le_of_ble_eq_true rfl) dX7_simulate_18 ⟨Nat.le_of_ble_eq_true rfl, Nat.le_of_ble_eq_true rfl⟩ hK hE hA hM (pm_at 4 [0] [1, 2, 3] rfl rfl rfl (by decide)) ((pm_at 4 [0] [1, 2, 3] rfl rfl rfl (by decide))).symm (fun H locs hM hz => ?_)
  refine z_ifeq (tgt := 26) hx hb dX7_simulate_21 (by decide) (fun c_2 => absurd c_2 (by decide)) (fun c_2 => ?_)
  refine lv_iconst (v := 0) hx hb dX7_simulate_24 (by decide) ?_
  exact z_iret hx hb hr hlocks dX7_simulate_25 hM (Nat.le_of_ble_eq_true rfl) (Nat.le_of_ble_eq_true rfl) rfl

set_option maxHeartbeats 4000000 in
set_option maxRecDepth 100000 in
theorem c_r_sim0 (l : Launch) (G : zC) (a : Nat → Nat) (u : Nat → Int32) (x : Int64) (f F : Nat → Int32) (h : Nat → Int32) (b : Nat → Nat → Int32) (P t S e0 : Nat) (hG : zGs h b P t S e0) (x9 : Int64) (N : Nat) (hN80 : N ≤ 80) (hc : zI0 (nI N).toInt64 1 80 = true) : zMet l G yX7_simulate wsX7_simulate rmX7_simulate [.ref (a 0), .long x9, .int (nI N)] ([((a 0), .inr (7, [.int (u 0), .ref (a 1), .int (u 2), .ref (a 3), .ref (a 4), .ref (a 5), .ref (a 6), .int (u 7), .ref (a 8), .ref (a 9), .int (u 10), .int (u 11), .int (u 12), .long x, .int (u 14), .int (u 15)])), ((a 3), .inl (G.2 1, 121, .inl (flt h b))), ((a 4), .inl (G.2 1, 121, .inl F)), ((a 5), .inl (G.2 1, 121, .inl f))]) (some (.int (if (zSimU N x9 ((h, b), u 10, u 11, u 12, f)).1.1 0 = 0 then 0 else 1000 * zTk (zSimU N x9 ((h, b), u 10, u 11, u 12, f)).1.2 P 0 0 + (zSimU N x9 ((h, b), u 10, u 11, u 12, f)).1.1 3))) ([((a 0), .inr (7, [.int 0, .ref (a 1), .int (u 2), .ref (a 3), .ref (a 4), .ref (a 5), .ref (a 6), .int (u 7), .ref (a 8), .ref (a 9), .int ((zSimU N x9 ((h, b), u 10, u 11, u 12, f)).2.1), .int ((zSimU N x9 ((h, b), u 10, u 11, u 12, f)).2.2.1), .int ((zSimU N x9 ((h, b), u 10, u 11, u 12, f)).2.2.2.1), .long x, .int (u 14), .int (u 15)])), ((a 3), .inl (G.2 1, 121, .inl (flt h b))), ((a 4), .inl (G.2 1, 121, .inl (flt (zSimU N x9 ((h, b), u 10, u 11, u 12, f)).1.1 (zSimU N x9 ((h, b), u 10, u 11, u 12, f)).1.2))), ((a 5), .inl (G.2 1, 121, .inl ((zSimU N x9 ((h, b), u 10, u 11, u 12, f)).2.2.2.2)))]) := by
  refine zMet_of (cc := cX7_simulate) (maxL := 7) (ret := (some .int)) (by decide) rfl (Nat.le_of_ble_eq_true rfl) ?_
  intro p e s m below meth c A ls hx hb hr hml hown hts hK hA hE hlocks hin hM hl
  have hown : s.vm.findClass RX7 = some m.cls := hown
  have hM : zM G A s s.heap [] ([((a 0), .inr (7, [.int (u 0), .ref (a 1), .int (u 2), .ref (a 3), .ref (a 4), .ref (a 5), .ref (a 6), .int (u 7), .ref (a 8), .ref (a 9), .int (u 10), .int (u 11), .int (u 12), .long x, .int (u 14), .int (u 15)])), ((a 3), .inl (G.2 1, 121, .inl (flt h b))), ((a 4), .inl (G.2 1, 121, .inl F)), ((a 5), .inl (G.2 1, 121, .inl f))]) := hM
  have hl : lv_has ls 7 [(0, .ref (a 0)), (1, .long x9), (3, .int (nI N))] := hl
  refine lv_aload_n hx hb dX7_simulate_0 rfl (lv_at hl 0 rfl) ?_
  refine lv_iload_n hx hb dX7_simulate_1 rfl (lv_at hl 2 rfl) ?_
  refine lv_i2l (v := (nI N).toInt64) hx hb dX7_simulate_2 rfl ?_
  refine lv_lconst (v := 1) hx hb dX7_simulate_3 (by decide) ?_
  refine lv_ldc2 (v := 80) hx hb hown (hts (.constantLong RX7 235 80) (by decide +kernel)) dX7_simulate_4 ?_
  refine z_callS (As := [.long ((nI N).toInt64), .long 1, .long 80]) (rest := [.ref (a 0)]) (wc := []) (wr := [((a 0), .inr (7, [.int (u 0), .ref (a 1), .int (u 2), .ref (a 3), .ref (a 4), .ref (a 5), .ref (a 6), .int (u 7), .ref (a 8), .ref (a 9), .int (u 10), .int (u 11), .int (u 12), .long x, .int (u 14), .int (u 15)])), ((a 3), .inl (G.2 1, 121, .inl (flt h b))), ((a 4), .inl (G.2 1, 121, .inl F)), ((a 5), .inl (G.2 1, 121, .inl f))]) (w1 := []) (ws' := [((a 0), .inr (7, [.int (u 0), .ref (a 1), .int (u 2), .ref (a 3), .ref (a 4), .ref (a 5), .ref (a 6), .int (u 7), .ref (a 8), .ref (a 9), .int (u 10), .int (u 11), .int (u 12), .long x, .int (u 14), .int (u 15)])), ((a 3), .inl (G.2 1, 121, .inl (flt h b))), ((a 4), .inl (G.2 1, 121, .inl F)), ((a 5), .inl (G.2 1, 121, .inl f))]) ⟨hx, hb, hml, hown, hts⟩ (c_in l G ((nI N).toInt64) 1 80) (va_cwS 3 hts gX7_simulate_X7_in rfl rfl rfl (by decide +kernel) ⟨Nat.le_of_ble_eq_true rfl, Nat.le_of_ble_eq_true rfl⟩) rfl hl.1 rfl (Nat.le_of_ble_eq_true rfl) dX7_simulate_7 ⟨Nat.le_of_ble_eq_true rfl, Nat.le_of_ble_eq_true rfl⟩ hK hE hA hM (List.Perm.refl _) (List.Perm.refl _) (fun H locs hM hz => ?_)
  refine z_ifeq (tgt := 17) hx hb dX7_simulate_10 (by decide) (fun c_1 => Bool.noConfusion (hc.symm.trans c_1)) (fun c_1 => ?_)
  refine lv_iconst (v := 0) hx hb dX7_simulate_13 (by decide) ?_
  refine lv_goto (tgt := 18) hx hb dX7_simulate_14 (by decide) ?_
  refine z_callV (As := [.int 0]) (rest := []) (wc := [((a 0), .inr (7, [.int (u 0), .ref (a 1), .int (u 2), .ref (a 3), .ref (a 4), .ref (a 5), .ref (a 6), .int (u 7), .ref (a 8), .ref (a 9), .int (u 10), .int (u 11), .int (u 12), .long x, .int (u 14), .int (u 15)]))]) (wr := [((a 3), .inl (G.2 1, 121, .inl (flt h b))), ((a 4), .inl (G.2 1, 121, .inl F)), ((a 5), .inl (G.2 1, 121, .inl f))]) (w1 := [((a 0), .inr (7, [.int 0, .ref (a 1), .int (u 2), .ref (a 3), .ref (a 4), .ref (a 5), .ref (a 6), .int (u 7), .ref (a 8), .ref (a 9), .int (u 10), .int (u 11), .int (u 12), .long x, .int (u 14), .int (u 15)]))]) (ws' := [((a 0), .inr (7, [.int 0, .ref (a 1), .int (u 2), .ref (a 3), .ref (a 4), .ref (a 5), .ref (a 6), .int (u 7), .ref (a 8), .ref (a 9), .int (u 10), .int (u 11), .int (u 12), .long x, .int (u 14), .int (u 15)])), ((a 3), .inl (G.2 1, 121, .inl (flt h b))), ((a 4), .inl (G.2 1, 121, .inl F)), ((a 5), .inl (G.2 1, 121, .inl f))]) ⟨hx, hb, hml, hown, hts⟩ (c_refused l G (a 0) (.int (u 0)) (.ref (a 1)) (.int (u 2)) (.ref (a 3)) (.ref (a 4)) (.ref (a 5)) (.ref (a 6)) (.int (u 7)) (.ref (a 8)) (.ref (a 9)) (.int (u 10)) (.int (u 11)) (.int (u 12)) (.long x) (.int (u 14)) (.int (u 15)) 0) (cwV 1 hts gX7_simulate_X7_refused rfl rfl rfl (by decide +kernel) ⟨Nat.le_of_ble_eq_true rfl, Nat.le_of_ble_eq_true rfl⟩) 7 rfl rfl rfl rfl hl.1 rfl (Nat.le_of_ble_eq_true rfl) dX7_simulate_18 ⟨Nat.le_of_ble_eq_true rfl, Nat.le_of_ble_eq_true rfl⟩ hK hE hA hM (pm_at 4 [0] [1, 2, 3] rfl rfl rfl (by decide)) ((pm_at 4 [0] [1, 2, 3] rfl rfl rfl (by decide))).symm (fun H locs hM hz => ?_)
  refine z_ifeq (tgt := 26) hx hb dX7_simulate_21 (by decide) (fun c_2 => ?_) (fun c_2 => absurd c_2 (by decide))
  refine lv_aload_n hx hb dX7_simulate_26 rfl (lv_at hl 0 rfl) ?_
  refine z_get (ci := 7) (v := .ref (a 3)) (C := RX7) (T := TX7) (N := 16) hx hb hts (by decide +kernel) hown hK hM 0 rfl rfl 3 (by decide) (hts (.fieldLink RX7 13 "ShiftIslesModel" "now" "[I") (by decide +kernel)) (fun _ h9 => h9) rfl dX7_simulate_27 ?_
  refine lv_iconst (v := nI 0) hx hb dX7_simulate_30 (by decide) ?_
  refine lv_aload_n hx hb dX7_simulate_31 rfl (lv_at hl 0 rfl) ?_
  refine z_get (ci := 7) (v := .ref (a 4)) (C := RX7) (T := TX7) (N := 16) hx hb hts (by decide +kernel) hown hK hM 0 rfl rfl 4 (by decide) (hts (.fieldLink RX7 16 "ShiftIslesModel" "trial" "[I") (by decide +kernel)) (fun _ h9 => h9) rfl dX7_simulate_32 ?_
  refine lv_iconst (v := nI 0) hx hb dX7_simulate_35 (by decide) ?_
  refine z_callS (As := [.ref (a 3), .int (nI 0), .ref (a 4), .int (nI 0)]) (rest := []) (wc := [((a 3), .inl (G.2 1, 121, .inl (flt h b))), ((a 4), .inl (G.2 1, 121, .inl F))]) (wr := [((a 0), .inr (7, [.int 0, .ref (a 1), .int (u 2), .ref (a 3), .ref (a 4), .ref (a 5), .ref (a 6), .int (u 7), .ref (a 8), .ref (a 9), .int (u 10), .int (u 11), .int (u 12), .long x, .int (u 14), .int (u 15)])), ((a 5), .inl (G.2 1, 121, .inl f))]) (w1 := [((a 3), .inl (G.2 1, 121, .inl (flt h b))), ((a 4), .inl (G.2 1, 121, .inl (cpv (flt h b) F 0 0 121)))]) (ws' := [((a 0), .inr (7, [.int 0, .ref (a 1), .int (u 2), .ref (a 3), .ref (a 4), .ref (a 5), .ref (a 6), .int (u 7), .ref (a 8), .ref (a 9), .int (u 10), .int (u 11), .int (u 12), .long x, .int (u 14), .int (u 15)])), ((a 3), .inl (G.2 1, 121, .inl (flt h b))), ((a 4), .inl (G.2 1, 121, .inl (cpv (flt h b) F 0 0 121))), ((a 5), .inl (G.2 1, 121, .inl f))]) ⟨hx, hb, hml, hown, hts⟩ (c_copyState l G (a 3) (a 4) 121 121 0 0 (flt h b) F (by omega) (by omega) (by decide) (by decide)) (va_cwS 4 hts gX7_simulate_X7_copyState rfl rfl rfl (by decide +kernel) ⟨Nat.le_of_ble_eq_true rfl, Nat.le_of_ble_eq_true rfl⟩) rfl hl.1 rfl (Nat.le_of_ble_eq_true rfl) dX7_simulate_36 ⟨Nat.le_of_ble_eq_true rfl, Nat.le_of_ble_eq_true rfl⟩ hK hE hA hM (pm_at 4 [1, 2] [0, 3] rfl rfl rfl (by decide)) ((pm_at 4 [1, 2] [0, 3] rfl rfl rfl (by decide))).symm (fun H locs hM hz => ?_)
  refine lv_lload_n hx hb dX7_simulate_39 rfl (lv_at hl 1 rfl) ?_
  refine lv_lstore (lv' := [(4, .long x9), (0, .ref (a 0)), (1, .long x9), (3, .int (nI N))]) hx hb dX7_simulate_40 hl (by decide) rfl (fun ls hl => ?_)
  refine lv_iconst (v := nI 0) hx hb dX7_simulate_42 (by decide) ?_
  refine lv_istore (lv' := [(6, .int (nI 0)), (4, .long x9), (0, .ref (a 0)), (1, .long x9), (3, .int (nI N))]) hx hb dX7_simulate_43 hl (by decide) rfl (fun ls hl => ?_)
  have lp45 : ∀ (k : Nat) (i : Nat) (y : Int64) (g1 : Nat → Int32) (d1 : Nat → Nat → Int32) (t1 e1 : Nat) (y1 y2 y3 : Int32) (g : Nat → Int32), (i + k = N) → (zGs g1 d1 P t1 S e1) → ((zSimU N x9 ((h, b), u 10, u 11, u 12, f)) = zSimU k y ((g1, d1), y1, y2, y3, g)) → ∀ (H : Heap) (locs : List Loc), zM G A s H locs ([((a 0), .inr (7, [.int 0, .ref (a 1), .int (u 2), .ref (a 3), .ref (a 4), .ref (a 5), .ref (a 6), .int (u 7), .ref (a 8), .ref (a 9), .int y1, .int y2, .int y3, .long x, .int (u 14), .int (u 15)])), ((a 3), .inl (G.2 1, 121, .inl (flt h b))), ((a 4), .inl (G.2 1, 121, .inl (flt g1 d1))), ((a 5), .inl (G.2 1, 121, .inl g))]) → ∀ ls : Array Slot, lv_has ls 7 [(0, .ref (a 0)), (1, .long x9), (3, .int (nI N)), (4, .long y), (6, .int (nI i))] → W p l e rmX7_simulate s m ([.ref (a 0), .long x9, .int (nI N)] : List Value).toArray below meth c H locs 0 0 (zEnd G below ([.ref (a 0), .long x9, .int (nI N)] : List Value).toArray s rmX7_simulate A (some (.int (if (zSimU N x9 ((h, b), u 10, u 11, u 12, f)).1.1 0 = 0 then 0 else 1000 * zTk (zSimU N x9 ((h, b), u 10, u 11, u 12, f)).1.2 P 0 0 + (zSimU N x9 ((h, b), u 10, u 11, u 12, f)).1.1 3))) ([((a 0), .inr (7, [.int 0, .ref (a 1), .int (u 2), .ref (a 3), .ref (a 4), .ref (a 5), .ref (a 6), .int (u 7), .ref (a 8), .ref (a 9), .int ((zSimU N x9 ((h, b), u 10, u 11, u 12, f)).2.1), .int ((zSimU N x9 ((h, b), u 10, u 11, u 12, f)).2.2.1), .int ((zSimU N x9 ((h, b), u 10, u 11, u 12, f)).2.2.2.1), .long x, .int (u 14), .int (u 15)])), ((a 3), .inl (G.2 1, 121, .inl (flt h b))), ((a 4), .inl (G.2 1, 121, .inl (flt (zSimU N x9 ((h, b), u 10, u 11, u 12, f)).1.1 (zSimU N x9 ((h, b), u 10, u 11, u 12, f)).1.2))), ((a 5), .inl (G.2 1, 121, .inl ((zSimU N x9 ((h, b), u 10, u 11, u 12, f)).2.2.2.2)))])) (F0 m 45 ls []) := by
    intro k
    induction k with
    | zero =>
      intro i y g1 d1 t1 e1 y1 y2 y3 g hik hG1 hR H locs hM ls hl
      refine lv_iload hx hb dX7_simulate_45 (lv_at hl 4 rfl) ?_
      refine lv_iload_n hx hb dX7_simulate_47 rfl (lv_at hl 2 rfl) ?_
      refine lv_icmp_ge (tgt := 89) hx hb dX7_simulate_48 (by decide) (fun c_3 => ?_) (fun c_3 => absurd (nI_le (by omega) (by omega)) c_3)
      have hZ : (zSimU N x9 ((h, b), u 10, u 11, u 12, f)) = ((g1, d1), y1, y2, y3, g) := hR
      refine lv_aload_n hx hb dX7_simulate_89 rfl (lv_at hl 0 rfl) ?_
      refine z_get (ci := 7) (v := .ref (a 4)) (C := RX7) (T := TX7) (N := 16) hx hb hts (by decide +kernel) hown hK hM 0 rfl rfl 4 (by decide) (hts (.fieldLink RX7 16 "ShiftIslesModel" "trial" "[I") (by decide +kernel)) (fun _ h9 => h9) rfl dX7_simulate_90 ?_
      refine lv_iconst (v := 0) hx hb dX7_simulate_93 (by decide) ?_
      refine z_iald hx hb hK hM 2 rfl (v := g1 0) (vp_in_nI (n := 0) (by decide) (by decide)) (flt_h (k := 0) (by decide)) dX7_simulate_94 ?_
      refine lv_if_ne (tgt := 102) hx hb dX7_simulate_95 (by decide) (fun c_1 => ?_) (fun c_1 => ?_)
      · skip
        refine lv_sipush (v := 1000) hx hb dX7_simulate_102 (by decide) ?_
        refine lv_aload_n hx hb dX7_simulate_105 rfl (lv_at hl 0 rfl) ?_
        refine z_get (ci := 7) (v := .ref (a 4)) (C := RX7) (T := TX7) (N := 16) hx hb hts (by decide +kernel) hown hK hM 0 rfl rfl 4 (by decide) (hts (.fieldLink RX7 16 "ShiftIslesModel" "trial" "[I") (by decide +kernel)) (fun _ h9 => h9) rfl dX7_simulate_106 ?_
        refine z_callS (As := [.ref (a 4)]) (rest := [.int 1000]) (wc := rfW G (a 4) g1 d1) (wr := [((a 0), .inr (7, [.int 0, .ref (a 1), .int (u 2), .ref (a 3), .ref (a 4), .ref (a 5), .ref (a 6), .int (u 7), .ref (a 8), .ref (a 9), .int y1, .int y2, .int y3, .long x, .int (u 14), .int (u 15)])), ((a 3), .inl (G.2 1, 121, .inl (flt h b))), ((a 5), .inl (G.2 1, 121, .inl g))]) (w1 := rfW G (a 4) g1 d1) (ws' := [((a 0), .inr (7, [.int 0, .ref (a 1), .int (u 2), .ref (a 3), .ref (a 4), .ref (a 5), .ref (a 6), .int (u 7), .ref (a 8), .ref (a 9), .int y1, .int y2, .int y3, .long x, .int (u 14), .int (u 15)])), ((a 3), .inl (G.2 1, 121, .inl (flt h b))), ((a 4), .inl (G.2 1, 121, .inl (flt g1 d1))), ((a 5), .inl (G.2 1, 121, .inl g))]) ⟨hx, hb, hml, hown, hts⟩ (c_r_takenByAll l G (a 4) g1 d1 P hG1.1.1.1 hG1.1.1.2.1 ) (va_cwS 1 hts gX7_simulate_X7_takenByAll rfl rfl rfl (by decide +kernel) ⟨Nat.le_of_ble_eq_true rfl, Nat.le_of_ble_eq_true rfl⟩) rfl hl.1 rfl (Nat.le_of_ble_eq_true rfl) dX7_simulate_109 ⟨Nat.le_of_ble_eq_true rfl, Nat.le_of_ble_eq_true rfl⟩ hK hE hA hM (pm_at 4 [2] [0, 1, 3] rfl rfl rfl (by decide)) ((pm_at 4 [2] [0, 1, 3] rfl rfl rfl (by decide))).symm (fun H locs hM hz => ?_)
        refine lv_imul hx hb dX7_simulate_112 ?_
        refine lv_aload_n hx hb dX7_simulate_113 rfl (lv_at hl 0 rfl) ?_
        refine z_get (ci := 7) (v := .ref (a 4)) (C := RX7) (T := TX7) (N := 16) hx hb hts (by decide +kernel) hown hK hM 0 rfl rfl 4 (by decide) (hts (.fieldLink RX7 16 "ShiftIslesModel" "trial" "[I") (by decide +kernel)) (fun _ h9 => h9) rfl dX7_simulate_114 ?_
        refine lv_iconst (v := 3) hx hb dX7_simulate_117 (by decide) ?_
        refine z_iald hx hb hK hM 2 rfl (v := g1 3) (vp_in_nI (n := 3) (by decide) (by decide)) (flt_h (k := 3) (by decide)) dX7_simulate_118 ?_
        refine lv_iadd hx hb dX7_simulate_119 ?_
        exact z_iret hx hb hr hlocks dX7_simulate_120 (by rw [hZ]; exact hM) (Nat.le_of_ble_eq_true rfl) (Nat.le_of_ble_eq_true rfl) (by rw [hZ, if_neg c_1])
      · skip
        refine lv_iconst (v := 0) hx hb dX7_simulate_98 (by decide) ?_
        refine lv_goto (tgt := 120) hx hb dX7_simulate_99 (by decide) ?_
        exact z_iret hx hb hr hlocks dX7_simulate_120 (by rw [hZ]; exact hM) (Nat.le_of_ble_eq_true rfl) (Nat.le_of_ble_eq_true rfl) (by rw [hZ, if_pos c_1])
    | succ k ih =>
      intro i y g1 d1 t1 e1 y1 y2 y3 g hik hG1 hR H locs hM ls hl
      refine lv_iload hx hb dX7_simulate_45 (lv_at hl 4 rfl) ?_
      refine lv_iload_n hx hb dX7_simulate_47 rfl (lv_at hl 2 rfl) ?_
      refine lv_icmp_ge (tgt := 89) hx hb dX7_simulate_48 (by decide) (fun c_4 => absurd c_4 (nI_ge (by omega) (by omega))) (fun c_4 => ?_)
      refine lv_aload_n hx hb dX7_simulate_51 rfl (lv_at hl 0 rfl) ?_
      refine z_get (ci := 7) (v := .ref (a 4)) (C := RX7) (T := TX7) (N := 16) hx hb hts (by decide +kernel) hown hK hM 0 rfl rfl 4 (by decide) (hts (.fieldLink RX7 16 "ShiftIslesModel" "trial" "[I") (by decide +kernel)) (fun _ h9 => h9) rfl dX7_simulate_52 ?_
      refine z_callS (As := [.ref (a 4)]) (rest := []) (wc := rfW G (a 4) g1 d1) (wr := [((a 0), .inr (7, [.int 0, .ref (a 1), .int (u 2), .ref (a 3), .ref (a 4), .ref (a 5), .ref (a 6), .int (u 7), .ref (a 8), .ref (a 9), .int y1, .int y2, .int y3, .long x, .int (u 14), .int (u 15)])), ((a 3), .inl (G.2 1, 121, .inl (flt h b))), ((a 5), .inl (G.2 1, 121, .inl g))]) (w1 := rfW G (a 4) g1 d1) (ws' := [((a 0), .inr (7, [.int 0, .ref (a 1), .int (u 2), .ref (a 3), .ref (a 4), .ref (a 5), .ref (a 6), .int (u 7), .ref (a 8), .ref (a 9), .int y1, .int y2, .int y3, .long x, .int (u 14), .int (u 15)])), ((a 3), .inl (G.2 1, 121, .inl (flt h b))), ((a 4), .inl (G.2 1, 121, .inl (flt g1 d1))), ((a 5), .inl (G.2 1, 121, .inl g))]) ⟨hx, hb, hml, hown, hts⟩ (c_r_isOn l G (a 4) g1 d1  ) (va_cwS 1 hts gX7_simulate_X7_isOn rfl rfl rfl (by decide +kernel) ⟨Nat.le_of_ble_eq_true rfl, Nat.le_of_ble_eq_true rfl⟩) rfl hl.1 rfl (Nat.le_of_ble_eq_true rfl) dX7_simulate_55 ⟨Nat.le_of_ble_eq_true rfl, Nat.le_of_ble_eq_true rfl⟩ hK hE hA hM (pm_at 4 [2] [0, 1, 3] rfl rfl rfl (by decide)) ((pm_at 4 [2] [0, 1, 3] rfl rfl rfl (by decide))).symm (fun H locs hM hz => ?_)
      refine z_ifeq (tgt := 89) hx hb dX7_simulate_58 (by decide) (fun c_r => ?_) (fun c_r => ?_)
      · skip
        have hZ : (zSimU N x9 ((h, b), u 10, u 11, u 12, f)) = ((g1, d1), y1, y2, y3, g) := hR.trans (zSimU_off (fun q => Bool.noConfusion (c_r.symm.trans q)))
        refine lv_aload_n hx hb dX7_simulate_89 rfl (lv_at hl 0 rfl) ?_
        refine z_get (ci := 7) (v := .ref (a 4)) (C := RX7) (T := TX7) (N := 16) hx hb hts (by decide +kernel) hown hK hM 0 rfl rfl 4 (by decide) (hts (.fieldLink RX7 16 "ShiftIslesModel" "trial" "[I") (by decide +kernel)) (fun _ h9 => h9) rfl dX7_simulate_90 ?_
        refine lv_iconst (v := 0) hx hb dX7_simulate_93 (by decide) ?_
        refine z_iald hx hb hK hM 2 rfl (v := g1 0) (vp_in_nI (n := 0) (by decide) (by decide)) (flt_h (k := 0) (by decide)) dX7_simulate_94 ?_
        refine lv_if_ne (tgt := 102) hx hb dX7_simulate_95 (by decide) (fun c_1 => ?_) (fun c_1 => ?_)
        · skip
          refine lv_sipush (v := 1000) hx hb dX7_simulate_102 (by decide) ?_
          refine lv_aload_n hx hb dX7_simulate_105 rfl (lv_at hl 0 rfl) ?_
          refine z_get (ci := 7) (v := .ref (a 4)) (C := RX7) (T := TX7) (N := 16) hx hb hts (by decide +kernel) hown hK hM 0 rfl rfl 4 (by decide) (hts (.fieldLink RX7 16 "ShiftIslesModel" "trial" "[I") (by decide +kernel)) (fun _ h9 => h9) rfl dX7_simulate_106 ?_
          refine z_callS (As := [.ref (a 4)]) (rest := [.int 1000]) (wc := rfW G (a 4) g1 d1) (wr := [((a 0), .inr (7, [.int 0, .ref (a 1), .int (u 2), .ref (a 3), .ref (a 4), .ref (a 5), .ref (a 6), .int (u 7), .ref (a 8), .ref (a 9), .int y1, .int y2, .int y3, .long x, .int (u 14), .int (u 15)])), ((a 3), .inl (G.2 1, 121, .inl (flt h b))), ((a 5), .inl (G.2 1, 121, .inl g))]) (w1 := rfW G (a 4) g1 d1) (ws' := [((a 0), .inr (7, [.int 0, .ref (a 1), .int (u 2), .ref (a 3), .ref (a 4), .ref (a 5), .ref (a 6), .int (u 7), .ref (a 8), .ref (a 9), .int y1, .int y2, .int y3, .long x, .int (u 14), .int (u 15)])), ((a 3), .inl (G.2 1, 121, .inl (flt h b))), ((a 4), .inl (G.2 1, 121, .inl (flt g1 d1))), ((a 5), .inl (G.2 1, 121, .inl g))]) ⟨hx, hb, hml, hown, hts⟩ (c_r_takenByAll l G (a 4) g1 d1 P hG1.1.1.1 hG1.1.1.2.1 ) (va_cwS 1 hts gX7_simulate_X7_takenByAll rfl rfl rfl (by decide +kernel) ⟨Nat.le_of_ble_eq_true rfl, Nat.le_of_ble_eq_true rfl⟩) rfl hl.1 rfl (Nat.le_of_ble_eq_true rfl) dX7_simulate_109 ⟨Nat.le_of_ble_eq_true rfl, Nat.le_of_ble_eq_true rfl⟩ hK hE hA hM (pm_at 4 [2] [0, 1, 3] rfl rfl rfl (by decide)) ((pm_at 4 [2] [0, 1, 3] rfl rfl rfl (by decide))).symm (fun H locs hM hz => ?_)
          refine lv_imul hx hb dX7_simulate_112 ?_
          refine lv_aload_n hx hb dX7_simulate_113 rfl (lv_at hl 0 rfl) ?_
          refine z_get (ci := 7) (v := .ref (a 4)) (C := RX7) (T := TX7) (N := 16) hx hb hts (by decide +kernel) hown hK hM 0 rfl rfl 4 (by decide) (hts (.fieldLink RX7 16 "ShiftIslesModel" "trial" "[I") (by decide +kernel)) (fun _ h9 => h9) rfl dX7_simulate_114 ?_
          refine lv_iconst (v := 3) hx hb dX7_simulate_117 (by decide) ?_
          refine z_iald hx hb hK hM 2 rfl (v := g1 3) (vp_in_nI (n := 3) (by decide) (by decide)) (flt_h (k := 3) (by decide)) dX7_simulate_118 ?_
          refine lv_iadd hx hb dX7_simulate_119 ?_
          exact z_iret hx hb hr hlocks dX7_simulate_120 (by rw [hZ]; exact hM) (Nat.le_of_ble_eq_true rfl) (Nat.le_of_ble_eq_true rfl) (by rw [hZ, if_neg c_1])
        · skip
          refine lv_iconst (v := 0) hx hb dX7_simulate_98 (by decide) ?_
          refine lv_goto (tgt := 120) hx hb dX7_simulate_99 (by decide) ?_
          exact z_iret hx hb hr hlocks dX7_simulate_120 (by rw [hZ]; exact hM) (Nat.le_of_ble_eq_true rfl) (Nat.le_of_ble_eq_true rfl) (by rw [hZ, if_pos c_1])
      · skip
        refine lv_lload hx hb dX7_simulate_61 (lv_at hl 3 rfl) ?_
        refine lv_ldc2 (v := 6364136223846793005) hx hb hown (hts (.constantLong RX7 52 6364136223846793005) (by decide +kernel)) dX7_simulate_63 ?_
        refine lv_lmul hx hb dX7_simulate_66 ?_
        refine lv_ldc2 (v := 1442695040888963407) hx hb hown (hts (.constantLong RX7 54 1442695040888963407) (by decide +kernel)) dX7_simulate_67 ?_
        refine lv_ladd hx hb dX7_simulate_70 ?_
        refine lv_lstore (lv' := [(4, .long (zNx y)), (0, .ref (a 0)), (1, .long x9), (3, .int (nI N)), (6, .int (nI i))]) hx hb dX7_simulate_71 hl (by decide) rfl (fun ls hl => ?_)
        refine lv_aload_n hx hb dX7_simulate_73 rfl (lv_at hl 1 rfl) ?_
        refine lv_lload hx hb dX7_simulate_74 (lv_at hl 0 rfl) ?_
        refine lv_bipush (v := (33 : Int32)) hx hb dX7_simulate_76 (by decide) ?_
        refine lv_lushr (v := ((zNx y).toUInt64 >>> ((33 : Int32).toInt64.toUInt64 &&& Int64.toUInt64 63)).toInt64) hx hb dX7_simulate_78 rfl ?_
        refine lv_l2i (v := (((zNx y).toUInt64 >>> ((33 : Int32).toInt64.toUInt64 &&& Int64.toUInt64 63)).toInt64).toInt32) hx hb dX7_simulate_79 rfl ?_
        obtain ⟨h2, b2, z1, z2, z3, g2, t2, e2, hmv, hG2⟩ := zMvU_e (r := zRk y) (y1 := y1) (y2 := y2) (y3 := y3) (g := g) (zRk_lt y) hG1 c_r
        refine z_topi (y := nI (zRk y)) (zRn_eq y) ?_
        refine z_callV (As := [.int (nI (zRk y))]) (rest := []) (wc := [((a 0), .inr (7, [.int 0, .ref (a 1), .int (u 2), .ref (a 3), .ref (a 4), .ref (a 5), .ref (a 6), .int (u 7), .ref (a 8), .ref (a 9), .int y1, .int y2, .int y3, .long x, .int (u 14), .int (u 15)])), ((a 4), .inl (G.2 1, 121, .inl (flt g1 d1))), ((a 5), .inl (G.2 1, 121, .inl g))]) (wr := [((a 3), .inl (G.2 1, 121, .inl (flt h b)))]) (w1 := [((a 0), .inr (7, [.int 0, .ref (a 1), .int (u 2), .ref (a 3), .ref (a 4), .ref (a 5), .ref (a 6), .int (u 7), .ref (a 8), .ref (a 9), .int ((zMvU (zRk y) ((g1, d1), y1, y2, y3, g)).2.1), .int ((zMvU (zRk y) ((g1, d1), y1, y2, y3, g)).2.2.1), .int ((zMvU (zRk y) ((g1, d1), y1, y2, y3, g)).2.2.2.1), .long x, .int (u 14), .int (u 15)])), ((a 4), .inl (G.2 1, 121, .inl (flt (zMvU (zRk y) ((g1, d1), y1, y2, y3, g)).1.1 (zMvU (zRk y) ((g1, d1), y1, y2, y3, g)).1.2))), ((a 5), .inl (G.2 1, 121, .inl ((zMvU (zRk y) ((g1, d1), y1, y2, y3, g)).2.2.2.2)))]) (ws' := [((a 0), .inr (7, [.int 0, .ref (a 1), .int (u 2), .ref (a 3), .ref (a 4), .ref (a 5), .ref (a 6), .int (u 7), .ref (a 8), .ref (a 9), .int ((zMvU (zRk y) ((g1, d1), y1, y2, y3, g)).2.1), .int ((zMvU (zRk y) ((g1, d1), y1, y2, y3, g)).2.2.1), .int ((zMvU (zRk y) ((g1, d1), y1, y2, y3, g)).2.2.2.1), .long x, .int (u 14), .int (u 15)])), ((a 3), .inl (G.2 1, 121, .inl (flt h b))), ((a 4), .inl (G.2 1, 121, .inl (flt (zMvU (zRk y) ((g1, d1), y1, y2, y3, g)).1.1 (zMvU (zRk y) ((g1, d1), y1, y2, y3, g)).1.2))), ((a 5), .inl (G.2 1, 121, .inl ((zMvU (zRk y) ((g1, d1), y1, y2, y3, g)).2.2.2.2)))]) ⟨hx, hb, hml, hown, hts⟩ (c_r_move l G a (upd (upd (upd (upd u 0 0) 10 y1) 11 y2) 12 y3) x g g1 d1 P t1 S e1 hG1 c_r (zRk y) (zRk_lt y)) (cwV 1 hts gX7_simulate_X7_move rfl rfl rfl (by decide +kernel) ⟨Nat.le_of_ble_eq_true rfl, Nat.le_of_ble_eq_true rfl⟩) 7 rfl rfl rfl rfl hl.1 rfl (Nat.le_of_ble_eq_true rfl) dX7_simulate_80 ⟨Nat.le_of_ble_eq_true rfl, Nat.le_of_ble_eq_true rfl⟩ hK hE hA hM (pm_at 4 [0, 2, 3] [1] rfl rfl rfl (by decide)) ((pm_at 4 [0, 2, 3] [1] rfl rfl rfl (by decide))).symm (fun H locs hM hz => ?_)
        refine lv_iinc (v := nI (i + 1)) (lv' := [(6, .int (nI (i + 1))), (4, .long (zNx y)), (0, .ref (a 0)), (1, .long x9), (3, .int (nI N))]) hx hb dX7_simulate_83 hl (k := 4) rfl (nI_1 i) (by decide) rfl (fun ls hl => ?_)
        refine lv_goto (tgt := 45) hx hb dX7_simulate_86 (by decide) ?_
        have hR2 : (zSimU N x9 ((h, b), u 10, u 11, u 12, f)) = zSimU k (zNx y) ((h2, b2), z1, z2, z3, g2) := hR.trans ((zSimU_on (k := k) (y := y) (t := ((g1, d1), y1, y2, y3, g)) c_r).trans (congrArg (zSimU k (zNx y)) hmv))
        rw [hmv] at hM
        exact ih (i + 1) (zNx y) h2 b2 t2 e2 z1 z2 z3 g2 (by omega) hG2 hR2 _ _ hM _ (lv_sub hl [2, 3, 4, 1, 0] rfl)
  have hsim : zSim ([((a 0), .inr (7, [.int 0, .ref (a 1), .int (u 2), .ref (a 3), .ref (a 4), .ref (a 5), .ref (a 6), .int (u 7), .ref (a 8), .ref (a 9), .int (u 10), .int (u 11), .int (u 12), .long x, .int (u 14), .int (u 15)])), ((a 3), .inl (G.2 1, 121, .inl (flt h b))), ((a 4), .inl (G.2 1, 121, .inl (cpv (flt h b) F 0 0 121))), ((a 5), .inl (G.2 1, 121, .inl f))]) ([((a 0), .inr (7, [.int 0, .ref (a 1), .int (u 2), .ref (a 3), .ref (a 4), .ref (a 5), .ref (a 6), .int (u 7), .ref (a 8), .ref (a 9), .int (u 10), .int (u 11), .int (u 12), .long x, .int (u 14), .int (u 15)])), ((a 3), .inl (G.2 1, 121, .inl (flt h b))), ((a 4), .inl (G.2 1, 121, .inl (flt h b))), ((a 5), .inl (G.2 1, 121, .inl f))]) := ⟨zSame_rf _, zSame_rf _, zSame_arr cpv_all, zSame_rf _, trivial⟩
  exact lp45 N 0 x9 _ _ t e0 _ _ _ _ (by omega) hG rfl _ _ (zM_sim hsim hM) _ (lv_sub hl [2, 3, 4, 1, 0] rfl)
