/-! CLASS: games that go on by rule, the rule's own numbers with them -/
abbrev zVT : Type := zHB × zRU
def zPv1 (t : zVT) : zVT := (zPlq t.1, zCs t.1.1 t.1.2 (zSs t.1.1) (zPp t.1.1) t.2.2.2.2.2)
theorem zPv1_e {h : Nat → Int32} {b : Nat → Nat → Int32} {P t S : Nat} (w : zWf h b P t S) (u : zRU) : zPv1 ((h, b), u) = ((zFtH h b P t S u.2.2.2.2, zFtB h b P t S u.2.2.2.2), zCs h b S P u.2.2.2.2) := by
  obtain ⟨e1, e2, e3⟩ := zWf_e w
  show (zPlq (h, b), zCs h b (zSs h) (zPp h) u.2.2.2.2) = _
  rw [e1, e3, zQ_e w u.2.2.2.2]
def zRunV : Nat → zVT → zVT
  | 0, t => t
  | k + 1, t => if zRu t.1.1 = true then zRunV k (zPv1 t) else t
theorem zRunV_on {k : Nat} {t : zVT} (hr : zRu t.1.1 = true) : zRunV (k + 1) t = zRunV k (zPv1 t) := by
  rw [zRunV, if_pos hr]
theorem zRunV_off : ∀ {k : Nat} {t : zVT}, ¬ zRu t.1.1 = true → zRunV k t = t
  | 0, _, _ => rfl
  | k + 1, t, h => by rw [zRunV, if_neg h]
theorem zRunV_1 : ∀ (k : Nat) (t : zVT), (zRunV k t).1 = zRun k t.1
  | 0, _ => rfl
  | k + 1, t => by
    by_cases h : zRu t.1.1 = true
    · rw [zRunV_on h, zRun_on h, zRunV_1 k]
      rfl
    · rw [zRunV_off h, zRun_off h]
def zMvV (r : Nat) (t : zVT) : zVT :=
  if t.1.1 2 = 0 then (if zMs t.1.1 t.1.2 (r % 4) (nI (r / 4 % 6)) (nI (r / 32 % 2)) = true then (zShS (r % 4) (r / 4 % 6) (nI (r / 32 % 2)) t.1, t.2) else zPv1 t)
  else if r % 8 = 0 then (zLkS (nI (r / 8 % 6)) t.1, t.2)
  else if zMg t.1.1 t.1.2 (zSs t.1.1) (zTt t.1.1) (nI (r / 8 % 9)) = true then (zGoS (r / 8 % 9) t.1, t.2) else zPv1 t
theorem zMvV_1 (r : Nat) (t : zVT) : (zMvV r t).1 = zMvS r t.1 := by
  unfold zMvV zMvS
  by_cases h2 : t.1.1 2 = 0
  · rw [if_pos h2, if_pos h2]
    split <;> rfl
  · rw [if_neg h2, if_neg h2]
    by_cases h8 : r % 8 = 0
    · rw [if_pos h8, if_pos h8]
    · rw [if_neg h8, if_neg h8]
      split <;> rfl
theorem zMvV_sh {h : Nat → Int32} {b : Nat → Nat → Int32} {u : zRU} {r : Nat} (h2 : h 2 = 0) (hm : zMs h b (r % 4) (nI (r / 4 % 6)) (nI (r / 32 % 2)) = true) : zMvV r ((h, b), u) = ((zShH h, va_up b (r % 4) (zMv (b (r % 4)) (r / 4 % 6) (nI (r / 32 % 2)))), u) := (if_pos h2).trans (if_pos hm)
theorem zMvV_q1 {h : Nat → Int32} {b : Nat → Nat → Int32} {u : zRU} {r : Nat} (h2 : h 2 = 0) (hm : zMs h b (r % 4) (nI (r / 4 % 6)) (nI (r / 32 % 2)) = false) : zMvV r ((h, b), u) = zPv1 ((h, b), u) := (if_pos h2).trans (if_neg (fun q => Bool.noConfusion (hm.symm.trans q)))
theorem zMvV_lk {h : Nat → Int32} {b : Nat → Nat → Int32} {P t S : Nat} {u : zRU} {r : Nat} (w : zWf h b P t S) (h2 : ¬ h 2 = 0) (h8 : r % 8 = 0) : zMvV r ((h, b), u) = ((zEtH h (zLkB b t (nI (r / 8 % 6))) t P, zEtB h (zLkB b t (nI (r / 8 % 6))) t P), u) := by
  have e9 : zMvV r ((h, b), u) = (zLkS (nI (r / 8 % 6)) (h, b), u) := (if_neg h2).trans (if_pos h8)
  rw [e9, zLkS_e w]
theorem zMvV_go {h : Nat → Int32} {b : Nat → Nat → Int32} {P t S : Nat} {u : zRU} {r : Nat} (w : zWf h b P t S) (h2 : ¬ h 2 = 0) (h8 : ¬ r % 8 = 0) (hm : zMg h b S t (nI (r / 8 % 9)) = true) : zMvV r ((h, b), u) = ((zEtH h (zGoB b t (r / 8 % 9)) t P, zEtB h (zGoB b t (r / 8 % 9)) t P), u) := by
  have e3 := zWf_e w
  have hm2 : zMg h b (zSs h) (zTt h) (nI (r / 8 % 9)) = true := by rw [e3.2.1, e3.2.2]; exact hm
  have e9 : zMvV r ((h, b), u) = (zGoS (r / 8 % 9) (h, b), u) := (if_neg h2).trans ((if_neg h8).trans (if_pos hm2))
  rw [e9, zGoS_e w]
theorem zMvV_q2 {h : Nat → Int32} {b : Nat → Nat → Int32} {P t S : Nat} {u : zRU} {r : Nat} (w : zWf h b P t S) (h2 : ¬ h 2 = 0) (h8 : ¬ r % 8 = 0) (hm : zMg h b S t (nI (r / 8 % 9)) = false) : zMvV r ((h, b), u) = zPv1 ((h, b), u) := by
  have e3 := zWf_e w
  have hm2 : ¬ zMg h b (zSs h) (zTt h) (nI (r / 8 % 9)) = true := by rw [e3.2.1, e3.2.2, hm]; decide
  exact (if_neg h2).trans ((if_neg h8).trans (if_neg hm2))
theorem zMvV_e {h : Nat → Int32} {b : Nat → Nat → Int32} {P t S e1 : Nat} {u : zRU} {r : Nat} (hr9 : r < 2 ^ 31) (w : zGs h b P t S e1) (hr : zRu h = true) : ∃ h' b' u' t' e', zMvV r ((h, b), u) = ((h', b'), u') ∧ zGs h' b' P t' S e' := by
  obtain ⟨h', b', z1, z2, z3, g', t', e', em, wg⟩ := zMvU_e (y1 := 0) (y2 := 0) (y3 := 0) (g := zZ) hr9 w hr
  have e1 := zMvU_1 r ((h, b), 0, 0, 0, zZ)
  have e2 := zMvV_1 r ((h, b), u)
  rw [em] at e1
  have e3 : zMvS r (h, b) = (h', b') := e1.symm
  have e4 : (zMvV r ((h, b), u)).1 = (h', b') := e2.trans e3
  refine ⟨h', b', (zMvV r ((h, b), u)).2, t', e', ?_, wg⟩
  rw [← e4]
def zSmV : Nat → Int64 → zVT → Int64 × zVT
  | 0, y, t => (y, t)
  | k + 1, y, t => if zRu t.1.1 = true then zSmV k (zNx y) (zMvV (zRk y) t) else (y, t)
theorem zSmV_on {k : Nat} {y : Int64} {t : zVT} (hr : zRu t.1.1 = true) : zSmV (k + 1) y t = zSmV k (zNx y) (zMvV (zRk y) t) := by
  rw [zSmV, if_pos hr]
theorem zSmV_off : ∀ {k : Nat} {y : Int64} {t : zVT}, ¬ zRu t.1.1 = true → zSmV k y t = (y, t)
  | 0, _, _, _ => rfl
  | k + 1, y, t, h => by rw [zSmV, if_neg h]
theorem zSmV_1 : ∀ (k : Nat) (y : Int64) (t : zVT), (zSmV k y t).2.1 = zSml k y t.1
  | 0, _, _ => rfl
  | k + 1, y, t => by
    by_cases h : zRu t.1.1 = true
    · rw [zSmV_on h, zSim_on h, zSmV_1 k, zMvV_1]
    · rw [zSmV_off h, zSim_off h]
def zCmdV (w a b c : Nat) (t : zVT) : zVT :=
  if w = 1 then (zShS a b (nI c) t.1, t.2)
  else if w = 2 then (zGoS c t.1, t.2)
  else if w = 3 then (zLkS (nI c) t.1, t.2)
  else if w = 4 then zPv1 t
  else t
theorem zCmdV_1 (w a b c : Nat) (t : zVT) : (zCmdV w a b c t).1 = zCmdS w a b c t.1 := by
  unfold zCmdV zCmdS
  by_cases e1 : w = 1
  · rw [if_pos e1, if_pos e1]
  rw [if_neg e1, if_neg e1]
  by_cases e2 : w = 2
  · rw [if_pos e2, if_pos e2]
  rw [if_neg e2, if_neg e2]
  by_cases e3 : w = 3
  · rw [if_pos e3, if_pos e3]
  rw [if_neg e3, if_neg e3]
  by_cases e4 : w = 4
  · rw [if_pos e4, if_pos e4]
    rfl
  rw [if_neg e4, if_neg e4]
def zCmdX (w a b c : Nat) (t : zVT) : zVT := if zCmdB w a b c t.1 = true then zCmdV w a b c t else t
theorem zCmdX_y {w a b c : Nat} {t : zVT} (q : zCmdB w a b c t.1 = true) : zCmdX w a b c t = zCmdV w a b c t := if_pos q
theorem zCmdX_n {w a b c : Nat} {t : zVT} (q : zCmdB w a b c t.1 = false) : zCmdX w a b c t = t := if_neg (fun z => Bool.noConfusion (q.symm.trans z))
theorem zCmdV_e {h : Nat → Int32} {b : Nat → Nat → Int32} {P t S e1 : Nat} {u : zRU} {w o i j : Nat} (hG : zGs h b P t S e1) (ho : o < 10) (hi : i < 10) (hj : j < 10) (hq : zCmdB w o i j (h, b) = true) : ∃ h' b' u' t' e' , zCmdV w o i j ((h, b), u) = ((h', b'), u') ∧ zCmdS w o i j (h, b) = (h', b') ∧ zGs h' b' P t' S e' := by
  obtain ⟨h', b', z1, z2, z3, g', t', e', em, es, wg⟩ := zCmdW_e (y1 := 0) (y2 := 0) (y3 := 0) (g := zZ) hG ho hi hj hq
  have e2 := zCmdV_1 w o i j ((h, b), u)
  have e4 : (zCmdV w o i j ((h, b), u)).1 = (h', b') := e2.trans es
  refine ⟨h', b', (zCmdV w o i j ((h, b), u)).2, t', e', ?_, es, wg⟩
  rw [← e4]
def zScrV (x : Int64) (N : Nat) : Nat → Nat → zVT → zVT
  | 0, _, t => t
  | k + 1, i, t => if zCmdB (zGn x (N - 1 - i) / 1000) (zGn x (N - 1 - i) / 100 % 10) (zGn x (N - 1 - i) / 10 % 10) (zGn x (N - 1 - i) % 10) t.1 = true then zScrV x N k (i + 1) (zCmdV (zGn x (N - 1 - i) / 1000) (zGn x (N - 1 - i) / 100 % 10) (zGn x (N - 1 - i) / 10 % 10) (zGn x (N - 1 - i) % 10) t) else t
theorem zScrV_y {x : Int64} {N k i : Nat} {t : zVT} (q : zCmdB (zGn x (N - 1 - i) / 1000) (zGn x (N - 1 - i) / 100 % 10) (zGn x (N - 1 - i) / 10 % 10) (zGn x (N - 1 - i) % 10) t.1 = true) : zScrV x N (k + 1) i t = zScrV x N k (i + 1) (zCmdV (zGn x (N - 1 - i) / 1000) (zGn x (N - 1 - i) / 100 % 10) (zGn x (N - 1 - i) / 10 % 10) (zGn x (N - 1 - i) % 10) t) := by
  rw [zScrV, if_pos q]
theorem zScrV_n {x : Int64} {N k i : Nat} {t : zVT} (q : zCmdB (zGn x (N - 1 - i) / 1000) (zGn x (N - 1 - i) / 100 % 10) (zGn x (N - 1 - i) / 10 % 10) (zGn x (N - 1 - i) % 10) t.1 = false) : zScrV x N (k + 1) i t = t := by
  rw [zScrV, if_neg (fun z => Bool.noConfusion (q.symm.trans z))]
theorem zPw_m {k : Nat} (hk : k < 3) : (if zPw k / 10000 < (1 : Int64) then 1 else zPw k / 10000) = zPw (k - 1) := by
  have h3 : k = 0 ∨ k = 1 ∨ k = 2 := by omega
  rcases h3 with rfl | rfl | rfl <;> decide
theorem zTs_y {h : Nat → Int32} {b : Nat → Nat → Int32} {k n : Nat} {d : Int32} (hm : zMs h b k (nI n) d = true) : zTsH h b k n d = zShH h ∧ zTsB h b k n d = va_up b k (zMv (b k) n d) := by
  unfold zTsH zTsB
  rw [if_pos hm, if_pos hm]
  exact ⟨rfl, rfl⟩
theorem zTs_n {h : Nat → Int32} {b : Nat → Nat → Int32} {k n : Nat} {d : Int32} (hm : zMs h b k (nI n) d = false) : zTsH h b k n d = h ∧ zTsB h b k n d = b := by
  unfold zTsH zTsB
  rw [if_neg (by rw [hm]; decide), if_neg (by rw [hm]; decide)]
  exact ⟨rfl, rfl⟩
theorem zMe_of {h : Nat → Int32} (hr : zRu h = true) (h2 : ¬ h 2 = 0) : zMe h = true := by
  unfold zMe
  rw [hr, decide_eq_false h2]
  rfl
/-! texts: what a move's sign does -/
def zTxB (v : Nat → Int32) (n i : Nat) (s : zHB) : Bool :=
  if zSa v n i = 115 then zMs s.1 s.2 (zDn v n (i + 1)) (nI (zDn v n (i + 2))) (zSn v (i + 3))
  else if zSa v n i = 103 then zMg s.1 s.2 (zSs s.1) (zTt s.1) (nI (zDn v n (i + 1)))
  else if zSa v n i = 108 then zMe s.1
  else true
def zTxT (v : Nat → Int32) (n i : Nat) (s : zHB) : zHB :=
  if zSa v n i = 115 then (if zMs s.1 s.2 (zDn v n (i + 1)) (nI (zDn v n (i + 2))) (zSn v (i + 3)) = true then zShS (zDn v n (i + 1)) (zDn v n (i + 2)) (zSn v (i + 3)) s else s)
  else if zSa v n i = 103 then (if zMg s.1 s.2 (zSs s.1) (zTt s.1) (nI (zDn v n (i + 1))) = true then zGoS (zDn v n (i + 1)) s else s)
  else if zSa v n i = 108 then (if zMe s.1 = true then zLkS (nI (zDn v n (i + 1))) s else s)
  else s
theorem zTx_bt (v : Nat → Int32) (n i : Nat) (s : zHB) (o : Nat) : zTxS v n i (s, o) = (zTxT v n i s, if zTxB v n i s = true then o else o + 1) := by
  unfold zTxS zTxT zTxB
  by_cases a : zSa v n i = 115
  · rw [if_pos a, if_pos a, if_pos a]
    by_cases c : zMs s.1 s.2 (zDn v n (i + 1)) (nI (zDn v n (i + 2))) (zSn v (i + 3)) = true
    · rw [if_pos c, if_pos c, if_pos c]
    · rw [if_neg c, if_neg c, if_neg c]
  rw [if_neg a, if_neg a, if_neg a]
  by_cases g : zSa v n i = 103
  · rw [if_pos g, if_pos g, if_pos g]
    by_cases c : zMg s.1 s.2 (zSs s.1) (zTt s.1) (nI (zDn v n (i + 1))) = true
    · rw [if_pos c, if_pos c, if_pos c]
    · rw [if_neg c, if_neg c, if_neg c]
  rw [if_neg g, if_neg g, if_neg g]
  by_cases d : zSa v n i = 108
  · rw [if_pos d, if_pos d, if_pos d]
    by_cases c : zMe s.1 = true
    · rw [if_pos c, if_pos c, if_pos c]
    · rw [if_neg c, if_neg c, if_neg c]
  rw [if_neg d, if_neg d, if_neg d, if_pos rfl]
def zDr (d : Int32) : Prop := d = 0 ∨ d = 1 ∨ d = 2 ∨ d = 3 ∨ d = 4 ∨ d = 5 ∨ d = 6 ∨ d = 7 ∨ d = 8 ∨ d = 9
theorem zDu_r {d k : Int32} (h : ¬ zDu d k = -1) (hd : zDr d) : zDr (zDu d k) := by
  rcases hd with rfl | rfl | rfl | rfl | rfl | rfl | rfl | rfl | rfl | rfl
  · rw [zDu_0] at h ⊢
    by_cases e : k = 73
    · rw [if_pos e]
      exact Or.inr (Or.inl rfl)
    · rw [if_neg e] at h
      exact absurd rfl h
  · rw [zDu_1 h]; exact Or.inr (Or.inr (Or.inl rfl))
  · rw [zDu_2 h]; exact Or.inr (Or.inr (Or.inr (Or.inl rfl)))
  · rw [zDu_3 h]; exact Or.inr (Or.inr (Or.inr (Or.inr (Or.inl rfl))))
  · rw [zDu_4] at h ⊢
    by_cases a : k = 115
    · rw [zDl9_s a]; exact Or.inr (Or.inr (Or.inr (Or.inr (Or.inr (Or.inl rfl)))))
    by_cases b : k = 103
    · rw [zDl9_g b]; exact Or.inr (Or.inr (Or.inr (Or.inr (Or.inr (Or.inr (Or.inr (Or.inr (Or.inl rfl))))))))
    by_cases c : k = 108
    · rw [zDl9_l c]; exact Or.inr (Or.inr (Or.inr (Or.inr (Or.inr (Or.inr (Or.inr (Or.inr (Or.inr rfl))))))))
    rw [zDl9_o a b c] at h
    exact absurd rfl h
  · rw [zDu_5 h]; exact Or.inr (Or.inr (Or.inr (Or.inr (Or.inr (Or.inr (Or.inl rfl))))))
  · rw [zDu_6 h]; exact Or.inr (Or.inr (Or.inr (Or.inr (Or.inr (Or.inr (Or.inr (Or.inl rfl)))))))
  · rcases zDu_7 (k := k) with z | z
    · rw [z.2.1]; exact Or.inr (Or.inr (Or.inr (Or.inr (Or.inl rfl))))
    · exact absurd z.1 h
  · rw [zDu_8 h]; exact Or.inr (Or.inr (Or.inr (Or.inr (Or.inl rfl))))
  · rw [zDu_9 h]; exact Or.inr (Or.inr (Or.inr (Or.inr (Or.inl rfl))))
theorem zWr_st {v : Nat → Int32} {n k i : Nat} {d : Int32} (hi9 : i < 2 ^ 31) (h : zWr v n (k + 1) i d = -1) : ¬ zDu d (zSa v n i) = -1 ∧ zWr v n k (i + 1) (zDu d (zSa v n i)) = -1 := by
  rw [zWr] at h
  by_cases e : zDu d (zSa v n i) = -1
  · rw [if_pos e] at h
    exact absurd h (nI_m1 hi9)
  · rw [if_neg e] at h
    exact ⟨e, h⟩
theorem zIm_l {k : Int32} (h : zIm k = true) : k = 115 ∨ k = 103 ∨ k = 108 := by
  simpa only [zIm, Bool.or_eq_true, decide_eq_true_eq] using h
theorem zIm_n {k : Int32} (h : zIm k = false) : ¬ k = 115 ∧ ¬ k = 103 ∧ ¬ k = 108 := by
  refine ⟨fun q => ?_, fun q => ?_, fun q => ?_⟩ <;> rw [q] at h <;> exact absurd h (by decide)
/-- where a move's letter stands in a text that is a game, a move stands -/
theorem zRd_of {v : Nat → Int32} {n i : Nat} {d : Int32} (hv : zTu v) (hn : n ≤ 120) (hi : i < n) (hd : zDr d) (hm : zIm (zSa v n i) = true) (h : zWr v n (n - i) i d = -1) : zRd v n i = 0 := by
  rw [show n - i = (n - (i + 1)) + 1 by omega] at h
  have h1 := (zWr_st (by omega) h).1
  have hd4 : d = 4 := by
    have hl := zIm_l hm
    rcases hd with rfl | rfl | rfl | rfl | rfl | rfl | rfl | rfl | rfl | rfl
    · rcases hl with q | q | q <;> rw [q] at h1 <;> exact absurd (by decide) h1
    · rcases hl with q | q | q <;> rw [q] at h1 <;> exact absurd (by decide) h1
    · rcases hl with q | q | q <;> rw [q] at h1 <;> exact absurd (by decide) h1
    · rcases hl with q | q | q <;> rw [q] at h1 <;> exact absurd (by decide) h1
    · rfl
    · rcases hl with q | q | q <;> rw [q] at h1 <;> exact absurd (by decide) h1
    · rcases hl with q | q | q <;> rw [q] at h1 <;> exact absurd (by decide) h1
    · rcases hl with q | q | q <;> rw [q] at h1 <;> exact absurd (by decide) h1
    · rcases hl with q | q | q <;> rw [q] at h1 <;> exact absurd (by decide) h1
    · rcases hl with q | q | q <;> rw [q] at h1 <;> exact absurd (by decide) h1
  subst hd4
  refine Classical.byContradiction (fun q => ?_)
  obtain ⟨w1, w2⟩ := (zWr_rd hi).2 q
  rw [show n - i = (n - (i + 1)) + 1 by omega, h] at w2
  exact nI_m1 (by omega) w2.symm
set_option maxHeartbeats 4000000 in
set_option maxRecDepth 100000 in
theorem c_x_goes1 (l : Launch) (G : zC) (hl0 : l.stackTraces = false) (o9 : Nat) (u0 u1 u2 u3 u4 u5 u6 u7 : Value) (k9 : Int32) (hc : k9 < 0 ∨ 2 < k9) : zMetT l G yX6_goesOn wsX6_goesOn rmX6_goesOn [.ref o9, .int k9] ([(o9, .inr (6, [u0, u1, u2, u3, u4, u5, u6, u7]))]) "java/lang/IllegalArgumentException" := by
  refine zMetT_of (cc := cX6_goesOn) (maxL := 3) (ret := (some .int)) (by decide) rfl (Nat.le_of_ble_eq_true rfl) ?_
  intro p e s m below meth c A ls hx hb htb hml hown hts hK hA hE hTh hlocks hin hM hl
  have hown : s.vm.findClass RX6 = some m.cls := hown
  have hM : zM G A s s.heap [] ([(o9, .inr (6, [u0, u1, u2, u3, u4, u5, u6, u7]))]) := hM
  have hl : lv_has ls 3 [(0, .ref o9), (1, .int k9)] := hl
  refine lv_iload_n hx hb dX6_goesOn_0 rfl (lv_at hl 1 rfl) ?_
  refine lv_if_lt (tgt := 9) hx hb dX6_goesOn_1 (by decide) (fun c_0 => ?_) (fun c_0 => ?_)
  · skip
    exact z_throw (text := "what is 0 to 2") (ik := 55) (is := 176) (ic := 59) hx hb hl0 htb hlocks hown (by decide) (hts (.classLink RX6 55 "java/lang/IllegalArgumentException") (by decide +kernel)) (hts (.initialized "java/lang/IllegalArgumentException") (by decide +kernel)) (hE.1.2.2 (176, "what is 0 to 2") (List.mem_of_getElem? (i := 5) rfl)) hTh (List.mem_of_getElem? (i := 0) rfl) (fun w9 hw9 => hts w9 (List.mem_cons_of_mem _ (List.mem_append_right _ hw9))) (by decide +kernel) (by decide +kernel) hE hA hM (hl.1.trans hml.symm) dX6_goesOn_9 dX6_goesOn_12 dX6_goesOn_13 dX6_goesOn_15 dX6_goesOn_18 (Nat.le_of_ble_eq_true rfl) (Nat.le_of_ble_eq_true rfl) (Nat.le_of_ble_eq_true rfl) (Nat.le_of_ble_eq_true rfl) (Nat.le_of_ble_eq_true rfl) (Nat.le_of_ble_eq_true rfl)
  · skip
    refine lv_iload_n hx hb dX6_goesOn_4 rfl (lv_at hl 1 rfl) ?_
    refine lv_iconst (v := 2) hx hb dX6_goesOn_5 (by decide) ?_
    refine lv_icmp_le (tgt := 19) hx hb dX6_goesOn_6 (by decide) (fun c_1 => absurd (hc.resolve_left c_0) (Int32.not_lt.mpr c_1)) (fun c_1 => ?_)
    exact z_throw (text := "what is 0 to 2") (ik := 55) (is := 176) (ic := 59) hx hb hl0 htb hlocks hown (by decide) (hts (.classLink RX6 55 "java/lang/IllegalArgumentException") (by decide +kernel)) (hts (.initialized "java/lang/IllegalArgumentException") (by decide +kernel)) (hE.1.2.2 (176, "what is 0 to 2") (List.mem_of_getElem? (i := 5) rfl)) hTh (List.mem_of_getElem? (i := 0) rfl) (fun w9 hw9 => hts w9 (List.mem_cons_of_mem _ (List.mem_append_right _ hw9))) (by decide +kernel) (by decide +kernel) hE hA hM (hl.1.trans hml.symm) dX6_goesOn_9 dX6_goesOn_12 dX6_goesOn_13 dX6_goesOn_15 dX6_goesOn_18 (Nat.le_of_ble_eq_true rfl) (Nat.le_of_ble_eq_true rfl) (Nat.le_of_ble_eq_true rfl) (Nat.le_of_ble_eq_true rfl) (Nat.le_of_ble_eq_true rfl) (Nat.le_of_ble_eq_true rfl)

set_option maxHeartbeats 4000000 in
set_option maxRecDepth 100000 in
theorem c_x_goes2 (l : Launch) (G : zC) (o9 : Nat) (u0 u2 u3 u4 u5 u6 u7 : Value) (a : zGA) (h : Nat → Int32) (b : Nat → Nat → Int32) (k9 : Int32) (hc1 : ¬ k9 < 0) (hc2 : ¬ 2 < k9) (h0 : h 0 = 0) : zMet l G yX6_goesOn wsX6_goesOn rmX6_goesOn [.ref o9, .int k9] ([(o9, .inr (6, [u0, .ref a.1, u2, u3, u4, u5, u6, u7]))] ++ (gmW G a h b)) (some (.int (-1))) ([(o9, .inr (6, [u0, .ref a.1, u2, u3, u4, u5, u6, u7]))] ++ (gmW G a h b)) := by
  refine zMet_of (cc := cX6_goesOn) (maxL := 3) (ret := (some .int)) (by decide) rfl (Nat.le_of_ble_eq_true rfl) ?_
  intro p e s m below meth c A ls hx hb hr hml hown hts hK hA hE hlocks hin hM hl
  have hown : s.vm.findClass RX6 = some m.cls := hown
  have hM : zM G A s s.heap [] ([(o9, .inr (6, [u0, .ref a.1, u2, u3, u4, u5, u6, u7]))] ++ (gmW G a h b)) := hM
  have hl : lv_has ls 3 [(0, .ref o9), (1, .int k9)] := hl
  refine lv_iload_n hx hb dX6_goesOn_0 rfl (lv_at hl 1 rfl) ?_
  refine lv_if_lt (tgt := 9) hx hb dX6_goesOn_1 (by decide) (fun c_1 => absurd c_1 hc1) (fun c_1 => ?_)
  refine lv_iload_n hx hb dX6_goesOn_4 rfl (lv_at hl 1 rfl) ?_
  refine lv_iconst (v := 2) hx hb dX6_goesOn_5 (by decide) ?_
  refine lv_icmp_le (tgt := 19) hx hb dX6_goesOn_6 (by decide) (fun c_2 => ?_) (fun c_2 => absurd (Int32.not_lt.mp hc2) c_2)
  refine lv_aload_n hx hb dX6_goesOn_19 rfl (lv_at hl 0 rfl) ?_
  refine z_get (ci := 6) (v := .ref a.1) (C := RX6) (T := TX6) (N := 8) hx hb hts (by decide +kernel) hown hK hM 0 rfl rfl 1 (by decide) (hts (.fieldLink RX6 19 "ShiftIsles" "state" "LShiftIsles$Game;") (by decide +kernel)) (fun _ h9 => h9) rfl dX6_goesOn_20 ?_
  have hp9 : List.Perm ([(o9, .inr (6, [u0, .ref a.1, u2, u3, u4, u5, u6, u7]))] ++ (gmW G a h b) : va_W) ((gmW G a h b) ++ ([(o9, .inr (6, [u0, .ref a.1, u2, u3, u4, u5, u6, u7]))])) := (pm_cut (cs := [[(o9, .inr (6, [u0, .ref a.1, u2, u3, u4, u5, u6, u7]))], gmW G a h b]) (sub := [gmW G a h b]) (rest := [[(o9, .inr (6, [u0, .ref a.1, u2, u3, u4, u5, u6, u7]))]]) 2 [1] [0] rfl rfl rfl (by decide))
  have hq9 : List.Perm ((gmW G a h b) ++ ([(o9, .inr (6, [u0, .ref a.1, u2, u3, u4, u5, u6, u7]))])) ([(o9, .inr (6, [u0, .ref a.1, u2, u3, u4, u5, u6, u7]))] ++ (gmW G a h b) : va_W) := (pm_put (cs := [[(o9, .inr (6, [u0, .ref a.1, u2, u3, u4, u5, u6, u7]))], gmW G a h b]) (sub := [gmW G a h b]) (rest := [[(o9, .inr (6, [u0, .ref a.1, u2, u3, u4, u5, u6, u7]))]]) 2 [1] [0] rfl rfl rfl (by decide))
  refine z_callV (As := []) (rest := []) (wc := gmW G a h b) (wr := [(o9, .inr (6, [u0, .ref a.1, u2, u3, u4, u5, u6, u7]))]) (w1 := gmW G a h b) (ws' := [(o9, .inr (6, [u0, .ref a.1, u2, u3, u4, u5, u6, u7]))] ++ (gmW G a h b)) ⟨hx, hb, hml, hown, hts⟩ (c_g_players l G a h b  ) (cwV 0 hts gX6_goesOn_X2_players rfl rfl rfl (by decide +kernel) ⟨Nat.le_of_ble_eq_true rfl, Nat.le_of_ble_eq_true rfl⟩) 2 rfl rfl rfl rfl hl.1 rfl (Nat.le_of_ble_eq_true rfl) dX6_goesOn_23 ⟨Nat.le_of_ble_eq_true rfl, Nat.le_of_ble_eq_true rfl⟩ hK hE hA hM hp9 hq9 (fun H locs hM hz => ?_)
  refine lv_if_ne (tgt := 31) hx hb dX6_goesOn_26 (by decide) (fun c_3 => absurd h0 c_3) (fun c_3 => ?_)
  refine lv_iconst (v := (-1)) hx hb dX6_goesOn_29 (by decide) ?_
  exact z_iret hx hb hr hlocks dX6_goesOn_30 hM (Nat.le_of_ble_eq_true rfl) (Nat.le_of_ble_eq_true rfl) rfl

set_option maxHeartbeats 4000000 in
set_option maxRecDepth 100000 in
theorem c_x_goes0_0 (l : Launch) (G : zC) (o9 : Nat) (u0 u4 u5 u6 u7 : Value) (r9 : Nat) (sa : zBA) (u : zRU) (a : zGA) (h : Nat → Int32) (b : Nat → Nat → Int32) (ta : zGA) (th : Nat → Int32) (tb : Nat → Nat → Int32) (P t S e0 : Nat) (hG : zGs h b P t S e0) (K : Nat) (hK9 : e0 + K = 200) (hP0 : 0 < P) : zMet l G yX6_goesOn wsX6_goesOn rmX6_goesOn [.ref o9, .int 0] ([(o9, .inr (6, [u0, .ref a.1, .ref ta.1, .ref r9, u4, u5, u6, u7]))] ++ ((ruW G r9 sa u) ++ ((gmW G a h b) ++ (gmW G ta th tb)))) (some (.int ((zRunV K ((h, b), u)).1.1 5))) ([(o9, .inr (6, [u0, .ref a.1, .ref ta.1, .ref r9, u4, u5, u6, u7]))] ++ ((ruW G r9 sa ((zRunV K ((h, b), u)).2)) ++ ((gmW G a h b) ++ (gmW G ta ((zRunV K ((h, b), u)).1.1) ((zRunV K ((h, b), u)).1.2))))) := by
  refine zMet_of (cc := cX6_goesOn) (maxL := 3) (ret := (some .int)) (by decide) rfl (Nat.le_of_ble_eq_true rfl) ?_
  intro p e s m below meth c A ls hx hb hr hml hown hts hK hA hE hlocks hin hM hl
  have hown : s.vm.findClass RX6 = some m.cls := hown
  have hM : zM G A s s.heap [] ([(o9, .inr (6, [u0, .ref a.1, .ref ta.1, .ref r9, u4, u5, u6, u7]))] ++ ((ruW G r9 sa u) ++ ((gmW G a h b) ++ (gmW G ta th tb)))) := hM
  have hl : lv_has ls 3 [(0, .ref o9), (1, .int 0)] := hl
  have h0n : ¬ h 0 = 0 := by rw [hG.1.1.1]; exact nI_nz hP0 (by have := hG.1.1.2.1; omega)
  refine lv_iload_n hx hb dX6_goesOn_0 rfl (lv_at hl 1 rfl) ?_
  refine lv_if_lt (tgt := 9) hx hb dX6_goesOn_1 (by decide) (fun c_1 => absurd c_1 (by decide)) (fun c_1 => ?_)
  refine lv_iload_n hx hb dX6_goesOn_4 rfl (lv_at hl 1 rfl) ?_
  refine lv_iconst (v := 2) hx hb dX6_goesOn_5 (by decide) ?_
  refine lv_icmp_le (tgt := 19) hx hb dX6_goesOn_6 (by decide) (fun c_2 => ?_) (fun c_2 => absurd (by decide) c_2)
  refine lv_aload_n hx hb dX6_goesOn_19 rfl (lv_at hl 0 rfl) ?_
  refine z_get (ci := 6) (v := .ref a.1) (C := RX6) (T := TX6) (N := 8) hx hb hts (by decide +kernel) hown hK hM 0 rfl rfl 1 (by decide) (hts (.fieldLink RX6 19 "ShiftIsles" "state" "LShiftIsles$Game;") (by decide +kernel)) (fun _ h9 => h9) rfl dX6_goesOn_20 ?_
  have hp9 : List.Perm ([(o9, .inr (6, [u0, .ref a.1, .ref ta.1, .ref r9, u4, u5, u6, u7]))] ++ ((ruW G r9 sa u) ++ ((gmW G a h b) ++ (gmW G ta th tb))) : va_W) ((gmW G a h b) ++ ([(o9, .inr (6, [u0, .ref a.1, .ref ta.1, .ref r9, u4, u5, u6, u7]))] ++ ((ruW G r9 sa u) ++ (gmW G ta th tb)))) := (pm_cut (cs := [[(o9, .inr (6, [u0, .ref a.1, .ref ta.1, .ref r9, u4, u5, u6, u7]))], ruW G r9 sa u, gmW G a h b, gmW G ta th tb]) (sub := [gmW G a h b]) (rest := [[(o9, .inr (6, [u0, .ref a.1, .ref ta.1, .ref r9, u4, u5, u6, u7]))], ruW G r9 sa u, gmW G ta th tb]) 4 [2] [0, 1, 3] rfl rfl rfl (by decide))
  have hq9 : List.Perm ((gmW G a h b) ++ ([(o9, .inr (6, [u0, .ref a.1, .ref ta.1, .ref r9, u4, u5, u6, u7]))] ++ ((ruW G r9 sa u) ++ (gmW G ta th tb)))) ([(o9, .inr (6, [u0, .ref a.1, .ref ta.1, .ref r9, u4, u5, u6, u7]))] ++ ((ruW G r9 sa u) ++ ((gmW G a h b) ++ (gmW G ta th tb))) : va_W) := (pm_put (cs := [[(o9, .inr (6, [u0, .ref a.1, .ref ta.1, .ref r9, u4, u5, u6, u7]))], ruW G r9 sa u, gmW G a h b, gmW G ta th tb]) (sub := [gmW G a h b]) (rest := [[(o9, .inr (6, [u0, .ref a.1, .ref ta.1, .ref r9, u4, u5, u6, u7]))], ruW G r9 sa u, gmW G ta th tb]) 4 [2] [0, 1, 3] rfl rfl rfl (by decide))
  refine z_callV (As := []) (rest := []) (wc := gmW G a h b) (wr := [(o9, .inr (6, [u0, .ref a.1, .ref ta.1, .ref r9, u4, u5, u6, u7]))] ++ ((ruW G r9 sa u) ++ (gmW G ta th tb))) (w1 := gmW G a h b) (ws' := [(o9, .inr (6, [u0, .ref a.1, .ref ta.1, .ref r9, u4, u5, u6, u7]))] ++ ((ruW G r9 sa u) ++ ((gmW G a h b) ++ (gmW G ta th tb)))) ⟨hx, hb, hml, hown, hts⟩ (c_g_players l G a h b  ) (cwV 0 hts gX6_goesOn_X2_players rfl rfl rfl (by decide +kernel) ⟨Nat.le_of_ble_eq_true rfl, Nat.le_of_ble_eq_true rfl⟩) 2 rfl rfl rfl rfl hl.1 rfl (Nat.le_of_ble_eq_true rfl) dX6_goesOn_23 ⟨Nat.le_of_ble_eq_true rfl, Nat.le_of_ble_eq_true rfl⟩ hK hE hA hM hp9 hq9 (fun H locs hM hz => ?_)
  refine lv_if_ne (tgt := 31) hx hb dX6_goesOn_26 (by decide) (fun c_3 => ?_) (fun c_3 => absurd c_3 h0n)
  refine lv_aload_n hx hb dX6_goesOn_31 rfl (lv_at hl 0 rfl) ?_
  refine z_get (ci := 6) (v := .ref ta.1) (C := RX6) (T := TX6) (N := 8) hx hb hts (by decide +kernel) hown hK hM 0 rfl rfl 2 (by decide) (hts (.fieldLink RX6 23 "ShiftIsles" "trial" "LShiftIsles$Game;") (by decide +kernel)) (fun _ h9 => h9) rfl dX6_goesOn_32 ?_
  refine lv_aload_n hx hb dX6_goesOn_35 rfl (lv_at hl 0 rfl) ?_
  refine z_get (ci := 6) (v := .ref a.1) (C := RX6) (T := TX6) (N := 8) hx hb hts (by decide +kernel) hown hK hM 0 rfl rfl 1 (by decide) (hts (.fieldLink RX6 19 "ShiftIsles" "state" "LShiftIsles$Game;") (by decide +kernel)) (fun _ h9 => h9) rfl dX6_goesOn_36 ?_
  have hp9 : List.Perm ([(o9, .inr (6, [u0, .ref a.1, .ref ta.1, .ref r9, u4, u5, u6, u7]))] ++ ((ruW G r9 sa u) ++ ((gmW G a h b) ++ (gmW G ta th tb))) : va_W) ((gmW G ta th tb ++ gmW G a h b) ++ ([(o9, .inr (6, [u0, .ref a.1, .ref ta.1, .ref r9, u4, u5, u6, u7]))] ++ (ruW G r9 sa u))) := (pm_cut (cs := [[(o9, .inr (6, [u0, .ref a.1, .ref ta.1, .ref r9, u4, u5, u6, u7]))], ruW G r9 sa u, gmW G a h b, gmW G ta th tb]) (sub := [gmW G ta th tb, gmW G a h b]) (rest := [[(o9, .inr (6, [u0, .ref a.1, .ref ta.1, .ref r9, u4, u5, u6, u7]))], ruW G r9 sa u]) 4 [3, 2] [0, 1] rfl rfl rfl (by decide))
  have hq9 : List.Perm ((gmW G ta h b ++ gmW G a h b) ++ ([(o9, .inr (6, [u0, .ref a.1, .ref ta.1, .ref r9, u4, u5, u6, u7]))] ++ (ruW G r9 sa u))) ([(o9, .inr (6, [u0, .ref a.1, .ref ta.1, .ref r9, u4, u5, u6, u7]))] ++ ((ruW G r9 sa u) ++ ((gmW G a h b) ++ (gmW G ta h b))) : va_W) := (pm_put (cs := [[(o9, .inr (6, [u0, .ref a.1, .ref ta.1, .ref r9, u4, u5, u6, u7]))], ruW G r9 sa u, gmW G a h b, gmW G ta h b]) (sub := [gmW G ta h b, gmW G a h b]) (rest := [[(o9, .inr (6, [u0, .ref a.1, .ref ta.1, .ref r9, u4, u5, u6, u7]))], ruW G r9 sa u]) 4 [3, 2] [0, 1] rfl rfl rfl (by decide))
  refine z_callV (As := [.ref a.1]) (rest := []) (wc := gmW G ta th tb ++ gmW G a h b) (wr := [(o9, .inr (6, [u0, .ref a.1, .ref ta.1, .ref r9, u4, u5, u6, u7]))] ++ (ruW G r9 sa u)) (w1 := gmW G ta h b ++ gmW G a h b) (ws' := [(o9, .inr (6, [u0, .ref a.1, .ref ta.1, .ref r9, u4, u5, u6, u7]))] ++ ((ruW G r9 sa u) ++ ((gmW G a h b) ++ (gmW G ta h b)))) ⟨hx, hb, hml, hown, hts⟩ (c_gmCopy l G ta a th h tb b hG.1.1.2.2.2.2.2.2.1 hG.1.1.2.2.2.2.2.2.2) (cwV 1 hts gX6_goesOn_X2_copyFrom rfl rfl rfl (by decide +kernel) ⟨Nat.le_of_ble_eq_true rfl, Nat.le_of_ble_eq_true rfl⟩) 2 rfl rfl rfl rfl hl.1 rfl (Nat.le_of_ble_eq_true rfl) dX6_goesOn_39 ⟨Nat.le_of_ble_eq_true rfl, Nat.le_of_ble_eq_true rfl⟩ hK hE hA hM hp9 hq9 (fun H locs hM hz => ?_)
  refine lv_iconst (v := nI 0) hx hb dX6_goesOn_42 (by decide) ?_
  refine lv_istore_n (lv' := [(2, .int (nI 0)), (0, .ref o9), (1, .int 0)]) hx hb dX6_goesOn_43 rfl hl (by decide) rfl (fun ls hl => ?_)
  have lp44 : ∀ (k : Nat) (i : Nat) (v1 : zRU) (g1 : Nat → Int32) (d1 : Nat → Nat → Int32) (t1 e1 m1 : Nat), (i + k = 200) → (e1 = e0 + i) → (zGs g1 d1 P t1 S e1) → (e1 + m1 = 200) → ((zRunV K ((h, b), u)) = zRunV m1 ((g1, d1), v1)) → ∀ (H : Heap) (locs : List Loc), zM G A s H locs ([(o9, .inr (6, [u0, .ref a.1, .ref ta.1, .ref r9, u4, u5, u6, u7]))] ++ ((ruW G r9 sa v1) ++ ((gmW G a h b) ++ (gmW G ta g1 d1)))) → ∀ ls : Array Slot, lv_has ls 3 [(0, .ref o9), (1, .int 0), (2, .int (nI i))] → W p l e rmX6_goesOn s m ([.ref o9, .int 0] : List Value).toArray below meth c H locs 0 0 (zEnd G below ([.ref o9, .int 0] : List Value).toArray s rmX6_goesOn A (some (.int ((zRunV K ((h, b), u)).1.1 5))) ([(o9, .inr (6, [u0, .ref a.1, .ref ta.1, .ref r9, u4, u5, u6, u7]))] ++ ((ruW G r9 sa ((zRunV K ((h, b), u)).2)) ++ ((gmW G a h b) ++ (gmW G ta ((zRunV K ((h, b), u)).1.1) ((zRunV K ((h, b), u)).1.2)))))) (F0 m 44 ls []) := by
    intro k
    induction k with
    | zero =>
      intro i v1 g1 d1 t1 e1 m1 hik hei hG1 hm1 hR H locs hM ls hl
      refine lv_iload_n hx hb dX6_goesOn_44 rfl (lv_at hl 2 rfl) ?_
      refine lv_sipush (v := nI 200) hx hb dX6_goesOn_45 (by decide) ?_
      refine lv_icmp_ge (tgt := 79) hx hb dX6_goesOn_48 (by decide) (fun c_4 => ?_) (fun c_4 => absurd (nI_le (by omega) (by omega)) c_4)
      have hm0 : m1 = 0 := by have := hG1.2.2.2.2.2.1; omega
      have hZ : (zRunV K ((h, b), u)) = ((g1, d1), v1) := by rw [hR, hm0]; rfl
      refine lv_iload_n hx hb dX6_goesOn_79 rfl (lv_at hl 1 rfl) ?_
      refine lv_lookup (off := 28) (tgt := 108) hx hb dX6_goesOn_80 (by decide) rfl (by decide) ?_
      refine lv_aload_n hx hb dX6_goesOn_108 rfl (lv_at hl 0 rfl) ?_
      refine z_get (ci := 6) (v := .ref ta.1) (C := RX6) (T := TX6) (N := 8) hx hb hts (by decide +kernel) hown hK hM 0 rfl rfl 2 (by decide) (hts (.fieldLink RX6 23 "ShiftIsles" "trial" "LShiftIsles$Game;") (by decide +kernel)) (fun _ h9 => h9) rfl dX6_goesOn_109 ?_
      have hp9 : List.Perm ([(o9, .inr (6, [u0, .ref a.1, .ref ta.1, .ref r9, u4, u5, u6, u7]))] ++ ((ruW G r9 sa v1) ++ ((gmW G a h b) ++ (gmW G ta g1 d1))) : va_W) ((gmW G ta g1 d1) ++ ([(o9, .inr (6, [u0, .ref a.1, .ref ta.1, .ref r9, u4, u5, u6, u7]))] ++ ((ruW G r9 sa v1) ++ (gmW G a h b)))) := (pm_cut (cs := [[(o9, .inr (6, [u0, .ref a.1, .ref ta.1, .ref r9, u4, u5, u6, u7]))], ruW G r9 sa v1, gmW G a h b, gmW G ta g1 d1]) (sub := [gmW G ta g1 d1]) (rest := [[(o9, .inr (6, [u0, .ref a.1, .ref ta.1, .ref r9, u4, u5, u6, u7]))], ruW G r9 sa v1, gmW G a h b]) 4 [3] [0, 1, 2] rfl rfl rfl (by decide))
      have hq9 : List.Perm ((gmW G ta g1 d1) ++ ([(o9, .inr (6, [u0, .ref a.1, .ref ta.1, .ref r9, u4, u5, u6, u7]))] ++ ((ruW G r9 sa v1) ++ (gmW G a h b)))) ([(o9, .inr (6, [u0, .ref a.1, .ref ta.1, .ref r9, u4, u5, u6, u7]))] ++ ((ruW G r9 sa v1) ++ ((gmW G a h b) ++ (gmW G ta g1 d1))) : va_W) := (pm_put (cs := [[(o9, .inr (6, [u0, .ref a.1, .ref ta.1, .ref r9, u4, u5, u6, u7]))], ruW G r9 sa v1, gmW G a h b, gmW G ta g1 d1]) (sub := [gmW G ta g1 d1]) (rest := [[(o9, .inr (6, [u0, .ref a.1, .ref ta.1, .ref r9, u4, u5, u6, u7]))], ruW G r9 sa v1, gmW G a h b]) 4 [3] [0, 1, 2] rfl rfl rfl (by decide))
      refine z_callV (As := []) (rest := []) (wc := gmW G ta g1 d1) (wr := [(o9, .inr (6, [u0, .ref a.1, .ref ta.1, .ref r9, u4, u5, u6, u7]))] ++ ((ruW G r9 sa v1) ++ (gmW G a h b))) (w1 := gmW G ta g1 d1) (ws' := [(o9, .inr (6, [u0, .ref a.1, .ref ta.1, .ref r9, u4, u5, u6, u7]))] ++ ((ruW G r9 sa v1) ++ ((gmW G a h b) ++ (gmW G ta g1 d1)))) ⟨hx, hb, hml, hown, hts⟩ (c_g_winner l G ta g1 d1  ) (cwV 0 hts gX6_goesOn_X2_winner rfl rfl rfl (by decide +kernel) ⟨Nat.le_of_ble_eq_true rfl, Nat.le_of_ble_eq_true rfl⟩) 2 rfl rfl rfl rfl hl.1 rfl (Nat.le_of_ble_eq_true rfl) dX6_goesOn_112 ⟨Nat.le_of_ble_eq_true rfl, Nat.le_of_ble_eq_true rfl⟩ hK hE hA hM hp9 hq9 (fun H locs hM hz => ?_)
      exact z_iret hx hb hr hlocks dX6_goesOn_115 (by rw [hZ]; exact hM) (Nat.le_of_ble_eq_true rfl) (Nat.le_of_ble_eq_true rfl) (by rw [hZ])
    | succ k ih =>
      intro i v1 g1 d1 t1 e1 m1 hik hei hG1 hm1 hR H locs hM ls hl
      refine lv_iload_n hx hb dX6_goesOn_44 rfl (lv_at hl 2 rfl) ?_
      refine lv_sipush (v := nI 200) hx hb dX6_goesOn_45 (by decide) ?_
      refine lv_icmp_ge (tgt := 79) hx hb dX6_goesOn_48 (by decide) (fun c_5 => absurd c_5 (nI_ge (by omega) (by omega))) (fun c_5 => ?_)
      refine lv_aload_n hx hb dX6_goesOn_51 rfl (lv_at hl 0 rfl) ?_
      refine z_get (ci := 6) (v := .ref ta.1) (C := RX6) (T := TX6) (N := 8) hx hb hts (by decide +kernel) hown hK hM 0 rfl rfl 2 (by decide) (hts (.fieldLink RX6 23 "ShiftIsles" "trial" "LShiftIsles$Game;") (by decide +kernel)) (fun _ h9 => h9) rfl dX6_goesOn_52 ?_
      have hp9 : List.Perm ([(o9, .inr (6, [u0, .ref a.1, .ref ta.1, .ref r9, u4, u5, u6, u7]))] ++ ((ruW G r9 sa v1) ++ ((gmW G a h b) ++ (gmW G ta g1 d1))) : va_W) ((gmW G ta g1 d1) ++ ([(o9, .inr (6, [u0, .ref a.1, .ref ta.1, .ref r9, u4, u5, u6, u7]))] ++ ((ruW G r9 sa v1) ++ (gmW G a h b)))) := (pm_cut (cs := [[(o9, .inr (6, [u0, .ref a.1, .ref ta.1, .ref r9, u4, u5, u6, u7]))], ruW G r9 sa v1, gmW G a h b, gmW G ta g1 d1]) (sub := [gmW G ta g1 d1]) (rest := [[(o9, .inr (6, [u0, .ref a.1, .ref ta.1, .ref r9, u4, u5, u6, u7]))], ruW G r9 sa v1, gmW G a h b]) 4 [3] [0, 1, 2] rfl rfl rfl (by decide))
      have hq9 : List.Perm ((gmW G ta g1 d1) ++ ([(o9, .inr (6, [u0, .ref a.1, .ref ta.1, .ref r9, u4, u5, u6, u7]))] ++ ((ruW G r9 sa v1) ++ (gmW G a h b)))) ([(o9, .inr (6, [u0, .ref a.1, .ref ta.1, .ref r9, u4, u5, u6, u7]))] ++ ((ruW G r9 sa v1) ++ ((gmW G a h b) ++ (gmW G ta g1 d1))) : va_W) := (pm_put (cs := [[(o9, .inr (6, [u0, .ref a.1, .ref ta.1, .ref r9, u4, u5, u6, u7]))], ruW G r9 sa v1, gmW G a h b, gmW G ta g1 d1]) (sub := [gmW G ta g1 d1]) (rest := [[(o9, .inr (6, [u0, .ref a.1, .ref ta.1, .ref r9, u4, u5, u6, u7]))], ruW G r9 sa v1, gmW G a h b]) 4 [3] [0, 1, 2] rfl rfl rfl (by decide))
      refine z_callV (As := []) (rest := []) (wc := gmW G ta g1 d1) (wr := [(o9, .inr (6, [u0, .ref a.1, .ref ta.1, .ref r9, u4, u5, u6, u7]))] ++ ((ruW G r9 sa v1) ++ (gmW G a h b))) (w1 := gmW G ta g1 d1) (ws' := [(o9, .inr (6, [u0, .ref a.1, .ref ta.1, .ref r9, u4, u5, u6, u7]))] ++ ((ruW G r9 sa v1) ++ ((gmW G a h b) ++ (gmW G ta g1 d1)))) ⟨hx, hb, hml, hown, hts⟩ (c_isRunning l G ta g1 d1  ) (cwV 0 hts gX6_goesOn_X2_isRunning rfl rfl rfl (by decide +kernel) ⟨Nat.le_of_ble_eq_true rfl, Nat.le_of_ble_eq_true rfl⟩) 2 rfl rfl rfl rfl hl.1 rfl (Nat.le_of_ble_eq_true rfl) dX6_goesOn_55 ⟨Nat.le_of_ble_eq_true rfl, Nat.le_of_ble_eq_true rfl⟩ hK hE hA hM hp9 hq9 (fun H locs hM hz => ?_)
      refine z_ifeq (tgt := 79) hx hb dX6_goesOn_58 (by decide) (fun hru => ?_) (fun hru => ?_)
      · skip
        have hZ : (zRunV K ((h, b), u)) = ((g1, d1), v1) := hR.trans (zRunV_off (fun q => Bool.noConfusion (hru.symm.trans q)))
        refine lv_iload_n hx hb dX6_goesOn_79 rfl (lv_at hl 1 rfl) ?_
        refine lv_lookup (off := 28) (tgt := 108) hx hb dX6_goesOn_80 (by decide) rfl (by decide) ?_
        refine lv_aload_n hx hb dX6_goesOn_108 rfl (lv_at hl 0 rfl) ?_
        refine z_get (ci := 6) (v := .ref ta.1) (C := RX6) (T := TX6) (N := 8) hx hb hts (by decide +kernel) hown hK hM 0 rfl rfl 2 (by decide) (hts (.fieldLink RX6 23 "ShiftIsles" "trial" "LShiftIsles$Game;") (by decide +kernel)) (fun _ h9 => h9) rfl dX6_goesOn_109 ?_
        have hp9 : List.Perm ([(o9, .inr (6, [u0, .ref a.1, .ref ta.1, .ref r9, u4, u5, u6, u7]))] ++ ((ruW G r9 sa v1) ++ ((gmW G a h b) ++ (gmW G ta g1 d1))) : va_W) ((gmW G ta g1 d1) ++ ([(o9, .inr (6, [u0, .ref a.1, .ref ta.1, .ref r9, u4, u5, u6, u7]))] ++ ((ruW G r9 sa v1) ++ (gmW G a h b)))) := (pm_cut (cs := [[(o9, .inr (6, [u0, .ref a.1, .ref ta.1, .ref r9, u4, u5, u6, u7]))], ruW G r9 sa v1, gmW G a h b, gmW G ta g1 d1]) (sub := [gmW G ta g1 d1]) (rest := [[(o9, .inr (6, [u0, .ref a.1, .ref ta.1, .ref r9, u4, u5, u6, u7]))], ruW G r9 sa v1, gmW G a h b]) 4 [3] [0, 1, 2] rfl rfl rfl (by decide))
        have hq9 : List.Perm ((gmW G ta g1 d1) ++ ([(o9, .inr (6, [u0, .ref a.1, .ref ta.1, .ref r9, u4, u5, u6, u7]))] ++ ((ruW G r9 sa v1) ++ (gmW G a h b)))) ([(o9, .inr (6, [u0, .ref a.1, .ref ta.1, .ref r9, u4, u5, u6, u7]))] ++ ((ruW G r9 sa v1) ++ ((gmW G a h b) ++ (gmW G ta g1 d1))) : va_W) := (pm_put (cs := [[(o9, .inr (6, [u0, .ref a.1, .ref ta.1, .ref r9, u4, u5, u6, u7]))], ruW G r9 sa v1, gmW G a h b, gmW G ta g1 d1]) (sub := [gmW G ta g1 d1]) (rest := [[(o9, .inr (6, [u0, .ref a.1, .ref ta.1, .ref r9, u4, u5, u6, u7]))], ruW G r9 sa v1, gmW G a h b]) 4 [3] [0, 1, 2] rfl rfl rfl (by decide))
        refine z_callV (As := []) (rest := []) (wc := gmW G ta g1 d1) (wr := [(o9, .inr (6, [u0, .ref a.1, .ref ta.1, .ref r9, u4, u5, u6, u7]))] ++ ((ruW G r9 sa v1) ++ (gmW G a h b))) (w1 := gmW G ta g1 d1) (ws' := [(o9, .inr (6, [u0, .ref a.1, .ref ta.1, .ref r9, u4, u5, u6, u7]))] ++ ((ruW G r9 sa v1) ++ ((gmW G a h b) ++ (gmW G ta g1 d1)))) ⟨hx, hb, hml, hown, hts⟩ (c_g_winner l G ta g1 d1  ) (cwV 0 hts gX6_goesOn_X2_winner rfl rfl rfl (by decide +kernel) ⟨Nat.le_of_ble_eq_true rfl, Nat.le_of_ble_eq_true rfl⟩) 2 rfl rfl rfl rfl hl.1 rfl (Nat.le_of_ble_eq_true rfl) dX6_goesOn_112 ⟨Nat.le_of_ble_eq_true rfl, Nat.le_of_ble_eq_true rfl⟩ hK hE hA hM hp9 hq9 (fun H locs hM hz => ?_)
        exact z_iret hx hb hr hlocks dX6_goesOn_115 (by rw [hZ]; exact hM) (Nat.le_of_ble_eq_true rfl) (Nat.le_of_ble_eq_true rfl) (by rw [hZ])
      · skip
        have hlt := (hG1.2.2.2.2.2.2 (zRu_4 hru)).1
        have hm2 : m1 = (m1 - 1) + 1 := by omega
        obtain ⟨t2, hG2⟩ := zGs_ft v1.2.2.2.2 hG1 hru
        refine lv_aload_n hx hb dX6_goesOn_61 rfl (lv_at hl 0 rfl) ?_
        refine z_get (ci := 6) (v := .ref r9) (C := RX6) (T := TX6) (N := 8) hx hb hts (by decide +kernel) hown hK hM 0 rfl rfl 3 (by decide) (hts (.fieldLink RX6 29 "ShiftIsles" "rule" "LShiftIsles$Rule;") (by decide +kernel)) (fun _ h9 => h9) rfl dX6_goesOn_62 ?_
        refine lv_aload_n hx hb dX6_goesOn_65 rfl (lv_at hl 0 rfl) ?_
        refine z_get (ci := 6) (v := .ref ta.1) (C := RX6) (T := TX6) (N := 8) hx hb hts (by decide +kernel) hown hK hM 0 rfl rfl 2 (by decide) (hts (.fieldLink RX6 23 "ShiftIsles" "trial" "LShiftIsles$Game;") (by decide +kernel)) (fun _ h9 => h9) rfl dX6_goesOn_66 ?_
        have hp9 : List.Perm ([(o9, .inr (6, [u0, .ref a.1, .ref ta.1, .ref r9, u4, u5, u6, u7]))] ++ ((ruW G r9 sa v1) ++ ((gmW G a h b) ++ (gmW G ta g1 d1))) : va_W) ((ruW G r9 sa v1 ++ gmW G ta g1 d1) ++ ([(o9, .inr (6, [u0, .ref a.1, .ref ta.1, .ref r9, u4, u5, u6, u7]))] ++ (gmW G a h b))) := (pm_cut (cs := [[(o9, .inr (6, [u0, .ref a.1, .ref ta.1, .ref r9, u4, u5, u6, u7]))], ruW G r9 sa v1, gmW G a h b, gmW G ta g1 d1]) (sub := [ruW G r9 sa v1, gmW G ta g1 d1]) (rest := [[(o9, .inr (6, [u0, .ref a.1, .ref ta.1, .ref r9, u4, u5, u6, u7]))], gmW G a h b]) 4 [1, 3] [0, 2] rfl rfl rfl (by decide))
        have hq9 : List.Perm ((ruW G r9 sa (zCs g1 d1 S P v1.2.2.2.2) ++ gmW G ta (zFtH g1 d1 P t1 S v1.2.2.2.2) (zFtB g1 d1 P t1 S v1.2.2.2.2)) ++ ([(o9, .inr (6, [u0, .ref a.1, .ref ta.1, .ref r9, u4, u5, u6, u7]))] ++ (gmW G a h b))) ([(o9, .inr (6, [u0, .ref a.1, .ref ta.1, .ref r9, u4, u5, u6, u7]))] ++ ((ruW G r9 sa (zCs g1 d1 S P v1.2.2.2.2)) ++ ((gmW G a h b) ++ (gmW G ta (zFtH g1 d1 P t1 S v1.2.2.2.2) (zFtB g1 d1 P t1 S v1.2.2.2.2)))) : va_W) := (pm_put (cs := [[(o9, .inr (6, [u0, .ref a.1, .ref ta.1, .ref r9, u4, u5, u6, u7]))], ruW G r9 sa (zCs g1 d1 S P v1.2.2.2.2), gmW G a h b, gmW G ta (zFtH g1 d1 P t1 S v1.2.2.2.2) (zFtB g1 d1 P t1 S v1.2.2.2.2)]) (sub := [ruW G r9 sa (zCs g1 d1 S P v1.2.2.2.2), gmW G ta (zFtH g1 d1 P t1 S v1.2.2.2.2) (zFtB g1 d1 P t1 S v1.2.2.2.2)]) (rest := [[(o9, .inr (6, [u0, .ref a.1, .ref ta.1, .ref r9, u4, u5, u6, u7]))], gmW G a h b]) 4 [1, 3] [0, 2] rfl rfl rfl (by decide))
        refine z_callV (As := [.ref ta.1]) (rest := []) (wc := ruW G r9 sa v1 ++ gmW G ta g1 d1) (wr := [(o9, .inr (6, [u0, .ref a.1, .ref ta.1, .ref r9, u4, u5, u6, u7]))] ++ (gmW G a h b)) (w1 := ruW G r9 sa (zCs g1 d1 S P v1.2.2.2.2) ++ gmW G ta (zFtH g1 d1 P t1 S v1.2.2.2.2) (zFtB g1 d1 P t1 S v1.2.2.2.2)) (ws' := [(o9, .inr (6, [u0, .ref a.1, .ref ta.1, .ref r9, u4, u5, u6, u7]))] ++ ((ruW G r9 sa (zCs g1 d1 S P v1.2.2.2.2)) ++ ((gmW G a h b) ++ (gmW G ta (zFtH g1 d1 P t1 S v1.2.2.2.2) (zFtB g1 d1 P t1 S v1.2.2.2.2))))) ⟨hx, hb, hml, hown, hts⟩ (c_finish1 l G r9 sa v1 ta g1 d1 P t1 S hG1.1.1 hru (hG1.1.2.2 t1 (hG1.1.2.1 (zRu_P hG1.1.1.1 hG1.1.1.2.1 hru)).1).2.1) (cwV 1 hts gX6_goesOn_X4_finishTurn rfl rfl rfl (by decide +kernel) ⟨Nat.le_of_ble_eq_true rfl, Nat.le_of_ble_eq_true rfl⟩) 4 rfl rfl rfl rfl hl.1 rfl (Nat.le_of_ble_eq_true rfl) dX6_goesOn_69 ⟨Nat.le_of_ble_eq_true rfl, Nat.le_of_ble_eq_true rfl⟩ hK hE hA hM hp9 hq9 (fun H locs hM hz => ?_)
        refine lv_pop hx hb dX6_goesOn_72 rfl ?_
        refine lv_iinc (v := nI (i + 1)) (lv' := [(2, .int (nI (i + 1))), (0, .ref o9), (1, .int 0)]) hx hb dX6_goesOn_73 hl (k := 2) rfl (nI_1 i) (by decide) rfl (fun ls hl => ?_)
        refine lv_goto (tgt := 44) hx hb dX6_goesOn_76 (by decide) ?_
        have hR2 : (zRunV K ((h, b), u)) = zRunV (m1 - 1) ((zFtH g1 d1 P t1 S v1.2.2.2.2, zFtB g1 d1 P t1 S v1.2.2.2.2), zCs g1 d1 S P v1.2.2.2.2) := by rw [← zPv1_e hG1.1 v1, ← zRunV_on (k := m1 - 1) (t := ((g1, d1), v1)) hru, ← hm2]; exact hR
        exact ih (i + 1) (zCs g1 d1 S P v1.2.2.2.2) (zFtH g1 d1 P t1 S v1.2.2.2.2) (zFtB g1 d1 P t1 S v1.2.2.2.2) t2 (e1 + 1) (m1 - 1) (by omega) (by omega) hG2 (by omega) hR2 _ _ hM _ (lv_sub hl [1, 2, 0] rfl)
  exact lp44 200 0 u h b t e0 K rfl rfl hG hK9 rfl _ _ hM _ (lv_sub hl [1, 2, 0] rfl)

set_option maxHeartbeats 4000000 in
set_option maxRecDepth 100000 in
theorem c_x_goes0_1 (l : Launch) (G : zC) (o9 : Nat) (u0 u4 u5 u6 u7 : Value) (r9 : Nat) (sa : zBA) (u : zRU) (a : zGA) (h : Nat → Int32) (b : Nat → Nat → Int32) (ta : zGA) (th : Nat → Int32) (tb : Nat → Nat → Int32) (P t S e0 : Nat) (hG : zGs h b P t S e0) (K : Nat) (hK9 : e0 + K = 200) (hP0 : 0 < P) : zMet l G yX6_goesOn wsX6_goesOn rmX6_goesOn [.ref o9, .int 1] ([(o9, .inr (6, [u0, .ref a.1, .ref ta.1, .ref r9, u4, u5, u6, u7]))] ++ ((ruW G r9 sa u) ++ ((gmW G a h b) ++ (gmW G ta th tb)))) (some (.int ((zRunV K ((h, b), u)).1.1 3))) ([(o9, .inr (6, [u0, .ref a.1, .ref ta.1, .ref r9, u4, u5, u6, u7]))] ++ ((ruW G r9 sa ((zRunV K ((h, b), u)).2)) ++ ((gmW G a h b) ++ (gmW G ta ((zRunV K ((h, b), u)).1.1) ((zRunV K ((h, b), u)).1.2))))) := by
  refine zMet_of (cc := cX6_goesOn) (maxL := 3) (ret := (some .int)) (by decide) rfl (Nat.le_of_ble_eq_true rfl) ?_
  intro p e s m below meth c A ls hx hb hr hml hown hts hK hA hE hlocks hin hM hl
  have hown : s.vm.findClass RX6 = some m.cls := hown
  have hM : zM G A s s.heap [] ([(o9, .inr (6, [u0, .ref a.1, .ref ta.1, .ref r9, u4, u5, u6, u7]))] ++ ((ruW G r9 sa u) ++ ((gmW G a h b) ++ (gmW G ta th tb)))) := hM
  have hl : lv_has ls 3 [(0, .ref o9), (1, .int 1)] := hl
  have h0n : ¬ h 0 = 0 := by rw [hG.1.1.1]; exact nI_nz hP0 (by have := hG.1.1.2.1; omega)
  refine lv_iload_n hx hb dX6_goesOn_0 rfl (lv_at hl 1 rfl) ?_
  refine lv_if_lt (tgt := 9) hx hb dX6_goesOn_1 (by decide) (fun c_1 => absurd c_1 (by decide)) (fun c_1 => ?_)
  refine lv_iload_n hx hb dX6_goesOn_4 rfl (lv_at hl 1 rfl) ?_
  refine lv_iconst (v := 2) hx hb dX6_goesOn_5 (by decide) ?_
  refine lv_icmp_le (tgt := 19) hx hb dX6_goesOn_6 (by decide) (fun c_2 => ?_) (fun c_2 => absurd (by decide) c_2)
  refine lv_aload_n hx hb dX6_goesOn_19 rfl (lv_at hl 0 rfl) ?_
  refine z_get (ci := 6) (v := .ref a.1) (C := RX6) (T := TX6) (N := 8) hx hb hts (by decide +kernel) hown hK hM 0 rfl rfl 1 (by decide) (hts (.fieldLink RX6 19 "ShiftIsles" "state" "LShiftIsles$Game;") (by decide +kernel)) (fun _ h9 => h9) rfl dX6_goesOn_20 ?_
  have hp9 : List.Perm ([(o9, .inr (6, [u0, .ref a.1, .ref ta.1, .ref r9, u4, u5, u6, u7]))] ++ ((ruW G r9 sa u) ++ ((gmW G a h b) ++ (gmW G ta th tb))) : va_W) ((gmW G a h b) ++ ([(o9, .inr (6, [u0, .ref a.1, .ref ta.1, .ref r9, u4, u5, u6, u7]))] ++ ((ruW G r9 sa u) ++ (gmW G ta th tb)))) := (pm_cut (cs := [[(o9, .inr (6, [u0, .ref a.1, .ref ta.1, .ref r9, u4, u5, u6, u7]))], ruW G r9 sa u, gmW G a h b, gmW G ta th tb]) (sub := [gmW G a h b]) (rest := [[(o9, .inr (6, [u0, .ref a.1, .ref ta.1, .ref r9, u4, u5, u6, u7]))], ruW G r9 sa u, gmW G ta th tb]) 4 [2] [0, 1, 3] rfl rfl rfl (by decide))
  have hq9 : List.Perm ((gmW G a h b) ++ ([(o9, .inr (6, [u0, .ref a.1, .ref ta.1, .ref r9, u4, u5, u6, u7]))] ++ ((ruW G r9 sa u) ++ (gmW G ta th tb)))) ([(o9, .inr (6, [u0, .ref a.1, .ref ta.1, .ref r9, u4, u5, u6, u7]))] ++ ((ruW G r9 sa u) ++ ((gmW G a h b) ++ (gmW G ta th tb))) : va_W) := (pm_put (cs := [[(o9, .inr (6, [u0, .ref a.1, .ref ta.1, .ref r9, u4, u5, u6, u7]))], ruW G r9 sa u, gmW G a h b, gmW G ta th tb]) (sub := [gmW G a h b]) (rest := [[(o9, .inr (6, [u0, .ref a.1, .ref ta.1, .ref r9, u4, u5, u6, u7]))], ruW G r9 sa u, gmW G ta th tb]) 4 [2] [0, 1, 3] rfl rfl rfl (by decide))
  refine z_callV (As := []) (rest := []) (wc := gmW G a h b) (wr := [(o9, .inr (6, [u0, .ref a.1, .ref ta.1, .ref r9, u4, u5, u6, u7]))] ++ ((ruW G r9 sa u) ++ (gmW G ta th tb))) (w1 := gmW G a h b) (ws' := [(o9, .inr (6, [u0, .ref a.1, .ref ta.1, .ref r9, u4, u5, u6, u7]))] ++ ((ruW G r9 sa u) ++ ((gmW G a h b) ++ (gmW G ta th tb)))) ⟨hx, hb, hml, hown, hts⟩ (c_g_players l G a h b  ) (cwV 0 hts gX6_goesOn_X2_players rfl rfl rfl (by decide +kernel) ⟨Nat.le_of_ble_eq_true rfl, Nat.le_of_ble_eq_true rfl⟩) 2 rfl rfl rfl rfl hl.1 rfl (Nat.le_of_ble_eq_true rfl) dX6_goesOn_23 ⟨Nat.le_of_ble_eq_true rfl, Nat.le_of_ble_eq_true rfl⟩ hK hE hA hM hp9 hq9 (fun H locs hM hz => ?_)
  refine lv_if_ne (tgt := 31) hx hb dX6_goesOn_26 (by decide) (fun c_3 => ?_) (fun c_3 => absurd c_3 h0n)
  refine lv_aload_n hx hb dX6_goesOn_31 rfl (lv_at hl 0 rfl) ?_
  refine z_get (ci := 6) (v := .ref ta.1) (C := RX6) (T := TX6) (N := 8) hx hb hts (by decide +kernel) hown hK hM 0 rfl rfl 2 (by decide) (hts (.fieldLink RX6 23 "ShiftIsles" "trial" "LShiftIsles$Game;") (by decide +kernel)) (fun _ h9 => h9) rfl dX6_goesOn_32 ?_
  refine lv_aload_n hx hb dX6_goesOn_35 rfl (lv_at hl 0 rfl) ?_
  refine z_get (ci := 6) (v := .ref a.1) (C := RX6) (T := TX6) (N := 8) hx hb hts (by decide +kernel) hown hK hM 0 rfl rfl 1 (by decide) (hts (.fieldLink RX6 19 "ShiftIsles" "state" "LShiftIsles$Game;") (by decide +kernel)) (fun _ h9 => h9) rfl dX6_goesOn_36 ?_
  have hp9 : List.Perm ([(o9, .inr (6, [u0, .ref a.1, .ref ta.1, .ref r9, u4, u5, u6, u7]))] ++ ((ruW G r9 sa u) ++ ((gmW G a h b) ++ (gmW G ta th tb))) : va_W) ((gmW G ta th tb ++ gmW G a h b) ++ ([(o9, .inr (6, [u0, .ref a.1, .ref ta.1, .ref r9, u4, u5, u6, u7]))] ++ (ruW G r9 sa u))) := (pm_cut (cs := [[(o9, .inr (6, [u0, .ref a.1, .ref ta.1, .ref r9, u4, u5, u6, u7]))], ruW G r9 sa u, gmW G a h b, gmW G ta th tb]) (sub := [gmW G ta th tb, gmW G a h b]) (rest := [[(o9, .inr (6, [u0, .ref a.1, .ref ta.1, .ref r9, u4, u5, u6, u7]))], ruW G r9 sa u]) 4 [3, 2] [0, 1] rfl rfl rfl (by decide))
  have hq9 : List.Perm ((gmW G ta h b ++ gmW G a h b) ++ ([(o9, .inr (6, [u0, .ref a.1, .ref ta.1, .ref r9, u4, u5, u6, u7]))] ++ (ruW G r9 sa u))) ([(o9, .inr (6, [u0, .ref a.1, .ref ta.1, .ref r9, u4, u5, u6, u7]))] ++ ((ruW G r9 sa u) ++ ((gmW G a h b) ++ (gmW G ta h b))) : va_W) := (pm_put (cs := [[(o9, .inr (6, [u0, .ref a.1, .ref ta.1, .ref r9, u4, u5, u6, u7]))], ruW G r9 sa u, gmW G a h b, gmW G ta h b]) (sub := [gmW G ta h b, gmW G a h b]) (rest := [[(o9, .inr (6, [u0, .ref a.1, .ref ta.1, .ref r9, u4, u5, u6, u7]))], ruW G r9 sa u]) 4 [3, 2] [0, 1] rfl rfl rfl (by decide))
  refine z_callV (As := [.ref a.1]) (rest := []) (wc := gmW G ta th tb ++ gmW G a h b) (wr := [(o9, .inr (6, [u0, .ref a.1, .ref ta.1, .ref r9, u4, u5, u6, u7]))] ++ (ruW G r9 sa u)) (w1 := gmW G ta h b ++ gmW G a h b) (ws' := [(o9, .inr (6, [u0, .ref a.1, .ref ta.1, .ref r9, u4, u5, u6, u7]))] ++ ((ruW G r9 sa u) ++ ((gmW G a h b) ++ (gmW G ta h b)))) ⟨hx, hb, hml, hown, hts⟩ (c_gmCopy l G ta a th h tb b hG.1.1.2.2.2.2.2.2.1 hG.1.1.2.2.2.2.2.2.2) (cwV 1 hts gX6_goesOn_X2_copyFrom rfl rfl rfl (by decide +kernel) ⟨Nat.le_of_ble_eq_true rfl, Nat.le_of_ble_eq_true rfl⟩) 2 rfl rfl rfl rfl hl.1 rfl (Nat.le_of_ble_eq_true rfl) dX6_goesOn_39 ⟨Nat.le_of_ble_eq_true rfl, Nat.le_of_ble_eq_true rfl⟩ hK hE hA hM hp9 hq9 (fun H locs hM hz => ?_)
  refine lv_iconst (v := nI 0) hx hb dX6_goesOn_42 (by decide) ?_
  refine lv_istore_n (lv' := [(2, .int (nI 0)), (0, .ref o9), (1, .int 1)]) hx hb dX6_goesOn_43 rfl hl (by decide) rfl (fun ls hl => ?_)
  have lp44 : ∀ (k : Nat) (i : Nat) (v1 : zRU) (g1 : Nat → Int32) (d1 : Nat → Nat → Int32) (t1 e1 m1 : Nat), (i + k = 200) → (e1 = e0 + i) → (zGs g1 d1 P t1 S e1) → (e1 + m1 = 200) → ((zRunV K ((h, b), u)) = zRunV m1 ((g1, d1), v1)) → ∀ (H : Heap) (locs : List Loc), zM G A s H locs ([(o9, .inr (6, [u0, .ref a.1, .ref ta.1, .ref r9, u4, u5, u6, u7]))] ++ ((ruW G r9 sa v1) ++ ((gmW G a h b) ++ (gmW G ta g1 d1)))) → ∀ ls : Array Slot, lv_has ls 3 [(0, .ref o9), (1, .int 1), (2, .int (nI i))] → W p l e rmX6_goesOn s m ([.ref o9, .int 1] : List Value).toArray below meth c H locs 0 0 (zEnd G below ([.ref o9, .int 1] : List Value).toArray s rmX6_goesOn A (some (.int ((zRunV K ((h, b), u)).1.1 3))) ([(o9, .inr (6, [u0, .ref a.1, .ref ta.1, .ref r9, u4, u5, u6, u7]))] ++ ((ruW G r9 sa ((zRunV K ((h, b), u)).2)) ++ ((gmW G a h b) ++ (gmW G ta ((zRunV K ((h, b), u)).1.1) ((zRunV K ((h, b), u)).1.2)))))) (F0 m 44 ls []) := by
    intro k
    induction k with
    | zero =>
      intro i v1 g1 d1 t1 e1 m1 hik hei hG1 hm1 hR H locs hM ls hl
      refine lv_iload_n hx hb dX6_goesOn_44 rfl (lv_at hl 2 rfl) ?_
      refine lv_sipush (v := nI 200) hx hb dX6_goesOn_45 (by decide) ?_
      refine lv_icmp_ge (tgt := 79) hx hb dX6_goesOn_48 (by decide) (fun c_4 => ?_) (fun c_4 => absurd (nI_le (by omega) (by omega)) c_4)
      have hm0 : m1 = 0 := by have := hG1.2.2.2.2.2.1; omega
      have hZ : (zRunV K ((h, b), u)) = ((g1, d1), v1) := by rw [hR, hm0]; rfl
      refine lv_iload_n hx hb dX6_goesOn_79 rfl (lv_at hl 1 rfl) ?_
      refine lv_lookup (off := 36) (tgt := 116) hx hb dX6_goesOn_80 (by decide) rfl (by decide) ?_
      refine lv_aload_n hx hb dX6_goesOn_116 rfl (lv_at hl 0 rfl) ?_
      refine z_get (ci := 6) (v := .ref ta.1) (C := RX6) (T := TX6) (N := 8) hx hb hts (by decide +kernel) hown hK hM 0 rfl rfl 2 (by decide) (hts (.fieldLink RX6 23 "ShiftIsles" "trial" "LShiftIsles$Game;") (by decide +kernel)) (fun _ h9 => h9) rfl dX6_goesOn_117 ?_
      have hp9 : List.Perm ([(o9, .inr (6, [u0, .ref a.1, .ref ta.1, .ref r9, u4, u5, u6, u7]))] ++ ((ruW G r9 sa v1) ++ ((gmW G a h b) ++ (gmW G ta g1 d1))) : va_W) ((gmW G ta g1 d1) ++ ([(o9, .inr (6, [u0, .ref a.1, .ref ta.1, .ref r9, u4, u5, u6, u7]))] ++ ((ruW G r9 sa v1) ++ (gmW G a h b)))) := (pm_cut (cs := [[(o9, .inr (6, [u0, .ref a.1, .ref ta.1, .ref r9, u4, u5, u6, u7]))], ruW G r9 sa v1, gmW G a h b, gmW G ta g1 d1]) (sub := [gmW G ta g1 d1]) (rest := [[(o9, .inr (6, [u0, .ref a.1, .ref ta.1, .ref r9, u4, u5, u6, u7]))], ruW G r9 sa v1, gmW G a h b]) 4 [3] [0, 1, 2] rfl rfl rfl (by decide))
      have hq9 : List.Perm ((gmW G ta g1 d1) ++ ([(o9, .inr (6, [u0, .ref a.1, .ref ta.1, .ref r9, u4, u5, u6, u7]))] ++ ((ruW G r9 sa v1) ++ (gmW G a h b)))) ([(o9, .inr (6, [u0, .ref a.1, .ref ta.1, .ref r9, u4, u5, u6, u7]))] ++ ((ruW G r9 sa v1) ++ ((gmW G a h b) ++ (gmW G ta g1 d1))) : va_W) := (pm_put (cs := [[(o9, .inr (6, [u0, .ref a.1, .ref ta.1, .ref r9, u4, u5, u6, u7]))], ruW G r9 sa v1, gmW G a h b, gmW G ta g1 d1]) (sub := [gmW G ta g1 d1]) (rest := [[(o9, .inr (6, [u0, .ref a.1, .ref ta.1, .ref r9, u4, u5, u6, u7]))], ruW G r9 sa v1, gmW G a h b]) 4 [3] [0, 1, 2] rfl rfl rfl (by decide))
      refine z_callV (As := []) (rest := []) (wc := gmW G ta g1 d1) (wr := [(o9, .inr (6, [u0, .ref a.1, .ref ta.1, .ref r9, u4, u5, u6, u7]))] ++ ((ruW G r9 sa v1) ++ (gmW G a h b))) (w1 := gmW G ta g1 d1) (ws' := [(o9, .inr (6, [u0, .ref a.1, .ref ta.1, .ref r9, u4, u5, u6, u7]))] ++ ((ruW G r9 sa v1) ++ ((gmW G a h b) ++ (gmW G ta g1 d1)))) ⟨hx, hb, hml, hown, hts⟩ (c_g_ended l G ta g1 d1  ) (cwV 0 hts gX6_goesOn_X2_ended rfl rfl rfl (by decide +kernel) ⟨Nat.le_of_ble_eq_true rfl, Nat.le_of_ble_eq_true rfl⟩) 2 rfl rfl rfl rfl hl.1 rfl (Nat.le_of_ble_eq_true rfl) dX6_goesOn_120 ⟨Nat.le_of_ble_eq_true rfl, Nat.le_of_ble_eq_true rfl⟩ hK hE hA hM hp9 hq9 (fun H locs hM hz => ?_)
      exact z_iret hx hb hr hlocks dX6_goesOn_123 (by rw [hZ]; exact hM) (Nat.le_of_ble_eq_true rfl) (Nat.le_of_ble_eq_true rfl) (by rw [hZ])
    | succ k ih =>
      intro i v1 g1 d1 t1 e1 m1 hik hei hG1 hm1 hR H locs hM ls hl
      refine lv_iload_n hx hb dX6_goesOn_44 rfl (lv_at hl 2 rfl) ?_
      refine lv_sipush (v := nI 200) hx hb dX6_goesOn_45 (by decide) ?_
      refine lv_icmp_ge (tgt := 79) hx hb dX6_goesOn_48 (by decide) (fun c_5 => absurd c_5 (nI_ge (by omega) (by omega))) (fun c_5 => ?_)
      refine lv_aload_n hx hb dX6_goesOn_51 rfl (lv_at hl 0 rfl) ?_
      refine z_get (ci := 6) (v := .ref ta.1) (C := RX6) (T := TX6) (N := 8) hx hb hts (by decide +kernel) hown hK hM 0 rfl rfl 2 (by decide) (hts (.fieldLink RX6 23 "ShiftIsles" "trial" "LShiftIsles$Game;") (by decide +kernel)) (fun _ h9 => h9) rfl dX6_goesOn_52 ?_
      have hp9 : List.Perm ([(o9, .inr (6, [u0, .ref a.1, .ref ta.1, .ref r9, u4, u5, u6, u7]))] ++ ((ruW G r9 sa v1) ++ ((gmW G a h b) ++ (gmW G ta g1 d1))) : va_W) ((gmW G ta g1 d1) ++ ([(o9, .inr (6, [u0, .ref a.1, .ref ta.1, .ref r9, u4, u5, u6, u7]))] ++ ((ruW G r9 sa v1) ++ (gmW G a h b)))) := (pm_cut (cs := [[(o9, .inr (6, [u0, .ref a.1, .ref ta.1, .ref r9, u4, u5, u6, u7]))], ruW G r9 sa v1, gmW G a h b, gmW G ta g1 d1]) (sub := [gmW G ta g1 d1]) (rest := [[(o9, .inr (6, [u0, .ref a.1, .ref ta.1, .ref r9, u4, u5, u6, u7]))], ruW G r9 sa v1, gmW G a h b]) 4 [3] [0, 1, 2] rfl rfl rfl (by decide))
      have hq9 : List.Perm ((gmW G ta g1 d1) ++ ([(o9, .inr (6, [u0, .ref a.1, .ref ta.1, .ref r9, u4, u5, u6, u7]))] ++ ((ruW G r9 sa v1) ++ (gmW G a h b)))) ([(o9, .inr (6, [u0, .ref a.1, .ref ta.1, .ref r9, u4, u5, u6, u7]))] ++ ((ruW G r9 sa v1) ++ ((gmW G a h b) ++ (gmW G ta g1 d1))) : va_W) := (pm_put (cs := [[(o9, .inr (6, [u0, .ref a.1, .ref ta.1, .ref r9, u4, u5, u6, u7]))], ruW G r9 sa v1, gmW G a h b, gmW G ta g1 d1]) (sub := [gmW G ta g1 d1]) (rest := [[(o9, .inr (6, [u0, .ref a.1, .ref ta.1, .ref r9, u4, u5, u6, u7]))], ruW G r9 sa v1, gmW G a h b]) 4 [3] [0, 1, 2] rfl rfl rfl (by decide))
      refine z_callV (As := []) (rest := []) (wc := gmW G ta g1 d1) (wr := [(o9, .inr (6, [u0, .ref a.1, .ref ta.1, .ref r9, u4, u5, u6, u7]))] ++ ((ruW G r9 sa v1) ++ (gmW G a h b))) (w1 := gmW G ta g1 d1) (ws' := [(o9, .inr (6, [u0, .ref a.1, .ref ta.1, .ref r9, u4, u5, u6, u7]))] ++ ((ruW G r9 sa v1) ++ ((gmW G a h b) ++ (gmW G ta g1 d1)))) ⟨hx, hb, hml, hown, hts⟩ (c_isRunning l G ta g1 d1  ) (cwV 0 hts gX6_goesOn_X2_isRunning rfl rfl rfl (by decide +kernel) ⟨Nat.le_of_ble_eq_true rfl, Nat.le_of_ble_eq_true rfl⟩) 2 rfl rfl rfl rfl hl.1 rfl (Nat.le_of_ble_eq_true rfl) dX6_goesOn_55 ⟨Nat.le_of_ble_eq_true rfl, Nat.le_of_ble_eq_true rfl⟩ hK hE hA hM hp9 hq9 (fun H locs hM hz => ?_)
      refine z_ifeq (tgt := 79) hx hb dX6_goesOn_58 (by decide) (fun hru => ?_) (fun hru => ?_)
      · skip
        have hZ : (zRunV K ((h, b), u)) = ((g1, d1), v1) := hR.trans (zRunV_off (fun q => Bool.noConfusion (hru.symm.trans q)))
        refine lv_iload_n hx hb dX6_goesOn_79 rfl (lv_at hl 1 rfl) ?_
        refine lv_lookup (off := 36) (tgt := 116) hx hb dX6_goesOn_80 (by decide) rfl (by decide) ?_
        refine lv_aload_n hx hb dX6_goesOn_116 rfl (lv_at hl 0 rfl) ?_
        refine z_get (ci := 6) (v := .ref ta.1) (C := RX6) (T := TX6) (N := 8) hx hb hts (by decide +kernel) hown hK hM 0 rfl rfl 2 (by decide) (hts (.fieldLink RX6 23 "ShiftIsles" "trial" "LShiftIsles$Game;") (by decide +kernel)) (fun _ h9 => h9) rfl dX6_goesOn_117 ?_
        have hp9 : List.Perm ([(o9, .inr (6, [u0, .ref a.1, .ref ta.1, .ref r9, u4, u5, u6, u7]))] ++ ((ruW G r9 sa v1) ++ ((gmW G a h b) ++ (gmW G ta g1 d1))) : va_W) ((gmW G ta g1 d1) ++ ([(o9, .inr (6, [u0, .ref a.1, .ref ta.1, .ref r9, u4, u5, u6, u7]))] ++ ((ruW G r9 sa v1) ++ (gmW G a h b)))) := (pm_cut (cs := [[(o9, .inr (6, [u0, .ref a.1, .ref ta.1, .ref r9, u4, u5, u6, u7]))], ruW G r9 sa v1, gmW G a h b, gmW G ta g1 d1]) (sub := [gmW G ta g1 d1]) (rest := [[(o9, .inr (6, [u0, .ref a.1, .ref ta.1, .ref r9, u4, u5, u6, u7]))], ruW G r9 sa v1, gmW G a h b]) 4 [3] [0, 1, 2] rfl rfl rfl (by decide))
        have hq9 : List.Perm ((gmW G ta g1 d1) ++ ([(o9, .inr (6, [u0, .ref a.1, .ref ta.1, .ref r9, u4, u5, u6, u7]))] ++ ((ruW G r9 sa v1) ++ (gmW G a h b)))) ([(o9, .inr (6, [u0, .ref a.1, .ref ta.1, .ref r9, u4, u5, u6, u7]))] ++ ((ruW G r9 sa v1) ++ ((gmW G a h b) ++ (gmW G ta g1 d1))) : va_W) := (pm_put (cs := [[(o9, .inr (6, [u0, .ref a.1, .ref ta.1, .ref r9, u4, u5, u6, u7]))], ruW G r9 sa v1, gmW G a h b, gmW G ta g1 d1]) (sub := [gmW G ta g1 d1]) (rest := [[(o9, .inr (6, [u0, .ref a.1, .ref ta.1, .ref r9, u4, u5, u6, u7]))], ruW G r9 sa v1, gmW G a h b]) 4 [3] [0, 1, 2] rfl rfl rfl (by decide))
        refine z_callV (As := []) (rest := []) (wc := gmW G ta g1 d1) (wr := [(o9, .inr (6, [u0, .ref a.1, .ref ta.1, .ref r9, u4, u5, u6, u7]))] ++ ((ruW G r9 sa v1) ++ (gmW G a h b))) (w1 := gmW G ta g1 d1) (ws' := [(o9, .inr (6, [u0, .ref a.1, .ref ta.1, .ref r9, u4, u5, u6, u7]))] ++ ((ruW G r9 sa v1) ++ ((gmW G a h b) ++ (gmW G ta g1 d1)))) ⟨hx, hb, hml, hown, hts⟩ (c_g_ended l G ta g1 d1  ) (cwV 0 hts gX6_goesOn_X2_ended rfl rfl rfl (by decide +kernel) ⟨Nat.le_of_ble_eq_true rfl, Nat.le_of_ble_eq_true rfl⟩) 2 rfl rfl rfl rfl hl.1 rfl (Nat.le_of_ble_eq_true rfl) dX6_goesOn_120 ⟨Nat.le_of_ble_eq_true rfl, Nat.le_of_ble_eq_true rfl⟩ hK hE hA hM hp9 hq9 (fun H locs hM hz => ?_)
        exact z_iret hx hb hr hlocks dX6_goesOn_123 (by rw [hZ]; exact hM) (Nat.le_of_ble_eq_true rfl) (Nat.le_of_ble_eq_true rfl) (by rw [hZ])
      · skip
        have hlt := (hG1.2.2.2.2.2.2 (zRu_4 hru)).1
        have hm2 : m1 = (m1 - 1) + 1 := by omega
        obtain ⟨t2, hG2⟩ := zGs_ft v1.2.2.2.2 hG1 hru
        refine lv_aload_n hx hb dX6_goesOn_61 rfl (lv_at hl 0 rfl) ?_
        refine z_get (ci := 6) (v := .ref r9) (C := RX6) (T := TX6) (N := 8) hx hb hts (by decide +kernel) hown hK hM 0 rfl rfl 3 (by decide) (hts (.fieldLink RX6 29 "ShiftIsles" "rule" "LShiftIsles$Rule;") (by decide +kernel)) (fun _ h9 => h9) rfl dX6_goesOn_62 ?_
        refine lv_aload_n hx hb dX6_goesOn_65 rfl (lv_at hl 0 rfl) ?_
        refine z_get (ci := 6) (v := .ref ta.1) (C := RX6) (T := TX6) (N := 8) hx hb hts (by decide +kernel) hown hK hM 0 rfl rfl 2 (by decide) (hts (.fieldLink RX6 23 "ShiftIsles" "trial" "LShiftIsles$Game;") (by decide +kernel)) (fun _ h9 => h9) rfl dX6_goesOn_66 ?_
        have hp9 : List.Perm ([(o9, .inr (6, [u0, .ref a.1, .ref ta.1, .ref r9, u4, u5, u6, u7]))] ++ ((ruW G r9 sa v1) ++ ((gmW G a h b) ++ (gmW G ta g1 d1))) : va_W) ((ruW G r9 sa v1 ++ gmW G ta g1 d1) ++ ([(o9, .inr (6, [u0, .ref a.1, .ref ta.1, .ref r9, u4, u5, u6, u7]))] ++ (gmW G a h b))) := (pm_cut (cs := [[(o9, .inr (6, [u0, .ref a.1, .ref ta.1, .ref r9, u4, u5, u6, u7]))], ruW G r9 sa v1, gmW G a h b, gmW G ta g1 d1]) (sub := [ruW G r9 sa v1, gmW G ta g1 d1]) (rest := [[(o9, .inr (6, [u0, .ref a.1, .ref ta.1, .ref r9, u4, u5, u6, u7]))], gmW G a h b]) 4 [1, 3] [0, 2] rfl rfl rfl (by decide))
        have hq9 : List.Perm ((ruW G r9 sa (zCs g1 d1 S P v1.2.2.2.2) ++ gmW G ta (zFtH g1 d1 P t1 S v1.2.2.2.2) (zFtB g1 d1 P t1 S v1.2.2.2.2)) ++ ([(o9, .inr (6, [u0, .ref a.1, .ref ta.1, .ref r9, u4, u5, u6, u7]))] ++ (gmW G a h b))) ([(o9, .inr (6, [u0, .ref a.1, .ref ta.1, .ref r9, u4, u5, u6, u7]))] ++ ((ruW G r9 sa (zCs g1 d1 S P v1.2.2.2.2)) ++ ((gmW G a h b) ++ (gmW G ta (zFtH g1 d1 P t1 S v1.2.2.2.2) (zFtB g1 d1 P t1 S v1.2.2.2.2)))) : va_W) := (pm_put (cs := [[(o9, .inr (6, [u0, .ref a.1, .ref ta.1, .ref r9, u4, u5, u6, u7]))], ruW G r9 sa (zCs g1 d1 S P v1.2.2.2.2), gmW G a h b, gmW G ta (zFtH g1 d1 P t1 S v1.2.2.2.2) (zFtB g1 d1 P t1 S v1.2.2.2.2)]) (sub := [ruW G r9 sa (zCs g1 d1 S P v1.2.2.2.2), gmW G ta (zFtH g1 d1 P t1 S v1.2.2.2.2) (zFtB g1 d1 P t1 S v1.2.2.2.2)]) (rest := [[(o9, .inr (6, [u0, .ref a.1, .ref ta.1, .ref r9, u4, u5, u6, u7]))], gmW G a h b]) 4 [1, 3] [0, 2] rfl rfl rfl (by decide))
        refine z_callV (As := [.ref ta.1]) (rest := []) (wc := ruW G r9 sa v1 ++ gmW G ta g1 d1) (wr := [(o9, .inr (6, [u0, .ref a.1, .ref ta.1, .ref r9, u4, u5, u6, u7]))] ++ (gmW G a h b)) (w1 := ruW G r9 sa (zCs g1 d1 S P v1.2.2.2.2) ++ gmW G ta (zFtH g1 d1 P t1 S v1.2.2.2.2) (zFtB g1 d1 P t1 S v1.2.2.2.2)) (ws' := [(o9, .inr (6, [u0, .ref a.1, .ref ta.1, .ref r9, u4, u5, u6, u7]))] ++ ((ruW G r9 sa (zCs g1 d1 S P v1.2.2.2.2)) ++ ((gmW G a h b) ++ (gmW G ta (zFtH g1 d1 P t1 S v1.2.2.2.2) (zFtB g1 d1 P t1 S v1.2.2.2.2))))) ⟨hx, hb, hml, hown, hts⟩ (c_finish1 l G r9 sa v1 ta g1 d1 P t1 S hG1.1.1 hru (hG1.1.2.2 t1 (hG1.1.2.1 (zRu_P hG1.1.1.1 hG1.1.1.2.1 hru)).1).2.1) (cwV 1 hts gX6_goesOn_X4_finishTurn rfl rfl rfl (by decide +kernel) ⟨Nat.le_of_ble_eq_true rfl, Nat.le_of_ble_eq_true rfl⟩) 4 rfl rfl rfl rfl hl.1 rfl (Nat.le_of_ble_eq_true rfl) dX6_goesOn_69 ⟨Nat.le_of_ble_eq_true rfl, Nat.le_of_ble_eq_true rfl⟩ hK hE hA hM hp9 hq9 (fun H locs hM hz => ?_)
        refine lv_pop hx hb dX6_goesOn_72 rfl ?_
        refine lv_iinc (v := nI (i + 1)) (lv' := [(2, .int (nI (i + 1))), (0, .ref o9), (1, .int 1)]) hx hb dX6_goesOn_73 hl (k := 2) rfl (nI_1 i) (by decide) rfl (fun ls hl => ?_)
        refine lv_goto (tgt := 44) hx hb dX6_goesOn_76 (by decide) ?_
        have hR2 : (zRunV K ((h, b), u)) = zRunV (m1 - 1) ((zFtH g1 d1 P t1 S v1.2.2.2.2, zFtB g1 d1 P t1 S v1.2.2.2.2), zCs g1 d1 S P v1.2.2.2.2) := by rw [← zPv1_e hG1.1 v1, ← zRunV_on (k := m1 - 1) (t := ((g1, d1), v1)) hru, ← hm2]; exact hR
        exact ih (i + 1) (zCs g1 d1 S P v1.2.2.2.2) (zFtH g1 d1 P t1 S v1.2.2.2.2) (zFtB g1 d1 P t1 S v1.2.2.2.2) t2 (e1 + 1) (m1 - 1) (by omega) (by omega) hG2 (by omega) hR2 _ _ hM _ (lv_sub hl [1, 2, 0] rfl)
  exact lp44 200 0 u h b t e0 K rfl rfl hG hK9 rfl _ _ hM _ (lv_sub hl [1, 2, 0] rfl)

set_option maxHeartbeats 4000000 in
set_option maxRecDepth 100000 in
theorem c_x_goes0_2 (l : Launch) (G : zC) (o9 : Nat) (u0 u4 u5 u6 u7 : Value) (r9 : Nat) (sa : zBA) (u : zRU) (a : zGA) (h : Nat → Int32) (b : Nat → Nat → Int32) (ta : zGA) (th : Nat → Int32) (tb : Nat → Nat → Int32) (P t S e0 : Nat) (hG : zGs h b P t S e0) (K : Nat) (hK9 : e0 + K = 200) (hP0 : 0 < P) : zMet l G yX6_goesOn wsX6_goesOn rmX6_goesOn [.ref o9, .int 2] ([(o9, .inr (6, [u0, .ref a.1, .ref ta.1, .ref r9, u4, u5, u6, u7]))] ++ ((ruW G r9 sa u) ++ ((gmW G a h b) ++ (gmW G ta th tb)))) (some (.int (zTk (zRunV K ((h, b), u)).1.2 P 0 0))) ([(o9, .inr (6, [u0, .ref a.1, .ref ta.1, .ref r9, u4, u5, u6, u7]))] ++ ((ruW G r9 sa ((zRunV K ((h, b), u)).2)) ++ ((gmW G a h b) ++ (gmW G ta ((zRunV K ((h, b), u)).1.1) ((zRunV K ((h, b), u)).1.2))))) := by
  refine zMet_of (cc := cX6_goesOn) (maxL := 3) (ret := (some .int)) (by decide) rfl (Nat.le_of_ble_eq_true rfl) ?_
  intro p e s m below meth c A ls hx hb hr hml hown hts hK hA hE hlocks hin hM hl
  have hown : s.vm.findClass RX6 = some m.cls := hown
  have hM : zM G A s s.heap [] ([(o9, .inr (6, [u0, .ref a.1, .ref ta.1, .ref r9, u4, u5, u6, u7]))] ++ ((ruW G r9 sa u) ++ ((gmW G a h b) ++ (gmW G ta th tb)))) := hM
  have hl : lv_has ls 3 [(0, .ref o9), (1, .int 2)] := hl
  have h0n : ¬ h 0 = 0 := by rw [hG.1.1.1]; exact nI_nz hP0 (by have := hG.1.1.2.1; omega)
  refine lv_iload_n hx hb dX6_goesOn_0 rfl (lv_at hl 1 rfl) ?_
  refine lv_if_lt (tgt := 9) hx hb dX6_goesOn_1 (by decide) (fun c_1 => absurd c_1 (by decide)) (fun c_1 => ?_)
  refine lv_iload_n hx hb dX6_goesOn_4 rfl (lv_at hl 1 rfl) ?_
  refine lv_iconst (v := 2) hx hb dX6_goesOn_5 (by decide) ?_
  refine lv_icmp_le (tgt := 19) hx hb dX6_goesOn_6 (by decide) (fun c_2 => ?_) (fun c_2 => absurd (by decide) c_2)
  refine lv_aload_n hx hb dX6_goesOn_19 rfl (lv_at hl 0 rfl) ?_
  refine z_get (ci := 6) (v := .ref a.1) (C := RX6) (T := TX6) (N := 8) hx hb hts (by decide +kernel) hown hK hM 0 rfl rfl 1 (by decide) (hts (.fieldLink RX6 19 "ShiftIsles" "state" "LShiftIsles$Game;") (by decide +kernel)) (fun _ h9 => h9) rfl dX6_goesOn_20 ?_
  have hp9 : List.Perm ([(o9, .inr (6, [u0, .ref a.1, .ref ta.1, .ref r9, u4, u5, u6, u7]))] ++ ((ruW G r9 sa u) ++ ((gmW G a h b) ++ (gmW G ta th tb))) : va_W) ((gmW G a h b) ++ ([(o9, .inr (6, [u0, .ref a.1, .ref ta.1, .ref r9, u4, u5, u6, u7]))] ++ ((ruW G r9 sa u) ++ (gmW G ta th tb)))) := (pm_cut (cs := [[(o9, .inr (6, [u0, .ref a.1, .ref ta.1, .ref r9, u4, u5, u6, u7]))], ruW G r9 sa u, gmW G a h b, gmW G ta th tb]) (sub := [gmW G a h b]) (rest := [[(o9, .inr (6, [u0, .ref a.1, .ref ta.1, .ref r9, u4, u5, u6, u7]))], ruW G r9 sa u, gmW G ta th tb]) 4 [2] [0, 1, 3] rfl rfl rfl (by decide))
  have hq9 : List.Perm ((gmW G a h b) ++ ([(o9, .inr (6, [u0, .ref a.1, .ref ta.1, .ref r9, u4, u5, u6, u7]))] ++ ((ruW G r9 sa u) ++ (gmW G ta th tb)))) ([(o9, .inr (6, [u0, .ref a.1, .ref ta.1, .ref r9, u4, u5, u6, u7]))] ++ ((ruW G r9 sa u) ++ ((gmW G a h b) ++ (gmW G ta th tb))) : va_W) := (pm_put (cs := [[(o9, .inr (6, [u0, .ref a.1, .ref ta.1, .ref r9, u4, u5, u6, u7]))], ruW G r9 sa u, gmW G a h b, gmW G ta th tb]) (sub := [gmW G a h b]) (rest := [[(o9, .inr (6, [u0, .ref a.1, .ref ta.1, .ref r9, u4, u5, u6, u7]))], ruW G r9 sa u, gmW G ta th tb]) 4 [2] [0, 1, 3] rfl rfl rfl (by decide))
  refine z_callV (As := []) (rest := []) (wc := gmW G a h b) (wr := [(o9, .inr (6, [u0, .ref a.1, .ref ta.1, .ref r9, u4, u5, u6, u7]))] ++ ((ruW G r9 sa u) ++ (gmW G ta th tb))) (w1 := gmW G a h b) (ws' := [(o9, .inr (6, [u0, .ref a.1, .ref ta.1, .ref r9, u4, u5, u6, u7]))] ++ ((ruW G r9 sa u) ++ ((gmW G a h b) ++ (gmW G ta th tb)))) ⟨hx, hb, hml, hown, hts⟩ (c_g_players l G a h b  ) (cwV 0 hts gX6_goesOn_X2_players rfl rfl rfl (by decide +kernel) ⟨Nat.le_of_ble_eq_true rfl, Nat.le_of_ble_eq_true rfl⟩) 2 rfl rfl rfl rfl hl.1 rfl (Nat.le_of_ble_eq_true rfl) dX6_goesOn_23 ⟨Nat.le_of_ble_eq_true rfl, Nat.le_of_ble_eq_true rfl⟩ hK hE hA hM hp9 hq9 (fun H locs hM hz => ?_)
  refine lv_if_ne (tgt := 31) hx hb dX6_goesOn_26 (by decide) (fun c_3 => ?_) (fun c_3 => absurd c_3 h0n)
  refine lv_aload_n hx hb dX6_goesOn_31 rfl (lv_at hl 0 rfl) ?_
  refine z_get (ci := 6) (v := .ref ta.1) (C := RX6) (T := TX6) (N := 8) hx hb hts (by decide +kernel) hown hK hM 0 rfl rfl 2 (by decide) (hts (.fieldLink RX6 23 "ShiftIsles" "trial" "LShiftIsles$Game;") (by decide +kernel)) (fun _ h9 => h9) rfl dX6_goesOn_32 ?_
  refine lv_aload_n hx hb dX6_goesOn_35 rfl (lv_at hl 0 rfl) ?_
  refine z_get (ci := 6) (v := .ref a.1) (C := RX6) (T := TX6) (N := 8) hx hb hts (by decide +kernel) hown hK hM 0 rfl rfl 1 (by decide) (hts (.fieldLink RX6 19 "ShiftIsles" "state" "LShiftIsles$Game;") (by decide +kernel)) (fun _ h9 => h9) rfl dX6_goesOn_36 ?_
  have hp9 : List.Perm ([(o9, .inr (6, [u0, .ref a.1, .ref ta.1, .ref r9, u4, u5, u6, u7]))] ++ ((ruW G r9 sa u) ++ ((gmW G a h b) ++ (gmW G ta th tb))) : va_W) ((gmW G ta th tb ++ gmW G a h b) ++ ([(o9, .inr (6, [u0, .ref a.1, .ref ta.1, .ref r9, u4, u5, u6, u7]))] ++ (ruW G r9 sa u))) := (pm_cut (cs := [[(o9, .inr (6, [u0, .ref a.1, .ref ta.1, .ref r9, u4, u5, u6, u7]))], ruW G r9 sa u, gmW G a h b, gmW G ta th tb]) (sub := [gmW G ta th tb, gmW G a h b]) (rest := [[(o9, .inr (6, [u0, .ref a.1, .ref ta.1, .ref r9, u4, u5, u6, u7]))], ruW G r9 sa u]) 4 [3, 2] [0, 1] rfl rfl rfl (by decide))
  have hq9 : List.Perm ((gmW G ta h b ++ gmW G a h b) ++ ([(o9, .inr (6, [u0, .ref a.1, .ref ta.1, .ref r9, u4, u5, u6, u7]))] ++ (ruW G r9 sa u))) ([(o9, .inr (6, [u0, .ref a.1, .ref ta.1, .ref r9, u4, u5, u6, u7]))] ++ ((ruW G r9 sa u) ++ ((gmW G a h b) ++ (gmW G ta h b))) : va_W) := (pm_put (cs := [[(o9, .inr (6, [u0, .ref a.1, .ref ta.1, .ref r9, u4, u5, u6, u7]))], ruW G r9 sa u, gmW G a h b, gmW G ta h b]) (sub := [gmW G ta h b, gmW G a h b]) (rest := [[(o9, .inr (6, [u0, .ref a.1, .ref ta.1, .ref r9, u4, u5, u6, u7]))], ruW G r9 sa u]) 4 [3, 2] [0, 1] rfl rfl rfl (by decide))
  refine z_callV (As := [.ref a.1]) (rest := []) (wc := gmW G ta th tb ++ gmW G a h b) (wr := [(o9, .inr (6, [u0, .ref a.1, .ref ta.1, .ref r9, u4, u5, u6, u7]))] ++ (ruW G r9 sa u)) (w1 := gmW G ta h b ++ gmW G a h b) (ws' := [(o9, .inr (6, [u0, .ref a.1, .ref ta.1, .ref r9, u4, u5, u6, u7]))] ++ ((ruW G r9 sa u) ++ ((gmW G a h b) ++ (gmW G ta h b)))) ⟨hx, hb, hml, hown, hts⟩ (c_gmCopy l G ta a th h tb b hG.1.1.2.2.2.2.2.2.1 hG.1.1.2.2.2.2.2.2.2) (cwV 1 hts gX6_goesOn_X2_copyFrom rfl rfl rfl (by decide +kernel) ⟨Nat.le_of_ble_eq_true rfl, Nat.le_of_ble_eq_true rfl⟩) 2 rfl rfl rfl rfl hl.1 rfl (Nat.le_of_ble_eq_true rfl) dX6_goesOn_39 ⟨Nat.le_of_ble_eq_true rfl, Nat.le_of_ble_eq_true rfl⟩ hK hE hA hM hp9 hq9 (fun H locs hM hz => ?_)
  refine lv_iconst (v := nI 0) hx hb dX6_goesOn_42 (by decide) ?_
  refine lv_istore_n (lv' := [(2, .int (nI 0)), (0, .ref o9), (1, .int 2)]) hx hb dX6_goesOn_43 rfl hl (by decide) rfl (fun ls hl => ?_)
  have lp44 : ∀ (k : Nat) (i : Nat) (v1 : zRU) (g1 : Nat → Int32) (d1 : Nat → Nat → Int32) (t1 e1 m1 : Nat), (i + k = 200) → (e1 = e0 + i) → (zGs g1 d1 P t1 S e1) → (e1 + m1 = 200) → ((zRunV K ((h, b), u)) = zRunV m1 ((g1, d1), v1)) → ∀ (H : Heap) (locs : List Loc), zM G A s H locs ([(o9, .inr (6, [u0, .ref a.1, .ref ta.1, .ref r9, u4, u5, u6, u7]))] ++ ((ruW G r9 sa v1) ++ ((gmW G a h b) ++ (gmW G ta g1 d1)))) → ∀ ls : Array Slot, lv_has ls 3 [(0, .ref o9), (1, .int 2), (2, .int (nI i))] → W p l e rmX6_goesOn s m ([.ref o9, .int 2] : List Value).toArray below meth c H locs 0 0 (zEnd G below ([.ref o9, .int 2] : List Value).toArray s rmX6_goesOn A (some (.int (zTk (zRunV K ((h, b), u)).1.2 P 0 0))) ([(o9, .inr (6, [u0, .ref a.1, .ref ta.1, .ref r9, u4, u5, u6, u7]))] ++ ((ruW G r9 sa ((zRunV K ((h, b), u)).2)) ++ ((gmW G a h b) ++ (gmW G ta ((zRunV K ((h, b), u)).1.1) ((zRunV K ((h, b), u)).1.2)))))) (F0 m 44 ls []) := by
    intro k
    induction k with
    | zero =>
      intro i v1 g1 d1 t1 e1 m1 hik hei hG1 hm1 hR H locs hM ls hl
      refine lv_iload_n hx hb dX6_goesOn_44 rfl (lv_at hl 2 rfl) ?_
      refine lv_sipush (v := nI 200) hx hb dX6_goesOn_45 (by decide) ?_
      refine lv_icmp_ge (tgt := 79) hx hb dX6_goesOn_48 (by decide) (fun c_4 => ?_) (fun c_4 => absurd (nI_le (by omega) (by omega)) c_4)
      have hm0 : m1 = 0 := by have := hG1.2.2.2.2.2.1; omega
      have hZ : (zRunV K ((h, b), u)) = ((g1, d1), v1) := by rw [hR, hm0]; rfl
      refine lv_iload_n hx hb dX6_goesOn_79 rfl (lv_at hl 1 rfl) ?_
      refine lv_lookup (off := 44) (tgt := 124) hx hb dX6_goesOn_80 (by decide) rfl (by decide) ?_
      refine lv_aload_n hx hb dX6_goesOn_124 rfl (lv_at hl 0 rfl) ?_
      refine z_get (ci := 6) (v := .ref ta.1) (C := RX6) (T := TX6) (N := 8) hx hb hts (by decide +kernel) hown hK hM 0 rfl rfl 2 (by decide) (hts (.fieldLink RX6 23 "ShiftIsles" "trial" "LShiftIsles$Game;") (by decide +kernel)) (fun _ h9 => h9) rfl dX6_goesOn_125 ?_
      have hp9 : List.Perm ([(o9, .inr (6, [u0, .ref a.1, .ref ta.1, .ref r9, u4, u5, u6, u7]))] ++ ((ruW G r9 sa v1) ++ ((gmW G a h b) ++ (gmW G ta g1 d1))) : va_W) ((gmW G ta g1 d1) ++ ([(o9, .inr (6, [u0, .ref a.1, .ref ta.1, .ref r9, u4, u5, u6, u7]))] ++ ((ruW G r9 sa v1) ++ (gmW G a h b)))) := (pm_cut (cs := [[(o9, .inr (6, [u0, .ref a.1, .ref ta.1, .ref r9, u4, u5, u6, u7]))], ruW G r9 sa v1, gmW G a h b, gmW G ta g1 d1]) (sub := [gmW G ta g1 d1]) (rest := [[(o9, .inr (6, [u0, .ref a.1, .ref ta.1, .ref r9, u4, u5, u6, u7]))], ruW G r9 sa v1, gmW G a h b]) 4 [3] [0, 1, 2] rfl rfl rfl (by decide))
      have hq9 : List.Perm ((gmW G ta g1 d1) ++ ([(o9, .inr (6, [u0, .ref a.1, .ref ta.1, .ref r9, u4, u5, u6, u7]))] ++ ((ruW G r9 sa v1) ++ (gmW G a h b)))) ([(o9, .inr (6, [u0, .ref a.1, .ref ta.1, .ref r9, u4, u5, u6, u7]))] ++ ((ruW G r9 sa v1) ++ ((gmW G a h b) ++ (gmW G ta g1 d1))) : va_W) := (pm_put (cs := [[(o9, .inr (6, [u0, .ref a.1, .ref ta.1, .ref r9, u4, u5, u6, u7]))], ruW G r9 sa v1, gmW G a h b, gmW G ta g1 d1]) (sub := [gmW G ta g1 d1]) (rest := [[(o9, .inr (6, [u0, .ref a.1, .ref ta.1, .ref r9, u4, u5, u6, u7]))], ruW G r9 sa v1, gmW G a h b]) 4 [3] [0, 1, 2] rfl rfl rfl (by decide))
      refine z_callV (As := []) (rest := []) (wc := gmW G ta g1 d1) (wr := [(o9, .inr (6, [u0, .ref a.1, .ref ta.1, .ref r9, u4, u5, u6, u7]))] ++ ((ruW G r9 sa v1) ++ (gmW G a h b))) (w1 := gmW G ta g1 d1) (ws' := [(o9, .inr (6, [u0, .ref a.1, .ref ta.1, .ref r9, u4, u5, u6, u7]))] ++ ((ruW G r9 sa v1) ++ ((gmW G a h b) ++ (gmW G ta g1 d1)))) ⟨hx, hb, hml, hown, hts⟩ (c_takenByAll l G ta g1 d1 P hG1.1.1.1 hG1.1.1.2.1 ) (cwV 0 hts gX6_goesOn_X2_takenByAll rfl rfl rfl (by decide +kernel) ⟨Nat.le_of_ble_eq_true rfl, Nat.le_of_ble_eq_true rfl⟩) 2 rfl rfl rfl rfl hl.1 rfl (Nat.le_of_ble_eq_true rfl) dX6_goesOn_128 ⟨Nat.le_of_ble_eq_true rfl, Nat.le_of_ble_eq_true rfl⟩ hK hE hA hM hp9 hq9 (fun H locs hM hz => ?_)
      exact z_iret hx hb hr hlocks dX6_goesOn_131 (by rw [hZ]; exact hM) (Nat.le_of_ble_eq_true rfl) (Nat.le_of_ble_eq_true rfl) (by rw [hZ])
    | succ k ih =>
      intro i v1 g1 d1 t1 e1 m1 hik hei hG1 hm1 hR H locs hM ls hl
      refine lv_iload_n hx hb dX6_goesOn_44 rfl (lv_at hl 2 rfl) ?_
      refine lv_sipush (v := nI 200) hx hb dX6_goesOn_45 (by decide) ?_
      refine lv_icmp_ge (tgt := 79) hx hb dX6_goesOn_48 (by decide) (fun c_5 => absurd c_5 (nI_ge (by omega) (by omega))) (fun c_5 => ?_)
      refine lv_aload_n hx hb dX6_goesOn_51 rfl (lv_at hl 0 rfl) ?_
      refine z_get (ci := 6) (v := .ref ta.1) (C := RX6) (T := TX6) (N := 8) hx hb hts (by decide +kernel) hown hK hM 0 rfl rfl 2 (by decide) (hts (.fieldLink RX6 23 "ShiftIsles" "trial" "LShiftIsles$Game;") (by decide +kernel)) (fun _ h9 => h9) rfl dX6_goesOn_52 ?_
      have hp9 : List.Perm ([(o9, .inr (6, [u0, .ref a.1, .ref ta.1, .ref r9, u4, u5, u6, u7]))] ++ ((ruW G r9 sa v1) ++ ((gmW G a h b) ++ (gmW G ta g1 d1))) : va_W) ((gmW G ta g1 d1) ++ ([(o9, .inr (6, [u0, .ref a.1, .ref ta.1, .ref r9, u4, u5, u6, u7]))] ++ ((ruW G r9 sa v1) ++ (gmW G a h b)))) := (pm_cut (cs := [[(o9, .inr (6, [u0, .ref a.1, .ref ta.1, .ref r9, u4, u5, u6, u7]))], ruW G r9 sa v1, gmW G a h b, gmW G ta g1 d1]) (sub := [gmW G ta g1 d1]) (rest := [[(o9, .inr (6, [u0, .ref a.1, .ref ta.1, .ref r9, u4, u5, u6, u7]))], ruW G r9 sa v1, gmW G a h b]) 4 [3] [0, 1, 2] rfl rfl rfl (by decide))
      have hq9 : List.Perm ((gmW G ta g1 d1) ++ ([(o9, .inr (6, [u0, .ref a.1, .ref ta.1, .ref r9, u4, u5, u6, u7]))] ++ ((ruW G r9 sa v1) ++ (gmW G a h b)))) ([(o9, .inr (6, [u0, .ref a.1, .ref ta.1, .ref r9, u4, u5, u6, u7]))] ++ ((ruW G r9 sa v1) ++ ((gmW G a h b) ++ (gmW G ta g1 d1))) : va_W) := (pm_put (cs := [[(o9, .inr (6, [u0, .ref a.1, .ref ta.1, .ref r9, u4, u5, u6, u7]))], ruW G r9 sa v1, gmW G a h b, gmW G ta g1 d1]) (sub := [gmW G ta g1 d1]) (rest := [[(o9, .inr (6, [u0, .ref a.1, .ref ta.1, .ref r9, u4, u5, u6, u7]))], ruW G r9 sa v1, gmW G a h b]) 4 [3] [0, 1, 2] rfl rfl rfl (by decide))
      refine z_callV (As := []) (rest := []) (wc := gmW G ta g1 d1) (wr := [(o9, .inr (6, [u0, .ref a.1, .ref ta.1, .ref r9, u4, u5, u6, u7]))] ++ ((ruW G r9 sa v1) ++ (gmW G a h b))) (w1 := gmW G ta g1 d1) (ws' := [(o9, .inr (6, [u0, .ref a.1, .ref ta.1, .ref r9, u4, u5, u6, u7]))] ++ ((ruW G r9 sa v1) ++ ((gmW G a h b) ++ (gmW G ta g1 d1)))) ⟨hx, hb, hml, hown, hts⟩ (c_isRunning l G ta g1 d1  ) (cwV 0 hts gX6_goesOn_X2_isRunning rfl rfl rfl (by decide +kernel) ⟨Nat.le_of_ble_eq_true rfl, Nat.le_of_ble_eq_true rfl⟩) 2 rfl rfl rfl rfl hl.1 rfl (Nat.le_of_ble_eq_true rfl) dX6_goesOn_55 ⟨Nat.le_of_ble_eq_true rfl, Nat.le_of_ble_eq_true rfl⟩ hK hE hA hM hp9 hq9 (fun H locs hM hz => ?_)
      refine z_ifeq (tgt := 79) hx hb dX6_goesOn_58 (by decide) (fun hru => ?_) (fun hru => ?_)
      · skip
        have hZ : (zRunV K ((h, b), u)) = ((g1, d1), v1) := hR.trans (zRunV_off (fun q => Bool.noConfusion (hru.symm.trans q)))
        refine lv_iload_n hx hb dX6_goesOn_79 rfl (lv_at hl 1 rfl) ?_
        refine lv_lookup (off := 44) (tgt := 124) hx hb dX6_goesOn_80 (by decide) rfl (by decide) ?_
        refine lv_aload_n hx hb dX6_goesOn_124 rfl (lv_at hl 0 rfl) ?_
        refine z_get (ci := 6) (v := .ref ta.1) (C := RX6) (T := TX6) (N := 8) hx hb hts (by decide +kernel) hown hK hM 0 rfl rfl 2 (by decide) (hts (.fieldLink RX6 23 "ShiftIsles" "trial" "LShiftIsles$Game;") (by decide +kernel)) (fun _ h9 => h9) rfl dX6_goesOn_125 ?_
        have hp9 : List.Perm ([(o9, .inr (6, [u0, .ref a.1, .ref ta.1, .ref r9, u4, u5, u6, u7]))] ++ ((ruW G r9 sa v1) ++ ((gmW G a h b) ++ (gmW G ta g1 d1))) : va_W) ((gmW G ta g1 d1) ++ ([(o9, .inr (6, [u0, .ref a.1, .ref ta.1, .ref r9, u4, u5, u6, u7]))] ++ ((ruW G r9 sa v1) ++ (gmW G a h b)))) := (pm_cut (cs := [[(o9, .inr (6, [u0, .ref a.1, .ref ta.1, .ref r9, u4, u5, u6, u7]))], ruW G r9 sa v1, gmW G a h b, gmW G ta g1 d1]) (sub := [gmW G ta g1 d1]) (rest := [[(o9, .inr (6, [u0, .ref a.1, .ref ta.1, .ref r9, u4, u5, u6, u7]))], ruW G r9 sa v1, gmW G a h b]) 4 [3] [0, 1, 2] rfl rfl rfl (by decide))
        have hq9 : List.Perm ((gmW G ta g1 d1) ++ ([(o9, .inr (6, [u0, .ref a.1, .ref ta.1, .ref r9, u4, u5, u6, u7]))] ++ ((ruW G r9 sa v1) ++ (gmW G a h b)))) ([(o9, .inr (6, [u0, .ref a.1, .ref ta.1, .ref r9, u4, u5, u6, u7]))] ++ ((ruW G r9 sa v1) ++ ((gmW G a h b) ++ (gmW G ta g1 d1))) : va_W) := (pm_put (cs := [[(o9, .inr (6, [u0, .ref a.1, .ref ta.1, .ref r9, u4, u5, u6, u7]))], ruW G r9 sa v1, gmW G a h b, gmW G ta g1 d1]) (sub := [gmW G ta g1 d1]) (rest := [[(o9, .inr (6, [u0, .ref a.1, .ref ta.1, .ref r9, u4, u5, u6, u7]))], ruW G r9 sa v1, gmW G a h b]) 4 [3] [0, 1, 2] rfl rfl rfl (by decide))
        refine z_callV (As := []) (rest := []) (wc := gmW G ta g1 d1) (wr := [(o9, .inr (6, [u0, .ref a.1, .ref ta.1, .ref r9, u4, u5, u6, u7]))] ++ ((ruW G r9 sa v1) ++ (gmW G a h b))) (w1 := gmW G ta g1 d1) (ws' := [(o9, .inr (6, [u0, .ref a.1, .ref ta.1, .ref r9, u4, u5, u6, u7]))] ++ ((ruW G r9 sa v1) ++ ((gmW G a h b) ++ (gmW G ta g1 d1)))) ⟨hx, hb, hml, hown, hts⟩ (c_takenByAll l G ta g1 d1 P hG1.1.1.1 hG1.1.1.2.1 ) (cwV 0 hts gX6_goesOn_X2_takenByAll rfl rfl rfl (by decide +kernel) ⟨Nat.le_of_ble_eq_true rfl, Nat.le_of_ble_eq_true rfl⟩) 2 rfl rfl rfl rfl hl.1 rfl (Nat.le_of_ble_eq_true rfl) dX6_goesOn_128 ⟨Nat.le_of_ble_eq_true rfl, Nat.le_of_ble_eq_true rfl⟩ hK hE hA hM hp9 hq9 (fun H locs hM hz => ?_)
        exact z_iret hx hb hr hlocks dX6_goesOn_131 (by rw [hZ]; exact hM) (Nat.le_of_ble_eq_true rfl) (Nat.le_of_ble_eq_true rfl) (by rw [hZ])
      · skip
        have hlt := (hG1.2.2.2.2.2.2 (zRu_4 hru)).1
        have hm2 : m1 = (m1 - 1) + 1 := by omega
        obtain ⟨t2, hG2⟩ := zGs_ft v1.2.2.2.2 hG1 hru
        refine lv_aload_n hx hb dX6_goesOn_61 rfl (lv_at hl 0 rfl) ?_
        refine z_get (ci := 6) (v := .ref r9) (C := RX6) (T := TX6) (N := 8) hx hb hts (by decide +kernel) hown hK hM 0 rfl rfl 3 (by decide) (hts (.fieldLink RX6 29 "ShiftIsles" "rule" "LShiftIsles$Rule;") (by decide +kernel)) (fun _ h9 => h9) rfl dX6_goesOn_62 ?_
        refine lv_aload_n hx hb dX6_goesOn_65 rfl (lv_at hl 0 rfl) ?_
        refine z_get (ci := 6) (v := .ref ta.1) (C := RX6) (T := TX6) (N := 8) hx hb hts (by decide +kernel) hown hK hM 0 rfl rfl 2 (by decide) (hts (.fieldLink RX6 23 "ShiftIsles" "trial" "LShiftIsles$Game;") (by decide +kernel)) (fun _ h9 => h9) rfl dX6_goesOn_66 ?_
        have hp9 : List.Perm ([(o9, .inr (6, [u0, .ref a.1, .ref ta.1, .ref r9, u4, u5, u6, u7]))] ++ ((ruW G r9 sa v1) ++ ((gmW G a h b) ++ (gmW G ta g1 d1))) : va_W) ((ruW G r9 sa v1 ++ gmW G ta g1 d1) ++ ([(o9, .inr (6, [u0, .ref a.1, .ref ta.1, .ref r9, u4, u5, u6, u7]))] ++ (gmW G a h b))) := (pm_cut (cs := [[(o9, .inr (6, [u0, .ref a.1, .ref ta.1, .ref r9, u4, u5, u6, u7]))], ruW G r9 sa v1, gmW G a h b, gmW G ta g1 d1]) (sub := [ruW G r9 sa v1, gmW G ta g1 d1]) (rest := [[(o9, .inr (6, [u0, .ref a.1, .ref ta.1, .ref r9, u4, u5, u6, u7]))], gmW G a h b]) 4 [1, 3] [0, 2] rfl rfl rfl (by decide))
        have hq9 : List.Perm ((ruW G r9 sa (zCs g1 d1 S P v1.2.2.2.2) ++ gmW G ta (zFtH g1 d1 P t1 S v1.2.2.2.2) (zFtB g1 d1 P t1 S v1.2.2.2.2)) ++ ([(o9, .inr (6, [u0, .ref a.1, .ref ta.1, .ref r9, u4, u5, u6, u7]))] ++ (gmW G a h b))) ([(o9, .inr (6, [u0, .ref a.1, .ref ta.1, .ref r9, u4, u5, u6, u7]))] ++ ((ruW G r9 sa (zCs g1 d1 S P v1.2.2.2.2)) ++ ((gmW G a h b) ++ (gmW G ta (zFtH g1 d1 P t1 S v1.2.2.2.2) (zFtB g1 d1 P t1 S v1.2.2.2.2)))) : va_W) := (pm_put (cs := [[(o9, .inr (6, [u0, .ref a.1, .ref ta.1, .ref r9, u4, u5, u6, u7]))], ruW G r9 sa (zCs g1 d1 S P v1.2.2.2.2), gmW G a h b, gmW G ta (zFtH g1 d1 P t1 S v1.2.2.2.2) (zFtB g1 d1 P t1 S v1.2.2.2.2)]) (sub := [ruW G r9 sa (zCs g1 d1 S P v1.2.2.2.2), gmW G ta (zFtH g1 d1 P t1 S v1.2.2.2.2) (zFtB g1 d1 P t1 S v1.2.2.2.2)]) (rest := [[(o9, .inr (6, [u0, .ref a.1, .ref ta.1, .ref r9, u4, u5, u6, u7]))], gmW G a h b]) 4 [1, 3] [0, 2] rfl rfl rfl (by decide))
        refine z_callV (As := [.ref ta.1]) (rest := []) (wc := ruW G r9 sa v1 ++ gmW G ta g1 d1) (wr := [(o9, .inr (6, [u0, .ref a.1, .ref ta.1, .ref r9, u4, u5, u6, u7]))] ++ (gmW G a h b)) (w1 := ruW G r9 sa (zCs g1 d1 S P v1.2.2.2.2) ++ gmW G ta (zFtH g1 d1 P t1 S v1.2.2.2.2) (zFtB g1 d1 P t1 S v1.2.2.2.2)) (ws' := [(o9, .inr (6, [u0, .ref a.1, .ref ta.1, .ref r9, u4, u5, u6, u7]))] ++ ((ruW G r9 sa (zCs g1 d1 S P v1.2.2.2.2)) ++ ((gmW G a h b) ++ (gmW G ta (zFtH g1 d1 P t1 S v1.2.2.2.2) (zFtB g1 d1 P t1 S v1.2.2.2.2))))) ⟨hx, hb, hml, hown, hts⟩ (c_finish1 l G r9 sa v1 ta g1 d1 P t1 S hG1.1.1 hru (hG1.1.2.2 t1 (hG1.1.2.1 (zRu_P hG1.1.1.1 hG1.1.1.2.1 hru)).1).2.1) (cwV 1 hts gX6_goesOn_X4_finishTurn rfl rfl rfl (by decide +kernel) ⟨Nat.le_of_ble_eq_true rfl, Nat.le_of_ble_eq_true rfl⟩) 4 rfl rfl rfl rfl hl.1 rfl (Nat.le_of_ble_eq_true rfl) dX6_goesOn_69 ⟨Nat.le_of_ble_eq_true rfl, Nat.le_of_ble_eq_true rfl⟩ hK hE hA hM hp9 hq9 (fun H locs hM hz => ?_)
        refine lv_pop hx hb dX6_goesOn_72 rfl ?_
        refine lv_iinc (v := nI (i + 1)) (lv' := [(2, .int (nI (i + 1))), (0, .ref o9), (1, .int 2)]) hx hb dX6_goesOn_73 hl (k := 2) rfl (nI_1 i) (by decide) rfl (fun ls hl => ?_)
        refine lv_goto (tgt := 44) hx hb dX6_goesOn_76 (by decide) ?_
        have hR2 : (zRunV K ((h, b), u)) = zRunV (m1 - 1) ((zFtH g1 d1 P t1 S v1.2.2.2.2, zFtB g1 d1 P t1 S v1.2.2.2.2), zCs g1 d1 S P v1.2.2.2.2) := by rw [← zPv1_e hG1.1 v1, ← zRunV_on (k := m1 - 1) (t := ((g1, d1), v1)) hru, ← hm2]; exact hR
        exact ih (i + 1) (zCs g1 d1 S P v1.2.2.2.2) (zFtH g1 d1 P t1 S v1.2.2.2.2) (zFtB g1 d1 P t1 S v1.2.2.2.2) t2 (e1 + 1) (m1 - 1) (by omega) (by omega) hG2 (by omega) hR2 _ _ hM _ (lv_sub hl [1, 2, 0] rfl)
  exact lp44 200 0 u h b t e0 K rfl rfl hG hK9 rfl _ _ hM _ (lv_sub hl [1, 2, 0] rfl)

set_option maxHeartbeats 4000000 in
set_option maxRecDepth 100000 in
theorem c_x_smove (l : Launch) (G : zC) (o9 : Nat) (u0 u1 u4 u5 u6 u7 : Value) (r9 : Nat) (sa : zBA) (u : zRU) (ta : zGA) (h : Nat → Int32) (b : Nat → Nat → Int32) (P t S e0 : Nat) (hG : zGs h b P t S e0) (hru : zRu h = true) (r8 : Nat) (hr9 : r8 < 2147483648) : zMet l G yX6_simulateMove wsX6_simulateMove rmX6_simulateMove [.ref o9, .int (nI r8)] ([(o9, .inr (6, [u0, u1, .ref ta.1, .ref r9, u4, u5, u6, u7]))] ++ ((ruW G r9 sa u) ++ (gmW G ta h b))) none ([(o9, .inr (6, [u0, u1, .ref ta.1, .ref r9, u4, u5, u6, u7]))] ++ ((ruW G r9 sa ((zMvV r8 ((h, b), u)).2)) ++ (gmW G ta ((zMvV r8 ((h, b), u)).1.1) ((zMvV r8 ((h, b), u)).1.2)))) := by
  refine zMet_of (cc := cX6_simulateMove) (maxL := 2) (ret := none) (by decide) rfl (Nat.le_of_ble_eq_true rfl) ?_
  intro p e s m below meth c A ls hx hb hr hml hown hts hK hA hE hlocks hin hM hl
  have hown : s.vm.findClass RX6 = some m.cls := hown
  have hM : zM G A s s.heap [] ([(o9, .inr (6, [u0, u1, .ref ta.1, .ref r9, u4, u5, u6, u7]))] ++ ((ruW G r9 sa u) ++ (gmW G ta h b))) := hM
  have hl : lv_has ls 2 [(0, .ref o9), (1, .int (nI r8))] := hl
  refine lv_aload_n hx hb dX6_simulateMove_0 rfl (lv_at hl 0 rfl) ?_
  refine z_get (ci := 6) (v := .ref ta.1) (C := RX6) (T := TX6) (N := 8) hx hb hts (by decide +kernel) hown hK hM 0 rfl rfl 2 (by decide) (hts (.fieldLink RX6 23 "ShiftIsles" "trial" "LShiftIsles$Game;") (by decide +kernel)) (fun _ h9 => h9) rfl dX6_simulateMove_1 ?_
  have hp9 : List.Perm ([(o9, .inr (6, [u0, u1, .ref ta.1, .ref r9, u4, u5, u6, u7]))] ++ ((ruW G r9 sa u) ++ (gmW G ta h b)) : va_W) ((gmW G ta h b) ++ ([(o9, .inr (6, [u0, u1, .ref ta.1, .ref r9, u4, u5, u6, u7]))] ++ (ruW G r9 sa u))) := (pm_cut (cs := [[(o9, .inr (6, [u0, u1, .ref ta.1, .ref r9, u4, u5, u6, u7]))], ruW G r9 sa u, gmW G ta h b]) (sub := [gmW G ta h b]) (rest := [[(o9, .inr (6, [u0, u1, .ref ta.1, .ref r9, u4, u5, u6, u7]))], ruW G r9 sa u]) 3 [2] [0, 1] rfl rfl rfl (by decide))
  have hq9 : List.Perm ((gmW G ta h b) ++ ([(o9, .inr (6, [u0, u1, .ref ta.1, .ref r9, u4, u5, u6, u7]))] ++ (ruW G r9 sa u))) ([(o9, .inr (6, [u0, u1, .ref ta.1, .ref r9, u4, u5, u6, u7]))] ++ ((ruW G r9 sa u) ++ (gmW G ta h b)) : va_W) := (pm_put (cs := [[(o9, .inr (6, [u0, u1, .ref ta.1, .ref r9, u4, u5, u6, u7]))], ruW G r9 sa u, gmW G ta h b]) (sub := [gmW G ta h b]) (rest := [[(o9, .inr (6, [u0, u1, .ref ta.1, .ref r9, u4, u5, u6, u7]))], ruW G r9 sa u]) 3 [2] [0, 1] rfl rfl rfl (by decide))
  refine z_callV (As := []) (rest := []) (wc := gmW G ta h b) (wr := [(o9, .inr (6, [u0, u1, .ref ta.1, .ref r9, u4, u5, u6, u7]))] ++ (ruW G r9 sa u)) (w1 := gmW G ta h b) (ws' := [(o9, .inr (6, [u0, u1, .ref ta.1, .ref r9, u4, u5, u6, u7]))] ++ ((ruW G r9 sa u) ++ (gmW G ta h b))) ⟨hx, hb, hml, hown, hts⟩ (c_g_isShifted l G ta h b  hG.1.1.2.2.2.2.2.2.1) (cwV 0 hts gX6_simulateMove_X2_isShifted rfl rfl rfl (by decide +kernel) ⟨Nat.le_of_ble_eq_true rfl, Nat.le_of_ble_eq_true rfl⟩) 2 rfl rfl rfl rfl hl.1 rfl (Nat.le_of_ble_eq_true rfl) dX6_simulateMove_4 ⟨Nat.le_of_ble_eq_true rfl, Nat.le_of_ble_eq_true rfl⟩ hK hE hA hM hp9 hq9 (fun H locs hM hz => ?_)
  refine lv_if_ne (tgt := 50) hx hb dX6_simulateMove_7 (by decide) (fun c_0 => ?_) (fun c_0 => ?_)
  · skip
    refine lv_iload_n hx hb dX6_simulateMove_50 rfl (lv_at hl 1 rfl) ?_
    refine lv_bipush (v := 8) hx hb dX6_simulateMove_51 (by decide) ?_
    refine lv_irem hx hb dX6_simulateMove_53 (by decide) ?_
    refine z_topi (y := nI (r8 % 8)) (pk_rem (a := r8) (d := 8) (by omega) (by decide) (by decide)) ?_
    refine lv_if_ne (tgt := 75) hx hb dX6_simulateMove_54 (by decide) (fun c_8 => ?_) (fun c_8 => ?_)
    · have h8 : ¬ r8 % 8 = 0 := fun q => c_8 (by rw [q]; rfl)
      refine lv_aload_n hx hb dX6_simulateMove_75 rfl (lv_at hl 0 rfl) ?_
      refine z_get (ci := 6) (v := .ref ta.1) (C := RX6) (T := TX6) (N := 8) hx hb hts (by decide +kernel) hown hK hM 0 rfl rfl 2 (by decide) (hts (.fieldLink RX6 23 "ShiftIsles" "trial" "LShiftIsles$Game;") (by decide +kernel)) (fun _ h9 => h9) rfl dX6_simulateMove_76 ?_
      refine lv_iload_n hx hb dX6_simulateMove_79 rfl (lv_at hl 1 rfl) ?_
      refine lv_bipush (v := 8) hx hb dX6_simulateMove_80 (by decide) ?_
      refine lv_idiv hx hb dX6_simulateMove_82 (by decide) ?_
      refine z_topi (y := nI (r8 / 8)) (pk_div (a := r8) (d := 8) (by omega) (by decide) (by decide)) ?_
      refine lv_bipush (v := 9) hx hb dX6_simulateMove_83 (by decide) ?_
      refine lv_irem hx hb dX6_simulateMove_85 (by decide) ?_
      refine z_topi (y := nI ((r8 / 8) % 9)) (pk_rem (a := (r8 / 8)) (d := 9) (by omega) (by decide) (by decide)) ?_
      have hp9 : List.Perm ([(o9, .inr (6, [u0, u1, .ref ta.1, .ref r9, u4, u5, u6, u7]))] ++ ((ruW G r9 sa u) ++ (gmW G ta h b)) : va_W) ((gmW G ta h b) ++ ([(o9, .inr (6, [u0, u1, .ref ta.1, .ref r9, u4, u5, u6, u7]))] ++ (ruW G r9 sa u))) := (pm_cut (cs := [[(o9, .inr (6, [u0, u1, .ref ta.1, .ref r9, u4, u5, u6, u7]))], ruW G r9 sa u, gmW G ta h b]) (sub := [gmW G ta h b]) (rest := [[(o9, .inr (6, [u0, u1, .ref ta.1, .ref r9, u4, u5, u6, u7]))], ruW G r9 sa u]) 3 [2] [0, 1] rfl rfl rfl (by decide))
      have hq9 : List.Perm ((gmW G ta (if zMg h b S t (nI ((r8 / 8) % 9)) = true then zEtH h (zGoB b t ((r8 / 8) % 9)) t P else h) (if zMg h b S t (nI ((r8 / 8) % 9)) = true then zEtB h (zGoB b t ((r8 / 8) % 9)) t P else b)) ++ ([(o9, .inr (6, [u0, u1, .ref ta.1, .ref r9, u4, u5, u6, u7]))] ++ (ruW G r9 sa u))) ([(o9, .inr (6, [u0, u1, .ref ta.1, .ref r9, u4, u5, u6, u7]))] ++ ((ruW G r9 sa u) ++ (gmW G ta (if zMg h b S t (nI ((r8 / 8) % 9)) = true then zEtH h (zGoB b t ((r8 / 8) % 9)) t P else h) (if zMg h b S t (nI ((r8 / 8) % 9)) = true then zEtB h (zGoB b t ((r8 / 8) % 9)) t P else b))) : va_W) := (pm_put (cs := [[(o9, .inr (6, [u0, u1, .ref ta.1, .ref r9, u4, u5, u6, u7]))], ruW G r9 sa u, gmW G ta (if zMg h b S t (nI ((r8 / 8) % 9)) = true then zEtH h (zGoB b t ((r8 / 8) % 9)) t P else h) (if zMg h b S t (nI ((r8 / 8) % 9)) = true then zEtB h (zGoB b t ((r8 / 8) % 9)) t P else b)]) (sub := [gmW G ta (if zMg h b S t (nI ((r8 / 8) % 9)) = true then zEtH h (zGoB b t ((r8 / 8) % 9)) t P else h) (if zMg h b S t (nI ((r8 / 8) % 9)) = true then zEtB h (zGoB b t ((r8 / 8) % 9)) t P else b)]) (rest := [[(o9, .inr (6, [u0, u1, .ref ta.1, .ref r9, u4, u5, u6, u7]))], ruW G r9 sa u]) 3 [2] [0, 1] rfl rfl rfl (by decide))
      refine z_callV (As := [.int (nI ((r8 / 8) % 9))]) (rest := []) (wc := gmW G ta h b) (wr := [(o9, .inr (6, [u0, u1, .ref ta.1, .ref r9, u4, u5, u6, u7]))] ++ (ruW G r9 sa u)) (w1 := gmW G ta (if zMg h b S t (nI ((r8 / 8) % 9)) = true then zEtH h (zGoB b t ((r8 / 8) % 9)) t P else h) (if zMg h b S t (nI ((r8 / 8) % 9)) = true then zEtB h (zGoB b t ((r8 / 8) % 9)) t P else b)) (ws' := [(o9, .inr (6, [u0, u1, .ref ta.1, .ref r9, u4, u5, u6, u7]))] ++ ((ruW G r9 sa u) ++ (gmW G ta (if zMg h b S t (nI ((r8 / 8) % 9)) = true then zEtH h (zGoB b t ((r8 / 8) % 9)) t P else h) (if zMg h b S t (nI ((r8 / 8) % 9)) = true then zEtB h (zGoB b t ((r8 / 8) % 9)) t P else b)))) ⟨hx, hb, hml, hown, hts⟩ (c_tryGo l G ta h b ((r8 / 8) % 9) (by omega) P t S hG.1.1 ) (cwV 1 hts gX6_simulateMove_X2_tryGo rfl rfl rfl (by decide +kernel) ⟨Nat.le_of_ble_eq_true rfl, Nat.le_of_ble_eq_true rfl⟩) 2 rfl rfl rfl rfl hl.1 rfl (Nat.le_of_ble_eq_true rfl) dX6_simulateMove_86 ⟨Nat.le_of_ble_eq_true rfl, Nat.le_of_ble_eq_true rfl⟩ hK hE hA hM hp9 hq9 (fun H locs hM hz => ?_)
      refine z_ifne (tgt := 104) hx hb dX6_simulateMove_89 (by decide) (fun c_g => ?_) (fun c_g => ?_)
      · skip
        exact z_vret hx hb hr hlocks dX6_simulateMove_104 (by rw [zMvV_go hG.1 c_0 h8 c_g]; rw [if_pos c_g, if_pos c_g] at hM; exact hM) (Nat.le_of_ble_eq_true rfl) (Nat.le_of_ble_eq_true rfl)
      · skip
        have hM : zM G A s H locs ([(o9, .inr (6, [u0, u1, .ref ta.1, .ref r9, u4, u5, u6, u7]))] ++ ((ruW G r9 sa u) ++ (gmW G ta h b))) := by rw [if_neg (by rw [c_g]; decide), if_neg (by rw [c_g]; decide)] at hM; exact hM
        refine lv_aload_n hx hb dX6_simulateMove_92 rfl (lv_at hl 0 rfl) ?_
        refine z_get (ci := 6) (v := .ref r9) (C := RX6) (T := TX6) (N := 8) hx hb hts (by decide +kernel) hown hK hM 0 rfl rfl 3 (by decide) (hts (.fieldLink RX6 29 "ShiftIsles" "rule" "LShiftIsles$Rule;") (by decide +kernel)) (fun _ h9 => h9) rfl dX6_simulateMove_93 ?_
        refine lv_aload_n hx hb dX6_simulateMove_96 rfl (lv_at hl 0 rfl) ?_
        refine z_get (ci := 6) (v := .ref ta.1) (C := RX6) (T := TX6) (N := 8) hx hb hts (by decide +kernel) hown hK hM 0 rfl rfl 2 (by decide) (hts (.fieldLink RX6 23 "ShiftIsles" "trial" "LShiftIsles$Game;") (by decide +kernel)) (fun _ h9 => h9) rfl dX6_simulateMove_97 ?_
        have hp9 : List.Perm ([(o9, .inr (6, [u0, u1, .ref ta.1, .ref r9, u4, u5, u6, u7]))] ++ ((ruW G r9 sa u) ++ (gmW G ta h b)) : va_W) ((ruW G r9 sa u ++ gmW G ta h b) ++ ([(o9, .inr (6, [u0, u1, .ref ta.1, .ref r9, u4, u5, u6, u7]))])) := (pm_cut (cs := [[(o9, .inr (6, [u0, u1, .ref ta.1, .ref r9, u4, u5, u6, u7]))], ruW G r9 sa u, gmW G ta h b]) (sub := [ruW G r9 sa u, gmW G ta h b]) (rest := [[(o9, .inr (6, [u0, u1, .ref ta.1, .ref r9, u4, u5, u6, u7]))]]) 3 [1, 2] [0] rfl rfl rfl (by decide))
        have hq9 : List.Perm ((ruW G r9 sa (zCs h b S P u.2.2.2.2) ++ gmW G ta (zFtH h b P t S u.2.2.2.2) (zFtB h b P t S u.2.2.2.2)) ++ ([(o9, .inr (6, [u0, u1, .ref ta.1, .ref r9, u4, u5, u6, u7]))])) ([(o9, .inr (6, [u0, u1, .ref ta.1, .ref r9, u4, u5, u6, u7]))] ++ ((ruW G r9 sa (zCs h b S P u.2.2.2.2)) ++ (gmW G ta (zFtH h b P t S u.2.2.2.2) (zFtB h b P t S u.2.2.2.2))) : va_W) := (pm_put (cs := [[(o9, .inr (6, [u0, u1, .ref ta.1, .ref r9, u4, u5, u6, u7]))], ruW G r9 sa (zCs h b S P u.2.2.2.2), gmW G ta (zFtH h b P t S u.2.2.2.2) (zFtB h b P t S u.2.2.2.2)]) (sub := [ruW G r9 sa (zCs h b S P u.2.2.2.2), gmW G ta (zFtH h b P t S u.2.2.2.2) (zFtB h b P t S u.2.2.2.2)]) (rest := [[(o9, .inr (6, [u0, u1, .ref ta.1, .ref r9, u4, u5, u6, u7]))]]) 3 [1, 2] [0] rfl rfl rfl (by decide))
        refine z_callV (As := [.ref ta.1]) (rest := []) (wc := ruW G r9 sa u ++ gmW G ta h b) (wr := [(o9, .inr (6, [u0, u1, .ref ta.1, .ref r9, u4, u5, u6, u7]))]) (w1 := ruW G r9 sa (zCs h b S P u.2.2.2.2) ++ gmW G ta (zFtH h b P t S u.2.2.2.2) (zFtB h b P t S u.2.2.2.2)) (ws' := [(o9, .inr (6, [u0, u1, .ref ta.1, .ref r9, u4, u5, u6, u7]))] ++ ((ruW G r9 sa (zCs h b S P u.2.2.2.2)) ++ (gmW G ta (zFtH h b P t S u.2.2.2.2) (zFtB h b P t S u.2.2.2.2)))) ⟨hx, hb, hml, hown, hts⟩ (c_finish1 l G r9 sa u ta h b P t S hG.1.1 hru (hG.1.2.2 t (hG.1.2.1 (zRu_P hG.1.1.1 hG.1.1.2.1 hru)).1).2.1) (cwV 1 hts gX6_simulateMove_X4_finishTurn rfl rfl rfl (by decide +kernel) ⟨Nat.le_of_ble_eq_true rfl, Nat.le_of_ble_eq_true rfl⟩) 4 rfl rfl rfl rfl hl.1 rfl (Nat.le_of_ble_eq_true rfl) dX6_simulateMove_100 ⟨Nat.le_of_ble_eq_true rfl, Nat.le_of_ble_eq_true rfl⟩ hK hE hA hM hp9 hq9 (fun H locs hM hz => ?_)
        refine lv_pop hx hb dX6_simulateMove_103 rfl ?_
        exact z_vret hx hb hr hlocks dX6_simulateMove_104 (by rw [zMvV_q2 hG.1 c_0 h8 c_g, zPv1_e hG.1]; exact hM) (Nat.le_of_ble_eq_true rfl) (Nat.le_of_ble_eq_true rfl)
    · have h8 : r8 % 8 = 0 := (nI_eq (a := r8 % 8) (b := 0) (by omega) (by decide)).mp c_8; have hml9 : (zMe h && zLi (nI (r8 / 8 % 6))) = true := by rw [zMe_of hru c_0, zLi_nI (by omega)]; rfl
      refine lv_aload_n hx hb dX6_simulateMove_57 rfl (lv_at hl 0 rfl) ?_
      refine z_get (ci := 6) (v := .ref ta.1) (C := RX6) (T := TX6) (N := 8) hx hb hts (by decide +kernel) hown hK hM 0 rfl rfl 2 (by decide) (hts (.fieldLink RX6 23 "ShiftIsles" "trial" "LShiftIsles$Game;") (by decide +kernel)) (fun _ h9 => h9) rfl dX6_simulateMove_58 ?_
      refine lv_iload_n hx hb dX6_simulateMove_61 rfl (lv_at hl 1 rfl) ?_
      refine lv_bipush (v := 8) hx hb dX6_simulateMove_62 (by decide) ?_
      refine lv_idiv hx hb dX6_simulateMove_64 (by decide) ?_
      refine z_topi (y := nI (r8 / 8)) (pk_div (a := r8) (d := 8) (by omega) (by decide) (by decide)) ?_
      refine lv_bipush (v := 6) hx hb dX6_simulateMove_65 (by decide) ?_
      refine lv_irem hx hb dX6_simulateMove_67 (by decide) ?_
      refine z_topi (y := nI ((r8 / 8) % 6)) (pk_rem (a := (r8 / 8)) (d := 6) (by omega) (by decide) (by decide)) ?_
      have hp9 : List.Perm ([(o9, .inr (6, [u0, u1, .ref ta.1, .ref r9, u4, u5, u6, u7]))] ++ ((ruW G r9 sa u) ++ (gmW G ta h b)) : va_W) ((gmW G ta h b) ++ ([(o9, .inr (6, [u0, u1, .ref ta.1, .ref r9, u4, u5, u6, u7]))] ++ (ruW G r9 sa u))) := (pm_cut (cs := [[(o9, .inr (6, [u0, u1, .ref ta.1, .ref r9, u4, u5, u6, u7]))], ruW G r9 sa u, gmW G ta h b]) (sub := [gmW G ta h b]) (rest := [[(o9, .inr (6, [u0, u1, .ref ta.1, .ref r9, u4, u5, u6, u7]))], ruW G r9 sa u]) 3 [2] [0, 1] rfl rfl rfl (by decide))
      have hq9 : List.Perm ((gmW G ta (if (zMe h && zLi (nI ((r8 / 8) % 6))) = true then zEtH h (zLkB b t (nI ((r8 / 8) % 6))) t P else h) (if (zMe h && zLi (nI ((r8 / 8) % 6))) = true then zEtB h (zLkB b t (nI ((r8 / 8) % 6))) t P else b)) ++ ([(o9, .inr (6, [u0, u1, .ref ta.1, .ref r9, u4, u5, u6, u7]))] ++ (ruW G r9 sa u))) ([(o9, .inr (6, [u0, u1, .ref ta.1, .ref r9, u4, u5, u6, u7]))] ++ ((ruW G r9 sa u) ++ (gmW G ta (if (zMe h && zLi (nI ((r8 / 8) % 6))) = true then zEtH h (zLkB b t (nI ((r8 / 8) % 6))) t P else h) (if (zMe h && zLi (nI ((r8 / 8) % 6))) = true then zEtB h (zLkB b t (nI ((r8 / 8) % 6))) t P else b))) : va_W) := (pm_put (cs := [[(o9, .inr (6, [u0, u1, .ref ta.1, .ref r9, u4, u5, u6, u7]))], ruW G r9 sa u, gmW G ta (if (zMe h && zLi (nI ((r8 / 8) % 6))) = true then zEtH h (zLkB b t (nI ((r8 / 8) % 6))) t P else h) (if (zMe h && zLi (nI ((r8 / 8) % 6))) = true then zEtB h (zLkB b t (nI ((r8 / 8) % 6))) t P else b)]) (sub := [gmW G ta (if (zMe h && zLi (nI ((r8 / 8) % 6))) = true then zEtH h (zLkB b t (nI ((r8 / 8) % 6))) t P else h) (if (zMe h && zLi (nI ((r8 / 8) % 6))) = true then zEtB h (zLkB b t (nI ((r8 / 8) % 6))) t P else b)]) (rest := [[(o9, .inr (6, [u0, u1, .ref ta.1, .ref r9, u4, u5, u6, u7]))], ruW G r9 sa u]) 3 [2] [0, 1] rfl rfl rfl (by decide))
      refine z_callV (As := [.int (nI ((r8 / 8) % 6))]) (rest := []) (wc := gmW G ta h b) (wr := [(o9, .inr (6, [u0, u1, .ref ta.1, .ref r9, u4, u5, u6, u7]))] ++ (ruW G r9 sa u)) (w1 := gmW G ta (if (zMe h && zLi (nI ((r8 / 8) % 6))) = true then zEtH h (zLkB b t (nI ((r8 / 8) % 6))) t P else h) (if (zMe h && zLi (nI ((r8 / 8) % 6))) = true then zEtB h (zLkB b t (nI ((r8 / 8) % 6))) t P else b)) (ws' := [(o9, .inr (6, [u0, u1, .ref ta.1, .ref r9, u4, u5, u6, u7]))] ++ ((ruW G r9 sa u) ++ (gmW G ta (if (zMe h && zLi (nI ((r8 / 8) % 6))) = true then zEtH h (zLkB b t (nI ((r8 / 8) % 6))) t P else h) (if (zMe h && zLi (nI ((r8 / 8) % 6))) = true then zEtB h (zLkB b t (nI ((r8 / 8) % 6))) t P else b)))) ⟨hx, hb, hml, hown, hts⟩ (c_tryLock l G ta h b (nI ((r8 / 8) % 6)) P t S hG.1.1 ) (cwV 1 hts gX6_simulateMove_X2_tryLock rfl rfl rfl (by decide +kernel) ⟨Nat.le_of_ble_eq_true rfl, Nat.le_of_ble_eq_true rfl⟩) 2 rfl rfl rfl rfl hl.1 rfl (Nat.le_of_ble_eq_true rfl) dX6_simulateMove_68 ⟨Nat.le_of_ble_eq_true rfl, Nat.le_of_ble_eq_true rfl⟩ hK hE hA hM hp9 hq9 (fun H locs hM hz => ?_)
      refine lv_pop hx hb dX6_simulateMove_71 rfl ?_
      refine lv_goto (tgt := 104) hx hb dX6_simulateMove_72 (by decide) ?_
      exact z_vret hx hb hr hlocks dX6_simulateMove_104 (by rw [zMvV_lk hG.1 c_0 h8]; rw [if_pos hml9, if_pos hml9] at hM; exact hM) (Nat.le_of_ble_eq_true rfl) (Nat.le_of_ble_eq_true rfl)
  · skip
    refine lv_aload_n hx hb dX6_simulateMove_10 rfl (lv_at hl 0 rfl) ?_
    refine z_get (ci := 6) (v := .ref ta.1) (C := RX6) (T := TX6) (N := 8) hx hb hts (by decide +kernel) hown hK hM 0 rfl rfl 2 (by decide) (hts (.fieldLink RX6 23 "ShiftIsles" "trial" "LShiftIsles$Game;") (by decide +kernel)) (fun _ h9 => h9) rfl dX6_simulateMove_11 ?_
    refine lv_iload_n hx hb dX6_simulateMove_14 rfl (lv_at hl 1 rfl) ?_
    refine lv_iconst (v := 4) hx hb dX6_simulateMove_15 (by decide) ?_
    refine lv_irem hx hb dX6_simulateMove_16 (by decide) ?_
    refine z_topi (y := nI (r8 % 4)) (pk_rem (a := r8) (d := 4) (by omega) (by decide) (by decide)) ?_
    refine lv_iload_n hx hb dX6_simulateMove_17 rfl (lv_at hl 1 rfl) ?_
    refine lv_iconst (v := 4) hx hb dX6_simulateMove_18 (by decide) ?_
    refine lv_idiv hx hb dX6_simulateMove_19 (by decide) ?_
    refine z_topi (y := nI (r8 / 4)) (pk_div (a := r8) (d := 4) (by omega) (by decide) (by decide)) ?_
    refine lv_bipush (v := 6) hx hb dX6_simulateMove_20 (by decide) ?_
    refine lv_irem hx hb dX6_simulateMove_22 (by decide) ?_
    refine z_topi (y := nI ((r8 / 4) % 6)) (pk_rem (a := (r8 / 4)) (d := 6) (by omega) (by decide) (by decide)) ?_
    refine lv_iload_n hx hb dX6_simulateMove_23 rfl (lv_at hl 1 rfl) ?_
    refine lv_bipush (v := 32) hx hb dX6_simulateMove_24 (by decide) ?_
    refine lv_idiv hx hb dX6_simulateMove_26 (by decide) ?_
    refine z_topi (y := nI (r8 / 32)) (pk_div (a := r8) (d := 32) (by omega) (by decide) (by decide)) ?_
    refine lv_iconst (v := 2) hx hb dX6_simulateMove_27 (by decide) ?_
    refine lv_irem hx hb dX6_simulateMove_28 (by decide) ?_
    refine z_topi (y := nI ((r8 / 32) % 2)) (pk_rem (a := (r8 / 32)) (d := 2) (by omega) (by decide) (by decide)) ?_
    have hp9 : List.Perm ([(o9, .inr (6, [u0, u1, .ref ta.1, .ref r9, u4, u5, u6, u7]))] ++ ((ruW G r9 sa u) ++ (gmW G ta h b)) : va_W) ((gmW G ta h b) ++ ([(o9, .inr (6, [u0, u1, .ref ta.1, .ref r9, u4, u5, u6, u7]))] ++ (ruW G r9 sa u))) := (pm_cut (cs := [[(o9, .inr (6, [u0, u1, .ref ta.1, .ref r9, u4, u5, u6, u7]))], ruW G r9 sa u, gmW G ta h b]) (sub := [gmW G ta h b]) (rest := [[(o9, .inr (6, [u0, u1, .ref ta.1, .ref r9, u4, u5, u6, u7]))], ruW G r9 sa u]) 3 [2] [0, 1] rfl rfl rfl (by decide))
    have hq9 : List.Perm ((gmW G ta (zTsH h b (r8 % 4) ((r8 / 4) % 6) (nI ((r8 / 32) % 2))) (zTsB h b (r8 % 4) ((r8 / 4) % 6) (nI ((r8 / 32) % 2)))) ++ ([(o9, .inr (6, [u0, u1, .ref ta.1, .ref r9, u4, u5, u6, u7]))] ++ (ruW G r9 sa u))) ([(o9, .inr (6, [u0, u1, .ref ta.1, .ref r9, u4, u5, u6, u7]))] ++ ((ruW G r9 sa u) ++ (gmW G ta (zTsH h b (r8 % 4) ((r8 / 4) % 6) (nI ((r8 / 32) % 2))) (zTsB h b (r8 % 4) ((r8 / 4) % 6) (nI ((r8 / 32) % 2))))) : va_W) := (pm_put (cs := [[(o9, .inr (6, [u0, u1, .ref ta.1, .ref r9, u4, u5, u6, u7]))], ruW G r9 sa u, gmW G ta (zTsH h b (r8 % 4) ((r8 / 4) % 6) (nI ((r8 / 32) % 2))) (zTsB h b (r8 % 4) ((r8 / 4) % 6) (nI ((r8 / 32) % 2)))]) (sub := [gmW G ta (zTsH h b (r8 % 4) ((r8 / 4) % 6) (nI ((r8 / 32) % 2))) (zTsB h b (r8 % 4) ((r8 / 4) % 6) (nI ((r8 / 32) % 2)))]) (rest := [[(o9, .inr (6, [u0, u1, .ref ta.1, .ref r9, u4, u5, u6, u7]))], ruW G r9 sa u]) 3 [2] [0, 1] rfl rfl rfl (by decide))
    refine z_callV (As := [.int (nI (r8 % 4)), .int (nI ((r8 / 4) % 6)), .int (nI ((r8 / 32) % 2))]) (rest := []) (wc := gmW G ta h b) (wr := [(o9, .inr (6, [u0, u1, .ref ta.1, .ref r9, u4, u5, u6, u7]))] ++ (ruW G r9 sa u)) (w1 := gmW G ta (zTsH h b (r8 % 4) ((r8 / 4) % 6) (nI ((r8 / 32) % 2))) (zTsB h b (r8 % 4) ((r8 / 4) % 6) (nI ((r8 / 32) % 2)))) (ws' := [(o9, .inr (6, [u0, u1, .ref ta.1, .ref r9, u4, u5, u6, u7]))] ++ ((ruW G r9 sa u) ++ (gmW G ta (zTsH h b (r8 % 4) ((r8 / 4) % 6) (nI ((r8 / 32) % 2))) (zTsB h b (r8 % 4) ((r8 / 4) % 6) (nI ((r8 / 32) % 2)))))) ⟨hx, hb, hml, hown, hts⟩ (c_tryShift l G ta h b (r8 % 4) ((r8 / 4) % 6) (nI ((r8 / 32) % 2)) (by omega) (by omega) P t S hG.1.1 ) (cwV 3 hts gX6_simulateMove_X2_tryShift rfl rfl rfl (by decide +kernel) ⟨Nat.le_of_ble_eq_true rfl, Nat.le_of_ble_eq_true rfl⟩) 2 rfl rfl rfl rfl hl.1 rfl (Nat.le_of_ble_eq_true rfl) dX6_simulateMove_29 ⟨Nat.le_of_ble_eq_true rfl, Nat.le_of_ble_eq_true rfl⟩ hK hE hA hM hp9 hq9 (fun H locs hM hz => ?_)
    refine z_ifne (tgt := 104) hx hb dX6_simulateMove_32 (by decide) (fun c_m => ?_) (fun c_m => ?_)
    · skip
      exact z_vret hx hb hr hlocks dX6_simulateMove_104 (by rw [zMvV_sh c_0 c_m]; rw [(zTs_y c_m).1, (zTs_y c_m).2] at hM; exact hM) (Nat.le_of_ble_eq_true rfl) (Nat.le_of_ble_eq_true rfl)
    · skip
      have hM : zM G A s H locs ([(o9, .inr (6, [u0, u1, .ref ta.1, .ref r9, u4, u5, u6, u7]))] ++ ((ruW G r9 sa u) ++ (gmW G ta h b))) := by rw [(zTs_n c_m).1, (zTs_n c_m).2] at hM; exact hM
      refine lv_aload_n hx hb dX6_simulateMove_35 rfl (lv_at hl 0 rfl) ?_
      refine z_get (ci := 6) (v := .ref r9) (C := RX6) (T := TX6) (N := 8) hx hb hts (by decide +kernel) hown hK hM 0 rfl rfl 3 (by decide) (hts (.fieldLink RX6 29 "ShiftIsles" "rule" "LShiftIsles$Rule;") (by decide +kernel)) (fun _ h9 => h9) rfl dX6_simulateMove_36 ?_
      refine lv_aload_n hx hb dX6_simulateMove_39 rfl (lv_at hl 0 rfl) ?_
      refine z_get (ci := 6) (v := .ref ta.1) (C := RX6) (T := TX6) (N := 8) hx hb hts (by decide +kernel) hown hK hM 0 rfl rfl 2 (by decide) (hts (.fieldLink RX6 23 "ShiftIsles" "trial" "LShiftIsles$Game;") (by decide +kernel)) (fun _ h9 => h9) rfl dX6_simulateMove_40 ?_
      have hp9 : List.Perm ([(o9, .inr (6, [u0, u1, .ref ta.1, .ref r9, u4, u5, u6, u7]))] ++ ((ruW G r9 sa u) ++ (gmW G ta h b)) : va_W) ((ruW G r9 sa u ++ gmW G ta h b) ++ ([(o9, .inr (6, [u0, u1, .ref ta.1, .ref r9, u4, u5, u6, u7]))])) := (pm_cut (cs := [[(o9, .inr (6, [u0, u1, .ref ta.1, .ref r9, u4, u5, u6, u7]))], ruW G r9 sa u, gmW G ta h b]) (sub := [ruW G r9 sa u, gmW G ta h b]) (rest := [[(o9, .inr (6, [u0, u1, .ref ta.1, .ref r9, u4, u5, u6, u7]))]]) 3 [1, 2] [0] rfl rfl rfl (by decide))
      have hq9 : List.Perm ((ruW G r9 sa (zCs h b S P u.2.2.2.2) ++ gmW G ta (zFtH h b P t S u.2.2.2.2) (zFtB h b P t S u.2.2.2.2)) ++ ([(o9, .inr (6, [u0, u1, .ref ta.1, .ref r9, u4, u5, u6, u7]))])) ([(o9, .inr (6, [u0, u1, .ref ta.1, .ref r9, u4, u5, u6, u7]))] ++ ((ruW G r9 sa (zCs h b S P u.2.2.2.2)) ++ (gmW G ta (zFtH h b P t S u.2.2.2.2) (zFtB h b P t S u.2.2.2.2))) : va_W) := (pm_put (cs := [[(o9, .inr (6, [u0, u1, .ref ta.1, .ref r9, u4, u5, u6, u7]))], ruW G r9 sa (zCs h b S P u.2.2.2.2), gmW G ta (zFtH h b P t S u.2.2.2.2) (zFtB h b P t S u.2.2.2.2)]) (sub := [ruW G r9 sa (zCs h b S P u.2.2.2.2), gmW G ta (zFtH h b P t S u.2.2.2.2) (zFtB h b P t S u.2.2.2.2)]) (rest := [[(o9, .inr (6, [u0, u1, .ref ta.1, .ref r9, u4, u5, u6, u7]))]]) 3 [1, 2] [0] rfl rfl rfl (by decide))
      refine z_callV (As := [.ref ta.1]) (rest := []) (wc := ruW G r9 sa u ++ gmW G ta h b) (wr := [(o9, .inr (6, [u0, u1, .ref ta.1, .ref r9, u4, u5, u6, u7]))]) (w1 := ruW G r9 sa (zCs h b S P u.2.2.2.2) ++ gmW G ta (zFtH h b P t S u.2.2.2.2) (zFtB h b P t S u.2.2.2.2)) (ws' := [(o9, .inr (6, [u0, u1, .ref ta.1, .ref r9, u4, u5, u6, u7]))] ++ ((ruW G r9 sa (zCs h b S P u.2.2.2.2)) ++ (gmW G ta (zFtH h b P t S u.2.2.2.2) (zFtB h b P t S u.2.2.2.2)))) ⟨hx, hb, hml, hown, hts⟩ (c_finish1 l G r9 sa u ta h b P t S hG.1.1 hru (hG.1.2.2 t (hG.1.2.1 (zRu_P hG.1.1.1 hG.1.1.2.1 hru)).1).2.1) (cwV 1 hts gX6_simulateMove_X4_finishTurn rfl rfl rfl (by decide +kernel) ⟨Nat.le_of_ble_eq_true rfl, Nat.le_of_ble_eq_true rfl⟩) 4 rfl rfl rfl rfl hl.1 rfl (Nat.le_of_ble_eq_true rfl) dX6_simulateMove_43 ⟨Nat.le_of_ble_eq_true rfl, Nat.le_of_ble_eq_true rfl⟩ hK hE hA hM hp9 hq9 (fun H locs hM hz => ?_)
      refine lv_pop hx hb dX6_simulateMove_46 rfl ?_
      refine lv_goto (tgt := 104) hx hb dX6_simulateMove_47 (by decide) ?_
      exact z_vret hx hb hr hlocks dX6_simulateMove_104 (by rw [zMvV_q1 c_0 c_m, zPv1_e hG.1]; exact hM) (Nat.le_of_ble_eq_true rfl) (Nat.le_of_ble_eq_true rfl)

set_option maxHeartbeats 4000000 in
set_option maxRecDepth 100000 in
theorem c_x_sim1 (l : Launch) (G : zC) (hl0 : l.stackTraces = false) (o9 : Nat) (u0 u1 u2 u3 u4 u5 u6 u7 : Value) (x9 : Int64) (k9 : Int32) (hc : k9 < 1 ∨ 80 < k9) : zMetT l G yX6_simulate wsX6_simulate rmX6_simulate [.ref o9, .long x9, .int k9] ([(o9, .inr (6, [u0, u1, u2, u3, u4, u5, u6, u7]))]) "java/lang/IllegalArgumentException" := by
  refine zMetT_of (cc := cX6_simulate) (maxL := 5) (ret := (some .int)) (by decide) rfl (Nat.le_of_ble_eq_true rfl) ?_
  intro p e s m below meth c A ls hx hb htb hml hown hts hK hA hE hTh hlocks hin hM hl
  have hown : s.vm.findClass RX6 = some m.cls := hown
  have hM : zM G A s s.heap [] ([(o9, .inr (6, [u0, u1, u2, u3, u4, u5, u6, u7]))]) := hM
  have hl : lv_has ls 5 [(0, .ref o9), (1, .long x9), (3, .int k9)] := hl
  refine lv_iload_n hx hb dX6_simulate_0 rfl (lv_at hl 2 rfl) ?_
  refine lv_iconst (v := 1) hx hb dX6_simulate_1 (by decide) ?_
  refine lv_icmp_lt (tgt := 11) hx hb dX6_simulate_2 (by decide) (fun c_0 => ?_) (fun c_0 => ?_)
  · skip
    exact z_throwW (text := "there are 1 to 80 moves") (ik := 55) (is := 341) (ic := 59) hx hb hl0 htb hlocks hown (by decide) (hts (.classLink RX6 55 "java/lang/IllegalArgumentException") (by decide +kernel)) (hts (.initialized "java/lang/IllegalArgumentException") (by decide +kernel)) (hE.1.2.2 (341, "there are 1 to 80 moves") (List.mem_of_getElem? (i := 22) rfl)) hTh (List.mem_of_getElem? (i := 0) rfl) (fun w9 hw9 => hts w9 (List.mem_cons_of_mem _ (List.mem_append_right _ hw9))) (by decide +kernel) (by decide +kernel) hE hA hM (hl.1.trans hml.symm) dX6_simulate_11 dX6_simulate_14 dX6_simulate_15 dX6_simulate_18 dX6_simulate_21 (Nat.le_of_ble_eq_true rfl) (Nat.le_of_ble_eq_true rfl) (Nat.le_of_ble_eq_true rfl) (Nat.le_of_ble_eq_true rfl) (Nat.le_of_ble_eq_true rfl) (Nat.le_of_ble_eq_true rfl)
  · skip
    refine lv_iload_n hx hb dX6_simulate_5 rfl (lv_at hl 2 rfl) ?_
    refine lv_bipush (v := 80) hx hb dX6_simulate_6 (by decide) ?_
    refine lv_icmp_le (tgt := 22) hx hb dX6_simulate_8 (by decide) (fun c_1 => absurd (hc.resolve_left c_0) (Int32.not_lt.mpr c_1)) (fun c_1 => ?_)
    exact z_throwW (text := "there are 1 to 80 moves") (ik := 55) (is := 341) (ic := 59) hx hb hl0 htb hlocks hown (by decide) (hts (.classLink RX6 55 "java/lang/IllegalArgumentException") (by decide +kernel)) (hts (.initialized "java/lang/IllegalArgumentException") (by decide +kernel)) (hE.1.2.2 (341, "there are 1 to 80 moves") (List.mem_of_getElem? (i := 22) rfl)) hTh (List.mem_of_getElem? (i := 0) rfl) (fun w9 hw9 => hts w9 (List.mem_cons_of_mem _ (List.mem_append_right _ hw9))) (by decide +kernel) (by decide +kernel) hE hA hM (hl.1.trans hml.symm) dX6_simulate_11 dX6_simulate_14 dX6_simulate_15 dX6_simulate_18 dX6_simulate_21 (Nat.le_of_ble_eq_true rfl) (Nat.le_of_ble_eq_true rfl) (Nat.le_of_ble_eq_true rfl) (Nat.le_of_ble_eq_true rfl) (Nat.le_of_ble_eq_true rfl) (Nat.le_of_ble_eq_true rfl)

set_option maxHeartbeats 4000000 in
set_option maxRecDepth 100000 in
theorem c_x_sim2 (l : Launch) (G : zC) (o9 : Nat) (u0 u2 u3 u4 u5 u6 u7 : Value) (a : zGA) (h : Nat → Int32) (b : Nat → Nat → Int32) (x9 : Int64) (N : Nat) (hN1 : 1 ≤ N) (hN80 : N ≤ 80) (h0 : h 0 = 0) : zMet l G yX6_simulate wsX6_simulate rmX6_simulate [.ref o9, .long x9, .int (nI N)] ([(o9, .inr (6, [u0, .ref a.1, u2, u3, u4, u5, u6, u7]))] ++ (gmW G a h b)) (some (.int 0)) ([(o9, .inr (6, [u0, .ref a.1, u2, u3, u4, u5, u6, u7]))] ++ (gmW G a h b)) := by
  refine zMet_of (cc := cX6_simulate) (maxL := 5) (ret := (some .int)) (by decide) rfl (Nat.le_of_ble_eq_true rfl) ?_
  intro p e s m below meth c A ls hx hb hr hml hown hts hK hA hE hlocks hin hM hl
  have hown : s.vm.findClass RX6 = some m.cls := hown
  have hM : zM G A s s.heap [] ([(o9, .inr (6, [u0, .ref a.1, u2, u3, u4, u5, u6, u7]))] ++ (gmW G a h b)) := hM
  have hl : lv_has ls 5 [(0, .ref o9), (1, .long x9), (3, .int (nI N))] := hl
  refine lv_iload_n hx hb dX6_simulate_0 rfl (lv_at hl 2 rfl) ?_
  refine lv_iconst (v := nI 1) hx hb dX6_simulate_1 (by decide) ?_
  refine lv_icmp_lt (tgt := 11) hx hb dX6_simulate_2 (by decide) (fun c_1 => absurd c_1 (nI_nlt (by omega) (by omega))) (fun c_1 => ?_)
  refine lv_iload_n hx hb dX6_simulate_5 rfl (lv_at hl 2 rfl) ?_
  refine lv_bipush (v := nI 80) hx hb dX6_simulate_6 (by decide) ?_
  refine lv_icmp_le (tgt := 22) hx hb dX6_simulate_8 (by decide) (fun c_2 => ?_) (fun c_2 => absurd (nI_le (by omega) (by decide)) c_2)
  refine lv_aload_n hx hb dX6_simulate_22 rfl (lv_at hl 0 rfl) ?_
  refine z_get (ci := 6) (v := .ref a.1) (C := RX6) (T := TX6) (N := 8) hx hb hts (by decide +kernel) hown hK hM 0 rfl rfl 1 (by decide) (hts (.fieldLink RX6 19 "ShiftIsles" "state" "LShiftIsles$Game;") (by decide +kernel)) (fun _ h9 => h9) rfl dX6_simulate_23 ?_
  have hp9 : List.Perm ([(o9, .inr (6, [u0, .ref a.1, u2, u3, u4, u5, u6, u7]))] ++ (gmW G a h b) : va_W) ((gmW G a h b) ++ ([(o9, .inr (6, [u0, .ref a.1, u2, u3, u4, u5, u6, u7]))])) := (pm_cut (cs := [[(o9, .inr (6, [u0, .ref a.1, u2, u3, u4, u5, u6, u7]))], gmW G a h b]) (sub := [gmW G a h b]) (rest := [[(o9, .inr (6, [u0, .ref a.1, u2, u3, u4, u5, u6, u7]))]]) 2 [1] [0] rfl rfl rfl (by decide))
  have hq9 : List.Perm ((gmW G a h b) ++ ([(o9, .inr (6, [u0, .ref a.1, u2, u3, u4, u5, u6, u7]))])) ([(o9, .inr (6, [u0, .ref a.1, u2, u3, u4, u5, u6, u7]))] ++ (gmW G a h b) : va_W) := (pm_put (cs := [[(o9, .inr (6, [u0, .ref a.1, u2, u3, u4, u5, u6, u7]))], gmW G a h b]) (sub := [gmW G a h b]) (rest := [[(o9, .inr (6, [u0, .ref a.1, u2, u3, u4, u5, u6, u7]))]]) 2 [1] [0] rfl rfl rfl (by decide))
  refine z_callV (As := []) (rest := []) (wc := gmW G a h b) (wr := [(o9, .inr (6, [u0, .ref a.1, u2, u3, u4, u5, u6, u7]))]) (w1 := gmW G a h b) (ws' := [(o9, .inr (6, [u0, .ref a.1, u2, u3, u4, u5, u6, u7]))] ++ (gmW G a h b)) ⟨hx, hb, hml, hown, hts⟩ (c_g_players l G a h b  ) (cwV 0 hts gX6_simulate_X2_players rfl rfl rfl (by decide +kernel) ⟨Nat.le_of_ble_eq_true rfl, Nat.le_of_ble_eq_true rfl⟩) 2 rfl rfl rfl rfl hl.1 rfl (Nat.le_of_ble_eq_true rfl) dX6_simulate_26 ⟨Nat.le_of_ble_eq_true rfl, Nat.le_of_ble_eq_true rfl⟩ hK hE hA hM hp9 hq9 (fun H locs hM hz => ?_)
  refine lv_if_ne (tgt := 34) hx hb dX6_simulate_29 (by decide) (fun c_3 => absurd h0 c_3) (fun c_3 => ?_)
  refine lv_iconst (v := 0) hx hb dX6_simulate_32 (by decide) ?_
  exact z_iret hx hb hr hlocks dX6_simulate_33 hM (Nat.le_of_ble_eq_true rfl) (Nat.le_of_ble_eq_true rfl) rfl

set_option maxHeartbeats 4000000 in
set_option maxRecDepth 100000 in
theorem c_x_sim0 (l : Launch) (G : zC) (o9 : Nat) (u0 u5 u6 u7 : Value) (d9 : Nat) (x0 : Int64) (r9 : Nat) (sa : zBA) (u : zRU) (a : zGA) (h : Nat → Int32) (b : Nat → Nat → Int32) (ta : zGA) (th : Nat → Int32) (tb : Nat → Nat → Int32) (P t S e0 : Nat) (hG : zGs h b P t S e0) (x9 : Int64) (N : Nat) (hN1 : 1 ≤ N) (hN80 : N ≤ 80) (hP0 : 0 < P) : zMet l G yX6_simulate wsX6_simulate rmX6_simulate [.ref o9, .long x9, .int (nI N)] ([(o9, .inr (6, [u0, .ref a.1, .ref ta.1, .ref r9, .ref d9, u5, u6, u7])), (d9, .inr (1, [.long x0]))] ++ ((ruW G r9 sa u) ++ ((gmW G a h b) ++ (gmW G ta th tb)))) (some (.int (1000 * zTk (zSmV N x9 ((h, b), u)).2.1.2 P 0 0 + (zSmV N x9 ((h, b), u)).2.1.1 3))) ([(o9, .inr (6, [u0, .ref a.1, .ref ta.1, .ref r9, .ref d9, u5, u6, u7])), (d9, .inr (1, [.long ((zSmV N x9 ((h, b), u)).1)]))] ++ ((ruW G r9 sa ((zSmV N x9 ((h, b), u)).2.2)) ++ ((gmW G a h b) ++ (gmW G ta ((zSmV N x9 ((h, b), u)).2.1.1) ((zSmV N x9 ((h, b), u)).2.1.2))))) := by
  refine zMet_of (cc := cX6_simulate) (maxL := 5) (ret := (some .int)) (by decide) rfl (Nat.le_of_ble_eq_true rfl) ?_
  intro p e s m below meth c A ls hx hb hr hml hown hts hK hA hE hlocks hin hM hl
  have hown : s.vm.findClass RX6 = some m.cls := hown
  have hM : zM G A s s.heap [] ([(o9, .inr (6, [u0, .ref a.1, .ref ta.1, .ref r9, .ref d9, u5, u6, u7])), (d9, .inr (1, [.long x0]))] ++ ((ruW G r9 sa u) ++ ((gmW G a h b) ++ (gmW G ta th tb)))) := hM
  have hl : lv_has ls 5 [(0, .ref o9), (1, .long x9), (3, .int (nI N))] := hl
  have h0n : ¬ h 0 = 0 := by rw [hG.1.1.1]; exact nI_nz hP0 (by have := hG.1.1.2.1; omega)
  refine lv_iload_n hx hb dX6_simulate_0 rfl (lv_at hl 2 rfl) ?_
  refine lv_iconst (v := nI 1) hx hb dX6_simulate_1 (by decide) ?_
  refine lv_icmp_lt (tgt := 11) hx hb dX6_simulate_2 (by decide) (fun c_1 => absurd c_1 (nI_nlt (by omega) (by omega))) (fun c_1 => ?_)
  refine lv_iload_n hx hb dX6_simulate_5 rfl (lv_at hl 2 rfl) ?_
  refine lv_bipush (v := nI 80) hx hb dX6_simulate_6 (by decide) ?_
  refine lv_icmp_le (tgt := 22) hx hb dX6_simulate_8 (by decide) (fun c_2 => ?_) (fun c_2 => absurd (nI_le (by omega) (by decide)) c_2)
  refine lv_aload_n hx hb dX6_simulate_22 rfl (lv_at hl 0 rfl) ?_
  refine z_get (ci := 6) (v := .ref a.1) (C := RX6) (T := TX6) (N := 8) hx hb hts (by decide +kernel) hown hK hM 0 rfl rfl 1 (by decide) (hts (.fieldLink RX6 19 "ShiftIsles" "state" "LShiftIsles$Game;") (by decide +kernel)) (fun _ h9 => h9) rfl dX6_simulate_23 ?_
  have hp9 : List.Perm ([(o9, .inr (6, [u0, .ref a.1, .ref ta.1, .ref r9, .ref d9, u5, u6, u7])), (d9, .inr (1, [.long x0]))] ++ ((ruW G r9 sa u) ++ ((gmW G a h b) ++ (gmW G ta th tb))) : va_W) ((gmW G a h b) ++ ([(o9, .inr (6, [u0, .ref a.1, .ref ta.1, .ref r9, .ref d9, u5, u6, u7])), (d9, .inr (1, [.long x0]))] ++ ((ruW G r9 sa u) ++ (gmW G ta th tb)))) := (pm_cut (cs := [[(o9, .inr (6, [u0, .ref a.1, .ref ta.1, .ref r9, .ref d9, u5, u6, u7]))], [(d9, .inr (1, [.long x0]))], ruW G r9 sa u, gmW G a h b, gmW G ta th tb]) (sub := [gmW G a h b]) (rest := [[(o9, .inr (6, [u0, .ref a.1, .ref ta.1, .ref r9, .ref d9, u5, u6, u7]))], [(d9, .inr (1, [.long x0]))], ruW G r9 sa u, gmW G ta th tb]) 5 [3] [0, 1, 2, 4] rfl rfl rfl (by decide))
  have hq9 : List.Perm ((gmW G a h b) ++ ([(o9, .inr (6, [u0, .ref a.1, .ref ta.1, .ref r9, .ref d9, u5, u6, u7])), (d9, .inr (1, [.long x0]))] ++ ((ruW G r9 sa u) ++ (gmW G ta th tb)))) ([(o9, .inr (6, [u0, .ref a.1, .ref ta.1, .ref r9, .ref d9, u5, u6, u7])), (d9, .inr (1, [.long x0]))] ++ ((ruW G r9 sa u) ++ ((gmW G a h b) ++ (gmW G ta th tb))) : va_W) := (pm_put (cs := [[(o9, .inr (6, [u0, .ref a.1, .ref ta.1, .ref r9, .ref d9, u5, u6, u7]))], [(d9, .inr (1, [.long x0]))], ruW G r9 sa u, gmW G a h b, gmW G ta th tb]) (sub := [gmW G a h b]) (rest := [[(o9, .inr (6, [u0, .ref a.1, .ref ta.1, .ref r9, .ref d9, u5, u6, u7]))], [(d9, .inr (1, [.long x0]))], ruW G r9 sa u, gmW G ta th tb]) 5 [3] [0, 1, 2, 4] rfl rfl rfl (by decide))
  refine z_callV (As := []) (rest := []) (wc := gmW G a h b) (wr := [(o9, .inr (6, [u0, .ref a.1, .ref ta.1, .ref r9, .ref d9, u5, u6, u7])), (d9, .inr (1, [.long x0]))] ++ ((ruW G r9 sa u) ++ (gmW G ta th tb))) (w1 := gmW G a h b) (ws' := [(o9, .inr (6, [u0, .ref a.1, .ref ta.1, .ref r9, .ref d9, u5, u6, u7])), (d9, .inr (1, [.long x0]))] ++ ((ruW G r9 sa u) ++ ((gmW G a h b) ++ (gmW G ta th tb)))) ⟨hx, hb, hml, hown, hts⟩ (c_g_players l G a h b  ) (cwV 0 hts gX6_simulate_X2_players rfl rfl rfl (by decide +kernel) ⟨Nat.le_of_ble_eq_true rfl, Nat.le_of_ble_eq_true rfl⟩) 2 rfl rfl rfl rfl hl.1 rfl (Nat.le_of_ble_eq_true rfl) dX6_simulate_26 ⟨Nat.le_of_ble_eq_true rfl, Nat.le_of_ble_eq_true rfl⟩ hK hE hA hM hp9 hq9 (fun H locs hM hz => ?_)
  refine lv_if_ne (tgt := 34) hx hb dX6_simulate_29 (by decide) (fun c_3 => ?_) (fun c_3 => absurd c_3 h0n)
  refine lv_aload_n hx hb dX6_simulate_34 rfl (lv_at hl 0 rfl) ?_
  refine z_get (ci := 6) (v := .ref ta.1) (C := RX6) (T := TX6) (N := 8) hx hb hts (by decide +kernel) hown hK hM 0 rfl rfl 2 (by decide) (hts (.fieldLink RX6 23 "ShiftIsles" "trial" "LShiftIsles$Game;") (by decide +kernel)) (fun _ h9 => h9) rfl dX6_simulate_35 ?_
  refine lv_aload_n hx hb dX6_simulate_38 rfl (lv_at hl 0 rfl) ?_
  refine z_get (ci := 6) (v := .ref a.1) (C := RX6) (T := TX6) (N := 8) hx hb hts (by decide +kernel) hown hK hM 0 rfl rfl 1 (by decide) (hts (.fieldLink RX6 19 "ShiftIsles" "state" "LShiftIsles$Game;") (by decide +kernel)) (fun _ h9 => h9) rfl dX6_simulate_39 ?_
  have hp9 : List.Perm ([(o9, .inr (6, [u0, .ref a.1, .ref ta.1, .ref r9, .ref d9, u5, u6, u7])), (d9, .inr (1, [.long x0]))] ++ ((ruW G r9 sa u) ++ ((gmW G a h b) ++ (gmW G ta th tb))) : va_W) ((gmW G ta th tb ++ gmW G a h b) ++ ([(o9, .inr (6, [u0, .ref a.1, .ref ta.1, .ref r9, .ref d9, u5, u6, u7])), (d9, .inr (1, [.long x0]))] ++ (ruW G r9 sa u))) := (pm_cut (cs := [[(o9, .inr (6, [u0, .ref a.1, .ref ta.1, .ref r9, .ref d9, u5, u6, u7]))], [(d9, .inr (1, [.long x0]))], ruW G r9 sa u, gmW G a h b, gmW G ta th tb]) (sub := [gmW G ta th tb, gmW G a h b]) (rest := [[(o9, .inr (6, [u0, .ref a.1, .ref ta.1, .ref r9, .ref d9, u5, u6, u7]))], [(d9, .inr (1, [.long x0]))], ruW G r9 sa u]) 5 [4, 3] [0, 1, 2] rfl rfl rfl (by decide))
  have hq9 : List.Perm ((gmW G ta h b ++ gmW G a h b) ++ ([(o9, .inr (6, [u0, .ref a.1, .ref ta.1, .ref r9, .ref d9, u5, u6, u7])), (d9, .inr (1, [.long x0]))] ++ (ruW G r9 sa u))) ([(o9, .inr (6, [u0, .ref a.1, .ref ta.1, .ref r9, .ref d9, u5, u6, u7])), (d9, .inr (1, [.long x0]))] ++ ((ruW G r9 sa u) ++ ((gmW G a h b) ++ (gmW G ta h b))) : va_W) := (pm_put (cs := [[(o9, .inr (6, [u0, .ref a.1, .ref ta.1, .ref r9, .ref d9, u5, u6, u7]))], [(d9, .inr (1, [.long x0]))], ruW G r9 sa u, gmW G a h b, gmW G ta h b]) (sub := [gmW G ta h b, gmW G a h b]) (rest := [[(o9, .inr (6, [u0, .ref a.1, .ref ta.1, .ref r9, .ref d9, u5, u6, u7]))], [(d9, .inr (1, [.long x0]))], ruW G r9 sa u]) 5 [4, 3] [0, 1, 2] rfl rfl rfl (by decide))
  refine z_callV (As := [.ref a.1]) (rest := []) (wc := gmW G ta th tb ++ gmW G a h b) (wr := [(o9, .inr (6, [u0, .ref a.1, .ref ta.1, .ref r9, .ref d9, u5, u6, u7])), (d9, .inr (1, [.long x0]))] ++ (ruW G r9 sa u)) (w1 := gmW G ta h b ++ gmW G a h b) (ws' := [(o9, .inr (6, [u0, .ref a.1, .ref ta.1, .ref r9, .ref d9, u5, u6, u7])), (d9, .inr (1, [.long x0]))] ++ ((ruW G r9 sa u) ++ ((gmW G a h b) ++ (gmW G ta h b)))) ⟨hx, hb, hml, hown, hts⟩ (c_gmCopy l G ta a th h tb b hG.1.1.2.2.2.2.2.2.1 hG.1.1.2.2.2.2.2.2.2) (cwV 1 hts gX6_simulate_X2_copyFrom rfl rfl rfl (by decide +kernel) ⟨Nat.le_of_ble_eq_true rfl, Nat.le_of_ble_eq_true rfl⟩) 2 rfl rfl rfl rfl hl.1 rfl (Nat.le_of_ble_eq_true rfl) dX6_simulate_42 ⟨Nat.le_of_ble_eq_true rfl, Nat.le_of_ble_eq_true rfl⟩ hK hE hA hM hp9 hq9 (fun H locs hM hz => ?_)
  refine lv_aload_n hx hb dX6_simulate_45 rfl (lv_at hl 0 rfl) ?_
  refine z_get (ci := 6) (v := .ref d9) (C := RX6) (T := TX6) (N := 8) hx hb hts (by decide +kernel) hown hK hM 0 rfl rfl 4 (by decide) (hts (.fieldLink RX6 36 "ShiftIsles" "draws" "LShiftIsles$Draws;") (by decide +kernel)) (fun _ h9 => h9) rfl dX6_simulate_46 ?_
  refine lv_lload_n hx hb dX6_simulate_49 rfl (lv_at hl 1 rfl) ?_
  have hp9 : List.Perm ([(o9, .inr (6, [u0, .ref a.1, .ref ta.1, .ref r9, .ref d9, u5, u6, u7])), (d9, .inr (1, [.long x0]))] ++ ((ruW G r9 sa u) ++ ((gmW G a h b) ++ (gmW G ta h b))) : va_W) ((drW d9 x0) ++ ([(o9, .inr (6, [u0, .ref a.1, .ref ta.1, .ref r9, .ref d9, u5, u6, u7]))] ++ ((ruW G r9 sa u) ++ ((gmW G a h b) ++ (gmW G ta h b))))) := (pm_cut (cs := [[(o9, .inr (6, [u0, .ref a.1, .ref ta.1, .ref r9, .ref d9, u5, u6, u7]))], [(d9, .inr (1, [.long x0]))], ruW G r9 sa u, gmW G a h b, gmW G ta h b]) (sub := [[(d9, .inr (1, [.long x0]))]]) (rest := [[(o9, .inr (6, [u0, .ref a.1, .ref ta.1, .ref r9, .ref d9, u5, u6, u7]))], ruW G r9 sa u, gmW G a h b, gmW G ta h b]) 5 [1] [0, 2, 3, 4] rfl rfl rfl (by decide))
  have hq9 : List.Perm ((drW d9 x9) ++ ([(o9, .inr (6, [u0, .ref a.1, .ref ta.1, .ref r9, .ref d9, u5, u6, u7]))] ++ ((ruW G r9 sa u) ++ ((gmW G a h b) ++ (gmW G ta h b))))) ([(o9, .inr (6, [u0, .ref a.1, .ref ta.1, .ref r9, .ref d9, u5, u6, u7])), (d9, .inr (1, [.long x9]))] ++ ((ruW G r9 sa u) ++ ((gmW G a h b) ++ (gmW G ta h b))) : va_W) := (pm_put (cs := [[(o9, .inr (6, [u0, .ref a.1, .ref ta.1, .ref r9, .ref d9, u5, u6, u7]))], [(d9, .inr (1, [.long x9]))], ruW G r9 sa u, gmW G a h b, gmW G ta h b]) (sub := [[(d9, .inr (1, [.long x9]))]]) (rest := [[(o9, .inr (6, [u0, .ref a.1, .ref ta.1, .ref r9, .ref d9, u5, u6, u7]))], ruW G r9 sa u, gmW G a h b, gmW G ta h b]) 5 [1] [0, 2, 3, 4] rfl rfl rfl (by decide))
  refine z_callV (As := [.long x9]) (rest := []) (wc := drW d9 x0) (wr := [(o9, .inr (6, [u0, .ref a.1, .ref ta.1, .ref r9, .ref d9, u5, u6, u7]))] ++ ((ruW G r9 sa u) ++ ((gmW G a h b) ++ (gmW G ta h b)))) (w1 := drW d9 x9) (ws' := [(o9, .inr (6, [u0, .ref a.1, .ref ta.1, .ref r9, .ref d9, u5, u6, u7])), (d9, .inr (1, [.long x9]))] ++ ((ruW G r9 sa u) ++ ((gmW G a h b) ++ (gmW G ta h b)))) ⟨hx, hb, hml, hown, hts⟩ (c_startWith l G d9 x0 x9) (cwV 1 hts gX6_simulate_X1_startWith rfl rfl rfl (by decide +kernel) ⟨Nat.le_of_ble_eq_true rfl, Nat.le_of_ble_eq_true rfl⟩) 1 rfl rfl rfl rfl hl.1 rfl (Nat.le_of_ble_eq_true rfl) dX6_simulate_50 ⟨Nat.le_of_ble_eq_true rfl, Nat.le_of_ble_eq_true rfl⟩ hK hE hA hM hp9 hq9 (fun H locs hM hz => ?_)
  refine lv_iconst (v := nI 0) hx hb dX6_simulate_53 (by decide) ?_
  refine lv_istore (lv' := [(4, .int (nI 0)), (0, .ref o9), (1, .long x9), (3, .int (nI N))]) hx hb dX6_simulate_54 hl (by decide) rfl (fun ls hl => ?_)
  have lp56 : ∀ (k : Nat) (i : Nat) (y : Int64) (v1 : zRU) (g1 : Nat → Int32) (d1 : Nat → Nat → Int32) (t1 e1 : Nat), (i + k = N) → (zGs g1 d1 P t1 S e1) → ((zSmV N x9 ((h, b), u)) = zSmV k y ((g1, d1), v1)) → ∀ (H : Heap) (locs : List Loc), zM G A s H locs ([(o9, .inr (6, [u0, .ref a.1, .ref ta.1, .ref r9, .ref d9, u5, u6, u7])), (d9, .inr (1, [.long y]))] ++ ((ruW G r9 sa v1) ++ ((gmW G a h b) ++ (gmW G ta g1 d1)))) → ∀ ls : Array Slot, lv_has ls 5 [(0, .ref o9), (1, .long x9), (3, .int (nI N)), (4, .int (nI i))] → W p l e rmX6_simulate s m ([.ref o9, .long x9, .int (nI N)] : List Value).toArray below meth c H locs 0 0 (zEnd G below ([.ref o9, .long x9, .int (nI N)] : List Value).toArray s rmX6_simulate A (some (.int (1000 * zTk (zSmV N x9 ((h, b), u)).2.1.2 P 0 0 + (zSmV N x9 ((h, b), u)).2.1.1 3))) ([(o9, .inr (6, [u0, .ref a.1, .ref ta.1, .ref r9, .ref d9, u5, u6, u7])), (d9, .inr (1, [.long ((zSmV N x9 ((h, b), u)).1)]))] ++ ((ruW G r9 sa ((zSmV N x9 ((h, b), u)).2.2)) ++ ((gmW G a h b) ++ (gmW G ta ((zSmV N x9 ((h, b), u)).2.1.1) ((zSmV N x9 ((h, b), u)).2.1.2)))))) (F0 m 56 ls []) := by
    intro k
    induction k with
    | zero =>
      intro i y v1 g1 d1 t1 e1 hik hG1 hR H locs hM ls hl
      refine lv_iload hx hb dX6_simulate_56 (lv_at hl 3 rfl) ?_
      refine lv_iload_n hx hb dX6_simulate_58 rfl (lv_at hl 2 rfl) ?_
      refine lv_icmp_ge (tgt := 89) hx hb dX6_simulate_59 (by decide) (fun c_4 => ?_) (fun c_4 => absurd (nI_le (by omega) (by omega)) c_4)
      have hZ : (zSmV N x9 ((h, b), u)) = (y, ((g1, d1), v1)) := hR
      refine lv_sipush (v := 1000) hx hb dX6_simulate_89 (by decide) ?_
      refine lv_aload_n hx hb dX6_simulate_92 rfl (lv_at hl 0 rfl) ?_
      refine z_get (ci := 6) (v := .ref ta.1) (C := RX6) (T := TX6) (N := 8) hx hb hts (by decide +kernel) hown hK hM 0 rfl rfl 2 (by decide) (hts (.fieldLink RX6 23 "ShiftIsles" "trial" "LShiftIsles$Game;") (by decide +kernel)) (fun _ h9 => h9) rfl dX6_simulate_93 ?_
      have hp9 : List.Perm ([(o9, .inr (6, [u0, .ref a.1, .ref ta.1, .ref r9, .ref d9, u5, u6, u7])), (d9, .inr (1, [.long y]))] ++ ((ruW G r9 sa v1) ++ ((gmW G a h b) ++ (gmW G ta g1 d1))) : va_W) ((gmW G ta g1 d1) ++ ([(o9, .inr (6, [u0, .ref a.1, .ref ta.1, .ref r9, .ref d9, u5, u6, u7])), (d9, .inr (1, [.long y]))] ++ ((ruW G r9 sa v1) ++ (gmW G a h b)))) := (pm_cut (cs := [[(o9, .inr (6, [u0, .ref a.1, .ref ta.1, .ref r9, .ref d9, u5, u6, u7]))], [(d9, .inr (1, [.long y]))], ruW G r9 sa v1, gmW G a h b, gmW G ta g1 d1]) (sub := [gmW G ta g1 d1]) (rest := [[(o9, .inr (6, [u0, .ref a.1, .ref ta.1, .ref r9, .ref d9, u5, u6, u7]))], [(d9, .inr (1, [.long y]))], ruW G r9 sa v1, gmW G a h b]) 5 [4] [0, 1, 2, 3] rfl rfl rfl (by decide))
      have hq9 : List.Perm ((gmW G ta g1 d1) ++ ([(o9, .inr (6, [u0, .ref a.1, .ref ta.1, .ref r9, .ref d9, u5, u6, u7])), (d9, .inr (1, [.long y]))] ++ ((ruW G r9 sa v1) ++ (gmW G a h b)))) ([(o9, .inr (6, [u0, .ref a.1, .ref ta.1, .ref r9, .ref d9, u5, u6, u7])), (d9, .inr (1, [.long y]))] ++ ((ruW G r9 sa v1) ++ ((gmW G a h b) ++ (gmW G ta g1 d1))) : va_W) := (pm_put (cs := [[(o9, .inr (6, [u0, .ref a.1, .ref ta.1, .ref r9, .ref d9, u5, u6, u7]))], [(d9, .inr (1, [.long y]))], ruW G r9 sa v1, gmW G a h b, gmW G ta g1 d1]) (sub := [gmW G ta g1 d1]) (rest := [[(o9, .inr (6, [u0, .ref a.1, .ref ta.1, .ref r9, .ref d9, u5, u6, u7]))], [(d9, .inr (1, [.long y]))], ruW G r9 sa v1, gmW G a h b]) 5 [4] [0, 1, 2, 3] rfl rfl rfl (by decide))
      refine z_callV (As := []) (rest := [.int 1000]) (wc := gmW G ta g1 d1) (wr := [(o9, .inr (6, [u0, .ref a.1, .ref ta.1, .ref r9, .ref d9, u5, u6, u7])), (d9, .inr (1, [.long y]))] ++ ((ruW G r9 sa v1) ++ (gmW G a h b))) (w1 := gmW G ta g1 d1) (ws' := [(o9, .inr (6, [u0, .ref a.1, .ref ta.1, .ref r9, .ref d9, u5, u6, u7])), (d9, .inr (1, [.long y]))] ++ ((ruW G r9 sa v1) ++ ((gmW G a h b) ++ (gmW G ta g1 d1)))) ⟨hx, hb, hml, hown, hts⟩ (c_takenByAll l G ta g1 d1 P hG1.1.1.1 hG1.1.1.2.1 ) (cwV 0 hts gX6_simulate_X2_takenByAll rfl rfl rfl (by decide +kernel) ⟨Nat.le_of_ble_eq_true rfl, Nat.le_of_ble_eq_true rfl⟩) 2 rfl rfl rfl rfl hl.1 rfl (Nat.le_of_ble_eq_true rfl) dX6_simulate_96 ⟨Nat.le_of_ble_eq_true rfl, Nat.le_of_ble_eq_true rfl⟩ hK hE hA hM hp9 hq9 (fun H locs hM hz => ?_)
      refine lv_imul hx hb dX6_simulate_99 ?_
      refine lv_aload_n hx hb dX6_simulate_100 rfl (lv_at hl 0 rfl) ?_
      refine z_get (ci := 6) (v := .ref ta.1) (C := RX6) (T := TX6) (N := 8) hx hb hts (by decide +kernel) hown hK hM 0 rfl rfl 2 (by decide) (hts (.fieldLink RX6 23 "ShiftIsles" "trial" "LShiftIsles$Game;") (by decide +kernel)) (fun _ h9 => h9) rfl dX6_simulate_101 ?_
      have hp9 : List.Perm ([(o9, .inr (6, [u0, .ref a.1, .ref ta.1, .ref r9, .ref d9, u5, u6, u7])), (d9, .inr (1, [.long y]))] ++ ((ruW G r9 sa v1) ++ ((gmW G a h b) ++ (gmW G ta g1 d1))) : va_W) ((gmW G ta g1 d1) ++ ([(o9, .inr (6, [u0, .ref a.1, .ref ta.1, .ref r9, .ref d9, u5, u6, u7])), (d9, .inr (1, [.long y]))] ++ ((ruW G r9 sa v1) ++ (gmW G a h b)))) := (pm_cut (cs := [[(o9, .inr (6, [u0, .ref a.1, .ref ta.1, .ref r9, .ref d9, u5, u6, u7]))], [(d9, .inr (1, [.long y]))], ruW G r9 sa v1, gmW G a h b, gmW G ta g1 d1]) (sub := [gmW G ta g1 d1]) (rest := [[(o9, .inr (6, [u0, .ref a.1, .ref ta.1, .ref r9, .ref d9, u5, u6, u7]))], [(d9, .inr (1, [.long y]))], ruW G r9 sa v1, gmW G a h b]) 5 [4] [0, 1, 2, 3] rfl rfl rfl (by decide))
      have hq9 : List.Perm ((gmW G ta g1 d1) ++ ([(o9, .inr (6, [u0, .ref a.1, .ref ta.1, .ref r9, .ref d9, u5, u6, u7])), (d9, .inr (1, [.long y]))] ++ ((ruW G r9 sa v1) ++ (gmW G a h b)))) ([(o9, .inr (6, [u0, .ref a.1, .ref ta.1, .ref r9, .ref d9, u5, u6, u7])), (d9, .inr (1, [.long y]))] ++ ((ruW G r9 sa v1) ++ ((gmW G a h b) ++ (gmW G ta g1 d1))) : va_W) := (pm_put (cs := [[(o9, .inr (6, [u0, .ref a.1, .ref ta.1, .ref r9, .ref d9, u5, u6, u7]))], [(d9, .inr (1, [.long y]))], ruW G r9 sa v1, gmW G a h b, gmW G ta g1 d1]) (sub := [gmW G ta g1 d1]) (rest := [[(o9, .inr (6, [u0, .ref a.1, .ref ta.1, .ref r9, .ref d9, u5, u6, u7]))], [(d9, .inr (1, [.long y]))], ruW G r9 sa v1, gmW G a h b]) 5 [4] [0, 1, 2, 3] rfl rfl rfl (by decide))
      refine z_callV (As := []) (rest := [.int (1000 * (zTk d1 P 0 0))]) (wc := gmW G ta g1 d1) (wr := [(o9, .inr (6, [u0, .ref a.1, .ref ta.1, .ref r9, .ref d9, u5, u6, u7])), (d9, .inr (1, [.long y]))] ++ ((ruW G r9 sa v1) ++ (gmW G a h b))) (w1 := gmW G ta g1 d1) (ws' := [(o9, .inr (6, [u0, .ref a.1, .ref ta.1, .ref r9, .ref d9, u5, u6, u7])), (d9, .inr (1, [.long y]))] ++ ((ruW G r9 sa v1) ++ ((gmW G a h b) ++ (gmW G ta g1 d1)))) ⟨hx, hb, hml, hown, hts⟩ (c_g_ended l G ta g1 d1  ) (cwV 0 hts gX6_simulate_X2_ended rfl rfl rfl (by decide +kernel) ⟨Nat.le_of_ble_eq_true rfl, Nat.le_of_ble_eq_true rfl⟩) 2 rfl rfl rfl rfl hl.1 rfl (Nat.le_of_ble_eq_true rfl) dX6_simulate_104 ⟨Nat.le_of_ble_eq_true rfl, Nat.le_of_ble_eq_true rfl⟩ hK hE hA hM hp9 hq9 (fun H locs hM hz => ?_)
      refine lv_iadd hx hb dX6_simulate_107 ?_
      exact z_iret hx hb hr hlocks dX6_simulate_108 (by rw [hZ]; exact hM) (Nat.le_of_ble_eq_true rfl) (Nat.le_of_ble_eq_true rfl) (by rw [hZ])
    | succ k ih =>
      intro i y v1 g1 d1 t1 e1 hik hG1 hR H locs hM ls hl
      refine lv_iload hx hb dX6_simulate_56 (lv_at hl 3 rfl) ?_
      refine lv_iload_n hx hb dX6_simulate_58 rfl (lv_at hl 2 rfl) ?_
      refine lv_icmp_ge (tgt := 89) hx hb dX6_simulate_59 (by decide) (fun c_5 => absurd c_5 (nI_ge (by omega) (by omega))) (fun c_5 => ?_)
      refine lv_aload_n hx hb dX6_simulate_62 rfl (lv_at hl 0 rfl) ?_
      refine z_get (ci := 6) (v := .ref ta.1) (C := RX6) (T := TX6) (N := 8) hx hb hts (by decide +kernel) hown hK hM 0 rfl rfl 2 (by decide) (hts (.fieldLink RX6 23 "ShiftIsles" "trial" "LShiftIsles$Game;") (by decide +kernel)) (fun _ h9 => h9) rfl dX6_simulate_63 ?_
      have hp9 : List.Perm ([(o9, .inr (6, [u0, .ref a.1, .ref ta.1, .ref r9, .ref d9, u5, u6, u7])), (d9, .inr (1, [.long y]))] ++ ((ruW G r9 sa v1) ++ ((gmW G a h b) ++ (gmW G ta g1 d1))) : va_W) ((gmW G ta g1 d1) ++ ([(o9, .inr (6, [u0, .ref a.1, .ref ta.1, .ref r9, .ref d9, u5, u6, u7])), (d9, .inr (1, [.long y]))] ++ ((ruW G r9 sa v1) ++ (gmW G a h b)))) := (pm_cut (cs := [[(o9, .inr (6, [u0, .ref a.1, .ref ta.1, .ref r9, .ref d9, u5, u6, u7]))], [(d9, .inr (1, [.long y]))], ruW G r9 sa v1, gmW G a h b, gmW G ta g1 d1]) (sub := [gmW G ta g1 d1]) (rest := [[(o9, .inr (6, [u0, .ref a.1, .ref ta.1, .ref r9, .ref d9, u5, u6, u7]))], [(d9, .inr (1, [.long y]))], ruW G r9 sa v1, gmW G a h b]) 5 [4] [0, 1, 2, 3] rfl rfl rfl (by decide))
      have hq9 : List.Perm ((gmW G ta g1 d1) ++ ([(o9, .inr (6, [u0, .ref a.1, .ref ta.1, .ref r9, .ref d9, u5, u6, u7])), (d9, .inr (1, [.long y]))] ++ ((ruW G r9 sa v1) ++ (gmW G a h b)))) ([(o9, .inr (6, [u0, .ref a.1, .ref ta.1, .ref r9, .ref d9, u5, u6, u7])), (d9, .inr (1, [.long y]))] ++ ((ruW G r9 sa v1) ++ ((gmW G a h b) ++ (gmW G ta g1 d1))) : va_W) := (pm_put (cs := [[(o9, .inr (6, [u0, .ref a.1, .ref ta.1, .ref r9, .ref d9, u5, u6, u7]))], [(d9, .inr (1, [.long y]))], ruW G r9 sa v1, gmW G a h b, gmW G ta g1 d1]) (sub := [gmW G ta g1 d1]) (rest := [[(o9, .inr (6, [u0, .ref a.1, .ref ta.1, .ref r9, .ref d9, u5, u6, u7]))], [(d9, .inr (1, [.long y]))], ruW G r9 sa v1, gmW G a h b]) 5 [4] [0, 1, 2, 3] rfl rfl rfl (by decide))
      refine z_callV (As := []) (rest := []) (wc := gmW G ta g1 d1) (wr := [(o9, .inr (6, [u0, .ref a.1, .ref ta.1, .ref r9, .ref d9, u5, u6, u7])), (d9, .inr (1, [.long y]))] ++ ((ruW G r9 sa v1) ++ (gmW G a h b))) (w1 := gmW G ta g1 d1) (ws' := [(o9, .inr (6, [u0, .ref a.1, .ref ta.1, .ref r9, .ref d9, u5, u6, u7])), (d9, .inr (1, [.long y]))] ++ ((ruW G r9 sa v1) ++ ((gmW G a h b) ++ (gmW G ta g1 d1)))) ⟨hx, hb, hml, hown, hts⟩ (c_isRunning l G ta g1 d1  ) (cwV 0 hts gX6_simulate_X2_isRunning rfl rfl rfl (by decide +kernel) ⟨Nat.le_of_ble_eq_true rfl, Nat.le_of_ble_eq_true rfl⟩) 2 rfl rfl rfl rfl hl.1 rfl (Nat.le_of_ble_eq_true rfl) dX6_simulate_66 ⟨Nat.le_of_ble_eq_true rfl, Nat.le_of_ble_eq_true rfl⟩ hK hE hA hM hp9 hq9 (fun H locs hM hz => ?_)
      refine z_ifeq (tgt := 89) hx hb dX6_simulate_69 (by decide) (fun c_r => ?_) (fun c_r => ?_)
      · skip
        have hZ : (zSmV N x9 ((h, b), u)) = (y, ((g1, d1), v1)) := hR.trans (zSmV_off (fun q => Bool.noConfusion (c_r.symm.trans q)))
        refine lv_sipush (v := 1000) hx hb dX6_simulate_89 (by decide) ?_
        refine lv_aload_n hx hb dX6_simulate_92 rfl (lv_at hl 0 rfl) ?_
        refine z_get (ci := 6) (v := .ref ta.1) (C := RX6) (T := TX6) (N := 8) hx hb hts (by decide +kernel) hown hK hM 0 rfl rfl 2 (by decide) (hts (.fieldLink RX6 23 "ShiftIsles" "trial" "LShiftIsles$Game;") (by decide +kernel)) (fun _ h9 => h9) rfl dX6_simulate_93 ?_
        have hp9 : List.Perm ([(o9, .inr (6, [u0, .ref a.1, .ref ta.1, .ref r9, .ref d9, u5, u6, u7])), (d9, .inr (1, [.long y]))] ++ ((ruW G r9 sa v1) ++ ((gmW G a h b) ++ (gmW G ta g1 d1))) : va_W) ((gmW G ta g1 d1) ++ ([(o9, .inr (6, [u0, .ref a.1, .ref ta.1, .ref r9, .ref d9, u5, u6, u7])), (d9, .inr (1, [.long y]))] ++ ((ruW G r9 sa v1) ++ (gmW G a h b)))) := (pm_cut (cs := [[(o9, .inr (6, [u0, .ref a.1, .ref ta.1, .ref r9, .ref d9, u5, u6, u7]))], [(d9, .inr (1, [.long y]))], ruW G r9 sa v1, gmW G a h b, gmW G ta g1 d1]) (sub := [gmW G ta g1 d1]) (rest := [[(o9, .inr (6, [u0, .ref a.1, .ref ta.1, .ref r9, .ref d9, u5, u6, u7]))], [(d9, .inr (1, [.long y]))], ruW G r9 sa v1, gmW G a h b]) 5 [4] [0, 1, 2, 3] rfl rfl rfl (by decide))
        have hq9 : List.Perm ((gmW G ta g1 d1) ++ ([(o9, .inr (6, [u0, .ref a.1, .ref ta.1, .ref r9, .ref d9, u5, u6, u7])), (d9, .inr (1, [.long y]))] ++ ((ruW G r9 sa v1) ++ (gmW G a h b)))) ([(o9, .inr (6, [u0, .ref a.1, .ref ta.1, .ref r9, .ref d9, u5, u6, u7])), (d9, .inr (1, [.long y]))] ++ ((ruW G r9 sa v1) ++ ((gmW G a h b) ++ (gmW G ta g1 d1))) : va_W) := (pm_put (cs := [[(o9, .inr (6, [u0, .ref a.1, .ref ta.1, .ref r9, .ref d9, u5, u6, u7]))], [(d9, .inr (1, [.long y]))], ruW G r9 sa v1, gmW G a h b, gmW G ta g1 d1]) (sub := [gmW G ta g1 d1]) (rest := [[(o9, .inr (6, [u0, .ref a.1, .ref ta.1, .ref r9, .ref d9, u5, u6, u7]))], [(d9, .inr (1, [.long y]))], ruW G r9 sa v1, gmW G a h b]) 5 [4] [0, 1, 2, 3] rfl rfl rfl (by decide))
        refine z_callV (As := []) (rest := [.int 1000]) (wc := gmW G ta g1 d1) (wr := [(o9, .inr (6, [u0, .ref a.1, .ref ta.1, .ref r9, .ref d9, u5, u6, u7])), (d9, .inr (1, [.long y]))] ++ ((ruW G r9 sa v1) ++ (gmW G a h b))) (w1 := gmW G ta g1 d1) (ws' := [(o9, .inr (6, [u0, .ref a.1, .ref ta.1, .ref r9, .ref d9, u5, u6, u7])), (d9, .inr (1, [.long y]))] ++ ((ruW G r9 sa v1) ++ ((gmW G a h b) ++ (gmW G ta g1 d1)))) ⟨hx, hb, hml, hown, hts⟩ (c_takenByAll l G ta g1 d1 P hG1.1.1.1 hG1.1.1.2.1 ) (cwV 0 hts gX6_simulate_X2_takenByAll rfl rfl rfl (by decide +kernel) ⟨Nat.le_of_ble_eq_true rfl, Nat.le_of_ble_eq_true rfl⟩) 2 rfl rfl rfl rfl hl.1 rfl (Nat.le_of_ble_eq_true rfl) dX6_simulate_96 ⟨Nat.le_of_ble_eq_true rfl, Nat.le_of_ble_eq_true rfl⟩ hK hE hA hM hp9 hq9 (fun H locs hM hz => ?_)
        refine lv_imul hx hb dX6_simulate_99 ?_
        refine lv_aload_n hx hb dX6_simulate_100 rfl (lv_at hl 0 rfl) ?_
        refine z_get (ci := 6) (v := .ref ta.1) (C := RX6) (T := TX6) (N := 8) hx hb hts (by decide +kernel) hown hK hM 0 rfl rfl 2 (by decide) (hts (.fieldLink RX6 23 "ShiftIsles" "trial" "LShiftIsles$Game;") (by decide +kernel)) (fun _ h9 => h9) rfl dX6_simulate_101 ?_
        have hp9 : List.Perm ([(o9, .inr (6, [u0, .ref a.1, .ref ta.1, .ref r9, .ref d9, u5, u6, u7])), (d9, .inr (1, [.long y]))] ++ ((ruW G r9 sa v1) ++ ((gmW G a h b) ++ (gmW G ta g1 d1))) : va_W) ((gmW G ta g1 d1) ++ ([(o9, .inr (6, [u0, .ref a.1, .ref ta.1, .ref r9, .ref d9, u5, u6, u7])), (d9, .inr (1, [.long y]))] ++ ((ruW G r9 sa v1) ++ (gmW G a h b)))) := (pm_cut (cs := [[(o9, .inr (6, [u0, .ref a.1, .ref ta.1, .ref r9, .ref d9, u5, u6, u7]))], [(d9, .inr (1, [.long y]))], ruW G r9 sa v1, gmW G a h b, gmW G ta g1 d1]) (sub := [gmW G ta g1 d1]) (rest := [[(o9, .inr (6, [u0, .ref a.1, .ref ta.1, .ref r9, .ref d9, u5, u6, u7]))], [(d9, .inr (1, [.long y]))], ruW G r9 sa v1, gmW G a h b]) 5 [4] [0, 1, 2, 3] rfl rfl rfl (by decide))
        have hq9 : List.Perm ((gmW G ta g1 d1) ++ ([(o9, .inr (6, [u0, .ref a.1, .ref ta.1, .ref r9, .ref d9, u5, u6, u7])), (d9, .inr (1, [.long y]))] ++ ((ruW G r9 sa v1) ++ (gmW G a h b)))) ([(o9, .inr (6, [u0, .ref a.1, .ref ta.1, .ref r9, .ref d9, u5, u6, u7])), (d9, .inr (1, [.long y]))] ++ ((ruW G r9 sa v1) ++ ((gmW G a h b) ++ (gmW G ta g1 d1))) : va_W) := (pm_put (cs := [[(o9, .inr (6, [u0, .ref a.1, .ref ta.1, .ref r9, .ref d9, u5, u6, u7]))], [(d9, .inr (1, [.long y]))], ruW G r9 sa v1, gmW G a h b, gmW G ta g1 d1]) (sub := [gmW G ta g1 d1]) (rest := [[(o9, .inr (6, [u0, .ref a.1, .ref ta.1, .ref r9, .ref d9, u5, u6, u7]))], [(d9, .inr (1, [.long y]))], ruW G r9 sa v1, gmW G a h b]) 5 [4] [0, 1, 2, 3] rfl rfl rfl (by decide))
        refine z_callV (As := []) (rest := [.int (1000 * (zTk d1 P 0 0))]) (wc := gmW G ta g1 d1) (wr := [(o9, .inr (6, [u0, .ref a.1, .ref ta.1, .ref r9, .ref d9, u5, u6, u7])), (d9, .inr (1, [.long y]))] ++ ((ruW G r9 sa v1) ++ (gmW G a h b))) (w1 := gmW G ta g1 d1) (ws' := [(o9, .inr (6, [u0, .ref a.1, .ref ta.1, .ref r9, .ref d9, u5, u6, u7])), (d9, .inr (1, [.long y]))] ++ ((ruW G r9 sa v1) ++ ((gmW G a h b) ++ (gmW G ta g1 d1)))) ⟨hx, hb, hml, hown, hts⟩ (c_g_ended l G ta g1 d1  ) (cwV 0 hts gX6_simulate_X2_ended rfl rfl rfl (by decide +kernel) ⟨Nat.le_of_ble_eq_true rfl, Nat.le_of_ble_eq_true rfl⟩) 2 rfl rfl rfl rfl hl.1 rfl (Nat.le_of_ble_eq_true rfl) dX6_simulate_104 ⟨Nat.le_of_ble_eq_true rfl, Nat.le_of_ble_eq_true rfl⟩ hK hE hA hM hp9 hq9 (fun H locs hM hz => ?_)
        refine lv_iadd hx hb dX6_simulate_107 ?_
        exact z_iret hx hb hr hlocks dX6_simulate_108 (by rw [hZ]; exact hM) (Nat.le_of_ble_eq_true rfl) (Nat.le_of_ble_eq_true rfl) (by rw [hZ])
      · skip
        refine lv_aload_n hx hb dX6_simulate_72 rfl (lv_at hl 0 rfl) ?_
        refine lv_aload_n hx hb dX6_simulate_73 rfl (lv_at hl 0 rfl) ?_
        refine z_get (ci := 6) (v := .ref d9) (C := RX6) (T := TX6) (N := 8) hx hb hts (by decide +kernel) hown hK hM 0 rfl rfl 4 (by decide) (hts (.fieldLink RX6 36 "ShiftIsles" "draws" "LShiftIsles$Draws;") (by decide +kernel)) (fun _ h9 => h9) rfl dX6_simulate_74 ?_
        have hp9 : List.Perm ([(o9, .inr (6, [u0, .ref a.1, .ref ta.1, .ref r9, .ref d9, u5, u6, u7])), (d9, .inr (1, [.long y]))] ++ ((ruW G r9 sa v1) ++ ((gmW G a h b) ++ (gmW G ta g1 d1))) : va_W) ((drW d9 y) ++ ([(o9, .inr (6, [u0, .ref a.1, .ref ta.1, .ref r9, .ref d9, u5, u6, u7]))] ++ ((ruW G r9 sa v1) ++ ((gmW G a h b) ++ (gmW G ta g1 d1))))) := (pm_cut (cs := [[(o9, .inr (6, [u0, .ref a.1, .ref ta.1, .ref r9, .ref d9, u5, u6, u7]))], [(d9, .inr (1, [.long y]))], ruW G r9 sa v1, gmW G a h b, gmW G ta g1 d1]) (sub := [[(d9, .inr (1, [.long y]))]]) (rest := [[(o9, .inr (6, [u0, .ref a.1, .ref ta.1, .ref r9, .ref d9, u5, u6, u7]))], ruW G r9 sa v1, gmW G a h b, gmW G ta g1 d1]) 5 [1] [0, 2, 3, 4] rfl rfl rfl (by decide))
        have hq9 : List.Perm ((drW d9 (zNx y)) ++ ([(o9, .inr (6, [u0, .ref a.1, .ref ta.1, .ref r9, .ref d9, u5, u6, u7]))] ++ ((ruW G r9 sa v1) ++ ((gmW G a h b) ++ (gmW G ta g1 d1))))) ([(o9, .inr (6, [u0, .ref a.1, .ref ta.1, .ref r9, .ref d9, u5, u6, u7])), (d9, .inr (1, [.long (zNx y)]))] ++ ((ruW G r9 sa v1) ++ ((gmW G a h b) ++ (gmW G ta g1 d1))) : va_W) := (pm_put (cs := [[(o9, .inr (6, [u0, .ref a.1, .ref ta.1, .ref r9, .ref d9, u5, u6, u7]))], [(d9, .inr (1, [.long (zNx y)]))], ruW G r9 sa v1, gmW G a h b, gmW G ta g1 d1]) (sub := [[(d9, .inr (1, [.long (zNx y)]))]]) (rest := [[(o9, .inr (6, [u0, .ref a.1, .ref ta.1, .ref r9, .ref d9, u5, u6, u7]))], ruW G r9 sa v1, gmW G a h b, gmW G ta g1 d1]) 5 [1] [0, 2, 3, 4] rfl rfl rfl (by decide))
        refine z_callV (As := []) (rest := [.ref o9]) (wc := drW d9 y) (wr := [(o9, .inr (6, [u0, .ref a.1, .ref ta.1, .ref r9, .ref d9, u5, u6, u7]))] ++ ((ruW G r9 sa v1) ++ ((gmW G a h b) ++ (gmW G ta g1 d1)))) (w1 := drW d9 (zNx y)) (ws' := [(o9, .inr (6, [u0, .ref a.1, .ref ta.1, .ref r9, .ref d9, u5, u6, u7])), (d9, .inr (1, [.long (zNx y)]))] ++ ((ruW G r9 sa v1) ++ ((gmW G a h b) ++ (gmW G ta g1 d1)))) ⟨hx, hb, hml, hown, hts⟩ (c_next l G d9 y) (cwV 0 hts gX6_simulate_X1_next rfl rfl rfl (by decide +kernel) ⟨Nat.le_of_ble_eq_true rfl, Nat.le_of_ble_eq_true rfl⟩) 1 rfl rfl rfl rfl hl.1 rfl (Nat.le_of_ble_eq_true rfl) dX6_simulate_77 ⟨Nat.le_of_ble_eq_true rfl, Nat.le_of_ble_eq_true rfl⟩ hK hE hA hM hp9 hq9 (fun H locs hM hz => ?_)
        obtain ⟨h2, b2, v2, t2, e2, hmv, hG2⟩ := zMvV_e (r := zRk y) (u := v1) (zRk_lt y) hG1 c_r
        have hp9 : List.Perm ([(o9, .inr (6, [u0, .ref a.1, .ref ta.1, .ref r9, .ref d9, u5, u6, u7])), (d9, .inr (1, [.long (zNx y)]))] ++ ((ruW G r9 sa v1) ++ ((gmW G a h b) ++ (gmW G ta g1 d1))) : va_W) (([(o9, .inr (6, [u0, .ref a.1, .ref ta.1, .ref r9, .ref d9, u5, u6, u7]))] ++ (ruW G r9 sa v1 ++ gmW G ta g1 d1)) ++ ([(d9, .inr (1, [.long (zNx y)]))] ++ (gmW G a h b))) := (pm_cut (cs := [[(o9, .inr (6, [u0, .ref a.1, .ref ta.1, .ref r9, .ref d9, u5, u6, u7]))], [(d9, .inr (1, [.long (zNx y)]))], ruW G r9 sa v1, gmW G a h b, gmW G ta g1 d1]) (sub := [[(o9, .inr (6, [u0, .ref a.1, .ref ta.1, .ref r9, .ref d9, u5, u6, u7]))], ruW G r9 sa v1, gmW G ta g1 d1]) (rest := [[(d9, .inr (1, [.long (zNx y)]))], gmW G a h b]) 5 [0, 2, 4] [1, 3] rfl rfl rfl (by decide))
        have hq9 : List.Perm (([(o9, .inr (6, [u0, .ref a.1, .ref ta.1, .ref r9, .ref d9, u5, u6, u7]))] ++ (ruW G r9 sa ((zMvV (zRk y) ((g1, d1), v1)).2) ++ gmW G ta ((zMvV (zRk y) ((g1, d1), v1)).1.1) ((zMvV (zRk y) ((g1, d1), v1)).1.2))) ++ ([(d9, .inr (1, [.long (zNx y)]))] ++ (gmW G a h b))) ([(o9, .inr (6, [u0, .ref a.1, .ref ta.1, .ref r9, .ref d9, u5, u6, u7])), (d9, .inr (1, [.long (zNx y)]))] ++ ((ruW G r9 sa ((zMvV (zRk y) ((g1, d1), v1)).2)) ++ ((gmW G a h b) ++ (gmW G ta ((zMvV (zRk y) ((g1, d1), v1)).1.1) ((zMvV (zRk y) ((g1, d1), v1)).1.2)))) : va_W) := (pm_put (cs := [[(o9, .inr (6, [u0, .ref a.1, .ref ta.1, .ref r9, .ref d9, u5, u6, u7]))], [(d9, .inr (1, [.long (zNx y)]))], ruW G r9 sa ((zMvV (zRk y) ((g1, d1), v1)).2), gmW G a h b, gmW G ta ((zMvV (zRk y) ((g1, d1), v1)).1.1) ((zMvV (zRk y) ((g1, d1), v1)).1.2)]) (sub := [[(o9, .inr (6, [u0, .ref a.1, .ref ta.1, .ref r9, .ref d9, u5, u6, u7]))], ruW G r9 sa ((zMvV (zRk y) ((g1, d1), v1)).2), gmW G ta ((zMvV (zRk y) ((g1, d1), v1)).1.1) ((zMvV (zRk y) ((g1, d1), v1)).1.2)]) (rest := [[(d9, .inr (1, [.long (zNx y)]))], gmW G a h b]) 5 [0, 2, 4] [1, 3] rfl rfl rfl (by decide))
        refine z_callV (As := [.int (nI (zRk y))]) (rest := []) (wc := [(o9, .inr (6, [u0, .ref a.1, .ref ta.1, .ref r9, .ref d9, u5, u6, u7]))] ++ (ruW G r9 sa v1 ++ gmW G ta g1 d1)) (wr := [(d9, .inr (1, [.long (zNx y)]))] ++ (gmW G a h b)) (w1 := [(o9, .inr (6, [u0, .ref a.1, .ref ta.1, .ref r9, .ref d9, u5, u6, u7]))] ++ (ruW G r9 sa ((zMvV (zRk y) ((g1, d1), v1)).2) ++ gmW G ta ((zMvV (zRk y) ((g1, d1), v1)).1.1) ((zMvV (zRk y) ((g1, d1), v1)).1.2))) (ws' := [(o9, .inr (6, [u0, .ref a.1, .ref ta.1, .ref r9, .ref d9, u5, u6, u7])), (d9, .inr (1, [.long (zNx y)]))] ++ ((ruW G r9 sa ((zMvV (zRk y) ((g1, d1), v1)).2)) ++ ((gmW G a h b) ++ (gmW G ta ((zMvV (zRk y) ((g1, d1), v1)).1.1) ((zMvV (zRk y) ((g1, d1), v1)).1.2))))) ⟨hx, hb, hml, hown, hts⟩ (c_x_smove l G o9 u0 (.ref a.1) (.ref d9) u5 u6 u7 r9 sa v1 ta g1 d1 P t1 S e1 hG1 c_r (zRk y) (zRk_lt y)) (cwV 1 hts gX6_simulate_X6_simulateMove rfl rfl rfl (by decide +kernel) ⟨Nat.le_of_ble_eq_true rfl, Nat.le_of_ble_eq_true rfl⟩) 6 rfl rfl rfl rfl hl.1 rfl (Nat.le_of_ble_eq_true rfl) dX6_simulate_80 ⟨Nat.le_of_ble_eq_true rfl, Nat.le_of_ble_eq_true rfl⟩ hK hE hA hM hp9 hq9 (fun H locs hM hz => ?_)
        refine lv_iinc (v := nI (i + 1)) (lv' := [(4, .int (nI (i + 1))), (0, .ref o9), (1, .long x9), (3, .int (nI N))]) hx hb dX6_simulate_83 hl (k := 3) rfl (nI_1 i) (by decide) rfl (fun ls hl => ?_)
        refine lv_goto (tgt := 56) hx hb dX6_simulate_86 (by decide) ?_
        have hR2 : (zSmV N x9 ((h, b), u)) = zSmV k (zNx y) ((h2, b2), v2) := hR.trans ((zSmV_on (k := k) (y := y) (t := ((g1, d1), v1)) c_r).trans (congrArg (zSmV k (zNx y)) hmv))
        rw [hmv] at hM
        exact ih (i + 1) (zNx y) v2 h2 b2 t2 e2 (by omega) hG2 hR2 _ _ hM _ (lv_sub hl [1, 2, 3, 0] rfl)
  exact lp56 N 0 x9 u h b t e0 (by omega) hG rfl _ _ hM _ (lv_sub hl [1, 2, 3, 0] rfl)
