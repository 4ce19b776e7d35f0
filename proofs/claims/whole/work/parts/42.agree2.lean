/-! a text loaded: both come to games that agree -/
theorem zMe_m {s r : zHB} (q : zSm s r) : zMe s.1 = zMe r.1 := congrArg zMe q.1
theorem zTx_m {v : Nat → Int32} {n j : Nat} (hv : zTu v) (hn : n ≤ 120) (hj : j < n) (hr : zRd v n j = 0) {s r : zHB × Nat} (w : zXy s.1) (q : zSm s.1 r.1) (e : s.2 = r.2) : zSm (zTxS v n j s).1 (zTxS v n j r).1 ∧ (zTxS v n j s).2 = (zTxS v n j r).2 := by
  have e0 := zSa_lt (v := v) hj
  unfold zTxS
  by_cases h1 : zSa v n j = 115
  · obtain ⟨_, _, l1, _, l2⟩ := zRd_s hv hn (e0.symm.trans h1) hr
    have em := zMs_m (k := zDn v n (j + 1)) (n := nI (zDn v n (j + 2))) (d := zSn v (j + 3)) w (by omega) q
    rw [if_pos h1, if_pos h1, ← em]
    by_cases hm : zMs s.1.1 s.1.2 (zDn v n (j + 1)) (nI (zDn v n (j + 2))) (zSn v (j + 3)) = true
    · rw [if_pos hm, if_pos hm]
      exact ⟨zSm_sh w (by omega) (by omega) hm q, e⟩
    · rw [if_neg hm, if_neg hm]
      exact ⟨q, congrArg (· + 1) e⟩
  · rw [if_neg h1, if_neg h1]
    by_cases h2 : zSa v n j = 103
    · obtain ⟨_, l1⟩ := zRd_g hv hn (e0.symm.trans h2) hr
      have em := zMg_m (n := nI (zDn v n (j + 1))) w q
      rw [if_pos h2, if_pos h2, ← em]
      by_cases hm : zMg s.1.1 s.1.2 (zSs s.1.1) (zTt s.1.1) (nI (zDn v n (j + 1))) = true
      · rw [if_pos hm, if_pos hm]
        exact ⟨zSm_go w (zMg_r hm).2 (zMg_lt (by omega) hm) q, e⟩
      · rw [if_neg hm, if_neg hm]
        exact ⟨q, congrArg (· + 1) e⟩
    · rw [if_neg h2, if_neg h2]
      by_cases h3 : zSa v n j = 108
      · rw [if_pos h3, if_pos h3, ← zMe_m q]
        by_cases hm : zMe s.1.1 = true
        · rw [if_pos hm, if_pos hm]
          exact ⟨zSm_lk w (zMe_r hm) q, e⟩
        · rw [if_neg hm, if_neg hm]
          exact ⟨q, congrArg (· + 1) e⟩
      · rw [if_neg h3, if_neg h3]
        exact ⟨q, e⟩
theorem zTx_x {v : Nat → Int32} {n j : Nat} (hv : zTu v) (hn : n ≤ 120) (hj : j < n) (hr : zRd v n j = 0) {s : zHB × Nat} (w : zXy s.1) : zXy (zTxS v n j s).1 := by
  obtain ⟨⟨h, b⟩, o⟩ := s
  obtain ⟨P, t, S, e, w⟩ := w
  obtain ⟨h', b', o', t', e', e1, w'⟩ := zTx_gs (o := o) hv hn hj hr w
  rw [e1]
  exact ⟨P, t', S, e', w'⟩
theorem zRdL_m {v : Nat → Int32} {n : Nat} (hv : zTu v) (hn : n ≤ 120) : ∀ (k j : Nat) {s r : zHB × Nat}, zXy s.1 → zSm s.1 r.1 → s.2 = r.2 → zSm (zRdL v n k j s).2.1 (zRdL v n k j r).2.1 ∧ (zRdL v n k j s).2.2 = (zRdL v n k j r).2.2 ∧ zXy (zRdL v n k j s).2.1
  | 0, _, _, _, w, q, e => ⟨q, e, w⟩
  | k + 1, j, s, r, w, q, e => by
    by_cases hj : j < n
    · by_cases hr : zRd v n j = 0
      · obtain ⟨q1, q2⟩ := zTx_m hv hn hj hr w q e
        rw [zRdL_on hj hr, zRdL_on hj hr]
        exact zRdL_m hv hn k _ (zTx_x hv hn hj hr w) q1 q2
      · rw [zRdL, zRdL, if_pos hj, if_pos hj, if_neg hr, if_neg hr]
        exact ⟨q, e, w⟩
    · rw [zRdL_end hj, zRdL_end hj]
      exact ⟨q, e, w⟩
theorem zIt_4 {v : Nat → Int32} {n : Nat} (hv : zTu v) (hn : n ≤ 120) (hc : zWr v n n 0 0 = -1) (s : zHB × Nat) : zIt (zTxS v n) n 0 s = zIt (zTxS v n) (n - 4) 4 s := by
  obtain ⟨k0, k1, k2, k3, _⟩ := zWr_hk hc hn
  have a3 := (zKy_lt k3).1
  have e : zIt (zTxS v n) n 0 s = zIt (zTxS v n) ((n - 4) + 1 + 1 + 1 + 1) 0 s := congrArg (fun z => zIt (zTxS v n) z 0 s) (by omega)
  rw [e, zIt_s, zIt_s, zIt_s, zIt_s, zTxS_no (i := 0) (zKy_nl hv hn (by decide) k0), zTxS_no (i := 0 + 1) (zKy_nl hv hn (by decide) k1), zTxS_no (i := 0 + 1 + 1) (zKy_nl hv hn (by decide) k2), zTxS_no (i := 0 + 1 + 1 + 1) (zKy_nl hv hn (by decide) k3)]
/-- what the class makes of a text -/
def zLdC (v : Nat → Int32) (n : Nat) (b : Nat → Nat → Int32) : zHB × Nat := zIt (zTxS v n) n 0 ((zGdH zClH (zDn v n 1), (zGd (zDn v n 1) (zTs v n) b).2), 0)
theorem zLd_m {v : Nat → Int32} {n : Nat} (hv : zTu v) (hn : n ≤ 120) (hc : zWr v n n 0 0 = -1) (b : Nat → Nat → Int32) : zSm (zLdC v n b).1 (zRtL v n).2.1 ∧ (zLdC v n b).2 = (zRtL v n).2.2 ∧ zXy (zLdC v n b).1 := by
  obtain ⟨h4, _, h2, h24, _, hk⟩ := zHd_ok hv hn hc
  have hW := (zWr_hk hc hn).2.2.2.2
  have hb : ∀ p, p < zDn v n 1 → (zGd (zDn v n 1) (zTs v n) b).2 p = (zBg (zDn v n 1) (zTs v n) (fun _ _ => 0)).2 p := fun p hp => by
    rw [zGd_bg]
    exact (zBg_b _ _ _ _).2 p hp
  have w0 := zGs_bg (n := zDn v n 1) (x := zTs v n) zCl_gs h2 h24 hb
  have q0 : zSm (zGdH zClH (zDn v n 1), (zGd (zDn v n 1) (zTs v n) b).2) (zT0 v n) := zSm_m (c := zBb (zDn v n 1) (zTb v n).2) w0 (fun p hp => by
    rw [hb p hp]
    exact (if_pos hp).symm)
  rw [(zRt_yes 0 hk).2]
  unfold zLdC
  rw [zIt_4 hv hn hc]
  have e1 := zRdL_it hv hn 120 4 ((zGdH zClH (zDn v n 1), (zGd (zDn v n 1) (zTs v n) b).2), 0) h4 (by omega) hW
  have m := zRdL_m hv hn 120 4 (s := ((zGdH zClH (zDn v n 1), (zGd (zDn v n 1) (zTs v n) b).2), 0)) (r := (zT0 v n, 0)) ⟨_, _, _, _, w0⟩ q0 rfl
  rw [e1] at m
  exact m
theorem zSe_of {n : Int32} (h : zSe n = true) : ∃ j, j < 3 ∧ n = nI j := by
  simp only [zSe, Bool.and_eq_true, Bool.not_eq_true', decide_eq_false_iff_not] at h
  rcases pk_ix n (n := 3) (by decide) with q | q | q
  · exact absurd q h.1
  · exact absurd q h.2
  · exact q
theorem zSl_of {n : Int32} (h : zSl n = true) : ∃ j, j < 2 ∧ n = nI j := by
  simp only [zSl, Bool.and_eq_true, Bool.not_eq_true', decide_eq_false_iff_not] at h
  rcases pk_ix n (n := 2) (by decide) with q | q | q
  · exact absurd q h.1
  · exact absurd q h.2
  · exact q
theorem zPl_of {n : Int32} (h : zPl n = true) : ∃ j, j < 9 ∧ n = nI j := by
  simp only [zPl, Bool.and_eq_true, Bool.not_eq_true', decide_eq_false_iff_not] at h
  rcases pk_ix n (n := 9) (by decide) with q | q | q
  · exact absurd q h.1
  · exact absurd q h.2
  · exact q
theorem zLi_of {n : Int32} (h : zLi n = true) : ∃ j, j < 6 ∧ n = nI j := by
  simp only [zLi, Bool.and_eq_true, Bool.not_eq_true', decide_eq_false_iff_not] at h
  rcases pk_ix n (n := 6) (by decide) with q | q | q
  · exact absurd q h.1
  · exact absurd q h.2
  · exact q
theorem zHp_of {h : Nat → Int32} {P : Nat} {n : Int32} (h0 : h 0 = nI P) (hP : P ≤ 4) (q : zHp h n = true) : ∃ j, j < P ∧ n = nI j := by
  simp only [zHp, Bool.and_eq_true, Bool.not_eq_true', decide_eq_false_iff_not, h0] at q
  rcases pk_ix n (n := P) (by omega) with z | z | z
  · exact absurd z q.1
  · exact absurd z q.2
  · exact z
theorem zDi_of {n : Int32} (h : zDi n = true) : n = 0 ∨ n = 1 := by
  simp only [zDi, Bool.or_eq_true, decide_eq_true_eq] at h
  exact h
theorem zR_cs (n lo hi : Int32) {l9 h9 : Int64} (e1 : lo.toInt64 = l9) (e2 : hi.toInt64 = h9) : (zI0 n.toInt64 l9 h9 = false ∧ (n < lo ∨ hi < n)) ∨ (zI0 n.toInt64 l9 h9 = true ∧ ¬ n < lo ∧ ¬ hi < n) := by
  subst e1
  subst e2
  rw [zI0_32]
  by_cases a : n < lo
  · refine Or.inl ⟨?_, Or.inl a⟩
    rw [decide_eq_true a]
    rfl
  · by_cases b : hi < n
    · refine Or.inl ⟨?_, Or.inr b⟩
      rw [decide_eq_true b]
      exact Bool.and_false _
    · refine Or.inr ⟨?_, a, b⟩
      rw [decide_eq_false a, decide_eq_false b]
      rfl
theorem zR_ix {n : Int32} (k : Nat) (hk : k < 1000) (h1 : ¬ n < 0) (h2 : ¬ nI k < n) : ∃ j, j ≤ k ∧ n = nI j := by
  rcases pk_ix n (n := k + 1) (by omega) with q | q | ⟨j, hj, e⟩
  · exact absurd q h1
  · exact absurd (Int32.lt_of_lt_of_le (nI_lt (a := k) (b := k + 1) (by omega) (by omega)) q) h2
  · exact ⟨j, by omega, e⟩
theorem zMg_gs {h : Nat → Int32} {b c : Nat → Nat → Int32} {P t S e : Nat} (n : Int32) (w : zGs h b P t S e) (q : zBe P b c) : zMg h b S t n = zMg h c S t n := by
  by_cases hr : zRu h = true
  · exact zMg_b (q t (w.1.2.1 (zRu_P w.1.1.1 w.1.1.2.1 hr)).1)
  · unfold zMg zMe
    rw [Bool.eq_false_iff.mpr hr]
    simp only [Bool.false_and]
theorem zMs_gs {h : Nat → Int32} {b c : Nat → Nat → Int32} {P t S e o : Nat} (n d : Int32) (w : zGs h b P t S e) (q : zBe P b c) (ho : o < P) : zMs h b o n d = zMs h c o n d := zMs_b (q o ho) n d
theorem zWho {x y : Int32} (h : x = 0 ∨ x = 1) : (if x = 0 then y else -1) = (if x = 1 then -1 else y) := by
  rcases h with rfl | rfl
  · rw [if_pos rfl, if_neg (by decide)]
  · rw [if_neg (by decide), if_pos rfl]
theorem zBe_s {P o : Nat} {b c : Nat → Nat → Int32} {f g : Nat → Int32} (q : zBe P b c) (e : f = g) : zBe P (va_up b o f) (va_up c o g) := zBe_up q e
theorem zGs_set {h : Nat → Int32} {b : Nat → Nat → Int32} {P t S e j : Nat} {v : Int32} (w : zGs h b P t S e) (hj : j < 3) (h1 : ¬ v < 1) (h2 : ¬ zHigh j < v) : ∃ S', zGs (upd h (6 + j) v) b P t S' e := by
  obtain ⟨⟨⟨g0, g1, g2, g3, g6, g7, g8, g9⟩, hp, hw⟩, hx, h5, h6, h7, h8, h9⟩ := w
  have hn : ¬ v < 0 := fun z => h1 (Int32.lt_trans z (by decide))
  have n6 : ∀ i, i < 6 → upd h (6 + j) v i = h i := fun i hi => pk_un (by omega)
  have h3 : j = 0 ∨ j = 1 ∨ j = 2 := by omega
  rcases h3 with rfl | rfl | rfl
  · obtain ⟨k, hk, rfl⟩ := zR_ix 9 (by decide) hn h2
    refine ⟨k, ⟨⟨?_, g1, ?_, g3, rfl, hk, ?_, ?_⟩, hp, hw⟩, hx, ?_, ?_, ?_, h8, fun z => h9 ?_⟩
    all_goals first | exact g0 | exact g2 | exact g8 | exact g9 | exact h5 | exact h6 | exact h7 | exact z
  · obtain ⟨k, hk, rfl⟩ := zR_ix 5 (by decide) hn h2
    refine ⟨S, ⟨⟨?_, g1, ?_, g3, ?_, g7, ?_, ?_⟩, hp, hw⟩, hx, ⟨k, ?_, hk, rfl⟩, ?_, ?_, h8, fun z => h9 ?_⟩
    all_goals first | exact g0 | exact g2 | exact g6 | exact g8 | exact g9 | exact h6 | exact h7 | exact z | skip
    exact Nat.not_lt.mp (fun z => h1 (nI_lt (b := 1) z (by decide)))
  · obtain ⟨k, hk, rfl⟩ := zR_ix 200 (by decide) hn h2
    refine ⟨S, ⟨⟨?_, g1, ?_, g3, ?_, g7, ?_, ?_⟩, hp, hw⟩, hx, ?_, ⟨k, ?_, hk, rfl⟩, ?_, h8, fun z => h9 ?_⟩
    all_goals first | exact g0 | exact g2 | exact g6 | exact g8 | exact g9 | exact h5 | exact h7 | exact z | skip
    exact Nat.not_lt.mp (fun z => h1 (nI_lt (b := 1) z (by decide)))
theorem zAb1 {x y : Int32} (h : x = 0 ∨ x = 1) : (if x = 0 then y else -1) = (if 1 = 1 ∧ x = 1 then -1 else y) := by
  rcases h with rfl | rfl
  · rw [if_pos rfl, if_neg (fun z => absurd z.2 (by decide))]
  · rw [if_neg (by decide), if_pos ⟨rfl, rfl⟩]
theorem zHigh_e {j : Nat} (hj : j < 3) : (if nI j = 0 then 9 else if nI j = 1 then 5 else 200 : Int64) = (zHigh j).toInt64 := by
  have h3 : j = 0 ∨ j = 1 ∨ j = 2 := by omega
  rcases h3 with rfl | rfl | rfl <;> decide
theorem zSet_cs (k v : Int32) : (zSet k v = false ∧ (zSe k = false ∨ v < 1 ∨ zHigh k.toNatClampNeg < v)) ∨ (zSet k v = true ∧ ∃ j, j < 3 ∧ k = nI j ∧ ¬ v < 1 ∧ ¬ zHigh j < v) := by
  unfold zSet
  rw [zI0_se]
  cases hk : zSe k with
  | false => exact Or.inl ⟨rfl, Or.inl rfl⟩
  | true =>
    obtain ⟨j, hj, rfl⟩ := zSe_of hk
    rw [zHigh_e hj, nI_clamp (by omega), Bool.true_and]
    rcases zR_cs v 1 (zHigh j) (l9 := 1) (h9 := (zHigh j).toInt64) (by decide) rfl with ⟨a, b⟩ | ⟨a, b1, b2⟩
    · exact Or.inl ⟨a, Or.inr b⟩
    · exact Or.inr ⟨a, j, hj, rfl, b1, b2⟩
theorem zGd_m {n : Nat} {x : Int64} {h : Nat → Int32} {b c : Nat → Nat → Int32} {P t S e : Nat} (w : zGs h b P t S e) (h2 : 2 ≤ n) (h4 : n ≤ 4) : zGs (zGdH h n) (zGd n x b).2 n 0 S 0 ∧ zBe n (zGd n x b).2 (zBb n (zBg n x c).2) := by
  have hb : ∀ p, p < n → (zGd n x b).2 p = (zBg n x b).2 p := fun p _ => by rw [zGd_bg]
  refine ⟨zGs_bg w h2 h4 hb, fun p hp => ?_⟩
  show (zGd n x b).2 p = if p < n then (zBg n x c).2 p else zZ
  rw [hb p hp, if_pos hp]
  exact (zBg_b n x b c).2 p hp
theorem zTu_upd {v : Nat → Int32} {n k : Nat} (h : zTu v) (hk : k < 256) : zTu (upd v n (nI k)) := by
  intro i hi
  by_cases e : i = n
  · subst e
    exact ⟨k, hk, rfl.trans (if_pos rfl)⟩
  · rw [pk_un e]
    exact h i hi
theorem zc_all {D F h : Nat → Int32} {c : Nat → Nat → Int32} {i : Nat} (hD : ∀ k, k < 121 → D (121 * i + k) = flt h c k) : ∀ k, k < 121 → cpv D F (121 * i) 0 121 k = flt h c k := fun k hk => by
  have e := cpv_in (f := D) (g := F) (u := 121 * i) (v := 0) hk
  rw [Nat.zero_add] at e
  exact e.trans (hD k hk)
theorem zSim_now {G : zC} {y3 : Nat} {f g : Nat → Int32} {x z : Nat × va_E} {w : va_W} (h : ∀ k, k < 121 → f k = g k) : zSim (x :: z :: (y3, .inl (G.2 1, 121, .inl f)) :: w) (x :: z :: (y3, .inl (G.2 1, 121, .inl g)) :: w) := ⟨zSame_rf _, zSame_rf _, zSame_arr h, zSim_rf w⟩
/-! the class and the reference side by side -/
abbrev zWC (G : zC) (oa : Nat) (o9 : Nat) (t9 : Nat) (z9 : Nat) (d9 : Nat) (s9 : Nat) (b9 : Nat) (r9 : Nat) (mq : Nat) (mz : Nat) (sa : zBA) (a : zGA) (ta : zGA) (ga : Nat → zGA) (sg : Nat → zGA) (q : Nat) (y1 : Nat) (y3 : Nat) (y4 : Nat) (y5 : Nat) (y6 : Nat) (y8 : Nat) (y9 : Nat) (og : Nat → Int64) (n : Nat) (v : Nat → Int32) (h : Nat → Int32) (b : Nat → Nat → Int32) (th : Nat → Int32) (tb : Nat → Nat → Int32) (u : zRU) (x0 : Int64) (mk : Nat) (mx : Nat) (mh : Nat → Nat → Int32) (mb : Nat → Nat → Nat → Int32) (sh : Nat → Nat → Int32) (sb : Nat → Nat → Nat → Int32) (K : Nat → Int32) : va_W := [(oa, .inl (G.2 5, 1, .inr (.inl og))), (o9, .inr (6, [.ref t9, .ref a.1, .ref ta.1, .ref r9, .ref d9, .ref mq, .ref s9, .ref b9])), (d9, .inr (1, [.long x0])), (s9, .inl (G.2 4, 2, .inr (.inr (.inr (.inr (fun i => some (sg i).1)))))), (b9, .inl (G.2 2, 2, .inl K)), (t9, .inr (5, [.ref z9, .int (nI n)])), (z9, .inl (G.2 0, 120, .inl v))] ++ ((fm 2 (gsF G sg sh sb)) ++ ((mmW G mq mz ga mk mx mh mb) ++ ((ruW G r9 sa u) ++ ((gmW G ta th tb) ++ (gmW G a h b)))))
abbrev zWR (G : zC) (oa : Nat) (o9 : Nat) (t9 : Nat) (z9 : Nat) (d9 : Nat) (s9 : Nat) (b9 : Nat) (r9 : Nat) (mq : Nat) (mz : Nat) (sa : zBA) (a : zGA) (ta : zGA) (ga : Nat → zGA) (sg : Nat → zGA) (q : Nat) (y1 : Nat) (y3 : Nat) (y4 : Nat) (y5 : Nat) (y6 : Nat) (y8 : Nat) (y9 : Nat) (k0 : Int32) (n : Nat) (v : Nat → Int32) (h : Nat → Int32) (b : Nat → Nat → Int32) (th : Nat → Int32) (tb : Nat → Nat → Int32) (u : zRU) (x0 : Int64) (mk : Nat) (mx : Nat) (mh : Nat → Nat → Int32) (mb : Nat → Nat → Nat → Int32) (sh : Nat → Nat → Int32) (sb : Nat → Nat → Nat → Int32) (K : Nat → Int32) (c : Nat → Nat → Int32) (f4 : Nat → Int32) (f5 : Nat → Int32) (D : Nat → Int32) (Q : Nat → Int32) (x1 : Int64) (i10 : Int32) (i11 : Int32) (i12 : Int32) (i14 : Nat) (i15 : Nat) : va_W := [(q, .inr (7, [.int k0, .ref y1, .int (nI n), .ref y3, .ref y4, .ref y5, .ref y6, .int (nI mk), .ref y8, .ref y9, .int i10, .int i11, .int i12, .long x1, .int (nI i14), .int (nI i15)])), (y1, .inl (G.2 1, 120, .inl v)), (y3, .inl (G.2 1, 121, .inl (flt h c))), (y4, .inl (G.2 1, 121, .inl f4)), (y5, .inl (G.2 1, 121, .inl f5)), (y6, .inl (G.2 1, 1694, .inl D)), (y8, .inl (G.2 1, 242, .inl Q)), (y9, .inl (G.2 2, 2, .inl K))]
def zJok (n : Nat) (v : Nat → Int32) (h : Nat → Int32) (b : Nat → Nat → Int32) (th : Nat → Int32) (tb : Nat → Nat → Int32) (u : zRU) (x0 : Int64) (mk : Nat) (mx : Nat) (mh : Nat → Nat → Int32) (mb : Nat → Nat → Nat → Int32) (sh : Nat → Nat → Int32) (sb : Nat → Nat → Nat → Int32) (K : Nat → Int32) (c : Nat → Nat → Int32) (f4 : Nat → Int32) (f5 : Nat → Int32) (D : Nat → Int32) (Q : Nat → Int32) (x1 : Int64) (i10 : Int32) (i11 : Int32) (i12 : Int32) (i14 : Nat) (i15 : Nat) : Prop := zTu v ∧ n ≤ 120 ∧ zMem mk mx mh mb D ∧ zKep K sh sb Q ∧ ∃ P t S e : Nat, zGs h b P t S e ∧ zBe P b c
def zCN (l : Launch) (G : zC) (y : MethodName) (w : List Cond) (rm : Room) (av : List Value) (ws : va_W) (rv : Option Value) (w' : va_W) : Prop := ∃ wc wr w1 w2 : va_W, zMetN l G y w rm av wc rv w1 ∧ ws.Perm (wc ++ wr) ∧ (w1 ++ wr).Perm w2 ∧ zSim w2 w'
def zCR (l : Launch) (G : zC) (y : MethodName) (w : List Cond) (rm : Room) (av : List Value) (ws : va_W) (rv : Option Value) (w' : va_W) : Prop := ∃ wc wr w1 w2 w3 : va_W, zSim ws w3 ∧ zMet l G y w rm av wc rv w1 ∧ w3.Perm (wc ++ wr) ∧ (w1 ++ wr).Perm w2 ∧ zSim w2 w'
def zJq (l : Launch) (G : zC) (y : MethodName) (w : List Cond) (rm : Room) (y2 : MethodName) (w2 : List Cond) (rm2 : Room) (av : List Value) (Z : Int32 → Prop) (oa : Nat) (o9 : Nat) (t9 : Nat) (z9 : Nat) (d9 : Nat) (s9 : Nat) (b9 : Nat) (r9 : Nat) (mq : Nat) (mz : Nat) (sa : zBA) (a : zGA) (ta : zGA) (ga : Nat → zGA) (sg : Nat → zGA) (q : Nat) (y1 : Nat) (y3 : Nat) (y4 : Nat) (y5 : Nat) (y6 : Nat) (y8 : Nat) (y9 : Nat) (og : Nat → Int64) (k0 : Int32) (n : Nat) (v : Nat → Int32) (h : Nat → Int32) (b : Nat → Nat → Int32) (th : Nat → Int32) (tb : Nat → Nat → Int32) (u : zRU) (x0 : Int64) (mk : Nat) (mx : Nat) (mh : Nat → Nat → Int32) (mb : Nat → Nat → Nat → Int32) (sh : Nat → Nat → Int32) (sb : Nat → Nat → Nat → Int32) (K : Nat → Int32) (c : Nat → Nat → Int32) (f4 : Nat → Int32) (f5 : Nat → Int32) (D : Nat → Int32) (Q : Nat → Int32) (x1 : Int64) (i10 : Int32) (i11 : Int32) (i12 : Int32) (i14 : Nat) (i15 : Nat) : Prop := ∃ (k : Int32) (og' : Nat → Int64) (r : Int32) (n' : Nat) (v' : Nat → Int32) (h' : Nat → Int32) (b' : Nat → Nat → Int32) (th' : Nat → Int32) (tb' : Nat → Nat → Int32) (u' : zRU) (x0' : Int64) (mk' : Nat) (mx' : Nat) (mh' : Nat → Nat → Int32) (mb' : Nat → Nat → Nat → Int32) (sh' : Nat → Nat → Int32) (sb' : Nat → Nat → Nat → Int32) (K' : Nat → Int32) (c' : Nat → Nat → Int32) (f4' : Nat → Int32) (f5' : Nat → Int32) (D' : Nat → Int32) (Q' : Nat → Int32) (x1' : Int64) (i10' : Int32) (i11' : Int32) (i12' : Int32) (i14' : Nat) (i15' : Nat), zJok n' v' h' b' th' tb' u' x0' mk' mx' mh' mb' sh' sb' K' c' f4' f5' D' Q' x1' i10' i11' i12' i14' i15' ∧ Z r ∧ (k = 0 → og' 0 = Int32.toInt64 r) ∧ zCN l G y w rm (.ref o9 :: (av ++ [.ref oa])) (zWC G oa o9 t9 z9 d9 s9 b9 r9 mq mz sa a ta ga sg q y1 y3 y4 y5 y6 y8 y9 og n v h b th tb u x0 mk mx mh mb sh sb K) (some (.int k)) (zWC G oa o9 t9 z9 d9 s9 b9 r9 mq mz sa a ta ga sg q y1 y3 y4 y5 y6 y8 y9 og' n' v' h' b' th' tb' u' x0' mk' mx' mh' mb' sh' sb' K') ∧ zCR l G y2 w2 rm2 (.ref q :: av) (zWR G oa o9 t9 z9 d9 s9 b9 r9 mq mz sa a ta ga sg q y1 y3 y4 y5 y6 y8 y9 k0 n v h b th tb u x0 mk mx mh mb sh sb K c f4 f5 D Q x1 i10 i11 i12 i14 i15) (some (.int r)) (zWR G oa o9 t9 z9 d9 s9 b9 r9 mq mz sa a ta ga sg q y1 y3 y4 y5 y6 y8 y9 k n' v' h' b' th' tb' u' x0' mk' mx' mh' mb' sh' sb' K' c' f4' f5' D' Q' x1' i10' i11' i12' i14' i15')
def zaF (q y1 y3 y4 y5 y6 y8 y9 : Nat) : Nat → Nat
  | 0 => q
  | 1 => y1
  | 3 => y3
  | 4 => y4
  | 5 => y5
  | 6 => y6
  | 8 => y8
  | _ => y9
def zuF (k0 : Int32) (n mk : Nat) (i10 i11 i12 : Int32) (i14 i15 : Nat) : Nat → Int32
  | 0 => k0
  | 2 => nI n
  | 7 => nI mk
  | 10 => i10
  | 11 => i11
  | 12 => i12
  | 14 => nI i14
  | _ => nI i15
