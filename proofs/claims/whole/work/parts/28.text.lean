/-! TEXTS: reading move by move is reading sign by sign -/
def zKy (v : Nat → Int32) (n : Nat) (d : Int32) (i : Nat) : Bool := decide (i < n) && !decide (zDu d (v i) = -1)
def zDn (v : Nat → Int32) (n i : Nat) : Nat := (zSa v n i - 48).toNatClampNeg
def zSn (v : Nat → Int32) (i : Nat) : Int32 := if v i = 43 then 1 else 0
abbrev zDg1 (d lo hi : Int32) (c : Nat) : Prop := (zDu d (nI c) = -1 ∧ zI0 (nI c - 48).toInt64 lo.toInt64 hi.toInt64 = false) ∨ (¬ zDu d (nI c) = -1 ∧ zI0 (nI c - 48).toInt64 lo.toInt64 hi.toInt64 = true ∧ ∃ k : Fin 10, nI c - 48 = nI k.val ∧ lo ≤ nI k.val ∧ nI k.val ≤ hi)
theorem zDg_1 : ∀ c : Fin 256, zDg1 1 2 4 c.val := by decide +kernel
theorem zDg_2 : ∀ c : Fin 256, zDg1 2 0 9 c.val := by decide +kernel
theorem zDg_3 : ∀ c : Fin 256, zDg1 3 0 9 c.val := by decide +kernel
theorem zDg_5 : ∀ c : Fin 256, zDg1 5 0 3 c.val := by decide +kernel
theorem zDg_6 : ∀ c : Fin 256, zDg1 6 0 5 c.val := by decide +kernel
theorem zDg_8 : ∀ c : Fin 256, zDg1 8 0 8 c.val := by decide +kernel
theorem zDg_9 : ∀ c : Fin 256, zDg1 9 0 5 c.val := by decide +kernel
theorem zSa_lt {v : Nat → Int32} {n i : Nat} (h : i < n) : zSa v n i = v i := by
  unfold zSa
  rw [if_pos h]
theorem zKy_lt {v : Nat → Int32} {n i : Nat} {d : Int32} (h : zKy v n d i = true) : i < n ∧ ¬ zDu d (v i) = -1 := by
  simp only [zKy, Bool.and_eq_true, decide_eq_true_eq, Bool.not_eq_true', decide_eq_false_iff_not] at h
  exact h
theorem zKy_no {v : Nat → Int32} {n i : Nat} {d : Int32} (h : zKy v n d i = false) (hi : i < n) : zDu d (v i) = -1 := by
  unfold zKy at h
  rw [decide_eq_true hi, Bool.true_and] at h
  simpa using h
theorem zKy_d {v : Nat → Int32} {n i : Nat} {d lo hi : Int32} (hv : zTu v) (hn : n ≤ 120) (hlo : 0 ≤ lo) (T : ∀ c : Fin 256, zDg1 d lo hi c.val) : (zKy v n d i = false ∧ zI0 (zDg v n i).toInt64 lo.toInt64 hi.toInt64 = false) ∨ (zKy v n d i = true ∧ i < n ∧ zI0 (zDg v n i).toInt64 lo.toInt64 hi.toInt64 = true ∧ ∃ k, k < 10 ∧ zDg v n i = nI k ∧ zDn v n i = k ∧ lo ≤ nI k ∧ nI k ≤ hi) := by
  unfold zKy zDg zDn
  by_cases hi : i < n
  · rw [if_pos hi, decide_eq_true hi, Bool.true_and, zSa_lt hi]
    obtain ⟨c, hc, ec⟩ := hv i (by omega)
    rw [ec]
    rcases T ⟨c, hc⟩ with ⟨q1, q2⟩ | ⟨q1, q2, k, q3, q4, q5⟩
    · exact Or.inl ⟨by rw [decide_eq_true q1]; rfl, q2⟩
    · refine Or.inr ⟨by rw [decide_eq_false q1]; rfl, hi, q2, k.val, k.isLt, q3, ?_, q4, q5⟩
      have q3 : nI c - 48 = nI k.val := q3
      rw [q3]
      exact nI_clamp (by have := k.isLt; omega)
  · rw [if_neg hi, decide_eq_false hi]
    refine Or.inl ⟨rfl, ?_⟩
    unfold zI0
    have h1 : (-1 : Int32).toInt64 < lo.toInt64 := by
      rw [Int64.lt_iff_toInt_lt, Int32.toInt_toInt64, Int32.toInt_toInt64]
      have h2 := Int32.le_iff_toInt_le.mp hlo
      rw [show (0 : Int32).toInt = 0 from rfl] at h2
      rw [show (-1 : Int32).toInt = -1 from rfl]
      omega
    rw [decide_eq_true h1]
    rfl
def zTxS (v : Nat → Int32) (n i : Nat) (s : zHB × Nat) : zHB × Nat :=
  if zSa v n i = 115 then (if zMs s.1.1 s.1.2 (zDn v n (i + 1)) (nI (zDn v n (i + 2))) (zSn v (i + 3)) = true then (zShS (zDn v n (i + 1)) (zDn v n (i + 2)) (zSn v (i + 3)) s.1, s.2) else (s.1, s.2 + 1))
  else if zSa v n i = 103 then (if zMg s.1.1 s.1.2 (zSs s.1.1) (zTt s.1.1) (nI (zDn v n (i + 1))) = true then (zGoS (zDn v n (i + 1)) s.1, s.2) else (s.1, s.2 + 1))
  else if zSa v n i = 108 then (if zMe s.1.1 = true then (zLkS (nI (zDn v n (i + 1))) s.1, s.2) else (s.1, s.2 + 1))
  else s
def zRd (v : Nat → Int32) (n j : Nat) : Nat :=
  if v j = 115 then (if zKy v n 5 (j + 1) = true then (if zKy v n 6 (j + 2) = true then (if zKy v n 7 (j + 3) = true then 0 else j + 4) else j + 3) else j + 2)
  else if v j = 103 then (if zKy v n 8 (j + 1) = true then 0 else j + 2)
  else if v j = 108 then (if zKy v n 9 (j + 1) = true then 0 else j + 2)
  else j + 1
def zNj (v : Nat → Int32) (j : Nat) : Nat := if v j = 115 then j + 4 else j + 2
theorem zWr_bad {v : Nat → Int32} {n i : Nat} {d : Int32} (hi : i ≤ n) (hd : ¬ d = 4) (h : zKy v n d i = false) : zWr v n (n - i) i d = nI i := by
  by_cases e : i = n
  · subst e
    rw [Nat.sub_self, zWr, if_neg hd]
  · have hlt : i < n := by omega
    rw [show n - i = (n - (i + 1)) + 1 by omega, zWr, zSa_lt hlt, if_pos (zKy_no h hlt)]
theorem zWr_ok {v : Nat → Int32} {n i : Nat} {d : Int32} (h : zKy v n d i = true) : zWr v n (n - i) i d = zWr v n (n - (i + 1)) (i + 1) (zDu d (v i)) := by
  obtain ⟨h1, h2⟩ := zKy_lt h
  rw [show n - i = (n - (i + 1)) + 1 by omega, zWr, zSa_lt h1, if_neg h2]
theorem zDu_1 {k : Int32} (h : ¬ zDu 1 k = -1) : zDu 1 k = 2 := by
  have e : zDu 1 k = if k < 50 then -1 else if 52 < k then -1 else 2 := (if_neg (by decide)).trans (if_pos rfl)
  rw [e] at h ⊢
  by_cases a : k < 50
  · rw [if_pos a] at h; exact absurd rfl h
  rw [if_neg a] at h ⊢
  by_cases b : 52 < k
  · rw [if_pos b] at h; exact absurd rfl h
  rw [if_neg b]
theorem zDu_2 {k : Int32} (h : ¬ zDu 2 k = -1) : zDu 2 k = 3 := by
  have e : zDu 2 k = if k < 48 then -1 else if 57 < k then -1 else 3 := (if_neg (by decide)).trans ((if_neg (by decide)).trans (if_pos rfl))
  rw [e] at h ⊢
  by_cases a : k < 48
  · rw [if_pos a] at h; exact absurd rfl h
  rw [if_neg a] at h ⊢
  by_cases b : 57 < k
  · rw [if_pos b] at h; exact absurd rfl h
  rw [if_neg b]
theorem zDu_3 {k : Int32} (h : ¬ zDu 3 k = -1) : zDu 3 k = 4 := by
  have e : zDu 3 k = if k < 48 then -1 else if 57 < k then -1 else 4 := (if_neg (by decide)).trans ((if_neg (by decide)).trans ((if_neg (by decide)).trans (if_pos rfl)))
  rw [e] at h ⊢
  by_cases a : k < 48
  · rw [if_pos a] at h; exact absurd rfl h
  rw [if_neg a] at h ⊢
  by_cases b : 57 < k
  · rw [if_pos b] at h; exact absurd rfl h
  rw [if_neg b]
theorem zDu_4 (k : Int32) : zDu 4 k = zDl9 k := (if_neg (by decide)).trans ((if_neg (by decide)).trans ((if_neg (by decide)).trans ((if_neg (by decide)).trans (if_pos rfl))))
theorem zDu_5 {k : Int32} (h : ¬ zDu 5 k = -1) : zDu 5 k = 6 := by
  have e : zDu 5 k = if k < 48 then -1 else if 51 < k then -1 else 6 := (if_neg (by decide)).trans ((if_neg (by decide)).trans ((if_neg (by decide)).trans ((if_neg (by decide)).trans ((if_neg (by decide)).trans (if_pos rfl)))))
  rw [e] at h ⊢
  by_cases a : k < 48
  · rw [if_pos a] at h; exact absurd rfl h
  rw [if_neg a] at h ⊢
  by_cases b : 51 < k
  · rw [if_pos b] at h; exact absurd rfl h
  rw [if_neg b]
theorem zDu_6 {k : Int32} (h : ¬ zDu 6 k = -1) : zDu 6 k = 7 := by
  have e : zDu 6 k = if k < 48 then -1 else if 53 < k then -1 else 7 := (if_neg (by decide)).trans ((if_neg (by decide)).trans ((if_neg (by decide)).trans ((if_neg (by decide)).trans ((if_neg (by decide)).trans ((if_neg (by decide)).trans (if_pos rfl))))))
  rw [e] at h ⊢
  by_cases a : k < 48
  · rw [if_pos a] at h; exact absurd rfl h
  rw [if_neg a] at h ⊢
  by_cases b : 53 < k
  · rw [if_pos b] at h; exact absurd rfl h
  rw [if_neg b]
theorem zDu_7e (k : Int32) : zDu 7 k = if k = 43 then 4 else if k = 45 then 4 else -1 := (if_neg (by decide)).trans ((if_neg (by decide)).trans ((if_neg (by decide)).trans ((if_neg (by decide)).trans ((if_neg (by decide)).trans ((if_neg (by decide)).trans ((if_neg (by decide)).trans (if_pos rfl)))))))
theorem zDu_7 {k : Int32} : (¬ zDu 7 k = -1 ∧ zDu 7 k = 4 ∧ (k = 43 ∨ k = 45)) ∨ (zDu 7 k = -1 ∧ ¬ (k = 43 ∨ k = 45)) := by
  rw [zDu_7e]
  by_cases a : k = 43
  · rw [if_pos a]
    exact Or.inl ⟨by decide, rfl, Or.inl a⟩
  rw [if_neg a]
  by_cases b : k = 45
  · rw [if_pos b]
    exact Or.inl ⟨by decide, rfl, Or.inr b⟩
  rw [if_neg b]
  exact Or.inr ⟨rfl, fun q => q.elim a b⟩
theorem zDu_8 {k : Int32} (h : ¬ zDu 8 k = -1) : zDu 8 k = 4 := by
  have e : zDu 8 k = if k < 48 then -1 else if 56 < k then -1 else 4 := (if_neg (by decide)).trans ((if_neg (by decide)).trans ((if_neg (by decide)).trans ((if_neg (by decide)).trans ((if_neg (by decide)).trans ((if_neg (by decide)).trans ((if_neg (by decide)).trans ((if_neg (by decide)).trans (if_pos rfl))))))))
  rw [e] at h ⊢
  by_cases a : k < 48
  · rw [if_pos a] at h; exact absurd rfl h
  rw [if_neg a] at h ⊢
  by_cases b : 56 < k
  · rw [if_pos b] at h; exact absurd rfl h
  rw [if_neg b]
theorem zDu_9 {k : Int32} (h : ¬ zDu 9 k = -1) : zDu 9 k = 4 := by
  have e : zDu 9 k = if k < 48 then -1 else if 53 < k then -1 else 4 := (if_neg (by decide)).trans ((if_neg (by decide)).trans ((if_neg (by decide)).trans ((if_neg (by decide)).trans ((if_neg (by decide)).trans ((if_neg (by decide)).trans ((if_neg (by decide)).trans ((if_neg (by decide)).trans ((if_neg (by decide)).trans (if_pos rfl)))))))))
  rw [e] at h ⊢
  by_cases a : k < 48
  · rw [if_pos a] at h; exact absurd rfl h
  rw [if_neg a] at h ⊢
  by_cases b : 53 < k
  · rw [if_pos b] at h; exact absurd rfl h
  rw [if_neg b]
theorem zKy_4 {v : Nat → Int32} {n j : Nat} (hj : j < n) (e : ¬ zDl9 (v j) = -1) : zKy v n 4 j = true := by
  unfold zKy
  rw [decide_eq_true hj, zDu_4, decide_eq_false e]
  rfl
theorem zWr_4 {v : Nat → Int32} {n j : Nat} (hj : j < n) (e : ¬ zDl9 (v j) = -1) : zWr v n (n - j) j 4 = zWr v n (n - (j + 1)) (j + 1) (zDl9 (v j)) := by
  rw [zWr_ok (zKy_4 hj e), zDu_4]
theorem zDl9_s {k : Int32} (h : k = 115) : zDl9 k = 5 := if_pos h
theorem zDl9_g {k : Int32} (h : k = 103) : zDl9 k = 8 := by subst h; decide
theorem zDl9_l {k : Int32} (h : k = 108) : zDl9 k = 9 := by subst h; decide
theorem zDl9_o {k : Int32} (h1 : ¬ k = 115) (h2 : ¬ k = 103) (h3 : ¬ k = 108) : zDl9 k = -1 := (if_neg h1).trans ((if_neg h2).trans (if_neg h3))
theorem bfalse {x : Bool} (h : ¬ x = true) : x = false := Bool.eq_false_iff.mpr h
/-- one move read: what is wrong, and where -/
theorem zWr_rd {v : Nat → Int32} {n j : Nat} (hj : j < n) : (zRd v n j = 0 → zNj v j ≤ n ∧ zWr v n (n - j) j 4 = zWr v n (n - zNj v j) (zNj v j) 4) ∧ (¬ zRd v n j = 0 → zRd v n j - 1 ≤ n ∧ zWr v n (n - j) j 4 = nI (zRd v n j - 1)) := by
  unfold zRd zNj
  by_cases h1 : v j = 115
  · rw [if_pos h1, if_pos h1]
    have e0 : zWr v n (n - j) j 4 = zWr v n (n - (j + 1)) (j + 1) 5 := by rw [zWr_4 hj (by rw [zDl9_s h1]; decide), zDl9_s h1]
    by_cases h5 : zKy v n 5 (j + 1) = true
    · rw [if_pos h5]
      have e1 : zWr v n (n - j) j 4 = zWr v n (n - (j + 2)) (j + 2) 6 := by rw [e0, zWr_ok h5, zDu_5 (zKy_lt h5).2]
      by_cases h6 : zKy v n 6 (j + 2) = true
      · rw [if_pos h6]
        have e2 : zWr v n (n - j) j 4 = zWr v n (n - (j + 3)) (j + 3) 7 := by rw [e1, zWr_ok h6, zDu_6 (zKy_lt h6).2]
        by_cases h7 : zKy v n 7 (j + 3) = true
        · rw [if_pos h7]
          have h7b := zKy_lt h7
          refine ⟨fun _ => ⟨by omega, ?_⟩, fun q => absurd rfl q⟩
          rw [e2, zWr_ok h7]
          rcases zDu_7 (k := v (j + 3)) with z | z
          · rw [z.2.1]
          · exact absurd z.1 h7b.2
        · rw [if_neg h7]
          have h6b := zKy_lt h6
          exact ⟨fun q => by omega, fun _ => ⟨by omega, by rw [e2, zWr_bad (by omega) (by decide) (bfalse h7)]; rfl⟩⟩
      · rw [if_neg h6]
        have h5b := zKy_lt h5
        exact ⟨fun q => by omega, fun _ => ⟨by omega, by rw [e1, zWr_bad (by omega) (by decide) (bfalse h6)]; rfl⟩⟩
    · rw [if_neg h5]
      exact ⟨fun q => by omega, fun _ => ⟨by omega, by rw [e0, zWr_bad (by omega) (by decide) (bfalse h5)]; rfl⟩⟩
  rw [if_neg h1, if_neg h1]
  by_cases h2 : v j = 103
  · rw [if_pos h2]
    have e0 : zWr v n (n - j) j 4 = zWr v n (n - (j + 1)) (j + 1) 8 := by rw [zWr_4 hj (by rw [zDl9_g h2]; decide), zDl9_g h2]
    by_cases h5 : zKy v n 8 (j + 1) = true
    · rw [if_pos h5]
      have h5b := zKy_lt h5
      exact ⟨fun _ => ⟨by omega, by rw [e0, zWr_ok h5, zDu_8 h5b.2]⟩, fun q => absurd rfl q⟩
    · rw [if_neg h5]
      exact ⟨fun q => by omega, fun _ => ⟨by omega, by rw [e0, zWr_bad (by omega) (by decide) (bfalse h5)]; rfl⟩⟩
  rw [if_neg h2]
  by_cases h3 : v j = 108
  · rw [if_pos h3]
    have e0 : zWr v n (n - j) j 4 = zWr v n (n - (j + 1)) (j + 1) 9 := by rw [zWr_4 hj (by rw [zDl9_l h3]; decide), zDl9_l h3]
    by_cases h5 : zKy v n 9 (j + 1) = true
    · rw [if_pos h5]
      have h5b := zKy_lt h5
      exact ⟨fun _ => ⟨by omega, by rw [e0, zWr_ok h5, zDu_9 h5b.2]⟩, fun q => absurd rfl q⟩
    · rw [if_neg h5]
      exact ⟨fun q => by omega, fun _ => ⟨by omega, by rw [e0, zWr_bad (by omega) (by decide) (bfalse h5)]; rfl⟩⟩
  rw [if_neg h3]
  refine ⟨fun q => by omega, fun _ => ⟨by omega, ?_⟩⟩
  rw [show n - j = (n - (j + 1)) + 1 by omega, zWr, zSa_lt hj, if_pos (by rw [zDu_4]; exact zDl9_o h1 h2 h3)]
  rfl
theorem zNj_gt (v : Nat → Int32) (j : Nat) : j + 2 ≤ zNj v j := by
  unfold zNj
  split <;> omega
def zRdL (v : Nat → Int32) (n : Nat) : Nat → Nat → zHB × Nat → Nat × zHB × Nat
  | 0, j, s => (j, s)
  | k + 1, j, s => if j < n then (if zRd v n j = 0 then zRdL v n k (zNj v j) (zTxS v n j s) else (zRd v n j - 1, s)) else (j, s)
theorem zRdL_end {v : Nat → Int32} {n : Nat} : ∀ {k j : Nat} {s : zHB × Nat}, ¬ j < n → zRdL v n k j s = (j, s)
  | 0, _, _, _ => rfl
  | k + 1, j, s, h => by rw [zRdL, if_neg h]
theorem zRdL_on {v : Nat → Int32} {n k j : Nat} {s : zHB × Nat} (hj : j < n) (h : zRd v n j = 0) : zRdL v n (k + 1) j s = zRdL v n k (zNj v j) (zTxS v n j s) := by
  rw [zRdL, if_pos hj, if_pos h]
theorem zRdL_off {v : Nat → Int32} {n k j : Nat} {s : zHB × Nat} (hj : j < n) (h : ¬ zRd v n j = 0) : zRdL v n (k + 1) j s = (zRd v n j - 1, s) := by
  rw [zRdL, if_pos hj, if_neg h]
/-- no move begins at a digit or a sign -/
theorem zTxS_no {v : Nat → Int32} {n i : Nat} {s : zHB × Nat} (h : ¬ zSa v n i = 115 ∧ ¬ zSa v n i = 103 ∧ ¬ zSa v n i = 108) : zTxS v n i s = s := by
  unfold zTxS
  rw [if_neg h.1, if_neg h.2.1, if_neg h.2.2]
theorem zKy_nl {v : Nat → Int32} {n i : Nat} {d : Int32} (hv : zTu v) (hn : n ≤ 120) (hd : d = 0 ∨ d = 1 ∨ d = 2 ∨ d = 3 ∨ d = 5 ∨ d = 6 ∨ d = 7 ∨ d = 8 ∨ d = 9) (h : zKy v n d i = true) : ¬ zSa v n i = 115 ∧ ¬ zSa v n i = 103 ∧ ¬ zSa v n i = 108 := by
  obtain ⟨h1, h2⟩ := zKy_lt h
  rw [zSa_lt h1]
  refine ⟨fun q => ?_, fun q => ?_, fun q => ?_⟩ <;> rw [q] at h2 <;> rcases hd with rfl | rfl | rfl | rfl | rfl | rfl | rfl | rfl | rfl <;> exact h2 (by decide)
theorem zRdL_it {v : Nat → Int32} {n : Nat} (hv : zTu v) (hn : n ≤ 120) : ∀ (k j : Nat) (s : zHB × Nat), j ≤ n → n ≤ j + k → zWr v n (n - j) j 4 = -1 → zRdL v n k j s = (n, zIt (zTxS v n) (n - j) j s)
  | 0, j, s, h1, h2, h3 => by
    have e : j = n := by omega
    subst e
    rw [Nat.sub_self]
    rfl
  | k + 1, j, s, h1, h2, h3 => by
    by_cases hj : j < n
    · by_cases hr : zRd v n j = 0
      · obtain ⟨w1, w2⟩ := (zWr_rd hj).1 hr
        have hg := zNj_gt v j
        rw [zRdL_on hj hr, zRdL_it hv hn k (zNj v j) _ w1 (by omega) (w2 ▸ h3)]
        have key : zIt (zTxS v n) (n - j) j s = zIt (zTxS v n) (n - zNj v j) (zNj v j) (zTxS v n j s) := by
          unfold zRd at hr
          unfold zNj at w1 hg ⊢
          by_cases a : v j = 115
          · rw [if_pos a] at hr w1 hg ⊢
            by_cases h5 : zKy v n 5 (j + 1) = true
            · rw [if_pos h5] at hr
              by_cases h6 : zKy v n 6 (j + 2) = true
              · rw [if_pos h6] at hr
                by_cases h7 : zKy v n 7 (j + 3) = true
                · rw [show n - j = (n - (j + 4)) + 1 + 1 + 1 + 1 by omega, zIt_s, zIt_s, zIt_s, zIt_s, zTxS_no (i := j + 1) (zKy_nl hv hn (by decide) h5), zTxS_no (i := j + 1 + 1) (zKy_nl hv hn (by decide) h6), zTxS_no (i := j + 1 + 1 + 1) (zKy_nl hv hn (by decide) h7)]
                · rw [if_neg h7] at hr
                  omega
              · rw [if_neg h6] at hr
                omega
            · rw [if_neg h5] at hr
              omega
          · rw [if_neg a] at hr w1 hg ⊢
            have h5 : zKy v n 8 (j + 1) = true ∨ zKy v n 9 (j + 1) = true := by
              by_cases b : v j = 103
              · rw [if_pos b] at hr
                by_cases h5 : zKy v n 8 (j + 1) = true
                · exact Or.inl h5
                · rw [if_neg h5] at hr
                  omega
              · rw [if_neg b] at hr
                by_cases c : v j = 108
                · rw [if_pos c] at hr
                  by_cases h5 : zKy v n 9 (j + 1) = true
                  · exact Or.inr h5
                  · rw [if_neg h5] at hr
                    omega
                · rw [if_neg c] at hr
                  omega
            have h6 : ¬ zSa v n (j + 1) = 115 ∧ ¬ zSa v n (j + 1) = 103 ∧ ¬ zSa v n (j + 1) = 108 := h5.elim (zKy_nl hv hn (by decide)) (zKy_nl hv hn (by decide))
            rw [show n - j = (n - (j + 2)) + 1 + 1 by omega, zIt_s, zIt_s, zTxS_no (i := j + 1) h6]
        rw [key]
      · obtain ⟨w1, w2⟩ := (zWr_rd hj).2 hr
        rw [w2] at h3
        exact absurd h3 (nI_m1 (by omega))
    · have e : j = n := by omega
      subst e
      rw [zRdL_end hj, Nat.sub_self]
      rfl
theorem zTx_gs {v : Nat → Int32} {n j : Nat} {h : Nat → Int32} {b : Nat → Nat → Int32} {P t S e1 o : Nat} (hv : zTu v) (hn : n ≤ 120) (hj : j < n) (hr : zRd v n j = 0) (hG : zGs h b P t S e1) : ∃ h' b' o' t' e', zTxS v n j ((h, b), o) = ((h', b'), o') ∧ zGs h' b' P t' S e' := by
  unfold zTxS
  rw [zSa_lt hj]
  unfold zRd at hr
  have hV := hG.1
  by_cases a : v j = 115
  · rw [if_pos a] at hr ⊢
    by_cases h5 : zKy v n 5 (j + 1) = true
    · rw [if_pos h5] at hr
      by_cases h6 : zKy v n 6 (j + 2) = true
      · rcases zKy_d (i := j + 1) hv hn (by decide) zDg_5 with ⟨q, _⟩ | ⟨_, _, _, k, hk, _, ek, _⟩
        · exact absurd (q.symm.trans h5) (by decide)
        rcases zKy_d (i := j + 2) hv hn (by decide) zDg_6 with ⟨q, _⟩ | ⟨_, _, _, m, hm, _, em, _⟩
        · exact absurd (q.symm.trans h6) (by decide)
        rw [ek, em]
        by_cases c : zMs h b k (nI m) (zSn v (j + 3)) = true
        · have hz := zMs_r c
          have e9 : (if zMs h b k (nI m) (zSn v (j + 3)) = true then (zShS k m (zSn v (j + 3)) (h, b), o) else ((h, b), o + 1)) = (zShS k m (zSn v (j + 3)) (h, b), o) := if_pos c
          exact ⟨_, _, _, t, e1, e9, zGs_sh hG ((zHp_lt hG.1.1.1 hG.1.1.2.1 (by omega)).mp hz.2.2.1) (zLi_lt (by omega) hz.2.2.2.1)⟩
        · have e9 : (if zMs h b k (nI m) (zSn v (j + 3)) = true then (zShS k m (zSn v (j + 3)) (h, b), o) else ((h, b), o + 1)) = ((h, b), o + 1) := if_neg c
          exact ⟨_, _, _, t, e1, e9, hG⟩
      · rw [if_neg h6] at hr
        omega
    · rw [if_neg h5] at hr
      omega
  rw [if_neg a] at hr ⊢
  by_cases g : v j = 103
  · rw [if_pos g] at hr ⊢
    rcases zKy_d (i := j + 1) hv hn (by decide) zDg_8 with ⟨q, _⟩ | ⟨_, _, _, k, hk, _, ek, _⟩
    · rw [q] at hr
      exact absurd hr (by rw [if_neg (by decide)]; omega)
    rw [ek]
    by_cases c : zMg h b (zSs h) (zTt h) (nI k) = true
    · have e9 : (if zMg h b (zSs h) (zTt h) (nI k) = true then (zGoS k (h, b), o) else ((h, b), o + 1)) = (zGoS k (h, b), o) := if_pos c
      have hr2 := (zMg_r c).2
      obtain ⟨t2, w2⟩ := zGs_go (n := k) hG (zRu_P hG.1.1.1 hG.1.1.2.1 hr2) (zRu_4 hr2) (zMg_lt (by omega) c)
      exact ⟨_, _, _, t2, _, e9.trans (by rw [zGoS_e hV]), w2⟩
    · have e9 : (if zMg h b (zSs h) (zTt h) (nI k) = true then (zGoS k (h, b), o) else ((h, b), o + 1)) = ((h, b), o + 1) := if_neg c
      exact ⟨_, _, _, t, e1, e9, hG⟩
  rw [if_neg g] at hr ⊢
  by_cases d : v j = 108
  · rw [if_pos d] at hr ⊢
    by_cases c : zMe h = true
    · have e9 : (if zMe h = true then (zLkS (nI (zDn v n (j + 1))) (h, b), o) else ((h, b), o + 1)) = (zLkS (nI (zDn v n (j + 1))) (h, b), o) := if_pos c
      have hr2 := zMe_r c
      obtain ⟨t2, w2⟩ := zGs_lk (n := nI (zDn v n (j + 1))) hG (zRu_P hG.1.1.1 hG.1.1.2.1 hr2) (zRu_4 hr2)
      exact ⟨_, _, _, t2, _, e9.trans (by rw [zLkS_e hV]), w2⟩
    · have e9 : (if zMe h = true then (zLkS (nI (zDn v n (j + 1))) (h, b), o) else ((h, b), o + 1)) = ((h, b), o + 1) := if_neg c
      exact ⟨_, _, _, t, e1, e9, hG⟩
  rw [if_neg d] at hr
  omega
theorem zSn_di (v : Nat → Int32) (i : Nat) : zDi (zSn v i) = true := by
  unfold zSn
  split <;> rfl
theorem zSn_01 (v : Nat → Int32) (i : Nat) : zSn v i = 0 ∨ zSn v i = 1 := by
  unfold zSn
  split
  · exact Or.inr rfl
  · exact Or.inl rfl
def zRmA (v : Nat → Int32) (n j : Nat) : Nat := if zRd v n j = 0 then zNj v j else zRd v n j - 1
def zRmS (v : Nat → Int32) (n j : Nat) (s : zHB × Nat) : zHB × Nat := if zRd v n j = 0 then zTxS v n j s else s
theorem zRm_bad {v : Nat → Int32} {n j q : Nat} (s : zHB × Nat) (hr : zRd v n j = q + 1) : zRmA v n j = q ∧ zRmS v n j s = s ∧ decide (zRd v n j = 0) = false := by
  unfold zRmA zRmS
  rw [hr]
  exact ⟨if_neg (by omega), if_neg (by omega), decide_eq_false (by omega)⟩
theorem zRm_ok {v : Nat → Int32} {n j : Nat} (s : zHB × Nat) (hr : zRd v n j = 0) : zRmA v n j = zNj v j ∧ zRmS v n j s = zTxS v n j s ∧ decide (zRd v n j = 0) = true := by
  unfold zRmA zRmS
  rw [hr]
  exact ⟨if_pos rfl, if_pos rfl, decide_eq_true rfl⟩
set_option maxHeartbeats 4000000 in
set_option maxRecDepth 100000 in
theorem c_done1 (l : Launch) (G : zC) (q : Nat) (v0 v1 v2 v3 v4 v5 v6 v7 v8 v9 v10 v11 v12 v13 v14 : Value) (o9 : Nat) : zMet l G yX7_done wsX7_done rmX7_done [.ref q, .int 1] ([(q, .inr (7, [v0, v1, v2, v3, v4, v5, v6, v7, v8, v9, v10, v11, v12, v13, v14, .int (nI o9)]))]) (some (.int 1)) ([(q, .inr (7, [v0, v1, v2, v3, v4, v5, v6, v7, v8, v9, v10, v11, v12, v13, v14, .int (nI o9)]))]) := by
  refine zMet_of (cc := cX7_done) (maxL := 2) (ret := (some .boolean)) (by decide) rfl (Nat.le_of_ble_eq_true rfl) ?_
  intro p e s m below meth c A ls hx hb hr hml hown hts hK hA hE hlocks hin hM hl
  have hown : s.vm.findClass RX7 = some m.cls := hown
  have hM : zM G A s s.heap [] ([(q, .inr (7, [v0, v1, v2, v3, v4, v5, v6, v7, v8, v9, v10, v11, v12, v13, v14, .int (nI o9)]))]) := hM
  have hl : lv_has ls 2 [(0, .ref q), (1, .int 1)] := hl
  refine lv_aload_n hx hb dX7_done_0 rfl (lv_at hl 0 rfl) ?_
  refine lv_dup hx hb dX7_done_1 rfl ?_
  refine z_get (ci := 7) (v := .int (nI o9)) (C := RX7) (T := TX7) (N := 16) hx hb hts (by decide +kernel) hown hK hM 0 rfl rfl 15 (by decide) (hts (.fieldLink RX7 170 "ShiftIslesModel" "out" "I") (by decide +kernel)) (fun _ h9 => h9) rfl dX7_done_2 ?_
  refine lv_iload_n hx hb dX7_done_5 rfl (lv_at hl 1 rfl) ?_
  refine lv_if_eq (tgt := 13) hx hb dX7_done_6 (by decide) (fun c_1 => absurd c_1 (by decide)) (fun c_1 => ?_)
  refine lv_iconst (v := nI 0) hx hb dX7_done_9 (by decide) ?_
  refine lv_goto (tgt := 14) hx hb dX7_done_10 (by decide) ?_
  refine lv_iadd hx hb dX7_done_14 ?_
  refine z_topi (y := nI (o9 + 0)) (nI_add o9 0) ?_
  refine z_put (ci := 7) (ty := .int) (v := .int (nI (o9 + 0))) (C := RX7) (T := TX7) (N := 16) (ws' := [(q, .inr (7, [v0, v1, v2, v3, v4, v5, v6, v7, v8, v9, v10, v11, v12, v13, v14, .int (nI (o9 + 0))]))]) hx hb hts (by decide +kernel) tyX7 tyX7_ok nmX7 hown hK hM 0 rfl rfl 15 (by decide) (hts (.fieldLink RX7 170 "ShiftIslesModel" "out" "I") (by decide +kernel)) (fun _ h9 => h9) rfl (by decide +kernel) rfl rfl (Nat.le_of_ble_eq_true rfl) dX7_done_15 rfl (fun H locs hM => ?_)
  refine lv_iconst (v := 1) hx hb dX7_done_18 (by decide) ?_
  exact z_zret hx hb hr hlocks dX7_done_19 hM (Nat.le_of_ble_eq_true rfl) (Nat.le_of_ble_eq_true rfl) (by first | exact Or.inl rfl | exact Or.inr rfl | exact zb_01 _) rfl

set_option maxHeartbeats 4000000 in
set_option maxRecDepth 100000 in
theorem c_done0 (l : Launch) (G : zC) (q : Nat) (v0 v1 v2 v3 v4 v5 v6 v7 v8 v9 v10 v11 v12 v13 v14 : Value) (o9 : Nat) : zMet l G yX7_done wsX7_done rmX7_done [.ref q, .int 0] ([(q, .inr (7, [v0, v1, v2, v3, v4, v5, v6, v7, v8, v9, v10, v11, v12, v13, v14, .int (nI o9)]))]) (some (.int 1)) ([(q, .inr (7, [v0, v1, v2, v3, v4, v5, v6, v7, v8, v9, v10, v11, v12, v13, v14, .int (nI (o9 + 1))]))]) := by
  refine zMet_of (cc := cX7_done) (maxL := 2) (ret := (some .boolean)) (by decide) rfl (Nat.le_of_ble_eq_true rfl) ?_
  intro p e s m below meth c A ls hx hb hr hml hown hts hK hA hE hlocks hin hM hl
  have hown : s.vm.findClass RX7 = some m.cls := hown
  have hM : zM G A s s.heap [] ([(q, .inr (7, [v0, v1, v2, v3, v4, v5, v6, v7, v8, v9, v10, v11, v12, v13, v14, .int (nI o9)]))]) := hM
  have hl : lv_has ls 2 [(0, .ref q), (1, .int 0)] := hl
  refine lv_aload_n hx hb dX7_done_0 rfl (lv_at hl 0 rfl) ?_
  refine lv_dup hx hb dX7_done_1 rfl ?_
  refine z_get (ci := 7) (v := .int (nI o9)) (C := RX7) (T := TX7) (N := 16) hx hb hts (by decide +kernel) hown hK hM 0 rfl rfl 15 (by decide) (hts (.fieldLink RX7 170 "ShiftIslesModel" "out" "I") (by decide +kernel)) (fun _ h9 => h9) rfl dX7_done_2 ?_
  refine lv_iload_n hx hb dX7_done_5 rfl (lv_at hl 1 rfl) ?_
  refine lv_if_eq (tgt := 13) hx hb dX7_done_6 (by decide) (fun c_1 => ?_) (fun c_1 => absurd rfl c_1)
  refine lv_iconst (v := nI 1) hx hb dX7_done_13 (by decide) ?_
  refine lv_iadd hx hb dX7_done_14 ?_
  refine z_topi (y := nI (o9 + 1)) (nI_add o9 1) ?_
  refine z_put (ci := 7) (ty := .int) (v := .int (nI (o9 + 1))) (C := RX7) (T := TX7) (N := 16) (ws' := [(q, .inr (7, [v0, v1, v2, v3, v4, v5, v6, v7, v8, v9, v10, v11, v12, v13, v14, .int (nI (o9 + 1))]))]) hx hb hts (by decide +kernel) tyX7 tyX7_ok nmX7 hown hK hM 0 rfl rfl 15 (by decide) (hts (.fieldLink RX7 170 "ShiftIslesModel" "out" "I") (by decide +kernel)) (fun _ h9 => h9) rfl (by decide +kernel) rfl rfl (Nat.le_of_ble_eq_true rfl) dX7_done_15 rfl (fun H locs hM => ?_)
  refine lv_iconst (v := 1) hx hb dX7_done_18 (by decide) ?_
  exact z_zret hx hb hr hlocks dX7_done_19 hM (Nat.le_of_ble_eq_true rfl) (Nat.le_of_ble_eq_true rfl) (by first | exact Or.inl rfl | exact Or.inr rfl | exact zb_01 _) rfl

set_option maxHeartbeats 4000000 in
set_option maxRecDepth 100000 in
theorem c_rs1 (l : Launch) (G : zC) (q : Nat) (v0 v3 v4 v5 v6 v7 v8 v9 v10 v11 v12 v13 : Value) (z n i o9 : Nat) (v : Nat → Int32) (r : Nat) (h : Nat → Int32) (b : Nat → Nat → Int32) (P t S e0 : Nat) (hG : zGs h b P t S e0) (hn : n ≤ 120) (hin9 : i ≤ 200) (h1 : zI0 (zDg v n i).toInt64 (0 : Int32).toInt64 (3 : Int32).toInt64 = false) : zMet l G yX7_readShift wsX7_readShift rmX7_readShift [.ref q, .ref r] ([(q, .inr (7, [v0, .ref z, .int (nI n), v3, v4, v5, v6, v7, v8, v9, v10, v11, v12, v13, .int (nI i), .int (nI o9)])), (z, .inl (G.2 1, 120, .inl v)), (r, .inl (G.2 1, 121, .inl (flt h b)))]) (some (.int 0)) ([(q, .inr (7, [v0, .ref z, .int (nI n), v3, v4, v5, v6, v7, v8, v9, v10, v11, v12, v13, .int (nI i), .int (nI o9)])), (z, .inl (G.2 1, 120, .inl v)), (r, .inl (G.2 1, 121, .inl (flt h b)))]) := by
  refine zMet_of (cc := cX7_readShift) (maxL := 6) (ret := (some .boolean)) (by decide) rfl (Nat.le_of_ble_eq_true rfl) ?_
  intro p e s m below meth c A ls hx hb hr hml hown hts hK hA hE hlocks hin hM hl
  have hown : s.vm.findClass RX7 = some m.cls := hown
  have hM : zM G A s s.heap [] ([(q, .inr (7, [v0, .ref z, .int (nI n), v3, v4, v5, v6, v7, v8, v9, v10, v11, v12, v13, .int (nI i), .int (nI o9)])), (z, .inl (G.2 1, 120, .inl v)), (r, .inl (G.2 1, 121, .inl (flt h b)))]) := hM
  have hl : lv_has ls 6 [(0, .ref q), (1, .ref r)] := hl
  have hP4 := hG.1.1.2.1
  refine lv_aload_n hx hb dX7_readShift_0 rfl (lv_at hl 0 rfl) ?_
  refine lv_iconst (v := 0) hx hb dX7_readShift_1 (by decide) ?_
  refine lv_iconst (v := 3) hx hb dX7_readShift_2 (by decide) ?_
  refine z_callV (As := [.int 0, .int 3]) (rest := []) (wc := [(q, .inr (7, [v0, .ref z, .int (nI n), v3, v4, v5, v6, v7, v8, v9, v10, v11, v12, v13, .int (nI i), .int (nI o9)])), (z, .inl (G.2 1, 120, .inl v))]) (wr := [(r, .inl (G.2 1, 121, .inl (flt h b)))]) (w1 := [(q, .inr (7, [v0, .ref z, .int (nI n), v3, v4, v5, v6, v7, v8, v9, v10, v11, v12, v13, .int (nI i), .int (nI o9)])), (z, .inl (G.2 1, 120, .inl v))]) (ws' := [(q, .inr (7, [v0, .ref z, .int (nI n), v3, v4, v5, v6, v7, v8, v9, v10, v11, v12, v13, .int (nI i), .int (nI o9)])), (z, .inl (G.2 1, 120, .inl v)), (r, .inl (G.2 1, 121, .inl (flt h b)))]) ⟨hx, hb, hml, hown, hts⟩ (c_dig0 l G q v0 v3 v4 v5 v6 v7 v8 v9 v10 v11 v12 v13 (.int (nI o9)) z n i v 0 3 hn (by omega) h1) (cwV 2 hts gX7_readShift_X7_digit rfl rfl rfl (by decide +kernel) ⟨Nat.le_of_ble_eq_true rfl, Nat.le_of_ble_eq_true rfl⟩) 7 rfl rfl rfl rfl hl.1 rfl (Nat.le_of_ble_eq_true rfl) dX7_readShift_3 ⟨Nat.le_of_ble_eq_true rfl, Nat.le_of_ble_eq_true rfl⟩ hK hE hA hM (pm_at 3 [0, 1] [2] rfl rfl rfl (by decide)) ((pm_at 3 [0, 1] [2] rfl rfl rfl (by decide))).symm (fun H locs hM hz => ?_)
  refine lv_istore_n (lv' := [(2, .int (-1)), (0, .ref q), (1, .ref r)]) hx hb dX7_readShift_6 rfl hl (by decide) rfl (fun ls hl => ?_)
  refine lv_iload_n hx hb dX7_readShift_7 rfl (lv_at hl 0 rfl) ?_
  refine lv_iconst (v := (-1)) hx hb dX7_readShift_8 (by decide) ?_
  refine lv_icmp_ne (tgt := 16) hx hb dX7_readShift_9 (by decide) (fun c_1 => absurd rfl c_1) (fun c_1 => ?_)
  refine lv_iconst (v := (-1)) hx hb dX7_readShift_12 (by decide) ?_
  refine lv_goto (tgt := 22) hx hb dX7_readShift_13 (by decide) ?_
  refine lv_istore_n (lv' := [(3, .int (-1)), (2, .int (-1)), (0, .ref q), (1, .ref r)]) hx hb dX7_readShift_22 rfl hl (by decide) rfl (fun ls hl => ?_)
  refine lv_iload_n hx hb dX7_readShift_23 rfl (lv_at hl 0 rfl) ?_
  refine lv_iconst (v := (-1)) hx hb dX7_readShift_24 (by decide) ?_
  refine lv_icmp_eq (tgt := 71) hx hb dX7_readShift_25 (by decide) (fun c_2 => ?_) (fun c_2 => absurd rfl c_2)
  refine lv_iconst (v := 0) hx hb dX7_readShift_71 (by decide) ?_
  refine lv_istore (lv' := [(4, .int 0), (3, .int (-1)), (2, .int (-1)), (0, .ref q), (1, .ref r)]) hx hb dX7_readShift_72 hl (by decide) rfl (fun ls hl => ?_)
  refine lv_iload hx hb dX7_readShift_74 (lv_at hl 0 rfl) ?_
  refine lv_if_ne (tgt := 81) hx hb dX7_readShift_76 (by decide) (fun c_3 => absurd rfl c_3) (fun c_3 => ?_)
  refine lv_iconst (v := 0) hx hb dX7_readShift_79 (by decide) ?_
  exact z_zret hx hb hr hlocks dX7_readShift_80 hM (Nat.le_of_ble_eq_true rfl) (Nat.le_of_ble_eq_true rfl) (by first | exact Or.inl rfl | exact Or.inr rfl | exact zb_01 _) rfl

set_option maxHeartbeats 4000000 in
set_option maxRecDepth 100000 in
theorem c_rs2 (l : Launch) (G : zC) (q : Nat) (v0 v3 v4 v5 v6 v7 v8 v9 v10 v11 v12 v13 : Value) (z n i o9 : Nat) (v : Nat → Int32) (r : Nat) (h : Nat → Int32) (b : Nat → Nat → Int32) (P t S e0 : Nat) (hG : zGs h b P t S e0) (hn : n ≤ 120) (hin9 : i ≤ 200) (k8 : Nat) (hk8 : k8 < 10) (e1 : zDg v n i = nI k8) (h1 : zI0 (zDg v n i).toInt64 (0 : Int32).toInt64 (3 : Int32).toInt64 = true) (h2 : zI0 (zDg v n (i + 1)).toInt64 (0 : Int32).toInt64 (5 : Int32).toInt64 = false) : zMet l G yX7_readShift wsX7_readShift rmX7_readShift [.ref q, .ref r] ([(q, .inr (7, [v0, .ref z, .int (nI n), v3, v4, v5, v6, v7, v8, v9, v10, v11, v12, v13, .int (nI i), .int (nI o9)])), (z, .inl (G.2 1, 120, .inl v)), (r, .inl (G.2 1, 121, .inl (flt h b)))]) (some (.int 0)) ([(q, .inr (7, [v0, .ref z, .int (nI n), v3, v4, v5, v6, v7, v8, v9, v10, v11, v12, v13, .int (nI (i + 1)), .int (nI o9)])), (z, .inl (G.2 1, 120, .inl v)), (r, .inl (G.2 1, 121, .inl (flt h b)))]) := by
  refine zMet_of (cc := cX7_readShift) (maxL := 6) (ret := (some .boolean)) (by decide) rfl (Nat.le_of_ble_eq_true rfl) ?_
  intro p e s m below meth c A ls hx hb hr hml hown hts hK hA hE hlocks hin hM hl
  have hown : s.vm.findClass RX7 = some m.cls := hown
  have hM : zM G A s s.heap [] ([(q, .inr (7, [v0, .ref z, .int (nI n), v3, v4, v5, v6, v7, v8, v9, v10, v11, v12, v13, .int (nI i), .int (nI o9)])), (z, .inl (G.2 1, 120, .inl v)), (r, .inl (G.2 1, 121, .inl (flt h b)))]) := hM
  have hl : lv_has ls 6 [(0, .ref q), (1, .ref r)] := hl
  have hP4 := hG.1.1.2.1
  refine lv_aload_n hx hb dX7_readShift_0 rfl (lv_at hl 0 rfl) ?_
  refine lv_iconst (v := 0) hx hb dX7_readShift_1 (by decide) ?_
  refine lv_iconst (v := 3) hx hb dX7_readShift_2 (by decide) ?_
  refine z_callV (As := [.int 0, .int 3]) (rest := []) (wc := [(q, .inr (7, [v0, .ref z, .int (nI n), v3, v4, v5, v6, v7, v8, v9, v10, v11, v12, v13, .int (nI i), .int (nI o9)])), (z, .inl (G.2 1, 120, .inl v))]) (wr := [(r, .inl (G.2 1, 121, .inl (flt h b)))]) (w1 := [(q, .inr (7, [v0, .ref z, .int (nI n), v3, v4, v5, v6, v7, v8, v9, v10, v11, v12, v13, .int (nI (i + 1)), .int (nI o9)])), (z, .inl (G.2 1, 120, .inl v))]) (ws' := [(q, .inr (7, [v0, .ref z, .int (nI n), v3, v4, v5, v6, v7, v8, v9, v10, v11, v12, v13, .int (nI (i + 1)), .int (nI o9)])), (z, .inl (G.2 1, 120, .inl v)), (r, .inl (G.2 1, 121, .inl (flt h b)))]) ⟨hx, hb, hml, hown, hts⟩ (c_dig1 l G q v0 v3 v4 v5 v6 v7 v8 v9 v10 v11 v12 v13 (.int (nI o9)) z n i v 0 3 hn (by omega) h1) (cwV 2 hts gX7_readShift_X7_digit rfl rfl rfl (by decide +kernel) ⟨Nat.le_of_ble_eq_true rfl, Nat.le_of_ble_eq_true rfl⟩) 7 rfl rfl rfl rfl hl.1 rfl (Nat.le_of_ble_eq_true rfl) dX7_readShift_3 ⟨Nat.le_of_ble_eq_true rfl, Nat.le_of_ble_eq_true rfl⟩ hK hE hA hM (pm_at 3 [0, 1] [2] rfl rfl rfl (by decide)) ((pm_at 3 [0, 1] [2] rfl rfl rfl (by decide))).symm (fun H locs hM hz => ?_)
  refine z_topi (y := nI k8) e1 ?_
  refine lv_istore_n (lv' := [(2, .int (nI k8)), (0, .ref q), (1, .ref r)]) hx hb dX7_readShift_6 rfl hl (by decide) rfl (fun ls hl => ?_)
  refine lv_iload_n hx hb dX7_readShift_7 rfl (lv_at hl 0 rfl) ?_
  refine lv_iconst (v := (-1)) hx hb dX7_readShift_8 (by decide) ?_
  refine lv_icmp_ne (tgt := 16) hx hb dX7_readShift_9 (by decide) (fun c_1 => ?_) (fun c_1 => absurd c_1 (nI_m1 (by omega)))
  refine lv_aload_n hx hb dX7_readShift_16 rfl (lv_at hl 1 rfl) ?_
  refine lv_iconst (v := 0) hx hb dX7_readShift_17 (by decide) ?_
  refine lv_iconst (v := 5) hx hb dX7_readShift_18 (by decide) ?_
  refine z_callV (As := [.int 0, .int 5]) (rest := []) (wc := [(q, .inr (7, [v0, .ref z, .int (nI n), v3, v4, v5, v6, v7, v8, v9, v10, v11, v12, v13, .int (nI (i + 1)), .int (nI o9)])), (z, .inl (G.2 1, 120, .inl v))]) (wr := [(r, .inl (G.2 1, 121, .inl (flt h b)))]) (w1 := [(q, .inr (7, [v0, .ref z, .int (nI n), v3, v4, v5, v6, v7, v8, v9, v10, v11, v12, v13, .int (nI (i + 1)), .int (nI o9)])), (z, .inl (G.2 1, 120, .inl v))]) (ws' := [(q, .inr (7, [v0, .ref z, .int (nI n), v3, v4, v5, v6, v7, v8, v9, v10, v11, v12, v13, .int (nI (i + 1)), .int (nI o9)])), (z, .inl (G.2 1, 120, .inl v)), (r, .inl (G.2 1, 121, .inl (flt h b)))]) ⟨hx, hb, hml, hown, hts⟩ (c_dig0 l G q v0 v3 v4 v5 v6 v7 v8 v9 v10 v11 v12 v13 (.int (nI o9)) z n (i + 1) v 0 5 hn (by omega) h2) (cwV 2 hts gX7_readShift_X7_digit rfl rfl rfl (by decide +kernel) ⟨Nat.le_of_ble_eq_true rfl, Nat.le_of_ble_eq_true rfl⟩) 7 rfl rfl rfl rfl hl.1 rfl (Nat.le_of_ble_eq_true rfl) dX7_readShift_19 ⟨Nat.le_of_ble_eq_true rfl, Nat.le_of_ble_eq_true rfl⟩ hK hE hA hM (pm_at 3 [0, 1] [2] rfl rfl rfl (by decide)) ((pm_at 3 [0, 1] [2] rfl rfl rfl (by decide))).symm (fun H locs hM hz => ?_)
  refine lv_istore_n (lv' := [(3, .int (-1)), (2, .int (nI k8)), (0, .ref q), (1, .ref r)]) hx hb dX7_readShift_22 rfl hl (by decide) rfl (fun ls hl => ?_)
  refine lv_iload_n hx hb dX7_readShift_23 rfl (lv_at hl 0 rfl) ?_
  refine lv_iconst (v := (-1)) hx hb dX7_readShift_24 (by decide) ?_
  refine lv_icmp_eq (tgt := 71) hx hb dX7_readShift_25 (by decide) (fun c_2 => ?_) (fun c_2 => absurd rfl c_2)
  refine lv_iconst (v := 0) hx hb dX7_readShift_71 (by decide) ?_
  refine lv_istore (lv' := [(4, .int 0), (3, .int (-1)), (2, .int (nI k8)), (0, .ref q), (1, .ref r)]) hx hb dX7_readShift_72 hl (by decide) rfl (fun ls hl => ?_)
  refine lv_iload hx hb dX7_readShift_74 (lv_at hl 0 rfl) ?_
  refine lv_if_ne (tgt := 81) hx hb dX7_readShift_76 (by decide) (fun c_3 => absurd rfl c_3) (fun c_3 => ?_)
  refine lv_iconst (v := 0) hx hb dX7_readShift_79 (by decide) ?_
  exact z_zret hx hb hr hlocks dX7_readShift_80 hM (Nat.le_of_ble_eq_true rfl) (Nat.le_of_ble_eq_true rfl) (by first | exact Or.inl rfl | exact Or.inr rfl | exact zb_01 _) rfl

set_option maxHeartbeats 4000000 in
set_option maxRecDepth 100000 in
theorem c_rs3 (l : Launch) (G : zC) (q : Nat) (v0 v3 v4 v5 v6 v7 v8 v9 v10 v11 v12 v13 : Value) (z n i o9 : Nat) (v : Nat → Int32) (r : Nat) (h : Nat → Int32) (b : Nat → Nat → Int32) (P t S e0 : Nat) (hG : zGs h b P t S e0) (hn : n ≤ 120) (hin9 : i ≤ 200) (k8 : Nat) (hk8 : k8 < 10) (e1 : zDg v n i = nI k8) (h1 : zI0 (zDg v n i).toInt64 (0 : Int32).toInt64 (3 : Int32).toInt64 = true) (l8 : Nat) (hl8 : l8 < 10) (e2 : zDg v n (i + 1) = nI l8) (h2 : zI0 (zDg v n (i + 1)).toInt64 (0 : Int32).toInt64 (5 : Int32).toInt64 = true) (h3 : ¬ (i + 1 + 1 < n ∧ (v (i + 1 + 1) = 43 ∨ v (i + 1 + 1) = 45))) : zMet l G yX7_readShift wsX7_readShift rmX7_readShift [.ref q, .ref r] ([(q, .inr (7, [v0, .ref z, .int (nI n), v3, v4, v5, v6, v7, v8, v9, v10, v11, v12, v13, .int (nI i), .int (nI o9)])), (z, .inl (G.2 1, 120, .inl v)), (r, .inl (G.2 1, 121, .inl (flt h b)))]) (some (.int 0)) ([(q, .inr (7, [v0, .ref z, .int (nI n), v3, v4, v5, v6, v7, v8, v9, v10, v11, v12, v13, .int (nI (i + 1 + 1)), .int (nI o9)])), (z, .inl (G.2 1, 120, .inl v)), (r, .inl (G.2 1, 121, .inl (flt h b)))]) := by
  refine zMet_of (cc := cX7_readShift) (maxL := 6) (ret := (some .boolean)) (by decide) rfl (Nat.le_of_ble_eq_true rfl) ?_
  intro p e s m below meth c A ls hx hb hr hml hown hts hK hA hE hlocks hin hM hl
  have hown : s.vm.findClass RX7 = some m.cls := hown
  have hM : zM G A s s.heap [] ([(q, .inr (7, [v0, .ref z, .int (nI n), v3, v4, v5, v6, v7, v8, v9, v10, v11, v12, v13, .int (nI i), .int (nI o9)])), (z, .inl (G.2 1, 120, .inl v)), (r, .inl (G.2 1, 121, .inl (flt h b)))]) := hM
  have hl : lv_has ls 6 [(0, .ref q), (1, .ref r)] := hl
  have hP4 := hG.1.1.2.1
  refine lv_aload_n hx hb dX7_readShift_0 rfl (lv_at hl 0 rfl) ?_
  refine lv_iconst (v := 0) hx hb dX7_readShift_1 (by decide) ?_
  refine lv_iconst (v := 3) hx hb dX7_readShift_2 (by decide) ?_
  refine z_callV (As := [.int 0, .int 3]) (rest := []) (wc := [(q, .inr (7, [v0, .ref z, .int (nI n), v3, v4, v5, v6, v7, v8, v9, v10, v11, v12, v13, .int (nI i), .int (nI o9)])), (z, .inl (G.2 1, 120, .inl v))]) (wr := [(r, .inl (G.2 1, 121, .inl (flt h b)))]) (w1 := [(q, .inr (7, [v0, .ref z, .int (nI n), v3, v4, v5, v6, v7, v8, v9, v10, v11, v12, v13, .int (nI (i + 1)), .int (nI o9)])), (z, .inl (G.2 1, 120, .inl v))]) (ws' := [(q, .inr (7, [v0, .ref z, .int (nI n), v3, v4, v5, v6, v7, v8, v9, v10, v11, v12, v13, .int (nI (i + 1)), .int (nI o9)])), (z, .inl (G.2 1, 120, .inl v)), (r, .inl (G.2 1, 121, .inl (flt h b)))]) ⟨hx, hb, hml, hown, hts⟩ (c_dig1 l G q v0 v3 v4 v5 v6 v7 v8 v9 v10 v11 v12 v13 (.int (nI o9)) z n i v 0 3 hn (by omega) h1) (cwV 2 hts gX7_readShift_X7_digit rfl rfl rfl (by decide +kernel) ⟨Nat.le_of_ble_eq_true rfl, Nat.le_of_ble_eq_true rfl⟩) 7 rfl rfl rfl rfl hl.1 rfl (Nat.le_of_ble_eq_true rfl) dX7_readShift_3 ⟨Nat.le_of_ble_eq_true rfl, Nat.le_of_ble_eq_true rfl⟩ hK hE hA hM (pm_at 3 [0, 1] [2] rfl rfl rfl (by decide)) ((pm_at 3 [0, 1] [2] rfl rfl rfl (by decide))).symm (fun H locs hM hz => ?_)
  refine z_topi (y := nI k8) e1 ?_
  refine lv_istore_n (lv' := [(2, .int (nI k8)), (0, .ref q), (1, .ref r)]) hx hb dX7_readShift_6 rfl hl (by decide) rfl (fun ls hl => ?_)
  refine lv_iload_n hx hb dX7_readShift_7 rfl (lv_at hl 0 rfl) ?_
  refine lv_iconst (v := (-1)) hx hb dX7_readShift_8 (by decide) ?_
  refine lv_icmp_ne (tgt := 16) hx hb dX7_readShift_9 (by decide) (fun c_1 => ?_) (fun c_1 => absurd c_1 (nI_m1 (by omega)))
  refine lv_aload_n hx hb dX7_readShift_16 rfl (lv_at hl 1 rfl) ?_
  refine lv_iconst (v := 0) hx hb dX7_readShift_17 (by decide) ?_
  refine lv_iconst (v := 5) hx hb dX7_readShift_18 (by decide) ?_
  refine z_callV (As := [.int 0, .int 5]) (rest := []) (wc := [(q, .inr (7, [v0, .ref z, .int (nI n), v3, v4, v5, v6, v7, v8, v9, v10, v11, v12, v13, .int (nI (i + 1)), .int (nI o9)])), (z, .inl (G.2 1, 120, .inl v))]) (wr := [(r, .inl (G.2 1, 121, .inl (flt h b)))]) (w1 := [(q, .inr (7, [v0, .ref z, .int (nI n), v3, v4, v5, v6, v7, v8, v9, v10, v11, v12, v13, .int (nI ((i + 1) + 1)), .int (nI o9)])), (z, .inl (G.2 1, 120, .inl v))]) (ws' := [(q, .inr (7, [v0, .ref z, .int (nI n), v3, v4, v5, v6, v7, v8, v9, v10, v11, v12, v13, .int (nI ((i + 1) + 1)), .int (nI o9)])), (z, .inl (G.2 1, 120, .inl v)), (r, .inl (G.2 1, 121, .inl (flt h b)))]) ⟨hx, hb, hml, hown, hts⟩ (c_dig1 l G q v0 v3 v4 v5 v6 v7 v8 v9 v10 v11 v12 v13 (.int (nI o9)) z n (i + 1) v 0 5 hn (by omega) h2) (cwV 2 hts gX7_readShift_X7_digit rfl rfl rfl (by decide +kernel) ⟨Nat.le_of_ble_eq_true rfl, Nat.le_of_ble_eq_true rfl⟩) 7 rfl rfl rfl rfl hl.1 rfl (Nat.le_of_ble_eq_true rfl) dX7_readShift_19 ⟨Nat.le_of_ble_eq_true rfl, Nat.le_of_ble_eq_true rfl⟩ hK hE hA hM (pm_at 3 [0, 1] [2] rfl rfl rfl (by decide)) ((pm_at 3 [0, 1] [2] rfl rfl rfl (by decide))).symm (fun H locs hM hz => ?_)
  refine z_topi (y := nI l8) e2 ?_
  refine lv_istore_n (lv' := [(3, .int (nI l8)), (2, .int (nI k8)), (0, .ref q), (1, .ref r)]) hx hb dX7_readShift_22 rfl hl (by decide) rfl (fun ls hl => ?_)
  refine lv_iload_n hx hb dX7_readShift_23 rfl (lv_at hl 0 rfl) ?_
  refine lv_iconst (v := (-1)) hx hb dX7_readShift_24 (by decide) ?_
  refine lv_icmp_eq (tgt := 71) hx hb dX7_readShift_25 (by decide) (fun c_2 => absurd c_2 (nI_m1 (by omega))) (fun c_2 => ?_)
  refine lv_aload_n hx hb dX7_readShift_28 rfl (lv_at hl 2 rfl) ?_
  refine z_get (ci := 7) (v := .int (nI ((i + 1) + 1))) (C := RX7) (T := TX7) (N := 16) hx hb hts (by decide +kernel) hown hK hM 0 rfl rfl 14 (by decide) (hts (.fieldLink RX7 167 "ShiftIslesModel" "spot" "I") (by decide +kernel)) (fun _ h9 => h9) rfl dX7_readShift_29 ?_
  refine lv_aload_n hx hb dX7_readShift_32 rfl (lv_at hl 2 rfl) ?_
  refine z_get (ci := 7) (v := .int (nI n)) (C := RX7) (T := TX7) (N := 16) hx hb hts (by decide +kernel) hown hK hM 0 rfl rfl 2 (by decide) (hts (.fieldLink RX7 160 "ShiftIslesModel" "size" "I") (by decide +kernel)) (fun _ h9 => h9) rfl dX7_readShift_33 ?_
  refine lv_icmp_ge (tgt := 71) hx hb dX7_readShift_36 (by decide) (fun c_a => ?_) (fun c_a => ?_)
  · skip
    refine lv_iconst (v := 0) hx hb dX7_readShift_71 (by decide) ?_
    refine lv_istore (lv' := [(4, .int 0), (3, .int (nI l8)), (2, .int (nI k8)), (0, .ref q), (1, .ref r)]) hx hb dX7_readShift_72 hl (by decide) rfl (fun ls hl => ?_)
    refine lv_iload hx hb dX7_readShift_74 (lv_at hl 0 rfl) ?_
    refine lv_if_ne (tgt := 81) hx hb dX7_readShift_76 (by decide) (fun c_3 => absurd rfl c_3) (fun c_3 => ?_)
    refine lv_iconst (v := 0) hx hb dX7_readShift_79 (by decide) ?_
    exact z_zret hx hb hr hlocks dX7_readShift_80 hM (Nat.le_of_ble_eq_true rfl) (Nat.le_of_ble_eq_true rfl) (by first | exact Or.inl rfl | exact Or.inr rfl | exact zb_01 _) rfl
  · have hlt : i + 1 + 1 < n := Nat.not_le.mp (fun q => c_a (nI_le q (by omega)))
    refine lv_aload_n hx hb dX7_readShift_39 rfl (lv_at hl 2 rfl) ?_
    refine z_get (ci := 7) (v := .ref z) (C := RX7) (T := TX7) (N := 16) hx hb hts (by decide +kernel) hown hK hM 0 rfl rfl 1 (by decide) (hts (.fieldLink RX7 7 "ShiftIslesModel" "text" "[I") (by decide +kernel)) (fun _ h9 => h9) rfl dX7_readShift_40 ?_
    refine lv_aload_n hx hb dX7_readShift_43 rfl (lv_at hl 2 rfl) ?_
    refine z_get (ci := 7) (v := .int (nI ((i + 1) + 1))) (C := RX7) (T := TX7) (N := 16) hx hb hts (by decide +kernel) hown hK hM 0 rfl rfl 14 (by decide) (hts (.fieldLink RX7 167 "ShiftIslesModel" "spot" "I") (by decide +kernel)) (fun _ h9 => h9) rfl dX7_readShift_44 ?_
    refine z_iald hx hb hK hM 1 rfl (v := v ((i + 1) + 1)) (vp_in_nI (by omega) (by decide)) (by rw [nI_clamp (by omega)]) dX7_readShift_47 ?_
    refine lv_bipush (v := 43) hx hb dX7_readShift_48 (by decide) ?_
    refine lv_icmp_eq (tgt := 67) hx hb dX7_readShift_50 (by decide) (fun c_4 => absurd ⟨hlt, Or.inl c_4⟩ h3) (fun c_4 => ?_)
    refine lv_aload_n hx hb dX7_readShift_53 rfl (lv_at hl 2 rfl) ?_
    refine z_get (ci := 7) (v := .ref z) (C := RX7) (T := TX7) (N := 16) hx hb hts (by decide +kernel) hown hK hM 0 rfl rfl 1 (by decide) (hts (.fieldLink RX7 7 "ShiftIslesModel" "text" "[I") (by decide +kernel)) (fun _ h9 => h9) rfl dX7_readShift_54 ?_
    refine lv_aload_n hx hb dX7_readShift_57 rfl (lv_at hl 2 rfl) ?_
    refine z_get (ci := 7) (v := .int (nI ((i + 1) + 1))) (C := RX7) (T := TX7) (N := 16) hx hb hts (by decide +kernel) hown hK hM 0 rfl rfl 14 (by decide) (hts (.fieldLink RX7 167 "ShiftIslesModel" "spot" "I") (by decide +kernel)) (fun _ h9 => h9) rfl dX7_readShift_58 ?_
    refine z_iald hx hb hK hM 1 rfl (v := v ((i + 1) + 1)) (vp_in_nI (by omega) (by decide)) (by rw [nI_clamp (by omega)]) dX7_readShift_61 ?_
    refine lv_bipush (v := 45) hx hb dX7_readShift_62 (by decide) ?_
    refine lv_icmp_ne (tgt := 71) hx hb dX7_readShift_64 (by decide) (fun c_5 => ?_) (fun c_5 => absurd ⟨hlt, Or.inr c_5⟩ h3)
    refine lv_iconst (v := 0) hx hb dX7_readShift_71 (by decide) ?_
    refine lv_istore (lv' := [(4, .int 0), (3, .int (nI l8)), (2, .int (nI k8)), (0, .ref q), (1, .ref r)]) hx hb dX7_readShift_72 hl (by decide) rfl (fun ls hl => ?_)
    refine lv_iload hx hb dX7_readShift_74 (lv_at hl 0 rfl) ?_
    refine lv_if_ne (tgt := 81) hx hb dX7_readShift_76 (by decide) (fun c_6 => absurd rfl c_6) (fun c_6 => ?_)
    refine lv_iconst (v := 0) hx hb dX7_readShift_79 (by decide) ?_
    exact z_zret hx hb hr hlocks dX7_readShift_80 hM (Nat.le_of_ble_eq_true rfl) (Nat.le_of_ble_eq_true rfl) (by first | exact Or.inl rfl | exact Or.inr rfl | exact zb_01 _) rfl

set_option maxHeartbeats 4000000 in
set_option maxRecDepth 100000 in
theorem c_rs4 (l : Launch) (G : zC) (q : Nat) (v0 v3 v4 v5 v6 v7 v8 v9 v10 v11 v12 v13 : Value) (z n i o9 : Nat) (v : Nat → Int32) (r : Nat) (h : Nat → Int32) (b : Nat → Nat → Int32) (P t S e0 : Nat) (hG : zGs h b P t S e0) (hn : n ≤ 120) (hin9 : i ≤ 200) (k8 : Nat) (hk8 : k8 < 10) (e1 : zDg v n i = nI k8) (h1 : zI0 (zDg v n i).toInt64 (0 : Int32).toInt64 (3 : Int32).toInt64 = true) (l8 : Nat) (hl8 : l8 < 10) (e2 : zDg v n (i + 1) = nI l8) (h2 : zI0 (zDg v n (i + 1)).toInt64 (0 : Int32).toInt64 (5 : Int32).toInt64 = true) (hlt : i + 1 + 1 < n) (h3 : v (i + 1 + 1) = 43 ∨ v (i + 1 + 1) = 45) (hl6 : l8 < 6) (hc : zMs h b k8 (nI l8) (zSn v (i + 1 + 1)) = true) : zMet l G yX7_readShift wsX7_readShift rmX7_readShift [.ref q, .ref r] ([(q, .inr (7, [v0, .ref z, .int (nI n), v3, v4, v5, v6, v7, v8, v9, v10, v11, v12, v13, .int (nI i), .int (nI o9)])), (z, .inl (G.2 1, 120, .inl v)), (r, .inl (G.2 1, 121, .inl (flt h b)))]) (some (.int 1)) ([(q, .inr (7, [v0, .ref z, .int (nI n), v3, v4, v5, v6, v7, v8, v9, v10, v11, v12, v13, .int (nI (i + 1 + 1 + 1)), .int (nI o9)])), (z, .inl (G.2 1, 120, .inl v)), (r, .inl (G.2 1, 121, .inl (flt (zShH h) (va_up b k8 (zMv (b k8) l8 (zSn v (i + 1 + 1)))))))]) := by
  refine zMet_of (cc := cX7_readShift) (maxL := 6) (ret := (some .boolean)) (by decide) rfl (Nat.le_of_ble_eq_true rfl) ?_
  intro p e s m below meth c A ls hx hb hr hml hown hts hK hA hE hlocks hin hM hl
  have hown : s.vm.findClass RX7 = some m.cls := hown
  have hM : zM G A s s.heap [] ([(q, .inr (7, [v0, .ref z, .int (nI n), v3, v4, v5, v6, v7, v8, v9, v10, v11, v12, v13, .int (nI i), .int (nI o9)])), (z, .inl (G.2 1, 120, .inl v)), (r, .inl (G.2 1, 121, .inl (flt h b)))]) := hM
  have hl : lv_has ls 6 [(0, .ref q), (1, .ref r)] := hl
  have hP4 := hG.1.1.2.1
  have hd : zDi (zSn v (i + 1 + 1)) = true := zSn_di v (i + 1 + 1)
  have hd2 : (zSn v (i + 1 + 1)) = 0 ∨ (zSn v (i + 1 + 1)) = 1 := zSn_01 v (i + 1 + 1)
  have hkP : k8 < P := (zHp_lt hG.1.1.1 hP4 (by omega)).mp (zMs_r hc).2.2.1
  refine lv_aload_n hx hb dX7_readShift_0 rfl (lv_at hl 0 rfl) ?_
  refine lv_iconst (v := 0) hx hb dX7_readShift_1 (by decide) ?_
  refine lv_iconst (v := 3) hx hb dX7_readShift_2 (by decide) ?_
  refine z_callV (As := [.int 0, .int 3]) (rest := []) (wc := [(q, .inr (7, [v0, .ref z, .int (nI n), v3, v4, v5, v6, v7, v8, v9, v10, v11, v12, v13, .int (nI i), .int (nI o9)])), (z, .inl (G.2 1, 120, .inl v))]) (wr := [(r, .inl (G.2 1, 121, .inl (flt h b)))]) (w1 := [(q, .inr (7, [v0, .ref z, .int (nI n), v3, v4, v5, v6, v7, v8, v9, v10, v11, v12, v13, .int (nI (i + 1)), .int (nI o9)])), (z, .inl (G.2 1, 120, .inl v))]) (ws' := [(q, .inr (7, [v0, .ref z, .int (nI n), v3, v4, v5, v6, v7, v8, v9, v10, v11, v12, v13, .int (nI (i + 1)), .int (nI o9)])), (z, .inl (G.2 1, 120, .inl v)), (r, .inl (G.2 1, 121, .inl (flt h b)))]) ⟨hx, hb, hml, hown, hts⟩ (c_dig1 l G q v0 v3 v4 v5 v6 v7 v8 v9 v10 v11 v12 v13 (.int (nI o9)) z n i v 0 3 hn (by omega) h1) (cwV 2 hts gX7_readShift_X7_digit rfl rfl rfl (by decide +kernel) ⟨Nat.le_of_ble_eq_true rfl, Nat.le_of_ble_eq_true rfl⟩) 7 rfl rfl rfl rfl hl.1 rfl (Nat.le_of_ble_eq_true rfl) dX7_readShift_3 ⟨Nat.le_of_ble_eq_true rfl, Nat.le_of_ble_eq_true rfl⟩ hK hE hA hM (pm_at 3 [0, 1] [2] rfl rfl rfl (by decide)) ((pm_at 3 [0, 1] [2] rfl rfl rfl (by decide))).symm (fun H locs hM hz => ?_)
  refine z_topi (y := nI k8) e1 ?_
  refine lv_istore_n (lv' := [(2, .int (nI k8)), (0, .ref q), (1, .ref r)]) hx hb dX7_readShift_6 rfl hl (by decide) rfl (fun ls hl => ?_)
  refine lv_iload_n hx hb dX7_readShift_7 rfl (lv_at hl 0 rfl) ?_
  refine lv_iconst (v := (-1)) hx hb dX7_readShift_8 (by decide) ?_
  refine lv_icmp_ne (tgt := 16) hx hb dX7_readShift_9 (by decide) (fun c_1 => ?_) (fun c_1 => absurd c_1 (nI_m1 (by omega)))
  refine lv_aload_n hx hb dX7_readShift_16 rfl (lv_at hl 1 rfl) ?_
  refine lv_iconst (v := 0) hx hb dX7_readShift_17 (by decide) ?_
  refine lv_iconst (v := 5) hx hb dX7_readShift_18 (by decide) ?_
  refine z_callV (As := [.int 0, .int 5]) (rest := []) (wc := [(q, .inr (7, [v0, .ref z, .int (nI n), v3, v4, v5, v6, v7, v8, v9, v10, v11, v12, v13, .int (nI (i + 1)), .int (nI o9)])), (z, .inl (G.2 1, 120, .inl v))]) (wr := [(r, .inl (G.2 1, 121, .inl (flt h b)))]) (w1 := [(q, .inr (7, [v0, .ref z, .int (nI n), v3, v4, v5, v6, v7, v8, v9, v10, v11, v12, v13, .int (nI ((i + 1) + 1)), .int (nI o9)])), (z, .inl (G.2 1, 120, .inl v))]) (ws' := [(q, .inr (7, [v0, .ref z, .int (nI n), v3, v4, v5, v6, v7, v8, v9, v10, v11, v12, v13, .int (nI ((i + 1) + 1)), .int (nI o9)])), (z, .inl (G.2 1, 120, .inl v)), (r, .inl (G.2 1, 121, .inl (flt h b)))]) ⟨hx, hb, hml, hown, hts⟩ (c_dig1 l G q v0 v3 v4 v5 v6 v7 v8 v9 v10 v11 v12 v13 (.int (nI o9)) z n (i + 1) v 0 5 hn (by omega) h2) (cwV 2 hts gX7_readShift_X7_digit rfl rfl rfl (by decide +kernel) ⟨Nat.le_of_ble_eq_true rfl, Nat.le_of_ble_eq_true rfl⟩) 7 rfl rfl rfl rfl hl.1 rfl (Nat.le_of_ble_eq_true rfl) dX7_readShift_19 ⟨Nat.le_of_ble_eq_true rfl, Nat.le_of_ble_eq_true rfl⟩ hK hE hA hM (pm_at 3 [0, 1] [2] rfl rfl rfl (by decide)) ((pm_at 3 [0, 1] [2] rfl rfl rfl (by decide))).symm (fun H locs hM hz => ?_)
  refine z_topi (y := nI l8) e2 ?_
  refine lv_istore_n (lv' := [(3, .int (nI l8)), (2, .int (nI k8)), (0, .ref q), (1, .ref r)]) hx hb dX7_readShift_22 rfl hl (by decide) rfl (fun ls hl => ?_)
  refine lv_iload_n hx hb dX7_readShift_23 rfl (lv_at hl 0 rfl) ?_
  refine lv_iconst (v := (-1)) hx hb dX7_readShift_24 (by decide) ?_
  refine lv_icmp_eq (tgt := 71) hx hb dX7_readShift_25 (by decide) (fun c_2 => absurd c_2 (nI_m1 (by omega))) (fun c_2 => ?_)
  refine lv_aload_n hx hb dX7_readShift_28 rfl (lv_at hl 2 rfl) ?_
  refine z_get (ci := 7) (v := .int (nI ((i + 1) + 1))) (C := RX7) (T := TX7) (N := 16) hx hb hts (by decide +kernel) hown hK hM 0 rfl rfl 14 (by decide) (hts (.fieldLink RX7 167 "ShiftIslesModel" "spot" "I") (by decide +kernel)) (fun _ h9 => h9) rfl dX7_readShift_29 ?_
  refine lv_aload_n hx hb dX7_readShift_32 rfl (lv_at hl 2 rfl) ?_
  refine z_get (ci := 7) (v := .int (nI n)) (C := RX7) (T := TX7) (N := 16) hx hb hts (by decide +kernel) hown hK hM 0 rfl rfl 2 (by decide) (hts (.fieldLink RX7 160 "ShiftIslesModel" "size" "I") (by decide +kernel)) (fun _ h9 => h9) rfl dX7_readShift_33 ?_
  refine lv_icmp_ge (tgt := 71) hx hb dX7_readShift_36 (by decide) (fun c_3 => absurd c_3 (nI_ge hlt (by omega))) (fun c_3 => ?_)
  refine lv_aload_n hx hb dX7_readShift_39 rfl (lv_at hl 2 rfl) ?_
  refine z_get (ci := 7) (v := .ref z) (C := RX7) (T := TX7) (N := 16) hx hb hts (by decide +kernel) hown hK hM 0 rfl rfl 1 (by decide) (hts (.fieldLink RX7 7 "ShiftIslesModel" "text" "[I") (by decide +kernel)) (fun _ h9 => h9) rfl dX7_readShift_40 ?_
  refine lv_aload_n hx hb dX7_readShift_43 rfl (lv_at hl 2 rfl) ?_
  refine z_get (ci := 7) (v := .int (nI ((i + 1) + 1))) (C := RX7) (T := TX7) (N := 16) hx hb hts (by decide +kernel) hown hK hM 0 rfl rfl 14 (by decide) (hts (.fieldLink RX7 167 "ShiftIslesModel" "spot" "I") (by decide +kernel)) (fun _ h9 => h9) rfl dX7_readShift_44 ?_
  refine z_iald hx hb hK hM 1 rfl (v := v ((i + 1) + 1)) (vp_in_nI (by omega) (by decide)) (by rw [nI_clamp (by omega)]) dX7_readShift_47 ?_
  refine lv_bipush (v := 43) hx hb dX7_readShift_48 (by decide) ?_
  refine lv_icmp_eq (tgt := 67) hx hb dX7_readShift_50 (by decide) (fun c_s => ?_) (fun c_s => ?_)
  · skip
    refine lv_iconst (v := 1) hx hb dX7_readShift_67 (by decide) ?_
    refine lv_goto (tgt := 72) hx hb dX7_readShift_68 (by decide) ?_
    refine lv_istore (lv' := [(4, .int 1), (3, .int (nI l8)), (2, .int (nI k8)), (0, .ref q), (1, .ref r)]) hx hb dX7_readShift_72 hl (by decide) rfl (fun ls hl => ?_)
    refine lv_iload hx hb dX7_readShift_74 (lv_at hl 0 rfl) ?_
    refine lv_if_ne (tgt := 81) hx hb dX7_readShift_76 (by decide) (fun c_4 => ?_) (fun c_4 => absurd c_4 (by decide))
    refine lv_aload_n hx hb dX7_readShift_81 rfl (lv_at hl 3 rfl) ?_
    refine z_get (ci := 7) (v := .ref z) (C := RX7) (T := TX7) (N := 16) hx hb hts (by decide +kernel) hown hK hM 0 rfl rfl 1 (by decide) (hts (.fieldLink RX7 7 "ShiftIslesModel" "text" "[I") (by decide +kernel)) (fun _ h9 => h9) rfl dX7_readShift_82 ?_
    refine lv_aload_n hx hb dX7_readShift_85 rfl (lv_at hl 3 rfl) ?_
    refine z_get (ci := 7) (v := .int (nI ((i + 1) + 1))) (C := RX7) (T := TX7) (N := 16) hx hb hts (by decide +kernel) hown hK hM 0 rfl rfl 14 (by decide) (hts (.fieldLink RX7 167 "ShiftIslesModel" "spot" "I") (by decide +kernel)) (fun _ h9 => h9) rfl dX7_readShift_86 ?_
    refine z_iald hx hb hK hM 1 rfl (v := v ((i + 1) + 1)) (vp_in_nI (by omega) (by decide)) (by rw [nI_clamp (by omega)]) dX7_readShift_89 ?_
    refine lv_bipush (v := 43) hx hb dX7_readShift_90 (by decide) ?_
    refine lv_icmp_ne (tgt := 99) hx hb dX7_readShift_92 (by decide) (fun c_5 => absurd c_s c_5) (fun c_5 => ?_)
    refine lv_iconst (v := 1) hx hb dX7_readShift_95 (by decide) ?_
    refine lv_goto (tgt := 100) hx hb dX7_readShift_96 (by decide) ?_
    refine z_topi (y := (zSn v (i + 1 + 1))) (if_pos c_s).symm ?_
    refine lv_istore (lv' := [(5, .int (zSn v (i + 1 + 1))), (4, .int 1), (3, .int (nI l8)), (2, .int (nI k8)), (0, .ref q), (1, .ref r)]) hx hb dX7_readShift_100 hl (by decide) rfl (fun ls hl => ?_)
    refine lv_aload_n hx hb dX7_readShift_102 rfl (lv_at hl 4 rfl) ?_
    refine lv_dup hx hb dX7_readShift_103 rfl ?_
    refine z_get (ci := 7) (v := .int (nI ((i + 1) + 1))) (C := RX7) (T := TX7) (N := 16) hx hb hts (by decide +kernel) hown hK hM 0 rfl rfl 14 (by decide) (hts (.fieldLink RX7 167 "ShiftIslesModel" "spot" "I") (by decide +kernel)) (fun _ h9 => h9) rfl dX7_readShift_104 ?_
    refine lv_iconst (v := 1) hx hb dX7_readShift_107 (by decide) ?_
    refine lv_iadd hx hb dX7_readShift_108 ?_
    refine z_topi (y := nI (((i + 1) + 1) + 1)) (nI_add ((i + 1) + 1) 1) ?_
    refine z_put (ci := 7) (ty := .int) (v := .int (nI (((i + 1) + 1) + 1))) (C := RX7) (T := TX7) (N := 16) (ws' := [(q, .inr (7, [v0, .ref z, .int (nI n), v3, v4, v5, v6, v7, v8, v9, v10, v11, v12, v13, .int (nI (((i + 1) + 1) + 1)), .int (nI o9)])), (z, .inl (G.2 1, 120, .inl v)), (r, .inl (G.2 1, 121, .inl (flt h b)))]) hx hb hts (by decide +kernel) tyX7 tyX7_ok nmX7 hown hK hM 0 rfl rfl 14 (by decide) (hts (.fieldLink RX7 167 "ShiftIslesModel" "spot" "I") (by decide +kernel)) (fun _ h9 => h9) rfl (by decide +kernel) rfl rfl (Nat.le_of_ble_eq_true rfl) dX7_readShift_109 rfl (fun H locs hM => ?_)
    refine lv_aload_n hx hb dX7_readShift_112 rfl (lv_at hl 4 rfl) ?_
    refine lv_aload_n hx hb dX7_readShift_113 rfl (lv_at hl 5 rfl) ?_
    refine lv_iload_n hx hb dX7_readShift_114 rfl (lv_at hl 3 rfl) ?_
    refine lv_iload_n hx hb dX7_readShift_115 rfl (lv_at hl 2 rfl) ?_
    refine lv_iload hx hb dX7_readShift_116 (lv_at hl 0 rfl) ?_
    refine z_callS (As := [.ref r, .int (nI k8), .int (nI l8), .int (zSn v (i + 1 + 1))]) (rest := [.ref q]) (wc := rfW G r h b) (wr := [(q, .inr (7, [v0, .ref z, .int (nI n), v3, v4, v5, v6, v7, v8, v9, v10, v11, v12, v13, .int (nI (((i + 1) + 1) + 1)), .int (nI o9)])), (z, .inl (G.2 1, 120, .inl v))]) (w1 := rfW G r h b) (ws' := [(q, .inr (7, [v0, .ref z, .int (nI n), v3, v4, v5, v6, v7, v8, v9, v10, v11, v12, v13, .int (nI (((i + 1) + 1) + 1)), .int (nI o9)])), (z, .inl (G.2 1, 120, .inl v)), (r, .inl (G.2 1, 121, .inl (flt h b)))]) ⟨hx, hb, hml, hown, hts⟩ (c_csn l G r h b P t S hG.1 k8 (nI l8) (zSn v (i + 1 + 1)) (by omega) (zLi_nI hl6) hd ) (va_cwS 4 hts gX7_readShift_X7_canShiftNow rfl rfl rfl (by decide +kernel) ⟨Nat.le_of_ble_eq_true rfl, Nat.le_of_ble_eq_true rfl⟩) rfl hl.1 rfl (Nat.le_of_ble_eq_true rfl) dX7_readShift_118 ⟨Nat.le_of_ble_eq_true rfl, Nat.le_of_ble_eq_true rfl⟩ hK hE hA hM (pm_at 3 [2] [0, 1] rfl rfl rfl (by decide)) ((pm_at 3 [2] [0, 1] rfl rfl rfl (by decide))).symm (fun H locs hM hz => ?_)
    refine z_ifeq (tgt := 139) hx hb dX7_readShift_121 (by decide) (fun c_6 => Bool.noConfusion (hc.symm.trans c_6)) (fun c_6 => ?_)
    refine lv_aload_n hx hb dX7_readShift_124 rfl (lv_at hl 5 rfl) ?_
    refine lv_iload_n hx hb dX7_readShift_125 rfl (lv_at hl 3 rfl) ?_
    refine lv_iload_n hx hb dX7_readShift_126 rfl (lv_at hl 2 rfl) ?_
    refine lv_iload hx hb dX7_readShift_127 (lv_at hl 0 rfl) ?_
    refine z_callS (As := [.ref r, .int (nI k8), .int (nI l8), .int (zSn v (i + 1 + 1))]) (rest := [.ref q]) (wc := rfW G r h b) (wr := [(q, .inr (7, [v0, .ref z, .int (nI n), v3, v4, v5, v6, v7, v8, v9, v10, v11, v12, v13, .int (nI (((i + 1) + 1) + 1)), .int (nI o9)])), (z, .inl (G.2 1, 120, .inl v))]) (w1 := [(r, .inl (G.2 1, 121, .inl (flt (zShH h) (va_up b k8 (zMv (b k8) l8 (zSn v (i + 1 + 1)))))))]) (ws' := [(q, .inr (7, [v0, .ref z, .int (nI n), v3, v4, v5, v6, v7, v8, v9, v10, v11, v12, v13, .int (nI (((i + 1) + 1) + 1)), .int (nI o9)])), (z, .inl (G.2 1, 120, .inl v)), (r, .inl (G.2 1, 121, .inl (flt (zShH h) (va_up b k8 (zMv (b k8) l8 (zSn v (i + 1 + 1)))))))]) ⟨hx, hb, hml, hown, hts⟩ (c_shiftOn l G r h b P t S hG.1 k8 l8 (zSn v (i + 1 + 1)) hkP hl6 hd2) (va_cwS 4 hts gX7_readShift_X7_shiftOn rfl rfl rfl (by decide +kernel) ⟨Nat.le_of_ble_eq_true rfl, Nat.le_of_ble_eq_true rfl⟩) rfl hl.1 rfl (Nat.le_of_ble_eq_true rfl) dX7_readShift_129 ⟨Nat.le_of_ble_eq_true rfl, Nat.le_of_ble_eq_true rfl⟩ hK hE hA hM (pm_at 3 [2] [0, 1] rfl rfl rfl (by decide)) ((pm_at 3 [2] [0, 1] rfl rfl rfl (by decide))).symm (fun H locs hM hz => ?_)
    refine lv_if_le (tgt := 139) hx hb dX7_readShift_132 (by decide) (fun c_7 => absurd c_7 (zBc_pos (zBw_mv (hG.1.2.2 k8 hkP) hl6 (zSn v (i + 1 + 1))) S)) (fun c_7 => ?_)
    refine lv_iconst (v := 1) hx hb dX7_readShift_135 (by decide) ?_
    refine lv_goto (tgt := 140) hx hb dX7_readShift_136 (by decide) ?_
    refine z_callV (As := [.int 1]) (rest := []) (wc := [(q, .inr (7, [v0, .ref z, .int (nI n), v3, v4, v5, v6, v7, v8, v9, v10, v11, v12, v13, .int (nI (((i + 1) + 1) + 1)), .int (nI o9)]))]) (wr := [(z, .inl (G.2 1, 120, .inl v)), (r, .inl (G.2 1, 121, .inl (flt (zShH h) (va_up b k8 (zMv (b k8) l8 (zSn v (i + 1 + 1)))))))]) (w1 := [(q, .inr (7, [v0, .ref z, .int (nI n), v3, v4, v5, v6, v7, v8, v9, v10, v11, v12, v13, .int (nI (((i + 1) + 1) + 1)), .int (nI o9)]))]) (ws' := [(q, .inr (7, [v0, .ref z, .int (nI n), v3, v4, v5, v6, v7, v8, v9, v10, v11, v12, v13, .int (nI (((i + 1) + 1) + 1)), .int (nI o9)])), (z, .inl (G.2 1, 120, .inl v)), (r, .inl (G.2 1, 121, .inl (flt (zShH h) (va_up b k8 (zMv (b k8) l8 (zSn v (i + 1 + 1)))))))]) ⟨hx, hb, hml, hown, hts⟩ (c_done1 l G q v0 (.ref z) (.int (nI n)) v3 v4 v5 v6 v7 v8 v9 v10 v11 v12 v13 (.int (nI (((i + 1) + 1) + 1))) o9) (cwV 1 hts gX7_readShift_X7_done rfl rfl rfl (by decide +kernel) ⟨Nat.le_of_ble_eq_true rfl, Nat.le_of_ble_eq_true rfl⟩) 7 rfl rfl rfl rfl hl.1 rfl (Nat.le_of_ble_eq_true rfl) dX7_readShift_140 ⟨Nat.le_of_ble_eq_true rfl, Nat.le_of_ble_eq_true rfl⟩ hK hE hA hM (pm_at 3 [0] [1, 2] rfl rfl rfl (by decide)) ((pm_at 3 [0] [1, 2] rfl rfl rfl (by decide))).symm (fun H locs hM hz => ?_)
    exact z_zret hx hb hr hlocks dX7_readShift_143 hM (Nat.le_of_ble_eq_true rfl) (Nat.le_of_ble_eq_true rfl) (by first | exact Or.inl rfl | exact Or.inr rfl | exact zb_01 _) rfl
  · skip
    refine lv_aload_n hx hb dX7_readShift_53 rfl (lv_at hl 2 rfl) ?_
    refine z_get (ci := 7) (v := .ref z) (C := RX7) (T := TX7) (N := 16) hx hb hts (by decide +kernel) hown hK hM 0 rfl rfl 1 (by decide) (hts (.fieldLink RX7 7 "ShiftIslesModel" "text" "[I") (by decide +kernel)) (fun _ h9 => h9) rfl dX7_readShift_54 ?_
    refine lv_aload_n hx hb dX7_readShift_57 rfl (lv_at hl 2 rfl) ?_
    refine z_get (ci := 7) (v := .int (nI ((i + 1) + 1))) (C := RX7) (T := TX7) (N := 16) hx hb hts (by decide +kernel) hown hK hM 0 rfl rfl 14 (by decide) (hts (.fieldLink RX7 167 "ShiftIslesModel" "spot" "I") (by decide +kernel)) (fun _ h9 => h9) rfl dX7_readShift_58 ?_
    refine z_iald hx hb hK hM 1 rfl (v := v ((i + 1) + 1)) (vp_in_nI (by omega) (by decide)) (by rw [nI_clamp (by omega)]) dX7_readShift_61 ?_
    refine lv_bipush (v := 45) hx hb dX7_readShift_62 (by decide) ?_
    refine lv_icmp_ne (tgt := 71) hx hb dX7_readShift_64 (by decide) (fun c_8 => absurd (h3.resolve_left c_s) c_8) (fun c_8 => ?_)
    refine lv_iconst (v := 1) hx hb dX7_readShift_67 (by decide) ?_
    refine lv_goto (tgt := 72) hx hb dX7_readShift_68 (by decide) ?_
    refine lv_istore (lv' := [(4, .int 1), (3, .int (nI l8)), (2, .int (nI k8)), (0, .ref q), (1, .ref r)]) hx hb dX7_readShift_72 hl (by decide) rfl (fun ls hl => ?_)
    refine lv_iload hx hb dX7_readShift_74 (lv_at hl 0 rfl) ?_
    refine lv_if_ne (tgt := 81) hx hb dX7_readShift_76 (by decide) (fun c_9 => ?_) (fun c_9 => absurd c_9 (by decide))
    refine lv_aload_n hx hb dX7_readShift_81 rfl (lv_at hl 3 rfl) ?_
    refine z_get (ci := 7) (v := .ref z) (C := RX7) (T := TX7) (N := 16) hx hb hts (by decide +kernel) hown hK hM 0 rfl rfl 1 (by decide) (hts (.fieldLink RX7 7 "ShiftIslesModel" "text" "[I") (by decide +kernel)) (fun _ h9 => h9) rfl dX7_readShift_82 ?_
    refine lv_aload_n hx hb dX7_readShift_85 rfl (lv_at hl 3 rfl) ?_
    refine z_get (ci := 7) (v := .int (nI ((i + 1) + 1))) (C := RX7) (T := TX7) (N := 16) hx hb hts (by decide +kernel) hown hK hM 0 rfl rfl 14 (by decide) (hts (.fieldLink RX7 167 "ShiftIslesModel" "spot" "I") (by decide +kernel)) (fun _ h9 => h9) rfl dX7_readShift_86 ?_
    refine z_iald hx hb hK hM 1 rfl (v := v ((i + 1) + 1)) (vp_in_nI (by omega) (by decide)) (by rw [nI_clamp (by omega)]) dX7_readShift_89 ?_
    refine lv_bipush (v := 43) hx hb dX7_readShift_90 (by decide) ?_
    refine lv_icmp_ne (tgt := 99) hx hb dX7_readShift_92 (by decide) (fun c_10 => ?_) (fun c_10 => absurd c_10 c_s)
    refine lv_iconst (v := 0) hx hb dX7_readShift_99 (by decide) ?_
    refine z_topi (y := (zSn v (i + 1 + 1))) (if_neg c_s).symm ?_
    refine lv_istore (lv' := [(5, .int (zSn v (i + 1 + 1))), (4, .int 1), (3, .int (nI l8)), (2, .int (nI k8)), (0, .ref q), (1, .ref r)]) hx hb dX7_readShift_100 hl (by decide) rfl (fun ls hl => ?_)
    refine lv_aload_n hx hb dX7_readShift_102 rfl (lv_at hl 4 rfl) ?_
    refine lv_dup hx hb dX7_readShift_103 rfl ?_
    refine z_get (ci := 7) (v := .int (nI ((i + 1) + 1))) (C := RX7) (T := TX7) (N := 16) hx hb hts (by decide +kernel) hown hK hM 0 rfl rfl 14 (by decide) (hts (.fieldLink RX7 167 "ShiftIslesModel" "spot" "I") (by decide +kernel)) (fun _ h9 => h9) rfl dX7_readShift_104 ?_
    refine lv_iconst (v := 1) hx hb dX7_readShift_107 (by decide) ?_
    refine lv_iadd hx hb dX7_readShift_108 ?_
    refine z_topi (y := nI (((i + 1) + 1) + 1)) (nI_add ((i + 1) + 1) 1) ?_
    refine z_put (ci := 7) (ty := .int) (v := .int (nI (((i + 1) + 1) + 1))) (C := RX7) (T := TX7) (N := 16) (ws' := [(q, .inr (7, [v0, .ref z, .int (nI n), v3, v4, v5, v6, v7, v8, v9, v10, v11, v12, v13, .int (nI (((i + 1) + 1) + 1)), .int (nI o9)])), (z, .inl (G.2 1, 120, .inl v)), (r, .inl (G.2 1, 121, .inl (flt h b)))]) hx hb hts (by decide +kernel) tyX7 tyX7_ok nmX7 hown hK hM 0 rfl rfl 14 (by decide) (hts (.fieldLink RX7 167 "ShiftIslesModel" "spot" "I") (by decide +kernel)) (fun _ h9 => h9) rfl (by decide +kernel) rfl rfl (Nat.le_of_ble_eq_true rfl) dX7_readShift_109 rfl (fun H locs hM => ?_)
    refine lv_aload_n hx hb dX7_readShift_112 rfl (lv_at hl 4 rfl) ?_
    refine lv_aload_n hx hb dX7_readShift_113 rfl (lv_at hl 5 rfl) ?_
    refine lv_iload_n hx hb dX7_readShift_114 rfl (lv_at hl 3 rfl) ?_
    refine lv_iload_n hx hb dX7_readShift_115 rfl (lv_at hl 2 rfl) ?_
    refine lv_iload hx hb dX7_readShift_116 (lv_at hl 0 rfl) ?_
    refine z_callS (As := [.ref r, .int (nI k8), .int (nI l8), .int (zSn v (i + 1 + 1))]) (rest := [.ref q]) (wc := rfW G r h b) (wr := [(q, .inr (7, [v0, .ref z, .int (nI n), v3, v4, v5, v6, v7, v8, v9, v10, v11, v12, v13, .int (nI (((i + 1) + 1) + 1)), .int (nI o9)])), (z, .inl (G.2 1, 120, .inl v))]) (w1 := rfW G r h b) (ws' := [(q, .inr (7, [v0, .ref z, .int (nI n), v3, v4, v5, v6, v7, v8, v9, v10, v11, v12, v13, .int (nI (((i + 1) + 1) + 1)), .int (nI o9)])), (z, .inl (G.2 1, 120, .inl v)), (r, .inl (G.2 1, 121, .inl (flt h b)))]) ⟨hx, hb, hml, hown, hts⟩ (c_csn l G r h b P t S hG.1 k8 (nI l8) (zSn v (i + 1 + 1)) (by omega) (zLi_nI hl6) hd ) (va_cwS 4 hts gX7_readShift_X7_canShiftNow rfl rfl rfl (by decide +kernel) ⟨Nat.le_of_ble_eq_true rfl, Nat.le_of_ble_eq_true rfl⟩) rfl hl.1 rfl (Nat.le_of_ble_eq_true rfl) dX7_readShift_118 ⟨Nat.le_of_ble_eq_true rfl, Nat.le_of_ble_eq_true rfl⟩ hK hE hA hM (pm_at 3 [2] [0, 1] rfl rfl rfl (by decide)) ((pm_at 3 [2] [0, 1] rfl rfl rfl (by decide))).symm (fun H locs hM hz => ?_)
    refine z_ifeq (tgt := 139) hx hb dX7_readShift_121 (by decide) (fun c_11 => Bool.noConfusion (hc.symm.trans c_11)) (fun c_11 => ?_)
    refine lv_aload_n hx hb dX7_readShift_124 rfl (lv_at hl 5 rfl) ?_
    refine lv_iload_n hx hb dX7_readShift_125 rfl (lv_at hl 3 rfl) ?_
    refine lv_iload_n hx hb dX7_readShift_126 rfl (lv_at hl 2 rfl) ?_
    refine lv_iload hx hb dX7_readShift_127 (lv_at hl 0 rfl) ?_
    refine z_callS (As := [.ref r, .int (nI k8), .int (nI l8), .int (zSn v (i + 1 + 1))]) (rest := [.ref q]) (wc := rfW G r h b) (wr := [(q, .inr (7, [v0, .ref z, .int (nI n), v3, v4, v5, v6, v7, v8, v9, v10, v11, v12, v13, .int (nI (((i + 1) + 1) + 1)), .int (nI o9)])), (z, .inl (G.2 1, 120, .inl v))]) (w1 := [(r, .inl (G.2 1, 121, .inl (flt (zShH h) (va_up b k8 (zMv (b k8) l8 (zSn v (i + 1 + 1)))))))]) (ws' := [(q, .inr (7, [v0, .ref z, .int (nI n), v3, v4, v5, v6, v7, v8, v9, v10, v11, v12, v13, .int (nI (((i + 1) + 1) + 1)), .int (nI o9)])), (z, .inl (G.2 1, 120, .inl v)), (r, .inl (G.2 1, 121, .inl (flt (zShH h) (va_up b k8 (zMv (b k8) l8 (zSn v (i + 1 + 1)))))))]) ⟨hx, hb, hml, hown, hts⟩ (c_shiftOn l G r h b P t S hG.1 k8 l8 (zSn v (i + 1 + 1)) hkP hl6 hd2) (va_cwS 4 hts gX7_readShift_X7_shiftOn rfl rfl rfl (by decide +kernel) ⟨Nat.le_of_ble_eq_true rfl, Nat.le_of_ble_eq_true rfl⟩) rfl hl.1 rfl (Nat.le_of_ble_eq_true rfl) dX7_readShift_129 ⟨Nat.le_of_ble_eq_true rfl, Nat.le_of_ble_eq_true rfl⟩ hK hE hA hM (pm_at 3 [2] [0, 1] rfl rfl rfl (by decide)) ((pm_at 3 [2] [0, 1] rfl rfl rfl (by decide))).symm (fun H locs hM hz => ?_)
    refine lv_if_le (tgt := 139) hx hb dX7_readShift_132 (by decide) (fun c_12 => absurd c_12 (zBc_pos (zBw_mv (hG.1.2.2 k8 hkP) hl6 (zSn v (i + 1 + 1))) S)) (fun c_12 => ?_)
    refine lv_iconst (v := 1) hx hb dX7_readShift_135 (by decide) ?_
    refine lv_goto (tgt := 140) hx hb dX7_readShift_136 (by decide) ?_
    refine z_callV (As := [.int 1]) (rest := []) (wc := [(q, .inr (7, [v0, .ref z, .int (nI n), v3, v4, v5, v6, v7, v8, v9, v10, v11, v12, v13, .int (nI (((i + 1) + 1) + 1)), .int (nI o9)]))]) (wr := [(z, .inl (G.2 1, 120, .inl v)), (r, .inl (G.2 1, 121, .inl (flt (zShH h) (va_up b k8 (zMv (b k8) l8 (zSn v (i + 1 + 1)))))))]) (w1 := [(q, .inr (7, [v0, .ref z, .int (nI n), v3, v4, v5, v6, v7, v8, v9, v10, v11, v12, v13, .int (nI (((i + 1) + 1) + 1)), .int (nI o9)]))]) (ws' := [(q, .inr (7, [v0, .ref z, .int (nI n), v3, v4, v5, v6, v7, v8, v9, v10, v11, v12, v13, .int (nI (((i + 1) + 1) + 1)), .int (nI o9)])), (z, .inl (G.2 1, 120, .inl v)), (r, .inl (G.2 1, 121, .inl (flt (zShH h) (va_up b k8 (zMv (b k8) l8 (zSn v (i + 1 + 1)))))))]) ⟨hx, hb, hml, hown, hts⟩ (c_done1 l G q v0 (.ref z) (.int (nI n)) v3 v4 v5 v6 v7 v8 v9 v10 v11 v12 v13 (.int (nI (((i + 1) + 1) + 1))) o9) (cwV 1 hts gX7_readShift_X7_done rfl rfl rfl (by decide +kernel) ⟨Nat.le_of_ble_eq_true rfl, Nat.le_of_ble_eq_true rfl⟩) 7 rfl rfl rfl rfl hl.1 rfl (Nat.le_of_ble_eq_true rfl) dX7_readShift_140 ⟨Nat.le_of_ble_eq_true rfl, Nat.le_of_ble_eq_true rfl⟩ hK hE hA hM (pm_at 3 [0] [1, 2] rfl rfl rfl (by decide)) ((pm_at 3 [0] [1, 2] rfl rfl rfl (by decide))).symm (fun H locs hM hz => ?_)
    exact z_zret hx hb hr hlocks dX7_readShift_143 hM (Nat.le_of_ble_eq_true rfl) (Nat.le_of_ble_eq_true rfl) (by first | exact Or.inl rfl | exact Or.inr rfl | exact zb_01 _) rfl

set_option maxHeartbeats 4000000 in
set_option maxRecDepth 100000 in
theorem c_rs5 (l : Launch) (G : zC) (q : Nat) (v0 v3 v4 v5 v6 v7 v8 v9 v10 v11 v12 v13 : Value) (z n i o9 : Nat) (v : Nat → Int32) (r : Nat) (h : Nat → Int32) (b : Nat → Nat → Int32) (P t S e0 : Nat) (hG : zGs h b P t S e0) (hn : n ≤ 120) (hin9 : i ≤ 200) (k8 : Nat) (hk8 : k8 < 10) (e1 : zDg v n i = nI k8) (h1 : zI0 (zDg v n i).toInt64 (0 : Int32).toInt64 (3 : Int32).toInt64 = true) (l8 : Nat) (hl8 : l8 < 10) (e2 : zDg v n (i + 1) = nI l8) (h2 : zI0 (zDg v n (i + 1)).toInt64 (0 : Int32).toInt64 (5 : Int32).toInt64 = true) (hlt : i + 1 + 1 < n) (h3 : v (i + 1 + 1) = 43 ∨ v (i + 1 + 1) = 45) (hl6 : l8 < 6) (hc : zMs h b k8 (nI l8) (zSn v (i + 1 + 1)) = false) : zMet l G yX7_readShift wsX7_readShift rmX7_readShift [.ref q, .ref r] ([(q, .inr (7, [v0, .ref z, .int (nI n), v3, v4, v5, v6, v7, v8, v9, v10, v11, v12, v13, .int (nI i), .int (nI o9)])), (z, .inl (G.2 1, 120, .inl v)), (r, .inl (G.2 1, 121, .inl (flt h b)))]) (some (.int 1)) ([(q, .inr (7, [v0, .ref z, .int (nI n), v3, v4, v5, v6, v7, v8, v9, v10, v11, v12, v13, .int (nI (i + 1 + 1 + 1)), .int (nI (o9 + 1))])), (z, .inl (G.2 1, 120, .inl v)), (r, .inl (G.2 1, 121, .inl (flt h b)))]) := by
  refine zMet_of (cc := cX7_readShift) (maxL := 6) (ret := (some .boolean)) (by decide) rfl (Nat.le_of_ble_eq_true rfl) ?_
  intro p e s m below meth c A ls hx hb hr hml hown hts hK hA hE hlocks hin hM hl
  have hown : s.vm.findClass RX7 = some m.cls := hown
  have hM : zM G A s s.heap [] ([(q, .inr (7, [v0, .ref z, .int (nI n), v3, v4, v5, v6, v7, v8, v9, v10, v11, v12, v13, .int (nI i), .int (nI o9)])), (z, .inl (G.2 1, 120, .inl v)), (r, .inl (G.2 1, 121, .inl (flt h b)))]) := hM
  have hl : lv_has ls 6 [(0, .ref q), (1, .ref r)] := hl
  have hP4 := hG.1.1.2.1
  have hd : zDi (zSn v (i + 1 + 1)) = true := zSn_di v (i + 1 + 1)
  have hd2 : (zSn v (i + 1 + 1)) = 0 ∨ (zSn v (i + 1 + 1)) = 1 := zSn_01 v (i + 1 + 1)
  refine lv_aload_n hx hb dX7_readShift_0 rfl (lv_at hl 0 rfl) ?_
  refine lv_iconst (v := 0) hx hb dX7_readShift_1 (by decide) ?_
  refine lv_iconst (v := 3) hx hb dX7_readShift_2 (by decide) ?_
  refine z_callV (As := [.int 0, .int 3]) (rest := []) (wc := [(q, .inr (7, [v0, .ref z, .int (nI n), v3, v4, v5, v6, v7, v8, v9, v10, v11, v12, v13, .int (nI i), .int (nI o9)])), (z, .inl (G.2 1, 120, .inl v))]) (wr := [(r, .inl (G.2 1, 121, .inl (flt h b)))]) (w1 := [(q, .inr (7, [v0, .ref z, .int (nI n), v3, v4, v5, v6, v7, v8, v9, v10, v11, v12, v13, .int (nI (i + 1)), .int (nI o9)])), (z, .inl (G.2 1, 120, .inl v))]) (ws' := [(q, .inr (7, [v0, .ref z, .int (nI n), v3, v4, v5, v6, v7, v8, v9, v10, v11, v12, v13, .int (nI (i + 1)), .int (nI o9)])), (z, .inl (G.2 1, 120, .inl v)), (r, .inl (G.2 1, 121, .inl (flt h b)))]) ⟨hx, hb, hml, hown, hts⟩ (c_dig1 l G q v0 v3 v4 v5 v6 v7 v8 v9 v10 v11 v12 v13 (.int (nI o9)) z n i v 0 3 hn (by omega) h1) (cwV 2 hts gX7_readShift_X7_digit rfl rfl rfl (by decide +kernel) ⟨Nat.le_of_ble_eq_true rfl, Nat.le_of_ble_eq_true rfl⟩) 7 rfl rfl rfl rfl hl.1 rfl (Nat.le_of_ble_eq_true rfl) dX7_readShift_3 ⟨Nat.le_of_ble_eq_true rfl, Nat.le_of_ble_eq_true rfl⟩ hK hE hA hM (pm_at 3 [0, 1] [2] rfl rfl rfl (by decide)) ((pm_at 3 [0, 1] [2] rfl rfl rfl (by decide))).symm (fun H locs hM hz => ?_)
  refine z_topi (y := nI k8) e1 ?_
  refine lv_istore_n (lv' := [(2, .int (nI k8)), (0, .ref q), (1, .ref r)]) hx hb dX7_readShift_6 rfl hl (by decide) rfl (fun ls hl => ?_)
  refine lv_iload_n hx hb dX7_readShift_7 rfl (lv_at hl 0 rfl) ?_
  refine lv_iconst (v := (-1)) hx hb dX7_readShift_8 (by decide) ?_
  refine lv_icmp_ne (tgt := 16) hx hb dX7_readShift_9 (by decide) (fun c_1 => ?_) (fun c_1 => absurd c_1 (nI_m1 (by omega)))
  refine lv_aload_n hx hb dX7_readShift_16 rfl (lv_at hl 1 rfl) ?_
  refine lv_iconst (v := 0) hx hb dX7_readShift_17 (by decide) ?_
  refine lv_iconst (v := 5) hx hb dX7_readShift_18 (by decide) ?_
  refine z_callV (As := [.int 0, .int 5]) (rest := []) (wc := [(q, .inr (7, [v0, .ref z, .int (nI n), v3, v4, v5, v6, v7, v8, v9, v10, v11, v12, v13, .int (nI (i + 1)), .int (nI o9)])), (z, .inl (G.2 1, 120, .inl v))]) (wr := [(r, .inl (G.2 1, 121, .inl (flt h b)))]) (w1 := [(q, .inr (7, [v0, .ref z, .int (nI n), v3, v4, v5, v6, v7, v8, v9, v10, v11, v12, v13, .int (nI ((i + 1) + 1)), .int (nI o9)])), (z, .inl (G.2 1, 120, .inl v))]) (ws' := [(q, .inr (7, [v0, .ref z, .int (nI n), v3, v4, v5, v6, v7, v8, v9, v10, v11, v12, v13, .int (nI ((i + 1) + 1)), .int (nI o9)])), (z, .inl (G.2 1, 120, .inl v)), (r, .inl (G.2 1, 121, .inl (flt h b)))]) ⟨hx, hb, hml, hown, hts⟩ (c_dig1 l G q v0 v3 v4 v5 v6 v7 v8 v9 v10 v11 v12 v13 (.int (nI o9)) z n (i + 1) v 0 5 hn (by omega) h2) (cwV 2 hts gX7_readShift_X7_digit rfl rfl rfl (by decide +kernel) ⟨Nat.le_of_ble_eq_true rfl, Nat.le_of_ble_eq_true rfl⟩) 7 rfl rfl rfl rfl hl.1 rfl (Nat.le_of_ble_eq_true rfl) dX7_readShift_19 ⟨Nat.le_of_ble_eq_true rfl, Nat.le_of_ble_eq_true rfl⟩ hK hE hA hM (pm_at 3 [0, 1] [2] rfl rfl rfl (by decide)) ((pm_at 3 [0, 1] [2] rfl rfl rfl (by decide))).symm (fun H locs hM hz => ?_)
  refine z_topi (y := nI l8) e2 ?_
  refine lv_istore_n (lv' := [(3, .int (nI l8)), (2, .int (nI k8)), (0, .ref q), (1, .ref r)]) hx hb dX7_readShift_22 rfl hl (by decide) rfl (fun ls hl => ?_)
  refine lv_iload_n hx hb dX7_readShift_23 rfl (lv_at hl 0 rfl) ?_
  refine lv_iconst (v := (-1)) hx hb dX7_readShift_24 (by decide) ?_
  refine lv_icmp_eq (tgt := 71) hx hb dX7_readShift_25 (by decide) (fun c_2 => absurd c_2 (nI_m1 (by omega))) (fun c_2 => ?_)
  refine lv_aload_n hx hb dX7_readShift_28 rfl (lv_at hl 2 rfl) ?_
  refine z_get (ci := 7) (v := .int (nI ((i + 1) + 1))) (C := RX7) (T := TX7) (N := 16) hx hb hts (by decide +kernel) hown hK hM 0 rfl rfl 14 (by decide) (hts (.fieldLink RX7 167 "ShiftIslesModel" "spot" "I") (by decide +kernel)) (fun _ h9 => h9) rfl dX7_readShift_29 ?_
  refine lv_aload_n hx hb dX7_readShift_32 rfl (lv_at hl 2 rfl) ?_
  refine z_get (ci := 7) (v := .int (nI n)) (C := RX7) (T := TX7) (N := 16) hx hb hts (by decide +kernel) hown hK hM 0 rfl rfl 2 (by decide) (hts (.fieldLink RX7 160 "ShiftIslesModel" "size" "I") (by decide +kernel)) (fun _ h9 => h9) rfl dX7_readShift_33 ?_
  refine lv_icmp_ge (tgt := 71) hx hb dX7_readShift_36 (by decide) (fun c_3 => absurd c_3 (nI_ge hlt (by omega))) (fun c_3 => ?_)
  refine lv_aload_n hx hb dX7_readShift_39 rfl (lv_at hl 2 rfl) ?_
  refine z_get (ci := 7) (v := .ref z) (C := RX7) (T := TX7) (N := 16) hx hb hts (by decide +kernel) hown hK hM 0 rfl rfl 1 (by decide) (hts (.fieldLink RX7 7 "ShiftIslesModel" "text" "[I") (by decide +kernel)) (fun _ h9 => h9) rfl dX7_readShift_40 ?_
  refine lv_aload_n hx hb dX7_readShift_43 rfl (lv_at hl 2 rfl) ?_
  refine z_get (ci := 7) (v := .int (nI ((i + 1) + 1))) (C := RX7) (T := TX7) (N := 16) hx hb hts (by decide +kernel) hown hK hM 0 rfl rfl 14 (by decide) (hts (.fieldLink RX7 167 "ShiftIslesModel" "spot" "I") (by decide +kernel)) (fun _ h9 => h9) rfl dX7_readShift_44 ?_
  refine z_iald hx hb hK hM 1 rfl (v := v ((i + 1) + 1)) (vp_in_nI (by omega) (by decide)) (by rw [nI_clamp (by omega)]) dX7_readShift_47 ?_
  refine lv_bipush (v := 43) hx hb dX7_readShift_48 (by decide) ?_
  refine lv_icmp_eq (tgt := 67) hx hb dX7_readShift_50 (by decide) (fun c_s => ?_) (fun c_s => ?_)
  · skip
    refine lv_iconst (v := 1) hx hb dX7_readShift_67 (by decide) ?_
    refine lv_goto (tgt := 72) hx hb dX7_readShift_68 (by decide) ?_
    refine lv_istore (lv' := [(4, .int 1), (3, .int (nI l8)), (2, .int (nI k8)), (0, .ref q), (1, .ref r)]) hx hb dX7_readShift_72 hl (by decide) rfl (fun ls hl => ?_)
    refine lv_iload hx hb dX7_readShift_74 (lv_at hl 0 rfl) ?_
    refine lv_if_ne (tgt := 81) hx hb dX7_readShift_76 (by decide) (fun c_4 => ?_) (fun c_4 => absurd c_4 (by decide))
    refine lv_aload_n hx hb dX7_readShift_81 rfl (lv_at hl 3 rfl) ?_
    refine z_get (ci := 7) (v := .ref z) (C := RX7) (T := TX7) (N := 16) hx hb hts (by decide +kernel) hown hK hM 0 rfl rfl 1 (by decide) (hts (.fieldLink RX7 7 "ShiftIslesModel" "text" "[I") (by decide +kernel)) (fun _ h9 => h9) rfl dX7_readShift_82 ?_
    refine lv_aload_n hx hb dX7_readShift_85 rfl (lv_at hl 3 rfl) ?_
    refine z_get (ci := 7) (v := .int (nI ((i + 1) + 1))) (C := RX7) (T := TX7) (N := 16) hx hb hts (by decide +kernel) hown hK hM 0 rfl rfl 14 (by decide) (hts (.fieldLink RX7 167 "ShiftIslesModel" "spot" "I") (by decide +kernel)) (fun _ h9 => h9) rfl dX7_readShift_86 ?_
    refine z_iald hx hb hK hM 1 rfl (v := v ((i + 1) + 1)) (vp_in_nI (by omega) (by decide)) (by rw [nI_clamp (by omega)]) dX7_readShift_89 ?_
    refine lv_bipush (v := 43) hx hb dX7_readShift_90 (by decide) ?_
    refine lv_icmp_ne (tgt := 99) hx hb dX7_readShift_92 (by decide) (fun c_5 => absurd c_s c_5) (fun c_5 => ?_)
    refine lv_iconst (v := 1) hx hb dX7_readShift_95 (by decide) ?_
    refine lv_goto (tgt := 100) hx hb dX7_readShift_96 (by decide) ?_
    refine z_topi (y := (zSn v (i + 1 + 1))) (if_pos c_s).symm ?_
    refine lv_istore (lv' := [(5, .int (zSn v (i + 1 + 1))), (4, .int 1), (3, .int (nI l8)), (2, .int (nI k8)), (0, .ref q), (1, .ref r)]) hx hb dX7_readShift_100 hl (by decide) rfl (fun ls hl => ?_)
    refine lv_aload_n hx hb dX7_readShift_102 rfl (lv_at hl 4 rfl) ?_
    refine lv_dup hx hb dX7_readShift_103 rfl ?_
    refine z_get (ci := 7) (v := .int (nI ((i + 1) + 1))) (C := RX7) (T := TX7) (N := 16) hx hb hts (by decide +kernel) hown hK hM 0 rfl rfl 14 (by decide) (hts (.fieldLink RX7 167 "ShiftIslesModel" "spot" "I") (by decide +kernel)) (fun _ h9 => h9) rfl dX7_readShift_104 ?_
    refine lv_iconst (v := 1) hx hb dX7_readShift_107 (by decide) ?_
    refine lv_iadd hx hb dX7_readShift_108 ?_
    refine z_topi (y := nI (((i + 1) + 1) + 1)) (nI_add ((i + 1) + 1) 1) ?_
    refine z_put (ci := 7) (ty := .int) (v := .int (nI (((i + 1) + 1) + 1))) (C := RX7) (T := TX7) (N := 16) (ws' := [(q, .inr (7, [v0, .ref z, .int (nI n), v3, v4, v5, v6, v7, v8, v9, v10, v11, v12, v13, .int (nI (((i + 1) + 1) + 1)), .int (nI o9)])), (z, .inl (G.2 1, 120, .inl v)), (r, .inl (G.2 1, 121, .inl (flt h b)))]) hx hb hts (by decide +kernel) tyX7 tyX7_ok nmX7 hown hK hM 0 rfl rfl 14 (by decide) (hts (.fieldLink RX7 167 "ShiftIslesModel" "spot" "I") (by decide +kernel)) (fun _ h9 => h9) rfl (by decide +kernel) rfl rfl (Nat.le_of_ble_eq_true rfl) dX7_readShift_109 rfl (fun H locs hM => ?_)
    refine lv_aload_n hx hb dX7_readShift_112 rfl (lv_at hl 4 rfl) ?_
    refine lv_aload_n hx hb dX7_readShift_113 rfl (lv_at hl 5 rfl) ?_
    refine lv_iload_n hx hb dX7_readShift_114 rfl (lv_at hl 3 rfl) ?_
    refine lv_iload_n hx hb dX7_readShift_115 rfl (lv_at hl 2 rfl) ?_
    refine lv_iload hx hb dX7_readShift_116 (lv_at hl 0 rfl) ?_
    refine z_callS (As := [.ref r, .int (nI k8), .int (nI l8), .int (zSn v (i + 1 + 1))]) (rest := [.ref q]) (wc := rfW G r h b) (wr := [(q, .inr (7, [v0, .ref z, .int (nI n), v3, v4, v5, v6, v7, v8, v9, v10, v11, v12, v13, .int (nI (((i + 1) + 1) + 1)), .int (nI o9)])), (z, .inl (G.2 1, 120, .inl v))]) (w1 := rfW G r h b) (ws' := [(q, .inr (7, [v0, .ref z, .int (nI n), v3, v4, v5, v6, v7, v8, v9, v10, v11, v12, v13, .int (nI (((i + 1) + 1) + 1)), .int (nI o9)])), (z, .inl (G.2 1, 120, .inl v)), (r, .inl (G.2 1, 121, .inl (flt h b)))]) ⟨hx, hb, hml, hown, hts⟩ (c_csn l G r h b P t S hG.1 k8 (nI l8) (zSn v (i + 1 + 1)) (by omega) (zLi_nI hl6) hd ) (va_cwS 4 hts gX7_readShift_X7_canShiftNow rfl rfl rfl (by decide +kernel) ⟨Nat.le_of_ble_eq_true rfl, Nat.le_of_ble_eq_true rfl⟩) rfl hl.1 rfl (Nat.le_of_ble_eq_true rfl) dX7_readShift_118 ⟨Nat.le_of_ble_eq_true rfl, Nat.le_of_ble_eq_true rfl⟩ hK hE hA hM (pm_at 3 [2] [0, 1] rfl rfl rfl (by decide)) ((pm_at 3 [2] [0, 1] rfl rfl rfl (by decide))).symm (fun H locs hM hz => ?_)
    refine z_ifeq (tgt := 139) hx hb dX7_readShift_121 (by decide) (fun c_6 => ?_) (fun c_6 => Bool.noConfusion (c_6.symm.trans hc))
    refine lv_iconst (v := 0) hx hb dX7_readShift_139 (by decide) ?_
    refine z_callV (As := [.int 0]) (rest := []) (wc := [(q, .inr (7, [v0, .ref z, .int (nI n), v3, v4, v5, v6, v7, v8, v9, v10, v11, v12, v13, .int (nI (((i + 1) + 1) + 1)), .int (nI o9)]))]) (wr := [(z, .inl (G.2 1, 120, .inl v)), (r, .inl (G.2 1, 121, .inl (flt h b)))]) (w1 := [(q, .inr (7, [v0, .ref z, .int (nI n), v3, v4, v5, v6, v7, v8, v9, v10, v11, v12, v13, .int (nI (((i + 1) + 1) + 1)), .int (nI (o9 + 1))]))]) (ws' := [(q, .inr (7, [v0, .ref z, .int (nI n), v3, v4, v5, v6, v7, v8, v9, v10, v11, v12, v13, .int (nI (((i + 1) + 1) + 1)), .int (nI (o9 + 1))])), (z, .inl (G.2 1, 120, .inl v)), (r, .inl (G.2 1, 121, .inl (flt h b)))]) ⟨hx, hb, hml, hown, hts⟩ (c_done0 l G q v0 (.ref z) (.int (nI n)) v3 v4 v5 v6 v7 v8 v9 v10 v11 v12 v13 (.int (nI (((i + 1) + 1) + 1))) o9) (cwV 1 hts gX7_readShift_X7_done rfl rfl rfl (by decide +kernel) ⟨Nat.le_of_ble_eq_true rfl, Nat.le_of_ble_eq_true rfl⟩) 7 rfl rfl rfl rfl hl.1 rfl (Nat.le_of_ble_eq_true rfl) dX7_readShift_140 ⟨Nat.le_of_ble_eq_true rfl, Nat.le_of_ble_eq_true rfl⟩ hK hE hA hM (pm_at 3 [0] [1, 2] rfl rfl rfl (by decide)) ((pm_at 3 [0] [1, 2] rfl rfl rfl (by decide))).symm (fun H locs hM hz => ?_)
    exact z_zret hx hb hr hlocks dX7_readShift_143 hM (Nat.le_of_ble_eq_true rfl) (Nat.le_of_ble_eq_true rfl) (by first | exact Or.inl rfl | exact Or.inr rfl | exact zb_01 _) rfl
  · skip
    refine lv_aload_n hx hb dX7_readShift_53 rfl (lv_at hl 2 rfl) ?_
    refine z_get (ci := 7) (v := .ref z) (C := RX7) (T := TX7) (N := 16) hx hb hts (by decide +kernel) hown hK hM 0 rfl rfl 1 (by decide) (hts (.fieldLink RX7 7 "ShiftIslesModel" "text" "[I") (by decide +kernel)) (fun _ h9 => h9) rfl dX7_readShift_54 ?_
    refine lv_aload_n hx hb dX7_readShift_57 rfl (lv_at hl 2 rfl) ?_
    refine z_get (ci := 7) (v := .int (nI ((i + 1) + 1))) (C := RX7) (T := TX7) (N := 16) hx hb hts (by decide +kernel) hown hK hM 0 rfl rfl 14 (by decide) (hts (.fieldLink RX7 167 "ShiftIslesModel" "spot" "I") (by decide +kernel)) (fun _ h9 => h9) rfl dX7_readShift_58 ?_
    refine z_iald hx hb hK hM 1 rfl (v := v ((i + 1) + 1)) (vp_in_nI (by omega) (by decide)) (by rw [nI_clamp (by omega)]) dX7_readShift_61 ?_
    refine lv_bipush (v := 45) hx hb dX7_readShift_62 (by decide) ?_
    refine lv_icmp_ne (tgt := 71) hx hb dX7_readShift_64 (by decide) (fun c_7 => absurd (h3.resolve_left c_s) c_7) (fun c_7 => ?_)
    refine lv_iconst (v := 1) hx hb dX7_readShift_67 (by decide) ?_
    refine lv_goto (tgt := 72) hx hb dX7_readShift_68 (by decide) ?_
    refine lv_istore (lv' := [(4, .int 1), (3, .int (nI l8)), (2, .int (nI k8)), (0, .ref q), (1, .ref r)]) hx hb dX7_readShift_72 hl (by decide) rfl (fun ls hl => ?_)
    refine lv_iload hx hb dX7_readShift_74 (lv_at hl 0 rfl) ?_
    refine lv_if_ne (tgt := 81) hx hb dX7_readShift_76 (by decide) (fun c_8 => ?_) (fun c_8 => absurd c_8 (by decide))
    refine lv_aload_n hx hb dX7_readShift_81 rfl (lv_at hl 3 rfl) ?_
    refine z_get (ci := 7) (v := .ref z) (C := RX7) (T := TX7) (N := 16) hx hb hts (by decide +kernel) hown hK hM 0 rfl rfl 1 (by decide) (hts (.fieldLink RX7 7 "ShiftIslesModel" "text" "[I") (by decide +kernel)) (fun _ h9 => h9) rfl dX7_readShift_82 ?_
    refine lv_aload_n hx hb dX7_readShift_85 rfl (lv_at hl 3 rfl) ?_
    refine z_get (ci := 7) (v := .int (nI ((i + 1) + 1))) (C := RX7) (T := TX7) (N := 16) hx hb hts (by decide +kernel) hown hK hM 0 rfl rfl 14 (by decide) (hts (.fieldLink RX7 167 "ShiftIslesModel" "spot" "I") (by decide +kernel)) (fun _ h9 => h9) rfl dX7_readShift_86 ?_
    refine z_iald hx hb hK hM 1 rfl (v := v ((i + 1) + 1)) (vp_in_nI (by omega) (by decide)) (by rw [nI_clamp (by omega)]) dX7_readShift_89 ?_
    refine lv_bipush (v := 43) hx hb dX7_readShift_90 (by decide) ?_
    refine lv_icmp_ne (tgt := 99) hx hb dX7_readShift_92 (by decide) (fun c_9 => ?_) (fun c_9 => absurd c_9 c_s)
    refine lv_iconst (v := 0) hx hb dX7_readShift_99 (by decide) ?_
    refine z_topi (y := (zSn v (i + 1 + 1))) (if_neg c_s).symm ?_
    refine lv_istore (lv' := [(5, .int (zSn v (i + 1 + 1))), (4, .int 1), (3, .int (nI l8)), (2, .int (nI k8)), (0, .ref q), (1, .ref r)]) hx hb dX7_readShift_100 hl (by decide) rfl (fun ls hl => ?_)
    refine lv_aload_n hx hb dX7_readShift_102 rfl (lv_at hl 4 rfl) ?_
    refine lv_dup hx hb dX7_readShift_103 rfl ?_
    refine z_get (ci := 7) (v := .int (nI ((i + 1) + 1))) (C := RX7) (T := TX7) (N := 16) hx hb hts (by decide +kernel) hown hK hM 0 rfl rfl 14 (by decide) (hts (.fieldLink RX7 167 "ShiftIslesModel" "spot" "I") (by decide +kernel)) (fun _ h9 => h9) rfl dX7_readShift_104 ?_
    refine lv_iconst (v := 1) hx hb dX7_readShift_107 (by decide) ?_
    refine lv_iadd hx hb dX7_readShift_108 ?_
    refine z_topi (y := nI (((i + 1) + 1) + 1)) (nI_add ((i + 1) + 1) 1) ?_
    refine z_put (ci := 7) (ty := .int) (v := .int (nI (((i + 1) + 1) + 1))) (C := RX7) (T := TX7) (N := 16) (ws' := [(q, .inr (7, [v0, .ref z, .int (nI n), v3, v4, v5, v6, v7, v8, v9, v10, v11, v12, v13, .int (nI (((i + 1) + 1) + 1)), .int (nI o9)])), (z, .inl (G.2 1, 120, .inl v)), (r, .inl (G.2 1, 121, .inl (flt h b)))]) hx hb hts (by decide +kernel) tyX7 tyX7_ok nmX7 hown hK hM 0 rfl rfl 14 (by decide) (hts (.fieldLink RX7 167 "ShiftIslesModel" "spot" "I") (by decide +kernel)) (fun _ h9 => h9) rfl (by decide +kernel) rfl rfl (Nat.le_of_ble_eq_true rfl) dX7_readShift_109 rfl (fun H locs hM => ?_)
    refine lv_aload_n hx hb dX7_readShift_112 rfl (lv_at hl 4 rfl) ?_
    refine lv_aload_n hx hb dX7_readShift_113 rfl (lv_at hl 5 rfl) ?_
    refine lv_iload_n hx hb dX7_readShift_114 rfl (lv_at hl 3 rfl) ?_
    refine lv_iload_n hx hb dX7_readShift_115 rfl (lv_at hl 2 rfl) ?_
    refine lv_iload hx hb dX7_readShift_116 (lv_at hl 0 rfl) ?_
    refine z_callS (As := [.ref r, .int (nI k8), .int (nI l8), .int (zSn v (i + 1 + 1))]) (rest := [.ref q]) (wc := rfW G r h b) (wr := [(q, .inr (7, [v0, .ref z, .int (nI n), v3, v4, v5, v6, v7, v8, v9, v10, v11, v12, v13, .int (nI (((i + 1) + 1) + 1)), .int (nI o9)])), (z, .inl (G.2 1, 120, .inl v))]) (w1 := rfW G r h b) (ws' := [(q, .inr (7, [v0, .ref z, .int (nI n), v3, v4, v5, v6, v7, v8, v9, v10, v11, v12, v13, .int (nI (((i + 1) + 1) + 1)), .int (nI o9)])), (z, .inl (G.2 1, 120, .inl v)), (r, .inl (G.2 1, 121, .inl (flt h b)))]) ⟨hx, hb, hml, hown, hts⟩ (c_csn l G r h b P t S hG.1 k8 (nI l8) (zSn v (i + 1 + 1)) (by omega) (zLi_nI hl6) hd ) (va_cwS 4 hts gX7_readShift_X7_canShiftNow rfl rfl rfl (by decide +kernel) ⟨Nat.le_of_ble_eq_true rfl, Nat.le_of_ble_eq_true rfl⟩) rfl hl.1 rfl (Nat.le_of_ble_eq_true rfl) dX7_readShift_118 ⟨Nat.le_of_ble_eq_true rfl, Nat.le_of_ble_eq_true rfl⟩ hK hE hA hM (pm_at 3 [2] [0, 1] rfl rfl rfl (by decide)) ((pm_at 3 [2] [0, 1] rfl rfl rfl (by decide))).symm (fun H locs hM hz => ?_)
    refine z_ifeq (tgt := 139) hx hb dX7_readShift_121 (by decide) (fun c_10 => ?_) (fun c_10 => Bool.noConfusion (c_10.symm.trans hc))
    refine lv_iconst (v := 0) hx hb dX7_readShift_139 (by decide) ?_
    refine z_callV (As := [.int 0]) (rest := []) (wc := [(q, .inr (7, [v0, .ref z, .int (nI n), v3, v4, v5, v6, v7, v8, v9, v10, v11, v12, v13, .int (nI (((i + 1) + 1) + 1)), .int (nI o9)]))]) (wr := [(z, .inl (G.2 1, 120, .inl v)), (r, .inl (G.2 1, 121, .inl (flt h b)))]) (w1 := [(q, .inr (7, [v0, .ref z, .int (nI n), v3, v4, v5, v6, v7, v8, v9, v10, v11, v12, v13, .int (nI (((i + 1) + 1) + 1)), .int (nI (o9 + 1))]))]) (ws' := [(q, .inr (7, [v0, .ref z, .int (nI n), v3, v4, v5, v6, v7, v8, v9, v10, v11, v12, v13, .int (nI (((i + 1) + 1) + 1)), .int (nI (o9 + 1))])), (z, .inl (G.2 1, 120, .inl v)), (r, .inl (G.2 1, 121, .inl (flt h b)))]) ⟨hx, hb, hml, hown, hts⟩ (c_done0 l G q v0 (.ref z) (.int (nI n)) v3 v4 v5 v6 v7 v8 v9 v10 v11 v12 v13 (.int (nI (((i + 1) + 1) + 1))) o9) (cwV 1 hts gX7_readShift_X7_done rfl rfl rfl (by decide +kernel) ⟨Nat.le_of_ble_eq_true rfl, Nat.le_of_ble_eq_true rfl⟩) 7 rfl rfl rfl rfl hl.1 rfl (Nat.le_of_ble_eq_true rfl) dX7_readShift_140 ⟨Nat.le_of_ble_eq_true rfl, Nat.le_of_ble_eq_true rfl⟩ hK hE hA hM (pm_at 3 [0] [1, 2] rfl rfl rfl (by decide)) ((pm_at 3 [0] [1, 2] rfl rfl rfl (by decide))).symm (fun H locs hM hz => ?_)
    exact z_zret hx hb hr hlocks dX7_readShift_143 hM (Nat.le_of_ble_eq_true rfl) (Nat.le_of_ble_eq_true rfl) (by first | exact Or.inl rfl | exact Or.inr rfl | exact zb_01 _) rfl

set_option maxHeartbeats 4000000 in
set_option maxRecDepth 100000 in
theorem c_rm1 (l : Launch) (G : zC) (q : Nat) (v0 v3 v4 v5 v6 v7 v8 v9 v10 v11 v12 v13 : Value) (z n j o9 : Nat) (v : Nat → Int32) (r : Nat) (h : Nat → Int32) (b : Nat → Nat → Int32) (P t S e0 : Nat) (hG : zGs h b P t S e0) (hn : n ≤ 120) (hjn : j < n) (hs : v j = 115) (h1 : zI0 (zDg v n (j + 1)).toInt64 (0 : Int32).toInt64 (3 : Int32).toInt64 = false) : zMet l G yX7_readMove wsX7_readMove rmX7_readMove [.ref q, .ref r] ([(q, .inr (7, [v0, .ref z, .int (nI n), v3, v4, v5, v6, v7, v8, v9, v10, v11, v12, v13, .int (nI j), .int (nI o9)])), (z, .inl (G.2 1, 120, .inl v)), (r, .inl (G.2 1, 121, .inl (flt h b)))]) (some (.int 0)) ([(q, .inr (7, [v0, .ref z, .int (nI n), v3, v4, v5, v6, v7, v8, v9, v10, v11, v12, v13, .int (nI (j + 1)), .int (nI o9)])), (z, .inl (G.2 1, 120, .inl v)), (r, .inl (G.2 1, 121, .inl (flt h b)))]) := by
  refine zMet_of (cc := cX7_readMove) (maxL := 4) (ret := (some .boolean)) (by decide) rfl (Nat.le_of_ble_eq_true rfl) ?_
  intro p e s m below meth c A ls hx hb hr hml hown hts hK hA hE hlocks hin hM hl
  have hown : s.vm.findClass RX7 = some m.cls := hown
  have hM : zM G A s s.heap [] ([(q, .inr (7, [v0, .ref z, .int (nI n), v3, v4, v5, v6, v7, v8, v9, v10, v11, v12, v13, .int (nI j), .int (nI o9)])), (z, .inl (G.2 1, 120, .inl v)), (r, .inl (G.2 1, 121, .inl (flt h b)))]) := hM
  have hl : lv_has ls 4 [(0, .ref q), (1, .ref r)] := hl
  have hP4 := hG.1.1.2.1
  refine lv_aload_n hx hb dX7_readMove_0 rfl (lv_at hl 0 rfl) ?_
  refine z_get (ci := 7) (v := .ref z) (C := RX7) (T := TX7) (N := 16) hx hb hts (by decide +kernel) hown hK hM 0 rfl rfl 1 (by decide) (hts (.fieldLink RX7 7 "ShiftIslesModel" "text" "[I") (by decide +kernel)) (fun _ h9 => h9) rfl dX7_readMove_1 ?_
  refine lv_aload_n hx hb dX7_readMove_4 rfl (lv_at hl 0 rfl) ?_
  refine z_get (ci := 7) (v := .int (nI j)) (C := RX7) (T := TX7) (N := 16) hx hb hts (by decide +kernel) hown hK hM 0 rfl rfl 14 (by decide) (hts (.fieldLink RX7 167 "ShiftIslesModel" "spot" "I") (by decide +kernel)) (fun _ h9 => h9) rfl dX7_readMove_5 ?_
  refine z_iald hx hb hK hM 1 rfl (v := v j) (vp_in_nI (by omega) (by decide)) (by rw [nI_clamp (by omega)]) dX7_readMove_8 ?_
  refine lv_istore_n (lv' := [(2, .int (v j)), (0, .ref q), (1, .ref r)]) hx hb dX7_readMove_9 rfl hl (by decide) rfl (fun ls hl => ?_)
  refine lv_aload_n hx hb dX7_readMove_10 rfl (lv_at hl 1 rfl) ?_
  refine lv_dup hx hb dX7_readMove_11 rfl ?_
  refine z_get (ci := 7) (v := .int (nI j)) (C := RX7) (T := TX7) (N := 16) hx hb hts (by decide +kernel) hown hK hM 0 rfl rfl 14 (by decide) (hts (.fieldLink RX7 167 "ShiftIslesModel" "spot" "I") (by decide +kernel)) (fun _ h9 => h9) rfl dX7_readMove_12 ?_
  refine lv_iconst (v := nI 1) hx hb dX7_readMove_15 (by decide) ?_
  refine lv_iadd hx hb dX7_readMove_16 ?_
  refine z_topi (y := nI (j + 1)) (nI_add j 1) ?_
  refine z_put (ci := 7) (ty := .int) (v := .int (nI (j + 1))) (C := RX7) (T := TX7) (N := 16) (ws' := [(q, .inr (7, [v0, .ref z, .int (nI n), v3, v4, v5, v6, v7, v8, v9, v10, v11, v12, v13, .int (nI (j + 1)), .int (nI o9)])), (z, .inl (G.2 1, 120, .inl v)), (r, .inl (G.2 1, 121, .inl (flt h b)))]) hx hb hts (by decide +kernel) tyX7 tyX7_ok nmX7 hown hK hM 0 rfl rfl 14 (by decide) (hts (.fieldLink RX7 167 "ShiftIslesModel" "spot" "I") (by decide +kernel)) (fun _ h9 => h9) rfl (by decide +kernel) rfl rfl (Nat.le_of_ble_eq_true rfl) dX7_readMove_17 rfl (fun H locs hM => ?_)
  refine lv_iload_n hx hb dX7_readMove_20 rfl (lv_at hl 0 rfl) ?_
  refine lv_bipush (v := 115) hx hb dX7_readMove_21 (by decide) ?_
  refine lv_icmp_ne (tgt := 32) hx hb dX7_readMove_23 (by decide) (fun c_1 => absurd hs c_1) (fun c_1 => ?_)
  refine lv_aload_n hx hb dX7_readMove_26 rfl (lv_at hl 1 rfl) ?_
  refine lv_aload_n hx hb dX7_readMove_27 rfl (lv_at hl 2 rfl) ?_
  refine z_callV (As := [.ref r]) (rest := []) (wc := [(q, .inr (7, [v0, .ref z, .int (nI n), v3, v4, v5, v6, v7, v8, v9, v10, v11, v12, v13, .int (nI (j + 1)), .int (nI o9)])), (z, .inl (G.2 1, 120, .inl v)), (r, .inl (G.2 1, 121, .inl (flt h b)))]) (wr := []) (w1 := [(q, .inr (7, [v0, .ref z, .int (nI n), v3, v4, v5, v6, v7, v8, v9, v10, v11, v12, v13, .int (nI (j + 1)), .int (nI o9)])), (z, .inl (G.2 1, 120, .inl v)), (r, .inl (G.2 1, 121, .inl (flt h b)))]) (ws' := [(q, .inr (7, [v0, .ref z, .int (nI n), v3, v4, v5, v6, v7, v8, v9, v10, v11, v12, v13, .int (nI (j + 1)), .int (nI o9)])), (z, .inl (G.2 1, 120, .inl v)), (r, .inl (G.2 1, 121, .inl (flt h b)))]) ⟨hx, hb, hml, hown, hts⟩ (c_rs1 l G q v0 v3 v4 v5 v6 v7 v8 v9 v10 v11 v12 v13 z n (j + 1) o9 v r h b P t S e0 hG hn (by omega) h1) (cwV 1 hts gX7_readMove_X7_readShift rfl rfl rfl (by decide +kernel) ⟨Nat.le_of_ble_eq_true rfl, Nat.le_of_ble_eq_true rfl⟩) 7 rfl rfl rfl rfl hl.1 rfl (Nat.le_of_ble_eq_true rfl) dX7_readMove_28 ⟨Nat.le_of_ble_eq_true rfl, Nat.le_of_ble_eq_true rfl⟩ hK hE hA hM (pm_at 3 [0, 1, 2] [] rfl rfl rfl (by decide)) ((pm_at 3 [0, 1, 2] [] rfl rfl rfl (by decide))).symm (fun H locs hM hz => ?_)
  exact z_zret hx hb hr hlocks dX7_readMove_31 hM (Nat.le_of_ble_eq_true rfl) (Nat.le_of_ble_eq_true rfl) (by first | exact Or.inl rfl | exact Or.inr rfl | exact zb_01 _) rfl

set_option maxHeartbeats 4000000 in
set_option maxRecDepth 100000 in
theorem c_rm2 (l : Launch) (G : zC) (q : Nat) (v0 v3 v4 v5 v6 v7 v8 v9 v10 v11 v12 v13 : Value) (z n j o9 : Nat) (v : Nat → Int32) (r : Nat) (h : Nat → Int32) (b : Nat → Nat → Int32) (P t S e0 : Nat) (hG : zGs h b P t S e0) (hn : n ≤ 120) (hjn : j < n) (hs : v j = 115) (k8 : Nat) (hk8 : k8 < 10) (e1 : zDg v n (j + 1) = nI k8) (h1 : zI0 (zDg v n (j + 1)).toInt64 (0 : Int32).toInt64 (3 : Int32).toInt64 = true) (h2 : zI0 (zDg v n (j + 1 + 1)).toInt64 (0 : Int32).toInt64 (5 : Int32).toInt64 = false) : zMet l G yX7_readMove wsX7_readMove rmX7_readMove [.ref q, .ref r] ([(q, .inr (7, [v0, .ref z, .int (nI n), v3, v4, v5, v6, v7, v8, v9, v10, v11, v12, v13, .int (nI j), .int (nI o9)])), (z, .inl (G.2 1, 120, .inl v)), (r, .inl (G.2 1, 121, .inl (flt h b)))]) (some (.int 0)) ([(q, .inr (7, [v0, .ref z, .int (nI n), v3, v4, v5, v6, v7, v8, v9, v10, v11, v12, v13, .int (nI (j + 1 + 1)), .int (nI o9)])), (z, .inl (G.2 1, 120, .inl v)), (r, .inl (G.2 1, 121, .inl (flt h b)))]) := by
  refine zMet_of (cc := cX7_readMove) (maxL := 4) (ret := (some .boolean)) (by decide) rfl (Nat.le_of_ble_eq_true rfl) ?_
  intro p e s m below meth c A ls hx hb hr hml hown hts hK hA hE hlocks hin hM hl
  have hown : s.vm.findClass RX7 = some m.cls := hown
  have hM : zM G A s s.heap [] ([(q, .inr (7, [v0, .ref z, .int (nI n), v3, v4, v5, v6, v7, v8, v9, v10, v11, v12, v13, .int (nI j), .int (nI o9)])), (z, .inl (G.2 1, 120, .inl v)), (r, .inl (G.2 1, 121, .inl (flt h b)))]) := hM
  have hl : lv_has ls 4 [(0, .ref q), (1, .ref r)] := hl
  have hP4 := hG.1.1.2.1
  refine lv_aload_n hx hb dX7_readMove_0 rfl (lv_at hl 0 rfl) ?_
  refine z_get (ci := 7) (v := .ref z) (C := RX7) (T := TX7) (N := 16) hx hb hts (by decide +kernel) hown hK hM 0 rfl rfl 1 (by decide) (hts (.fieldLink RX7 7 "ShiftIslesModel" "text" "[I") (by decide +kernel)) (fun _ h9 => h9) rfl dX7_readMove_1 ?_
  refine lv_aload_n hx hb dX7_readMove_4 rfl (lv_at hl 0 rfl) ?_
  refine z_get (ci := 7) (v := .int (nI j)) (C := RX7) (T := TX7) (N := 16) hx hb hts (by decide +kernel) hown hK hM 0 rfl rfl 14 (by decide) (hts (.fieldLink RX7 167 "ShiftIslesModel" "spot" "I") (by decide +kernel)) (fun _ h9 => h9) rfl dX7_readMove_5 ?_
  refine z_iald hx hb hK hM 1 rfl (v := v j) (vp_in_nI (by omega) (by decide)) (by rw [nI_clamp (by omega)]) dX7_readMove_8 ?_
  refine lv_istore_n (lv' := [(2, .int (v j)), (0, .ref q), (1, .ref r)]) hx hb dX7_readMove_9 rfl hl (by decide) rfl (fun ls hl => ?_)
  refine lv_aload_n hx hb dX7_readMove_10 rfl (lv_at hl 1 rfl) ?_
  refine lv_dup hx hb dX7_readMove_11 rfl ?_
  refine z_get (ci := 7) (v := .int (nI j)) (C := RX7) (T := TX7) (N := 16) hx hb hts (by decide +kernel) hown hK hM 0 rfl rfl 14 (by decide) (hts (.fieldLink RX7 167 "ShiftIslesModel" "spot" "I") (by decide +kernel)) (fun _ h9 => h9) rfl dX7_readMove_12 ?_
  refine lv_iconst (v := nI 1) hx hb dX7_readMove_15 (by decide) ?_
  refine lv_iadd hx hb dX7_readMove_16 ?_
  refine z_topi (y := nI (j + 1)) (nI_add j 1) ?_
  refine z_put (ci := 7) (ty := .int) (v := .int (nI (j + 1))) (C := RX7) (T := TX7) (N := 16) (ws' := [(q, .inr (7, [v0, .ref z, .int (nI n), v3, v4, v5, v6, v7, v8, v9, v10, v11, v12, v13, .int (nI (j + 1)), .int (nI o9)])), (z, .inl (G.2 1, 120, .inl v)), (r, .inl (G.2 1, 121, .inl (flt h b)))]) hx hb hts (by decide +kernel) tyX7 tyX7_ok nmX7 hown hK hM 0 rfl rfl 14 (by decide) (hts (.fieldLink RX7 167 "ShiftIslesModel" "spot" "I") (by decide +kernel)) (fun _ h9 => h9) rfl (by decide +kernel) rfl rfl (Nat.le_of_ble_eq_true rfl) dX7_readMove_17 rfl (fun H locs hM => ?_)
  refine lv_iload_n hx hb dX7_readMove_20 rfl (lv_at hl 0 rfl) ?_
  refine lv_bipush (v := 115) hx hb dX7_readMove_21 (by decide) ?_
  refine lv_icmp_ne (tgt := 32) hx hb dX7_readMove_23 (by decide) (fun c_1 => absurd hs c_1) (fun c_1 => ?_)
  refine lv_aload_n hx hb dX7_readMove_26 rfl (lv_at hl 1 rfl) ?_
  refine lv_aload_n hx hb dX7_readMove_27 rfl (lv_at hl 2 rfl) ?_
  refine z_callV (As := [.ref r]) (rest := []) (wc := [(q, .inr (7, [v0, .ref z, .int (nI n), v3, v4, v5, v6, v7, v8, v9, v10, v11, v12, v13, .int (nI (j + 1)), .int (nI o9)])), (z, .inl (G.2 1, 120, .inl v)), (r, .inl (G.2 1, 121, .inl (flt h b)))]) (wr := []) (w1 := [(q, .inr (7, [v0, .ref z, .int (nI n), v3, v4, v5, v6, v7, v8, v9, v10, v11, v12, v13, .int (nI (j + 1 + 1)), .int (nI o9)])), (z, .inl (G.2 1, 120, .inl v)), (r, .inl (G.2 1, 121, .inl (flt h b)))]) (ws' := [(q, .inr (7, [v0, .ref z, .int (nI n), v3, v4, v5, v6, v7, v8, v9, v10, v11, v12, v13, .int (nI (j + 1 + 1)), .int (nI o9)])), (z, .inl (G.2 1, 120, .inl v)), (r, .inl (G.2 1, 121, .inl (flt h b)))]) ⟨hx, hb, hml, hown, hts⟩ (c_rs2 l G q v0 v3 v4 v5 v6 v7 v8 v9 v10 v11 v12 v13 z n (j + 1) o9 v r h b P t S e0 hG hn (by omega) k8 hk8 e1 h1 h2) (cwV 1 hts gX7_readMove_X7_readShift rfl rfl rfl (by decide +kernel) ⟨Nat.le_of_ble_eq_true rfl, Nat.le_of_ble_eq_true rfl⟩) 7 rfl rfl rfl rfl hl.1 rfl (Nat.le_of_ble_eq_true rfl) dX7_readMove_28 ⟨Nat.le_of_ble_eq_true rfl, Nat.le_of_ble_eq_true rfl⟩ hK hE hA hM (pm_at 3 [0, 1, 2] [] rfl rfl rfl (by decide)) ((pm_at 3 [0, 1, 2] [] rfl rfl rfl (by decide))).symm (fun H locs hM hz => ?_)
  exact z_zret hx hb hr hlocks dX7_readMove_31 hM (Nat.le_of_ble_eq_true rfl) (Nat.le_of_ble_eq_true rfl) (by first | exact Or.inl rfl | exact Or.inr rfl | exact zb_01 _) rfl

set_option maxHeartbeats 4000000 in
set_option maxRecDepth 100000 in
theorem c_rm3 (l : Launch) (G : zC) (q : Nat) (v0 v3 v4 v5 v6 v7 v8 v9 v10 v11 v12 v13 : Value) (z n j o9 : Nat) (v : Nat → Int32) (r : Nat) (h : Nat → Int32) (b : Nat → Nat → Int32) (P t S e0 : Nat) (hG : zGs h b P t S e0) (hn : n ≤ 120) (hjn : j < n) (hs : v j = 115) (k8 : Nat) (hk8 : k8 < 10) (e1 : zDg v n (j + 1) = nI k8) (h1 : zI0 (zDg v n (j + 1)).toInt64 (0 : Int32).toInt64 (3 : Int32).toInt64 = true) (l8 : Nat) (hl8 : l8 < 10) (e2 : zDg v n (j + 1 + 1) = nI l8) (h2 : zI0 (zDg v n (j + 1 + 1)).toInt64 (0 : Int32).toInt64 (5 : Int32).toInt64 = true) (h3 : ¬ (j + 1 + 1 + 1 < n ∧ (v (j + 1 + 1 + 1) = 43 ∨ v (j + 1 + 1 + 1) = 45))) : zMet l G yX7_readMove wsX7_readMove rmX7_readMove [.ref q, .ref r] ([(q, .inr (7, [v0, .ref z, .int (nI n), v3, v4, v5, v6, v7, v8, v9, v10, v11, v12, v13, .int (nI j), .int (nI o9)])), (z, .inl (G.2 1, 120, .inl v)), (r, .inl (G.2 1, 121, .inl (flt h b)))]) (some (.int 0)) ([(q, .inr (7, [v0, .ref z, .int (nI n), v3, v4, v5, v6, v7, v8, v9, v10, v11, v12, v13, .int (nI (j + 1 + 1 + 1)), .int (nI o9)])), (z, .inl (G.2 1, 120, .inl v)), (r, .inl (G.2 1, 121, .inl (flt h b)))]) := by
  refine zMet_of (cc := cX7_readMove) (maxL := 4) (ret := (some .boolean)) (by decide) rfl (Nat.le_of_ble_eq_true rfl) ?_
  intro p e s m below meth c A ls hx hb hr hml hown hts hK hA hE hlocks hin hM hl
  have hown : s.vm.findClass RX7 = some m.cls := hown
  have hM : zM G A s s.heap [] ([(q, .inr (7, [v0, .ref z, .int (nI n), v3, v4, v5, v6, v7, v8, v9, v10, v11, v12, v13, .int (nI j), .int (nI o9)])), (z, .inl (G.2 1, 120, .inl v)), (r, .inl (G.2 1, 121, .inl (flt h b)))]) := hM
  have hl : lv_has ls 4 [(0, .ref q), (1, .ref r)] := hl
  have hP4 := hG.1.1.2.1
  refine lv_aload_n hx hb dX7_readMove_0 rfl (lv_at hl 0 rfl) ?_
  refine z_get (ci := 7) (v := .ref z) (C := RX7) (T := TX7) (N := 16) hx hb hts (by decide +kernel) hown hK hM 0 rfl rfl 1 (by decide) (hts (.fieldLink RX7 7 "ShiftIslesModel" "text" "[I") (by decide +kernel)) (fun _ h9 => h9) rfl dX7_readMove_1 ?_
  refine lv_aload_n hx hb dX7_readMove_4 rfl (lv_at hl 0 rfl) ?_
  refine z_get (ci := 7) (v := .int (nI j)) (C := RX7) (T := TX7) (N := 16) hx hb hts (by decide +kernel) hown hK hM 0 rfl rfl 14 (by decide) (hts (.fieldLink RX7 167 "ShiftIslesModel" "spot" "I") (by decide +kernel)) (fun _ h9 => h9) rfl dX7_readMove_5 ?_
  refine z_iald hx hb hK hM 1 rfl (v := v j) (vp_in_nI (by omega) (by decide)) (by rw [nI_clamp (by omega)]) dX7_readMove_8 ?_
  refine lv_istore_n (lv' := [(2, .int (v j)), (0, .ref q), (1, .ref r)]) hx hb dX7_readMove_9 rfl hl (by decide) rfl (fun ls hl => ?_)
  refine lv_aload_n hx hb dX7_readMove_10 rfl (lv_at hl 1 rfl) ?_
  refine lv_dup hx hb dX7_readMove_11 rfl ?_
  refine z_get (ci := 7) (v := .int (nI j)) (C := RX7) (T := TX7) (N := 16) hx hb hts (by decide +kernel) hown hK hM 0 rfl rfl 14 (by decide) (hts (.fieldLink RX7 167 "ShiftIslesModel" "spot" "I") (by decide +kernel)) (fun _ h9 => h9) rfl dX7_readMove_12 ?_
  refine lv_iconst (v := nI 1) hx hb dX7_readMove_15 (by decide) ?_
  refine lv_iadd hx hb dX7_readMove_16 ?_
  refine z_topi (y := nI (j + 1)) (nI_add j 1) ?_
  refine z_put (ci := 7) (ty := .int) (v := .int (nI (j + 1))) (C := RX7) (T := TX7) (N := 16) (ws' := [(q, .inr (7, [v0, .ref z, .int (nI n), v3, v4, v5, v6, v7, v8, v9, v10, v11, v12, v13, .int (nI (j + 1)), .int (nI o9)])), (z, .inl (G.2 1, 120, .inl v)), (r, .inl (G.2 1, 121, .inl (flt h b)))]) hx hb hts (by decide +kernel) tyX7 tyX7_ok nmX7 hown hK hM 0 rfl rfl 14 (by decide) (hts (.fieldLink RX7 167 "ShiftIslesModel" "spot" "I") (by decide +kernel)) (fun _ h9 => h9) rfl (by decide +kernel) rfl rfl (Nat.le_of_ble_eq_true rfl) dX7_readMove_17 rfl (fun H locs hM => ?_)
  refine lv_iload_n hx hb dX7_readMove_20 rfl (lv_at hl 0 rfl) ?_
  refine lv_bipush (v := 115) hx hb dX7_readMove_21 (by decide) ?_
  refine lv_icmp_ne (tgt := 32) hx hb dX7_readMove_23 (by decide) (fun c_1 => absurd hs c_1) (fun c_1 => ?_)
  refine lv_aload_n hx hb dX7_readMove_26 rfl (lv_at hl 1 rfl) ?_
  refine lv_aload_n hx hb dX7_readMove_27 rfl (lv_at hl 2 rfl) ?_
  refine z_callV (As := [.ref r]) (rest := []) (wc := [(q, .inr (7, [v0, .ref z, .int (nI n), v3, v4, v5, v6, v7, v8, v9, v10, v11, v12, v13, .int (nI (j + 1)), .int (nI o9)])), (z, .inl (G.2 1, 120, .inl v)), (r, .inl (G.2 1, 121, .inl (flt h b)))]) (wr := []) (w1 := [(q, .inr (7, [v0, .ref z, .int (nI n), v3, v4, v5, v6, v7, v8, v9, v10, v11, v12, v13, .int (nI (j + 1 + 1 + 1)), .int (nI o9)])), (z, .inl (G.2 1, 120, .inl v)), (r, .inl (G.2 1, 121, .inl (flt h b)))]) (ws' := [(q, .inr (7, [v0, .ref z, .int (nI n), v3, v4, v5, v6, v7, v8, v9, v10, v11, v12, v13, .int (nI (j + 1 + 1 + 1)), .int (nI o9)])), (z, .inl (G.2 1, 120, .inl v)), (r, .inl (G.2 1, 121, .inl (flt h b)))]) ⟨hx, hb, hml, hown, hts⟩ (c_rs3 l G q v0 v3 v4 v5 v6 v7 v8 v9 v10 v11 v12 v13 z n (j + 1) o9 v r h b P t S e0 hG hn (by omega) k8 hk8 e1 h1 l8 hl8 e2 h2 h3) (cwV 1 hts gX7_readMove_X7_readShift rfl rfl rfl (by decide +kernel) ⟨Nat.le_of_ble_eq_true rfl, Nat.le_of_ble_eq_true rfl⟩) 7 rfl rfl rfl rfl hl.1 rfl (Nat.le_of_ble_eq_true rfl) dX7_readMove_28 ⟨Nat.le_of_ble_eq_true rfl, Nat.le_of_ble_eq_true rfl⟩ hK hE hA hM (pm_at 3 [0, 1, 2] [] rfl rfl rfl (by decide)) ((pm_at 3 [0, 1, 2] [] rfl rfl rfl (by decide))).symm (fun H locs hM hz => ?_)
  exact z_zret hx hb hr hlocks dX7_readMove_31 hM (Nat.le_of_ble_eq_true rfl) (Nat.le_of_ble_eq_true rfl) (by first | exact Or.inl rfl | exact Or.inr rfl | exact zb_01 _) rfl

set_option maxHeartbeats 4000000 in
set_option maxRecDepth 100000 in
theorem c_rm4 (l : Launch) (G : zC) (q : Nat) (v0 v3 v4 v5 v6 v7 v8 v9 v10 v11 v12 v13 : Value) (z n j o9 : Nat) (v : Nat → Int32) (r : Nat) (h : Nat → Int32) (b : Nat → Nat → Int32) (P t S e0 : Nat) (hG : zGs h b P t S e0) (hn : n ≤ 120) (hjn : j < n) (hs : v j = 115) (k8 : Nat) (hk8 : k8 < 10) (e1 : zDg v n (j + 1) = nI k8) (h1 : zI0 (zDg v n (j + 1)).toInt64 (0 : Int32).toInt64 (3 : Int32).toInt64 = true) (l8 : Nat) (hl8 : l8 < 10) (e2 : zDg v n (j + 1 + 1) = nI l8) (h2 : zI0 (zDg v n (j + 1 + 1)).toInt64 (0 : Int32).toInt64 (5 : Int32).toInt64 = true) (hlt : j + 1 + 1 + 1 < n) (h3 : v (j + 1 + 1 + 1) = 43 ∨ v (j + 1 + 1 + 1) = 45) (hl6 : l8 < 6) (hc : zMs h b k8 (nI l8) (zSn v (j + 1 + 1 + 1)) = true) : zMet l G yX7_readMove wsX7_readMove rmX7_readMove [.ref q, .ref r] ([(q, .inr (7, [v0, .ref z, .int (nI n), v3, v4, v5, v6, v7, v8, v9, v10, v11, v12, v13, .int (nI j), .int (nI o9)])), (z, .inl (G.2 1, 120, .inl v)), (r, .inl (G.2 1, 121, .inl (flt h b)))]) (some (.int 1)) ([(q, .inr (7, [v0, .ref z, .int (nI n), v3, v4, v5, v6, v7, v8, v9, v10, v11, v12, v13, .int (nI (j + 1 + 1 + 1 + 1)), .int (nI o9)])), (z, .inl (G.2 1, 120, .inl v)), (r, .inl (G.2 1, 121, .inl (flt (zShH h) (va_up b k8 (zMv (b k8) l8 (zSn v (j + 1 + 1 + 1)))))))]) := by
  refine zMet_of (cc := cX7_readMove) (maxL := 4) (ret := (some .boolean)) (by decide) rfl (Nat.le_of_ble_eq_true rfl) ?_
  intro p e s m below meth c A ls hx hb hr hml hown hts hK hA hE hlocks hin hM hl
  have hown : s.vm.findClass RX7 = some m.cls := hown
  have hM : zM G A s s.heap [] ([(q, .inr (7, [v0, .ref z, .int (nI n), v3, v4, v5, v6, v7, v8, v9, v10, v11, v12, v13, .int (nI j), .int (nI o9)])), (z, .inl (G.2 1, 120, .inl v)), (r, .inl (G.2 1, 121, .inl (flt h b)))]) := hM
  have hl : lv_has ls 4 [(0, .ref q), (1, .ref r)] := hl
  have hP4 := hG.1.1.2.1
  refine lv_aload_n hx hb dX7_readMove_0 rfl (lv_at hl 0 rfl) ?_
  refine z_get (ci := 7) (v := .ref z) (C := RX7) (T := TX7) (N := 16) hx hb hts (by decide +kernel) hown hK hM 0 rfl rfl 1 (by decide) (hts (.fieldLink RX7 7 "ShiftIslesModel" "text" "[I") (by decide +kernel)) (fun _ h9 => h9) rfl dX7_readMove_1 ?_
  refine lv_aload_n hx hb dX7_readMove_4 rfl (lv_at hl 0 rfl) ?_
  refine z_get (ci := 7) (v := .int (nI j)) (C := RX7) (T := TX7) (N := 16) hx hb hts (by decide +kernel) hown hK hM 0 rfl rfl 14 (by decide) (hts (.fieldLink RX7 167 "ShiftIslesModel" "spot" "I") (by decide +kernel)) (fun _ h9 => h9) rfl dX7_readMove_5 ?_
  refine z_iald hx hb hK hM 1 rfl (v := v j) (vp_in_nI (by omega) (by decide)) (by rw [nI_clamp (by omega)]) dX7_readMove_8 ?_
  refine lv_istore_n (lv' := [(2, .int (v j)), (0, .ref q), (1, .ref r)]) hx hb dX7_readMove_9 rfl hl (by decide) rfl (fun ls hl => ?_)
  refine lv_aload_n hx hb dX7_readMove_10 rfl (lv_at hl 1 rfl) ?_
  refine lv_dup hx hb dX7_readMove_11 rfl ?_
  refine z_get (ci := 7) (v := .int (nI j)) (C := RX7) (T := TX7) (N := 16) hx hb hts (by decide +kernel) hown hK hM 0 rfl rfl 14 (by decide) (hts (.fieldLink RX7 167 "ShiftIslesModel" "spot" "I") (by decide +kernel)) (fun _ h9 => h9) rfl dX7_readMove_12 ?_
  refine lv_iconst (v := nI 1) hx hb dX7_readMove_15 (by decide) ?_
  refine lv_iadd hx hb dX7_readMove_16 ?_
  refine z_topi (y := nI (j + 1)) (nI_add j 1) ?_
  refine z_put (ci := 7) (ty := .int) (v := .int (nI (j + 1))) (C := RX7) (T := TX7) (N := 16) (ws' := [(q, .inr (7, [v0, .ref z, .int (nI n), v3, v4, v5, v6, v7, v8, v9, v10, v11, v12, v13, .int (nI (j + 1)), .int (nI o9)])), (z, .inl (G.2 1, 120, .inl v)), (r, .inl (G.2 1, 121, .inl (flt h b)))]) hx hb hts (by decide +kernel) tyX7 tyX7_ok nmX7 hown hK hM 0 rfl rfl 14 (by decide) (hts (.fieldLink RX7 167 "ShiftIslesModel" "spot" "I") (by decide +kernel)) (fun _ h9 => h9) rfl (by decide +kernel) rfl rfl (Nat.le_of_ble_eq_true rfl) dX7_readMove_17 rfl (fun H locs hM => ?_)
  refine lv_iload_n hx hb dX7_readMove_20 rfl (lv_at hl 0 rfl) ?_
  refine lv_bipush (v := 115) hx hb dX7_readMove_21 (by decide) ?_
  refine lv_icmp_ne (tgt := 32) hx hb dX7_readMove_23 (by decide) (fun c_1 => absurd hs c_1) (fun c_1 => ?_)
  refine lv_aload_n hx hb dX7_readMove_26 rfl (lv_at hl 1 rfl) ?_
  refine lv_aload_n hx hb dX7_readMove_27 rfl (lv_at hl 2 rfl) ?_
  refine z_callV (As := [.ref r]) (rest := []) (wc := [(q, .inr (7, [v0, .ref z, .int (nI n), v3, v4, v5, v6, v7, v8, v9, v10, v11, v12, v13, .int (nI (j + 1)), .int (nI o9)])), (z, .inl (G.2 1, 120, .inl v)), (r, .inl (G.2 1, 121, .inl (flt h b)))]) (wr := []) (w1 := [(q, .inr (7, [v0, .ref z, .int (nI n), v3, v4, v5, v6, v7, v8, v9, v10, v11, v12, v13, .int (nI (j + 1 + 1 + 1 + 1)), .int (nI o9)])), (z, .inl (G.2 1, 120, .inl v)), (r, .inl (G.2 1, 121, .inl (flt (zShH h) (va_up b k8 (zMv (b k8) l8 (zSn v (j + 1 + 1 + 1)))))))]) (ws' := [(q, .inr (7, [v0, .ref z, .int (nI n), v3, v4, v5, v6, v7, v8, v9, v10, v11, v12, v13, .int (nI (j + 1 + 1 + 1 + 1)), .int (nI o9)])), (z, .inl (G.2 1, 120, .inl v)), (r, .inl (G.2 1, 121, .inl (flt (zShH h) (va_up b k8 (zMv (b k8) l8 (zSn v (j + 1 + 1 + 1)))))))]) ⟨hx, hb, hml, hown, hts⟩ (c_rs4 l G q v0 v3 v4 v5 v6 v7 v8 v9 v10 v11 v12 v13 z n (j + 1) o9 v r h b P t S e0 hG hn (by omega) k8 hk8 e1 h1 l8 hl8 e2 h2 hlt h3 hl6 hc) (cwV 1 hts gX7_readMove_X7_readShift rfl rfl rfl (by decide +kernel) ⟨Nat.le_of_ble_eq_true rfl, Nat.le_of_ble_eq_true rfl⟩) 7 rfl rfl rfl rfl hl.1 rfl (Nat.le_of_ble_eq_true rfl) dX7_readMove_28 ⟨Nat.le_of_ble_eq_true rfl, Nat.le_of_ble_eq_true rfl⟩ hK hE hA hM (pm_at 3 [0, 1, 2] [] rfl rfl rfl (by decide)) ((pm_at 3 [0, 1, 2] [] rfl rfl rfl (by decide))).symm (fun H locs hM hz => ?_)
  exact z_zret hx hb hr hlocks dX7_readMove_31 hM (Nat.le_of_ble_eq_true rfl) (Nat.le_of_ble_eq_true rfl) (by first | exact Or.inl rfl | exact Or.inr rfl | exact zb_01 _) rfl

set_option maxHeartbeats 4000000 in
set_option maxRecDepth 100000 in
theorem c_rm5 (l : Launch) (G : zC) (q : Nat) (v0 v3 v4 v5 v6 v7 v8 v9 v10 v11 v12 v13 : Value) (z n j o9 : Nat) (v : Nat → Int32) (r : Nat) (h : Nat → Int32) (b : Nat → Nat → Int32) (P t S e0 : Nat) (hG : zGs h b P t S e0) (hn : n ≤ 120) (hjn : j < n) (hs : v j = 115) (k8 : Nat) (hk8 : k8 < 10) (e1 : zDg v n (j + 1) = nI k8) (h1 : zI0 (zDg v n (j + 1)).toInt64 (0 : Int32).toInt64 (3 : Int32).toInt64 = true) (l8 : Nat) (hl8 : l8 < 10) (e2 : zDg v n (j + 1 + 1) = nI l8) (h2 : zI0 (zDg v n (j + 1 + 1)).toInt64 (0 : Int32).toInt64 (5 : Int32).toInt64 = true) (hlt : j + 1 + 1 + 1 < n) (h3 : v (j + 1 + 1 + 1) = 43 ∨ v (j + 1 + 1 + 1) = 45) (hl6 : l8 < 6) (hc : zMs h b k8 (nI l8) (zSn v (j + 1 + 1 + 1)) = false) : zMet l G yX7_readMove wsX7_readMove rmX7_readMove [.ref q, .ref r] ([(q, .inr (7, [v0, .ref z, .int (nI n), v3, v4, v5, v6, v7, v8, v9, v10, v11, v12, v13, .int (nI j), .int (nI o9)])), (z, .inl (G.2 1, 120, .inl v)), (r, .inl (G.2 1, 121, .inl (flt h b)))]) (some (.int 1)) ([(q, .inr (7, [v0, .ref z, .int (nI n), v3, v4, v5, v6, v7, v8, v9, v10, v11, v12, v13, .int (nI (j + 1 + 1 + 1 + 1)), .int (nI (o9 + 1))])), (z, .inl (G.2 1, 120, .inl v)), (r, .inl (G.2 1, 121, .inl (flt h b)))]) := by
  refine zMet_of (cc := cX7_readMove) (maxL := 4) (ret := (some .boolean)) (by decide) rfl (Nat.le_of_ble_eq_true rfl) ?_
  intro p e s m below meth c A ls hx hb hr hml hown hts hK hA hE hlocks hin hM hl
  have hown : s.vm.findClass RX7 = some m.cls := hown
  have hM : zM G A s s.heap [] ([(q, .inr (7, [v0, .ref z, .int (nI n), v3, v4, v5, v6, v7, v8, v9, v10, v11, v12, v13, .int (nI j), .int (nI o9)])), (z, .inl (G.2 1, 120, .inl v)), (r, .inl (G.2 1, 121, .inl (flt h b)))]) := hM
  have hl : lv_has ls 4 [(0, .ref q), (1, .ref r)] := hl
  have hP4 := hG.1.1.2.1
  refine lv_aload_n hx hb dX7_readMove_0 rfl (lv_at hl 0 rfl) ?_
  refine z_get (ci := 7) (v := .ref z) (C := RX7) (T := TX7) (N := 16) hx hb hts (by decide +kernel) hown hK hM 0 rfl rfl 1 (by decide) (hts (.fieldLink RX7 7 "ShiftIslesModel" "text" "[I") (by decide +kernel)) (fun _ h9 => h9) rfl dX7_readMove_1 ?_
  refine lv_aload_n hx hb dX7_readMove_4 rfl (lv_at hl 0 rfl) ?_
  refine z_get (ci := 7) (v := .int (nI j)) (C := RX7) (T := TX7) (N := 16) hx hb hts (by decide +kernel) hown hK hM 0 rfl rfl 14 (by decide) (hts (.fieldLink RX7 167 "ShiftIslesModel" "spot" "I") (by decide +kernel)) (fun _ h9 => h9) rfl dX7_readMove_5 ?_
  refine z_iald hx hb hK hM 1 rfl (v := v j) (vp_in_nI (by omega) (by decide)) (by rw [nI_clamp (by omega)]) dX7_readMove_8 ?_
  refine lv_istore_n (lv' := [(2, .int (v j)), (0, .ref q), (1, .ref r)]) hx hb dX7_readMove_9 rfl hl (by decide) rfl (fun ls hl => ?_)
  refine lv_aload_n hx hb dX7_readMove_10 rfl (lv_at hl 1 rfl) ?_
  refine lv_dup hx hb dX7_readMove_11 rfl ?_
  refine z_get (ci := 7) (v := .int (nI j)) (C := RX7) (T := TX7) (N := 16) hx hb hts (by decide +kernel) hown hK hM 0 rfl rfl 14 (by decide) (hts (.fieldLink RX7 167 "ShiftIslesModel" "spot" "I") (by decide +kernel)) (fun _ h9 => h9) rfl dX7_readMove_12 ?_
  refine lv_iconst (v := nI 1) hx hb dX7_readMove_15 (by decide) ?_
  refine lv_iadd hx hb dX7_readMove_16 ?_
  refine z_topi (y := nI (j + 1)) (nI_add j 1) ?_
  refine z_put (ci := 7) (ty := .int) (v := .int (nI (j + 1))) (C := RX7) (T := TX7) (N := 16) (ws' := [(q, .inr (7, [v0, .ref z, .int (nI n), v3, v4, v5, v6, v7, v8, v9, v10, v11, v12, v13, .int (nI (j + 1)), .int (nI o9)])), (z, .inl (G.2 1, 120, .inl v)), (r, .inl (G.2 1, 121, .inl (flt h b)))]) hx hb hts (by decide +kernel) tyX7 tyX7_ok nmX7 hown hK hM 0 rfl rfl 14 (by decide) (hts (.fieldLink RX7 167 "ShiftIslesModel" "spot" "I") (by decide +kernel)) (fun _ h9 => h9) rfl (by decide +kernel) rfl rfl (Nat.le_of_ble_eq_true rfl) dX7_readMove_17 rfl (fun H locs hM => ?_)
  refine lv_iload_n hx hb dX7_readMove_20 rfl (lv_at hl 0 rfl) ?_
  refine lv_bipush (v := 115) hx hb dX7_readMove_21 (by decide) ?_
  refine lv_icmp_ne (tgt := 32) hx hb dX7_readMove_23 (by decide) (fun c_1 => absurd hs c_1) (fun c_1 => ?_)
  refine lv_aload_n hx hb dX7_readMove_26 rfl (lv_at hl 1 rfl) ?_
  refine lv_aload_n hx hb dX7_readMove_27 rfl (lv_at hl 2 rfl) ?_
  refine z_callV (As := [.ref r]) (rest := []) (wc := [(q, .inr (7, [v0, .ref z, .int (nI n), v3, v4, v5, v6, v7, v8, v9, v10, v11, v12, v13, .int (nI (j + 1)), .int (nI o9)])), (z, .inl (G.2 1, 120, .inl v)), (r, .inl (G.2 1, 121, .inl (flt h b)))]) (wr := []) (w1 := [(q, .inr (7, [v0, .ref z, .int (nI n), v3, v4, v5, v6, v7, v8, v9, v10, v11, v12, v13, .int (nI (j + 1 + 1 + 1 + 1)), .int (nI (o9 + 1))])), (z, .inl (G.2 1, 120, .inl v)), (r, .inl (G.2 1, 121, .inl (flt h b)))]) (ws' := [(q, .inr (7, [v0, .ref z, .int (nI n), v3, v4, v5, v6, v7, v8, v9, v10, v11, v12, v13, .int (nI (j + 1 + 1 + 1 + 1)), .int (nI (o9 + 1))])), (z, .inl (G.2 1, 120, .inl v)), (r, .inl (G.2 1, 121, .inl (flt h b)))]) ⟨hx, hb, hml, hown, hts⟩ (c_rs5 l G q v0 v3 v4 v5 v6 v7 v8 v9 v10 v11 v12 v13 z n (j + 1) o9 v r h b P t S e0 hG hn (by omega) k8 hk8 e1 h1 l8 hl8 e2 h2 hlt h3 hl6 hc) (cwV 1 hts gX7_readMove_X7_readShift rfl rfl rfl (by decide +kernel) ⟨Nat.le_of_ble_eq_true rfl, Nat.le_of_ble_eq_true rfl⟩) 7 rfl rfl rfl rfl hl.1 rfl (Nat.le_of_ble_eq_true rfl) dX7_readMove_28 ⟨Nat.le_of_ble_eq_true rfl, Nat.le_of_ble_eq_true rfl⟩ hK hE hA hM (pm_at 3 [0, 1, 2] [] rfl rfl rfl (by decide)) ((pm_at 3 [0, 1, 2] [] rfl rfl rfl (by decide))).symm (fun H locs hM hz => ?_)
  exact z_zret hx hb hr hlocks dX7_readMove_31 hM (Nat.le_of_ble_eq_true rfl) (Nat.le_of_ble_eq_true rfl) (by first | exact Or.inl rfl | exact Or.inr rfl | exact zb_01 _) rfl

set_option maxHeartbeats 4000000 in
set_option maxRecDepth 100000 in
theorem c_rm6 (l : Launch) (G : zC) (q : Nat) (v0 v3 v4 v5 v6 v7 v8 v9 v10 v11 v12 v13 : Value) (z n j o9 : Nat) (v : Nat → Int32) (r : Nat) (h : Nat → Int32) (b : Nat → Nat → Int32) (P t S e0 : Nat) (hG : zGs h b P t S e0) (hn : n ≤ 120) (hjn : j < n) (hs : v j = 103) (h1 : zI0 (zDg v n (j + 1)).toInt64 (0 : Int32).toInt64 (8 : Int32).toInt64 = false) : zMet l G yX7_readMove wsX7_readMove rmX7_readMove [.ref q, .ref r] ([(q, .inr (7, [v0, .ref z, .int (nI n), v3, v4, v5, v6, v7, v8, v9, v10, v11, v12, v13, .int (nI j), .int (nI o9)])), (z, .inl (G.2 1, 120, .inl v)), (r, .inl (G.2 1, 121, .inl (flt h b)))]) (some (.int 0)) ([(q, .inr (7, [v0, .ref z, .int (nI n), v3, v4, v5, v6, v7, v8, v9, v10, v11, v12, v13, .int (nI (j + 1)), .int (nI o9)])), (z, .inl (G.2 1, 120, .inl v)), (r, .inl (G.2 1, 121, .inl (flt h b)))]) := by
  refine zMet_of (cc := cX7_readMove) (maxL := 4) (ret := (some .boolean)) (by decide) rfl (Nat.le_of_ble_eq_true rfl) ?_
  intro p e s m below meth c A ls hx hb hr hml hown hts hK hA hE hlocks hin hM hl
  have hown : s.vm.findClass RX7 = some m.cls := hown
  have hM : zM G A s s.heap [] ([(q, .inr (7, [v0, .ref z, .int (nI n), v3, v4, v5, v6, v7, v8, v9, v10, v11, v12, v13, .int (nI j), .int (nI o9)])), (z, .inl (G.2 1, 120, .inl v)), (r, .inl (G.2 1, 121, .inl (flt h b)))]) := hM
  have hl : lv_has ls 4 [(0, .ref q), (1, .ref r)] := hl
  have hP4 := hG.1.1.2.1
  refine lv_aload_n hx hb dX7_readMove_0 rfl (lv_at hl 0 rfl) ?_
  refine z_get (ci := 7) (v := .ref z) (C := RX7) (T := TX7) (N := 16) hx hb hts (by decide +kernel) hown hK hM 0 rfl rfl 1 (by decide) (hts (.fieldLink RX7 7 "ShiftIslesModel" "text" "[I") (by decide +kernel)) (fun _ h9 => h9) rfl dX7_readMove_1 ?_
  refine lv_aload_n hx hb dX7_readMove_4 rfl (lv_at hl 0 rfl) ?_
  refine z_get (ci := 7) (v := .int (nI j)) (C := RX7) (T := TX7) (N := 16) hx hb hts (by decide +kernel) hown hK hM 0 rfl rfl 14 (by decide) (hts (.fieldLink RX7 167 "ShiftIslesModel" "spot" "I") (by decide +kernel)) (fun _ h9 => h9) rfl dX7_readMove_5 ?_
  refine z_iald hx hb hK hM 1 rfl (v := v j) (vp_in_nI (by omega) (by decide)) (by rw [nI_clamp (by omega)]) dX7_readMove_8 ?_
  refine lv_istore_n (lv' := [(2, .int (v j)), (0, .ref q), (1, .ref r)]) hx hb dX7_readMove_9 rfl hl (by decide) rfl (fun ls hl => ?_)
  refine lv_aload_n hx hb dX7_readMove_10 rfl (lv_at hl 1 rfl) ?_
  refine lv_dup hx hb dX7_readMove_11 rfl ?_
  refine z_get (ci := 7) (v := .int (nI j)) (C := RX7) (T := TX7) (N := 16) hx hb hts (by decide +kernel) hown hK hM 0 rfl rfl 14 (by decide) (hts (.fieldLink RX7 167 "ShiftIslesModel" "spot" "I") (by decide +kernel)) (fun _ h9 => h9) rfl dX7_readMove_12 ?_
  refine lv_iconst (v := nI 1) hx hb dX7_readMove_15 (by decide) ?_
  refine lv_iadd hx hb dX7_readMove_16 ?_
  refine z_topi (y := nI (j + 1)) (nI_add j 1) ?_
  refine z_put (ci := 7) (ty := .int) (v := .int (nI (j + 1))) (C := RX7) (T := TX7) (N := 16) (ws' := [(q, .inr (7, [v0, .ref z, .int (nI n), v3, v4, v5, v6, v7, v8, v9, v10, v11, v12, v13, .int (nI (j + 1)), .int (nI o9)])), (z, .inl (G.2 1, 120, .inl v)), (r, .inl (G.2 1, 121, .inl (flt h b)))]) hx hb hts (by decide +kernel) tyX7 tyX7_ok nmX7 hown hK hM 0 rfl rfl 14 (by decide) (hts (.fieldLink RX7 167 "ShiftIslesModel" "spot" "I") (by decide +kernel)) (fun _ h9 => h9) rfl (by decide +kernel) rfl rfl (Nat.le_of_ble_eq_true rfl) dX7_readMove_17 rfl (fun H locs hM => ?_)
  refine lv_iload_n hx hb dX7_readMove_20 rfl (lv_at hl 0 rfl) ?_
  refine lv_bipush (v := 115) hx hb dX7_readMove_21 (by decide) ?_
  refine lv_icmp_ne (tgt := 32) hx hb dX7_readMove_23 (by decide) (fun c_1 => ?_) (fun c_1 => absurd (hs.symm.trans c_1) (by decide))
  refine lv_iload_n hx hb dX7_readMove_32 rfl (lv_at hl 0 rfl) ?_
  refine lv_bipush (v := 103) hx hb dX7_readMove_33 (by decide) ?_
  refine lv_icmp_ne (tgt := 85) hx hb dX7_readMove_35 (by decide) (fun c_2 => absurd hs c_2) (fun c_2 => ?_)
  refine lv_aload_n hx hb dX7_readMove_38 rfl (lv_at hl 1 rfl) ?_
  refine lv_iconst (v := 0) hx hb dX7_readMove_39 (by decide) ?_
  refine lv_bipush (v := 8) hx hb dX7_readMove_40 (by decide) ?_
  refine z_callV (As := [.int 0, .int 8]) (rest := []) (wc := [(q, .inr (7, [v0, .ref z, .int (nI n), v3, v4, v5, v6, v7, v8, v9, v10, v11, v12, v13, .int (nI (j + 1)), .int (nI o9)])), (z, .inl (G.2 1, 120, .inl v))]) (wr := [(r, .inl (G.2 1, 121, .inl (flt h b)))]) (w1 := [(q, .inr (7, [v0, .ref z, .int (nI n), v3, v4, v5, v6, v7, v8, v9, v10, v11, v12, v13, .int (nI (j + 1)), .int (nI o9)])), (z, .inl (G.2 1, 120, .inl v))]) (ws' := [(q, .inr (7, [v0, .ref z, .int (nI n), v3, v4, v5, v6, v7, v8, v9, v10, v11, v12, v13, .int (nI (j + 1)), .int (nI o9)])), (z, .inl (G.2 1, 120, .inl v)), (r, .inl (G.2 1, 121, .inl (flt h b)))]) ⟨hx, hb, hml, hown, hts⟩ (c_dig0 l G q v0 v3 v4 v5 v6 v7 v8 v9 v10 v11 v12 v13 (.int (nI o9)) z n (j + 1) v 0 8 hn (by omega) h1) (cwV 2 hts gX7_readMove_X7_digit rfl rfl rfl (by decide +kernel) ⟨Nat.le_of_ble_eq_true rfl, Nat.le_of_ble_eq_true rfl⟩) 7 rfl rfl rfl rfl hl.1 rfl (Nat.le_of_ble_eq_true rfl) dX7_readMove_42 ⟨Nat.le_of_ble_eq_true rfl, Nat.le_of_ble_eq_true rfl⟩ hK hE hA hM (pm_at 3 [0, 1] [2] rfl rfl rfl (by decide)) ((pm_at 3 [0, 1] [2] rfl rfl rfl (by decide))).symm (fun H locs hM hz => ?_)
  refine lv_istore_n (lv' := [(3, .int (-1)), (2, .int (v j)), (0, .ref q), (1, .ref r)]) hx hb dX7_readMove_45 rfl hl (by decide) rfl (fun ls hl => ?_)
  refine lv_iload_n hx hb dX7_readMove_46 rfl (lv_at hl 0 rfl) ?_
  refine lv_iconst (v := (-1)) hx hb dX7_readMove_47 (by decide) ?_
  refine lv_icmp_eq (tgt := 83) hx hb dX7_readMove_48 (by decide) (fun c_3 => ?_) (fun c_3 => absurd rfl c_3)
  refine lv_iconst (v := 0) hx hb dX7_readMove_83 (by decide) ?_
  exact z_zret hx hb hr hlocks dX7_readMove_84 hM (Nat.le_of_ble_eq_true rfl) (Nat.le_of_ble_eq_true rfl) (by first | exact Or.inl rfl | exact Or.inr rfl | exact zb_01 _) rfl

set_option maxHeartbeats 4000000 in
set_option maxRecDepth 100000 in
theorem c_rm7 (l : Launch) (G : zC) (q : Nat) (v0 v3 v4 v5 v6 v7 v8 v9 v10 v11 v12 v13 : Value) (z n j o9 : Nat) (v : Nat → Int32) (r : Nat) (h : Nat → Int32) (b : Nat → Nat → Int32) (P t S e0 : Nat) (hG : zGs h b P t S e0) (hn : n ≤ 120) (hjn : j < n) (hs : v j = 103) (k8 : Nat) (hk8 : k8 < 9) (e1 : zDg v n (j + 1) = nI k8) (h1 : zI0 (zDg v n (j + 1)).toInt64 (0 : Int32).toInt64 (8 : Int32).toInt64 = true) (hc : zMg h b S t (nI k8) = true) : zMet l G yX7_readMove wsX7_readMove rmX7_readMove [.ref q, .ref r] ([(q, .inr (7, [v0, .ref z, .int (nI n), v3, v4, v5, v6, v7, v8, v9, v10, v11, v12, v13, .int (nI j), .int (nI o9)])), (z, .inl (G.2 1, 120, .inl v)), (r, .inl (G.2 1, 121, .inl (flt h b)))]) (some (.int 1)) ([(q, .inr (7, [v0, .ref z, .int (nI n), v3, v4, v5, v6, v7, v8, v9, v10, v11, v12, v13, .int (nI (j + 1 + 1)), .int (nI o9)])), (z, .inl (G.2 1, 120, .inl v)), (r, .inl (G.2 1, 121, .inl (flt (zEtH h (zGoB b t k8) t P) (zEtB h (zGoB b t k8) t P))))]) := by
  refine zMet_of (cc := cX7_readMove) (maxL := 4) (ret := (some .boolean)) (by decide) rfl (Nat.le_of_ble_eq_true rfl) ?_
  intro p e s m below meth c A ls hx hb hr hml hown hts hK hA hE hlocks hin hM hl
  have hown : s.vm.findClass RX7 = some m.cls := hown
  have hM : zM G A s s.heap [] ([(q, .inr (7, [v0, .ref z, .int (nI n), v3, v4, v5, v6, v7, v8, v9, v10, v11, v12, v13, .int (nI j), .int (nI o9)])), (z, .inl (G.2 1, 120, .inl v)), (r, .inl (G.2 1, 121, .inl (flt h b)))]) := hM
  have hl : lv_has ls 4 [(0, .ref q), (1, .ref r)] := hl
  have hP4 := hG.1.1.2.1
  have hP0 := zRu_P hG.1.1.1 hP4 (zMg_r hc).2
  refine lv_aload_n hx hb dX7_readMove_0 rfl (lv_at hl 0 rfl) ?_
  refine z_get (ci := 7) (v := .ref z) (C := RX7) (T := TX7) (N := 16) hx hb hts (by decide +kernel) hown hK hM 0 rfl rfl 1 (by decide) (hts (.fieldLink RX7 7 "ShiftIslesModel" "text" "[I") (by decide +kernel)) (fun _ h9 => h9) rfl dX7_readMove_1 ?_
  refine lv_aload_n hx hb dX7_readMove_4 rfl (lv_at hl 0 rfl) ?_
  refine z_get (ci := 7) (v := .int (nI j)) (C := RX7) (T := TX7) (N := 16) hx hb hts (by decide +kernel) hown hK hM 0 rfl rfl 14 (by decide) (hts (.fieldLink RX7 167 "ShiftIslesModel" "spot" "I") (by decide +kernel)) (fun _ h9 => h9) rfl dX7_readMove_5 ?_
  refine z_iald hx hb hK hM 1 rfl (v := v j) (vp_in_nI (by omega) (by decide)) (by rw [nI_clamp (by omega)]) dX7_readMove_8 ?_
  refine lv_istore_n (lv' := [(2, .int (v j)), (0, .ref q), (1, .ref r)]) hx hb dX7_readMove_9 rfl hl (by decide) rfl (fun ls hl => ?_)
  refine lv_aload_n hx hb dX7_readMove_10 rfl (lv_at hl 1 rfl) ?_
  refine lv_dup hx hb dX7_readMove_11 rfl ?_
  refine z_get (ci := 7) (v := .int (nI j)) (C := RX7) (T := TX7) (N := 16) hx hb hts (by decide +kernel) hown hK hM 0 rfl rfl 14 (by decide) (hts (.fieldLink RX7 167 "ShiftIslesModel" "spot" "I") (by decide +kernel)) (fun _ h9 => h9) rfl dX7_readMove_12 ?_
  refine lv_iconst (v := nI 1) hx hb dX7_readMove_15 (by decide) ?_
  refine lv_iadd hx hb dX7_readMove_16 ?_
  refine z_topi (y := nI (j + 1)) (nI_add j 1) ?_
  refine z_put (ci := 7) (ty := .int) (v := .int (nI (j + 1))) (C := RX7) (T := TX7) (N := 16) (ws' := [(q, .inr (7, [v0, .ref z, .int (nI n), v3, v4, v5, v6, v7, v8, v9, v10, v11, v12, v13, .int (nI (j + 1)), .int (nI o9)])), (z, .inl (G.2 1, 120, .inl v)), (r, .inl (G.2 1, 121, .inl (flt h b)))]) hx hb hts (by decide +kernel) tyX7 tyX7_ok nmX7 hown hK hM 0 rfl rfl 14 (by decide) (hts (.fieldLink RX7 167 "ShiftIslesModel" "spot" "I") (by decide +kernel)) (fun _ h9 => h9) rfl (by decide +kernel) rfl rfl (Nat.le_of_ble_eq_true rfl) dX7_readMove_17 rfl (fun H locs hM => ?_)
  refine lv_iload_n hx hb dX7_readMove_20 rfl (lv_at hl 0 rfl) ?_
  refine lv_bipush (v := 115) hx hb dX7_readMove_21 (by decide) ?_
  refine lv_icmp_ne (tgt := 32) hx hb dX7_readMove_23 (by decide) (fun c_1 => ?_) (fun c_1 => absurd (hs.symm.trans c_1) (by decide))
  refine lv_iload_n hx hb dX7_readMove_32 rfl (lv_at hl 0 rfl) ?_
  refine lv_bipush (v := 103) hx hb dX7_readMove_33 (by decide) ?_
  refine lv_icmp_ne (tgt := 85) hx hb dX7_readMove_35 (by decide) (fun c_2 => absurd hs c_2) (fun c_2 => ?_)
  refine lv_aload_n hx hb dX7_readMove_38 rfl (lv_at hl 1 rfl) ?_
  refine lv_iconst (v := 0) hx hb dX7_readMove_39 (by decide) ?_
  refine lv_bipush (v := 8) hx hb dX7_readMove_40 (by decide) ?_
  refine z_callV (As := [.int 0, .int 8]) (rest := []) (wc := [(q, .inr (7, [v0, .ref z, .int (nI n), v3, v4, v5, v6, v7, v8, v9, v10, v11, v12, v13, .int (nI (j + 1)), .int (nI o9)])), (z, .inl (G.2 1, 120, .inl v))]) (wr := [(r, .inl (G.2 1, 121, .inl (flt h b)))]) (w1 := [(q, .inr (7, [v0, .ref z, .int (nI n), v3, v4, v5, v6, v7, v8, v9, v10, v11, v12, v13, .int (nI ((j + 1) + 1)), .int (nI o9)])), (z, .inl (G.2 1, 120, .inl v))]) (ws' := [(q, .inr (7, [v0, .ref z, .int (nI n), v3, v4, v5, v6, v7, v8, v9, v10, v11, v12, v13, .int (nI ((j + 1) + 1)), .int (nI o9)])), (z, .inl (G.2 1, 120, .inl v)), (r, .inl (G.2 1, 121, .inl (flt h b)))]) ⟨hx, hb, hml, hown, hts⟩ (c_dig1 l G q v0 v3 v4 v5 v6 v7 v8 v9 v10 v11 v12 v13 (.int (nI o9)) z n (j + 1) v 0 8 hn (by omega) h1) (cwV 2 hts gX7_readMove_X7_digit rfl rfl rfl (by decide +kernel) ⟨Nat.le_of_ble_eq_true rfl, Nat.le_of_ble_eq_true rfl⟩) 7 rfl rfl rfl rfl hl.1 rfl (Nat.le_of_ble_eq_true rfl) dX7_readMove_42 ⟨Nat.le_of_ble_eq_true rfl, Nat.le_of_ble_eq_true rfl⟩ hK hE hA hM (pm_at 3 [0, 1] [2] rfl rfl rfl (by decide)) ((pm_at 3 [0, 1] [2] rfl rfl rfl (by decide))).symm (fun H locs hM hz => ?_)
  refine z_topi (y := nI k8) e1 ?_
  refine lv_istore_n (lv' := [(3, .int (nI k8)), (2, .int (v j)), (0, .ref q), (1, .ref r)]) hx hb dX7_readMove_45 rfl hl (by decide) rfl (fun ls hl => ?_)
  refine lv_iload_n hx hb dX7_readMove_46 rfl (lv_at hl 0 rfl) ?_
  refine lv_iconst (v := (-1)) hx hb dX7_readMove_47 (by decide) ?_
  refine lv_icmp_eq (tgt := 83) hx hb dX7_readMove_48 (by decide) (fun c_3 => absurd c_3 (nI_m1 (by omega))) (fun c_3 => ?_)
  refine lv_aload_n hx hb dX7_readMove_51 rfl (lv_at hl 2 rfl) ?_
  refine lv_aload_n hx hb dX7_readMove_52 rfl (lv_at hl 3 rfl) ?_
  refine lv_iload_n hx hb dX7_readMove_53 rfl (lv_at hl 0 rfl) ?_
  refine z_callS (As := [.ref r, .int (nI k8)]) (rest := [.ref q]) (wc := rfW G r h b) (wr := [(q, .inr (7, [v0, .ref z, .int (nI n), v3, v4, v5, v6, v7, v8, v9, v10, v11, v12, v13, .int (nI ((j + 1) + 1)), .int (nI o9)])), (z, .inl (G.2 1, 120, .inl v))]) (w1 := rfW G r h b) (ws' := [(q, .inr (7, [v0, .ref z, .int (nI n), v3, v4, v5, v6, v7, v8, v9, v10, v11, v12, v13, .int (nI ((j + 1) + 1)), .int (nI o9)])), (z, .inl (G.2 1, 120, .inl v)), (r, .inl (G.2 1, 121, .inl (flt h b)))]) ⟨hx, hb, hml, hown, hts⟩ (c_canGo l G r h b P t S hG.1 (nI k8) (zPl_nI hk8) ) (va_cwS 2 hts gX7_readMove_X7_canGo rfl rfl rfl (by decide +kernel) ⟨Nat.le_of_ble_eq_true rfl, Nat.le_of_ble_eq_true rfl⟩) rfl hl.1 rfl (Nat.le_of_ble_eq_true rfl) dX7_readMove_54 ⟨Nat.le_of_ble_eq_true rfl, Nat.le_of_ble_eq_true rfl⟩ hK hE hA hM (pm_at 3 [2] [0, 1] rfl rfl rfl (by decide)) ((pm_at 3 [2] [0, 1] rfl rfl rfl (by decide))).symm (fun H locs hM hz => ?_)
  refine z_ifeq (tgt := 72) hx hb dX7_readMove_57 (by decide) (fun c_4 => Bool.noConfusion (hc.symm.trans c_4)) (fun c_4 => ?_)
  refine lv_aload_n hx hb dX7_readMove_60 rfl (lv_at hl 3 rfl) ?_
  refine lv_iload_n hx hb dX7_readMove_61 rfl (lv_at hl 0 rfl) ?_
  refine z_callS (As := [.ref r, .int (nI k8)]) (rest := [.ref q]) (wc := rfW G r h b) (wr := [(q, .inr (7, [v0, .ref z, .int (nI n), v3, v4, v5, v6, v7, v8, v9, v10, v11, v12, v13, .int (nI ((j + 1) + 1)), .int (nI o9)])), (z, .inl (G.2 1, 120, .inl v))]) (w1 := [(r, .inl (G.2 1, 121, .inl (flt (zEtH h (zGoB b t k8) t P) (zEtB h (zGoB b t k8) t P))))]) (ws' := [(q, .inr (7, [v0, .ref z, .int (nI n), v3, v4, v5, v6, v7, v8, v9, v10, v11, v12, v13, .int (nI ((j + 1) + 1)), .int (nI o9)])), (z, .inl (G.2 1, 120, .inl v)), (r, .inl (G.2 1, 121, .inl (flt (zEtH h (zGoB b t k8) t P) (zEtB h (zGoB b t k8) t P))))]) ⟨hx, hb, hml, hown, hts⟩ (c_goOn l G r h b P t S hG.1 hP0 k8 hk8) (va_cwS 2 hts gX7_readMove_X7_goOn rfl rfl rfl (by decide +kernel) ⟨Nat.le_of_ble_eq_true rfl, Nat.le_of_ble_eq_true rfl⟩) rfl hl.1 rfl (Nat.le_of_ble_eq_true rfl) dX7_readMove_62 ⟨Nat.le_of_ble_eq_true rfl, Nat.le_of_ble_eq_true rfl⟩ hK hE hA hM (pm_at 3 [2] [0, 1] rfl rfl rfl (by decide)) ((pm_at 3 [2] [0, 1] rfl rfl rfl (by decide))).symm (fun H locs hM hz => ?_)
  refine lv_if_lt (tgt := 72) hx hb dX7_readMove_65 (by decide) (fun c_5 => absurd c_5 (zLr_ge (hG.1.2.2 t (hG.1.2.1 hP0).1) hk8)) (fun c_5 => ?_)
  refine lv_iconst (v := 1) hx hb dX7_readMove_68 (by decide) ?_
  refine lv_goto (tgt := 73) hx hb dX7_readMove_69 (by decide) ?_
  refine z_callV (As := [.int 1]) (rest := []) (wc := [(q, .inr (7, [v0, .ref z, .int (nI n), v3, v4, v5, v6, v7, v8, v9, v10, v11, v12, v13, .int (nI ((j + 1) + 1)), .int (nI o9)]))]) (wr := [(z, .inl (G.2 1, 120, .inl v)), (r, .inl (G.2 1, 121, .inl (flt (zEtH h (zGoB b t k8) t P) (zEtB h (zGoB b t k8) t P))))]) (w1 := [(q, .inr (7, [v0, .ref z, .int (nI n), v3, v4, v5, v6, v7, v8, v9, v10, v11, v12, v13, .int (nI ((j + 1) + 1)), .int (nI o9)]))]) (ws' := [(q, .inr (7, [v0, .ref z, .int (nI n), v3, v4, v5, v6, v7, v8, v9, v10, v11, v12, v13, .int (nI ((j + 1) + 1)), .int (nI o9)])), (z, .inl (G.2 1, 120, .inl v)), (r, .inl (G.2 1, 121, .inl (flt (zEtH h (zGoB b t k8) t P) (zEtB h (zGoB b t k8) t P))))]) ⟨hx, hb, hml, hown, hts⟩ (c_done1 l G q v0 (.ref z) (.int (nI n)) v3 v4 v5 v6 v7 v8 v9 v10 v11 v12 v13 (.int (nI ((j + 1) + 1))) o9) (cwV 1 hts gX7_readMove_X7_done rfl rfl rfl (by decide +kernel) ⟨Nat.le_of_ble_eq_true rfl, Nat.le_of_ble_eq_true rfl⟩) 7 rfl rfl rfl rfl hl.1 rfl (Nat.le_of_ble_eq_true rfl) dX7_readMove_73 ⟨Nat.le_of_ble_eq_true rfl, Nat.le_of_ble_eq_true rfl⟩ hK hE hA hM (pm_at 3 [0] [1, 2] rfl rfl rfl (by decide)) ((pm_at 3 [0] [1, 2] rfl rfl rfl (by decide))).symm (fun H locs hM hz => ?_)
  refine lv_if_eq (tgt := 83) hx hb dX7_readMove_76 (by decide) (fun c_6 => absurd c_6 (by decide)) (fun c_6 => ?_)
  refine lv_iconst (v := 1) hx hb dX7_readMove_79 (by decide) ?_
  refine lv_goto (tgt := 84) hx hb dX7_readMove_80 (by decide) ?_
  exact z_zret hx hb hr hlocks dX7_readMove_84 hM (Nat.le_of_ble_eq_true rfl) (Nat.le_of_ble_eq_true rfl) (by first | exact Or.inl rfl | exact Or.inr rfl | exact zb_01 _) rfl

set_option maxHeartbeats 4000000 in
set_option maxRecDepth 100000 in
theorem c_rm8 (l : Launch) (G : zC) (q : Nat) (v0 v3 v4 v5 v6 v7 v8 v9 v10 v11 v12 v13 : Value) (z n j o9 : Nat) (v : Nat → Int32) (r : Nat) (h : Nat → Int32) (b : Nat → Nat → Int32) (P t S e0 : Nat) (hG : zGs h b P t S e0) (hn : n ≤ 120) (hjn : j < n) (hs : v j = 103) (k8 : Nat) (hk8 : k8 < 9) (e1 : zDg v n (j + 1) = nI k8) (h1 : zI0 (zDg v n (j + 1)).toInt64 (0 : Int32).toInt64 (8 : Int32).toInt64 = true) (hc : zMg h b S t (nI k8) = false) : zMet l G yX7_readMove wsX7_readMove rmX7_readMove [.ref q, .ref r] ([(q, .inr (7, [v0, .ref z, .int (nI n), v3, v4, v5, v6, v7, v8, v9, v10, v11, v12, v13, .int (nI j), .int (nI o9)])), (z, .inl (G.2 1, 120, .inl v)), (r, .inl (G.2 1, 121, .inl (flt h b)))]) (some (.int 1)) ([(q, .inr (7, [v0, .ref z, .int (nI n), v3, v4, v5, v6, v7, v8, v9, v10, v11, v12, v13, .int (nI (j + 1 + 1)), .int (nI (o9 + 1))])), (z, .inl (G.2 1, 120, .inl v)), (r, .inl (G.2 1, 121, .inl (flt h b)))]) := by
  refine zMet_of (cc := cX7_readMove) (maxL := 4) (ret := (some .boolean)) (by decide) rfl (Nat.le_of_ble_eq_true rfl) ?_
  intro p e s m below meth c A ls hx hb hr hml hown hts hK hA hE hlocks hin hM hl
  have hown : s.vm.findClass RX7 = some m.cls := hown
  have hM : zM G A s s.heap [] ([(q, .inr (7, [v0, .ref z, .int (nI n), v3, v4, v5, v6, v7, v8, v9, v10, v11, v12, v13, .int (nI j), .int (nI o9)])), (z, .inl (G.2 1, 120, .inl v)), (r, .inl (G.2 1, 121, .inl (flt h b)))]) := hM
  have hl : lv_has ls 4 [(0, .ref q), (1, .ref r)] := hl
  have hP4 := hG.1.1.2.1
  refine lv_aload_n hx hb dX7_readMove_0 rfl (lv_at hl 0 rfl) ?_
  refine z_get (ci := 7) (v := .ref z) (C := RX7) (T := TX7) (N := 16) hx hb hts (by decide +kernel) hown hK hM 0 rfl rfl 1 (by decide) (hts (.fieldLink RX7 7 "ShiftIslesModel" "text" "[I") (by decide +kernel)) (fun _ h9 => h9) rfl dX7_readMove_1 ?_
  refine lv_aload_n hx hb dX7_readMove_4 rfl (lv_at hl 0 rfl) ?_
  refine z_get (ci := 7) (v := .int (nI j)) (C := RX7) (T := TX7) (N := 16) hx hb hts (by decide +kernel) hown hK hM 0 rfl rfl 14 (by decide) (hts (.fieldLink RX7 167 "ShiftIslesModel" "spot" "I") (by decide +kernel)) (fun _ h9 => h9) rfl dX7_readMove_5 ?_
  refine z_iald hx hb hK hM 1 rfl (v := v j) (vp_in_nI (by omega) (by decide)) (by rw [nI_clamp (by omega)]) dX7_readMove_8 ?_
  refine lv_istore_n (lv' := [(2, .int (v j)), (0, .ref q), (1, .ref r)]) hx hb dX7_readMove_9 rfl hl (by decide) rfl (fun ls hl => ?_)
  refine lv_aload_n hx hb dX7_readMove_10 rfl (lv_at hl 1 rfl) ?_
  refine lv_dup hx hb dX7_readMove_11 rfl ?_
  refine z_get (ci := 7) (v := .int (nI j)) (C := RX7) (T := TX7) (N := 16) hx hb hts (by decide +kernel) hown hK hM 0 rfl rfl 14 (by decide) (hts (.fieldLink RX7 167 "ShiftIslesModel" "spot" "I") (by decide +kernel)) (fun _ h9 => h9) rfl dX7_readMove_12 ?_
  refine lv_iconst (v := nI 1) hx hb dX7_readMove_15 (by decide) ?_
  refine lv_iadd hx hb dX7_readMove_16 ?_
  refine z_topi (y := nI (j + 1)) (nI_add j 1) ?_
  refine z_put (ci := 7) (ty := .int) (v := .int (nI (j + 1))) (C := RX7) (T := TX7) (N := 16) (ws' := [(q, .inr (7, [v0, .ref z, .int (nI n), v3, v4, v5, v6, v7, v8, v9, v10, v11, v12, v13, .int (nI (j + 1)), .int (nI o9)])), (z, .inl (G.2 1, 120, .inl v)), (r, .inl (G.2 1, 121, .inl (flt h b)))]) hx hb hts (by decide +kernel) tyX7 tyX7_ok nmX7 hown hK hM 0 rfl rfl 14 (by decide) (hts (.fieldLink RX7 167 "ShiftIslesModel" "spot" "I") (by decide +kernel)) (fun _ h9 => h9) rfl (by decide +kernel) rfl rfl (Nat.le_of_ble_eq_true rfl) dX7_readMove_17 rfl (fun H locs hM => ?_)
  refine lv_iload_n hx hb dX7_readMove_20 rfl (lv_at hl 0 rfl) ?_
  refine lv_bipush (v := 115) hx hb dX7_readMove_21 (by decide) ?_
  refine lv_icmp_ne (tgt := 32) hx hb dX7_readMove_23 (by decide) (fun c_1 => ?_) (fun c_1 => absurd (hs.symm.trans c_1) (by decide))
  refine lv_iload_n hx hb dX7_readMove_32 rfl (lv_at hl 0 rfl) ?_
  refine lv_bipush (v := 103) hx hb dX7_readMove_33 (by decide) ?_
  refine lv_icmp_ne (tgt := 85) hx hb dX7_readMove_35 (by decide) (fun c_2 => absurd hs c_2) (fun c_2 => ?_)
  refine lv_aload_n hx hb dX7_readMove_38 rfl (lv_at hl 1 rfl) ?_
  refine lv_iconst (v := 0) hx hb dX7_readMove_39 (by decide) ?_
  refine lv_bipush (v := 8) hx hb dX7_readMove_40 (by decide) ?_
  refine z_callV (As := [.int 0, .int 8]) (rest := []) (wc := [(q, .inr (7, [v0, .ref z, .int (nI n), v3, v4, v5, v6, v7, v8, v9, v10, v11, v12, v13, .int (nI (j + 1)), .int (nI o9)])), (z, .inl (G.2 1, 120, .inl v))]) (wr := [(r, .inl (G.2 1, 121, .inl (flt h b)))]) (w1 := [(q, .inr (7, [v0, .ref z, .int (nI n), v3, v4, v5, v6, v7, v8, v9, v10, v11, v12, v13, .int (nI ((j + 1) + 1)), .int (nI o9)])), (z, .inl (G.2 1, 120, .inl v))]) (ws' := [(q, .inr (7, [v0, .ref z, .int (nI n), v3, v4, v5, v6, v7, v8, v9, v10, v11, v12, v13, .int (nI ((j + 1) + 1)), .int (nI o9)])), (z, .inl (G.2 1, 120, .inl v)), (r, .inl (G.2 1, 121, .inl (flt h b)))]) ⟨hx, hb, hml, hown, hts⟩ (c_dig1 l G q v0 v3 v4 v5 v6 v7 v8 v9 v10 v11 v12 v13 (.int (nI o9)) z n (j + 1) v 0 8 hn (by omega) h1) (cwV 2 hts gX7_readMove_X7_digit rfl rfl rfl (by decide +kernel) ⟨Nat.le_of_ble_eq_true rfl, Nat.le_of_ble_eq_true rfl⟩) 7 rfl rfl rfl rfl hl.1 rfl (Nat.le_of_ble_eq_true rfl) dX7_readMove_42 ⟨Nat.le_of_ble_eq_true rfl, Nat.le_of_ble_eq_true rfl⟩ hK hE hA hM (pm_at 3 [0, 1] [2] rfl rfl rfl (by decide)) ((pm_at 3 [0, 1] [2] rfl rfl rfl (by decide))).symm (fun H locs hM hz => ?_)
  refine z_topi (y := nI k8) e1 ?_
  refine lv_istore_n (lv' := [(3, .int (nI k8)), (2, .int (v j)), (0, .ref q), (1, .ref r)]) hx hb dX7_readMove_45 rfl hl (by decide) rfl (fun ls hl => ?_)
  refine lv_iload_n hx hb dX7_readMove_46 rfl (lv_at hl 0 rfl) ?_
  refine lv_iconst (v := (-1)) hx hb dX7_readMove_47 (by decide) ?_
  refine lv_icmp_eq (tgt := 83) hx hb dX7_readMove_48 (by decide) (fun c_3 => absurd c_3 (nI_m1 (by omega))) (fun c_3 => ?_)
  refine lv_aload_n hx hb dX7_readMove_51 rfl (lv_at hl 2 rfl) ?_
  refine lv_aload_n hx hb dX7_readMove_52 rfl (lv_at hl 3 rfl) ?_
  refine lv_iload_n hx hb dX7_readMove_53 rfl (lv_at hl 0 rfl) ?_
  refine z_callS (As := [.ref r, .int (nI k8)]) (rest := [.ref q]) (wc := rfW G r h b) (wr := [(q, .inr (7, [v0, .ref z, .int (nI n), v3, v4, v5, v6, v7, v8, v9, v10, v11, v12, v13, .int (nI ((j + 1) + 1)), .int (nI o9)])), (z, .inl (G.2 1, 120, .inl v))]) (w1 := rfW G r h b) (ws' := [(q, .inr (7, [v0, .ref z, .int (nI n), v3, v4, v5, v6, v7, v8, v9, v10, v11, v12, v13, .int (nI ((j + 1) + 1)), .int (nI o9)])), (z, .inl (G.2 1, 120, .inl v)), (r, .inl (G.2 1, 121, .inl (flt h b)))]) ⟨hx, hb, hml, hown, hts⟩ (c_canGo l G r h b P t S hG.1 (nI k8) (zPl_nI hk8) ) (va_cwS 2 hts gX7_readMove_X7_canGo rfl rfl rfl (by decide +kernel) ⟨Nat.le_of_ble_eq_true rfl, Nat.le_of_ble_eq_true rfl⟩) rfl hl.1 rfl (Nat.le_of_ble_eq_true rfl) dX7_readMove_54 ⟨Nat.le_of_ble_eq_true rfl, Nat.le_of_ble_eq_true rfl⟩ hK hE hA hM (pm_at 3 [2] [0, 1] rfl rfl rfl (by decide)) ((pm_at 3 [2] [0, 1] rfl rfl rfl (by decide))).symm (fun H locs hM hz => ?_)
  refine z_ifeq (tgt := 72) hx hb dX7_readMove_57 (by decide) (fun c_4 => ?_) (fun c_4 => Bool.noConfusion (c_4.symm.trans hc))
  refine lv_iconst (v := 0) hx hb dX7_readMove_72 (by decide) ?_
  refine z_callV (As := [.int 0]) (rest := []) (wc := [(q, .inr (7, [v0, .ref z, .int (nI n), v3, v4, v5, v6, v7, v8, v9, v10, v11, v12, v13, .int (nI ((j + 1) + 1)), .int (nI o9)]))]) (wr := [(z, .inl (G.2 1, 120, .inl v)), (r, .inl (G.2 1, 121, .inl (flt h b)))]) (w1 := [(q, .inr (7, [v0, .ref z, .int (nI n), v3, v4, v5, v6, v7, v8, v9, v10, v11, v12, v13, .int (nI ((j + 1) + 1)), .int (nI (o9 + 1))]))]) (ws' := [(q, .inr (7, [v0, .ref z, .int (nI n), v3, v4, v5, v6, v7, v8, v9, v10, v11, v12, v13, .int (nI ((j + 1) + 1)), .int (nI (o9 + 1))])), (z, .inl (G.2 1, 120, .inl v)), (r, .inl (G.2 1, 121, .inl (flt h b)))]) ⟨hx, hb, hml, hown, hts⟩ (c_done0 l G q v0 (.ref z) (.int (nI n)) v3 v4 v5 v6 v7 v8 v9 v10 v11 v12 v13 (.int (nI ((j + 1) + 1))) o9) (cwV 1 hts gX7_readMove_X7_done rfl rfl rfl (by decide +kernel) ⟨Nat.le_of_ble_eq_true rfl, Nat.le_of_ble_eq_true rfl⟩) 7 rfl rfl rfl rfl hl.1 rfl (Nat.le_of_ble_eq_true rfl) dX7_readMove_73 ⟨Nat.le_of_ble_eq_true rfl, Nat.le_of_ble_eq_true rfl⟩ hK hE hA hM (pm_at 3 [0] [1, 2] rfl rfl rfl (by decide)) ((pm_at 3 [0] [1, 2] rfl rfl rfl (by decide))).symm (fun H locs hM hz => ?_)
  refine lv_if_eq (tgt := 83) hx hb dX7_readMove_76 (by decide) (fun c_5 => absurd c_5 (by decide)) (fun c_5 => ?_)
  refine lv_iconst (v := 1) hx hb dX7_readMove_79 (by decide) ?_
  refine lv_goto (tgt := 84) hx hb dX7_readMove_80 (by decide) ?_
  exact z_zret hx hb hr hlocks dX7_readMove_84 hM (Nat.le_of_ble_eq_true rfl) (Nat.le_of_ble_eq_true rfl) (by first | exact Or.inl rfl | exact Or.inr rfl | exact zb_01 _) rfl

set_option maxHeartbeats 4000000 in
set_option maxRecDepth 100000 in
theorem c_rm9 (l : Launch) (G : zC) (q : Nat) (v0 v3 v4 v5 v6 v7 v8 v9 v10 v11 v12 v13 : Value) (z n j o9 : Nat) (v : Nat → Int32) (r : Nat) (h : Nat → Int32) (b : Nat → Nat → Int32) (P t S e0 : Nat) (hG : zGs h b P t S e0) (hn : n ≤ 120) (hjn : j < n) (hs : v j = 108) (h1 : zI0 (zDg v n (j + 1)).toInt64 (0 : Int32).toInt64 (5 : Int32).toInt64 = false) : zMet l G yX7_readMove wsX7_readMove rmX7_readMove [.ref q, .ref r] ([(q, .inr (7, [v0, .ref z, .int (nI n), v3, v4, v5, v6, v7, v8, v9, v10, v11, v12, v13, .int (nI j), .int (nI o9)])), (z, .inl (G.2 1, 120, .inl v)), (r, .inl (G.2 1, 121, .inl (flt h b)))]) (some (.int 0)) ([(q, .inr (7, [v0, .ref z, .int (nI n), v3, v4, v5, v6, v7, v8, v9, v10, v11, v12, v13, .int (nI (j + 1)), .int (nI o9)])), (z, .inl (G.2 1, 120, .inl v)), (r, .inl (G.2 1, 121, .inl (flt h b)))]) := by
  refine zMet_of (cc := cX7_readMove) (maxL := 4) (ret := (some .boolean)) (by decide) rfl (Nat.le_of_ble_eq_true rfl) ?_
  intro p e s m below meth c A ls hx hb hr hml hown hts hK hA hE hlocks hin hM hl
  have hown : s.vm.findClass RX7 = some m.cls := hown
  have hM : zM G A s s.heap [] ([(q, .inr (7, [v0, .ref z, .int (nI n), v3, v4, v5, v6, v7, v8, v9, v10, v11, v12, v13, .int (nI j), .int (nI o9)])), (z, .inl (G.2 1, 120, .inl v)), (r, .inl (G.2 1, 121, .inl (flt h b)))]) := hM
  have hl : lv_has ls 4 [(0, .ref q), (1, .ref r)] := hl
  have hP4 := hG.1.1.2.1
  refine lv_aload_n hx hb dX7_readMove_0 rfl (lv_at hl 0 rfl) ?_
  refine z_get (ci := 7) (v := .ref z) (C := RX7) (T := TX7) (N := 16) hx hb hts (by decide +kernel) hown hK hM 0 rfl rfl 1 (by decide) (hts (.fieldLink RX7 7 "ShiftIslesModel" "text" "[I") (by decide +kernel)) (fun _ h9 => h9) rfl dX7_readMove_1 ?_
  refine lv_aload_n hx hb dX7_readMove_4 rfl (lv_at hl 0 rfl) ?_
  refine z_get (ci := 7) (v := .int (nI j)) (C := RX7) (T := TX7) (N := 16) hx hb hts (by decide +kernel) hown hK hM 0 rfl rfl 14 (by decide) (hts (.fieldLink RX7 167 "ShiftIslesModel" "spot" "I") (by decide +kernel)) (fun _ h9 => h9) rfl dX7_readMove_5 ?_
  refine z_iald hx hb hK hM 1 rfl (v := v j) (vp_in_nI (by omega) (by decide)) (by rw [nI_clamp (by omega)]) dX7_readMove_8 ?_
  refine lv_istore_n (lv' := [(2, .int (v j)), (0, .ref q), (1, .ref r)]) hx hb dX7_readMove_9 rfl hl (by decide) rfl (fun ls hl => ?_)
  refine lv_aload_n hx hb dX7_readMove_10 rfl (lv_at hl 1 rfl) ?_
  refine lv_dup hx hb dX7_readMove_11 rfl ?_
  refine z_get (ci := 7) (v := .int (nI j)) (C := RX7) (T := TX7) (N := 16) hx hb hts (by decide +kernel) hown hK hM 0 rfl rfl 14 (by decide) (hts (.fieldLink RX7 167 "ShiftIslesModel" "spot" "I") (by decide +kernel)) (fun _ h9 => h9) rfl dX7_readMove_12 ?_
  refine lv_iconst (v := nI 1) hx hb dX7_readMove_15 (by decide) ?_
  refine lv_iadd hx hb dX7_readMove_16 ?_
  refine z_topi (y := nI (j + 1)) (nI_add j 1) ?_
  refine z_put (ci := 7) (ty := .int) (v := .int (nI (j + 1))) (C := RX7) (T := TX7) (N := 16) (ws' := [(q, .inr (7, [v0, .ref z, .int (nI n), v3, v4, v5, v6, v7, v8, v9, v10, v11, v12, v13, .int (nI (j + 1)), .int (nI o9)])), (z, .inl (G.2 1, 120, .inl v)), (r, .inl (G.2 1, 121, .inl (flt h b)))]) hx hb hts (by decide +kernel) tyX7 tyX7_ok nmX7 hown hK hM 0 rfl rfl 14 (by decide) (hts (.fieldLink RX7 167 "ShiftIslesModel" "spot" "I") (by decide +kernel)) (fun _ h9 => h9) rfl (by decide +kernel) rfl rfl (Nat.le_of_ble_eq_true rfl) dX7_readMove_17 rfl (fun H locs hM => ?_)
  refine lv_iload_n hx hb dX7_readMove_20 rfl (lv_at hl 0 rfl) ?_
  refine lv_bipush (v := 115) hx hb dX7_readMove_21 (by decide) ?_
  refine lv_icmp_ne (tgt := 32) hx hb dX7_readMove_23 (by decide) (fun c_1 => ?_) (fun c_1 => absurd (hs.symm.trans c_1) (by decide))
  refine lv_iload_n hx hb dX7_readMove_32 rfl (lv_at hl 0 rfl) ?_
  refine lv_bipush (v := 103) hx hb dX7_readMove_33 (by decide) ?_
  refine lv_icmp_ne (tgt := 85) hx hb dX7_readMove_35 (by decide) (fun c_2 => ?_) (fun c_2 => absurd (hs.symm.trans c_2) (by decide))
  refine lv_iload_n hx hb dX7_readMove_85 rfl (lv_at hl 0 rfl) ?_
  refine lv_bipush (v := 108) hx hb dX7_readMove_86 (by decide) ?_
  refine lv_icmp_ne (tgt := 137) hx hb dX7_readMove_88 (by decide) (fun c_3 => absurd hs c_3) (fun c_3 => ?_)
  refine lv_aload_n hx hb dX7_readMove_91 rfl (lv_at hl 1 rfl) ?_
  refine lv_iconst (v := 0) hx hb dX7_readMove_92 (by decide) ?_
  refine lv_iconst (v := 5) hx hb dX7_readMove_93 (by decide) ?_
  refine z_callV (As := [.int 0, .int 5]) (rest := []) (wc := [(q, .inr (7, [v0, .ref z, .int (nI n), v3, v4, v5, v6, v7, v8, v9, v10, v11, v12, v13, .int (nI (j + 1)), .int (nI o9)])), (z, .inl (G.2 1, 120, .inl v))]) (wr := [(r, .inl (G.2 1, 121, .inl (flt h b)))]) (w1 := [(q, .inr (7, [v0, .ref z, .int (nI n), v3, v4, v5, v6, v7, v8, v9, v10, v11, v12, v13, .int (nI (j + 1)), .int (nI o9)])), (z, .inl (G.2 1, 120, .inl v))]) (ws' := [(q, .inr (7, [v0, .ref z, .int (nI n), v3, v4, v5, v6, v7, v8, v9, v10, v11, v12, v13, .int (nI (j + 1)), .int (nI o9)])), (z, .inl (G.2 1, 120, .inl v)), (r, .inl (G.2 1, 121, .inl (flt h b)))]) ⟨hx, hb, hml, hown, hts⟩ (c_dig0 l G q v0 v3 v4 v5 v6 v7 v8 v9 v10 v11 v12 v13 (.int (nI o9)) z n (j + 1) v 0 5 hn (by omega) h1) (cwV 2 hts gX7_readMove_X7_digit rfl rfl rfl (by decide +kernel) ⟨Nat.le_of_ble_eq_true rfl, Nat.le_of_ble_eq_true rfl⟩) 7 rfl rfl rfl rfl hl.1 rfl (Nat.le_of_ble_eq_true rfl) dX7_readMove_94 ⟨Nat.le_of_ble_eq_true rfl, Nat.le_of_ble_eq_true rfl⟩ hK hE hA hM (pm_at 3 [0, 1] [2] rfl rfl rfl (by decide)) ((pm_at 3 [0, 1] [2] rfl rfl rfl (by decide))).symm (fun H locs hM hz => ?_)
  refine lv_istore_n (lv' := [(3, .int (-1)), (2, .int (v j)), (0, .ref q), (1, .ref r)]) hx hb dX7_readMove_97 rfl hl (by decide) rfl (fun ls hl => ?_)
  refine lv_iload_n hx hb dX7_readMove_98 rfl (lv_at hl 0 rfl) ?_
  refine lv_iconst (v := (-1)) hx hb dX7_readMove_99 (by decide) ?_
  refine lv_icmp_eq (tgt := 135) hx hb dX7_readMove_100 (by decide) (fun c_4 => ?_) (fun c_4 => absurd rfl c_4)
  refine lv_iconst (v := 0) hx hb dX7_readMove_135 (by decide) ?_
  exact z_zret hx hb hr hlocks dX7_readMove_136 hM (Nat.le_of_ble_eq_true rfl) (Nat.le_of_ble_eq_true rfl) (by first | exact Or.inl rfl | exact Or.inr rfl | exact zb_01 _) rfl

set_option maxHeartbeats 4000000 in
set_option maxRecDepth 100000 in
theorem c_rm10 (l : Launch) (G : zC) (q : Nat) (v0 v3 v4 v5 v6 v7 v8 v9 v10 v11 v12 v13 : Value) (z n j o9 : Nat) (v : Nat → Int32) (r : Nat) (h : Nat → Int32) (b : Nat → Nat → Int32) (P t S e0 : Nat) (hG : zGs h b P t S e0) (hn : n ≤ 120) (hjn : j < n) (hs : v j = 108) (k8 : Nat) (hk8 : k8 < 10) (e1 : zDg v n (j + 1) = nI k8) (h1 : zI0 (zDg v n (j + 1)).toInt64 (0 : Int32).toInt64 (5 : Int32).toInt64 = true) (hc : zMe h = true) : zMet l G yX7_readMove wsX7_readMove rmX7_readMove [.ref q, .ref r] ([(q, .inr (7, [v0, .ref z, .int (nI n), v3, v4, v5, v6, v7, v8, v9, v10, v11, v12, v13, .int (nI j), .int (nI o9)])), (z, .inl (G.2 1, 120, .inl v)), (r, .inl (G.2 1, 121, .inl (flt h b)))]) (some (.int 1)) ([(q, .inr (7, [v0, .ref z, .int (nI n), v3, v4, v5, v6, v7, v8, v9, v10, v11, v12, v13, .int (nI (j + 1 + 1)), .int (nI o9)])), (z, .inl (G.2 1, 120, .inl v)), (r, .inl (G.2 1, 121, .inl (flt (zEtH h (zLkB b t (nI k8)) t P) (zEtB h (zLkB b t (nI k8)) t P))))]) := by
  refine zMet_of (cc := cX7_readMove) (maxL := 4) (ret := (some .boolean)) (by decide) rfl (Nat.le_of_ble_eq_true rfl) ?_
  intro p e s m below meth c A ls hx hb hr hml hown hts hK hA hE hlocks hin hM hl
  have hown : s.vm.findClass RX7 = some m.cls := hown
  have hM : zM G A s s.heap [] ([(q, .inr (7, [v0, .ref z, .int (nI n), v3, v4, v5, v6, v7, v8, v9, v10, v11, v12, v13, .int (nI j), .int (nI o9)])), (z, .inl (G.2 1, 120, .inl v)), (r, .inl (G.2 1, 121, .inl (flt h b)))]) := hM
  have hl : lv_has ls 4 [(0, .ref q), (1, .ref r)] := hl
  have hP4 := hG.1.1.2.1
  have hP0 := zRu_P hG.1.1.1 hP4 (zMe_r hc)
  refine lv_aload_n hx hb dX7_readMove_0 rfl (lv_at hl 0 rfl) ?_
  refine z_get (ci := 7) (v := .ref z) (C := RX7) (T := TX7) (N := 16) hx hb hts (by decide +kernel) hown hK hM 0 rfl rfl 1 (by decide) (hts (.fieldLink RX7 7 "ShiftIslesModel" "text" "[I") (by decide +kernel)) (fun _ h9 => h9) rfl dX7_readMove_1 ?_
  refine lv_aload_n hx hb dX7_readMove_4 rfl (lv_at hl 0 rfl) ?_
  refine z_get (ci := 7) (v := .int (nI j)) (C := RX7) (T := TX7) (N := 16) hx hb hts (by decide +kernel) hown hK hM 0 rfl rfl 14 (by decide) (hts (.fieldLink RX7 167 "ShiftIslesModel" "spot" "I") (by decide +kernel)) (fun _ h9 => h9) rfl dX7_readMove_5 ?_
  refine z_iald hx hb hK hM 1 rfl (v := v j) (vp_in_nI (by omega) (by decide)) (by rw [nI_clamp (by omega)]) dX7_readMove_8 ?_
  refine lv_istore_n (lv' := [(2, .int (v j)), (0, .ref q), (1, .ref r)]) hx hb dX7_readMove_9 rfl hl (by decide) rfl (fun ls hl => ?_)
  refine lv_aload_n hx hb dX7_readMove_10 rfl (lv_at hl 1 rfl) ?_
  refine lv_dup hx hb dX7_readMove_11 rfl ?_
  refine z_get (ci := 7) (v := .int (nI j)) (C := RX7) (T := TX7) (N := 16) hx hb hts (by decide +kernel) hown hK hM 0 rfl rfl 14 (by decide) (hts (.fieldLink RX7 167 "ShiftIslesModel" "spot" "I") (by decide +kernel)) (fun _ h9 => h9) rfl dX7_readMove_12 ?_
  refine lv_iconst (v := nI 1) hx hb dX7_readMove_15 (by decide) ?_
  refine lv_iadd hx hb dX7_readMove_16 ?_
  refine z_topi (y := nI (j + 1)) (nI_add j 1) ?_
  refine z_put (ci := 7) (ty := .int) (v := .int (nI (j + 1))) (C := RX7) (T := TX7) (N := 16) (ws' := [(q, .inr (7, [v0, .ref z, .int (nI n), v3, v4, v5, v6, v7, v8, v9, v10, v11, v12, v13, .int (nI (j + 1)), .int (nI o9)])), (z, .inl (G.2 1, 120, .inl v)), (r, .inl (G.2 1, 121, .inl (flt h b)))]) hx hb hts (by decide +kernel) tyX7 tyX7_ok nmX7 hown hK hM 0 rfl rfl 14 (by decide) (hts (.fieldLink RX7 167 "ShiftIslesModel" "spot" "I") (by decide +kernel)) (fun _ h9 => h9) rfl (by decide +kernel) rfl rfl (Nat.le_of_ble_eq_true rfl) dX7_readMove_17 rfl (fun H locs hM => ?_)
  refine lv_iload_n hx hb dX7_readMove_20 rfl (lv_at hl 0 rfl) ?_
  refine lv_bipush (v := 115) hx hb dX7_readMove_21 (by decide) ?_
  refine lv_icmp_ne (tgt := 32) hx hb dX7_readMove_23 (by decide) (fun c_1 => ?_) (fun c_1 => absurd (hs.symm.trans c_1) (by decide))
  refine lv_iload_n hx hb dX7_readMove_32 rfl (lv_at hl 0 rfl) ?_
  refine lv_bipush (v := 103) hx hb dX7_readMove_33 (by decide) ?_
  refine lv_icmp_ne (tgt := 85) hx hb dX7_readMove_35 (by decide) (fun c_2 => ?_) (fun c_2 => absurd (hs.symm.trans c_2) (by decide))
  refine lv_iload_n hx hb dX7_readMove_85 rfl (lv_at hl 0 rfl) ?_
  refine lv_bipush (v := 108) hx hb dX7_readMove_86 (by decide) ?_
  refine lv_icmp_ne (tgt := 137) hx hb dX7_readMove_88 (by decide) (fun c_3 => absurd hs c_3) (fun c_3 => ?_)
  refine lv_aload_n hx hb dX7_readMove_91 rfl (lv_at hl 1 rfl) ?_
  refine lv_iconst (v := 0) hx hb dX7_readMove_92 (by decide) ?_
  refine lv_iconst (v := 5) hx hb dX7_readMove_93 (by decide) ?_
  refine z_callV (As := [.int 0, .int 5]) (rest := []) (wc := [(q, .inr (7, [v0, .ref z, .int (nI n), v3, v4, v5, v6, v7, v8, v9, v10, v11, v12, v13, .int (nI (j + 1)), .int (nI o9)])), (z, .inl (G.2 1, 120, .inl v))]) (wr := [(r, .inl (G.2 1, 121, .inl (flt h b)))]) (w1 := [(q, .inr (7, [v0, .ref z, .int (nI n), v3, v4, v5, v6, v7, v8, v9, v10, v11, v12, v13, .int (nI ((j + 1) + 1)), .int (nI o9)])), (z, .inl (G.2 1, 120, .inl v))]) (ws' := [(q, .inr (7, [v0, .ref z, .int (nI n), v3, v4, v5, v6, v7, v8, v9, v10, v11, v12, v13, .int (nI ((j + 1) + 1)), .int (nI o9)])), (z, .inl (G.2 1, 120, .inl v)), (r, .inl (G.2 1, 121, .inl (flt h b)))]) ⟨hx, hb, hml, hown, hts⟩ (c_dig1 l G q v0 v3 v4 v5 v6 v7 v8 v9 v10 v11 v12 v13 (.int (nI o9)) z n (j + 1) v 0 5 hn (by omega) h1) (cwV 2 hts gX7_readMove_X7_digit rfl rfl rfl (by decide +kernel) ⟨Nat.le_of_ble_eq_true rfl, Nat.le_of_ble_eq_true rfl⟩) 7 rfl rfl rfl rfl hl.1 rfl (Nat.le_of_ble_eq_true rfl) dX7_readMove_94 ⟨Nat.le_of_ble_eq_true rfl, Nat.le_of_ble_eq_true rfl⟩ hK hE hA hM (pm_at 3 [0, 1] [2] rfl rfl rfl (by decide)) ((pm_at 3 [0, 1] [2] rfl rfl rfl (by decide))).symm (fun H locs hM hz => ?_)
  refine z_topi (y := nI k8) e1 ?_
  refine lv_istore_n (lv' := [(3, .int (nI k8)), (2, .int (v j)), (0, .ref q), (1, .ref r)]) hx hb dX7_readMove_97 rfl hl (by decide) rfl (fun ls hl => ?_)
  refine lv_iload_n hx hb dX7_readMove_98 rfl (lv_at hl 0 rfl) ?_
  refine lv_iconst (v := (-1)) hx hb dX7_readMove_99 (by decide) ?_
  refine lv_icmp_eq (tgt := 135) hx hb dX7_readMove_100 (by decide) (fun c_4 => absurd c_4 (nI_m1 (by omega))) (fun c_4 => ?_)
  refine lv_aload_n hx hb dX7_readMove_103 rfl (lv_at hl 2 rfl) ?_
  refine lv_aload_n hx hb dX7_readMove_104 rfl (lv_at hl 3 rfl) ?_
  refine z_callS (As := [.ref r]) (rest := [.ref q]) (wc := rfW G r h b) (wr := [(q, .inr (7, [v0, .ref z, .int (nI n), v3, v4, v5, v6, v7, v8, v9, v10, v11, v12, v13, .int (nI ((j + 1) + 1)), .int (nI o9)])), (z, .inl (G.2 1, 120, .inl v))]) (w1 := rfW G r h b) (ws' := [(q, .inr (7, [v0, .ref z, .int (nI n), v3, v4, v5, v6, v7, v8, v9, v10, v11, v12, v13, .int (nI ((j + 1) + 1)), .int (nI o9)])), (z, .inl (G.2 1, 120, .inl v)), (r, .inl (G.2 1, 121, .inl (flt h b)))]) ⟨hx, hb, hml, hown, hts⟩ (c_canLock l G r h b P t S hG.1 ) (va_cwS 1 hts gX7_readMove_X7_canLock rfl rfl rfl (by decide +kernel) ⟨Nat.le_of_ble_eq_true rfl, Nat.le_of_ble_eq_true rfl⟩) rfl hl.1 rfl (Nat.le_of_ble_eq_true rfl) dX7_readMove_105 ⟨Nat.le_of_ble_eq_true rfl, Nat.le_of_ble_eq_true rfl⟩ hK hE hA hM (pm_at 3 [2] [0, 1] rfl rfl rfl (by decide)) ((pm_at 3 [2] [0, 1] rfl rfl rfl (by decide))).symm (fun H locs hM hz => ?_)
  refine z_ifeq (tgt := 124) hx hb dX7_readMove_108 (by decide) (fun c_5 => Bool.noConfusion (hc.symm.trans c_5)) (fun c_5 => ?_)
  refine lv_aload_n hx hb dX7_readMove_111 rfl (lv_at hl 3 rfl) ?_
  refine lv_iload_n hx hb dX7_readMove_112 rfl (lv_at hl 0 rfl) ?_
  refine z_callS (As := [.ref r, .int (nI k8)]) (rest := [.ref q]) (wc := rfW G r h b) (wr := [(q, .inr (7, [v0, .ref z, .int (nI n), v3, v4, v5, v6, v7, v8, v9, v10, v11, v12, v13, .int (nI ((j + 1) + 1)), .int (nI o9)])), (z, .inl (G.2 1, 120, .inl v))]) (w1 := [(r, .inl (G.2 1, 121, .inl (flt (zEtH h (zLkB b t (nI k8)) t P) (zEtB h (zLkB b t (nI k8)) t P))))]) (ws' := [(q, .inr (7, [v0, .ref z, .int (nI n), v3, v4, v5, v6, v7, v8, v9, v10, v11, v12, v13, .int (nI ((j + 1) + 1)), .int (nI o9)])), (z, .inl (G.2 1, 120, .inl v)), (r, .inl (G.2 1, 121, .inl (flt (zEtH h (zLkB b t (nI k8)) t P) (zEtB h (zLkB b t (nI k8)) t P))))]) ⟨hx, hb, hml, hown, hts⟩ (c_r_lockOn l G r h b P t S hG.1 hP0 (nI k8)) (va_cwS 2 hts gX7_readMove_X7_lockOn rfl rfl rfl (by decide +kernel) ⟨Nat.le_of_ble_eq_true rfl, Nat.le_of_ble_eq_true rfl⟩) rfl hl.1 rfl (Nat.le_of_ble_eq_true rfl) dX7_readMove_113 ⟨Nat.le_of_ble_eq_true rfl, Nat.le_of_ble_eq_true rfl⟩ hK hE hA hM (pm_at 3 [2] [0, 1] rfl rfl rfl (by decide)) ((pm_at 3 [2] [0, 1] rfl rfl rfl (by decide))).symm (fun H locs hM hz => ?_)
  refine lv_iconst (v := (-1)) hx hb dX7_readMove_116 (by decide) ?_
  refine lv_icmp_lt (tgt := 124) hx hb dX7_readMove_117 (by decide) (fun c_6 => absurd c_6 (zLk_ge hG (zMe_r hc))) (fun c_6 => ?_)
  refine lv_iconst (v := 1) hx hb dX7_readMove_120 (by decide) ?_
  refine lv_goto (tgt := 125) hx hb dX7_readMove_121 (by decide) ?_
  refine z_callV (As := [.int 1]) (rest := []) (wc := [(q, .inr (7, [v0, .ref z, .int (nI n), v3, v4, v5, v6, v7, v8, v9, v10, v11, v12, v13, .int (nI ((j + 1) + 1)), .int (nI o9)]))]) (wr := [(z, .inl (G.2 1, 120, .inl v)), (r, .inl (G.2 1, 121, .inl (flt (zEtH h (zLkB b t (nI k8)) t P) (zEtB h (zLkB b t (nI k8)) t P))))]) (w1 := [(q, .inr (7, [v0, .ref z, .int (nI n), v3, v4, v5, v6, v7, v8, v9, v10, v11, v12, v13, .int (nI ((j + 1) + 1)), .int (nI o9)]))]) (ws' := [(q, .inr (7, [v0, .ref z, .int (nI n), v3, v4, v5, v6, v7, v8, v9, v10, v11, v12, v13, .int (nI ((j + 1) + 1)), .int (nI o9)])), (z, .inl (G.2 1, 120, .inl v)), (r, .inl (G.2 1, 121, .inl (flt (zEtH h (zLkB b t (nI k8)) t P) (zEtB h (zLkB b t (nI k8)) t P))))]) ⟨hx, hb, hml, hown, hts⟩ (c_done1 l G q v0 (.ref z) (.int (nI n)) v3 v4 v5 v6 v7 v8 v9 v10 v11 v12 v13 (.int (nI ((j + 1) + 1))) o9) (cwV 1 hts gX7_readMove_X7_done rfl rfl rfl (by decide +kernel) ⟨Nat.le_of_ble_eq_true rfl, Nat.le_of_ble_eq_true rfl⟩) 7 rfl rfl rfl rfl hl.1 rfl (Nat.le_of_ble_eq_true rfl) dX7_readMove_125 ⟨Nat.le_of_ble_eq_true rfl, Nat.le_of_ble_eq_true rfl⟩ hK hE hA hM (pm_at 3 [0] [1, 2] rfl rfl rfl (by decide)) ((pm_at 3 [0] [1, 2] rfl rfl rfl (by decide))).symm (fun H locs hM hz => ?_)
  refine lv_if_eq (tgt := 135) hx hb dX7_readMove_128 (by decide) (fun c_7 => absurd c_7 (by decide)) (fun c_7 => ?_)
  refine lv_iconst (v := 1) hx hb dX7_readMove_131 (by decide) ?_
  refine lv_goto (tgt := 136) hx hb dX7_readMove_132 (by decide) ?_
  exact z_zret hx hb hr hlocks dX7_readMove_136 hM (Nat.le_of_ble_eq_true rfl) (Nat.le_of_ble_eq_true rfl) (by first | exact Or.inl rfl | exact Or.inr rfl | exact zb_01 _) rfl

set_option maxHeartbeats 4000000 in
set_option maxRecDepth 100000 in
theorem c_rm11 (l : Launch) (G : zC) (q : Nat) (v0 v3 v4 v5 v6 v7 v8 v9 v10 v11 v12 v13 : Value) (z n j o9 : Nat) (v : Nat → Int32) (r : Nat) (h : Nat → Int32) (b : Nat → Nat → Int32) (P t S e0 : Nat) (hG : zGs h b P t S e0) (hn : n ≤ 120) (hjn : j < n) (hs : v j = 108) (k8 : Nat) (hk8 : k8 < 10) (e1 : zDg v n (j + 1) = nI k8) (h1 : zI0 (zDg v n (j + 1)).toInt64 (0 : Int32).toInt64 (5 : Int32).toInt64 = true) (hc : zMe h = false) : zMet l G yX7_readMove wsX7_readMove rmX7_readMove [.ref q, .ref r] ([(q, .inr (7, [v0, .ref z, .int (nI n), v3, v4, v5, v6, v7, v8, v9, v10, v11, v12, v13, .int (nI j), .int (nI o9)])), (z, .inl (G.2 1, 120, .inl v)), (r, .inl (G.2 1, 121, .inl (flt h b)))]) (some (.int 1)) ([(q, .inr (7, [v0, .ref z, .int (nI n), v3, v4, v5, v6, v7, v8, v9, v10, v11, v12, v13, .int (nI (j + 1 + 1)), .int (nI (o9 + 1))])), (z, .inl (G.2 1, 120, .inl v)), (r, .inl (G.2 1, 121, .inl (flt h b)))]) := by
  refine zMet_of (cc := cX7_readMove) (maxL := 4) (ret := (some .boolean)) (by decide) rfl (Nat.le_of_ble_eq_true rfl) ?_
  intro p e s m below meth c A ls hx hb hr hml hown hts hK hA hE hlocks hin hM hl
  have hown : s.vm.findClass RX7 = some m.cls := hown
  have hM : zM G A s s.heap [] ([(q, .inr (7, [v0, .ref z, .int (nI n), v3, v4, v5, v6, v7, v8, v9, v10, v11, v12, v13, .int (nI j), .int (nI o9)])), (z, .inl (G.2 1, 120, .inl v)), (r, .inl (G.2 1, 121, .inl (flt h b)))]) := hM
  have hl : lv_has ls 4 [(0, .ref q), (1, .ref r)] := hl
  have hP4 := hG.1.1.2.1
  refine lv_aload_n hx hb dX7_readMove_0 rfl (lv_at hl 0 rfl) ?_
  refine z_get (ci := 7) (v := .ref z) (C := RX7) (T := TX7) (N := 16) hx hb hts (by decide +kernel) hown hK hM 0 rfl rfl 1 (by decide) (hts (.fieldLink RX7 7 "ShiftIslesModel" "text" "[I") (by decide +kernel)) (fun _ h9 => h9) rfl dX7_readMove_1 ?_
  refine lv_aload_n hx hb dX7_readMove_4 rfl (lv_at hl 0 rfl) ?_
  refine z_get (ci := 7) (v := .int (nI j)) (C := RX7) (T := TX7) (N := 16) hx hb hts (by decide +kernel) hown hK hM 0 rfl rfl 14 (by decide) (hts (.fieldLink RX7 167 "ShiftIslesModel" "spot" "I") (by decide +kernel)) (fun _ h9 => h9) rfl dX7_readMove_5 ?_
  refine z_iald hx hb hK hM 1 rfl (v := v j) (vp_in_nI (by omega) (by decide)) (by rw [nI_clamp (by omega)]) dX7_readMove_8 ?_
  refine lv_istore_n (lv' := [(2, .int (v j)), (0, .ref q), (1, .ref r)]) hx hb dX7_readMove_9 rfl hl (by decide) rfl (fun ls hl => ?_)
  refine lv_aload_n hx hb dX7_readMove_10 rfl (lv_at hl 1 rfl) ?_
  refine lv_dup hx hb dX7_readMove_11 rfl ?_
  refine z_get (ci := 7) (v := .int (nI j)) (C := RX7) (T := TX7) (N := 16) hx hb hts (by decide +kernel) hown hK hM 0 rfl rfl 14 (by decide) (hts (.fieldLink RX7 167 "ShiftIslesModel" "spot" "I") (by decide +kernel)) (fun _ h9 => h9) rfl dX7_readMove_12 ?_
  refine lv_iconst (v := nI 1) hx hb dX7_readMove_15 (by decide) ?_
  refine lv_iadd hx hb dX7_readMove_16 ?_
  refine z_topi (y := nI (j + 1)) (nI_add j 1) ?_
  refine z_put (ci := 7) (ty := .int) (v := .int (nI (j + 1))) (C := RX7) (T := TX7) (N := 16) (ws' := [(q, .inr (7, [v0, .ref z, .int (nI n), v3, v4, v5, v6, v7, v8, v9, v10, v11, v12, v13, .int (nI (j + 1)), .int (nI o9)])), (z, .inl (G.2 1, 120, .inl v)), (r, .inl (G.2 1, 121, .inl (flt h b)))]) hx hb hts (by decide +kernel) tyX7 tyX7_ok nmX7 hown hK hM 0 rfl rfl 14 (by decide) (hts (.fieldLink RX7 167 "ShiftIslesModel" "spot" "I") (by decide +kernel)) (fun _ h9 => h9) rfl (by decide +kernel) rfl rfl (Nat.le_of_ble_eq_true rfl) dX7_readMove_17 rfl (fun H locs hM => ?_)
  refine lv_iload_n hx hb dX7_readMove_20 rfl (lv_at hl 0 rfl) ?_
  refine lv_bipush (v := 115) hx hb dX7_readMove_21 (by decide) ?_
  refine lv_icmp_ne (tgt := 32) hx hb dX7_readMove_23 (by decide) (fun c_1 => ?_) (fun c_1 => absurd (hs.symm.trans c_1) (by decide))
  refine lv_iload_n hx hb dX7_readMove_32 rfl (lv_at hl 0 rfl) ?_
  refine lv_bipush (v := 103) hx hb dX7_readMove_33 (by decide) ?_
  refine lv_icmp_ne (tgt := 85) hx hb dX7_readMove_35 (by decide) (fun c_2 => ?_) (fun c_2 => absurd (hs.symm.trans c_2) (by decide))
  refine lv_iload_n hx hb dX7_readMove_85 rfl (lv_at hl 0 rfl) ?_
  refine lv_bipush (v := 108) hx hb dX7_readMove_86 (by decide) ?_
  refine lv_icmp_ne (tgt := 137) hx hb dX7_readMove_88 (by decide) (fun c_3 => absurd hs c_3) (fun c_3 => ?_)
  refine lv_aload_n hx hb dX7_readMove_91 rfl (lv_at hl 1 rfl) ?_
  refine lv_iconst (v := 0) hx hb dX7_readMove_92 (by decide) ?_
  refine lv_iconst (v := 5) hx hb dX7_readMove_93 (by decide) ?_
  refine z_callV (As := [.int 0, .int 5]) (rest := []) (wc := [(q, .inr (7, [v0, .ref z, .int (nI n), v3, v4, v5, v6, v7, v8, v9, v10, v11, v12, v13, .int (nI (j + 1)), .int (nI o9)])), (z, .inl (G.2 1, 120, .inl v))]) (wr := [(r, .inl (G.2 1, 121, .inl (flt h b)))]) (w1 := [(q, .inr (7, [v0, .ref z, .int (nI n), v3, v4, v5, v6, v7, v8, v9, v10, v11, v12, v13, .int (nI ((j + 1) + 1)), .int (nI o9)])), (z, .inl (G.2 1, 120, .inl v))]) (ws' := [(q, .inr (7, [v0, .ref z, .int (nI n), v3, v4, v5, v6, v7, v8, v9, v10, v11, v12, v13, .int (nI ((j + 1) + 1)), .int (nI o9)])), (z, .inl (G.2 1, 120, .inl v)), (r, .inl (G.2 1, 121, .inl (flt h b)))]) ⟨hx, hb, hml, hown, hts⟩ (c_dig1 l G q v0 v3 v4 v5 v6 v7 v8 v9 v10 v11 v12 v13 (.int (nI o9)) z n (j + 1) v 0 5 hn (by omega) h1) (cwV 2 hts gX7_readMove_X7_digit rfl rfl rfl (by decide +kernel) ⟨Nat.le_of_ble_eq_true rfl, Nat.le_of_ble_eq_true rfl⟩) 7 rfl rfl rfl rfl hl.1 rfl (Nat.le_of_ble_eq_true rfl) dX7_readMove_94 ⟨Nat.le_of_ble_eq_true rfl, Nat.le_of_ble_eq_true rfl⟩ hK hE hA hM (pm_at 3 [0, 1] [2] rfl rfl rfl (by decide)) ((pm_at 3 [0, 1] [2] rfl rfl rfl (by decide))).symm (fun H locs hM hz => ?_)
  refine z_topi (y := nI k8) e1 ?_
  refine lv_istore_n (lv' := [(3, .int (nI k8)), (2, .int (v j)), (0, .ref q), (1, .ref r)]) hx hb dX7_readMove_97 rfl hl (by decide) rfl (fun ls hl => ?_)
  refine lv_iload_n hx hb dX7_readMove_98 rfl (lv_at hl 0 rfl) ?_
  refine lv_iconst (v := (-1)) hx hb dX7_readMove_99 (by decide) ?_
  refine lv_icmp_eq (tgt := 135) hx hb dX7_readMove_100 (by decide) (fun c_4 => absurd c_4 (nI_m1 (by omega))) (fun c_4 => ?_)
  refine lv_aload_n hx hb dX7_readMove_103 rfl (lv_at hl 2 rfl) ?_
  refine lv_aload_n hx hb dX7_readMove_104 rfl (lv_at hl 3 rfl) ?_
  refine z_callS (As := [.ref r]) (rest := [.ref q]) (wc := rfW G r h b) (wr := [(q, .inr (7, [v0, .ref z, .int (nI n), v3, v4, v5, v6, v7, v8, v9, v10, v11, v12, v13, .int (nI ((j + 1) + 1)), .int (nI o9)])), (z, .inl (G.2 1, 120, .inl v))]) (w1 := rfW G r h b) (ws' := [(q, .inr (7, [v0, .ref z, .int (nI n), v3, v4, v5, v6, v7, v8, v9, v10, v11, v12, v13, .int (nI ((j + 1) + 1)), .int (nI o9)])), (z, .inl (G.2 1, 120, .inl v)), (r, .inl (G.2 1, 121, .inl (flt h b)))]) ⟨hx, hb, hml, hown, hts⟩ (c_canLock l G r h b P t S hG.1 ) (va_cwS 1 hts gX7_readMove_X7_canLock rfl rfl rfl (by decide +kernel) ⟨Nat.le_of_ble_eq_true rfl, Nat.le_of_ble_eq_true rfl⟩) rfl hl.1 rfl (Nat.le_of_ble_eq_true rfl) dX7_readMove_105 ⟨Nat.le_of_ble_eq_true rfl, Nat.le_of_ble_eq_true rfl⟩ hK hE hA hM (pm_at 3 [2] [0, 1] rfl rfl rfl (by decide)) ((pm_at 3 [2] [0, 1] rfl rfl rfl (by decide))).symm (fun H locs hM hz => ?_)
  refine z_ifeq (tgt := 124) hx hb dX7_readMove_108 (by decide) (fun c_5 => ?_) (fun c_5 => Bool.noConfusion (c_5.symm.trans hc))
  refine lv_iconst (v := 0) hx hb dX7_readMove_124 (by decide) ?_
  refine z_callV (As := [.int 0]) (rest := []) (wc := [(q, .inr (7, [v0, .ref z, .int (nI n), v3, v4, v5, v6, v7, v8, v9, v10, v11, v12, v13, .int (nI ((j + 1) + 1)), .int (nI o9)]))]) (wr := [(z, .inl (G.2 1, 120, .inl v)), (r, .inl (G.2 1, 121, .inl (flt h b)))]) (w1 := [(q, .inr (7, [v0, .ref z, .int (nI n), v3, v4, v5, v6, v7, v8, v9, v10, v11, v12, v13, .int (nI ((j + 1) + 1)), .int (nI (o9 + 1))]))]) (ws' := [(q, .inr (7, [v0, .ref z, .int (nI n), v3, v4, v5, v6, v7, v8, v9, v10, v11, v12, v13, .int (nI ((j + 1) + 1)), .int (nI (o9 + 1))])), (z, .inl (G.2 1, 120, .inl v)), (r, .inl (G.2 1, 121, .inl (flt h b)))]) ⟨hx, hb, hml, hown, hts⟩ (c_done0 l G q v0 (.ref z) (.int (nI n)) v3 v4 v5 v6 v7 v8 v9 v10 v11 v12 v13 (.int (nI ((j + 1) + 1))) o9) (cwV 1 hts gX7_readMove_X7_done rfl rfl rfl (by decide +kernel) ⟨Nat.le_of_ble_eq_true rfl, Nat.le_of_ble_eq_true rfl⟩) 7 rfl rfl rfl rfl hl.1 rfl (Nat.le_of_ble_eq_true rfl) dX7_readMove_125 ⟨Nat.le_of_ble_eq_true rfl, Nat.le_of_ble_eq_true rfl⟩ hK hE hA hM (pm_at 3 [0] [1, 2] rfl rfl rfl (by decide)) ((pm_at 3 [0] [1, 2] rfl rfl rfl (by decide))).symm (fun H locs hM hz => ?_)
  refine lv_if_eq (tgt := 135) hx hb dX7_readMove_128 (by decide) (fun c_6 => absurd c_6 (by decide)) (fun c_6 => ?_)
  refine lv_iconst (v := 1) hx hb dX7_readMove_131 (by decide) ?_
  refine lv_goto (tgt := 136) hx hb dX7_readMove_132 (by decide) ?_
  exact z_zret hx hb hr hlocks dX7_readMove_136 hM (Nat.le_of_ble_eq_true rfl) (Nat.le_of_ble_eq_true rfl) (by first | exact Or.inl rfl | exact Or.inr rfl | exact zb_01 _) rfl

set_option maxHeartbeats 4000000 in
set_option maxRecDepth 100000 in
theorem c_rm12 (l : Launch) (G : zC) (q : Nat) (v0 v3 v4 v5 v6 v7 v8 v9 v10 v11 v12 v13 : Value) (z n j o9 : Nat) (v : Nat → Int32) (r : Nat) (h : Nat → Int32) (b : Nat → Nat → Int32) (P t S e0 : Nat) (hG : zGs h b P t S e0) (hn : n ≤ 120) (hjn : j < n) (hs1 : ¬ v j = 115) (hs2 : ¬ v j = 103) (hs3 : ¬ v j = 108) : zMet l G yX7_readMove wsX7_readMove rmX7_readMove [.ref q, .ref r] ([(q, .inr (7, [v0, .ref z, .int (nI n), v3, v4, v5, v6, v7, v8, v9, v10, v11, v12, v13, .int (nI j), .int (nI o9)])), (z, .inl (G.2 1, 120, .inl v)), (r, .inl (G.2 1, 121, .inl (flt h b)))]) (some (.int 0)) ([(q, .inr (7, [v0, .ref z, .int (nI n), v3, v4, v5, v6, v7, v8, v9, v10, v11, v12, v13, .int (nI j), .int (nI o9)])), (z, .inl (G.2 1, 120, .inl v)), (r, .inl (G.2 1, 121, .inl (flt h b)))]) := by
  refine zMet_of (cc := cX7_readMove) (maxL := 4) (ret := (some .boolean)) (by decide) rfl (Nat.le_of_ble_eq_true rfl) ?_
  intro p e s m below meth c A ls hx hb hr hml hown hts hK hA hE hlocks hin hM hl
  have hown : s.vm.findClass RX7 = some m.cls := hown
  have hM : zM G A s s.heap [] ([(q, .inr (7, [v0, .ref z, .int (nI n), v3, v4, v5, v6, v7, v8, v9, v10, v11, v12, v13, .int (nI j), .int (nI o9)])), (z, .inl (G.2 1, 120, .inl v)), (r, .inl (G.2 1, 121, .inl (flt h b)))]) := hM
  have hl : lv_has ls 4 [(0, .ref q), (1, .ref r)] := hl
  have hP4 := hG.1.1.2.1
  refine lv_aload_n hx hb dX7_readMove_0 rfl (lv_at hl 0 rfl) ?_
  refine z_get (ci := 7) (v := .ref z) (C := RX7) (T := TX7) (N := 16) hx hb hts (by decide +kernel) hown hK hM 0 rfl rfl 1 (by decide) (hts (.fieldLink RX7 7 "ShiftIslesModel" "text" "[I") (by decide +kernel)) (fun _ h9 => h9) rfl dX7_readMove_1 ?_
  refine lv_aload_n hx hb dX7_readMove_4 rfl (lv_at hl 0 rfl) ?_
  refine z_get (ci := 7) (v := .int (nI j)) (C := RX7) (T := TX7) (N := 16) hx hb hts (by decide +kernel) hown hK hM 0 rfl rfl 14 (by decide) (hts (.fieldLink RX7 167 "ShiftIslesModel" "spot" "I") (by decide +kernel)) (fun _ h9 => h9) rfl dX7_readMove_5 ?_
  refine z_iald hx hb hK hM 1 rfl (v := v j) (vp_in_nI (by omega) (by decide)) (by rw [nI_clamp (by omega)]) dX7_readMove_8 ?_
  refine lv_istore_n (lv' := [(2, .int (v j)), (0, .ref q), (1, .ref r)]) hx hb dX7_readMove_9 rfl hl (by decide) rfl (fun ls hl => ?_)
  refine lv_aload_n hx hb dX7_readMove_10 rfl (lv_at hl 1 rfl) ?_
  refine lv_dup hx hb dX7_readMove_11 rfl ?_
  refine z_get (ci := 7) (v := .int (nI j)) (C := RX7) (T := TX7) (N := 16) hx hb hts (by decide +kernel) hown hK hM 0 rfl rfl 14 (by decide) (hts (.fieldLink RX7 167 "ShiftIslesModel" "spot" "I") (by decide +kernel)) (fun _ h9 => h9) rfl dX7_readMove_12 ?_
  refine lv_iconst (v := nI 1) hx hb dX7_readMove_15 (by decide) ?_
  refine lv_iadd hx hb dX7_readMove_16 ?_
  refine z_topi (y := nI (j + 1)) (nI_add j 1) ?_
  refine z_put (ci := 7) (ty := .int) (v := .int (nI (j + 1))) (C := RX7) (T := TX7) (N := 16) (ws' := [(q, .inr (7, [v0, .ref z, .int (nI n), v3, v4, v5, v6, v7, v8, v9, v10, v11, v12, v13, .int (nI (j + 1)), .int (nI o9)])), (z, .inl (G.2 1, 120, .inl v)), (r, .inl (G.2 1, 121, .inl (flt h b)))]) hx hb hts (by decide +kernel) tyX7 tyX7_ok nmX7 hown hK hM 0 rfl rfl 14 (by decide) (hts (.fieldLink RX7 167 "ShiftIslesModel" "spot" "I") (by decide +kernel)) (fun _ h9 => h9) rfl (by decide +kernel) rfl rfl (Nat.le_of_ble_eq_true rfl) dX7_readMove_17 rfl (fun H locs hM => ?_)
  refine lv_iload_n hx hb dX7_readMove_20 rfl (lv_at hl 0 rfl) ?_
  refine lv_bipush (v := 115) hx hb dX7_readMove_21 (by decide) ?_
  refine lv_icmp_ne (tgt := 32) hx hb dX7_readMove_23 (by decide) (fun c_1 => ?_) (fun c_1 => absurd c_1 hs1)
  refine lv_iload_n hx hb dX7_readMove_32 rfl (lv_at hl 0 rfl) ?_
  refine lv_bipush (v := 103) hx hb dX7_readMove_33 (by decide) ?_
  refine lv_icmp_ne (tgt := 85) hx hb dX7_readMove_35 (by decide) (fun c_2 => ?_) (fun c_2 => absurd c_2 hs2)
  refine lv_iload_n hx hb dX7_readMove_85 rfl (lv_at hl 0 rfl) ?_
  refine lv_bipush (v := 108) hx hb dX7_readMove_86 (by decide) ?_
  refine lv_icmp_ne (tgt := 137) hx hb dX7_readMove_88 (by decide) (fun c_3 => ?_) (fun c_3 => absurd c_3 hs3)
  refine lv_aload_n hx hb dX7_readMove_137 rfl (lv_at hl 1 rfl) ?_
  refine lv_dup hx hb dX7_readMove_138 rfl ?_
  refine z_get (ci := 7) (v := .int (nI (j + 1))) (C := RX7) (T := TX7) (N := 16) hx hb hts (by decide +kernel) hown hK hM 0 rfl rfl 14 (by decide) (hts (.fieldLink RX7 167 "ShiftIslesModel" "spot" "I") (by decide +kernel)) (fun _ h9 => h9) rfl dX7_readMove_139 ?_
  refine lv_iconst (v := 1) hx hb dX7_readMove_142 (by decide) ?_
  refine lv_isub hx hb dX7_readMove_143 ?_
  refine z_topi (y := nI ((j + 1) - 1)) (pk_sub (a := (j + 1)) (b := 1) (by omega)) ?_
  refine z_put (ci := 7) (ty := .int) (v := .int (nI ((j + 1) - 1))) (C := RX7) (T := TX7) (N := 16) (ws' := [(q, .inr (7, [v0, .ref z, .int (nI n), v3, v4, v5, v6, v7, v8, v9, v10, v11, v12, v13, .int (nI ((j + 1) - 1)), .int (nI o9)])), (z, .inl (G.2 1, 120, .inl v)), (r, .inl (G.2 1, 121, .inl (flt h b)))]) hx hb hts (by decide +kernel) tyX7 tyX7_ok nmX7 hown hK hM 0 rfl rfl 14 (by decide) (hts (.fieldLink RX7 167 "ShiftIslesModel" "spot" "I") (by decide +kernel)) (fun _ h9 => h9) rfl (by decide +kernel) rfl rfl (Nat.le_of_ble_eq_true rfl) dX7_readMove_144 rfl (fun H locs hM => ?_)
  refine lv_iconst (v := 0) hx hb dX7_readMove_147 (by decide) ?_
  exact z_zret hx hb hr hlocks dX7_readMove_148 hM (Nat.le_of_ble_eq_true rfl) (Nat.le_of_ble_eq_true rfl) (by first | exact Or.inl rfl | exact Or.inr rfl | exact zb_01 _) rfl
set_option maxHeartbeats 4000000 in
theorem c_readMove (l : Launch) (G : zC) (q : Nat) (v0 v3 v4 v5 v6 v7 v8 v9 v10 v11 v12 v13 : Value) (z n j o9 : Nat) (v : Nat → Int32) (r : Nat) (h : Nat → Int32) (b : Nat → Nat → Int32) (P t S e0 : Nat) (hG : zGs h b P t S e0) (hn : n ≤ 120) (hjn : j < n) (hv : zTu v) : zMet l G yX7_readMove wsX7_readMove rmX7_readMove [.ref q, .ref r] ([(q, .inr (7, [v0, .ref z, .int (nI n), v3, v4, v5, v6, v7, v8, v9, v10, v11, v12, v13, .int (nI j), .int (nI o9)])), (z, .inl (G.2 1, 120, .inl v)), (r, .inl (G.2 1, 121, .inl (flt h b)))]) (some (.int (zb (decide (zRd v n j = 0))))) ([(q, .inr (7, [v0, .ref z, .int (nI n), v3, v4, v5, v6, v7, v8, v9, v10, v11, v12, v13, .int (nI (zRmA v n j)), .int (nI ((zRmS v n j ((h, b), o9)).2))])), (z, .inl (G.2 1, 120, .inl v)), (r, .inl (G.2 1, 121, .inl (flt (zRmS v n j ((h, b), o9)).1.1 (zRmS v n j ((h, b), o9)).1.2)))]) := by
  have e3 := zWf_e hG.1
  by_cases hs : v j = 115
  · rcases zKy_d (i := j + 1) hv hn (by decide) zDg_5 with ⟨q5, h1⟩ | ⟨q5, hl5, h1, k8, hk8, e1, ek, _⟩
    · skip
      obtain ⟨a1, a2, a3⟩ := zRm_bad (q := j + 1) ((h, b), o9) (by unfold zRd; rw [if_pos hs, q5]; rfl)
      rw [a1, a2, a3]
      exact c_rm1 l G q v0 v3 v4 v5 v6 v7 v8 v9 v10 v11 v12 v13 z n j o9 v r h b P t S e0 hG hn hjn hs h1
    · rcases zKy_d (i := j + 1 + 1) hv hn (by decide) zDg_6 with ⟨q6, h2⟩ | ⟨q6, hl6, h2, l8, hl8, e2, em, _, hle⟩
      · skip
        obtain ⟨a1, a2, a3⟩ := zRm_bad (q := j + 1 + 1) ((h, b), o9) (by unfold zRd; rw [if_pos hs, if_pos q5, if_neg (by rw [q6]; decide)])
        rw [a1, a2, a3]
        exact c_rm2 l G q v0 v3 v4 v5 v6 v7 v8 v9 v10 v11 v12 v13 z n j o9 v r h b P t S e0 hG hn hjn hs k8 hk8 e1 h1 h2
      · have hl68 : l8 < 6 := Nat.not_le.mp (fun q => by have := nI_lt (a := 5) (b := l8) (by omega) (by omega); exact Int32.not_lt.mpr hle this)
        by_cases q7 : zKy v n 7 (j + 1 + 1 + 1) = true
        · obtain ⟨hlt, hx7⟩ := zKy_lt q7
          have h3 : v (j + 1 + 1 + 1) = 43 ∨ v (j + 1 + 1 + 1) = 45 := by
            rcases zDu_7 (k := v (j + 1 + 1 + 1)) with z9 | z9
            · exact z9.2.2
            · exact absurd z9.1 hx7
          by_cases hc : zMs h b k8 (nI l8) (zSn v (j + 1 + 1 + 1)) = true
          · skip
            obtain ⟨a1, a2, a3⟩ := zRm_ok ((h, b), o9) (show zRd v n j = 0 by unfold zRd; rw [if_pos hs, if_pos q5, if_pos q6, if_pos q7])
            rw [a1, a2, a3, show zTxS v n j ((h, b), o9) = ((zShH h, va_up b k8 (zMv (b k8) l8 (zSn v (j + 1 + 1 + 1)))), o9) by unfold zTxS; rw [zSa_lt hjn, if_pos hs, ek, show zDn v n (j + 2) = l8 from em]; exact if_pos hc, show zNj v j = j + 1 + 1 + 1 + 1 from if_pos hs]
            exact c_rm4 l G q v0 v3 v4 v5 v6 v7 v8 v9 v10 v11 v12 v13 z n j o9 v r h b P t S e0 hG hn hjn hs k8 hk8 e1 h1 l8 hl8 e2 h2 hlt h3 hl68 hc
          · skip
            obtain ⟨a1, a2, a3⟩ := zRm_ok ((h, b), o9) (show zRd v n j = 0 by unfold zRd; rw [if_pos hs, if_pos q5, if_pos q6, if_pos q7])
            rw [a1, a2, a3, show zTxS v n j ((h, b), o9) = ((h, b), o9 + 1) by unfold zTxS; rw [zSa_lt hjn, if_pos hs, ek, show zDn v n (j + 2) = l8 from em]; exact if_neg hc, show zNj v j = j + 1 + 1 + 1 + 1 from if_pos hs]
            exact c_rm5 l G q v0 v3 v4 v5 v6 v7 v8 v9 v10 v11 v12 v13 z n j o9 v r h b P t S e0 hG hn hjn hs k8 hk8 e1 h1 l8 hl8 e2 h2 hlt h3 hl68 (bfalse hc)
        · have h3 : ¬ (j + 1 + 1 + 1 < n ∧ (v (j + 1 + 1 + 1) = 43 ∨ v (j + 1 + 1 + 1) = 45)) := by
            rintro ⟨z8, z9⟩
            refine q7 ?_
            unfold zKy
            rw [decide_eq_true z8]
            rcases z9 with z9 | z9 <;> rw [z9] <;> decide
          obtain ⟨a1, a2, a3⟩ := zRm_bad (q := j + 1 + 1 + 1) ((h, b), o9) (by unfold zRd; rw [if_pos hs, if_pos q5, if_pos q6, if_neg q7])
          rw [a1, a2, a3]
          exact c_rm3 l G q v0 v3 v4 v5 v6 v7 v8 v9 v10 v11 v12 v13 z n j o9 v r h b P t S e0 hG hn hjn hs k8 hk8 e1 h1 l8 hl8 e2 h2 h3
  by_cases hs2 : v j = 103
  · rcases zKy_d (i := j + 1) hv hn (by decide) zDg_8 with ⟨q5, h1⟩ | ⟨q5, hl5, h1, k8, hk8, e1, ek, _, hle⟩
    · skip
      obtain ⟨a1, a2, a3⟩ := zRm_bad (q := j + 1) ((h, b), o9) (by unfold zRd; rw [if_neg hs, if_pos hs2, q5]; rfl)
      rw [a1, a2, a3]
      exact c_rm6 l G q v0 v3 v4 v5 v6 v7 v8 v9 v10 v11 v12 v13 z n j o9 v r h b P t S e0 hG hn hjn hs2 h1
    · have hk9 : k8 < 9 := Nat.not_le.mp (fun q => by have := nI_lt (a := 8) (b := k8) (by omega) (by omega); exact Int32.not_lt.mpr hle this)
      by_cases hc : zMg h b S t (nI k8) = true
      · skip
        obtain ⟨a1, a2, a3⟩ := zRm_ok ((h, b), o9) (show zRd v n j = 0 by unfold zRd; rw [if_neg hs, if_pos hs2, if_pos q5])
        rw [a1, a2, a3, show zTxS v n j ((h, b), o9) = ((zEtH h (zGoB b t k8) t P, zEtB h (zGoB b t k8) t P), o9) by unfold zTxS; rw [zSa_lt hjn, if_neg hs, if_pos hs2, ek]; exact (if_pos (by rw [e3.2.1, e3.2.2]; exact hc)).trans (by rw [zGoS_e hG.1]), show zNj v j = j + 1 + 1 from if_neg hs]
        exact c_rm7 l G q v0 v3 v4 v5 v6 v7 v8 v9 v10 v11 v12 v13 z n j o9 v r h b P t S e0 hG hn hjn hs2 k8 hk9 e1 h1 hc
      · skip
        obtain ⟨a1, a2, a3⟩ := zRm_ok ((h, b), o9) (show zRd v n j = 0 by unfold zRd; rw [if_neg hs, if_pos hs2, if_pos q5])
        rw [a1, a2, a3, show zTxS v n j ((h, b), o9) = ((h, b), o9 + 1) by unfold zTxS; rw [zSa_lt hjn, if_neg hs, if_pos hs2, ek]; exact if_neg (by rw [e3.2.1, e3.2.2]; exact hc), show zNj v j = j + 1 + 1 from if_neg hs]
        exact c_rm8 l G q v0 v3 v4 v5 v6 v7 v8 v9 v10 v11 v12 v13 z n j o9 v r h b P t S e0 hG hn hjn hs2 k8 hk9 e1 h1 (bfalse hc)
  by_cases hs3 : v j = 108
  · rcases zKy_d (i := j + 1) hv hn (by decide) zDg_9 with ⟨q5, h1⟩ | ⟨q5, hl5, h1, k8, hk8, e1, ek, _, hle⟩
    · skip
      obtain ⟨a1, a2, a3⟩ := zRm_bad (q := j + 1) ((h, b), o9) (by unfold zRd; rw [if_neg hs, if_neg hs2, if_pos hs3, q5]; rfl)
      rw [a1, a2, a3]
      exact c_rm9 l G q v0 v3 v4 v5 v6 v7 v8 v9 v10 v11 v12 v13 z n j o9 v r h b P t S e0 hG hn hjn hs3 h1
    · by_cases hc : zMe h = true
      · skip
        obtain ⟨a1, a2, a3⟩ := zRm_ok ((h, b), o9) (show zRd v n j = 0 by unfold zRd; rw [if_neg hs, if_neg hs2, if_pos hs3, if_pos q5])
        rw [a1, a2, a3, show zTxS v n j ((h, b), o9) = ((zEtH h (zLkB b t (nI k8)) t P, zEtB h (zLkB b t (nI k8)) t P), o9) by unfold zTxS; rw [zSa_lt hjn, if_neg hs, if_neg hs2, if_pos hs3, ek]; exact (if_pos hc).trans (by rw [zLkS_e hG.1]), show zNj v j = j + 1 + 1 from if_neg hs]
        exact c_rm10 l G q v0 v3 v4 v5 v6 v7 v8 v9 v10 v11 v12 v13 z n j o9 v r h b P t S e0 hG hn hjn hs3 k8 hk8 e1 h1 hc
      · skip
        obtain ⟨a1, a2, a3⟩ := zRm_ok ((h, b), o9) (show zRd v n j = 0 by unfold zRd; rw [if_neg hs, if_neg hs2, if_pos hs3, if_pos q5])
        rw [a1, a2, a3, show zTxS v n j ((h, b), o9) = ((h, b), o9 + 1) by unfold zTxS; rw [zSa_lt hjn, if_neg hs, if_neg hs2, if_pos hs3, ek]; exact if_neg hc, show zNj v j = j + 1 + 1 from if_neg hs]
        exact c_rm11 l G q v0 v3 v4 v5 v6 v7 v8 v9 v10 v11 v12 v13 z n j o9 v r h b P t S e0 hG hn hjn hs3 k8 hk8 e1 h1 (bfalse hc)
  obtain ⟨a1, a2, a3⟩ := zRm_bad (q := j) ((h, b), o9) (by unfold zRd; rw [if_neg hs, if_neg hs2, if_neg hs3])
  rw [a1, a2, a3]
  exact c_rm12 l G q v0 v3 v4 v5 v6 v7 v8 v9 v10 v11 v12 v13 z n j o9 v r h b P t S e0 hG hn hjn hs hs2 hs3

set_option maxHeartbeats 4000000 in
set_option maxRecDepth 100000 in
theorem c_rt0 (l : Launch) (G : zC) (q : Nat) (v0 v3 v4 v5 v6 v7 v8 v9 v10 v11 v12 : Value) (z n j9 o9 : Nat) (v F : Nat → Int32) (r : Nat) (x0 : Int64) (hn : n ≤ 120) (h0 : n = 0) : zMet l G yX7_readText wsX7_readText rmX7_readText [.ref q, .ref r] ([(q, .inr (7, [v0, .ref z, .int (nI n), v3, v4, v5, v6, v7, v8, v9, v10, v11, v12, .long x0, .int (nI j9), .int (nI o9)])), (z, .inl (G.2 1, 120, .inl v)), (r, .inl (G.2 1, 121, .inl F))]) (some (.int 0)) ([(q, .inr (7, [v0, .ref z, .int (nI n), v3, v4, v5, v6, v7, v8, v9, v10, v11, v12, .long x0, .int (nI 0), .int (nI 0)])), (z, .inl (G.2 1, 120, .inl v)), (r, .inl (G.2 1, 121, .inl (flt zClH (fun _ _ => 0))))]) := by
  refine zMet_of (cc := cX7_readText) (maxL := 5) (ret := (some .int)) (by decide) rfl (Nat.le_of_ble_eq_true rfl) ?_
  intro p e s m below meth c A ls hx hb hr hml hown hts hK hA hE hlocks hin hM hl
  have hown : s.vm.findClass RX7 = some m.cls := hown
  have hM : zM G A s s.heap [] ([(q, .inr (7, [v0, .ref z, .int (nI n), v3, v4, v5, v6, v7, v8, v9, v10, v11, v12, .long x0, .int (nI j9), .int (nI o9)])), (z, .inl (G.2 1, 120, .inl v)), (r, .inl (G.2 1, 121, .inl F))]) := hM
  have hl : lv_has ls 5 [(0, .ref q), (1, .ref r)] := hl
  refine lv_aload_n hx hb dX7_readText_0 rfl (lv_at hl 1 rfl) ?_
  refine z_callS (As := [.ref r]) (rest := []) (wc := [(r, .inl (G.2 1, 121, .inl F))]) (wr := [(q, .inr (7, [v0, .ref z, .int (nI n), v3, v4, v5, v6, v7, v8, v9, v10, v11, v12, .long x0, .int (nI j9), .int (nI o9)])), (z, .inl (G.2 1, 120, .inl v))]) (w1 := rfW G r zClH (fun _ _ => 0)) (ws' := [(q, .inr (7, [v0, .ref z, .int (nI n), v3, v4, v5, v6, v7, v8, v9, v10, v11, v12, .long x0, .int (nI j9), .int (nI o9)])), (z, .inl (G.2 1, 120, .inl v)), (r, .inl (G.2 1, 121, .inl (flt zClH (fun _ _ => 0))))]) ⟨hx, hb, hml, hown, hts⟩ (c_clear l G r F) (va_cwS 1 hts gX7_readText_X7_clear rfl rfl rfl (by decide +kernel) ⟨Nat.le_of_ble_eq_true rfl, Nat.le_of_ble_eq_true rfl⟩) rfl hl.1 rfl (Nat.le_of_ble_eq_true rfl) dX7_readText_1 ⟨Nat.le_of_ble_eq_true rfl, Nat.le_of_ble_eq_true rfl⟩ hK hE hA hM (pm_at 3 [2] [0, 1] rfl rfl rfl (by decide)) ((pm_at 3 [2] [0, 1] rfl rfl rfl (by decide))).symm (fun H locs hM hz => ?_)
  refine lv_aload_n hx hb dX7_readText_4 rfl (lv_at hl 0 rfl) ?_
  refine lv_iconst (v := nI 0) hx hb dX7_readText_5 (by decide) ?_
  refine z_put (ci := 7) (ty := .int) (v := .int (nI 0)) (C := RX7) (T := TX7) (N := 16) (ws' := [(q, .inr (7, [v0, .ref z, .int (nI n), v3, v4, v5, v6, v7, v8, v9, v10, v11, v12, .long x0, .int (nI j9), .int (nI 0)])), (z, .inl (G.2 1, 120, .inl v)), (r, .inl (G.2 1, 121, .inl (flt zClH (fun _ _ => 0))))]) hx hb hts (by decide +kernel) tyX7 tyX7_ok nmX7 hown hK hM 0 rfl rfl 15 (by decide) (hts (.fieldLink RX7 170 "ShiftIslesModel" "out" "I") (by decide +kernel)) (fun _ h9 => h9) rfl (by decide +kernel) rfl rfl (Nat.le_of_ble_eq_true rfl) dX7_readText_6 rfl (fun H locs hM => ?_)
  refine lv_aload_n hx hb dX7_readText_9 rfl (lv_at hl 0 rfl) ?_
  refine lv_iconst (v := nI 0) hx hb dX7_readText_10 (by decide) ?_
  refine z_put (ci := 7) (ty := .int) (v := .int (nI 0)) (C := RX7) (T := TX7) (N := 16) (ws' := [(q, .inr (7, [v0, .ref z, .int (nI n), v3, v4, v5, v6, v7, v8, v9, v10, v11, v12, .long x0, .int (nI 0), .int (nI 0)])), (z, .inl (G.2 1, 120, .inl v)), (r, .inl (G.2 1, 121, .inl (flt zClH (fun _ _ => 0))))]) hx hb hts (by decide +kernel) tyX7 tyX7_ok nmX7 hown hK hM 0 rfl rfl 14 (by decide) (hts (.fieldLink RX7 167 "ShiftIslesModel" "spot" "I") (by decide +kernel)) (fun _ h9 => h9) rfl (by decide +kernel) rfl rfl (Nat.le_of_ble_eq_true rfl) dX7_readText_11 rfl (fun H locs hM => ?_)
  refine lv_aload_n hx hb dX7_readText_14 rfl (lv_at hl 0 rfl) ?_
  refine z_get (ci := 7) (v := .int (nI n)) (C := RX7) (T := TX7) (N := 16) hx hb hts (by decide +kernel) hown hK hM 0 rfl rfl 2 (by decide) (hts (.fieldLink RX7 160 "ShiftIslesModel" "size" "I") (by decide +kernel)) (fun _ h9 => h9) rfl dX7_readText_15 ?_
  refine lv_if_eq (tgt := 32) hx hb dX7_readText_18 (by decide) (fun c_1 => ?_) (fun c_1 => absurd (by rw [h0]; rfl) c_1)
  refine lv_iconst (v := 0) hx hb dX7_readText_32 (by decide) ?_
  exact z_iret hx hb hr hlocks dX7_readText_33 hM (Nat.le_of_ble_eq_true rfl) (Nat.le_of_ble_eq_true rfl) rfl

set_option maxHeartbeats 4000000 in
set_option maxRecDepth 100000 in
theorem c_rt1 (l : Launch) (G : zC) (q : Nat) (v0 v3 v4 v5 v6 v7 v8 v9 v10 v11 v12 : Value) (z n j9 o9 : Nat) (v F : Nat → Int32) (r : Nat) (x0 : Int64) (hn : n ≤ 120) (h0 : 0 < n) (h1 : ¬ v 0 = 73) : zMet l G yX7_readText wsX7_readText rmX7_readText [.ref q, .ref r] ([(q, .inr (7, [v0, .ref z, .int (nI n), v3, v4, v5, v6, v7, v8, v9, v10, v11, v12, .long x0, .int (nI j9), .int (nI o9)])), (z, .inl (G.2 1, 120, .inl v)), (r, .inl (G.2 1, 121, .inl F))]) (some (.int 0)) ([(q, .inr (7, [v0, .ref z, .int (nI n), v3, v4, v5, v6, v7, v8, v9, v10, v11, v12, .long x0, .int (nI 0), .int (nI 0)])), (z, .inl (G.2 1, 120, .inl v)), (r, .inl (G.2 1, 121, .inl (flt zClH (fun _ _ => 0))))]) := by
  refine zMet_of (cc := cX7_readText) (maxL := 5) (ret := (some .int)) (by decide) rfl (Nat.le_of_ble_eq_true rfl) ?_
  intro p e s m below meth c A ls hx hb hr hml hown hts hK hA hE hlocks hin hM hl
  have hown : s.vm.findClass RX7 = some m.cls := hown
  have hM : zM G A s s.heap [] ([(q, .inr (7, [v0, .ref z, .int (nI n), v3, v4, v5, v6, v7, v8, v9, v10, v11, v12, .long x0, .int (nI j9), .int (nI o9)])), (z, .inl (G.2 1, 120, .inl v)), (r, .inl (G.2 1, 121, .inl F))]) := hM
  have hl : lv_has ls 5 [(0, .ref q), (1, .ref r)] := hl
  refine lv_aload_n hx hb dX7_readText_0 rfl (lv_at hl 1 rfl) ?_
  refine z_callS (As := [.ref r]) (rest := []) (wc := [(r, .inl (G.2 1, 121, .inl F))]) (wr := [(q, .inr (7, [v0, .ref z, .int (nI n), v3, v4, v5, v6, v7, v8, v9, v10, v11, v12, .long x0, .int (nI j9), .int (nI o9)])), (z, .inl (G.2 1, 120, .inl v))]) (w1 := rfW G r zClH (fun _ _ => 0)) (ws' := [(q, .inr (7, [v0, .ref z, .int (nI n), v3, v4, v5, v6, v7, v8, v9, v10, v11, v12, .long x0, .int (nI j9), .int (nI o9)])), (z, .inl (G.2 1, 120, .inl v)), (r, .inl (G.2 1, 121, .inl (flt zClH (fun _ _ => 0))))]) ⟨hx, hb, hml, hown, hts⟩ (c_clear l G r F) (va_cwS 1 hts gX7_readText_X7_clear rfl rfl rfl (by decide +kernel) ⟨Nat.le_of_ble_eq_true rfl, Nat.le_of_ble_eq_true rfl⟩) rfl hl.1 rfl (Nat.le_of_ble_eq_true rfl) dX7_readText_1 ⟨Nat.le_of_ble_eq_true rfl, Nat.le_of_ble_eq_true rfl⟩ hK hE hA hM (pm_at 3 [2] [0, 1] rfl rfl rfl (by decide)) ((pm_at 3 [2] [0, 1] rfl rfl rfl (by decide))).symm (fun H locs hM hz => ?_)
  refine lv_aload_n hx hb dX7_readText_4 rfl (lv_at hl 0 rfl) ?_
  refine lv_iconst (v := nI 0) hx hb dX7_readText_5 (by decide) ?_
  refine z_put (ci := 7) (ty := .int) (v := .int (nI 0)) (C := RX7) (T := TX7) (N := 16) (ws' := [(q, .inr (7, [v0, .ref z, .int (nI n), v3, v4, v5, v6, v7, v8, v9, v10, v11, v12, .long x0, .int (nI j9), .int (nI 0)])), (z, .inl (G.2 1, 120, .inl v)), (r, .inl (G.2 1, 121, .inl (flt zClH (fun _ _ => 0))))]) hx hb hts (by decide +kernel) tyX7 tyX7_ok nmX7 hown hK hM 0 rfl rfl 15 (by decide) (hts (.fieldLink RX7 170 "ShiftIslesModel" "out" "I") (by decide +kernel)) (fun _ h9 => h9) rfl (by decide +kernel) rfl rfl (Nat.le_of_ble_eq_true rfl) dX7_readText_6 rfl (fun H locs hM => ?_)
  refine lv_aload_n hx hb dX7_readText_9 rfl (lv_at hl 0 rfl) ?_
  refine lv_iconst (v := nI 0) hx hb dX7_readText_10 (by decide) ?_
  refine z_put (ci := 7) (ty := .int) (v := .int (nI 0)) (C := RX7) (T := TX7) (N := 16) (ws' := [(q, .inr (7, [v0, .ref z, .int (nI n), v3, v4, v5, v6, v7, v8, v9, v10, v11, v12, .long x0, .int (nI 0), .int (nI 0)])), (z, .inl (G.2 1, 120, .inl v)), (r, .inl (G.2 1, 121, .inl (flt zClH (fun _ _ => 0))))]) hx hb hts (by decide +kernel) tyX7 tyX7_ok nmX7 hown hK hM 0 rfl rfl 14 (by decide) (hts (.fieldLink RX7 167 "ShiftIslesModel" "spot" "I") (by decide +kernel)) (fun _ h9 => h9) rfl (by decide +kernel) rfl rfl (Nat.le_of_ble_eq_true rfl) dX7_readText_11 rfl (fun H locs hM => ?_)
  refine lv_aload_n hx hb dX7_readText_14 rfl (lv_at hl 0 rfl) ?_
  refine z_get (ci := 7) (v := .int (nI n)) (C := RX7) (T := TX7) (N := 16) hx hb hts (by decide +kernel) hown hK hM 0 rfl rfl 2 (by decide) (hts (.fieldLink RX7 160 "ShiftIslesModel" "size" "I") (by decide +kernel)) (fun _ h9 => h9) rfl dX7_readText_15 ?_
  refine lv_if_eq (tgt := 32) hx hb dX7_readText_18 (by decide) (fun c_1 => absurd ((nI_eq (a := n) (b := 0) (by omega) (by decide)).mp c_1) (by omega)) (fun c_1 => ?_)
  refine lv_aload_n hx hb dX7_readText_21 rfl (lv_at hl 0 rfl) ?_
  refine z_get (ci := 7) (v := .ref z) (C := RX7) (T := TX7) (N := 16) hx hb hts (by decide +kernel) hown hK hM 0 rfl rfl 1 (by decide) (hts (.fieldLink RX7 7 "ShiftIslesModel" "text" "[I") (by decide +kernel)) (fun _ h9 => h9) rfl dX7_readText_22 ?_
  refine lv_iconst (v := nI 0) hx hb dX7_readText_25 (by decide) ?_
  refine z_iald hx hb hK hM 1 rfl (v := v 0) (vp_in_nI (by omega) (by decide)) (by rw [nI_clamp (by omega)]) dX7_readText_26 ?_
  refine lv_bipush (v := 73) hx hb dX7_readText_27 (by decide) ?_
  refine lv_icmp_eq (tgt := 34) hx hb dX7_readText_29 (by decide) (fun c_2 => absurd c_2 h1) (fun c_2 => ?_)
  refine lv_iconst (v := 0) hx hb dX7_readText_32 (by decide) ?_
  exact z_iret hx hb hr hlocks dX7_readText_33 hM (Nat.le_of_ble_eq_true rfl) (Nat.le_of_ble_eq_true rfl) rfl

set_option maxHeartbeats 4000000 in
set_option maxRecDepth 100000 in
theorem c_rt2 (l : Launch) (G : zC) (q : Nat) (v0 v3 v4 v5 v6 v7 v8 v9 v10 v11 v12 : Value) (z n j9 o9 : Nat) (v F : Nat → Int32) (r : Nat) (x0 : Int64) (hn : n ≤ 120) (h0 : 0 < n) (h1 : v 0 = 73) (g1 : zI0 (zDg v n 1).toInt64 (2 : Int32).toInt64 (4 : Int32).toInt64 = false) : zMet l G yX7_readText wsX7_readText rmX7_readText [.ref q, .ref r] ([(q, .inr (7, [v0, .ref z, .int (nI n), v3, v4, v5, v6, v7, v8, v9, v10, v11, v12, .long x0, .int (nI j9), .int (nI o9)])), (z, .inl (G.2 1, 120, .inl v)), (r, .inl (G.2 1, 121, .inl F))]) (some (.int 1)) ([(q, .inr (7, [v0, .ref z, .int (nI n), v3, v4, v5, v6, v7, v8, v9, v10, v11, v12, .long x0, .int (nI 1), .int (nI 0)])), (z, .inl (G.2 1, 120, .inl v)), (r, .inl (G.2 1, 121, .inl (flt zClH (fun _ _ => 0))))]) := by
  refine zMet_of (cc := cX7_readText) (maxL := 5) (ret := (some .int)) (by decide) rfl (Nat.le_of_ble_eq_true rfl) ?_
  intro p e s m below meth c A ls hx hb hr hml hown hts hK hA hE hlocks hin hM hl
  have hown : s.vm.findClass RX7 = some m.cls := hown
  have hM : zM G A s s.heap [] ([(q, .inr (7, [v0, .ref z, .int (nI n), v3, v4, v5, v6, v7, v8, v9, v10, v11, v12, .long x0, .int (nI j9), .int (nI o9)])), (z, .inl (G.2 1, 120, .inl v)), (r, .inl (G.2 1, 121, .inl F))]) := hM
  have hl : lv_has ls 5 [(0, .ref q), (1, .ref r)] := hl
  refine lv_aload_n hx hb dX7_readText_0 rfl (lv_at hl 1 rfl) ?_
  refine z_callS (As := [.ref r]) (rest := []) (wc := [(r, .inl (G.2 1, 121, .inl F))]) (wr := [(q, .inr (7, [v0, .ref z, .int (nI n), v3, v4, v5, v6, v7, v8, v9, v10, v11, v12, .long x0, .int (nI j9), .int (nI o9)])), (z, .inl (G.2 1, 120, .inl v))]) (w1 := rfW G r zClH (fun _ _ => 0)) (ws' := [(q, .inr (7, [v0, .ref z, .int (nI n), v3, v4, v5, v6, v7, v8, v9, v10, v11, v12, .long x0, .int (nI j9), .int (nI o9)])), (z, .inl (G.2 1, 120, .inl v)), (r, .inl (G.2 1, 121, .inl (flt zClH (fun _ _ => 0))))]) ⟨hx, hb, hml, hown, hts⟩ (c_clear l G r F) (va_cwS 1 hts gX7_readText_X7_clear rfl rfl rfl (by decide +kernel) ⟨Nat.le_of_ble_eq_true rfl, Nat.le_of_ble_eq_true rfl⟩) rfl hl.1 rfl (Nat.le_of_ble_eq_true rfl) dX7_readText_1 ⟨Nat.le_of_ble_eq_true rfl, Nat.le_of_ble_eq_true rfl⟩ hK hE hA hM (pm_at 3 [2] [0, 1] rfl rfl rfl (by decide)) ((pm_at 3 [2] [0, 1] rfl rfl rfl (by decide))).symm (fun H locs hM hz => ?_)
  refine lv_aload_n hx hb dX7_readText_4 rfl (lv_at hl 0 rfl) ?_
  refine lv_iconst (v := nI 0) hx hb dX7_readText_5 (by decide) ?_
  refine z_put (ci := 7) (ty := .int) (v := .int (nI 0)) (C := RX7) (T := TX7) (N := 16) (ws' := [(q, .inr (7, [v0, .ref z, .int (nI n), v3, v4, v5, v6, v7, v8, v9, v10, v11, v12, .long x0, .int (nI j9), .int (nI 0)])), (z, .inl (G.2 1, 120, .inl v)), (r, .inl (G.2 1, 121, .inl (flt zClH (fun _ _ => 0))))]) hx hb hts (by decide +kernel) tyX7 tyX7_ok nmX7 hown hK hM 0 rfl rfl 15 (by decide) (hts (.fieldLink RX7 170 "ShiftIslesModel" "out" "I") (by decide +kernel)) (fun _ h9 => h9) rfl (by decide +kernel) rfl rfl (Nat.le_of_ble_eq_true rfl) dX7_readText_6 rfl (fun H locs hM => ?_)
  refine lv_aload_n hx hb dX7_readText_9 rfl (lv_at hl 0 rfl) ?_
  refine lv_iconst (v := nI 0) hx hb dX7_readText_10 (by decide) ?_
  refine z_put (ci := 7) (ty := .int) (v := .int (nI 0)) (C := RX7) (T := TX7) (N := 16) (ws' := [(q, .inr (7, [v0, .ref z, .int (nI n), v3, v4, v5, v6, v7, v8, v9, v10, v11, v12, .long x0, .int (nI 0), .int (nI 0)])), (z, .inl (G.2 1, 120, .inl v)), (r, .inl (G.2 1, 121, .inl (flt zClH (fun _ _ => 0))))]) hx hb hts (by decide +kernel) tyX7 tyX7_ok nmX7 hown hK hM 0 rfl rfl 14 (by decide) (hts (.fieldLink RX7 167 "ShiftIslesModel" "spot" "I") (by decide +kernel)) (fun _ h9 => h9) rfl (by decide +kernel) rfl rfl (Nat.le_of_ble_eq_true rfl) dX7_readText_11 rfl (fun H locs hM => ?_)
  refine lv_aload_n hx hb dX7_readText_14 rfl (lv_at hl 0 rfl) ?_
  refine z_get (ci := 7) (v := .int (nI n)) (C := RX7) (T := TX7) (N := 16) hx hb hts (by decide +kernel) hown hK hM 0 rfl rfl 2 (by decide) (hts (.fieldLink RX7 160 "ShiftIslesModel" "size" "I") (by decide +kernel)) (fun _ h9 => h9) rfl dX7_readText_15 ?_
  refine lv_if_eq (tgt := 32) hx hb dX7_readText_18 (by decide) (fun c_1 => absurd ((nI_eq (a := n) (b := 0) (by omega) (by decide)).mp c_1) (by omega)) (fun c_1 => ?_)
  refine lv_aload_n hx hb dX7_readText_21 rfl (lv_at hl 0 rfl) ?_
  refine z_get (ci := 7) (v := .ref z) (C := RX7) (T := TX7) (N := 16) hx hb hts (by decide +kernel) hown hK hM 0 rfl rfl 1 (by decide) (hts (.fieldLink RX7 7 "ShiftIslesModel" "text" "[I") (by decide +kernel)) (fun _ h9 => h9) rfl dX7_readText_22 ?_
  refine lv_iconst (v := nI 0) hx hb dX7_readText_25 (by decide) ?_
  refine z_iald hx hb hK hM 1 rfl (v := v 0) (vp_in_nI (by omega) (by decide)) (by rw [nI_clamp (by omega)]) dX7_readText_26 ?_
  refine lv_bipush (v := 73) hx hb dX7_readText_27 (by decide) ?_
  refine lv_icmp_eq (tgt := 34) hx hb dX7_readText_29 (by decide) (fun c_2 => ?_) (fun c_2 => absurd h1 c_2)
  refine lv_aload_n hx hb dX7_readText_34 rfl (lv_at hl 0 rfl) ?_
  refine lv_iconst (v := nI 1) hx hb dX7_readText_35 (by decide) ?_
  refine z_put (ci := 7) (ty := .int) (v := .int (nI 1)) (C := RX7) (T := TX7) (N := 16) (ws' := [(q, .inr (7, [v0, .ref z, .int (nI n), v3, v4, v5, v6, v7, v8, v9, v10, v11, v12, .long x0, .int (nI 1), .int (nI 0)])), (z, .inl (G.2 1, 120, .inl v)), (r, .inl (G.2 1, 121, .inl (flt zClH (fun _ _ => 0))))]) hx hb hts (by decide +kernel) tyX7 tyX7_ok nmX7 hown hK hM 0 rfl rfl 14 (by decide) (hts (.fieldLink RX7 167 "ShiftIslesModel" "spot" "I") (by decide +kernel)) (fun _ h9 => h9) rfl (by decide +kernel) rfl rfl (Nat.le_of_ble_eq_true rfl) dX7_readText_36 rfl (fun H locs hM => ?_)
  refine lv_aload_n hx hb dX7_readText_39 rfl (lv_at hl 0 rfl) ?_
  refine lv_iconst (v := 2) hx hb dX7_readText_40 (by decide) ?_
  refine lv_iconst (v := 4) hx hb dX7_readText_41 (by decide) ?_
  refine z_callV (As := [.int 2, .int 4]) (rest := []) (wc := [(q, .inr (7, [v0, .ref z, .int (nI n), v3, v4, v5, v6, v7, v8, v9, v10, v11, v12, .long x0, .int (nI 1), .int (nI 0)])), (z, .inl (G.2 1, 120, .inl v))]) (wr := [(r, .inl (G.2 1, 121, .inl (flt zClH (fun _ _ => 0))))]) (w1 := [(q, .inr (7, [v0, .ref z, .int (nI n), v3, v4, v5, v6, v7, v8, v9, v10, v11, v12, .long x0, .int (nI 1), .int (nI 0)])), (z, .inl (G.2 1, 120, .inl v))]) (ws' := [(q, .inr (7, [v0, .ref z, .int (nI n), v3, v4, v5, v6, v7, v8, v9, v10, v11, v12, .long x0, .int (nI 1), .int (nI 0)])), (z, .inl (G.2 1, 120, .inl v)), (r, .inl (G.2 1, 121, .inl (flt zClH (fun _ _ => 0))))]) ⟨hx, hb, hml, hown, hts⟩ (c_dig0 l G q v0 v3 v4 v5 v6 v7 v8 v9 v10 v11 v12 (.long x0) (.int (nI 0)) z n 1 v 2 4 hn (by omega) g1) (cwV 2 hts gX7_readText_X7_digit rfl rfl rfl (by decide +kernel) ⟨Nat.le_of_ble_eq_true rfl, Nat.le_of_ble_eq_true rfl⟩) 7 rfl rfl rfl rfl hl.1 rfl (Nat.le_of_ble_eq_true rfl) dX7_readText_42 ⟨Nat.le_of_ble_eq_true rfl, Nat.le_of_ble_eq_true rfl⟩ hK hE hA hM (pm_at 3 [0, 1] [2] rfl rfl rfl (by decide)) ((pm_at 3 [0, 1] [2] rfl rfl rfl (by decide))).symm (fun H locs hM hz => ?_)
  refine lv_istore_n (lv' := [(2, .int (-1)), (0, .ref q), (1, .ref r)]) hx hb dX7_readText_45 rfl hl (by decide) rfl (fun ls hl => ?_)
  refine lv_iload_n hx hb dX7_readText_46 rfl (lv_at hl 0 rfl) ?_
  refine lv_iconst (v := (-1)) hx hb dX7_readText_47 (by decide) ?_
  refine lv_icmp_ne (tgt := 55) hx hb dX7_readText_48 (by decide) (fun c_3 => absurd rfl c_3) (fun c_3 => ?_)
  refine lv_iconst (v := (-1)) hx hb dX7_readText_51 (by decide) ?_
  refine lv_goto (tgt := 62) hx hb dX7_readText_52 (by decide) ?_
  refine lv_istore_n (lv' := [(3, .int (-1)), (2, .int (-1)), (0, .ref q), (1, .ref r)]) hx hb dX7_readText_62 rfl hl (by decide) rfl (fun ls hl => ?_)
  refine lv_iload_n hx hb dX7_readText_63 rfl (lv_at hl 0 rfl) ?_
  refine lv_iconst (v := (-1)) hx hb dX7_readText_64 (by decide) ?_
  refine lv_icmp_ne (tgt := 72) hx hb dX7_readText_65 (by decide) (fun c_4 => absurd rfl c_4) (fun c_4 => ?_)
  refine lv_iconst (v := (-1)) hx hb dX7_readText_68 (by decide) ?_
  refine lv_goto (tgt := 79) hx hb dX7_readText_69 (by decide) ?_
  refine lv_istore (lv' := [(4, .int (-1)), (3, .int (-1)), (2, .int (-1)), (0, .ref q), (1, .ref r)]) hx hb dX7_readText_79 hl (by decide) rfl (fun ls hl => ?_)
  refine lv_iload hx hb dX7_readText_81 (lv_at hl 0 rfl) ?_
  refine lv_iconst (v := (-1)) hx hb dX7_readText_83 (by decide) ?_
  refine lv_icmp_ne (tgt := 92) hx hb dX7_readText_84 (by decide) (fun c_5 => absurd rfl c_5) (fun c_5 => ?_)
  refine lv_aload_n hx hb dX7_readText_87 rfl (lv_at hl 3 rfl) ?_
  refine z_get (ci := 7) (v := .int (nI 1)) (C := RX7) (T := TX7) (N := 16) hx hb hts (by decide +kernel) hown hK hM 0 rfl rfl 14 (by decide) (hts (.fieldLink RX7 167 "ShiftIslesModel" "spot" "I") (by decide +kernel)) (fun _ h9 => h9) rfl dX7_readText_88 ?_
  exact z_iret hx hb hr hlocks dX7_readText_91 hM (Nat.le_of_ble_eq_true rfl) (Nat.le_of_ble_eq_true rfl) rfl

set_option maxHeartbeats 4000000 in
set_option maxRecDepth 100000 in
theorem c_rt3 (l : Launch) (G : zC) (q : Nat) (v0 v3 v4 v5 v6 v7 v8 v9 v10 v11 v12 : Value) (z n j9 o9 : Nat) (v F : Nat → Int32) (r : Nat) (x0 : Int64) (hn : n ≤ 120) (h0 : 0 < n) (h1 : v 0 = 73) (k8 : Nat) (hk8 : k8 < 10) (e1 : zDg v n 1 = nI k8) (g1 : zI0 (zDg v n 1).toInt64 (2 : Int32).toInt64 (4 : Int32).toInt64 = true) (g2 : zI0 (zDg v n 2).toInt64 (0 : Int32).toInt64 (9 : Int32).toInt64 = false) : zMet l G yX7_readText wsX7_readText rmX7_readText [.ref q, .ref r] ([(q, .inr (7, [v0, .ref z, .int (nI n), v3, v4, v5, v6, v7, v8, v9, v10, v11, v12, .long x0, .int (nI j9), .int (nI o9)])), (z, .inl (G.2 1, 120, .inl v)), (r, .inl (G.2 1, 121, .inl F))]) (some (.int 2)) ([(q, .inr (7, [v0, .ref z, .int (nI n), v3, v4, v5, v6, v7, v8, v9, v10, v11, v12, .long x0, .int (nI 2), .int (nI 0)])), (z, .inl (G.2 1, 120, .inl v)), (r, .inl (G.2 1, 121, .inl (flt zClH (fun _ _ => 0))))]) := by
  refine zMet_of (cc := cX7_readText) (maxL := 5) (ret := (some .int)) (by decide) rfl (Nat.le_of_ble_eq_true rfl) ?_
  intro p e s m below meth c A ls hx hb hr hml hown hts hK hA hE hlocks hin hM hl
  have hown : s.vm.findClass RX7 = some m.cls := hown
  have hM : zM G A s s.heap [] ([(q, .inr (7, [v0, .ref z, .int (nI n), v3, v4, v5, v6, v7, v8, v9, v10, v11, v12, .long x0, .int (nI j9), .int (nI o9)])), (z, .inl (G.2 1, 120, .inl v)), (r, .inl (G.2 1, 121, .inl F))]) := hM
  have hl : lv_has ls 5 [(0, .ref q), (1, .ref r)] := hl
  refine lv_aload_n hx hb dX7_readText_0 rfl (lv_at hl 1 rfl) ?_
  refine z_callS (As := [.ref r]) (rest := []) (wc := [(r, .inl (G.2 1, 121, .inl F))]) (wr := [(q, .inr (7, [v0, .ref z, .int (nI n), v3, v4, v5, v6, v7, v8, v9, v10, v11, v12, .long x0, .int (nI j9), .int (nI o9)])), (z, .inl (G.2 1, 120, .inl v))]) (w1 := rfW G r zClH (fun _ _ => 0)) (ws' := [(q, .inr (7, [v0, .ref z, .int (nI n), v3, v4, v5, v6, v7, v8, v9, v10, v11, v12, .long x0, .int (nI j9), .int (nI o9)])), (z, .inl (G.2 1, 120, .inl v)), (r, .inl (G.2 1, 121, .inl (flt zClH (fun _ _ => 0))))]) ⟨hx, hb, hml, hown, hts⟩ (c_clear l G r F) (va_cwS 1 hts gX7_readText_X7_clear rfl rfl rfl (by decide +kernel) ⟨Nat.le_of_ble_eq_true rfl, Nat.le_of_ble_eq_true rfl⟩) rfl hl.1 rfl (Nat.le_of_ble_eq_true rfl) dX7_readText_1 ⟨Nat.le_of_ble_eq_true rfl, Nat.le_of_ble_eq_true rfl⟩ hK hE hA hM (pm_at 3 [2] [0, 1] rfl rfl rfl (by decide)) ((pm_at 3 [2] [0, 1] rfl rfl rfl (by decide))).symm (fun H locs hM hz => ?_)
  refine lv_aload_n hx hb dX7_readText_4 rfl (lv_at hl 0 rfl) ?_
  refine lv_iconst (v := nI 0) hx hb dX7_readText_5 (by decide) ?_
  refine z_put (ci := 7) (ty := .int) (v := .int (nI 0)) (C := RX7) (T := TX7) (N := 16) (ws' := [(q, .inr (7, [v0, .ref z, .int (nI n), v3, v4, v5, v6, v7, v8, v9, v10, v11, v12, .long x0, .int (nI j9), .int (nI 0)])), (z, .inl (G.2 1, 120, .inl v)), (r, .inl (G.2 1, 121, .inl (flt zClH (fun _ _ => 0))))]) hx hb hts (by decide +kernel) tyX7 tyX7_ok nmX7 hown hK hM 0 rfl rfl 15 (by decide) (hts (.fieldLink RX7 170 "ShiftIslesModel" "out" "I") (by decide +kernel)) (fun _ h9 => h9) rfl (by decide +kernel) rfl rfl (Nat.le_of_ble_eq_true rfl) dX7_readText_6 rfl (fun H locs hM => ?_)
  refine lv_aload_n hx hb dX7_readText_9 rfl (lv_at hl 0 rfl) ?_
  refine lv_iconst (v := nI 0) hx hb dX7_readText_10 (by decide) ?_
  refine z_put (ci := 7) (ty := .int) (v := .int (nI 0)) (C := RX7) (T := TX7) (N := 16) (ws' := [(q, .inr (7, [v0, .ref z, .int (nI n), v3, v4, v5, v6, v7, v8, v9, v10, v11, v12, .long x0, .int (nI 0), .int (nI 0)])), (z, .inl (G.2 1, 120, .inl v)), (r, .inl (G.2 1, 121, .inl (flt zClH (fun _ _ => 0))))]) hx hb hts (by decide +kernel) tyX7 tyX7_ok nmX7 hown hK hM 0 rfl rfl 14 (by decide) (hts (.fieldLink RX7 167 "ShiftIslesModel" "spot" "I") (by decide +kernel)) (fun _ h9 => h9) rfl (by decide +kernel) rfl rfl (Nat.le_of_ble_eq_true rfl) dX7_readText_11 rfl (fun H locs hM => ?_)
  refine lv_aload_n hx hb dX7_readText_14 rfl (lv_at hl 0 rfl) ?_
  refine z_get (ci := 7) (v := .int (nI n)) (C := RX7) (T := TX7) (N := 16) hx hb hts (by decide +kernel) hown hK hM 0 rfl rfl 2 (by decide) (hts (.fieldLink RX7 160 "ShiftIslesModel" "size" "I") (by decide +kernel)) (fun _ h9 => h9) rfl dX7_readText_15 ?_
  refine lv_if_eq (tgt := 32) hx hb dX7_readText_18 (by decide) (fun c_1 => absurd ((nI_eq (a := n) (b := 0) (by omega) (by decide)).mp c_1) (by omega)) (fun c_1 => ?_)
  refine lv_aload_n hx hb dX7_readText_21 rfl (lv_at hl 0 rfl) ?_
  refine z_get (ci := 7) (v := .ref z) (C := RX7) (T := TX7) (N := 16) hx hb hts (by decide +kernel) hown hK hM 0 rfl rfl 1 (by decide) (hts (.fieldLink RX7 7 "ShiftIslesModel" "text" "[I") (by decide +kernel)) (fun _ h9 => h9) rfl dX7_readText_22 ?_
  refine lv_iconst (v := nI 0) hx hb dX7_readText_25 (by decide) ?_
  refine z_iald hx hb hK hM 1 rfl (v := v 0) (vp_in_nI (by omega) (by decide)) (by rw [nI_clamp (by omega)]) dX7_readText_26 ?_
  refine lv_bipush (v := 73) hx hb dX7_readText_27 (by decide) ?_
  refine lv_icmp_eq (tgt := 34) hx hb dX7_readText_29 (by decide) (fun c_2 => ?_) (fun c_2 => absurd h1 c_2)
  refine lv_aload_n hx hb dX7_readText_34 rfl (lv_at hl 0 rfl) ?_
  refine lv_iconst (v := nI 1) hx hb dX7_readText_35 (by decide) ?_
  refine z_put (ci := 7) (ty := .int) (v := .int (nI 1)) (C := RX7) (T := TX7) (N := 16) (ws' := [(q, .inr (7, [v0, .ref z, .int (nI n), v3, v4, v5, v6, v7, v8, v9, v10, v11, v12, .long x0, .int (nI 1), .int (nI 0)])), (z, .inl (G.2 1, 120, .inl v)), (r, .inl (G.2 1, 121, .inl (flt zClH (fun _ _ => 0))))]) hx hb hts (by decide +kernel) tyX7 tyX7_ok nmX7 hown hK hM 0 rfl rfl 14 (by decide) (hts (.fieldLink RX7 167 "ShiftIslesModel" "spot" "I") (by decide +kernel)) (fun _ h9 => h9) rfl (by decide +kernel) rfl rfl (Nat.le_of_ble_eq_true rfl) dX7_readText_36 rfl (fun H locs hM => ?_)
  refine lv_aload_n hx hb dX7_readText_39 rfl (lv_at hl 0 rfl) ?_
  refine lv_iconst (v := 2) hx hb dX7_readText_40 (by decide) ?_
  refine lv_iconst (v := 4) hx hb dX7_readText_41 (by decide) ?_
  refine z_callV (As := [.int 2, .int 4]) (rest := []) (wc := [(q, .inr (7, [v0, .ref z, .int (nI n), v3, v4, v5, v6, v7, v8, v9, v10, v11, v12, .long x0, .int (nI 1), .int (nI 0)])), (z, .inl (G.2 1, 120, .inl v))]) (wr := [(r, .inl (G.2 1, 121, .inl (flt zClH (fun _ _ => 0))))]) (w1 := [(q, .inr (7, [v0, .ref z, .int (nI n), v3, v4, v5, v6, v7, v8, v9, v10, v11, v12, .long x0, .int (nI (1 + 1)), .int (nI 0)])), (z, .inl (G.2 1, 120, .inl v))]) (ws' := [(q, .inr (7, [v0, .ref z, .int (nI n), v3, v4, v5, v6, v7, v8, v9, v10, v11, v12, .long x0, .int (nI (1 + 1)), .int (nI 0)])), (z, .inl (G.2 1, 120, .inl v)), (r, .inl (G.2 1, 121, .inl (flt zClH (fun _ _ => 0))))]) ⟨hx, hb, hml, hown, hts⟩ (c_dig1 l G q v0 v3 v4 v5 v6 v7 v8 v9 v10 v11 v12 (.long x0) (.int (nI 0)) z n 1 v 2 4 hn (by omega) g1) (cwV 2 hts gX7_readText_X7_digit rfl rfl rfl (by decide +kernel) ⟨Nat.le_of_ble_eq_true rfl, Nat.le_of_ble_eq_true rfl⟩) 7 rfl rfl rfl rfl hl.1 rfl (Nat.le_of_ble_eq_true rfl) dX7_readText_42 ⟨Nat.le_of_ble_eq_true rfl, Nat.le_of_ble_eq_true rfl⟩ hK hE hA hM (pm_at 3 [0, 1] [2] rfl rfl rfl (by decide)) ((pm_at 3 [0, 1] [2] rfl rfl rfl (by decide))).symm (fun H locs hM hz => ?_)
  refine z_topi (y := nI k8) e1 ?_
  refine lv_istore_n (lv' := [(2, .int (nI k8)), (0, .ref q), (1, .ref r)]) hx hb dX7_readText_45 rfl hl (by decide) rfl (fun ls hl => ?_)
  refine lv_iload_n hx hb dX7_readText_46 rfl (lv_at hl 0 rfl) ?_
  refine lv_iconst (v := (-1)) hx hb dX7_readText_47 (by decide) ?_
  refine lv_icmp_ne (tgt := 55) hx hb dX7_readText_48 (by decide) (fun c_3 => ?_) (fun c_3 => absurd c_3 (nI_m1 (by omega)))
  refine lv_aload_n hx hb dX7_readText_55 rfl (lv_at hl 1 rfl) ?_
  refine lv_iconst (v := 0) hx hb dX7_readText_56 (by decide) ?_
  refine lv_bipush (v := 9) hx hb dX7_readText_57 (by decide) ?_
  refine z_callV (As := [.int 0, .int 9]) (rest := []) (wc := [(q, .inr (7, [v0, .ref z, .int (nI n), v3, v4, v5, v6, v7, v8, v9, v10, v11, v12, .long x0, .int (nI (1 + 1)), .int (nI 0)])), (z, .inl (G.2 1, 120, .inl v))]) (wr := [(r, .inl (G.2 1, 121, .inl (flt zClH (fun _ _ => 0))))]) (w1 := [(q, .inr (7, [v0, .ref z, .int (nI n), v3, v4, v5, v6, v7, v8, v9, v10, v11, v12, .long x0, .int (nI (1 + 1)), .int (nI 0)])), (z, .inl (G.2 1, 120, .inl v))]) (ws' := [(q, .inr (7, [v0, .ref z, .int (nI n), v3, v4, v5, v6, v7, v8, v9, v10, v11, v12, .long x0, .int (nI (1 + 1)), .int (nI 0)])), (z, .inl (G.2 1, 120, .inl v)), (r, .inl (G.2 1, 121, .inl (flt zClH (fun _ _ => 0))))]) ⟨hx, hb, hml, hown, hts⟩ (c_dig0 l G q v0 v3 v4 v5 v6 v7 v8 v9 v10 v11 v12 (.long x0) (.int (nI 0)) z n (1 + 1) v 0 9 hn (by omega) g2) (cwV 2 hts gX7_readText_X7_digit rfl rfl rfl (by decide +kernel) ⟨Nat.le_of_ble_eq_true rfl, Nat.le_of_ble_eq_true rfl⟩) 7 rfl rfl rfl rfl hl.1 rfl (Nat.le_of_ble_eq_true rfl) dX7_readText_59 ⟨Nat.le_of_ble_eq_true rfl, Nat.le_of_ble_eq_true rfl⟩ hK hE hA hM (pm_at 3 [0, 1] [2] rfl rfl rfl (by decide)) ((pm_at 3 [0, 1] [2] rfl rfl rfl (by decide))).symm (fun H locs hM hz => ?_)
  refine lv_istore_n (lv' := [(3, .int (-1)), (2, .int (nI k8)), (0, .ref q), (1, .ref r)]) hx hb dX7_readText_62 rfl hl (by decide) rfl (fun ls hl => ?_)
  refine lv_iload_n hx hb dX7_readText_63 rfl (lv_at hl 0 rfl) ?_
  refine lv_iconst (v := (-1)) hx hb dX7_readText_64 (by decide) ?_
  refine lv_icmp_ne (tgt := 72) hx hb dX7_readText_65 (by decide) (fun c_4 => absurd rfl c_4) (fun c_4 => ?_)
  refine lv_iconst (v := (-1)) hx hb dX7_readText_68 (by decide) ?_
  refine lv_goto (tgt := 79) hx hb dX7_readText_69 (by decide) ?_
  refine lv_istore (lv' := [(4, .int (-1)), (3, .int (-1)), (2, .int (nI k8)), (0, .ref q), (1, .ref r)]) hx hb dX7_readText_79 hl (by decide) rfl (fun ls hl => ?_)
  refine lv_iload hx hb dX7_readText_81 (lv_at hl 0 rfl) ?_
  refine lv_iconst (v := (-1)) hx hb dX7_readText_83 (by decide) ?_
  refine lv_icmp_ne (tgt := 92) hx hb dX7_readText_84 (by decide) (fun c_5 => absurd rfl c_5) (fun c_5 => ?_)
  refine lv_aload_n hx hb dX7_readText_87 rfl (lv_at hl 3 rfl) ?_
  refine z_get (ci := 7) (v := .int (nI (1 + 1))) (C := RX7) (T := TX7) (N := 16) hx hb hts (by decide +kernel) hown hK hM 0 rfl rfl 14 (by decide) (hts (.fieldLink RX7 167 "ShiftIslesModel" "spot" "I") (by decide +kernel)) (fun _ h9 => h9) rfl dX7_readText_88 ?_
  exact z_iret hx hb hr hlocks dX7_readText_91 hM (Nat.le_of_ble_eq_true rfl) (Nat.le_of_ble_eq_true rfl) rfl

set_option maxHeartbeats 4000000 in
set_option maxRecDepth 100000 in
theorem c_rt4 (l : Launch) (G : zC) (q : Nat) (v0 v3 v4 v5 v6 v7 v8 v9 v10 v11 v12 : Value) (z n j9 o9 : Nat) (v F : Nat → Int32) (r : Nat) (x0 : Int64) (hn : n ≤ 120) (h0 : 0 < n) (h1 : v 0 = 73) (k8 : Nat) (hk8 : k8 < 10) (e1 : zDg v n 1 = nI k8) (g1 : zI0 (zDg v n 1).toInt64 (2 : Int32).toInt64 (4 : Int32).toInt64 = true) (l8 : Nat) (hl8 : l8 < 10) (e2 : zDg v n 2 = nI l8) (g2 : zI0 (zDg v n 2).toInt64 (0 : Int32).toInt64 (9 : Int32).toInt64 = true) (g3 : zI0 (zDg v n 3).toInt64 (0 : Int32).toInt64 (9 : Int32).toInt64 = false) : zMet l G yX7_readText wsX7_readText rmX7_readText [.ref q, .ref r] ([(q, .inr (7, [v0, .ref z, .int (nI n), v3, v4, v5, v6, v7, v8, v9, v10, v11, v12, .long x0, .int (nI j9), .int (nI o9)])), (z, .inl (G.2 1, 120, .inl v)), (r, .inl (G.2 1, 121, .inl F))]) (some (.int 3)) ([(q, .inr (7, [v0, .ref z, .int (nI n), v3, v4, v5, v6, v7, v8, v9, v10, v11, v12, .long x0, .int (nI 3), .int (nI 0)])), (z, .inl (G.2 1, 120, .inl v)), (r, .inl (G.2 1, 121, .inl (flt zClH (fun _ _ => 0))))]) := by
  refine zMet_of (cc := cX7_readText) (maxL := 5) (ret := (some .int)) (by decide) rfl (Nat.le_of_ble_eq_true rfl) ?_
  intro p e s m below meth c A ls hx hb hr hml hown hts hK hA hE hlocks hin hM hl
  have hown : s.vm.findClass RX7 = some m.cls := hown
  have hM : zM G A s s.heap [] ([(q, .inr (7, [v0, .ref z, .int (nI n), v3, v4, v5, v6, v7, v8, v9, v10, v11, v12, .long x0, .int (nI j9), .int (nI o9)])), (z, .inl (G.2 1, 120, .inl v)), (r, .inl (G.2 1, 121, .inl F))]) := hM
  have hl : lv_has ls 5 [(0, .ref q), (1, .ref r)] := hl
  refine lv_aload_n hx hb dX7_readText_0 rfl (lv_at hl 1 rfl) ?_
  refine z_callS (As := [.ref r]) (rest := []) (wc := [(r, .inl (G.2 1, 121, .inl F))]) (wr := [(q, .inr (7, [v0, .ref z, .int (nI n), v3, v4, v5, v6, v7, v8, v9, v10, v11, v12, .long x0, .int (nI j9), .int (nI o9)])), (z, .inl (G.2 1, 120, .inl v))]) (w1 := rfW G r zClH (fun _ _ => 0)) (ws' := [(q, .inr (7, [v0, .ref z, .int (nI n), v3, v4, v5, v6, v7, v8, v9, v10, v11, v12, .long x0, .int (nI j9), .int (nI o9)])), (z, .inl (G.2 1, 120, .inl v)), (r, .inl (G.2 1, 121, .inl (flt zClH (fun _ _ => 0))))]) ⟨hx, hb, hml, hown, hts⟩ (c_clear l G r F) (va_cwS 1 hts gX7_readText_X7_clear rfl rfl rfl (by decide +kernel) ⟨Nat.le_of_ble_eq_true rfl, Nat.le_of_ble_eq_true rfl⟩) rfl hl.1 rfl (Nat.le_of_ble_eq_true rfl) dX7_readText_1 ⟨Nat.le_of_ble_eq_true rfl, Nat.le_of_ble_eq_true rfl⟩ hK hE hA hM (pm_at 3 [2] [0, 1] rfl rfl rfl (by decide)) ((pm_at 3 [2] [0, 1] rfl rfl rfl (by decide))).symm (fun H locs hM hz => ?_)
  refine lv_aload_n hx hb dX7_readText_4 rfl (lv_at hl 0 rfl) ?_
  refine lv_iconst (v := nI 0) hx hb dX7_readText_5 (by decide) ?_
  refine z_put (ci := 7) (ty := .int) (v := .int (nI 0)) (C := RX7) (T := TX7) (N := 16) (ws' := [(q, .inr (7, [v0, .ref z, .int (nI n), v3, v4, v5, v6, v7, v8, v9, v10, v11, v12, .long x0, .int (nI j9), .int (nI 0)])), (z, .inl (G.2 1, 120, .inl v)), (r, .inl (G.2 1, 121, .inl (flt zClH (fun _ _ => 0))))]) hx hb hts (by decide +kernel) tyX7 tyX7_ok nmX7 hown hK hM 0 rfl rfl 15 (by decide) (hts (.fieldLink RX7 170 "ShiftIslesModel" "out" "I") (by decide +kernel)) (fun _ h9 => h9) rfl (by decide +kernel) rfl rfl (Nat.le_of_ble_eq_true rfl) dX7_readText_6 rfl (fun H locs hM => ?_)
  refine lv_aload_n hx hb dX7_readText_9 rfl (lv_at hl 0 rfl) ?_
  refine lv_iconst (v := nI 0) hx hb dX7_readText_10 (by decide) ?_
  refine z_put (ci := 7) (ty := .int) (v := .int (nI 0)) (C := RX7) (T := TX7) (N := 16) (ws' := [(q, .inr (7, [v0, .ref z, .int (nI n), v3, v4, v5, v6, v7, v8, v9, v10, v11, v12, .long x0, .int (nI 0), .int (nI 0)])), (z, .inl (G.2 1, 120, .inl v)), (r, .inl (G.2 1, 121, .inl (flt zClH (fun _ _ => 0))))]) hx hb hts (by decide +kernel) tyX7 tyX7_ok nmX7 hown hK hM 0 rfl rfl 14 (by decide) (hts (.fieldLink RX7 167 "ShiftIslesModel" "spot" "I") (by decide +kernel)) (fun _ h9 => h9) rfl (by decide +kernel) rfl rfl (Nat.le_of_ble_eq_true rfl) dX7_readText_11 rfl (fun H locs hM => ?_)
  refine lv_aload_n hx hb dX7_readText_14 rfl (lv_at hl 0 rfl) ?_
  refine z_get (ci := 7) (v := .int (nI n)) (C := RX7) (T := TX7) (N := 16) hx hb hts (by decide +kernel) hown hK hM 0 rfl rfl 2 (by decide) (hts (.fieldLink RX7 160 "ShiftIslesModel" "size" "I") (by decide +kernel)) (fun _ h9 => h9) rfl dX7_readText_15 ?_
  refine lv_if_eq (tgt := 32) hx hb dX7_readText_18 (by decide) (fun c_1 => absurd ((nI_eq (a := n) (b := 0) (by omega) (by decide)).mp c_1) (by omega)) (fun c_1 => ?_)
  refine lv_aload_n hx hb dX7_readText_21 rfl (lv_at hl 0 rfl) ?_
  refine z_get (ci := 7) (v := .ref z) (C := RX7) (T := TX7) (N := 16) hx hb hts (by decide +kernel) hown hK hM 0 rfl rfl 1 (by decide) (hts (.fieldLink RX7 7 "ShiftIslesModel" "text" "[I") (by decide +kernel)) (fun _ h9 => h9) rfl dX7_readText_22 ?_
  refine lv_iconst (v := nI 0) hx hb dX7_readText_25 (by decide) ?_
  refine z_iald hx hb hK hM 1 rfl (v := v 0) (vp_in_nI (by omega) (by decide)) (by rw [nI_clamp (by omega)]) dX7_readText_26 ?_
  refine lv_bipush (v := 73) hx hb dX7_readText_27 (by decide) ?_
  refine lv_icmp_eq (tgt := 34) hx hb dX7_readText_29 (by decide) (fun c_2 => ?_) (fun c_2 => absurd h1 c_2)
  refine lv_aload_n hx hb dX7_readText_34 rfl (lv_at hl 0 rfl) ?_
  refine lv_iconst (v := nI 1) hx hb dX7_readText_35 (by decide) ?_
  refine z_put (ci := 7) (ty := .int) (v := .int (nI 1)) (C := RX7) (T := TX7) (N := 16) (ws' := [(q, .inr (7, [v0, .ref z, .int (nI n), v3, v4, v5, v6, v7, v8, v9, v10, v11, v12, .long x0, .int (nI 1), .int (nI 0)])), (z, .inl (G.2 1, 120, .inl v)), (r, .inl (G.2 1, 121, .inl (flt zClH (fun _ _ => 0))))]) hx hb hts (by decide +kernel) tyX7 tyX7_ok nmX7 hown hK hM 0 rfl rfl 14 (by decide) (hts (.fieldLink RX7 167 "ShiftIslesModel" "spot" "I") (by decide +kernel)) (fun _ h9 => h9) rfl (by decide +kernel) rfl rfl (Nat.le_of_ble_eq_true rfl) dX7_readText_36 rfl (fun H locs hM => ?_)
  refine lv_aload_n hx hb dX7_readText_39 rfl (lv_at hl 0 rfl) ?_
  refine lv_iconst (v := 2) hx hb dX7_readText_40 (by decide) ?_
  refine lv_iconst (v := 4) hx hb dX7_readText_41 (by decide) ?_
  refine z_callV (As := [.int 2, .int 4]) (rest := []) (wc := [(q, .inr (7, [v0, .ref z, .int (nI n), v3, v4, v5, v6, v7, v8, v9, v10, v11, v12, .long x0, .int (nI 1), .int (nI 0)])), (z, .inl (G.2 1, 120, .inl v))]) (wr := [(r, .inl (G.2 1, 121, .inl (flt zClH (fun _ _ => 0))))]) (w1 := [(q, .inr (7, [v0, .ref z, .int (nI n), v3, v4, v5, v6, v7, v8, v9, v10, v11, v12, .long x0, .int (nI (1 + 1)), .int (nI 0)])), (z, .inl (G.2 1, 120, .inl v))]) (ws' := [(q, .inr (7, [v0, .ref z, .int (nI n), v3, v4, v5, v6, v7, v8, v9, v10, v11, v12, .long x0, .int (nI (1 + 1)), .int (nI 0)])), (z, .inl (G.2 1, 120, .inl v)), (r, .inl (G.2 1, 121, .inl (flt zClH (fun _ _ => 0))))]) ⟨hx, hb, hml, hown, hts⟩ (c_dig1 l G q v0 v3 v4 v5 v6 v7 v8 v9 v10 v11 v12 (.long x0) (.int (nI 0)) z n 1 v 2 4 hn (by omega) g1) (cwV 2 hts gX7_readText_X7_digit rfl rfl rfl (by decide +kernel) ⟨Nat.le_of_ble_eq_true rfl, Nat.le_of_ble_eq_true rfl⟩) 7 rfl rfl rfl rfl hl.1 rfl (Nat.le_of_ble_eq_true rfl) dX7_readText_42 ⟨Nat.le_of_ble_eq_true rfl, Nat.le_of_ble_eq_true rfl⟩ hK hE hA hM (pm_at 3 [0, 1] [2] rfl rfl rfl (by decide)) ((pm_at 3 [0, 1] [2] rfl rfl rfl (by decide))).symm (fun H locs hM hz => ?_)
  refine z_topi (y := nI k8) e1 ?_
  refine lv_istore_n (lv' := [(2, .int (nI k8)), (0, .ref q), (1, .ref r)]) hx hb dX7_readText_45 rfl hl (by decide) rfl (fun ls hl => ?_)
  refine lv_iload_n hx hb dX7_readText_46 rfl (lv_at hl 0 rfl) ?_
  refine lv_iconst (v := (-1)) hx hb dX7_readText_47 (by decide) ?_
  refine lv_icmp_ne (tgt := 55) hx hb dX7_readText_48 (by decide) (fun c_3 => ?_) (fun c_3 => absurd c_3 (nI_m1 (by omega)))
  refine lv_aload_n hx hb dX7_readText_55 rfl (lv_at hl 1 rfl) ?_
  refine lv_iconst (v := 0) hx hb dX7_readText_56 (by decide) ?_
  refine lv_bipush (v := 9) hx hb dX7_readText_57 (by decide) ?_
  refine z_callV (As := [.int 0, .int 9]) (rest := []) (wc := [(q, .inr (7, [v0, .ref z, .int (nI n), v3, v4, v5, v6, v7, v8, v9, v10, v11, v12, .long x0, .int (nI (1 + 1)), .int (nI 0)])), (z, .inl (G.2 1, 120, .inl v))]) (wr := [(r, .inl (G.2 1, 121, .inl (flt zClH (fun _ _ => 0))))]) (w1 := [(q, .inr (7, [v0, .ref z, .int (nI n), v3, v4, v5, v6, v7, v8, v9, v10, v11, v12, .long x0, .int (nI ((1 + 1) + 1)), .int (nI 0)])), (z, .inl (G.2 1, 120, .inl v))]) (ws' := [(q, .inr (7, [v0, .ref z, .int (nI n), v3, v4, v5, v6, v7, v8, v9, v10, v11, v12, .long x0, .int (nI ((1 + 1) + 1)), .int (nI 0)])), (z, .inl (G.2 1, 120, .inl v)), (r, .inl (G.2 1, 121, .inl (flt zClH (fun _ _ => 0))))]) ⟨hx, hb, hml, hown, hts⟩ (c_dig1 l G q v0 v3 v4 v5 v6 v7 v8 v9 v10 v11 v12 (.long x0) (.int (nI 0)) z n (1 + 1) v 0 9 hn (by omega) g2) (cwV 2 hts gX7_readText_X7_digit rfl rfl rfl (by decide +kernel) ⟨Nat.le_of_ble_eq_true rfl, Nat.le_of_ble_eq_true rfl⟩) 7 rfl rfl rfl rfl hl.1 rfl (Nat.le_of_ble_eq_true rfl) dX7_readText_59 ⟨Nat.le_of_ble_eq_true rfl, Nat.le_of_ble_eq_true rfl⟩ hK hE hA hM (pm_at 3 [0, 1] [2] rfl rfl rfl (by decide)) ((pm_at 3 [0, 1] [2] rfl rfl rfl (by decide))).symm (fun H locs hM hz => ?_)
  refine z_topi (y := nI l8) e2 ?_
  refine lv_istore_n (lv' := [(3, .int (nI l8)), (2, .int (nI k8)), (0, .ref q), (1, .ref r)]) hx hb dX7_readText_62 rfl hl (by decide) rfl (fun ls hl => ?_)
  refine lv_iload_n hx hb dX7_readText_63 rfl (lv_at hl 0 rfl) ?_
  refine lv_iconst (v := (-1)) hx hb dX7_readText_64 (by decide) ?_
  refine lv_icmp_ne (tgt := 72) hx hb dX7_readText_65 (by decide) (fun c_4 => ?_) (fun c_4 => absurd c_4 (nI_m1 (by omega)))
  refine lv_aload_n hx hb dX7_readText_72 rfl (lv_at hl 2 rfl) ?_
  refine lv_iconst (v := 0) hx hb dX7_readText_73 (by decide) ?_
  refine lv_bipush (v := 9) hx hb dX7_readText_74 (by decide) ?_
  refine z_callV (As := [.int 0, .int 9]) (rest := []) (wc := [(q, .inr (7, [v0, .ref z, .int (nI n), v3, v4, v5, v6, v7, v8, v9, v10, v11, v12, .long x0, .int (nI ((1 + 1) + 1)), .int (nI 0)])), (z, .inl (G.2 1, 120, .inl v))]) (wr := [(r, .inl (G.2 1, 121, .inl (flt zClH (fun _ _ => 0))))]) (w1 := [(q, .inr (7, [v0, .ref z, .int (nI n), v3, v4, v5, v6, v7, v8, v9, v10, v11, v12, .long x0, .int (nI ((1 + 1) + 1)), .int (nI 0)])), (z, .inl (G.2 1, 120, .inl v))]) (ws' := [(q, .inr (7, [v0, .ref z, .int (nI n), v3, v4, v5, v6, v7, v8, v9, v10, v11, v12, .long x0, .int (nI ((1 + 1) + 1)), .int (nI 0)])), (z, .inl (G.2 1, 120, .inl v)), (r, .inl (G.2 1, 121, .inl (flt zClH (fun _ _ => 0))))]) ⟨hx, hb, hml, hown, hts⟩ (c_dig0 l G q v0 v3 v4 v5 v6 v7 v8 v9 v10 v11 v12 (.long x0) (.int (nI 0)) z n ((1 + 1) + 1) v 0 9 hn (by omega) g3) (cwV 2 hts gX7_readText_X7_digit rfl rfl rfl (by decide +kernel) ⟨Nat.le_of_ble_eq_true rfl, Nat.le_of_ble_eq_true rfl⟩) 7 rfl rfl rfl rfl hl.1 rfl (Nat.le_of_ble_eq_true rfl) dX7_readText_76 ⟨Nat.le_of_ble_eq_true rfl, Nat.le_of_ble_eq_true rfl⟩ hK hE hA hM (pm_at 3 [0, 1] [2] rfl rfl rfl (by decide)) ((pm_at 3 [0, 1] [2] rfl rfl rfl (by decide))).symm (fun H locs hM hz => ?_)
  refine lv_istore (lv' := [(4, .int (-1)), (3, .int (nI l8)), (2, .int (nI k8)), (0, .ref q), (1, .ref r)]) hx hb dX7_readText_79 hl (by decide) rfl (fun ls hl => ?_)
  refine lv_iload hx hb dX7_readText_81 (lv_at hl 0 rfl) ?_
  refine lv_iconst (v := (-1)) hx hb dX7_readText_83 (by decide) ?_
  refine lv_icmp_ne (tgt := 92) hx hb dX7_readText_84 (by decide) (fun c_5 => absurd rfl c_5) (fun c_5 => ?_)
  refine lv_aload_n hx hb dX7_readText_87 rfl (lv_at hl 3 rfl) ?_
  refine z_get (ci := 7) (v := .int (nI ((1 + 1) + 1))) (C := RX7) (T := TX7) (N := 16) hx hb hts (by decide +kernel) hown hK hM 0 rfl rfl 14 (by decide) (hts (.fieldLink RX7 167 "ShiftIslesModel" "spot" "I") (by decide +kernel)) (fun _ h9 => h9) rfl dX7_readText_88 ?_
  exact z_iret hx hb hr hlocks dX7_readText_91 hM (Nat.le_of_ble_eq_true rfl) (Nat.le_of_ble_eq_true rfl) rfl

set_option maxHeartbeats 4000000 in
set_option maxRecDepth 100000 in
theorem c_rt5 (l : Launch) (G : zC) (q : Nat) (v0 v3 v4 v5 v6 v7 v8 v9 v10 v11 v12 : Value) (z n j9 o9 : Nat) (v F : Nat → Int32) (r : Nat) (x0 : Int64) (hn : n ≤ 120) (h0 : 0 < n) (h1 : v 0 = 73) (k8 : Nat) (hk8 : k8 < 10) (e1 : zDg v n 1 = nI k8) (g1 : zI0 (zDg v n 1).toInt64 (2 : Int32).toInt64 (4 : Int32).toInt64 = true) (l8 : Nat) (hl8 : l8 < 10) (e2 : zDg v n 2 = nI l8) (g2 : zI0 (zDg v n 2).toInt64 (0 : Int32).toInt64 (9 : Int32).toInt64 = true) (m8 : Nat) (hm8 : m8 < 10) (e3 : zDg v n 3 = nI m8) (g3 : zI0 (zDg v n 3).toInt64 (0 : Int32).toInt64 (9 : Int32).toInt64 = true) (hk82 : 2 ≤ k8) (hk84 : k8 ≤ 4) (h4n : 4 ≤ n) (hv : zTu v) (hWr0 : zWr v n n 0 0 = zWr v n (n - 4) 4 4) : zMet l G yX7_readText wsX7_readText rmX7_readText [.ref q, .ref r] ([(q, .inr (7, [v0, .ref z, .int (nI n), v3, v4, v5, v6, v7, v8, v9, v10, v11, v12, .long x0, .int (nI j9), .int (nI o9)])), (z, .inl (G.2 1, 120, .inl v)), (r, .inl (G.2 1, 121, .inl F))]) (some (.int (zWr v n n 0 0))) ([(q, .inr (7, [v0, .ref z, .int (nI n), v3, v4, v5, v6, v7, v8, v9, v10, v11, v12, .long ((zBg k8 (nI (10 * l8 + m8)).toInt64 (fun _ _ => 0)).1), .int (nI ((zRdL v n 120 4 ((zGdH zClH k8, zBb k8 (zBg k8 (nI (10 * l8 + m8)).toInt64 (fun _ _ => 0)).2), 0)).1)), .int (nI ((zRdL v n 120 4 ((zGdH zClH k8, zBb k8 (zBg k8 (nI (10 * l8 + m8)).toInt64 (fun _ _ => 0)).2), 0)).2.2))])), (z, .inl (G.2 1, 120, .inl v)), (r, .inl (G.2 1, 121, .inl (flt (zRdL v n 120 4 ((zGdH zClH k8, zBb k8 (zBg k8 (nI (10 * l8 + m8)).toInt64 (fun _ _ => 0)).2), 0)).2.1.1 (zRdL v n 120 4 ((zGdH zClH k8, zBb k8 (zBg k8 (nI (10 * l8 + m8)).toInt64 (fun _ _ => 0)).2), 0)).2.1.2)))]) := by
  refine zMet_of (cc := cX7_readText) (maxL := 5) (ret := (some .int)) (by decide) rfl (Nat.le_of_ble_eq_true rfl) ?_
  intro p e s m below meth c A ls hx hb hr hml hown hts hK hA hE hlocks hin hM hl
  have hown : s.vm.findClass RX7 = some m.cls := hown
  have hM : zM G A s s.heap [] ([(q, .inr (7, [v0, .ref z, .int (nI n), v3, v4, v5, v6, v7, v8, v9, v10, v11, v12, .long x0, .int (nI j9), .int (nI o9)])), (z, .inl (G.2 1, 120, .inl v)), (r, .inl (G.2 1, 121, .inl F))]) := hM
  have hl : lv_has ls 5 [(0, .ref q), (1, .ref r)] := hl
  have hG0 : zGs (zGdH zClH k8) (zBb k8 (zBg k8 (nI (10 * l8 + m8)).toInt64 (fun _ _ => 0)).2) k8 0 4 0 := zGs_bg zCl_gs hk82 hk84 (fun p9 hp9 => (by unfold zBb; rw [if_pos hp9]))
  refine lv_aload_n hx hb dX7_readText_0 rfl (lv_at hl 1 rfl) ?_
  refine z_callS (As := [.ref r]) (rest := []) (wc := [(r, .inl (G.2 1, 121, .inl F))]) (wr := [(q, .inr (7, [v0, .ref z, .int (nI n), v3, v4, v5, v6, v7, v8, v9, v10, v11, v12, .long x0, .int (nI j9), .int (nI o9)])), (z, .inl (G.2 1, 120, .inl v))]) (w1 := rfW G r zClH (fun _ _ => 0)) (ws' := [(q, .inr (7, [v0, .ref z, .int (nI n), v3, v4, v5, v6, v7, v8, v9, v10, v11, v12, .long x0, .int (nI j9), .int (nI o9)])), (z, .inl (G.2 1, 120, .inl v)), (r, .inl (G.2 1, 121, .inl (flt zClH (fun _ _ => 0))))]) ⟨hx, hb, hml, hown, hts⟩ (c_clear l G r F) (va_cwS 1 hts gX7_readText_X7_clear rfl rfl rfl (by decide +kernel) ⟨Nat.le_of_ble_eq_true rfl, Nat.le_of_ble_eq_true rfl⟩) rfl hl.1 rfl (Nat.le_of_ble_eq_true rfl) dX7_readText_1 ⟨Nat.le_of_ble_eq_true rfl, Nat.le_of_ble_eq_true rfl⟩ hK hE hA hM (pm_at 3 [2] [0, 1] rfl rfl rfl (by decide)) ((pm_at 3 [2] [0, 1] rfl rfl rfl (by decide))).symm (fun H locs hM hz => ?_)
  refine lv_aload_n hx hb dX7_readText_4 rfl (lv_at hl 0 rfl) ?_
  refine lv_iconst (v := nI 0) hx hb dX7_readText_5 (by decide) ?_
  refine z_put (ci := 7) (ty := .int) (v := .int (nI 0)) (C := RX7) (T := TX7) (N := 16) (ws' := [(q, .inr (7, [v0, .ref z, .int (nI n), v3, v4, v5, v6, v7, v8, v9, v10, v11, v12, .long x0, .int (nI j9), .int (nI 0)])), (z, .inl (G.2 1, 120, .inl v)), (r, .inl (G.2 1, 121, .inl (flt zClH (fun _ _ => 0))))]) hx hb hts (by decide +kernel) tyX7 tyX7_ok nmX7 hown hK hM 0 rfl rfl 15 (by decide) (hts (.fieldLink RX7 170 "ShiftIslesModel" "out" "I") (by decide +kernel)) (fun _ h9 => h9) rfl (by decide +kernel) rfl rfl (Nat.le_of_ble_eq_true rfl) dX7_readText_6 rfl (fun H locs hM => ?_)
  refine lv_aload_n hx hb dX7_readText_9 rfl (lv_at hl 0 rfl) ?_
  refine lv_iconst (v := nI 0) hx hb dX7_readText_10 (by decide) ?_
  refine z_put (ci := 7) (ty := .int) (v := .int (nI 0)) (C := RX7) (T := TX7) (N := 16) (ws' := [(q, .inr (7, [v0, .ref z, .int (nI n), v3, v4, v5, v6, v7, v8, v9, v10, v11, v12, .long x0, .int (nI 0), .int (nI 0)])), (z, .inl (G.2 1, 120, .inl v)), (r, .inl (G.2 1, 121, .inl (flt zClH (fun _ _ => 0))))]) hx hb hts (by decide +kernel) tyX7 tyX7_ok nmX7 hown hK hM 0 rfl rfl 14 (by decide) (hts (.fieldLink RX7 167 "ShiftIslesModel" "spot" "I") (by decide +kernel)) (fun _ h9 => h9) rfl (by decide +kernel) rfl rfl (Nat.le_of_ble_eq_true rfl) dX7_readText_11 rfl (fun H locs hM => ?_)
  refine lv_aload_n hx hb dX7_readText_14 rfl (lv_at hl 0 rfl) ?_
  refine z_get (ci := 7) (v := .int (nI n)) (C := RX7) (T := TX7) (N := 16) hx hb hts (by decide +kernel) hown hK hM 0 rfl rfl 2 (by decide) (hts (.fieldLink RX7 160 "ShiftIslesModel" "size" "I") (by decide +kernel)) (fun _ h9 => h9) rfl dX7_readText_15 ?_
  refine lv_if_eq (tgt := 32) hx hb dX7_readText_18 (by decide) (fun c_1 => absurd ((nI_eq (a := n) (b := 0) (by omega) (by decide)).mp c_1) (by omega)) (fun c_1 => ?_)
  refine lv_aload_n hx hb dX7_readText_21 rfl (lv_at hl 0 rfl) ?_
  refine z_get (ci := 7) (v := .ref z) (C := RX7) (T := TX7) (N := 16) hx hb hts (by decide +kernel) hown hK hM 0 rfl rfl 1 (by decide) (hts (.fieldLink RX7 7 "ShiftIslesModel" "text" "[I") (by decide +kernel)) (fun _ h9 => h9) rfl dX7_readText_22 ?_
  refine lv_iconst (v := nI 0) hx hb dX7_readText_25 (by decide) ?_
  refine z_iald hx hb hK hM 1 rfl (v := v 0) (vp_in_nI (by omega) (by decide)) (by rw [nI_clamp (by omega)]) dX7_readText_26 ?_
  refine lv_bipush (v := 73) hx hb dX7_readText_27 (by decide) ?_
  refine lv_icmp_eq (tgt := 34) hx hb dX7_readText_29 (by decide) (fun c_2 => ?_) (fun c_2 => absurd h1 c_2)
  refine lv_aload_n hx hb dX7_readText_34 rfl (lv_at hl 0 rfl) ?_
  refine lv_iconst (v := nI 1) hx hb dX7_readText_35 (by decide) ?_
  refine z_put (ci := 7) (ty := .int) (v := .int (nI 1)) (C := RX7) (T := TX7) (N := 16) (ws' := [(q, .inr (7, [v0, .ref z, .int (nI n), v3, v4, v5, v6, v7, v8, v9, v10, v11, v12, .long x0, .int (nI 1), .int (nI 0)])), (z, .inl (G.2 1, 120, .inl v)), (r, .inl (G.2 1, 121, .inl (flt zClH (fun _ _ => 0))))]) hx hb hts (by decide +kernel) tyX7 tyX7_ok nmX7 hown hK hM 0 rfl rfl 14 (by decide) (hts (.fieldLink RX7 167 "ShiftIslesModel" "spot" "I") (by decide +kernel)) (fun _ h9 => h9) rfl (by decide +kernel) rfl rfl (Nat.le_of_ble_eq_true rfl) dX7_readText_36 rfl (fun H locs hM => ?_)
  refine lv_aload_n hx hb dX7_readText_39 rfl (lv_at hl 0 rfl) ?_
  refine lv_iconst (v := 2) hx hb dX7_readText_40 (by decide) ?_
  refine lv_iconst (v := 4) hx hb dX7_readText_41 (by decide) ?_
  refine z_callV (As := [.int 2, .int 4]) (rest := []) (wc := [(q, .inr (7, [v0, .ref z, .int (nI n), v3, v4, v5, v6, v7, v8, v9, v10, v11, v12, .long x0, .int (nI 1), .int (nI 0)])), (z, .inl (G.2 1, 120, .inl v))]) (wr := [(r, .inl (G.2 1, 121, .inl (flt zClH (fun _ _ => 0))))]) (w1 := [(q, .inr (7, [v0, .ref z, .int (nI n), v3, v4, v5, v6, v7, v8, v9, v10, v11, v12, .long x0, .int (nI (1 + 1)), .int (nI 0)])), (z, .inl (G.2 1, 120, .inl v))]) (ws' := [(q, .inr (7, [v0, .ref z, .int (nI n), v3, v4, v5, v6, v7, v8, v9, v10, v11, v12, .long x0, .int (nI (1 + 1)), .int (nI 0)])), (z, .inl (G.2 1, 120, .inl v)), (r, .inl (G.2 1, 121, .inl (flt zClH (fun _ _ => 0))))]) ⟨hx, hb, hml, hown, hts⟩ (c_dig1 l G q v0 v3 v4 v5 v6 v7 v8 v9 v10 v11 v12 (.long x0) (.int (nI 0)) z n 1 v 2 4 hn (by omega) g1) (cwV 2 hts gX7_readText_X7_digit rfl rfl rfl (by decide +kernel) ⟨Nat.le_of_ble_eq_true rfl, Nat.le_of_ble_eq_true rfl⟩) 7 rfl rfl rfl rfl hl.1 rfl (Nat.le_of_ble_eq_true rfl) dX7_readText_42 ⟨Nat.le_of_ble_eq_true rfl, Nat.le_of_ble_eq_true rfl⟩ hK hE hA hM (pm_at 3 [0, 1] [2] rfl rfl rfl (by decide)) ((pm_at 3 [0, 1] [2] rfl rfl rfl (by decide))).symm (fun H locs hM hz => ?_)
  refine z_topi (y := nI k8) e1 ?_
  refine lv_istore_n (lv' := [(2, .int (nI k8)), (0, .ref q), (1, .ref r)]) hx hb dX7_readText_45 rfl hl (by decide) rfl (fun ls hl => ?_)
  refine lv_iload_n hx hb dX7_readText_46 rfl (lv_at hl 0 rfl) ?_
  refine lv_iconst (v := (-1)) hx hb dX7_readText_47 (by decide) ?_
  refine lv_icmp_ne (tgt := 55) hx hb dX7_readText_48 (by decide) (fun c_3 => ?_) (fun c_3 => absurd c_3 (nI_m1 (by omega)))
  refine lv_aload_n hx hb dX7_readText_55 rfl (lv_at hl 1 rfl) ?_
  refine lv_iconst (v := 0) hx hb dX7_readText_56 (by decide) ?_
  refine lv_bipush (v := 9) hx hb dX7_readText_57 (by decide) ?_
  refine z_callV (As := [.int 0, .int 9]) (rest := []) (wc := [(q, .inr (7, [v0, .ref z, .int (nI n), v3, v4, v5, v6, v7, v8, v9, v10, v11, v12, .long x0, .int (nI (1 + 1)), .int (nI 0)])), (z, .inl (G.2 1, 120, .inl v))]) (wr := [(r, .inl (G.2 1, 121, .inl (flt zClH (fun _ _ => 0))))]) (w1 := [(q, .inr (7, [v0, .ref z, .int (nI n), v3, v4, v5, v6, v7, v8, v9, v10, v11, v12, .long x0, .int (nI ((1 + 1) + 1)), .int (nI 0)])), (z, .inl (G.2 1, 120, .inl v))]) (ws' := [(q, .inr (7, [v0, .ref z, .int (nI n), v3, v4, v5, v6, v7, v8, v9, v10, v11, v12, .long x0, .int (nI ((1 + 1) + 1)), .int (nI 0)])), (z, .inl (G.2 1, 120, .inl v)), (r, .inl (G.2 1, 121, .inl (flt zClH (fun _ _ => 0))))]) ⟨hx, hb, hml, hown, hts⟩ (c_dig1 l G q v0 v3 v4 v5 v6 v7 v8 v9 v10 v11 v12 (.long x0) (.int (nI 0)) z n (1 + 1) v 0 9 hn (by omega) g2) (cwV 2 hts gX7_readText_X7_digit rfl rfl rfl (by decide +kernel) ⟨Nat.le_of_ble_eq_true rfl, Nat.le_of_ble_eq_true rfl⟩) 7 rfl rfl rfl rfl hl.1 rfl (Nat.le_of_ble_eq_true rfl) dX7_readText_59 ⟨Nat.le_of_ble_eq_true rfl, Nat.le_of_ble_eq_true rfl⟩ hK hE hA hM (pm_at 3 [0, 1] [2] rfl rfl rfl (by decide)) ((pm_at 3 [0, 1] [2] rfl rfl rfl (by decide))).symm (fun H locs hM hz => ?_)
  refine z_topi (y := nI l8) e2 ?_
  refine lv_istore_n (lv' := [(3, .int (nI l8)), (2, .int (nI k8)), (0, .ref q), (1, .ref r)]) hx hb dX7_readText_62 rfl hl (by decide) rfl (fun ls hl => ?_)
  refine lv_iload_n hx hb dX7_readText_63 rfl (lv_at hl 0 rfl) ?_
  refine lv_iconst (v := (-1)) hx hb dX7_readText_64 (by decide) ?_
  refine lv_icmp_ne (tgt := 72) hx hb dX7_readText_65 (by decide) (fun c_4 => ?_) (fun c_4 => absurd c_4 (nI_m1 (by omega)))
  refine lv_aload_n hx hb dX7_readText_72 rfl (lv_at hl 2 rfl) ?_
  refine lv_iconst (v := 0) hx hb dX7_readText_73 (by decide) ?_
  refine lv_bipush (v := 9) hx hb dX7_readText_74 (by decide) ?_
  refine z_callV (As := [.int 0, .int 9]) (rest := []) (wc := [(q, .inr (7, [v0, .ref z, .int (nI n), v3, v4, v5, v6, v7, v8, v9, v10, v11, v12, .long x0, .int (nI ((1 + 1) + 1)), .int (nI 0)])), (z, .inl (G.2 1, 120, .inl v))]) (wr := [(r, .inl (G.2 1, 121, .inl (flt zClH (fun _ _ => 0))))]) (w1 := [(q, .inr (7, [v0, .ref z, .int (nI n), v3, v4, v5, v6, v7, v8, v9, v10, v11, v12, .long x0, .int (nI (((1 + 1) + 1) + 1)), .int (nI 0)])), (z, .inl (G.2 1, 120, .inl v))]) (ws' := [(q, .inr (7, [v0, .ref z, .int (nI n), v3, v4, v5, v6, v7, v8, v9, v10, v11, v12, .long x0, .int (nI (((1 + 1) + 1) + 1)), .int (nI 0)])), (z, .inl (G.2 1, 120, .inl v)), (r, .inl (G.2 1, 121, .inl (flt zClH (fun _ _ => 0))))]) ⟨hx, hb, hml, hown, hts⟩ (c_dig1 l G q v0 v3 v4 v5 v6 v7 v8 v9 v10 v11 v12 (.long x0) (.int (nI 0)) z n ((1 + 1) + 1) v 0 9 hn (by omega) g3) (cwV 2 hts gX7_readText_X7_digit rfl rfl rfl (by decide +kernel) ⟨Nat.le_of_ble_eq_true rfl, Nat.le_of_ble_eq_true rfl⟩) 7 rfl rfl rfl rfl hl.1 rfl (Nat.le_of_ble_eq_true rfl) dX7_readText_76 ⟨Nat.le_of_ble_eq_true rfl, Nat.le_of_ble_eq_true rfl⟩ hK hE hA hM (pm_at 3 [0, 1] [2] rfl rfl rfl (by decide)) ((pm_at 3 [0, 1] [2] rfl rfl rfl (by decide))).symm (fun H locs hM hz => ?_)
  refine z_topi (y := nI m8) e3 ?_
  refine lv_istore (lv' := [(4, .int (nI m8)), (3, .int (nI l8)), (2, .int (nI k8)), (0, .ref q), (1, .ref r)]) hx hb dX7_readText_79 hl (by decide) rfl (fun ls hl => ?_)
  refine lv_iload hx hb dX7_readText_81 (lv_at hl 0 rfl) ?_
  refine lv_iconst (v := (-1)) hx hb dX7_readText_83 (by decide) ?_
  refine lv_icmp_ne (tgt := 92) hx hb dX7_readText_84 (by decide) (fun c_5 => ?_) (fun c_5 => absurd c_5 (nI_m1 (by omega)))
  refine lv_aload_n hx hb dX7_readText_92 rfl (lv_at hl 3 rfl) ?_
  refine lv_aload_n hx hb dX7_readText_93 rfl (lv_at hl 4 rfl) ?_
  refine lv_iload_n hx hb dX7_readText_94 rfl (lv_at hl 2 rfl) ?_
  refine lv_bipush (v := 10) hx hb dX7_readText_95 (by decide) ?_
  refine lv_iload_n hx hb dX7_readText_97 rfl (lv_at hl 1 rfl) ?_
  refine lv_imul hx hb dX7_readText_98 ?_
  refine z_topi (y := nI (10 * l8)) (pk_mul 10 l8) ?_
  refine lv_iload hx hb dX7_readText_99 (lv_at hl 0 rfl) ?_
  refine lv_iadd hx hb dX7_readText_101 ?_
  refine z_topi (y := nI ((10 * l8) + m8)) (nI_add (10 * l8) m8) ?_
  refine lv_i2l (v := (nI ((10 * l8) + m8)).toInt64) hx hb dX7_readText_102 rfl ?_
  refine z_callV (As := [.ref r, .int (nI k8), .long ((nI ((10 * l8) + m8)).toInt64)]) (rest := []) (wc := [(q, .inr (7, [v0, .ref z, .int (nI n), v3, v4, v5, v6, v7, v8, v9, v10, v11, v12, .long x0, .int (nI (((1 + 1) + 1) + 1)), .int (nI 0)])), (r, .inl (G.2 1, 121, .inl (flt zClH (fun _ _ => 0))))]) (wr := [(z, .inl (G.2 1, 120, .inl v))]) (w1 := [(q, .inr (7, [v0, .ref z, .int (nI n), v3, v4, v5, v6, v7, v8, v9, v10, v11, v12, .long ((zBg k8 (nI (10 * l8 + m8)).toInt64 (fun _ _ => 0)).1), .int (nI (((1 + 1) + 1) + 1)), .int (nI 0)])), (r, .inl (G.2 1, 121, .inl (flt (zGdH zClH k8) (zBb k8 (zBg k8 (nI (10 * l8 + m8)).toInt64 (fun _ _ => 0)).2))))]) (ws' := [(q, .inr (7, [v0, .ref z, .int (nI n), v3, v4, v5, v6, v7, v8, v9, v10, v11, v12, .long ((zBg k8 (nI (10 * l8 + m8)).toInt64 (fun _ _ => 0)).1), .int (nI (((1 + 1) + 1) + 1)), .int (nI 0)])), (z, .inl (G.2 1, 120, .inl v)), (r, .inl (G.2 1, 121, .inl (flt (zGdH zClH k8) (zBb k8 (zBg k8 (nI (10 * l8 + m8)).toInt64 (fun _ _ => 0)).2))))]) ⟨hx, hb, hml, hown, hts⟩ (c_beginOn l G q v0 (.ref z) (.int (nI n)) v3 v4 v5 v6 v7 v8 v9 v10 v11 v12 (.int (nI (((1 + 1) + 1) + 1))) (.int (nI 0)) x0 (nI (10 * l8 + m8)).toInt64 r k8 zClH (fun _ _ => 0) (by omega) hk84) (cwV 3 hts gX7_readText_X7_beginOn rfl rfl rfl (by decide +kernel) ⟨Nat.le_of_ble_eq_true rfl, Nat.le_of_ble_eq_true rfl⟩) 7 rfl rfl rfl rfl hl.1 rfl (Nat.le_of_ble_eq_true rfl) dX7_readText_103 ⟨Nat.le_of_ble_eq_true rfl, Nat.le_of_ble_eq_true rfl⟩ hK hE hA hM (pm_at 3 [0, 2] [1] rfl rfl rfl (by decide)) ((pm_at 3 [0, 2] [1] rfl rfl rfl (by decide))).symm (fun H locs hM hz => ?_)
  refine lv_pop hx hb dX7_readText_106 rfl ?_
  have lp107 : ∀ (k : Nat) (j : Nat) (g1 : Nat → Int32) (d1 : Nat → Nat → Int32) (t1 e1 o1 : Nat), (zGs g1 d1 k8 t1 4 e1) → (j ≤ n) → (n ≤ j + k) → ((zRdL v n 120 4 ((zGdH zClH k8, zBb k8 (zBg k8 (nI (10 * l8 + m8)).toInt64 (fun _ _ => 0)).2), 0)) = zRdL v n k j ((g1, d1), o1)) → (zWr v n n 0 0 = zWr v n (n - j) j 4) → ∀ (H : Heap) (locs : List Loc), zM G A s H locs ([(q, .inr (7, [v0, .ref z, .int (nI n), v3, v4, v5, v6, v7, v8, v9, v10, v11, v12, .long ((zBg k8 (nI (10 * l8 + m8)).toInt64 (fun _ _ => 0)).1), .int (nI j), .int (nI o1)])), (z, .inl (G.2 1, 120, .inl v)), (r, .inl (G.2 1, 121, .inl (flt g1 d1)))]) → ∀ ls : Array Slot, lv_has ls 5 [(0, .ref q), (1, .ref r), (2, .int (nI k8)), (3, .int (nI l8)), (4, .int (nI m8))] → W p l e rmX7_readText s m ([.ref q, .ref r] : List Value).toArray below meth c H locs 0 0 (zEnd G below ([.ref q, .ref r] : List Value).toArray s rmX7_readText A (some (.int (zWr v n n 0 0))) ([(q, .inr (7, [v0, .ref z, .int (nI n), v3, v4, v5, v6, v7, v8, v9, v10, v11, v12, .long ((zBg k8 (nI (10 * l8 + m8)).toInt64 (fun _ _ => 0)).1), .int (nI ((zRdL v n 120 4 ((zGdH zClH k8, zBb k8 (zBg k8 (nI (10 * l8 + m8)).toInt64 (fun _ _ => 0)).2), 0)).1)), .int (nI ((zRdL v n 120 4 ((zGdH zClH k8, zBb k8 (zBg k8 (nI (10 * l8 + m8)).toInt64 (fun _ _ => 0)).2), 0)).2.2))])), (z, .inl (G.2 1, 120, .inl v)), (r, .inl (G.2 1, 121, .inl (flt (zRdL v n 120 4 ((zGdH zClH k8, zBb k8 (zBg k8 (nI (10 * l8 + m8)).toInt64 (fun _ _ => 0)).2), 0)).2.1.1 (zRdL v n 120 4 ((zGdH zClH k8, zBb k8 (zBg k8 (nI (10 * l8 + m8)).toInt64 (fun _ _ => 0)).2), 0)).2.1.2)))])) (F0 m 107 ls []) := by
    intro k
    induction k with
    | zero =>
      intro j g1 d1 t1 e1 o1 hG1 hjn hjk hR hWr H locs hM ls hl
      refine lv_aload_n hx hb dX7_readText_107 rfl (lv_at hl 0 rfl) ?_
      refine z_get (ci := 7) (v := .int (nI j)) (C := RX7) (T := TX7) (N := 16) hx hb hts (by decide +kernel) hown hK hM 0 rfl rfl 14 (by decide) (hts (.fieldLink RX7 167 "ShiftIslesModel" "spot" "I") (by decide +kernel)) (fun _ h9 => h9) rfl dX7_readText_108 ?_
      refine lv_aload_n hx hb dX7_readText_111 rfl (lv_at hl 0 rfl) ?_
      refine z_get (ci := 7) (v := .int (nI n)) (C := RX7) (T := TX7) (N := 16) hx hb hts (by decide +kernel) hown hK hM 0 rfl rfl 2 (by decide) (hts (.fieldLink RX7 160 "ShiftIslesModel" "size" "I") (by decide +kernel)) (fun _ h9 => h9) rfl dX7_readText_112 ?_
      refine lv_icmp_ge (tgt := 131) hx hb dX7_readText_115 (by decide) (fun c_6 => ?_) (fun c_6 => absurd (nI_le (by omega) (by omega)) c_6)
      have hnlt : ¬ j < n := by omega
      have hjn2 : j = n := by omega
      refine lv_iconst (v := (-1)) hx hb dX7_readText_131 (by decide) ?_
      exact z_iret hx hb hr hlocks dX7_readText_132 (by rw [hR, zRdL_end hnlt]; exact hM) (Nat.le_of_ble_eq_true rfl) (Nat.le_of_ble_eq_true rfl) (by rw [hWr, hjn2, Nat.sub_self]; rfl)
    | succ k ih =>
      intro j g1 d1 t1 e1 o1 hG1 hjn hjk hR hWr H locs hM ls hl
      refine lv_aload_n hx hb dX7_readText_107 rfl (lv_at hl 0 rfl) ?_
      refine z_get (ci := 7) (v := .int (nI j)) (C := RX7) (T := TX7) (N := 16) hx hb hts (by decide +kernel) hown hK hM 0 rfl rfl 14 (by decide) (hts (.fieldLink RX7 167 "ShiftIslesModel" "spot" "I") (by decide +kernel)) (fun _ h9 => h9) rfl dX7_readText_108 ?_
      refine lv_aload_n hx hb dX7_readText_111 rfl (lv_at hl 0 rfl) ?_
      refine z_get (ci := 7) (v := .int (nI n)) (C := RX7) (T := TX7) (N := 16) hx hb hts (by decide +kernel) hown hK hM 0 rfl rfl 2 (by decide) (hts (.fieldLink RX7 160 "ShiftIslesModel" "size" "I") (by decide +kernel)) (fun _ h9 => h9) rfl dX7_readText_112 ?_
      refine lv_icmp_ge (tgt := 131) hx hb dX7_readText_115 (by decide) (fun c_j => ?_) (fun c_j => ?_)
      · have hnlt : ¬ j < n := fun q => absurd c_j (nI_ge q (by omega))
        have hjn2 : j = n := by omega
        refine lv_iconst (v := (-1)) hx hb dX7_readText_131 (by decide) ?_
        exact z_iret hx hb hr hlocks dX7_readText_132 (by rw [hR, zRdL_end hnlt]; exact hM) (Nat.le_of_ble_eq_true rfl) (Nat.le_of_ble_eq_true rfl) (by rw [hWr, hjn2, Nat.sub_self]; rfl)
      · have hlt : j < n := Nat.not_le.mp (fun q => c_j (nI_le q (by omega)))
        refine lv_aload_n hx hb dX7_readText_118 rfl (lv_at hl 0 rfl) ?_
        refine lv_aload_n hx hb dX7_readText_119 rfl (lv_at hl 1 rfl) ?_
        refine z_callV (As := [.ref r]) (rest := []) (wc := [(q, .inr (7, [v0, .ref z, .int (nI n), v3, v4, v5, v6, v7, v8, v9, v10, v11, v12, .long ((zBg k8 (nI (10 * l8 + m8)).toInt64 (fun _ _ => 0)).1), .int (nI j), .int (nI o1)])), (z, .inl (G.2 1, 120, .inl v)), (r, .inl (G.2 1, 121, .inl (flt g1 d1)))]) (wr := []) (w1 := [(q, .inr (7, [v0, .ref z, .int (nI n), v3, v4, v5, v6, v7, v8, v9, v10, v11, v12, .long ((zBg k8 (nI (10 * l8 + m8)).toInt64 (fun _ _ => 0)).1), .int (nI (zRmA v n j)), .int (nI (zRmS v n j ((g1, d1), o1)).2)])), (z, .inl (G.2 1, 120, .inl v)), (r, .inl (G.2 1, 121, .inl (flt (zRmS v n j ((g1, d1), o1)).1.1 (zRmS v n j ((g1, d1), o1)).1.2)))]) (ws' := [(q, .inr (7, [v0, .ref z, .int (nI n), v3, v4, v5, v6, v7, v8, v9, v10, v11, v12, .long ((zBg k8 (nI (10 * l8 + m8)).toInt64 (fun _ _ => 0)).1), .int (nI (zRmA v n j)), .int (nI (zRmS v n j ((g1, d1), o1)).2)])), (z, .inl (G.2 1, 120, .inl v)), (r, .inl (G.2 1, 121, .inl (flt (zRmS v n j ((g1, d1), o1)).1.1 (zRmS v n j ((g1, d1), o1)).1.2)))]) ⟨hx, hb, hml, hown, hts⟩ (c_readMove l G q v0 v3 v4 v5 v6 v7 v8 v9 v10 v11 v12 (.long ((zBg k8 (nI (10 * l8 + m8)).toInt64 (fun _ _ => 0)).1)) z n j o1 v r g1 d1 k8 t1 4 e1 hG1 hn hlt hv) (cwV 1 hts gX7_readText_X7_readMove rfl rfl rfl (by decide +kernel) ⟨Nat.le_of_ble_eq_true rfl, Nat.le_of_ble_eq_true rfl⟩) 7 rfl rfl rfl rfl hl.1 rfl (Nat.le_of_ble_eq_true rfl) dX7_readText_120 ⟨Nat.le_of_ble_eq_true rfl, Nat.le_of_ble_eq_true rfl⟩ hK hE hA hM (pm_at 3 [0, 1, 2] [] rfl rfl rfl (by decide)) ((pm_at 3 [0, 1, 2] [] rfl rfl rfl (by decide))).symm (fun H locs hM hz => ?_)
        refine z_ifne (tgt := 107) hx hb dX7_readText_123 (by decide) (fun c_b => ?_) (fun c_b => ?_)
        · have hr0 : zRd v n j = 0 := of_decide_eq_true c_b; obtain ⟨h2, b2, o2, t2, e2, hmv, hG2⟩ := zTx_gs (o := o1) hv hn hlt hr0 hG1
          exact ih (zNj v j) _ _ t2 e2 o2 hG2 ((zWr_rd hlt).1 hr0).1 (by have := zNj_gt v j; omega) (by rw [hR, zRdL_on hlt hr0, hmv]) (by rw [hWr]; exact ((zWr_rd hlt).1 hr0).2) _ _ (by rw [(zRm_ok ((g1, d1), o1) hr0).1, (zRm_ok ((g1, d1), o1) hr0).2.1, hmv] at hM; exact hM) _ (lv_sub hl [0, 1, 2, 3, 4] rfl)
        · skip
          have hr0 : ¬ zRd v n j = 0 := of_decide_eq_false c_b
          have hq1 : zRd v n j = (zRd v n j - 1) + 1 := by omega
          refine lv_aload_n hx hb dX7_readText_126 rfl (lv_at hl 0 rfl) ?_
          refine z_get (ci := 7) (v := .int (nI (zRmA v n j))) (C := RX7) (T := TX7) (N := 16) hx hb hts (by decide +kernel) hown hK hM 0 rfl rfl 14 (by decide) (hts (.fieldLink RX7 167 "ShiftIslesModel" "spot" "I") (by decide +kernel)) (fun _ h9 => h9) rfl dX7_readText_127 ?_
          obtain ⟨a1, a2, a3⟩ := zRm_bad (q := zRd v n j - 1) ((g1, d1), o1) hq1
          exact z_iret hx hb hr hlocks dX7_readText_130 (by rw [hR, zRdL_off hlt hr0]; rw [a1, a2] at hM; exact hM) (Nat.le_of_ble_eq_true rfl) (Nat.le_of_ble_eq_true rfl) (by rw [hWr, ((zWr_rd hlt).2 hr0).2, a1])
  exact lp107 120 4 _ _ 0 0 0 hG0 h4n (by omega) rfl hWr0 _ _ hM _ (lv_sub hl [3, 4, 2, 1, 0] rfl)
