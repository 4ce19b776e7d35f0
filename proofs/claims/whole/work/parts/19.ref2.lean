/-! BITS of a word, and what can be reached: as the reference counts it -/
def bt (x : Int32) (i : Nat) : Bool := x.toBitVec.getLsbD i
theorem bt_ext {x y : Int32} (h : ∀ i, i < 32 → bt x i = bt y i) : x = y :=
  Int32.toBitVec_inj.mp (BitVec.eq_of_getLsbD_eq (fun i hi => h i hi))
theorem bt_or (x y : Int32) (i : Nat) : bt (x ||| y) i = (bt x i || bt y i) := by
  unfold bt
  rw [Int32.toBitVec_or, BitVec.getLsbD_or]
theorem bt_and (x y : Int32) (i : Nat) : bt (x &&& y) i = (bt x i && bt y i) := by
  unfold bt
  rw [Int32.toBitVec_and, BitVec.getLsbD_and]
theorem bt_sm : ∀ k : Fin 32, ((nI k.val &&& 31).toBitVec.smod 32).toNat = k.val := by decide +kernel
theorem bt_shl (x : Int32) {k i : Nat} (hk : k < 32) (hi : i < 32) : bt (x <<< (nI k &&& 31)) i = (decide (k ≤ i) && bt x (i - k)) := by
  unfold bt
  rw [Int32.toBitVec_shiftLeft, BitVec.getLsbD_shiftLeft', bt_sm ⟨k, hk⟩, decide_eq_true hi, Bool.true_and]
  by_cases h : k ≤ i
  · rw [decide_eq_true h, decide_eq_false (Nat.not_lt.mpr h)]
    rfl
  · rw [decide_eq_false h, decide_eq_true (Nat.not_le.mp h)]
    rfl
theorem bt_hi (x : Int32) {i : Nat} (h : 32 ≤ i) : bt x i = false := BitVec.getLsbD_of_ge _ _ h
theorem bt_shr (x : Int32) {k i : Nat} (hk : k < 32) (hi : i < 32) (h31 : bt x 31 = false) : bt (x >>> (nI k &&& 31)) i = bt x (k + i) := by
  unfold bt
  rw [Int32.toBitVec_shiftRight, BitVec.getLsbD_sshiftRight', bt_sm ⟨k, hk⟩, decide_eq_false (Nat.not_le.mpr hi)]
  show (true && if k + i < 32 then _ else _) = _
  rw [Bool.true_and]
  by_cases h : k + i < 32
  · rw [if_pos h]
  · rw [if_neg h]
    have h1 : BitVec.getLsbD x.toBitVec (k + i) = false := BitVec.getLsbD_of_ge _ _ (by omega)
    rw [h1, BitVec.msb_eq_getLsbD_last]
    exact h31
theorem bt_0 (i : Nat) : bt 0 i = false := by
  unfold bt
  exact BitVec.getLsbD_zero
theorem bt_one (n : Nat) (hn : n < 31) (i : Nat) (hi : i < 32) : bt (1 <<< (nI n &&& 31)) i = decide (i = n) := by
  rw [bt_shl _ (by omega) hi]
  by_cases h : i = n
  · subst h
    rw [decide_eq_true (Nat.le_refl i), Nat.sub_self, decide_eq_true rfl]
    rfl
  · rw [decide_eq_false h]
    by_cases h2 : n ≤ i
    · obtain ⟨j, rfl⟩ : ∃ j, i = n + (j + 1) := ⟨i - n - 1, by omega⟩
      rw [show n + (j + 1) - n = j + 1 by omega]
      have h3 : bt 1 (j + 1) = false := by
        unfold bt
        show BitVec.getLsbD (1#32) (j + 1) = false
        rw [BitVec.getLsbD_one]
        simp
      rw [h3, Bool.and_false]
    · rw [decide_eq_false h2, Bool.false_and]
theorem and_pow (x c : Int32) (k : Nat) (hc : ∀ i : Fin 32, bt c i.val = decide (i.val = k)) : x &&& c = if bt x k = true then c else 0 := by
  refine bt_ext (fun i hi => ?_)
  rw [bt_and, hc ⟨i, hi⟩]
  by_cases h : i = k
  · subst h
    rw [decide_eq_true rfl, Bool.and_true]
    by_cases h2 : bt x i = true
    · rw [if_pos h2, h2, hc ⟨i, hi⟩]
      exact (decide_eq_true rfl).symm
    · rw [if_neg h2, bt_0]
      exact Bool.eq_false_iff.mpr h2
  · rw [decide_eq_false h, Bool.and_false]
    split
    · rw [hc ⟨i, hi⟩]
      exact (decide_eq_false h).symm
    · rw [bt_0]
theorem and_le {x c : Int32} {k : Nat} (hc : ∀ i : Fin 32, bt c i.val = decide (i.val = k)) (h0 : ¬ c ≤ 0) : x &&& c ≤ 0 ↔ bt x k = false := by
  rw [and_pow x c k hc]
  by_cases h2 : bt x k = true
  · rw [if_pos h2, h2]
    exact ⟨fun q => absurd q h0, fun q => by cases q⟩
  · rw [if_neg h2, Bool.eq_false_iff.mpr h2]
    exact ⟨fun _ => rfl, fun _ => Int32.le_refl 0⟩
theorem and_z {x c : Int32} {k : Nat} (hc : ∀ i : Fin 32, bt c i.val = decide (i.val = k)) (h0 : ¬ c = 0) : x &&& c = 0 ↔ bt x k = false := by
  rw [and_pow x c k hc]
  by_cases h2 : bt x k = true
  · rw [if_pos h2, h2]
    exact ⟨fun q => absurd q h0, fun q => by cases q⟩
  · rw [if_neg h2, Bool.eq_false_iff.mpr h2]
    exact ⟨fun _ => rfl, fun _ => rfl⟩
theorem bt_c1 : ∀ i : Fin 32, bt 1 i.val = decide (i.val = 0) := by decide +kernel
theorem bt_c2 : ∀ i : Fin 32, bt 2 i.val = decide (i.val = 1) := by decide +kernel
theorem bt_c4 : ∀ i : Fin 32, bt 4 i.val = decide (i.val = 2) := by decide +kernel
theorem bt_c8 : ∀ i : Fin 32, bt 8 i.val = decide (i.val = 3) := by decide +kernel
theorem le1 {x : Int32} : x &&& 1 ≤ 0 ↔ bt x 0 = false := and_le bt_c1 (by decide)
theorem le2 {x : Int32} : x &&& 2 ≤ 0 ↔ bt x 1 = false := and_le bt_c2 (by decide)
theorem le4 {x : Int32} : x &&& 4 ≤ 0 ↔ bt x 2 = false := and_le bt_c4 (by decide)
theorem le8 {x : Int32} : x &&& 8 ≤ 0 ↔ bt x 3 = false := and_le bt_c8 (by decide)
theorem gt1 {x : Int32} : ¬ x &&& 1 ≤ 0 ↔ bt x 0 = true := by rw [le1, Bool.not_eq_false]
theorem gt2 {x : Int32} : ¬ x &&& 2 ≤ 0 ↔ bt x 1 = true := by rw [le2, Bool.not_eq_false]
theorem gt4 {x : Int32} : ¬ x &&& 4 ≤ 0 ↔ bt x 2 = true := by rw [le4, Bool.not_eq_false]
theorem gt8 {x : Int32} : ¬ x &&& 8 ≤ 0 ↔ bt x 3 = true := by rw [le8, Bool.not_eq_false]
theorem nz1 {x : Int32} : ¬ x &&& 1 = 0 ↔ bt x 0 = true := by rw [and_z bt_c1 (by decide), Bool.not_eq_false]
theorem nz2 {x : Int32} : ¬ x &&& 2 = 0 ↔ bt x 1 = true := by rw [and_z bt_c2 (by decide), Bool.not_eq_false]
theorem nz4 {x : Int32} : ¬ x &&& 4 = 0 ↔ bt x 2 = true := by rw [and_z bt_c4 (by decide), Bool.not_eq_false]
theorem nz8 {x : Int32} : ¬ x &&& 8 = 0 ↔ bt x 3 = true := by rw [and_z bt_c8 (by decide), Bool.not_eq_false]
theorem bt_at {x : Int32} {n : Nat} (hn : n < 32) (h31 : bt x 31 = false) : (x >>> (nI n &&& 31)) &&& 1 = 1 ↔ bt x n = true := by
  rw [and_pow _ 1 0 bt_c1, bt_shr x hn (by decide) h31, Nat.add_zero]
  by_cases h2 : bt x n = true
  · rw [if_pos h2]
    exact ⟨fun _ => h2, fun _ => rfl⟩
  · rw [if_neg h2]
    exact ⟨fun q => absurd q (by decide), fun q => absurd q h2⟩
theorem nI_le0 {a : Nat} (h : a < 2 ^ 31) : nI a ≤ 0 ↔ a = 0 := by
  constructor
  · intro q
    exact Nat.le_zero.mp ((nI_leI (a := a) (b := 0) h (by decide)).mp q)
  · intro q
    subst q
    exact Int32.le_refl 0
theorem nI_s3 {n m : Nat} (hn : n < 1000) (hm : m < 1000) : nI m = nI n - 3 ↔ m + 3 = n := by
  constructor
  · intro q
    refine (nI_eq (a := m + 3) (b := n) (by omega) (by omega)).mp ?_
    rw [← nI_add, q]
    exact Int32.sub_add_cancel (nI n) 3
  · intro q
    subst q
    rw [← nI_add]
    exact (Int32.add_sub_cancel (nI m) 3).symm
def zAcq (f : Nat → Int32) (n : Nat) : Bool := bt (f n) 1 && bt (f (n + 1)) 3
def zDoq (f : Nat → Int32) (n : Nat) : Bool := bt (f n) 2 && bt (f (n + 3)) 0
def zJb (f : Nat → Int32) (n m : Nat) : Bool := if m + 1 = n ∧ 0 < n % 3 then zAcq f m else if m + 3 = n then zDoq f m else false
def zJn (f : Nat → Int32) (n m : Nat) : Bool := if m = n + 1 ∧ 0 < m % 3 then zAcq f n else if m = n + 3 then zDoq f n else if m < n then zJb f n m else false
def zUp (f : Nat → Int32) (x : Int32) (n m : Nat) (y : Int32) : Int32 := y ||| (if bt x n = true ∧ zJn f n m = true then 1 <<< (nI m &&& 31) else 0)
def zM1 (f : Nat → Int32) (x : Int32) (n : Nat) : Nat → Nat → Int32 → Int32
  | 0, _, y => y
  | k + 1, m, y => zM1 f x n k (m + 1) (zUp f x n m y)
def zN1 (f : Nat → Int32) (x : Int32) : Nat → Nat → Int32 → Int32
  | 0, _, y => y
  | k + 1, n, y => zN1 f x k (n + 1) (zM1 f x n 9 0 y)
theorem bt_zUp (f : Nat → Int32) (x : Int32) (n m : Nat) (y : Int32) (hm : m < 31) (j : Nat) (hj : j < 32) : bt (zUp f x n m y) j = (bt y j || (bt x n && zJn f n j && decide (j = m))) := by
  rw [zUp, bt_or]
  congr 1
  by_cases e : j = m
  · subst e
    rw [decide_eq_true rfl, Bool.and_true]
    by_cases h : bt x n = true ∧ zJn f n j = true
    · rw [if_pos h, bt_one _ hm _ hj, h.1, h.2]
      exact decide_eq_true rfl
    · rw [if_neg h, bt_0]
      cases h1 : bt x n <;> cases h2 : zJn f n j
      · rfl
      · rfl
      · rfl
      · exact absurd ⟨h1, h2⟩ h
  · rw [decide_eq_false e, Bool.and_false]
    split
    · rw [bt_one _ hm _ hj, decide_eq_false e]
    · exact bt_0 j
theorem bt_zM1 (f : Nat → Int32) (x : Int32) (n : Nat) (j : Nat) (hj : j < 32) : ∀ (k m : Nat) (y : Int32), m + k ≤ 9 → bt (zM1 f x n k m y) j = (bt y j || (bt x n && zJn f n j && decide (m ≤ j ∧ j < m + k)))
  | 0, m, y, _ => by
    rw [zM1, decide_eq_false (by omega), Bool.and_false, Bool.or_false]
  | k + 1, m, y, h => by
    rw [zM1, bt_zM1 f x n j hj k (m + 1) _ (by omega), bt_zUp f x n m y (by omega) j hj, Bool.or_assoc]
    congr 1
    cases (bt x n && zJn f n j)
    · rfl
    · by_cases e : j = m
      · rw [decide_eq_true e, decide_eq_true (p := m ≤ j ∧ j < m + (k + 1)) (by omega)]
        rfl
      · rw [decide_eq_false e]
        by_cases e2 : m + 1 ≤ j ∧ j < m + 1 + k
        · rw [decide_eq_true e2, decide_eq_true (by omega)]
          rfl
        · rw [decide_eq_false e2, decide_eq_false (by omega)]
          rfl
def zAny (g : Nat → Bool) : Nat → Nat → Bool
  | 0, _ => false
  | k + 1, n => g n || zAny g k (n + 1)
theorem bt_zN1 (f : Nat → Int32) (x : Int32) (j : Nat) (hj : j < 32) : ∀ (k n : Nat) (y : Int32), bt (zN1 f x k n y) j = (bt y j || (zAny (fun n => bt x n && zJn f n j) k n && decide (j < 9)))
  | 0, n, y => by
    rw [zN1, zAny, Bool.false_and, Bool.or_false]
  | k + 1, n, y => by
    rw [zN1, bt_zN1 f x j hj k (n + 1), bt_zM1 f x n j hj 9 0 y (by decide), Bool.or_assoc, zAny]
    congr 1
    rw [decide_eq_decide.mpr (show (0 ≤ j ∧ j < 0 + 9) ↔ j < 9 by omega), ← Bool.and_or_distrib_right]
theorem bt_zAc (f : Nat → Int32) (j : Nat) (hj : j < 32) : ∀ (k i : Nat) (x : Int32), i + k ≤ 8 → bt (zAc f k i x) j = (bt x j || (decide (i ≤ j ∧ j < i + k ∧ j % 3 < 2) && zAcq f j))
  | 0, i, x, _ => by
    rw [zAc, decide_eq_false (by omega), Bool.false_and, Bool.or_false]
  | k + 1, i, x, h => by
    rw [zAc, bt_zAc f j hj k (i + 1) _ (by omega)]
    by_cases e : j = i
    · subst e
      rw [decide_eq_false (p := j + 1 ≤ j ∧ j < j + 1 + k ∧ j % 3 < 2) (by omega), Bool.false_and, Bool.or_false]
      by_cases c : j % 3 < 2 ∧ ¬ f j &&& 2 = 0 ∧ ¬ f (j + 1) &&& 8 = 0
      · rw [if_pos c, bt_or, bt_one _ (by omega) _ hj, decide_eq_true (p := j ≤ j ∧ j < j + (k + 1) ∧ j % 3 < 2) (by omega), zAcq, nz2.mp c.2.1, nz8.mp c.2.2, decide_eq_true rfl]
        rfl
      · rw [if_neg c]
        by_cases c1 : j % 3 < 2
        · have h9 : zAcq f j = false := by
            rw [zAcq]
            cases h1 : bt (f j) 1 <;> cases h2 : bt (f (j + 1)) 3
            · rfl
            · rfl
            · rfl
            · exact absurd ⟨c1, nz2.mpr h1, nz8.mpr h2⟩ c
          rw [h9, Bool.and_false, Bool.or_false]
        · rw [decide_eq_false (p := j ≤ j ∧ j < j + (k + 1) ∧ j % 3 < 2) (by omega), Bool.false_and, Bool.or_false]
    · rw [decide_eq_decide.mpr (show (i ≤ j ∧ j < i + (k + 1) ∧ j % 3 < 2) ↔ (i + 1 ≤ j ∧ j < i + 1 + k ∧ j % 3 < 2) by omega)]
      congr 1
      split
      · rw [bt_or, bt_one _ (by omega) _ hj, decide_eq_false e, Bool.or_false]
      · rfl
theorem bt_zDo (f : Nat → Int32) (j : Nat) (hj : j < 32) : ∀ (k i : Nat) (x : Int32), i + k ≤ 6 → bt (zDo f k i x) j = (bt x j || (decide (i ≤ j ∧ j < i + k) && zDoq f j))
  | 0, i, x, _ => by
    rw [zDo, decide_eq_false (by omega), Bool.false_and, Bool.or_false]
  | k + 1, i, x, h => by
    rw [zDo, bt_zDo f j hj k (i + 1) _ (by omega)]
    by_cases e : j = i
    · subst e
      rw [decide_eq_false (p := j + 1 ≤ j ∧ j < j + 1 + k) (by omega), Bool.false_and, Bool.or_false, decide_eq_true (p := j ≤ j ∧ j < j + (k + 1)) (by omega)]
      by_cases c : ¬ f j &&& 4 = 0 ∧ ¬ f (j + 3) &&& 1 = 0
      · rw [if_pos c, bt_or, bt_one _ (by omega) _ hj, zDoq, nz4.mp c.1, nz1.mp c.2, decide_eq_true rfl]
        rfl
      · rw [if_neg c]
        have h9 : zDoq f j = false := by
          rw [zDoq]
          cases h1 : bt (f j) 2 <;> cases h2 : bt (f (j + 3)) 0
          · rfl
          · rfl
          · rfl
          · exact absurd ⟨nz4.mpr h1, nz1.mpr h2⟩ c
        rw [h9, Bool.and_false, Bool.or_false]
    · rw [decide_eq_decide.mpr (show (i ≤ j ∧ j < i + (k + 1)) ↔ (i + 1 ≤ j ∧ j < i + 1 + k) by omega)]
      congr 1
      split
      · rw [bt_or, bt_one _ (by omega) _ hj, decide_eq_false e, Bool.or_false]
      · rfl
theorem bt_acr (f : Nat → Int32) (j : Nat) (hj : j < 32) : bt (zAcr f) j = (decide (j < 8 ∧ j % 3 < 2) && zAcq f j) := by
  rw [zAcr, bt_zAc f j hj 8 0 0 (by decide), bt_0, Bool.false_or, decide_eq_decide.mpr (show (0 ≤ j ∧ j < 0 + 8 ∧ j % 3 < 2) ↔ (j < 8 ∧ j % 3 < 2) by omega)]
theorem bt_dow (f : Nat → Int32) (j : Nat) (hj : j < 32) : bt (zDow f) j = (decide (j < 6) && zDoq f j) := by
  rw [zDow, bt_zDo f j hj 6 0 0 (by decide), bt_0, Bool.false_or, decide_eq_decide.mpr (show (0 ≤ j ∧ j < 0 + 6) ↔ j < 6 by omega)]
def zW9 (x : Int32) : Prop := ∀ i, 9 ≤ i → bt x i = false
theorem bt_wi {x : Int32} (a d : Int32) (hx9 : zW9 x) (j : Nat) (hj : j < 32) : bt (zWi x a d) j = ((bt x j || ((decide (1 ≤ j) && (bt x (j - 1) && bt a (j - 1))) || (bt x (1 + j) && bt a j))) || ((decide (3 ≤ j) && (bt x (j - 3) && bt d (j - 3))) || (bt x (3 + j) && bt d j))) := by
  have h31 : bt x 31 = false := hx9 31 (by decide)
  show bt ((x ||| (((x &&& a) <<< (nI 1 &&& 31)) ||| ((x >>> (nI 1 &&& 31)) &&& a))) ||| (((x &&& d) <<< (nI 3 &&& 31)) ||| ((x >>> (nI 3 &&& 31)) &&& d))) j = _
  rw [bt_or, bt_or, bt_or, bt_or, bt_shl _ (by decide) hj, bt_shl _ (by decide) hj, bt_and, bt_and, bt_and, bt_and, bt_shr _ (by decide) hj h31, bt_shr _ (by decide) hj h31]
theorem zN1_wi (f : Nat → Int32) {x : Int32} (hx9 : zW9 x) : zN1 f x 9 0 x = zWi x (zAcr f) (zDow f) := by
  refine bt_ext (fun j hj => ?_)
  rw [bt_zN1 f x j hj, bt_wi _ _ hx9 j hj, bt_acr f j hj, bt_dow f j hj, bt_acr f (j - 1) (by omega), bt_dow f (j - 3) (by omega)]
  by_cases h9 : j < 9
  · have h : j = 0 ∨ j = 1 ∨ j = 2 ∨ j = 3 ∨ j = 4 ∨ j = 5 ∨ j = 6 ∨ j = 7 ∨ j = 8 := by omega
    have b9 := hx9 9 (by decide)
    have b10 := hx9 10 (by decide)
    have b11 := hx9 11 (by decide)
    rcases h with rfl | rfl | rfl | rfl | rfl | rfl | rfl | rfl | rfl <;> simp [zAny, zJn, zJb, b9, b10, b11, Bool.or_assoc, Bool.or_comm, Bool.or_left_comm]
  · rw [decide_eq_false h9, Bool.and_false, hx9 (1 + j) (by omega), hx9 (3 + j) (by omega), decide_eq_false (p := j - 1 < 8 ∧ (j - 1) % 3 < 2) (by omega), decide_eq_false (p := j - 3 < 6) (by omega)]
    simp
theorem zWi_9 (f : Nat → Int32) {x : Int32} (hx9 : zW9 x) : zW9 (zWi x (zAcr f) (zDow f)) := by
  intro j h9
  by_cases hj : j < 32
  · rw [bt_wi _ _ hx9 j hj, bt_acr f j hj, bt_dow f j hj, bt_acr f (j - 1) (by omega), bt_dow f (j - 3) (by omega), hx9 j h9, hx9 (1 + j) (by omega), hx9 (3 + j) (by omega), decide_eq_false (p := j - 1 < 8 ∧ (j - 1) % 3 < 2) (by omega), decide_eq_false (p := j - 3 < 6) (by omega)]
    simp
  · exact bt_hi _ (by omega)
theorem zRe_9 (f : Nat → Int32) : ∀ (k : Nat) {x : Int32}, zW9 x → zW9 (zRe (zAcr f) (zDow f) k x)
  | 0, _, h => h
  | k + 1, _, h => zRe_9 f k (zWi_9 f h)
theorem zOne_9 {s : Nat} (hs : s < 9) : zW9 (1 <<< (nI s &&& 31)) := by
  intro i h
  by_cases hi : i < 32
  · rw [bt_one _ (by omega) _ hi]
    exact decide_eq_false (by omega)
  · exact bt_hi _ (by omega)
theorem zRch_9 {f : Nat → Int32} (hw : zBw f) (k : Nat) : zW9 (zRch f k) := by
  obtain ⟨s, hs, es⟩ := hw.2.1
  rw [zRch, es]
  exact zRe_9 f k (zOne_9 hs)
theorem zW9_lt {x : Int32} (h : zW9 x) : ∃ v, v < 512 ∧ x = nI v := by
  refine ⟨x.toBitVec.toNat, Nat.lt_pow_two_of_testBit (n := 9) _ (fun i hi => h i hi), ?_⟩
  refine Int32.toBitVec_inj.mp ?_
  refine BitVec.eq_of_toNat_eq ?_
  show _ = (BitVec.ofInt 32 (x.toBitVec.toNat : Int)).toNat
  rw [BitVec.ofInt_natCast, BitVec.toNat_ofNat, Nat.mod_eq_of_lt x.toBitVec.isLt]
def zCn (x : Int32) : Nat → Nat → Int32 → Int32
  | 0, _, y => y
  | k + 1, i, y => zCn x k (i + 1) (y + (x >>> (nI i &&& 31) &&& 1))
theorem zCn_t : ∀ v : Fin 512, zCn (nI v.val) 9 0 0 = zBc (nI v.val) := by decide +kernel
theorem zCn_e {x : Int32} (h : zW9 x) : zCn x 9 0 0 = zBc x := by
  obtain ⟨v, hv, rfl⟩ := zW9_lt h
  exact zCn_t ⟨v, hv⟩
theorem zFd_r (t : Nat → Int32) (v : Int32) : ∀ (k i : Nat), zFd t v k i = -1 ∨ ∃ j, i ≤ j ∧ j < i + k ∧ zFd t v k i = nI j ∧ t j = v
  | 0, _ => Or.inl rfl
  | k + 1, i => by
    rw [zFd]
    by_cases h : t i = v
    · rw [if_pos h]
      exact Or.inr ⟨i, Nat.le_refl i, by omega, rfl, h⟩
    · rw [if_neg h]
      rcases zFd_r t v k (i + 1) with q | ⟨j, h1, h2, h3, h4⟩
      · exact Or.inl q
      · exact Or.inr ⟨j, by omega, by omega, h3, h4⟩
theorem zSp_r (f : Nat → Int32) : zSp f = -1 ∨ ∃ j, j < 9 ∧ zSp f = nI j ∧ f (9 + j) = zSo f := by
  rcases zFd_r (fun i => f (9 + i)) (zSo f) 9 0 with h | ⟨j, h1, h2, h3, h4⟩
  · exact Or.inl h
  · exact Or.inr ⟨j, by omega, h3, h4⟩
theorem zIn_nI {x : Int32} {j : Nat} (h : j < 9) : zIn x (nI j) = decide (x >>> (nI j &&& 31) &&& 1 = 1) := by
  rw [zIn, zPl_nI h, Bool.true_and]
theorem zIn_m1 (x : Int32) : zIn x (-1) = false := by
  rw [zIn, show zPl (-1) = false from rfl, Bool.false_and]
theorem zIn_sp {f : Nat → Int32} {x : Int32} (h : ¬ zSp f = -1) : zIn x (zSp f) = decide (x >>> (zSp f &&& 31) &&& 1 = 1) := by
  rcases zSp_r f with q | ⟨j, h1, h2, _⟩
  · exact absurd q h
  · rw [h2, zIn_nI h1]
/-! the pushing of a line, tile by tile -/
theorem zIl_lt {l k : Nat} (hl : l < 6) (hk : k < 3) : zIl l k < 9 := by
  unfold zIl
  split <;> omega
def zPn (l : Nat) (d : Int32) (i : Nat) : Nat := if d = 1 then zIl l (2 - i) else zIl l i
def zPm (l : Nat) (d : Int32) (i : Nat) : Nat := if d = 1 then zIl l (1 - i) else zIl l (i + 1)
def zXs (n m : Nat) (g : Nat → Int32) : Nat → Int32 := upd g 24 (if g 24 = nI n then nI m else if g 24 = nI m then nI n else g 24)
def zP1 (l : Nat) (d : Int32) (i : Nat) (g : Nat → Int32) : Nat → Int32 := zXs (zPn l d i) (zPm l d i) (zXg (zXg g (zPn l d i + 0) (zPm l d i + 0)) (zPn l d i + 9) (zPm l d i + 9))
theorem zP1_e (l : Nat) (d : Int32) (i : Nat) (g : Nat → Int32) : zP1 l d i g = zXs (zPn l d i) (zPm l d i) (zXg (zXg g (zPn l d i + 0) (zPm l d i + 0)) (zPn l d i + 9) (zPm l d i + 9)) := rfl
def zPu (f : Nat → Int32) (l : Nat) (d : Int32) : Nat → Int32 := zIt (zP1 l d) 2 0 f
theorem zPu_e (f : Nat → Int32) (l : Nat) (d : Int32) : zPu f l d = zIt (zP1 l d) 2 0 f := rfl
def zSw (n m : Nat) (s : Int32) : Int32 := if s = nI n then nI m else if s = nI m then nI n else s
theorem zPn_lt {l i : Nat} (d : Int32) (hl : l < 6) (hi : i < 2) : zPn l d i < 9 := by
  unfold zPn
  split <;> exact zIl_lt hl (by omega)
theorem zPm_lt {l i : Nat} (d : Int32) (hl : l < 6) (hi : i < 2) : zPm l d i < 9 := by
  unfold zPm
  split <;> exact zIl_lt hl (by omega)
theorem zP1_24 {l i : Nat} (d : Int32) (hl : l < 6) (hi : i < 2) (g : Nat → Int32) : zP1 l d i g 24 = zSw (zPn l d i) (zPm l d i) (g 24) := by
  have h1 := zPn_lt d hl hi
  have h2 := zPm_lt d hl hi
  rw [zP1_e, zXs, pk_us, zXg_e, zXg_e, pk_un (by omega), pk_un (by omega), pk_un (by omega), pk_un (by omega), zSw]
theorem zPu_24 {l : Nat} (d : Int32) (hl : l < 6) (f : Nat → Int32) : zPu f l d 24 = zSw (zPn l d 1) (zPm l d 1) (zSw (zPn l d 0) (zPm l d 0) (f 24)) := by
  rw [zPu_e, zIt_s, zIt_s, zIt_0, zP1_24 d hl (by decide), zP1_24 d hl (by decide)]
theorem zSw_t : ∀ (l : Fin 6) (w : Fin 2) (s : Fin 9), zSw (zPn l.val (nI w.val) 1) (zPm l.val (nI w.val) 1) (zSw (zPn l.val (nI w.val) 0) (zPm l.val (nI w.val) 0) (nI s.val)) = zSh (zMa l.val) (zMb l.val) (zMh (nI w.val)) (nI s.val) 3 0 := by decide +kernel
theorem zPu_mv (f : Nat → Int32) {l : Nat} (hl : l < 6) {w : Nat} (hw : w < 2) {s : Nat} (hs : s < 9) (es : f 24 = nI s) : ∀ j, j < 28 → upd (upd (zPu f l (nI w)) 26 (nI l)) 27 (nI w) j = zMv f l (nI w) j := by
  have hl6 : l = 0 ∨ l = 1 ∨ l = 2 ∨ l = 3 ∨ l = 4 ∨ l = 5 := by omega
  have hw2 : w = 0 ∨ w = 1 := by omega
  have key : ∀ j, j < 28 → ¬ j = 24 → upd (upd (zPu f l (nI w)) 26 (nI l)) 27 (nI w) j = zMv f l (nI w) j := by
    intro j hj n24
    have hj8 : j = 0 ∨ j = 1 ∨ j = 2 ∨ j = 3 ∨ j = 4 ∨ j = 5 ∨ j = 6 ∨ j = 7 ∨ j = 8 ∨ j = 9 ∨ j = 10 ∨ j = 11 ∨ j = 12 ∨ j = 13 ∨ j = 14 ∨ j = 15 ∨ j = 16 ∨ j = 17 ∨ j = 18 ∨ j = 19 ∨ j = 20 ∨ j = 21 ∨ j = 22 ∨ j = 23 ∨ j = 25 ∨ j = 26 ∨ j = 27 := by omega
    rcases hl6 with rfl | rfl | rfl | rfl | rfl | rfl <;> rcases hw2 with rfl | rfl <;> rcases hj8 with rfl | rfl | rfl | rfl | rfl | rfl | rfl | rfl | rfl | rfl | rfl | rfl | rfl | rfl | rfl | rfl | rfl | rfl | rfl | rfl | rfl | rfl | rfl | rfl | rfl | rfl | rfl <;> rfl
  intro j hj
  by_cases n24 : j = 24
  · subst n24
    rw [pk_un (by decide), pk_un (by decide), zPu_24 _ hl, es]
    show _ = zSh (zMa l) (zMb l) (zMh (nI w)) (f 24) 3 0
    rw [es]
    exact zSw_t ⟨l, hl⟩ ⟨w, hw⟩ ⟨s, hs⟩
  · exact key j hj n24
theorem va_upe {α : Type} (f : Nat → α) (k : Nat) : va_up f k (f k) = f := by
  funext j
  unfold va_up
  by_cases e : j = k
  · rw [if_pos e, e]
  · rw [if_neg e]
set_option maxHeartbeats 4000000 in
set_option maxRecDepth 100000 in
theorem c_joinsBack (l : Launch) (G : zC) (r : Nat) (h : Nat → Int32) (b : Nat → Nat → Int32) (o n j : Nat) (ho : o < 4) (hn : n < 9) (hm : j < 9) (hmn : j < n) : zMet l G yX7_joinsBack wsX7_joinsBack rmX7_joinsBack [.ref r, .int (nI o), .int (nI n), .int (nI j)] (rfW G r h b) (some (.int (zb (zJb (b o) n j)))) (rfW G r h b) := by
  refine zMet_of (cc := cX7_joinsBack) (maxL := 6) (ret := (some .boolean)) (by decide) rfl (Nat.le_of_ble_eq_true rfl) ?_
  intro p e s m below meth c A ls hx hb hr hml hown hts hK hA hE hlocks hin hM hl
  have hown : s.vm.findClass RX7 = some m.cls := hown
  have hM : zM G A s s.heap [] ([(r, .inl (G.2 1, 121, .inl (flt h b)))]) := hM
  have hl : lv_has ls 6 [(0, .ref r), (1, .int (nI o)), (2, .int (nI n)), (3, .int (nI j))] := hl
  refine lv_aload_n hx hb dX7_joinsBack_0 rfl (lv_at hl 0 rfl) ?_
  refine lv_iload_n hx hb dX7_joinsBack_1 rfl (lv_at hl 1 rfl) ?_
  refine z_callS (As := [.int (nI o)]) (rest := [.ref r]) (wc := []) (wr := [(r, .inl (G.2 1, 121, .inl (flt h b)))]) (w1 := []) (ws' := [(r, .inl (G.2 1, 121, .inl (flt h b)))]) ⟨hx, hb, hml, hown, hts⟩ (c_at l G o (by omega)) (va_cwS 1 hts gX7_joinsBack_X7_at rfl rfl rfl (by decide +kernel) ⟨Nat.le_of_ble_eq_true rfl, Nat.le_of_ble_eq_true rfl⟩) rfl hl.1 rfl (Nat.le_of_ble_eq_true rfl) dX7_joinsBack_2 ⟨Nat.le_of_ble_eq_true rfl, Nat.le_of_ble_eq_true rfl⟩ hK hE hA hM (List.Perm.refl _) (List.Perm.refl _) (fun H locs hM hz => ?_)
  refine lv_iconst (v := 0) hx hb dX7_joinsBack_5 (by decide) ?_
  refine lv_iadd hx hb dX7_joinsBack_6 ?_
  refine z_topi (y := nI ((9 + (28 * o)) + 0)) (nI_add (9 + (28 * o)) 0) ?_
  refine lv_iload_n hx hb dX7_joinsBack_7 rfl (lv_at hl 2 rfl) ?_
  refine lv_iadd hx hb dX7_joinsBack_8 ?_
  refine z_topi (y := nI (((9 + (28 * o)) + 0) + n)) (nI_add ((9 + (28 * o)) + 0) n) ?_
  refine z_iald hx hb hK hM 0 rfl (v := b o n) (vp_in_nI (by omega) (by decide)) (by rw [nI_clamp (by omega)]; exact flt_b o n (by omega) (by omega)) dX7_joinsBack_9 ?_
  refine lv_istore (lv' := [(4, .int (b o n)), (0, .ref r), (1, .int (nI o)), (2, .int (nI n)), (3, .int (nI j))]) hx hb dX7_joinsBack_10 hl (by decide) rfl (fun ls hl => ?_)
  refine lv_aload_n hx hb dX7_joinsBack_12 rfl (lv_at hl 1 rfl) ?_
  refine lv_iload_n hx hb dX7_joinsBack_13 rfl (lv_at hl 2 rfl) ?_
  refine z_callS (As := [.int (nI o)]) (rest := [.ref r]) (wc := []) (wr := [(r, .inl (G.2 1, 121, .inl (flt h b)))]) (w1 := []) (ws' := [(r, .inl (G.2 1, 121, .inl (flt h b)))]) ⟨hx, hb, hml, hown, hts⟩ (c_at l G o (by omega)) (va_cwS 1 hts gX7_joinsBack_X7_at rfl rfl rfl (by decide +kernel) ⟨Nat.le_of_ble_eq_true rfl, Nat.le_of_ble_eq_true rfl⟩) rfl hl.1 rfl (Nat.le_of_ble_eq_true rfl) dX7_joinsBack_14 ⟨Nat.le_of_ble_eq_true rfl, Nat.le_of_ble_eq_true rfl⟩ hK hE hA hM (List.Perm.refl _) (List.Perm.refl _) (fun H locs hM hz => ?_)
  refine lv_iconst (v := 0) hx hb dX7_joinsBack_17 (by decide) ?_
  refine lv_iadd hx hb dX7_joinsBack_18 ?_
  refine z_topi (y := nI ((9 + (28 * o)) + 0)) (nI_add (9 + (28 * o)) 0) ?_
  refine lv_iload_n hx hb dX7_joinsBack_19 rfl (lv_at hl 4 rfl) ?_
  refine lv_iadd hx hb dX7_joinsBack_20 ?_
  refine z_topi (y := nI (((9 + (28 * o)) + 0) + j)) (nI_add ((9 + (28 * o)) + 0) j) ?_
  refine z_iald hx hb hK hM 0 rfl (v := b o j) (vp_in_nI (by omega) (by decide)) (by rw [nI_clamp (by omega)]; exact flt_b o j (by omega) (by omega)) dX7_joinsBack_21 ?_
  refine lv_istore (lv' := [(5, .int (b o j)), (4, .int (b o n)), (0, .ref r), (1, .int (nI o)), (2, .int (nI n)), (3, .int (nI j))]) hx hb dX7_joinsBack_22 hl (by decide) rfl (fun ls hl => ?_)
  refine lv_iload_n hx hb dX7_joinsBack_24 rfl (lv_at hl 5 rfl) ?_
  refine lv_iload_n hx hb dX7_joinsBack_25 rfl (lv_at hl 4 rfl) ?_
  refine lv_iconst (v := 1) hx hb dX7_joinsBack_26 (by decide) ?_
  refine lv_isub hx hb dX7_joinsBack_27 ?_
  refine z_topi (y := nI (n - 1)) (pk_sub (a := n) (b := 1) (by omega)) ?_
  refine lv_icmp_ne (tgt := 60) hx hb dX7_joinsBack_28 (by decide) (fun c_1 => ?_) (fun c_1 => ?_)
  · have e1 : ¬ j + 1 = n := fun q => c_1 (by rw [show n - 1 = j by omega])
    refine lv_iload_n hx hb dX7_joinsBack_60 rfl (lv_at hl 5 rfl) ?_
    refine lv_iload_n hx hb dX7_joinsBack_61 rfl (lv_at hl 4 rfl) ?_
    refine lv_iconst (v := 3) hx hb dX7_joinsBack_62 (by decide) ?_
    refine lv_isub hx hb dX7_joinsBack_63 ?_
    refine lv_icmp_ne (tgt := 85) hx hb dX7_joinsBack_64 (by decide) (fun c_2 => ?_) (fun c_2 => ?_)
    · have e5 : ¬ j + 3 = n := fun q => c_2 ((nI_s3 (by omega) (by omega)).mpr q)
      refine lv_iconst (v := 0) hx hb dX7_joinsBack_85 (by decide) ?_
      exact z_zret hx hb hr hlocks dX7_joinsBack_86 hM (Nat.le_of_ble_eq_true rfl) (Nat.le_of_ble_eq_true rfl) (by first | exact Or.inl rfl | exact Or.inr rfl | exact zb_01 _) (by rw [zJb, if_neg (fun q => e1 q.1), if_neg e5]; rfl)
    · have e5 : j + 3 = n := (nI_s3 (by omega) (by omega)).mp c_2
      refine lv_iload hx hb dX7_joinsBack_67 (lv_at hl 1 rfl) ?_
      refine lv_iconst (v := 1) hx hb dX7_joinsBack_69 (by decide) ?_
      refine lv_iand hx hb dX7_joinsBack_70 ?_
      refine lv_if_le (tgt := 85) hx hb dX7_joinsBack_71 (by decide) (fun c_3 => ?_) (fun c_3 => ?_)
      · have e6 : bt (b o (j + 3)) 0 = false := by rw [e5]; exact le1.mp c_3
        refine lv_iconst (v := 0) hx hb dX7_joinsBack_85 (by decide) ?_
        exact z_zret hx hb hr hlocks dX7_joinsBack_86 hM (Nat.le_of_ble_eq_true rfl) (Nat.le_of_ble_eq_true rfl) (by first | exact Or.inl rfl | exact Or.inr rfl | exact zb_01 _) (by rw [zJb, if_neg (fun q => e1 q.1), if_pos e5, zDoq, e6, Bool.and_false]; rfl)
      · have e6 : bt (b o (j + 3)) 0 = true := by rw [e5]; exact gt1.mp c_3
        refine lv_iload hx hb dX7_joinsBack_74 (lv_at hl 0 rfl) ?_
        refine lv_iconst (v := 4) hx hb dX7_joinsBack_76 (by decide) ?_
        refine lv_iand hx hb dX7_joinsBack_77 ?_
        refine lv_if_le (tgt := 85) hx hb dX7_joinsBack_78 (by decide) (fun c_4 => ?_) (fun c_4 => ?_)
        · have e7 : bt (b o j) 2 = false := le4.mp c_4
          refine lv_iconst (v := 0) hx hb dX7_joinsBack_85 (by decide) ?_
          exact z_zret hx hb hr hlocks dX7_joinsBack_86 hM (Nat.le_of_ble_eq_true rfl) (Nat.le_of_ble_eq_true rfl) (by first | exact Or.inl rfl | exact Or.inr rfl | exact zb_01 _) (by rw [zJb, if_neg (fun q => e1 q.1), if_pos e5, zDoq, e7, Bool.false_and]; rfl)
        · have e7 : bt (b o j) 2 = true := gt4.mp c_4
          refine lv_iconst (v := 1) hx hb dX7_joinsBack_81 (by decide) ?_
          refine lv_goto (tgt := 86) hx hb dX7_joinsBack_82 (by decide) ?_
          exact z_zret hx hb hr hlocks dX7_joinsBack_86 hM (Nat.le_of_ble_eq_true rfl) (Nat.le_of_ble_eq_true rfl) (by first | exact Or.inl rfl | exact Or.inr rfl | exact zb_01 _) (by rw [zJb, if_neg (fun q => e1 q.1), if_pos e5, zDoq, e6, e7]; rfl)
  · have e1 : j + 1 = n := by have h9 := (nI_eq (a := j) (b := n - 1) (by omega) (by omega)).mp c_1; omega
    refine lv_iload_n hx hb dX7_joinsBack_31 rfl (lv_at hl 4 rfl) ?_
    refine lv_iconst (v := 3) hx hb dX7_joinsBack_32 (by decide) ?_
    refine lv_irem hx hb dX7_joinsBack_33 (by decide) ?_
    refine z_topi (y := nI (n % 3)) (pk_rem (a := n) (d := 3) (by omega) (by decide) (by decide)) ?_
    refine lv_if_le (tgt := 60) hx hb dX7_joinsBack_34 (by decide) (fun c_5 => ?_) (fun c_5 => ?_)
    · have e2 : ¬ 0 < n % 3 := fun q => absurd ((nI_le0 (by omega)).mp c_5) (by omega)
      refine lv_iload_n hx hb dX7_joinsBack_60 rfl (lv_at hl 5 rfl) ?_
      refine lv_iload_n hx hb dX7_joinsBack_61 rfl (lv_at hl 4 rfl) ?_
      refine lv_iconst (v := 3) hx hb dX7_joinsBack_62 (by decide) ?_
      refine lv_isub hx hb dX7_joinsBack_63 ?_
      refine lv_icmp_ne (tgt := 85) hx hb dX7_joinsBack_64 (by decide) (fun c_6 => ?_) (fun c_6 => ?_)
      · have e5 : ¬ j + 3 = n := fun q => c_6 ((nI_s3 (by omega) (by omega)).mpr q)
        refine lv_iconst (v := 0) hx hb dX7_joinsBack_85 (by decide) ?_
        exact z_zret hx hb hr hlocks dX7_joinsBack_86 hM (Nat.le_of_ble_eq_true rfl) (Nat.le_of_ble_eq_true rfl) (by first | exact Or.inl rfl | exact Or.inr rfl | exact zb_01 _) (by rw [zJb, if_neg (fun q => e2 q.2), if_neg e5]; rfl)
      · have e5 : j + 3 = n := (nI_s3 (by omega) (by omega)).mp c_6
        refine lv_iload hx hb dX7_joinsBack_67 (lv_at hl 1 rfl) ?_
        refine lv_iconst (v := 1) hx hb dX7_joinsBack_69 (by decide) ?_
        refine lv_iand hx hb dX7_joinsBack_70 ?_
        refine lv_if_le (tgt := 85) hx hb dX7_joinsBack_71 (by decide) (fun c_7 => ?_) (fun c_7 => ?_)
        · have e6 : bt (b o (j + 3)) 0 = false := by rw [e5]; exact le1.mp c_7
          refine lv_iconst (v := 0) hx hb dX7_joinsBack_85 (by decide) ?_
          exact z_zret hx hb hr hlocks dX7_joinsBack_86 hM (Nat.le_of_ble_eq_true rfl) (Nat.le_of_ble_eq_true rfl) (by first | exact Or.inl rfl | exact Or.inr rfl | exact zb_01 _) (by rw [zJb, if_neg (fun q => e2 q.2), if_pos e5, zDoq, e6, Bool.and_false]; rfl)
        · have e6 : bt (b o (j + 3)) 0 = true := by rw [e5]; exact gt1.mp c_7
          refine lv_iload hx hb dX7_joinsBack_74 (lv_at hl 0 rfl) ?_
          refine lv_iconst (v := 4) hx hb dX7_joinsBack_76 (by decide) ?_
          refine lv_iand hx hb dX7_joinsBack_77 ?_
          refine lv_if_le (tgt := 85) hx hb dX7_joinsBack_78 (by decide) (fun c_8 => ?_) (fun c_8 => ?_)
          · have e7 : bt (b o j) 2 = false := le4.mp c_8
            refine lv_iconst (v := 0) hx hb dX7_joinsBack_85 (by decide) ?_
            exact z_zret hx hb hr hlocks dX7_joinsBack_86 hM (Nat.le_of_ble_eq_true rfl) (Nat.le_of_ble_eq_true rfl) (by first | exact Or.inl rfl | exact Or.inr rfl | exact zb_01 _) (by rw [zJb, if_neg (fun q => e2 q.2), if_pos e5, zDoq, e7, Bool.false_and]; rfl)
          · have e7 : bt (b o j) 2 = true := gt4.mp c_8
            refine lv_iconst (v := 1) hx hb dX7_joinsBack_81 (by decide) ?_
            refine lv_goto (tgt := 86) hx hb dX7_joinsBack_82 (by decide) ?_
            exact z_zret hx hb hr hlocks dX7_joinsBack_86 hM (Nat.le_of_ble_eq_true rfl) (Nat.le_of_ble_eq_true rfl) (by first | exact Or.inl rfl | exact Or.inr rfl | exact zb_01 _) (by rw [zJb, if_neg (fun q => e2 q.2), if_pos e5, zDoq, e6, e7]; rfl)
    · have e2 : 0 < n % 3 := Nat.pos_of_ne_zero (fun q => c_5 ((nI_le0 (by omega)).mpr q))
      refine lv_iload hx hb dX7_joinsBack_37 (lv_at hl 1 rfl) ?_
      refine lv_bipush (v := 8) hx hb dX7_joinsBack_39 (by decide) ?_
      refine lv_iand hx hb dX7_joinsBack_41 ?_
      refine lv_if_le (tgt := 56) hx hb dX7_joinsBack_42 (by decide) (fun c_9 => ?_) (fun c_9 => ?_)
      · have e3 : bt (b o (j + 1)) 3 = false := by rw [e1]; exact le8.mp c_9
        refine lv_iconst (v := 0) hx hb dX7_joinsBack_56 (by decide) ?_
        refine lv_goto (tgt := 86) hx hb dX7_joinsBack_57 (by decide) ?_
        exact z_zret hx hb hr hlocks dX7_joinsBack_86 hM (Nat.le_of_ble_eq_true rfl) (Nat.le_of_ble_eq_true rfl) (by first | exact Or.inl rfl | exact Or.inr rfl | exact zb_01 _) (by rw [zJb, if_pos ⟨e1, e2⟩, zAcq, e3, Bool.and_false]; rfl)
      · have e3 : bt (b o (j + 1)) 3 = true := by rw [e1]; exact gt8.mp c_9
        refine lv_iload hx hb dX7_joinsBack_45 (lv_at hl 0 rfl) ?_
        refine lv_iconst (v := 2) hx hb dX7_joinsBack_47 (by decide) ?_
        refine lv_iand hx hb dX7_joinsBack_48 ?_
        refine lv_if_le (tgt := 56) hx hb dX7_joinsBack_49 (by decide) (fun c_10 => ?_) (fun c_10 => ?_)
        · have e4 : bt (b o j) 1 = false := le2.mp c_10
          refine lv_iconst (v := 0) hx hb dX7_joinsBack_56 (by decide) ?_
          refine lv_goto (tgt := 86) hx hb dX7_joinsBack_57 (by decide) ?_
          exact z_zret hx hb hr hlocks dX7_joinsBack_86 hM (Nat.le_of_ble_eq_true rfl) (Nat.le_of_ble_eq_true rfl) (by first | exact Or.inl rfl | exact Or.inr rfl | exact zb_01 _) (by rw [zJb, if_pos ⟨e1, e2⟩, zAcq, e4, Bool.false_and]; rfl)
        · have e4 : bt (b o j) 1 = true := gt2.mp c_10
          refine lv_iconst (v := 1) hx hb dX7_joinsBack_52 (by decide) ?_
          refine lv_goto (tgt := 86) hx hb dX7_joinsBack_53 (by decide) ?_
          exact z_zret hx hb hr hlocks dX7_joinsBack_86 hM (Nat.le_of_ble_eq_true rfl) (Nat.le_of_ble_eq_true rfl) (by first | exact Or.inl rfl | exact Or.inr rfl | exact zb_01 _) (by rw [zJb, if_pos ⟨e1, e2⟩, zAcq, e3, e4]; rfl)

set_option maxHeartbeats 4000000 in
set_option maxRecDepth 100000 in
theorem c_joins (l : Launch) (G : zC) (r : Nat) (h : Nat → Int32) (b : Nat → Nat → Int32) (o n j : Nat) (ho : o < 4) (hn : n < 9) (hm : j < 9) : zMet l G yX7_joins wsX7_joins rmX7_joins [.ref r, .int (nI o), .int (nI n), .int (nI j)] (rfW G r h b) (some (.int (zb (zJn (b o) n j)))) (rfW G r h b) := by
  refine zMet_of (cc := cX7_joins) (maxL := 6) (ret := (some .boolean)) (by decide) rfl (Nat.le_of_ble_eq_true rfl) ?_
  intro p e s m below meth c A ls hx hb hr hml hown hts hK hA hE hlocks hin hM hl
  have hown : s.vm.findClass RX7 = some m.cls := hown
  have hM : zM G A s s.heap [] ([(r, .inl (G.2 1, 121, .inl (flt h b)))]) := hM
  have hl : lv_has ls 6 [(0, .ref r), (1, .int (nI o)), (2, .int (nI n)), (3, .int (nI j))] := hl
  refine lv_aload_n hx hb dX7_joins_0 rfl (lv_at hl 0 rfl) ?_
  refine lv_iload_n hx hb dX7_joins_1 rfl (lv_at hl 1 rfl) ?_
  refine z_callS (As := [.int (nI o)]) (rest := [.ref r]) (wc := []) (wr := [(r, .inl (G.2 1, 121, .inl (flt h b)))]) (w1 := []) (ws' := [(r, .inl (G.2 1, 121, .inl (flt h b)))]) ⟨hx, hb, hml, hown, hts⟩ (c_at l G o (by omega)) (va_cwS 1 hts gX7_joins_X7_at rfl rfl rfl (by decide +kernel) ⟨Nat.le_of_ble_eq_true rfl, Nat.le_of_ble_eq_true rfl⟩) rfl hl.1 rfl (Nat.le_of_ble_eq_true rfl) dX7_joins_2 ⟨Nat.le_of_ble_eq_true rfl, Nat.le_of_ble_eq_true rfl⟩ hK hE hA hM (List.Perm.refl _) (List.Perm.refl _) (fun H locs hM hz => ?_)
  refine lv_iconst (v := 0) hx hb dX7_joins_5 (by decide) ?_
  refine lv_iadd hx hb dX7_joins_6 ?_
  refine z_topi (y := nI ((9 + (28 * o)) + 0)) (nI_add (9 + (28 * o)) 0) ?_
  refine lv_iload_n hx hb dX7_joins_7 rfl (lv_at hl 2 rfl) ?_
  refine lv_iadd hx hb dX7_joins_8 ?_
  refine z_topi (y := nI (((9 + (28 * o)) + 0) + n)) (nI_add ((9 + (28 * o)) + 0) n) ?_
  refine z_iald hx hb hK hM 0 rfl (v := b o n) (vp_in_nI (by omega) (by decide)) (by rw [nI_clamp (by omega)]; exact flt_b o n (by omega) (by omega)) dX7_joins_9 ?_
  refine lv_istore (lv' := [(4, .int (b o n)), (0, .ref r), (1, .int (nI o)), (2, .int (nI n)), (3, .int (nI j))]) hx hb dX7_joins_10 hl (by decide) rfl (fun ls hl => ?_)
  refine lv_aload_n hx hb dX7_joins_12 rfl (lv_at hl 1 rfl) ?_
  refine lv_iload_n hx hb dX7_joins_13 rfl (lv_at hl 2 rfl) ?_
  refine z_callS (As := [.int (nI o)]) (rest := [.ref r]) (wc := []) (wr := [(r, .inl (G.2 1, 121, .inl (flt h b)))]) (w1 := []) (ws' := [(r, .inl (G.2 1, 121, .inl (flt h b)))]) ⟨hx, hb, hml, hown, hts⟩ (c_at l G o (by omega)) (va_cwS 1 hts gX7_joins_X7_at rfl rfl rfl (by decide +kernel) ⟨Nat.le_of_ble_eq_true rfl, Nat.le_of_ble_eq_true rfl⟩) rfl hl.1 rfl (Nat.le_of_ble_eq_true rfl) dX7_joins_14 ⟨Nat.le_of_ble_eq_true rfl, Nat.le_of_ble_eq_true rfl⟩ hK hE hA hM (List.Perm.refl _) (List.Perm.refl _) (fun H locs hM hz => ?_)
  refine lv_iconst (v := 0) hx hb dX7_joins_17 (by decide) ?_
  refine lv_iadd hx hb dX7_joins_18 ?_
  refine z_topi (y := nI ((9 + (28 * o)) + 0)) (nI_add (9 + (28 * o)) 0) ?_
  refine lv_iload_n hx hb dX7_joins_19 rfl (lv_at hl 4 rfl) ?_
  refine lv_iadd hx hb dX7_joins_20 ?_
  refine z_topi (y := nI (((9 + (28 * o)) + 0) + j)) (nI_add ((9 + (28 * o)) + 0) j) ?_
  refine z_iald hx hb hK hM 0 rfl (v := b o j) (vp_in_nI (by omega) (by decide)) (by rw [nI_clamp (by omega)]; exact flt_b o j (by omega) (by omega)) dX7_joins_21 ?_
  refine lv_istore (lv' := [(5, .int (b o j)), (4, .int (b o n)), (0, .ref r), (1, .int (nI o)), (2, .int (nI n)), (3, .int (nI j))]) hx hb dX7_joins_22 hl (by decide) rfl (fun ls hl => ?_)
  refine lv_iload_n hx hb dX7_joins_24 rfl (lv_at hl 5 rfl) ?_
  refine lv_iload_n hx hb dX7_joins_25 rfl (lv_at hl 4 rfl) ?_
  refine lv_iconst (v := 1) hx hb dX7_joins_26 (by decide) ?_
  refine lv_iadd hx hb dX7_joins_27 ?_
  refine z_topi (y := nI (n + 1)) (nI_add n 1) ?_
  refine lv_icmp_ne (tgt := 58) hx hb dX7_joins_28 (by decide) (fun c_1 => ?_) (fun c_1 => ?_)
  · have e1 : ¬ j = n + 1 := fun q => c_1 (by rw [q])
    refine lv_iload_n hx hb dX7_joins_58 rfl (lv_at hl 5 rfl) ?_
    refine lv_iload_n hx hb dX7_joins_59 rfl (lv_at hl 4 rfl) ?_
    refine lv_iconst (v := 3) hx hb dX7_joins_60 (by decide) ?_
    refine lv_iadd hx hb dX7_joins_61 ?_
    refine z_topi (y := nI (n + 3)) (nI_add n 3) ?_
    refine lv_icmp_ne (tgt := 85) hx hb dX7_joins_62 (by decide) (fun c_2 => ?_) (fun c_2 => ?_)
    · have e5 : ¬ j = n + 3 := fun q => c_2 (by rw [q])
      refine lv_iload_n hx hb dX7_joins_85 rfl (lv_at hl 5 rfl) ?_
      refine lv_iload_n hx hb dX7_joins_86 rfl (lv_at hl 4 rfl) ?_
      refine lv_icmp_ge (tgt := 104) hx hb dX7_joins_87 (by decide) (fun c_3 => ?_) (fun c_3 => ?_)
      · have e8 : ¬ j < n := Nat.not_lt.mpr ((nI_leI (by omega) (by omega)).mp c_3)
        refine lv_iconst (v := 0) hx hb dX7_joins_104 (by decide) ?_
        exact z_zret hx hb hr hlocks dX7_joins_105 hM (Nat.le_of_ble_eq_true rfl) (Nat.le_of_ble_eq_true rfl) (by first | exact Or.inl rfl | exact Or.inr rfl | exact zb_01 _) (by rw [zJn, if_neg (fun q => e1 q.1), if_neg e5, if_neg e8]; rfl)
      · have e8 : j < n := Nat.not_le.mp (fun q => c_3 ((nI_leI (by omega) (by omega)).mpr q))
        refine lv_aload_n hx hb dX7_joins_90 rfl (lv_at hl 2 rfl) ?_
        refine lv_iload_n hx hb dX7_joins_91 rfl (lv_at hl 3 rfl) ?_
        refine lv_iload_n hx hb dX7_joins_92 rfl (lv_at hl 4 rfl) ?_
        refine lv_iload_n hx hb dX7_joins_93 rfl (lv_at hl 5 rfl) ?_
        refine z_callS (As := [.ref r, .int (nI o), .int (nI n), .int (nI j)]) (rest := []) (wc := rfW G r h b) (wr := []) (w1 := rfW G r h b) (ws' := [(r, .inl (G.2 1, 121, .inl (flt h b)))]) ⟨hx, hb, hml, hown, hts⟩ (c_joinsBack l G r h b o n j (by omega) (by omega) (by omega) e8) (va_cwS 4 hts gX7_joins_X7_joinsBack rfl rfl rfl (by decide +kernel) ⟨Nat.le_of_ble_eq_true rfl, Nat.le_of_ble_eq_true rfl⟩) rfl hl.1 rfl (Nat.le_of_ble_eq_true rfl) dX7_joins_94 ⟨Nat.le_of_ble_eq_true rfl, Nat.le_of_ble_eq_true rfl⟩ hK hE hA hM (pm_at 1 [0] [] rfl rfl rfl (by decide)) ((pm_at 1 [0] [] rfl rfl rfl (by decide))).symm (fun H locs hM hz => ?_)
        refine z_ifeq (tgt := 104) hx hb dX7_joins_97 (by decide) (fun c_b => ?_) (fun c_b => ?_)
        · skip
          refine lv_iconst (v := 0) hx hb dX7_joins_104 (by decide) ?_
          exact z_zret hx hb hr hlocks dX7_joins_105 hM (Nat.le_of_ble_eq_true rfl) (Nat.le_of_ble_eq_true rfl) (by first | exact Or.inl rfl | exact Or.inr rfl | exact zb_01 _) (by rw [zJn, if_neg (fun q => e1 q.1), if_neg e5, if_pos e8, c_b]; rfl)
        · skip
          refine lv_iconst (v := 1) hx hb dX7_joins_100 (by decide) ?_
          refine lv_goto (tgt := 105) hx hb dX7_joins_101 (by decide) ?_
          exact z_zret hx hb hr hlocks dX7_joins_105 hM (Nat.le_of_ble_eq_true rfl) (Nat.le_of_ble_eq_true rfl) (by first | exact Or.inl rfl | exact Or.inr rfl | exact zb_01 _) (by rw [zJn, if_neg (fun q => e1 q.1), if_neg e5, if_pos e8, c_b]; rfl)
    · have e5 : j = n + 3 := (nI_eq (a := j) (b := n + 3) (by omega) (by omega)).mp c_2
      refine lv_iload hx hb dX7_joins_65 (lv_at hl 1 rfl) ?_
      refine lv_iconst (v := 4) hx hb dX7_joins_67 (by decide) ?_
      refine lv_iand hx hb dX7_joins_68 ?_
      refine lv_if_le (tgt := 83) hx hb dX7_joins_69 (by decide) (fun c_4 => ?_) (fun c_4 => ?_)
      · have e6 : bt (b o n) 2 = false := le4.mp c_4
        refine lv_iconst (v := 0) hx hb dX7_joins_83 (by decide) ?_
        exact z_zret hx hb hr hlocks dX7_joins_84 hM (Nat.le_of_ble_eq_true rfl) (Nat.le_of_ble_eq_true rfl) (by first | exact Or.inl rfl | exact Or.inr rfl | exact zb_01 _) (by rw [zJn, if_neg (fun q => e1 q.1), if_pos e5, zDoq, e6, Bool.false_and]; rfl)
      · have e6 : bt (b o n) 2 = true := gt4.mp c_4
        refine lv_iload hx hb dX7_joins_72 (lv_at hl 0 rfl) ?_
        refine lv_iconst (v := 1) hx hb dX7_joins_74 (by decide) ?_
        refine lv_iand hx hb dX7_joins_75 ?_
        refine lv_if_le (tgt := 83) hx hb dX7_joins_76 (by decide) (fun c_5 => ?_) (fun c_5 => ?_)
        · have e7 : bt (b o (n + 3)) 0 = false := by rw [← e5]; exact le1.mp c_5
          refine lv_iconst (v := 0) hx hb dX7_joins_83 (by decide) ?_
          exact z_zret hx hb hr hlocks dX7_joins_84 hM (Nat.le_of_ble_eq_true rfl) (Nat.le_of_ble_eq_true rfl) (by first | exact Or.inl rfl | exact Or.inr rfl | exact zb_01 _) (by rw [zJn, if_neg (fun q => e1 q.1), if_pos e5, zDoq, e7, Bool.and_false]; rfl)
        · have e7 : bt (b o (n + 3)) 0 = true := by rw [← e5]; exact gt1.mp c_5
          refine lv_iconst (v := 1) hx hb dX7_joins_79 (by decide) ?_
          refine lv_goto (tgt := 84) hx hb dX7_joins_80 (by decide) ?_
          exact z_zret hx hb hr hlocks dX7_joins_84 hM (Nat.le_of_ble_eq_true rfl) (Nat.le_of_ble_eq_true rfl) (by first | exact Or.inl rfl | exact Or.inr rfl | exact zb_01 _) (by rw [zJn, if_neg (fun q => e1 q.1), if_pos e5, zDoq, e6, e7]; rfl)
  · have e1 : j = n + 1 := (nI_eq (a := j) (b := n + 1) (by omega) (by omega)).mp c_1
    refine lv_iload_n hx hb dX7_joins_31 rfl (lv_at hl 5 rfl) ?_
    refine lv_iconst (v := 3) hx hb dX7_joins_32 (by decide) ?_
    refine lv_irem hx hb dX7_joins_33 (by decide) ?_
    refine z_topi (y := nI (j % 3)) (pk_rem (a := j) (d := 3) (by omega) (by decide) (by decide)) ?_
    refine lv_if_le (tgt := 58) hx hb dX7_joins_34 (by decide) (fun c_6 => ?_) (fun c_6 => ?_)
    · have e2 : ¬ 0 < j % 3 := fun q => absurd ((nI_le0 (by omega)).mp c_6) (by omega)
      refine lv_iload_n hx hb dX7_joins_58 rfl (lv_at hl 5 rfl) ?_
      refine lv_iload_n hx hb dX7_joins_59 rfl (lv_at hl 4 rfl) ?_
      refine lv_iconst (v := 3) hx hb dX7_joins_60 (by decide) ?_
      refine lv_iadd hx hb dX7_joins_61 ?_
      refine z_topi (y := nI (n + 3)) (nI_add n 3) ?_
      refine lv_icmp_ne (tgt := 85) hx hb dX7_joins_62 (by decide) (fun c_7 => ?_) (fun c_7 => ?_)
      · have e5 : ¬ j = n + 3 := fun q => c_7 (by rw [q])
        refine lv_iload_n hx hb dX7_joins_85 rfl (lv_at hl 5 rfl) ?_
        refine lv_iload_n hx hb dX7_joins_86 rfl (lv_at hl 4 rfl) ?_
        refine lv_icmp_ge (tgt := 104) hx hb dX7_joins_87 (by decide) (fun c_8 => ?_) (fun c_8 => ?_)
        · have e8 : ¬ j < n := Nat.not_lt.mpr ((nI_leI (by omega) (by omega)).mp c_8)
          refine lv_iconst (v := 0) hx hb dX7_joins_104 (by decide) ?_
          exact z_zret hx hb hr hlocks dX7_joins_105 hM (Nat.le_of_ble_eq_true rfl) (Nat.le_of_ble_eq_true rfl) (by first | exact Or.inl rfl | exact Or.inr rfl | exact zb_01 _) (by rw [zJn, if_neg (fun q => e2 q.2), if_neg e5, if_neg e8]; rfl)
        · have e8 : j < n := Nat.not_le.mp (fun q => c_8 ((nI_leI (by omega) (by omega)).mpr q))
          refine lv_aload_n hx hb dX7_joins_90 rfl (lv_at hl 2 rfl) ?_
          refine lv_iload_n hx hb dX7_joins_91 rfl (lv_at hl 3 rfl) ?_
          refine lv_iload_n hx hb dX7_joins_92 rfl (lv_at hl 4 rfl) ?_
          refine lv_iload_n hx hb dX7_joins_93 rfl (lv_at hl 5 rfl) ?_
          refine z_callS (As := [.ref r, .int (nI o), .int (nI n), .int (nI j)]) (rest := []) (wc := rfW G r h b) (wr := []) (w1 := rfW G r h b) (ws' := [(r, .inl (G.2 1, 121, .inl (flt h b)))]) ⟨hx, hb, hml, hown, hts⟩ (c_joinsBack l G r h b o n j (by omega) (by omega) (by omega) e8) (va_cwS 4 hts gX7_joins_X7_joinsBack rfl rfl rfl (by decide +kernel) ⟨Nat.le_of_ble_eq_true rfl, Nat.le_of_ble_eq_true rfl⟩) rfl hl.1 rfl (Nat.le_of_ble_eq_true rfl) dX7_joins_94 ⟨Nat.le_of_ble_eq_true rfl, Nat.le_of_ble_eq_true rfl⟩ hK hE hA hM (pm_at 1 [0] [] rfl rfl rfl (by decide)) ((pm_at 1 [0] [] rfl rfl rfl (by decide))).symm (fun H locs hM hz => ?_)
          refine z_ifeq (tgt := 104) hx hb dX7_joins_97 (by decide) (fun c_b => ?_) (fun c_b => ?_)
          · skip
            refine lv_iconst (v := 0) hx hb dX7_joins_104 (by decide) ?_
            exact z_zret hx hb hr hlocks dX7_joins_105 hM (Nat.le_of_ble_eq_true rfl) (Nat.le_of_ble_eq_true rfl) (by first | exact Or.inl rfl | exact Or.inr rfl | exact zb_01 _) (by rw [zJn, if_neg (fun q => e2 q.2), if_neg e5, if_pos e8, c_b]; rfl)
          · skip
            refine lv_iconst (v := 1) hx hb dX7_joins_100 (by decide) ?_
            refine lv_goto (tgt := 105) hx hb dX7_joins_101 (by decide) ?_
            exact z_zret hx hb hr hlocks dX7_joins_105 hM (Nat.le_of_ble_eq_true rfl) (Nat.le_of_ble_eq_true rfl) (by first | exact Or.inl rfl | exact Or.inr rfl | exact zb_01 _) (by rw [zJn, if_neg (fun q => e2 q.2), if_neg e5, if_pos e8, c_b]; rfl)
      · have e5 : j = n + 3 := (nI_eq (a := j) (b := n + 3) (by omega) (by omega)).mp c_7
        refine lv_iload hx hb dX7_joins_65 (lv_at hl 1 rfl) ?_
        refine lv_iconst (v := 4) hx hb dX7_joins_67 (by decide) ?_
        refine lv_iand hx hb dX7_joins_68 ?_
        refine lv_if_le (tgt := 83) hx hb dX7_joins_69 (by decide) (fun c_9 => ?_) (fun c_9 => ?_)
        · have e6 : bt (b o n) 2 = false := le4.mp c_9
          refine lv_iconst (v := 0) hx hb dX7_joins_83 (by decide) ?_
          exact z_zret hx hb hr hlocks dX7_joins_84 hM (Nat.le_of_ble_eq_true rfl) (Nat.le_of_ble_eq_true rfl) (by first | exact Or.inl rfl | exact Or.inr rfl | exact zb_01 _) (by rw [zJn, if_neg (fun q => e2 q.2), if_pos e5, zDoq, e6, Bool.false_and]; rfl)
        · have e6 : bt (b o n) 2 = true := gt4.mp c_9
          refine lv_iload hx hb dX7_joins_72 (lv_at hl 0 rfl) ?_
          refine lv_iconst (v := 1) hx hb dX7_joins_74 (by decide) ?_
          refine lv_iand hx hb dX7_joins_75 ?_
          refine lv_if_le (tgt := 83) hx hb dX7_joins_76 (by decide) (fun c_10 => ?_) (fun c_10 => ?_)
          · have e7 : bt (b o (n + 3)) 0 = false := by rw [← e5]; exact le1.mp c_10
            refine lv_iconst (v := 0) hx hb dX7_joins_83 (by decide) ?_
            exact z_zret hx hb hr hlocks dX7_joins_84 hM (Nat.le_of_ble_eq_true rfl) (Nat.le_of_ble_eq_true rfl) (by first | exact Or.inl rfl | exact Or.inr rfl | exact zb_01 _) (by rw [zJn, if_neg (fun q => e2 q.2), if_pos e5, zDoq, e7, Bool.and_false]; rfl)
          · have e7 : bt (b o (n + 3)) 0 = true := by rw [← e5]; exact gt1.mp c_10
            refine lv_iconst (v := 1) hx hb dX7_joins_79 (by decide) ?_
            refine lv_goto (tgt := 84) hx hb dX7_joins_80 (by decide) ?_
            exact z_zret hx hb hr hlocks dX7_joins_84 hM (Nat.le_of_ble_eq_true rfl) (Nat.le_of_ble_eq_true rfl) (by first | exact Or.inl rfl | exact Or.inr rfl | exact zb_01 _) (by rw [zJn, if_neg (fun q => e2 q.2), if_pos e5, zDoq, e6, e7]; rfl)
    · have e2 : 0 < j % 3 := Nat.pos_of_ne_zero (fun q => c_6 ((nI_le0 (by omega)).mpr q))
      refine lv_iload hx hb dX7_joins_37 (lv_at hl 1 rfl) ?_
      refine lv_iconst (v := 2) hx hb dX7_joins_39 (by decide) ?_
      refine lv_iand hx hb dX7_joins_40 ?_
      refine lv_if_le (tgt := 56) hx hb dX7_joins_41 (by decide) (fun c_11 => ?_) (fun c_11 => ?_)
      · have e3 : bt (b o n) 1 = false := le2.mp c_11
        refine lv_iconst (v := 0) hx hb dX7_joins_56 (by decide) ?_
        exact z_zret hx hb hr hlocks dX7_joins_57 hM (Nat.le_of_ble_eq_true rfl) (Nat.le_of_ble_eq_true rfl) (by first | exact Or.inl rfl | exact Or.inr rfl | exact zb_01 _) (by rw [zJn, if_pos ⟨e1, e2⟩, zAcq, e3, Bool.false_and]; rfl)
      · have e3 : bt (b o n) 1 = true := gt2.mp c_11
        refine lv_iload hx hb dX7_joins_44 (lv_at hl 0 rfl) ?_
        refine lv_bipush (v := 8) hx hb dX7_joins_46 (by decide) ?_
        refine lv_iand hx hb dX7_joins_48 ?_
        refine lv_if_le (tgt := 56) hx hb dX7_joins_49 (by decide) (fun c_12 => ?_) (fun c_12 => ?_)
        · have e4 : bt (b o (n + 1)) 3 = false := by rw [← e1]; exact le8.mp c_12
          refine lv_iconst (v := 0) hx hb dX7_joins_56 (by decide) ?_
          exact z_zret hx hb hr hlocks dX7_joins_57 hM (Nat.le_of_ble_eq_true rfl) (Nat.le_of_ble_eq_true rfl) (by first | exact Or.inl rfl | exact Or.inr rfl | exact zb_01 _) (by rw [zJn, if_pos ⟨e1, e2⟩, zAcq, e4, Bool.and_false]; rfl)
        · have e4 : bt (b o (n + 1)) 3 = true := by rw [← e1]; exact gt8.mp c_12
          refine lv_iconst (v := 1) hx hb dX7_joins_52 (by decide) ?_
          refine lv_goto (tgt := 57) hx hb dX7_joins_53 (by decide) ?_
          exact z_zret hx hb hr hlocks dX7_joins_57 hM (Nat.le_of_ble_eq_true rfl) (Nat.le_of_ble_eq_true rfl) (by first | exact Or.inl rfl | exact Or.inr rfl | exact zb_01 _) (by rw [zJn, if_pos ⟨e1, e2⟩, zAcq, e3, e4]; rfl)

set_option maxHeartbeats 4000000 in
set_option maxRecDepth 100000 in
theorem c_r_reach (l : Launch) (G : zC) (r : Nat) (h : Nat → Int32) (b : Nat → Nat → Int32) (o S : Nat) (ho : o < 4) (hS : S ≤ 9) (hw : zBw (b o)) : zMet l G yX7_reach wsX7_reach rmX7_reach [.ref r, .int (nI o), .int (nI S)] (rfW G r h b) (some (.int (zRch (b o) S))) (rfW G r h b) := by
  refine zMet_of (cc := cX7_reach) (maxL := 8) (ret := (some .int)) (by decide) rfl (Nat.le_of_ble_eq_true rfl) ?_
  intro p e s m below meth c A ls hx hb hr hml hown hts hK hA hE hlocks hin hM hl
  have hown : s.vm.findClass RX7 = some m.cls := hown
  have hM : zM G A s s.heap [] ([(r, .inl (G.2 1, 121, .inl (flt h b)))]) := hM
  have hl : lv_has ls 8 [(0, .ref r), (1, .int (nI o)), (2, .int (nI S))] := hl
  refine lv_iconst (v := 1) hx hb dX7_reach_0 (by decide) ?_
  refine lv_aload_n hx hb dX7_reach_1 rfl (lv_at hl 0 rfl) ?_
  refine lv_iload_n hx hb dX7_reach_2 rfl (lv_at hl 1 rfl) ?_
  refine z_callS (As := [.int (nI o)]) (rest := [.ref r, .int 1]) (wc := []) (wr := [(r, .inl (G.2 1, 121, .inl (flt h b)))]) (w1 := []) (ws' := [(r, .inl (G.2 1, 121, .inl (flt h b)))]) ⟨hx, hb, hml, hown, hts⟩ (c_at l G o (by omega)) (va_cwS 1 hts gX7_reach_X7_at rfl rfl rfl (by decide +kernel) ⟨Nat.le_of_ble_eq_true rfl, Nat.le_of_ble_eq_true rfl⟩) rfl hl.1 rfl (Nat.le_of_ble_eq_true rfl) dX7_reach_3 ⟨Nat.le_of_ble_eq_true rfl, Nat.le_of_ble_eq_true rfl⟩ hK hE hA hM (List.Perm.refl _) (List.Perm.refl _) (fun H locs hM hz => ?_)
  refine lv_bipush (v := 24) hx hb dX7_reach_6 (by decide) ?_
  refine lv_iadd hx hb dX7_reach_8 ?_
  refine z_topi (y := nI ((9 + (28 * o)) + 24)) (nI_add (9 + (28 * o)) 24) ?_
  refine z_iald hx hb hK hM 0 rfl (v := b o 24) (vp_in_nI (by omega) (by decide)) (by rw [nI_clamp (by omega)]; exact flt_b o 24 (by omega) (by omega)) dX7_reach_9 ?_
  refine lv_ishl hx hb dX7_reach_10 ?_
  refine lv_istore_n (lv' := [(3, .int (1 <<< ((b o 24) &&& 31))), (0, .ref r), (1, .int (nI o)), (2, .int (nI S))]) hx hb dX7_reach_11 rfl hl (by decide) rfl (fun ls hl => ?_)
  refine lv_iconst (v := nI 0) hx hb dX7_reach_12 (by decide) ?_
  refine lv_istore (lv' := [(4, .int (nI 0)), (3, .int (1 <<< ((b o 24) &&& 31))), (0, .ref r), (1, .int (nI o)), (2, .int (nI S))]) hx hb dX7_reach_13 hl (by decide) rfl (fun ls hl => ?_)
  have lp15 : ∀ (k1 : Nat) (i : Nat) (x : Int32), (i + k1 = S) → (zRch (b o) S = zRe (zAcr (b o)) (zDow (b o)) k1 x) → (zW9 x) → ∀ (H : Heap) (locs : List Loc), zM G A s H locs ([(r, .inl (G.2 1, 121, .inl (flt h b)))]) → ∀ ls : Array Slot, lv_has ls 8 [(0, .ref r), (1, .int (nI o)), (2, .int (nI S)), (3, .int x), (4, .int (nI i))] → W p l e rmX7_reach s m ([.ref r, .int (nI o), .int (nI S)] : List Value).toArray below meth c H locs 0 0 (zEnd G below ([.ref r, .int (nI o), .int (nI S)] : List Value).toArray s rmX7_reach A (some (.int (zRch (b o) S))) (rfW G r h b)) (F0 m 15 ls []) := by
    intro k1
    induction k1 with
    | zero =>
      intro i x hik hR h9 H locs hM ls hl
      refine lv_iload hx hb dX7_reach_15 (lv_at hl 4 rfl) ?_
      refine lv_iload_n hx hb dX7_reach_17 rfl (lv_at hl 2 rfl) ?_
      refine lv_icmp_ge (tgt := 100) hx hb dX7_reach_18 (by decide) (fun c_1 => ?_) (fun c_1 => absurd (nI_le (by omega) (by omega)) c_1)
      refine lv_iload_n hx hb dX7_reach_100 rfl (lv_at hl 3 rfl) ?_
      exact z_iret hx hb hr hlocks dX7_reach_101 hM (Nat.le_of_ble_eq_true rfl) (Nat.le_of_ble_eq_true rfl) (by rw [hR]; rfl)
    | succ k1 ihk1 =>
      intro i x hik hR h9 H locs hM ls hl
      refine lv_iload hx hb dX7_reach_15 (lv_at hl 4 rfl) ?_
      refine lv_iload_n hx hb dX7_reach_17 rfl (lv_at hl 2 rfl) ?_
      refine lv_icmp_ge (tgt := 100) hx hb dX7_reach_18 (by decide) (fun c_2 => absurd c_2 (nI_ge (by omega) (by omega))) (fun c_2 => ?_)
      refine lv_iload_n hx hb dX7_reach_21 rfl (lv_at hl 3 rfl) ?_
      refine lv_istore (lv' := [(5, .int x), (0, .ref r), (1, .int (nI o)), (2, .int (nI S)), (3, .int x), (4, .int (nI i))]) hx hb dX7_reach_22 hl (by decide) rfl (fun ls hl => ?_)
      refine lv_iconst (v := nI 0) hx hb dX7_reach_24 (by decide) ?_
      refine lv_istore (lv' := [(6, .int (nI 0)), (5, .int x), (0, .ref r), (1, .int (nI o)), (2, .int (nI S)), (3, .int x), (4, .int (nI i))]) hx hb dX7_reach_25 hl (by decide) rfl (fun ls hl => ?_)
      have lp27 : ∀ (k2 : Nat) (n : Nat) (y : Int32), (n + k2 = 9) → (zWi x (zAcr (b o)) (zDow (b o)) = zN1 (b o) x k2 n y) → ∀ (H : Heap) (locs : List Loc), zM G A s H locs ([(r, .inl (G.2 1, 121, .inl (flt h b)))]) → ∀ ls : Array Slot, lv_has ls 8 [(0, .ref r), (1, .int (nI o)), (2, .int (nI S)), (3, .int x), (4, .int (nI i)), (5, .int y), (6, .int (nI n))] → W p l e rmX7_reach s m ([.ref r, .int (nI o), .int (nI S)] : List Value).toArray below meth c H locs 0 0 (zEnd G below ([.ref r, .int (nI o), .int (nI S)] : List Value).toArray s rmX7_reach A (some (.int (zRch (b o) S))) (rfW G r h b)) (F0 m 27 ls []) := by
        intro k2
        induction k2 with
        | zero =>
          intro n y hn9 hN H locs hM ls hl
          refine lv_iload hx hb dX7_reach_27 (lv_at hl 6 rfl) ?_
          refine lv_bipush (v := 9) hx hb dX7_reach_29 (by decide) ?_
          refine z_topi (y := nI 9) rfl ?_
          refine lv_icmp_ge (tgt := 91) hx hb dX7_reach_31 (by decide) (fun c_3 => ?_) (fun c_3 => absurd (nI_le (by omega) (by omega)) c_3)
          refine lv_iload hx hb dX7_reach_91 (lv_at hl 5 rfl) ?_
          refine lv_istore_n (lv' := [(3, .int y), (0, .ref r), (1, .int (nI o)), (2, .int (nI S)), (4, .int (nI i)), (5, .int y), (6, .int (nI n))]) hx hb dX7_reach_93 rfl hl (by decide) rfl (fun ls hl => ?_)
          refine lv_iinc (v := nI (i + 1)) (lv' := [(4, .int (nI (i + 1))), (3, .int y), (0, .ref r), (1, .int (nI o)), (2, .int (nI S)), (5, .int y), (6, .int (nI n))]) hx hb dX7_reach_94 hl (k := 4) rfl (nI_1 i) (by decide) rfl (fun ls hl => ?_)
          refine lv_goto (tgt := 15) hx hb dX7_reach_97 (by decide) ?_
          exact ihk1 (i + 1) _ (by omega) (by rw [hR, zRe, hN, zN1]) (by have h8 := zWi_9 (b o) h9; rw [hN, zN1] at h8; exact h8) _ _ hM _ (lv_sub hl [2, 3, 4, 1, 0] rfl)
        | succ k2 ihk2 =>
          intro n y hn9 hN H locs hM ls hl
          refine lv_iload hx hb dX7_reach_27 (lv_at hl 6 rfl) ?_
          refine lv_bipush (v := 9) hx hb dX7_reach_29 (by decide) ?_
          refine z_topi (y := nI 9) rfl ?_
          refine lv_icmp_ge (tgt := 91) hx hb dX7_reach_31 (by decide) (fun c_4 => absurd c_4 (nI_ge (by omega) (by omega))) (fun c_4 => ?_)
          refine lv_iconst (v := nI 0) hx hb dX7_reach_34 (by decide) ?_
          refine lv_istore (lv' := [(7, .int (nI 0)), (0, .ref r), (1, .int (nI o)), (2, .int (nI S)), (3, .int x), (4, .int (nI i)), (5, .int y), (6, .int (nI n))]) hx hb dX7_reach_35 hl (by decide) rfl (fun ls hl => ?_)
          have lp37 : ∀ (k3 : Nat) (q : Nat) (z : Int32), (q + k3 = 9) → (zM1 (b o) x n 9 0 y = zM1 (b o) x n k3 q z) → ∀ (H : Heap) (locs : List Loc), zM G A s H locs ([(r, .inl (G.2 1, 121, .inl (flt h b)))]) → ∀ ls : Array Slot, lv_has ls 8 [(0, .ref r), (1, .int (nI o)), (2, .int (nI S)), (3, .int x), (4, .int (nI i)), (5, .int z), (6, .int (nI n)), (7, .int (nI q))] → W p l e rmX7_reach s m ([.ref r, .int (nI o), .int (nI S)] : List Value).toArray below meth c H locs 0 0 (zEnd G below ([.ref r, .int (nI o), .int (nI S)] : List Value).toArray s rmX7_reach A (some (.int (zRch (b o) S))) (rfW G r h b)) (F0 m 37 ls []) := by
            intro k3
            induction k3 with
            | zero =>
              intro q z hq9 hM3 H locs hM ls hl
              refine lv_iload hx hb dX7_reach_37 (lv_at hl 7 rfl) ?_
              refine lv_bipush (v := 9) hx hb dX7_reach_39 (by decide) ?_
              refine z_topi (y := nI 9) rfl ?_
              refine lv_icmp_ge (tgt := 85) hx hb dX7_reach_41 (by decide) (fun c_5 => ?_) (fun c_5 => absurd (nI_le (by omega) (by omega)) c_5)
              refine lv_iinc (v := nI (n + 1)) (lv' := [(6, .int (nI (n + 1))), (0, .ref r), (1, .int (nI o)), (2, .int (nI S)), (3, .int x), (4, .int (nI i)), (5, .int z), (7, .int (nI q))]) hx hb dX7_reach_85 hl (k := 6) rfl (nI_1 n) (by decide) rfl (fun ls hl => ?_)
              refine lv_goto (tgt := 27) hx hb dX7_reach_88 (by decide) ?_
              exact ihk2 (n + 1) _ (by omega) (by rw [hN, zN1, hM3, zM1]) _ _ hM _ (lv_sub hl [1, 2, 3, 4, 5, 6, 0] rfl)
            | succ k3 ihk3 =>
              intro q z hq9 hM3 H locs hM ls hl
              refine lv_iload hx hb dX7_reach_37 (lv_at hl 7 rfl) ?_
              refine lv_bipush (v := 9) hx hb dX7_reach_39 (by decide) ?_
              refine z_topi (y := nI 9) rfl ?_
              refine lv_icmp_ge (tgt := 85) hx hb dX7_reach_41 (by decide) (fun c_6 => absurd c_6 (nI_ge (by omega) (by omega))) (fun c_6 => ?_)
              refine lv_iload hx hb dX7_reach_44 (lv_at hl 5 rfl) ?_
              refine lv_iload_n hx hb dX7_reach_46 rfl (lv_at hl 3 rfl) ?_
              refine lv_iload hx hb dX7_reach_47 (lv_at hl 6 rfl) ?_
              refine lv_ishr hx hb dX7_reach_49 ?_
              refine lv_iconst (v := 1) hx hb dX7_reach_50 (by decide) ?_
              refine lv_iand hx hb dX7_reach_51 ?_
              refine lv_iconst (v := 1) hx hb dX7_reach_52 (by decide) ?_
              refine lv_icmp_ne (tgt := 75) hx hb dX7_reach_53 (by decide) (fun c_7 => ?_) (fun c_7 => ?_)
              · have e1 : ¬ bt x n = true := fun q => c_7 ((bt_at (by omega) (h9 31 (by decide))).mpr q)
                refine lv_iconst (v := 0) hx hb dX7_reach_75 (by decide) ?_
                refine lv_ior hx hb dX7_reach_76 ?_
                refine lv_istore (lv' := [(5, .int (z ||| 0)), (0, .ref r), (1, .int (nI o)), (2, .int (nI S)), (3, .int x), (4, .int (nI i)), (6, .int (nI n)), (7, .int (nI q))]) hx hb dX7_reach_77 hl (by decide) rfl (fun ls hl => ?_)
                refine lv_iinc (v := nI (q + 1)) (lv' := [(7, .int (nI (q + 1))), (5, .int (z ||| 0)), (0, .ref r), (1, .int (nI o)), (2, .int (nI S)), (3, .int x), (4, .int (nI i)), (6, .int (nI n))]) hx hb dX7_reach_79 hl (k := 7) rfl (nI_1 q) (by decide) rfl (fun ls hl => ?_)
                refine lv_goto (tgt := 37) hx hb dX7_reach_82 (by decide) ?_
                exact ihk3 (q + 1) _ (by omega) (by rw [hM3, zM1, zUp, if_neg (fun q9 => e1 q9.1)]) _ _ hM _ (lv_sub hl [2, 3, 4, 5, 6, 1, 7, 0] rfl)
              · have e1 : bt x n = true := (bt_at (by omega) (h9 31 (by decide))).mp c_7
                refine lv_aload_n hx hb dX7_reach_56 rfl (lv_at hl 0 rfl) ?_
                refine lv_iload_n hx hb dX7_reach_57 rfl (lv_at hl 1 rfl) ?_
                refine lv_iload hx hb dX7_reach_58 (lv_at hl 6 rfl) ?_
                refine lv_iload hx hb dX7_reach_60 (lv_at hl 7 rfl) ?_
                refine z_callS (As := [.ref r, .int (nI o), .int (nI n), .int (nI q)]) (rest := [.int z]) (wc := rfW G r h b) (wr := []) (w1 := rfW G r h b) (ws' := [(r, .inl (G.2 1, 121, .inl (flt h b)))]) ⟨hx, hb, hml, hown, hts⟩ (c_joins l G r h b o n q (by omega) (by omega) (by omega) ) (va_cwS 4 hts gX7_reach_X7_joins rfl rfl rfl (by decide +kernel) ⟨Nat.le_of_ble_eq_true rfl, Nat.le_of_ble_eq_true rfl⟩) rfl hl.1 rfl (Nat.le_of_ble_eq_true rfl) dX7_reach_62 ⟨Nat.le_of_ble_eq_true rfl, Nat.le_of_ble_eq_true rfl⟩ hK hE hA hM (pm_at 1 [0] [] rfl rfl rfl (by decide)) ((pm_at 1 [0] [] rfl rfl rfl (by decide))).symm (fun H locs hM hz => ?_)
                refine z_ifeq (tgt := 75) hx hb dX7_reach_65 (by decide) (fun c_j => ?_) (fun c_j => ?_)
                · skip
                  refine lv_iconst (v := 0) hx hb dX7_reach_75 (by decide) ?_
                  refine lv_ior hx hb dX7_reach_76 ?_
                  refine lv_istore (lv' := [(5, .int (z ||| 0)), (0, .ref r), (1, .int (nI o)), (2, .int (nI S)), (3, .int x), (4, .int (nI i)), (6, .int (nI n)), (7, .int (nI q))]) hx hb dX7_reach_77 hl (by decide) rfl (fun ls hl => ?_)
                  refine lv_iinc (v := nI (q + 1)) (lv' := [(7, .int (nI (q + 1))), (5, .int (z ||| 0)), (0, .ref r), (1, .int (nI o)), (2, .int (nI S)), (3, .int x), (4, .int (nI i)), (6, .int (nI n))]) hx hb dX7_reach_79 hl (k := 7) rfl (nI_1 q) (by decide) rfl (fun ls hl => ?_)
                  refine lv_goto (tgt := 37) hx hb dX7_reach_82 (by decide) ?_
                  exact ihk3 (q + 1) _ (by omega) (by rw [hM3, zM1, zUp, if_neg (fun q9 => absurd q9.2 (by rw [c_j]; decide))]) _ _ hM _ (lv_sub hl [2, 3, 4, 5, 6, 1, 7, 0] rfl)
                · skip
                  refine lv_iconst (v := 1) hx hb dX7_reach_68 (by decide) ?_
                  refine lv_iload hx hb dX7_reach_69 (lv_at hl 7 rfl) ?_
                  refine lv_ishl hx hb dX7_reach_71 ?_
                  refine lv_goto (tgt := 76) hx hb dX7_reach_72 (by decide) ?_
                  refine lv_ior hx hb dX7_reach_76 ?_
                  refine lv_istore (lv' := [(5, .int (z ||| (1 <<< ((nI q) &&& 31)))), (0, .ref r), (1, .int (nI o)), (2, .int (nI S)), (3, .int x), (4, .int (nI i)), (6, .int (nI n)), (7, .int (nI q))]) hx hb dX7_reach_77 hl (by decide) rfl (fun ls hl => ?_)
                  refine lv_iinc (v := nI (q + 1)) (lv' := [(7, .int (nI (q + 1))), (5, .int (z ||| (1 <<< ((nI q) &&& 31)))), (0, .ref r), (1, .int (nI o)), (2, .int (nI S)), (3, .int x), (4, .int (nI i)), (6, .int (nI n))]) hx hb dX7_reach_79 hl (k := 7) rfl (nI_1 q) (by decide) rfl (fun ls hl => ?_)
                  refine lv_goto (tgt := 37) hx hb dX7_reach_82 (by decide) ?_
                  exact ihk3 (q + 1) _ (by omega) (by rw [hM3, zM1, zUp, if_pos ⟨e1, c_j⟩]) _ _ hM _ (lv_sub hl [2, 3, 4, 5, 6, 1, 7, 0] rfl)
          exact lp37 9 0 _ rfl rfl _ _ hM _ (lv_sub hl [1, 2, 3, 4, 5, 6, 7, 0] rfl)
      exact lp27 9 0 _ rfl (zN1_wi (b o) h9).symm _ _ hM _ (lv_sub hl [2, 3, 4, 5, 6, 1, 0] rfl)
  exact lp15 S 0 _ (by omega) rfl (by obtain ⟨s8, hs8, es8⟩ := hw.2.1; rw [es8]; exact zOne_9 hs8) _ _ hM _ (lv_sub hl [2, 3, 4, 1, 0] rfl)

set_option maxHeartbeats 4000000 in
set_option maxRecDepth 100000 in
theorem c_reachable (l : Launch) (G : zC) (r : Nat) (h : Nat → Int32) (b : Nat → Nat → Int32) (o S : Nat) (ho : o < 4) (hS : S ≤ 9) (hw : zBw (b o)) (h6 : h 6 = nI S) : zMet l G yX7_reachable wsX7_reachable rmX7_reachable [.ref r, .int (nI o)] (rfW G r h b) (some (.int (zRch (b o) S))) (rfW G r h b) := by
  refine zMet_of (cc := cX7_reachable) (maxL := 2) (ret := (some .int)) (by decide) rfl (Nat.le_of_ble_eq_true rfl) ?_
  intro p e s m below meth c A ls hx hb hr hml hown hts hK hA hE hlocks hin hM hl
  have hown : s.vm.findClass RX7 = some m.cls := hown
  have hM : zM G A s s.heap [] ([(r, .inl (G.2 1, 121, .inl (flt h b)))]) := hM
  have hl : lv_has ls 2 [(0, .ref r), (1, .int (nI o))] := hl
  refine lv_aload_n hx hb dX7_reachable_0 rfl (lv_at hl 0 rfl) ?_
  refine lv_iload_n hx hb dX7_reachable_1 rfl (lv_at hl 1 rfl) ?_
  refine lv_aload_n hx hb dX7_reachable_2 rfl (lv_at hl 0 rfl) ?_
  refine lv_bipush (v := 6) hx hb dX7_reachable_3 (by decide) ?_
  refine z_iald hx hb hK hM 0 rfl (v := h 6) (vp_in_nI (n := 6) (by decide) (by decide)) (flt_h (k := 6) (by decide)) dX7_reachable_5 ?_
  refine z_topi (y := nI S) h6 ?_
  refine z_callS (As := [.ref r, .int (nI o), .int (nI S)]) (rest := []) (wc := rfW G r h b) (wr := []) (w1 := rfW G r h b) (ws' := [(r, .inl (G.2 1, 121, .inl (flt h b)))]) ⟨hx, hb, hml, hown, hts⟩ (c_r_reach l G r h b o S (by omega) (by omega) hw) (va_cwS 3 hts gX7_reachable_X7_reach rfl rfl rfl (by decide +kernel) ⟨Nat.le_of_ble_eq_true rfl, Nat.le_of_ble_eq_true rfl⟩) rfl hl.1 rfl (Nat.le_of_ble_eq_true rfl) dX7_reachable_6 ⟨Nat.le_of_ble_eq_true rfl, Nat.le_of_ble_eq_true rfl⟩ hK hE hA hM (pm_at 1 [0] [] rfl rfl rfl (by decide)) ((pm_at 1 [0] [] rfl rfl rfl (by decide))).symm (fun H locs hM hz => ?_)
  exact z_iret hx hb hr hlocks dX7_reachable_9 hM (Nat.le_of_ble_eq_true rfl) (Nat.le_of_ble_eq_true rfl) rfl

set_option maxHeartbeats 4000000 in
set_option maxRecDepth 100000 in
theorem c_count (l : Launch) (G : zC) (x : Int32) (h9 : zW9 x) : zMet l G yX7_count wsX7_count rmX7_count [.int x] ([]) (some (.int (zBc x))) ([]) := by
  refine zMet_of (cc := cX7_count) (maxL := 3) (ret := (some .int)) (by decide) rfl (Nat.le_of_ble_eq_true rfl) ?_
  intro p e s m below meth c A ls hx hb hr hml hown hts hK hA hE hlocks hin hM hl
  have hown : s.vm.findClass RX7 = some m.cls := hown
  have hM : zM G A s s.heap [] ([]) := hM
  have hl : lv_has ls 3 [(0, .int x)] := hl
  refine lv_iconst (v := 0) hx hb dX7_count_0 (by decide) ?_
  refine lv_istore_n (lv' := [(1, .int 0), (0, .int x)]) hx hb dX7_count_1 rfl hl (by decide) rfl (fun ls hl => ?_)
  refine lv_iconst (v := nI 0) hx hb dX7_count_2 (by decide) ?_
  refine lv_istore_n (lv' := [(2, .int (nI 0)), (1, .int 0), (0, .int x)]) hx hb dX7_count_3 rfl hl (by decide) rfl (fun ls hl => ?_)
  have lp4 : ∀ (k : Nat) (i : Nat) (y : Int32), (i + k = 9) → (zCn x 9 0 0 = zCn x k i y) → ∀ (H : Heap) (locs : List Loc), zM G A s H locs ([]) → ∀ ls : Array Slot, lv_has ls 3 [(0, .int x), (1, .int y), (2, .int (nI i))] → W p l e rmX7_count s m ([.int x] : List Value).toArray below meth c H locs 0 0 (zEnd G below ([.int x] : List Value).toArray s rmX7_count A (some (.int (zBc x))) ([])) (F0 m 4 ls []) := by
    intro k
    induction k with
    | zero =>
      intro i y hik hR H locs hM ls hl
      refine lv_iload_n hx hb dX7_count_4 rfl (lv_at hl 2 rfl) ?_
      refine lv_bipush (v := 9) hx hb dX7_count_5 (by decide) ?_
      refine z_topi (y := nI 9) rfl ?_
      refine lv_icmp_ge (tgt := 24) hx hb dX7_count_7 (by decide) (fun c_1 => ?_) (fun c_1 => absurd (nI_le (by omega) (by omega)) c_1)
      refine lv_iload_n hx hb dX7_count_24 rfl (lv_at hl 1 rfl) ?_
      exact z_iret hx hb hr hlocks dX7_count_25 hM (Nat.le_of_ble_eq_true rfl) (Nat.le_of_ble_eq_true rfl) (by rw [← zCn_e h9, hR]; rfl)
    | succ k ih =>
      intro i y hik hR H locs hM ls hl
      refine lv_iload_n hx hb dX7_count_4 rfl (lv_at hl 2 rfl) ?_
      refine lv_bipush (v := 9) hx hb dX7_count_5 (by decide) ?_
      refine z_topi (y := nI 9) rfl ?_
      refine lv_icmp_ge (tgt := 24) hx hb dX7_count_7 (by decide) (fun c_2 => absurd c_2 (nI_ge (by omega) (by omega))) (fun c_2 => ?_)
      refine lv_iload_n hx hb dX7_count_10 rfl (lv_at hl 1 rfl) ?_
      refine lv_iload_n hx hb dX7_count_11 rfl (lv_at hl 0 rfl) ?_
      refine lv_iload_n hx hb dX7_count_12 rfl (lv_at hl 2 rfl) ?_
      refine lv_ishr hx hb dX7_count_13 ?_
      refine lv_iconst (v := 1) hx hb dX7_count_14 (by decide) ?_
      refine lv_iand hx hb dX7_count_15 ?_
      refine lv_iadd hx hb dX7_count_16 ?_
      refine lv_istore_n (lv' := [(1, .int (y + ((x >>> ((nI i) &&& 31)) &&& 1))), (0, .int x), (2, .int (nI i))]) hx hb dX7_count_17 rfl hl (by decide) rfl (fun ls hl => ?_)
      refine lv_iinc (v := nI (i + 1)) (lv' := [(2, .int (nI (i + 1))), (1, .int (y + ((x >>> ((nI i) &&& 31)) &&& 1))), (0, .int x)]) hx hb dX7_count_18 hl (k := 2) rfl (nI_1 i) (by decide) rfl (fun ls hl => ?_)
      refine lv_goto (tgt := 4) hx hb dX7_count_21 (by decide) ?_
      exact ih (i + 1) _ (by omega) (by rw [hR, zCn]) _ _ hM _ (lv_sub hl [2, 1, 0] rfl)
  exact lp4 9 0 0 rfl rfl _ _ hM _ (lv_sub hl [2, 1, 0] rfl)

set_option maxHeartbeats 4000000 in
set_option maxRecDepth 100000 in
theorem c_canTake (l : Launch) (G : zC) (r : Nat) (h : Nat → Int32) (b : Nat → Nat → Int32) (o S : Nat) (ho : o < 4) (hS : S ≤ 9) (hw : zBw (b o)) (h6 : h 6 = nI S) : zMet l G yX7_canTake wsX7_canTake rmX7_canTake [.ref r, .int (nI o)] (rfW G r h b) (some (.int (zb (zIn (zRch (b o) S) (zSp (b o)))))) (rfW G r h b) := by
  refine zMet_of (cc := cX7_canTake) (maxL := 3) (ret := (some .boolean)) (by decide) rfl (Nat.le_of_ble_eq_true rfl) ?_
  intro p e s m below meth c A ls hx hb hr hml hown hts hK hA hE hlocks hin hM hl
  have hown : s.vm.findClass RX7 = some m.cls := hown
  have hM : zM G A s s.heap [] ([(r, .inl (G.2 1, 121, .inl (flt h b)))]) := hM
  have hl : lv_has ls 3 [(0, .ref r), (1, .int (nI o))] := hl
  refine lv_aload_n hx hb dX7_canTake_0 rfl (lv_at hl 0 rfl) ?_
  refine lv_iload_n hx hb dX7_canTake_1 rfl (lv_at hl 1 rfl) ?_
  refine z_callS (As := [.ref r, .int (nI o)]) (rest := []) (wc := rfW G r h b) (wr := []) (w1 := rfW G r h b) (ws' := [(r, .inl (G.2 1, 121, .inl (flt h b)))]) ⟨hx, hb, hml, hown, hts⟩ (c_r_pos l G r h b o (by omega) hw) (va_cwS 2 hts gX7_canTake_X7_placeOfSought rfl rfl rfl (by decide +kernel) ⟨Nat.le_of_ble_eq_true rfl, Nat.le_of_ble_eq_true rfl⟩) rfl hl.1 rfl (Nat.le_of_ble_eq_true rfl) dX7_canTake_2 ⟨Nat.le_of_ble_eq_true rfl, Nat.le_of_ble_eq_true rfl⟩ hK hE hA hM (pm_at 1 [0] [] rfl rfl rfl (by decide)) ((pm_at 1 [0] [] rfl rfl rfl (by decide))).symm (fun H locs hM hz => ?_)
  refine lv_istore_n (lv' := [(2, .int (zSp (b o))), (0, .ref r), (1, .int (nI o))]) hx hb dX7_canTake_5 rfl hl (by decide) rfl (fun ls hl => ?_)
  refine lv_iload_n hx hb dX7_canTake_6 rfl (lv_at hl 0 rfl) ?_
  refine lv_iconst (v := (-1)) hx hb dX7_canTake_7 (by decide) ?_
  refine lv_icmp_eq (tgt := 28) hx hb dX7_canTake_8 (by decide) (fun c_1 => ?_) (fun c_1 => ?_)
  · skip
    refine lv_iconst (v := 0) hx hb dX7_canTake_28 (by decide) ?_
    exact z_zret hx hb hr hlocks dX7_canTake_29 hM (Nat.le_of_ble_eq_true rfl) (Nat.le_of_ble_eq_true rfl) (by first | exact Or.inl rfl | exact Or.inr rfl | exact zb_01 _) (by rw [c_1, zIn_m1]; rfl)
  · skip
    refine lv_aload_n hx hb dX7_canTake_11 rfl (lv_at hl 1 rfl) ?_
    refine lv_iload_n hx hb dX7_canTake_12 rfl (lv_at hl 2 rfl) ?_
    refine z_callS (As := [.ref r, .int (nI o)]) (rest := []) (wc := rfW G r h b) (wr := []) (w1 := rfW G r h b) (ws' := [(r, .inl (G.2 1, 121, .inl (flt h b)))]) ⟨hx, hb, hml, hown, hts⟩ (c_reachable l G r h b o S (by omega) hS hw h6) (va_cwS 2 hts gX7_canTake_X7_reachable rfl rfl rfl (by decide +kernel) ⟨Nat.le_of_ble_eq_true rfl, Nat.le_of_ble_eq_true rfl⟩) rfl hl.1 rfl (Nat.le_of_ble_eq_true rfl) dX7_canTake_13 ⟨Nat.le_of_ble_eq_true rfl, Nat.le_of_ble_eq_true rfl⟩ hK hE hA hM (pm_at 1 [0] [] rfl rfl rfl (by decide)) ((pm_at 1 [0] [] rfl rfl rfl (by decide))).symm (fun H locs hM hz => ?_)
    refine lv_iload_n hx hb dX7_canTake_16 rfl (lv_at hl 0 rfl) ?_
    refine lv_ishr hx hb dX7_canTake_17 ?_
    refine lv_iconst (v := 1) hx hb dX7_canTake_18 (by decide) ?_
    refine lv_iand hx hb dX7_canTake_19 ?_
    refine lv_iconst (v := 1) hx hb dX7_canTake_20 (by decide) ?_
    refine lv_icmp_ne (tgt := 28) hx hb dX7_canTake_21 (by decide) (fun c_2 => ?_) (fun c_2 => ?_)
    · skip
      refine lv_iconst (v := 0) hx hb dX7_canTake_28 (by decide) ?_
      exact z_zret hx hb hr hlocks dX7_canTake_29 hM (Nat.le_of_ble_eq_true rfl) (Nat.le_of_ble_eq_true rfl) (by first | exact Or.inl rfl | exact Or.inr rfl | exact zb_01 _) (by rw [zIn_sp c_1, decide_eq_false c_2]; rfl)
    · skip
      refine lv_iconst (v := 1) hx hb dX7_canTake_24 (by decide) ?_
      refine lv_goto (tgt := 29) hx hb dX7_canTake_25 (by decide) ?_
      exact z_zret hx hb hr hlocks dX7_canTake_29 hM (Nat.le_of_ble_eq_true rfl) (Nat.le_of_ble_eq_true rfl) (by first | exact Or.inl rfl | exact Or.inr rfl | exact zb_01 _) (by rw [zIn_sp c_1, decide_eq_true c_2]; rfl)

set_option maxHeartbeats 4000000 in
set_option maxRecDepth 100000 in
theorem c_push (l : Launch) (G : zC) (r : Nat) (h : Nat → Int32) (b : Nat → Nat → Int32) (o n : Nat) (d : Int32) (ho : o < 4) (hl6 : n < 6) : zMet l G yX7_push wsX7_push rmX7_push [.ref r, .int (nI o), .int (nI n), .int d] (rfW G r h b) none (rfW G r h (va_up b o (zPu (b o) n d))) := by
  refine zMet_of (cc := cX7_push) (maxL := 8) (ret := none) (by decide) rfl (Nat.le_of_ble_eq_true rfl) ?_
  intro p e s m below meth c A ls hx hb hr hml hown hts hK hA hE hlocks hin hM hl
  have hown : s.vm.findClass RX7 = some m.cls := hown
  have hM : zM G A s s.heap [] ([(r, .inl (G.2 1, 121, .inl (flt h b)))]) := hM
  have hl : lv_has ls 8 [(0, .ref r), (1, .int (nI o)), (2, .int (nI n)), (3, .int d)] := hl
  refine lv_iload_n hx hb dX7_push_0 rfl (lv_at hl 1 rfl) ?_
  refine z_callS (As := [.int (nI o)]) (rest := []) (wc := []) (wr := [(r, .inl (G.2 1, 121, .inl (flt h b)))]) (w1 := []) (ws' := [(r, .inl (G.2 1, 121, .inl (flt h b)))]) ⟨hx, hb, hml, hown, hts⟩ (c_at l G o (by omega)) (va_cwS 1 hts gX7_push_X7_at rfl rfl rfl (by decide +kernel) ⟨Nat.le_of_ble_eq_true rfl, Nat.le_of_ble_eq_true rfl⟩) rfl hl.1 rfl (Nat.le_of_ble_eq_true rfl) dX7_push_1 ⟨Nat.le_of_ble_eq_true rfl, Nat.le_of_ble_eq_true rfl⟩ hK hE hA hM (List.Perm.refl _) (List.Perm.refl _) (fun H locs hM hz => ?_)
  refine lv_istore (lv' := [(4, .int (nI (9 + (28 * o)))), (0, .ref r), (1, .int (nI o)), (2, .int (nI n)), (3, .int d)]) hx hb dX7_push_4 hl (by decide) rfl (fun ls hl => ?_)
  refine lv_iconst (v := nI 0) hx hb dX7_push_6 (by decide) ?_
  refine lv_istore (lv' := [(5, .int (nI 0)), (4, .int (nI (9 + (28 * o)))), (0, .ref r), (1, .int (nI o)), (2, .int (nI n)), (3, .int d)]) hx hb dX7_push_7 hl (by decide) rfl (fun ls hl => ?_)
  have lp9 : ∀ (k : Nat) (i : Nat) (g : Nat → Int32), (i + k = 2) → (zPu (b o) n d = zIt (zP1 n d) k i g) → ∀ (H : Heap) (locs : List Loc), zM G A s H locs ([(r, .inl (G.2 1, 121, .inl (flt h (va_up b o g))))]) → ∀ ls : Array Slot, lv_has ls 8 [(0, .ref r), (1, .int (nI o)), (2, .int (nI n)), (3, .int d), (4, .int (nI (9 + (28 * o)))), (5, .int (nI i))] → W p l e rmX7_push s m ([.ref r, .int (nI o), .int (nI n), .int d] : List Value).toArray below meth c H locs 0 0 (zEnd G below ([.ref r, .int (nI o), .int (nI n), .int d] : List Value).toArray s rmX7_push A none (rfW G r h (va_up b o (zPu (b o) n d)))) (F0 m 9 ls []) := by
    intro k
    induction k with
    | zero =>
      intro i g hik hR H locs hM ls hl
      refine lv_iload hx hb dX7_push_9 (lv_at hl 5 rfl) ?_
      refine lv_iconst (v := 2) hx hb dX7_push_11 (by decide) ?_
      refine z_topi (y := nI 2) rfl ?_
      refine lv_icmp_ge (tgt := 149) hx hb dX7_push_12 (by decide) (fun c_1 => ?_) (fun c_1 => absurd (nI_le (by omega) (by omega)) c_1)
      exact z_vret hx hb hr hlocks dX7_push_149 (by rw [hR, zIt_0]; exact hM) (Nat.le_of_ble_eq_true rfl) (Nat.le_of_ble_eq_true rfl)
    | succ k ih =>
      intro i g hik hR H locs hM ls hl
      refine lv_iload hx hb dX7_push_9 (lv_at hl 5 rfl) ?_
      refine lv_iconst (v := 2) hx hb dX7_push_11 (by decide) ?_
      refine z_topi (y := nI 2) rfl ?_
      refine lv_icmp_ge (tgt := 149) hx hb dX7_push_12 (by decide) (fun c_2 => absurd c_2 (nI_ge (by omega) (by omega))) (fun c_2 => ?_)
      refine lv_iload_n hx hb dX7_push_15 rfl (lv_at hl 2 rfl) ?_
      refine lv_iload_n hx hb dX7_push_16 rfl (lv_at hl 3 rfl) ?_
      refine lv_iconst (v := 1) hx hb dX7_push_17 (by decide) ?_
      refine lv_icmp_ne (tgt := 28) hx hb dX7_push_18 (by decide) (fun c_3 => ?_) (fun c_3 => ?_)
      · have ed : ¬ d = 1 := c_3
        refine lv_iload hx hb dX7_push_28 (lv_at hl 5 rfl) ?_
        refine z_callS (As := [.int (nI n), .int (nI i)]) (rest := []) (wc := []) (wr := [(r, .inl (G.2 1, 121, .inl (flt h (va_up b o g))))]) (w1 := []) (ws' := [(r, .inl (G.2 1, 121, .inl (flt h (va_up b o g))))]) ⟨hx, hb, hml, hown, hts⟩ (c_inLine l G n i (by omega) (by omega)) (va_cwS 2 hts gX7_push_X7_inLine rfl rfl rfl (by decide +kernel) ⟨Nat.le_of_ble_eq_true rfl, Nat.le_of_ble_eq_true rfl⟩) rfl hl.1 rfl (Nat.le_of_ble_eq_true rfl) dX7_push_30 ⟨Nat.le_of_ble_eq_true rfl, Nat.le_of_ble_eq_true rfl⟩ hK hE hA hM (List.Perm.refl _) (List.Perm.refl _) (fun H locs hM hz => ?_)
        refine lv_istore (lv' := [(6, .int (nI (zIl n i))), (0, .ref r), (1, .int (nI o)), (2, .int (nI n)), (3, .int d), (4, .int (nI (9 + (28 * o)))), (5, .int (nI i))]) hx hb dX7_push_33 hl (by decide) rfl (fun ls hl => ?_)
        refine lv_iload_n hx hb dX7_push_35 rfl (lv_at hl 3 rfl) ?_
        refine lv_iload_n hx hb dX7_push_36 rfl (lv_at hl 4 rfl) ?_
        refine lv_iconst (v := 1) hx hb dX7_push_37 (by decide) ?_
        refine lv_icmp_ne (tgt := 48) hx hb dX7_push_38 (by decide) (fun c_4 => ?_) (fun c_4 => absurd c_4 ed)
        refine lv_iload hx hb dX7_push_48 (lv_at hl 6 rfl) ?_
        refine lv_iconst (v := 1) hx hb dX7_push_50 (by decide) ?_
        refine lv_iadd hx hb dX7_push_51 ?_
        refine z_topi (y := nI (i + 1)) (nI_add i 1) ?_
        refine z_callS (As := [.int (nI n), .int (nI (i + 1))]) (rest := []) (wc := []) (wr := [(r, .inl (G.2 1, 121, .inl (flt h (va_up b o g))))]) (w1 := []) (ws' := [(r, .inl (G.2 1, 121, .inl (flt h (va_up b o g))))]) ⟨hx, hb, hml, hown, hts⟩ (c_inLine l G n (i + 1) (by omega) (by omega)) (va_cwS 2 hts gX7_push_X7_inLine rfl rfl rfl (by decide +kernel) ⟨Nat.le_of_ble_eq_true rfl, Nat.le_of_ble_eq_true rfl⟩) rfl hl.1 rfl (Nat.le_of_ble_eq_true rfl) dX7_push_52 ⟨Nat.le_of_ble_eq_true rfl, Nat.le_of_ble_eq_true rfl⟩ hK hE hA hM (List.Perm.refl _) (List.Perm.refl _) (fun H locs hM hz => ?_)
        refine lv_istore (lv' := [(7, .int (nI (zIl n (i + 1)))), (6, .int (nI (zIl n i))), (0, .ref r), (1, .int (nI o)), (2, .int (nI n)), (3, .int d), (4, .int (nI (9 + (28 * o)))), (5, .int (nI i))]) hx hb dX7_push_55 hl (by decide) rfl (fun ls hl => ?_)
        have hn9 : zIl n i < 9 := zIl_lt hl6 (by omega)
        have hm9 : zIl n (i + 1) < 9 := zIl_lt hl6 (by omega)
        refine lv_aload_n hx hb dX7_push_57 rfl (lv_at hl 2 rfl) ?_
        refine lv_iload hx hb dX7_push_58 (lv_at hl 6 rfl) ?_
        refine lv_iconst (v := 0) hx hb dX7_push_60 (by decide) ?_
        refine lv_iadd hx hb dX7_push_61 ?_
        refine z_topi (y := nI ((9 + (28 * o)) + 0)) (nI_add (9 + (28 * o)) 0) ?_
        refine lv_iload hx hb dX7_push_62 (lv_at hl 1 rfl) ?_
        refine lv_iadd hx hb dX7_push_64 ?_
        refine z_topi (y := nI (((9 + (28 * o)) + 0) + (zIl n i))) (nI_add ((9 + (28 * o)) + 0) (zIl n i)) ?_
        refine lv_iload hx hb dX7_push_65 (lv_at hl 6 rfl) ?_
        refine lv_iconst (v := 0) hx hb dX7_push_67 (by decide) ?_
        refine lv_iadd hx hb dX7_push_68 ?_
        refine z_topi (y := nI ((9 + (28 * o)) + 0)) (nI_add (9 + (28 * o)) 0) ?_
        refine lv_iload hx hb dX7_push_69 (lv_at hl 0 rfl) ?_
        refine lv_iadd hx hb dX7_push_71 ?_
        refine z_topi (y := nI (((9 + (28 * o)) + 0) + (zIl n (i + 1)))) (nI_add ((9 + (28 * o)) + 0) (zIl n (i + 1))) ?_
        refine z_callS (As := [.ref r, .int (nI (((9 + (28 * o)) + 0) + (zIl n i))), .int (nI (((9 + (28 * o)) + 0) + (zIl n (i + 1))))]) (rest := []) (wc := rfW G r h (va_up b o g)) (wr := []) (w1 := [(r, .inl (G.2 1, 121, .inl (flt h (va_up (va_up b o g) o (zXg ((va_up b o g) o) (zIl n i + 0) (zIl n (i + 1) + 0))))))]) (ws' := [(r, .inl (G.2 1, 121, .inl (flt h (va_up (va_up b o g) o (zXg ((va_up b o g) o) (zIl n i + 0) (zIl n (i + 1) + 0))))))]) ⟨hx, hb, hml, hown, hts⟩ (c_r_exch l G r h (va_up b o g) o (zIl n i) (zIl n (i + 1)) 0 (by omega) (by omega) (by omega) ((((9 + (28 * o)) + 0) + (zIl n i))) ((((9 + (28 * o)) + 0) + (zIl n (i + 1)))) (by omega) (by omega)) (va_cwS 3 hts gX7_push_X7_exchange rfl rfl rfl (by decide +kernel) ⟨Nat.le_of_ble_eq_true rfl, Nat.le_of_ble_eq_true rfl⟩) rfl hl.1 rfl (Nat.le_of_ble_eq_true rfl) dX7_push_72 ⟨Nat.le_of_ble_eq_true rfl, Nat.le_of_ble_eq_true rfl⟩ hK hE hA hM (pm_at 1 [0] [] rfl rfl rfl (by decide)) ((pm_at 1 [0] [] rfl rfl rfl (by decide))).symm (fun H locs hM hz => ?_)
        rw [va_upup, va_ups] at hM
        have hM : zM G A s H locs ([(r, .inl (G.2 1, 121, .inl (flt h (va_up b o (zXg g (zIl n i + 0) (zIl n (i + 1) + 0))))))]) := hM
        refine lv_aload_n hx hb dX7_push_75 rfl (lv_at hl 2 rfl) ?_
        refine lv_iload hx hb dX7_push_76 (lv_at hl 6 rfl) ?_
        refine lv_bipush (v := 9) hx hb dX7_push_78 (by decide) ?_
        refine lv_iadd hx hb dX7_push_80 ?_
        refine z_topi (y := nI ((9 + (28 * o)) + 9)) (nI_add (9 + (28 * o)) 9) ?_
        refine lv_iload hx hb dX7_push_81 (lv_at hl 1 rfl) ?_
        refine lv_iadd hx hb dX7_push_83 ?_
        refine z_topi (y := nI (((9 + (28 * o)) + 9) + (zIl n i))) (nI_add ((9 + (28 * o)) + 9) (zIl n i)) ?_
        refine lv_iload hx hb dX7_push_84 (lv_at hl 6 rfl) ?_
        refine lv_bipush (v := 9) hx hb dX7_push_86 (by decide) ?_
        refine lv_iadd hx hb dX7_push_88 ?_
        refine z_topi (y := nI ((9 + (28 * o)) + 9)) (nI_add (9 + (28 * o)) 9) ?_
        refine lv_iload hx hb dX7_push_89 (lv_at hl 0 rfl) ?_
        refine lv_iadd hx hb dX7_push_91 ?_
        refine z_topi (y := nI (((9 + (28 * o)) + 9) + (zIl n (i + 1)))) (nI_add ((9 + (28 * o)) + 9) (zIl n (i + 1))) ?_
        refine z_callS (As := [.ref r, .int (nI (((9 + (28 * o)) + 9) + (zIl n i))), .int (nI (((9 + (28 * o)) + 9) + (zIl n (i + 1))))]) (rest := []) (wc := rfW G r h (va_up b o (zXg g (zIl n i + 0) (zIl n (i + 1) + 0)))) (wr := []) (w1 := [(r, .inl (G.2 1, 121, .inl (flt h (va_up (va_up b o (zXg g (zIl n i + 0) (zIl n (i + 1) + 0))) o (zXg ((va_up b o (zXg g (zIl n i + 0) (zIl n (i + 1) + 0))) o) (zIl n i + 9) (zIl n (i + 1) + 9))))))]) (ws' := [(r, .inl (G.2 1, 121, .inl (flt h (va_up (va_up b o (zXg g (zIl n i + 0) (zIl n (i + 1) + 0))) o (zXg ((va_up b o (zXg g (zIl n i + 0) (zIl n (i + 1) + 0))) o) (zIl n i + 9) (zIl n (i + 1) + 9))))))]) ⟨hx, hb, hml, hown, hts⟩ (c_r_exch l G r h (va_up b o (zXg g (zIl n i + 0) (zIl n (i + 1) + 0))) o (zIl n i) (zIl n (i + 1)) 9 (by omega) (by omega) (by omega) ((((9 + (28 * o)) + 9) + (zIl n i))) ((((9 + (28 * o)) + 9) + (zIl n (i + 1)))) (by omega) (by omega)) (va_cwS 3 hts gX7_push_X7_exchange rfl rfl rfl (by decide +kernel) ⟨Nat.le_of_ble_eq_true rfl, Nat.le_of_ble_eq_true rfl⟩) rfl hl.1 rfl (Nat.le_of_ble_eq_true rfl) dX7_push_92 ⟨Nat.le_of_ble_eq_true rfl, Nat.le_of_ble_eq_true rfl⟩ hK hE hA hM (pm_at 1 [0] [] rfl rfl rfl (by decide)) ((pm_at 1 [0] [] rfl rfl rfl (by decide))).symm (fun H locs hM hz => ?_)
        rw [va_upup, va_ups] at hM
        have hM : zM G A s H locs ([(r, .inl (G.2 1, 121, .inl (flt h (va_up b o (zXg (zXg g (zIl n i + 0) (zIl n (i + 1) + 0)) (zIl n i + 9) (zIl n (i + 1) + 9))))))]) := hM
        refine lv_aload_n hx hb dX7_push_95 rfl (lv_at hl 2 rfl) ?_
        refine lv_iload hx hb dX7_push_96 (lv_at hl 6 rfl) ?_
        refine lv_bipush (v := 24) hx hb dX7_push_98 (by decide) ?_
        refine lv_iadd hx hb dX7_push_100 ?_
        refine z_topi (y := nI ((9 + (28 * o)) + 24)) (nI_add (9 + (28 * o)) 24) ?_
        refine lv_aload_n hx hb dX7_push_101 rfl (lv_at hl 2 rfl) ?_
        refine lv_iload hx hb dX7_push_102 (lv_at hl 6 rfl) ?_
        refine lv_bipush (v := 24) hx hb dX7_push_104 (by decide) ?_
        refine lv_iadd hx hb dX7_push_106 ?_
        refine z_topi (y := nI ((9 + (28 * o)) + 24)) (nI_add (9 + (28 * o)) 24) ?_
        refine z_iald hx hb hK hM 0 rfl (v := (zXg (zXg g (zIl n i + 0) (zIl n (i + 1) + 0)) (zIl n i + 9) (zIl n (i + 1) + 9)) 24) (vp_in_nI (by omega) (by decide)) (by rw [nI_clamp (by omega), flt_b o 24 (by omega) (by omega), va_ups]) dX7_push_107 ?_
        refine lv_iload hx hb dX7_push_108 (lv_at hl 1 rfl) ?_
        refine lv_icmp_ne (tgt := 118) hx hb dX7_push_110 (by decide) (fun c_n => ?_) (fun c_n => ?_)
        · skip
          refine lv_aload_n hx hb dX7_push_118 rfl (lv_at hl 2 rfl) ?_
          refine lv_iload hx hb dX7_push_119 (lv_at hl 6 rfl) ?_
          refine lv_bipush (v := 24) hx hb dX7_push_121 (by decide) ?_
          refine lv_iadd hx hb dX7_push_123 ?_
          refine z_topi (y := nI ((9 + (28 * o)) + 24)) (nI_add (9 + (28 * o)) 24) ?_
          refine z_iald hx hb hK hM 0 rfl (v := (zXg (zXg g (zIl n i + 0) (zIl n (i + 1) + 0)) (zIl n i + 9) (zIl n (i + 1) + 9)) 24) (vp_in_nI (by omega) (by decide)) (by rw [nI_clamp (by omega), flt_b o 24 (by omega) (by omega), va_ups]) dX7_push_124 ?_
          refine lv_iload hx hb dX7_push_125 (lv_at hl 0 rfl) ?_
          refine lv_icmp_ne (tgt := 135) hx hb dX7_push_127 (by decide) (fun c_m => ?_) (fun c_m => ?_)
          · skip
            refine lv_aload_n hx hb dX7_push_135 rfl (lv_at hl 2 rfl) ?_
            refine lv_iload hx hb dX7_push_136 (lv_at hl 6 rfl) ?_
            refine lv_bipush (v := 24) hx hb dX7_push_138 (by decide) ?_
            refine lv_iadd hx hb dX7_push_140 ?_
            refine z_topi (y := nI ((9 + (28 * o)) + 24)) (nI_add (9 + (28 * o)) 24) ?_
            refine z_iald hx hb hK hM 0 rfl (v := (zXg (zXg g (zIl n i + 0) (zIl n (i + 1) + 0)) (zIl n i + 9) (zIl n (i + 1) + 9)) 24) (vp_in_nI (by omega) (by decide)) (by rw [nI_clamp (by omega), flt_b o 24 (by omega) (by omega), va_ups]) dX7_push_141 ?_
            refine z_iast (ws' := [(r, .inl (G.2 1, 121, .inl (flt h (va_up (va_up b o (zXg (zXg g (zIl n i + 0) (zIl n (i + 1) + 0)) (zIl n i + 9) (zIl n (i + 1) + 9))) o (upd ((va_up b o (zXg (zXg g (zIl n i + 0) (zIl n (i + 1) + 0)) (zIl n i + 9) (zIl n (i + 1) + 9))) o) 24 ((zXg (zXg g (zIl n i + 0) (zIl n (i + 1) + 0)) (zIl n i + 9) (zIl n (i + 1) + 9)) 24))))))]) hx hb hK hM 0 rfl (vp_in_nI (by omega) (by decide)) dX7_push_142 (by rw [nI_clamp (by omega), flt_ub o 24 (by omega) (by omega)]; rfl) (fun H locs hM => ?_)
            rw [va_upup, va_ups] at hM
            have hM : zM G A s H locs ([(r, .inl (G.2 1, 121, .inl (flt h (va_up b o (upd (zXg (zXg g (zIl n i + 0) (zIl n (i + 1) + 0)) (zIl n i + 9) (zIl n (i + 1) + 9)) 24 ((zXg (zXg g (zIl n i + 0) (zIl n (i + 1) + 0)) (zIl n i + 9) (zIl n (i + 1) + 9)) 24))))))]) := hM
            refine lv_iinc (v := nI (i + 1)) (lv' := [(5, .int (nI (i + 1))), (7, .int (nI (zIl n (i + 1)))), (6, .int (nI (zIl n i))), (0, .ref r), (1, .int (nI o)), (2, .int (nI n)), (3, .int d), (4, .int (nI (9 + (28 * o))))]) hx hb dX7_push_143 hl (k := 7) rfl (nI_1 i) (by decide) rfl (fun ls hl => ?_)
            refine lv_goto (tgt := 9) hx hb dX7_push_146 (by decide) ?_
            exact ih (i + 1) _ (by omega) (by rw [hR, zIt_s, zP1_e, zPn, zPm, if_neg ed, if_neg ed, zXs, if_neg c_n, if_neg c_m]) _ _ hM _ (lv_sub hl [3, 4, 5, 6, 7, 0] rfl)
          · skip
            refine lv_iload hx hb dX7_push_130 (lv_at hl 1 rfl) ?_
            refine lv_goto (tgt := 142) hx hb dX7_push_132 (by decide) ?_
            refine z_iast (ws' := [(r, .inl (G.2 1, 121, .inl (flt h (va_up (va_up b o (zXg (zXg g (zIl n i + 0) (zIl n (i + 1) + 0)) (zIl n i + 9) (zIl n (i + 1) + 9))) o (upd ((va_up b o (zXg (zXg g (zIl n i + 0) (zIl n (i + 1) + 0)) (zIl n i + 9) (zIl n (i + 1) + 9))) o) 24 (nI (zIl n i)))))))]) hx hb hK hM 0 rfl (vp_in_nI (by omega) (by decide)) dX7_push_142 (by rw [nI_clamp (by omega), flt_ub o 24 (by omega) (by omega)]; rfl) (fun H locs hM => ?_)
            rw [va_upup, va_ups] at hM
            have hM : zM G A s H locs ([(r, .inl (G.2 1, 121, .inl (flt h (va_up b o (upd (zXg (zXg g (zIl n i + 0) (zIl n (i + 1) + 0)) (zIl n i + 9) (zIl n (i + 1) + 9)) 24 (nI (zIl n i)))))))]) := hM
            refine lv_iinc (v := nI (i + 1)) (lv' := [(5, .int (nI (i + 1))), (7, .int (nI (zIl n (i + 1)))), (6, .int (nI (zIl n i))), (0, .ref r), (1, .int (nI o)), (2, .int (nI n)), (3, .int d), (4, .int (nI (9 + (28 * o))))]) hx hb dX7_push_143 hl (k := 7) rfl (nI_1 i) (by decide) rfl (fun ls hl => ?_)
            refine lv_goto (tgt := 9) hx hb dX7_push_146 (by decide) ?_
            exact ih (i + 1) _ (by omega) (by rw [hR, zIt_s, zP1_e, zPn, zPm, if_neg ed, if_neg ed, zXs, if_neg c_n, if_pos c_m]) _ _ hM _ (lv_sub hl [3, 4, 5, 6, 7, 0] rfl)
        · skip
          refine lv_iload hx hb dX7_push_113 (lv_at hl 0 rfl) ?_
          refine lv_goto (tgt := 142) hx hb dX7_push_115 (by decide) ?_
          refine z_iast (ws' := [(r, .inl (G.2 1, 121, .inl (flt h (va_up (va_up b o (zXg (zXg g (zIl n i + 0) (zIl n (i + 1) + 0)) (zIl n i + 9) (zIl n (i + 1) + 9))) o (upd ((va_up b o (zXg (zXg g (zIl n i + 0) (zIl n (i + 1) + 0)) (zIl n i + 9) (zIl n (i + 1) + 9))) o) 24 (nI (zIl n (i + 1))))))))]) hx hb hK hM 0 rfl (vp_in_nI (by omega) (by decide)) dX7_push_142 (by rw [nI_clamp (by omega), flt_ub o 24 (by omega) (by omega)]; rfl) (fun H locs hM => ?_)
          rw [va_upup, va_ups] at hM
          have hM : zM G A s H locs ([(r, .inl (G.2 1, 121, .inl (flt h (va_up b o (upd (zXg (zXg g (zIl n i + 0) (zIl n (i + 1) + 0)) (zIl n i + 9) (zIl n (i + 1) + 9)) 24 (nI (zIl n (i + 1))))))))]) := hM
          refine lv_iinc (v := nI (i + 1)) (lv' := [(5, .int (nI (i + 1))), (7, .int (nI (zIl n (i + 1)))), (6, .int (nI (zIl n i))), (0, .ref r), (1, .int (nI o)), (2, .int (nI n)), (3, .int d), (4, .int (nI (9 + (28 * o))))]) hx hb dX7_push_143 hl (k := 7) rfl (nI_1 i) (by decide) rfl (fun ls hl => ?_)
          refine lv_goto (tgt := 9) hx hb dX7_push_146 (by decide) ?_
          exact ih (i + 1) _ (by omega) (by rw [hR, zIt_s, zP1_e, zPn, zPm, if_neg ed, if_neg ed, zXs, if_pos c_n]) _ _ hM _ (lv_sub hl [3, 4, 5, 6, 7, 0] rfl)
      · have ed : d = 1 := c_3
        refine lv_iconst (v := 2) hx hb dX7_push_21 (by decide) ?_
        refine lv_iload hx hb dX7_push_22 (lv_at hl 5 rfl) ?_
        refine lv_isub hx hb dX7_push_24 ?_
        refine z_topi (y := nI (2 - i)) (pk_sub (a := 2) (b := i) (by omega)) ?_
        refine lv_goto (tgt := 30) hx hb dX7_push_25 (by decide) ?_
        refine z_callS (As := [.int (nI n), .int (nI (2 - i))]) (rest := []) (wc := []) (wr := [(r, .inl (G.2 1, 121, .inl (flt h (va_up b o g))))]) (w1 := []) (ws' := [(r, .inl (G.2 1, 121, .inl (flt h (va_up b o g))))]) ⟨hx, hb, hml, hown, hts⟩ (c_inLine l G n (2 - i) (by omega) (by omega)) (va_cwS 2 hts gX7_push_X7_inLine rfl rfl rfl (by decide +kernel) ⟨Nat.le_of_ble_eq_true rfl, Nat.le_of_ble_eq_true rfl⟩) rfl hl.1 rfl (Nat.le_of_ble_eq_true rfl) dX7_push_30 ⟨Nat.le_of_ble_eq_true rfl, Nat.le_of_ble_eq_true rfl⟩ hK hE hA hM (List.Perm.refl _) (List.Perm.refl _) (fun H locs hM hz => ?_)
        refine lv_istore (lv' := [(6, .int (nI (zIl n (2 - i)))), (0, .ref r), (1, .int (nI o)), (2, .int (nI n)), (3, .int d), (4, .int (nI (9 + (28 * o)))), (5, .int (nI i))]) hx hb dX7_push_33 hl (by decide) rfl (fun ls hl => ?_)
        refine lv_iload_n hx hb dX7_push_35 rfl (lv_at hl 3 rfl) ?_
        refine lv_iload_n hx hb dX7_push_36 rfl (lv_at hl 4 rfl) ?_
        refine lv_iconst (v := 1) hx hb dX7_push_37 (by decide) ?_
        refine lv_icmp_ne (tgt := 48) hx hb dX7_push_38 (by decide) (fun c_5 => absurd ed c_5) (fun c_5 => ?_)
        refine lv_iconst (v := 1) hx hb dX7_push_41 (by decide) ?_
        refine lv_iload hx hb dX7_push_42 (lv_at hl 6 rfl) ?_
        refine lv_isub hx hb dX7_push_44 ?_
        refine z_topi (y := nI (1 - i)) (pk_sub (a := 1) (b := i) (by omega)) ?_
        refine lv_goto (tgt := 52) hx hb dX7_push_45 (by decide) ?_
        refine z_callS (As := [.int (nI n), .int (nI (1 - i))]) (rest := []) (wc := []) (wr := [(r, .inl (G.2 1, 121, .inl (flt h (va_up b o g))))]) (w1 := []) (ws' := [(r, .inl (G.2 1, 121, .inl (flt h (va_up b o g))))]) ⟨hx, hb, hml, hown, hts⟩ (c_inLine l G n (1 - i) (by omega) (by omega)) (va_cwS 2 hts gX7_push_X7_inLine rfl rfl rfl (by decide +kernel) ⟨Nat.le_of_ble_eq_true rfl, Nat.le_of_ble_eq_true rfl⟩) rfl hl.1 rfl (Nat.le_of_ble_eq_true rfl) dX7_push_52 ⟨Nat.le_of_ble_eq_true rfl, Nat.le_of_ble_eq_true rfl⟩ hK hE hA hM (List.Perm.refl _) (List.Perm.refl _) (fun H locs hM hz => ?_)
        refine lv_istore (lv' := [(7, .int (nI (zIl n (1 - i)))), (6, .int (nI (zIl n (2 - i)))), (0, .ref r), (1, .int (nI o)), (2, .int (nI n)), (3, .int d), (4, .int (nI (9 + (28 * o)))), (5, .int (nI i))]) hx hb dX7_push_55 hl (by decide) rfl (fun ls hl => ?_)
        have hn9 : zIl n (2 - i) < 9 := zIl_lt hl6 (by omega)
        have hm9 : zIl n (1 - i) < 9 := zIl_lt hl6 (by omega)
        refine lv_aload_n hx hb dX7_push_57 rfl (lv_at hl 2 rfl) ?_
        refine lv_iload hx hb dX7_push_58 (lv_at hl 6 rfl) ?_
        refine lv_iconst (v := 0) hx hb dX7_push_60 (by decide) ?_
        refine lv_iadd hx hb dX7_push_61 ?_
        refine z_topi (y := nI ((9 + (28 * o)) + 0)) (nI_add (9 + (28 * o)) 0) ?_
        refine lv_iload hx hb dX7_push_62 (lv_at hl 1 rfl) ?_
        refine lv_iadd hx hb dX7_push_64 ?_
        refine z_topi (y := nI (((9 + (28 * o)) + 0) + (zIl n (2 - i)))) (nI_add ((9 + (28 * o)) + 0) (zIl n (2 - i))) ?_
        refine lv_iload hx hb dX7_push_65 (lv_at hl 6 rfl) ?_
        refine lv_iconst (v := 0) hx hb dX7_push_67 (by decide) ?_
        refine lv_iadd hx hb dX7_push_68 ?_
        refine z_topi (y := nI ((9 + (28 * o)) + 0)) (nI_add (9 + (28 * o)) 0) ?_
        refine lv_iload hx hb dX7_push_69 (lv_at hl 0 rfl) ?_
        refine lv_iadd hx hb dX7_push_71 ?_
        refine z_topi (y := nI (((9 + (28 * o)) + 0) + (zIl n (1 - i)))) (nI_add ((9 + (28 * o)) + 0) (zIl n (1 - i))) ?_
        refine z_callS (As := [.ref r, .int (nI (((9 + (28 * o)) + 0) + (zIl n (2 - i)))), .int (nI (((9 + (28 * o)) + 0) + (zIl n (1 - i))))]) (rest := []) (wc := rfW G r h (va_up b o g)) (wr := []) (w1 := [(r, .inl (G.2 1, 121, .inl (flt h (va_up (va_up b o g) o (zXg ((va_up b o g) o) (zIl n (2 - i) + 0) (zIl n (1 - i) + 0))))))]) (ws' := [(r, .inl (G.2 1, 121, .inl (flt h (va_up (va_up b o g) o (zXg ((va_up b o g) o) (zIl n (2 - i) + 0) (zIl n (1 - i) + 0))))))]) ⟨hx, hb, hml, hown, hts⟩ (c_r_exch l G r h (va_up b o g) o (zIl n (2 - i)) (zIl n (1 - i)) 0 (by omega) (by omega) (by omega) ((((9 + (28 * o)) + 0) + (zIl n (2 - i)))) ((((9 + (28 * o)) + 0) + (zIl n (1 - i)))) (by omega) (by omega)) (va_cwS 3 hts gX7_push_X7_exchange rfl rfl rfl (by decide +kernel) ⟨Nat.le_of_ble_eq_true rfl, Nat.le_of_ble_eq_true rfl⟩) rfl hl.1 rfl (Nat.le_of_ble_eq_true rfl) dX7_push_72 ⟨Nat.le_of_ble_eq_true rfl, Nat.le_of_ble_eq_true rfl⟩ hK hE hA hM (pm_at 1 [0] [] rfl rfl rfl (by decide)) ((pm_at 1 [0] [] rfl rfl rfl (by decide))).symm (fun H locs hM hz => ?_)
        rw [va_upup, va_ups] at hM
        have hM : zM G A s H locs ([(r, .inl (G.2 1, 121, .inl (flt h (va_up b o (zXg g (zIl n (2 - i) + 0) (zIl n (1 - i) + 0))))))]) := hM
        refine lv_aload_n hx hb dX7_push_75 rfl (lv_at hl 2 rfl) ?_
        refine lv_iload hx hb dX7_push_76 (lv_at hl 6 rfl) ?_
        refine lv_bipush (v := 9) hx hb dX7_push_78 (by decide) ?_
        refine lv_iadd hx hb dX7_push_80 ?_
        refine z_topi (y := nI ((9 + (28 * o)) + 9)) (nI_add (9 + (28 * o)) 9) ?_
        refine lv_iload hx hb dX7_push_81 (lv_at hl 1 rfl) ?_
        refine lv_iadd hx hb dX7_push_83 ?_
        refine z_topi (y := nI (((9 + (28 * o)) + 9) + (zIl n (2 - i)))) (nI_add ((9 + (28 * o)) + 9) (zIl n (2 - i))) ?_
        refine lv_iload hx hb dX7_push_84 (lv_at hl 6 rfl) ?_
        refine lv_bipush (v := 9) hx hb dX7_push_86 (by decide) ?_
        refine lv_iadd hx hb dX7_push_88 ?_
        refine z_topi (y := nI ((9 + (28 * o)) + 9)) (nI_add (9 + (28 * o)) 9) ?_
        refine lv_iload hx hb dX7_push_89 (lv_at hl 0 rfl) ?_
        refine lv_iadd hx hb dX7_push_91 ?_
        refine z_topi (y := nI (((9 + (28 * o)) + 9) + (zIl n (1 - i)))) (nI_add ((9 + (28 * o)) + 9) (zIl n (1 - i))) ?_
        refine z_callS (As := [.ref r, .int (nI (((9 + (28 * o)) + 9) + (zIl n (2 - i)))), .int (nI (((9 + (28 * o)) + 9) + (zIl n (1 - i))))]) (rest := []) (wc := rfW G r h (va_up b o (zXg g (zIl n (2 - i) + 0) (zIl n (1 - i) + 0)))) (wr := []) (w1 := [(r, .inl (G.2 1, 121, .inl (flt h (va_up (va_up b o (zXg g (zIl n (2 - i) + 0) (zIl n (1 - i) + 0))) o (zXg ((va_up b o (zXg g (zIl n (2 - i) + 0) (zIl n (1 - i) + 0))) o) (zIl n (2 - i) + 9) (zIl n (1 - i) + 9))))))]) (ws' := [(r, .inl (G.2 1, 121, .inl (flt h (va_up (va_up b o (zXg g (zIl n (2 - i) + 0) (zIl n (1 - i) + 0))) o (zXg ((va_up b o (zXg g (zIl n (2 - i) + 0) (zIl n (1 - i) + 0))) o) (zIl n (2 - i) + 9) (zIl n (1 - i) + 9))))))]) ⟨hx, hb, hml, hown, hts⟩ (c_r_exch l G r h (va_up b o (zXg g (zIl n (2 - i) + 0) (zIl n (1 - i) + 0))) o (zIl n (2 - i)) (zIl n (1 - i)) 9 (by omega) (by omega) (by omega) ((((9 + (28 * o)) + 9) + (zIl n (2 - i)))) ((((9 + (28 * o)) + 9) + (zIl n (1 - i)))) (by omega) (by omega)) (va_cwS 3 hts gX7_push_X7_exchange rfl rfl rfl (by decide +kernel) ⟨Nat.le_of_ble_eq_true rfl, Nat.le_of_ble_eq_true rfl⟩) rfl hl.1 rfl (Nat.le_of_ble_eq_true rfl) dX7_push_92 ⟨Nat.le_of_ble_eq_true rfl, Nat.le_of_ble_eq_true rfl⟩ hK hE hA hM (pm_at 1 [0] [] rfl rfl rfl (by decide)) ((pm_at 1 [0] [] rfl rfl rfl (by decide))).symm (fun H locs hM hz => ?_)
        rw [va_upup, va_ups] at hM
        have hM : zM G A s H locs ([(r, .inl (G.2 1, 121, .inl (flt h (va_up b o (zXg (zXg g (zIl n (2 - i) + 0) (zIl n (1 - i) + 0)) (zIl n (2 - i) + 9) (zIl n (1 - i) + 9))))))]) := hM
        refine lv_aload_n hx hb dX7_push_95 rfl (lv_at hl 2 rfl) ?_
        refine lv_iload hx hb dX7_push_96 (lv_at hl 6 rfl) ?_
        refine lv_bipush (v := 24) hx hb dX7_push_98 (by decide) ?_
        refine lv_iadd hx hb dX7_push_100 ?_
        refine z_topi (y := nI ((9 + (28 * o)) + 24)) (nI_add (9 + (28 * o)) 24) ?_
        refine lv_aload_n hx hb dX7_push_101 rfl (lv_at hl 2 rfl) ?_
        refine lv_iload hx hb dX7_push_102 (lv_at hl 6 rfl) ?_
        refine lv_bipush (v := 24) hx hb dX7_push_104 (by decide) ?_
        refine lv_iadd hx hb dX7_push_106 ?_
        refine z_topi (y := nI ((9 + (28 * o)) + 24)) (nI_add (9 + (28 * o)) 24) ?_
        refine z_iald hx hb hK hM 0 rfl (v := (zXg (zXg g (zIl n (2 - i) + 0) (zIl n (1 - i) + 0)) (zIl n (2 - i) + 9) (zIl n (1 - i) + 9)) 24) (vp_in_nI (by omega) (by decide)) (by rw [nI_clamp (by omega), flt_b o 24 (by omega) (by omega), va_ups]) dX7_push_107 ?_
        refine lv_iload hx hb dX7_push_108 (lv_at hl 1 rfl) ?_
        refine lv_icmp_ne (tgt := 118) hx hb dX7_push_110 (by decide) (fun c_n => ?_) (fun c_n => ?_)
        · skip
          refine lv_aload_n hx hb dX7_push_118 rfl (lv_at hl 2 rfl) ?_
          refine lv_iload hx hb dX7_push_119 (lv_at hl 6 rfl) ?_
          refine lv_bipush (v := 24) hx hb dX7_push_121 (by decide) ?_
          refine lv_iadd hx hb dX7_push_123 ?_
          refine z_topi (y := nI ((9 + (28 * o)) + 24)) (nI_add (9 + (28 * o)) 24) ?_
          refine z_iald hx hb hK hM 0 rfl (v := (zXg (zXg g (zIl n (2 - i) + 0) (zIl n (1 - i) + 0)) (zIl n (2 - i) + 9) (zIl n (1 - i) + 9)) 24) (vp_in_nI (by omega) (by decide)) (by rw [nI_clamp (by omega), flt_b o 24 (by omega) (by omega), va_ups]) dX7_push_124 ?_
          refine lv_iload hx hb dX7_push_125 (lv_at hl 0 rfl) ?_
          refine lv_icmp_ne (tgt := 135) hx hb dX7_push_127 (by decide) (fun c_m => ?_) (fun c_m => ?_)
          · skip
            refine lv_aload_n hx hb dX7_push_135 rfl (lv_at hl 2 rfl) ?_
            refine lv_iload hx hb dX7_push_136 (lv_at hl 6 rfl) ?_
            refine lv_bipush (v := 24) hx hb dX7_push_138 (by decide) ?_
            refine lv_iadd hx hb dX7_push_140 ?_
            refine z_topi (y := nI ((9 + (28 * o)) + 24)) (nI_add (9 + (28 * o)) 24) ?_
            refine z_iald hx hb hK hM 0 rfl (v := (zXg (zXg g (zIl n (2 - i) + 0) (zIl n (1 - i) + 0)) (zIl n (2 - i) + 9) (zIl n (1 - i) + 9)) 24) (vp_in_nI (by omega) (by decide)) (by rw [nI_clamp (by omega), flt_b o 24 (by omega) (by omega), va_ups]) dX7_push_141 ?_
            refine z_iast (ws' := [(r, .inl (G.2 1, 121, .inl (flt h (va_up (va_up b o (zXg (zXg g (zIl n (2 - i) + 0) (zIl n (1 - i) + 0)) (zIl n (2 - i) + 9) (zIl n (1 - i) + 9))) o (upd ((va_up b o (zXg (zXg g (zIl n (2 - i) + 0) (zIl n (1 - i) + 0)) (zIl n (2 - i) + 9) (zIl n (1 - i) + 9))) o) 24 ((zXg (zXg g (zIl n (2 - i) + 0) (zIl n (1 - i) + 0)) (zIl n (2 - i) + 9) (zIl n (1 - i) + 9)) 24))))))]) hx hb hK hM 0 rfl (vp_in_nI (by omega) (by decide)) dX7_push_142 (by rw [nI_clamp (by omega), flt_ub o 24 (by omega) (by omega)]; rfl) (fun H locs hM => ?_)
            rw [va_upup, va_ups] at hM
            have hM : zM G A s H locs ([(r, .inl (G.2 1, 121, .inl (flt h (va_up b o (upd (zXg (zXg g (zIl n (2 - i) + 0) (zIl n (1 - i) + 0)) (zIl n (2 - i) + 9) (zIl n (1 - i) + 9)) 24 ((zXg (zXg g (zIl n (2 - i) + 0) (zIl n (1 - i) + 0)) (zIl n (2 - i) + 9) (zIl n (1 - i) + 9)) 24))))))]) := hM
            refine lv_iinc (v := nI (i + 1)) (lv' := [(5, .int (nI (i + 1))), (7, .int (nI (zIl n (1 - i)))), (6, .int (nI (zIl n (2 - i)))), (0, .ref r), (1, .int (nI o)), (2, .int (nI n)), (3, .int d), (4, .int (nI (9 + (28 * o))))]) hx hb dX7_push_143 hl (k := 7) rfl (nI_1 i) (by decide) rfl (fun ls hl => ?_)
            refine lv_goto (tgt := 9) hx hb dX7_push_146 (by decide) ?_
            exact ih (i + 1) _ (by omega) (by rw [hR, zIt_s, zP1_e, zPn, zPm, if_pos ed, if_pos ed, zXs, if_neg c_n, if_neg c_m]) _ _ hM _ (lv_sub hl [3, 4, 5, 6, 7, 0] rfl)
          · skip
            refine lv_iload hx hb dX7_push_130 (lv_at hl 1 rfl) ?_
            refine lv_goto (tgt := 142) hx hb dX7_push_132 (by decide) ?_
            refine z_iast (ws' := [(r, .inl (G.2 1, 121, .inl (flt h (va_up (va_up b o (zXg (zXg g (zIl n (2 - i) + 0) (zIl n (1 - i) + 0)) (zIl n (2 - i) + 9) (zIl n (1 - i) + 9))) o (upd ((va_up b o (zXg (zXg g (zIl n (2 - i) + 0) (zIl n (1 - i) + 0)) (zIl n (2 - i) + 9) (zIl n (1 - i) + 9))) o) 24 (nI (zIl n (2 - i))))))))]) hx hb hK hM 0 rfl (vp_in_nI (by omega) (by decide)) dX7_push_142 (by rw [nI_clamp (by omega), flt_ub o 24 (by omega) (by omega)]; rfl) (fun H locs hM => ?_)
            rw [va_upup, va_ups] at hM
            have hM : zM G A s H locs ([(r, .inl (G.2 1, 121, .inl (flt h (va_up b o (upd (zXg (zXg g (zIl n (2 - i) + 0) (zIl n (1 - i) + 0)) (zIl n (2 - i) + 9) (zIl n (1 - i) + 9)) 24 (nI (zIl n (2 - i))))))))]) := hM
            refine lv_iinc (v := nI (i + 1)) (lv' := [(5, .int (nI (i + 1))), (7, .int (nI (zIl n (1 - i)))), (6, .int (nI (zIl n (2 - i)))), (0, .ref r), (1, .int (nI o)), (2, .int (nI n)), (3, .int d), (4, .int (nI (9 + (28 * o))))]) hx hb dX7_push_143 hl (k := 7) rfl (nI_1 i) (by decide) rfl (fun ls hl => ?_)
            refine lv_goto (tgt := 9) hx hb dX7_push_146 (by decide) ?_
            exact ih (i + 1) _ (by omega) (by rw [hR, zIt_s, zP1_e, zPn, zPm, if_pos ed, if_pos ed, zXs, if_neg c_n, if_pos c_m]) _ _ hM _ (lv_sub hl [3, 4, 5, 6, 7, 0] rfl)
        · skip
          refine lv_iload hx hb dX7_push_113 (lv_at hl 0 rfl) ?_
          refine lv_goto (tgt := 142) hx hb dX7_push_115 (by decide) ?_
          refine z_iast (ws' := [(r, .inl (G.2 1, 121, .inl (flt h (va_up (va_up b o (zXg (zXg g (zIl n (2 - i) + 0) (zIl n (1 - i) + 0)) (zIl n (2 - i) + 9) (zIl n (1 - i) + 9))) o (upd ((va_up b o (zXg (zXg g (zIl n (2 - i) + 0) (zIl n (1 - i) + 0)) (zIl n (2 - i) + 9) (zIl n (1 - i) + 9))) o) 24 (nI (zIl n (1 - i))))))))]) hx hb hK hM 0 rfl (vp_in_nI (by omega) (by decide)) dX7_push_142 (by rw [nI_clamp (by omega), flt_ub o 24 (by omega) (by omega)]; rfl) (fun H locs hM => ?_)
          rw [va_upup, va_ups] at hM
          have hM : zM G A s H locs ([(r, .inl (G.2 1, 121, .inl (flt h (va_up b o (upd (zXg (zXg g (zIl n (2 - i) + 0) (zIl n (1 - i) + 0)) (zIl n (2 - i) + 9) (zIl n (1 - i) + 9)) 24 (nI (zIl n (1 - i))))))))]) := hM
          refine lv_iinc (v := nI (i + 1)) (lv' := [(5, .int (nI (i + 1))), (7, .int (nI (zIl n (1 - i)))), (6, .int (nI (zIl n (2 - i)))), (0, .ref r), (1, .int (nI o)), (2, .int (nI n)), (3, .int d), (4, .int (nI (9 + (28 * o))))]) hx hb dX7_push_143 hl (k := 7) rfl (nI_1 i) (by decide) rfl (fun ls hl => ?_)
          refine lv_goto (tgt := 9) hx hb dX7_push_146 (by decide) ?_
          exact ih (i + 1) _ (by omega) (by rw [hR, zIt_s, zP1_e, zPn, zPm, if_pos ed, if_pos ed, zXs, if_pos c_n]) _ _ hM _ (lv_sub hl [3, 4, 5, 6, 7, 0] rfl)
  exact lp9 2 0 (b o) rfl (zPu_e (b o) n d) _ _ (by rw [va_upe]; exact hM) _ (lv_sub hl [2, 3, 4, 5, 1, 0] rfl)
