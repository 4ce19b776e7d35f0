/-! BITS of a word, and what can be reached: as the reference counts it -/
def bt (x : Int32) (i : Nat) : Bool := x.toBitVec.getLsbD i
theorem bt_ext {x y : Int32} (h : ∀ i, i < 32 → bt x i = bt y i) : x = y :=
  Int32.toBitVec_inj.mp (BitVec.eq_of_getLsbD_eq (fun i hi => h i hi))
theorem bt_or (x y : Int32) (i : Nat) : bt (x ||| y) i = (bt x i || bt y i) := by
  unfold bt
  rw [Int32.toBitVec_or, BitVec.getLsbD_or]
theorem bt_and (x y : Int32) (i : Nat) : bt (x &&& y) i = (bt x i && bt y i) := by
  unfold bt
  rw [Int32.toBitVec_and, BitVec.getLsbD_and]
theorem bt_sm : ∀ k : Fin 32, ((nI k.val &&& 31).toBitVec.smod 32).toNat = k.val := by decide +kernel
theorem bt_shl (x : Int32) {k i : Nat} (hk : k < 32) (hi : i < 32) : bt (x <<< (nI k &&& 31)) i = (decide (k ≤ i) && bt x (i - k)) := by
  unfold bt
  rw [Int32.toBitVec_shiftLeft, BitVec.getLsbD_shiftLeft', bt_sm ⟨k, hk⟩, decide_eq_true hi, Bool.true_and]
  by_cases h : k ≤ i
  · rw [decide_eq_true h, decide_eq_false (Nat.not_lt.mpr h)]
    rfl
  · rw [decide_eq_false h, decide_eq_true (Nat.not_le.mp h)]
    rfl
theorem bt_hi (x : Int32) {i : Nat} (h : 32 ≤ i) : bt x i = false := BitVec.getLsbD_of_ge _ _ h
theorem bt_shr (x : Int32) {k i : Nat} (hk : k < 32) (hi : i < 32) (h31 : bt x 31 = false) : bt (x >>> (nI k &&& 31)) i = bt x (k + i) := by
  unfold bt
  rw [Int32.toBitVec_shiftRight, BitVec.getLsbD_sshiftRight', bt_sm ⟨k, hk⟩, decide_eq_false (Nat.not_le.mpr hi)]
  show (true && if k + i < 32 then _ else _) = _
  rw [Bool.true_and]
  by_cases h : k + i < 32
  · rw [if_pos h]
  · rw [if_neg h]
    have h1 : BitVec.getLsbD x.toBitVec (k + i) = false := BitVec.getLsbD_of_ge _ _ (by omega)
    rw [h1, BitVec.msb_eq_getLsbD_last]
    exact h31
theorem bt_0 (i : Nat) : bt 0 i = false := by
  unfold bt
  exact BitVec.getLsbD_zero
theorem bt_one (n : Nat) (hn : n < 31) (i : Nat) (hi : i < 32) : bt (1 <<< (nI n &&& 31)) i = decide (i = n) := by
  rw [bt_shl _ (by omega) hi]
  by_cases h : i = n
  · subst h
    rw [decide_eq_true (Nat.le_refl i), Nat.sub_self, decide_eq_true rfl]
    rfl
  · rw [decide_eq_false h]
    by_cases h2 : n ≤ i
    · obtain ⟨j, rfl⟩ : ∃ j, i = n + (j + 1) := ⟨i - n - 1, by omega⟩
      rw [show n + (j + 1) - n = j + 1 by omega]
      have h3 : bt 1 (j + 1) = false := by
        unfold bt
        show BitVec.getLsbD (1#32) (j + 1) = false
        rw [BitVec.getLsbD_one]
        simp
      rw [h3, Bool.and_false]
    · rw [decide_eq_false h2, Bool.false_and]
theorem and_pow (x c : Int32) (k : Nat) (hc : ∀ i : Fin 32, bt c i.val = decide (i.val = k)) : x &&& c = if bt x k = true then c else 0 := by
  refine bt_ext (fun i hi => ?_)
  rw [bt_and, hc ⟨i, hi⟩]
  by_cases h : i = k
  · subst h
    rw [decide_eq_true rfl, Bool.and_true]
    by_cases h2 : bt x i = true
    · rw [if_pos h2, h2, hc ⟨i, hi⟩]
      exact (decide_eq_true rfl).symm
    · rw [if_neg h2, bt_0]
      exact Bool.eq_false_iff.mpr h2
  · rw [decide_eq_false h, Bool.and_false]
    split
    · rw [hc ⟨i, hi⟩]
      exact (decide_eq_false h).symm
    · rw [bt_0]
theorem and_le {x c : Int32} {k : Nat} (hc : ∀ i : Fin 32, bt c i.val = decide (i.val = k)) (h0 : ¬ c ≤ 0) : x &&& c ≤ 0 ↔ bt x k = false := by
  rw [and_pow x c k hc]
  by_cases h2 : bt x k = true
  · rw [if_pos h2, h2]
    exact ⟨fun q => absurd q h0, fun q => by cases q⟩
  · rw [if_neg h2, Bool.eq_false_iff.mpr h2]
    exact ⟨fun _ => rfl, fun _ => Int32.le_refl 0⟩
theorem and_z {x c : Int32} {k : Nat} (hc : ∀ i : Fin 32, bt c i.val = decide (i.val = k)) (h0 : ¬ c = 0) : x &&& c = 0 ↔ bt x k = false := by
  rw [and_pow x c k hc]
  by_cases h2 : bt x k = true
  · rw [if_pos h2, h2]
    exact ⟨fun q => absurd q h0, fun q => by cases q⟩
  · rw [if_neg h2, Bool.eq_false_iff.mpr h2]
    exact ⟨fun _ => rfl, fun _ => rfl⟩
theorem bt_c1 : ∀ i : Fin 32, bt 1 i.val = decide (i.val = 0) := by decide +kernel
theorem bt_c2 : ∀ i : Fin 32, bt 2 i.val = decide (i.val = 1) := by decide +kernel
theorem bt_c4 : ∀ i : Fin 32, bt 4 i.val = decide (i.val = 2) := by decide +kernel
theorem bt_c8 : ∀ i : Fin 32, bt 8 i.val = decide (i.val = 3) := by decide +kernel
theorem le1 {x : Int32} : x &&& 1 ≤ 0 ↔ bt x 0 = false := and_le bt_c1 (by decide)
theorem le2 {x : Int32} : x &&& 2 ≤ 0 ↔ bt x 1 = false := and_le bt_c2 (by decide)
theorem le4 {x : Int32} : x &&& 4 ≤ 0 ↔ bt x 2 = false := and_le bt_c4 (by decide)
theorem le8 {x : Int32} : x &&& 8 ≤ 0 ↔ bt x 3 = false := and_le bt_c8 (by decide)
theorem gt1 {x : Int32} : ¬ x &&& 1 ≤ 0 ↔ bt x 0 = true := by rw [le1, Bool.not_eq_false]
theorem gt2 {x : Int32} : ¬ x &&& 2 ≤ 0 ↔ bt x 1 = true := by rw [le2, Bool.not_eq_false]
theorem gt4 {x : Int32} : ¬ x &&& 4 ≤ 0 ↔ bt x 2 = true := by rw [le4, Bool.not_eq_false]
theorem gt8 {x : Int32} : ¬ x &&& 8 ≤ 0 ↔ bt x 3 = true := by rw [le8, Bool.not_eq_false]
theorem nz1 {x : Int32} : ¬ x &&& 1 = 0 ↔ bt x 0 = true := by rw [and_z bt_c1 (by decide), Bool.not_eq_false]
theorem nz2 {x : Int32} : ¬ x &&& 2 = 0 ↔ bt x 1 = true := by rw [and_z bt_c2 (by decide), Bool.not_eq_false]
theorem nz4 {x : Int32} : ¬ x &&& 4 = 0 ↔ bt x 2 = true := by rw [and_z bt_c4 (by decide), Bool.not_eq_false]
theorem nz8 {x : Int32} : ¬ x &&& 8 = 0 ↔ bt x 3 = true := by rw [and_z bt_c8 (by decide), Bool.not_eq_false]
theorem bt_at {x : Int32} {n : Nat} (hn : n < 32) (h31 : bt x 31 = false) : (x >>> (nI n &&& 31)) &&& 1 = 1 ↔ bt x n = true := by
  rw [and_pow _ 1 0 bt_c1, bt_shr x hn (by decide) h31, Nat.add_zero]
  by_cases h2 : bt x n = true
  · rw [if_pos h2]
    exact ⟨fun _ => h2, fun _ => rfl⟩
  · rw [if_neg h2]
    exact ⟨fun q => absurd q (by decide), fun q => absurd q h2⟩
theorem nI_le0 {a : Nat} (h : a < 2 ^ 31) : nI a ≤ 0 ↔ a = 0 := by
  constructor
  · intro q
    exact Nat.le_zero.mp ((nI_leI (a := a) (b := 0) h (by decide)).mp q)
  · intro q
    subst q
    exact Int32.le_refl 0
theorem nI_s3 {n m : Nat} (hn : n < 1000) (hm : m < 1000) : nI m = nI n - 3 ↔ m + 3 = n := by
  constructor
  · intro q
    refine (nI_eq (a := m + 3) (b := n) (by omega) (by omega)).mp ?_
    rw [← nI_add, q]
    exact Int32.sub_add_cancel (nI n) 3
  · intro q
    subst q
    rw [← nI_add]
    exact (Int32.add_sub_cancel (nI m) 3).symm
def zAcq (f : Nat → Int32) (n : Nat) : Bool := bt (f n) 1 && bt (f (n + 1)) 3
def zDoq (f : Nat → Int32) (n : Nat) : Bool := bt (f n) 2 && bt (f (n + 3)) 0
def zJb (f : Nat → Int32) (n m : Nat) : Bool := if m + 1 = n ∧ 0 < n % 3 then zAcq f m else if m + 3 = n then zDoq f m else false
def zJn (f : Nat → Int32) (n m : Nat) : Bool := if m = n + 1 ∧ 0 < m % 3 then zAcq f n else if m = n + 3 then zDoq f n else if m < n then zJb f n m else false
def zUp (f : Nat → Int32) (x : Int32) (n m : Nat) (y : Int32) : Int32 := y ||| (if bt x n = true ∧ zJn f n m = true then 1 <<< (nI m &&& 31) else 0)
def zM1 (f : Nat → Int32) (x : Int32) (n : Nat) : Nat → Nat → Int32 → Int32
  | 0, _, y => y
  | k + 1, m, y => zM1 f x n k (m + 1) (zUp f x n m y)
def zN1 (f : Nat → Int32) (x : Int32) : Nat → Nat → Int32 → Int32
  | 0, _, y => y
  | k + 1, n, y => zN1 f x k (n + 1) (zM1 f x n 9 0 y)
theorem bt_zUp (f : Nat → Int32) (x : Int32) (n m : Nat) (y : Int32) (hm : m < 31) (j : Nat) (hj : j < 32) : bt (zUp f x n m y) j = (bt y j || (bt x n && zJn f n j && decide (j = m))) := by
  rw [zUp, bt_or]
  congr 1
  by_cases e : j = m
  · subst e
    rw [decide_eq_true rfl, Bool.and_true]
    by_cases h : bt x n = true ∧ zJn f n j = true
    · rw [if_pos h, bt_one _ hm _ hj, h.1, h.2]
      exact decide_eq_true rfl
    · rw [if_neg h, bt_0]
      cases h1 : bt x n <;> cases h2 : zJn f n j
      · rfl
      · rfl
      · rfl
      · exact absurd ⟨h1, h2⟩ h
  · rw [decide_eq_false e, Bool.and_false]
    split
    · rw [bt_one _ hm _ hj, decide_eq_false e]
    · exact bt_0 j
theorem bt_zM1 (f : Nat → Int32) (x : Int32) (n : Nat) (j : Nat) (hj : j < 32) : ∀ (k m : Nat) (y : Int32), m + k ≤ 9 → bt (zM1 f x n k m y) j = (bt y j || (bt x n && zJn f n j && decide (m ≤ j ∧ j < m + k)))
  | 0, m, y, _ => by
    rw [zM1, decide_eq_false (by omega), Bool.and_false, Bool.or_false]
  | k + 1, m, y, h => by
    rw [zM1, bt_zM1 f x n j hj k (m + 1) _ (by omega), bt_zUp f x n m y (by omega) j hj, Bool.or_assoc]
    congr 1
    cases (bt x n && zJn f n j)
    · rfl
    · by_cases e : j = m
      · rw [decide_eq_true e, decide_eq_true (p := m ≤ j ∧ j < m + (k + 1)) (by omega)]
        rfl
      · rw [decide_eq_false e]
        by_cases e2 : m + 1 ≤ j ∧ j < m + 1 + k
        · rw [decide_eq_true e2, decide_eq_true (by omega)]
          rfl
        · rw [decide_eq_false e2, decide_eq_false (by omega)]
          rfl
def zAny (g : Nat → Bool) : Nat → Nat → Bool
  | 0, _ => false
  | k + 1, n => g n || zAny g k (n + 1)
theorem bt_zN1 (f : Nat → Int32) (x : Int32) (j : Nat) (hj : j < 32) : ∀ (k n : Nat) (y : Int32), bt (zN1 f x k n y) j = (bt y j || (zAny (fun n => bt x n && zJn f n j) k n && decide (j < 9)))
  | 0, n, y => by
    rw [zN1, zAny, Bool.false_and, Bool.or_false]
  | k + 1, n, y => by
    rw [zN1, bt_zN1 f x j hj k (n + 1), bt_zM1 f x n j hj 9 0 y (by decide), Bool.or_assoc, zAny]
    congr 1
    rw [decide_eq_decide.mpr (show (0 ≤ j ∧ j < 0 + 9) ↔ j < 9 by omega), ← Bool.and_or_distrib_right]
theorem bt_zAc (f : Nat → Int32) (j : Nat) (hj : j < 32) : ∀ (k i : Nat) (x : Int32), i + k ≤ 8 → bt (zAc f k i x) j = (bt x j || (decide (i ≤ j ∧ j < i + k ∧ j % 3 < 2) && zAcq f j))
  | 0, i, x, _ => by
    rw [zAc, decide_eq_false (by omega), Bool.false_and, Bool.or_false]
  | k + 1, i, x, h => by
    rw [zAc, bt_zAc f j hj k (i + 1) _ (by omega)]
    by_cases e : j = i
    · subst e
      rw [decide_eq_false (p := j + 1 ≤ j ∧ j < j + 1 + k ∧ j % 3 < 2) (by omega), Bool.false_and, Bool.or_false]
      by_cases c : j % 3 < 2 ∧ ¬ f j &&& 2 = 0 ∧ ¬ f (j + 1) &&& 8 = 0
      · rw [if_pos c, bt_or, bt_one _ (by omega) _ hj, decide_eq_true (p := j ≤ j ∧ j < j + (k + 1) ∧ j % 3 < 2) (by omega), zAcq, nz2.mp c.2.1, nz8.mp c.2.2, decide_eq_true rfl]
        rfl
      · rw [if_neg c]
        by_cases c1 : j % 3 < 2
        · have h9 : zAcq f j = false := by
            rw [zAcq]
            cases h1 : bt (f j) 1 <;> cases h2 : bt (f (j + 1)) 3
            · rfl
            · rfl
            · rfl
            · exact absurd ⟨c1, nz2.mpr h1, nz8.mpr h2⟩ c
          rw [h9, Bool.and_false, Bool.or_false]
        · rw [decide_eq_false (p := j ≤ j ∧ j < j + (k + 1) ∧ j % 3 < 2) (by omega), Bool.false_and, Bool.or_false]
    · rw [decide_eq_decide.mpr (show (i ≤ j ∧ j < i + (k + 1) ∧ j % 3 < 2) ↔ (i + 1 ≤ j ∧ j < i + 1 + k ∧ j % 3 < 2) by omega)]
      congr 1
      split
      · rw [bt_or, bt_one _ (by omega) _ hj, decide_eq_false e, Bool.or_false]
      · rfl
theorem bt_zDo (f : Nat → Int32) (j : Nat) (hj : j < 32) : ∀ (k i : Nat) (x : Int32), i + k ≤ 6 → bt (zDo f k i x) j = (bt x j || (decide (i ≤ j ∧ j < i + k) && zDoq f j))
  | 0, i, x, _ => by
    rw [zDo, decide_eq_false (by omega), Bool.false_and, Bool.or_false]
  | k + 1, i, x, h => by
    rw [zDo, bt_zDo f j hj k (i + 1) _ (by omega)]
    by_cases e : j = i
    · subst e
      rw [decide_eq_false (p := j + 1 ≤ j ∧ j < j + 1 + k) (by omega), Bool.false_and, Bool.or_false, decide_eq_true (p := j ≤ j ∧ j < j + (k + 1)) (by omega)]
      by_cases c : ¬ f j &&& 4 = 0 ∧ ¬ f (j + 3) &&& 1 = 0
      · rw [if_pos c, bt_or, bt_one _ (by omega) _ hj, zDoq, nz4.mp c.1, nz1.mp c.2, decide_eq_true rfl]
        rfl
      · rw [if_neg c]
        have h9 : zDoq f j = false := by
          rw [zDoq]
          cases h1 : bt (f j) 2 <;> cases h2 : bt (f (j + 3)) 0
          · rfl
          · rfl
          · rfl
          · exact absurd ⟨nz4.mpr h1, nz1.mpr h2⟩ c
        rw [h9, Bool.and_false, Bool.or_false]
    · rw [decide_eq_decide.mpr (show (i ≤ j ∧ j < i + (k + 1)) ↔ (i + 1 ≤ j ∧ j < i + 1 + k) by omega)]
      congr 1
      split
      · rw [bt_or, bt_one _ (by omega) _ hj, decide_eq_false e, Bool.or_false]
      · rfl
theorem bt_acr (f : Nat → Int32) (j : Nat) (hj : j < 32) : bt (zAcr f) j = (decide (j < 8 ∧ j % 3 < 2) && zAcq f j) := by
  rw [zAcr, bt_zAc f j hj 8 0 0 (by decide), bt_0, Bool.false_or, decide_eq_decide.mpr (show (0 ≤ j ∧ j < 0 + 8 ∧ j % 3 < 2) ↔ (j < 8 ∧ j % 3 < 2) by omega)]
theorem bt_dow (f : Nat → Int32) (j : Nat) (hj : j < 32) : bt (zDow f) j = (decide (j < 6) && zDoq f j) := by
  rw [zDow, bt_zDo f j hj 6 0 0 (by decide), bt_0, Bool.false_or, decide_eq_decide.mpr (show (0 ≤ j ∧ j < 0 + 6) ↔ j < 6 by omega)]
def zW9 (x : Int32) : Prop := ∀ i, 9 ≤ i → bt x i = false
theorem bt_wi {x : Int32} (a d : Int32) (hx9 : zW9 x) (j : Nat) (hj : j < 32) : bt (zWi x a d) j = ((bt x j || ((decide (1 ≤ j) && (bt x (j - 1) && bt a (j - 1))) || (bt x (1 + j) && bt a j))) || ((decide (3 ≤ j) && (bt x (j - 3) && bt d (j - 3))) || (bt x (3 + j) && bt d j))) := by
  have h31 : bt x 31 = false := hx9 31 (by decide)
  show bt ((x ||| (((x &&& a) <<< (nI 1 &&& 31)) ||| ((x >>> (nI 1 &&& 31)) &&& a))) ||| (((x &&& d) <<< (nI 3 &&& 31)) ||| ((x >>> (nI 3 &&& 31)) &&& d))) j = _
  rw [bt_or, bt_or, bt_or, bt_or, bt_shl _ (by decide) hj, bt_shl _ (by decide) hj, bt_and, bt_and, bt_and, bt_and, bt_shr _ (by decide) hj h31, bt_shr _ (by decide) hj h31]
theorem zN1_wi (f : Nat → Int32) {x : Int32} (hx9 : zW9 x) : zN1 f x 9 0 x = zWi x (zAcr f) (zDow f) := by
  refine bt_ext (fun j hj => ?_)
  rw [bt_zN1 f x j hj, bt_wi _ _ hx9 j hj, bt_acr f j hj, bt_dow f j hj, bt_acr f (j - 1) (by omega), bt_dow f (j - 3) (by omega)]
  by_cases h9 : j < 9
  · have h : j = 0 ∨ j = 1 ∨ j = 2 ∨ j = 3 ∨ j = 4 ∨ j = 5 ∨ j = 6 ∨ j = 7 ∨ j = 8 := by omega
    have b9 := hx9 9 (by decide)
    have b10 := hx9 10 (by decide)
    have b11 := hx9 11 (by decide)
    rcases h with rfl | rfl | rfl | rfl | rfl | rfl | rfl | rfl | rfl <;> simp [zAny, zJn, zJb, b9, b10, b11, Bool.or_assoc, Bool.or_comm, Bool.or_left_comm]
  · rw [decide_eq_false h9, Bool.and_false, hx9 (1 + j) (by omega), hx9 (3 + j) (by omega), decide_eq_false (p := j - 1 < 8 ∧ (j - 1) % 3 < 2) (by omega), decide_eq_false (p := j - 3 < 6) (by omega)]
    simp
theorem zWi_9 (f : Nat → Int32) {x : Int32} (hx9 : zW9 x) : zW9 (zWi x (zAcr f) (zDow f)) := by
  intro j h9
  by_cases hj : j < 32
  · rw [bt_wi _ _ hx9 j hj, bt_acr f j hj, bt_dow f j hj, bt_acr f (j - 1) (by omega), bt_dow f (j - 3) (by omega), hx9 j h9, hx9 (1 + j) (by omega), hx9 (3 + j) (by omega), decide_eq_false (p := j - 1 < 8 ∧ (j - 1) % 3 < 2) (by omega), decide_eq_false (p := j - 3 < 6) (by omega)]
    simp
  · exact bt_hi _ (by omega)
theorem zRe_9 (f : Nat → Int32) : ∀ (k : Nat) {x : Int32}, zW9 x → zW9 (zRe (zAcr f) (zDow f) k x)
  | 0, _, h => h
  | k + 1, _, h => zRe_9 f k (zWi_9 f h)
theorem zOne_9 {s : Nat} (hs : s < 9) : zW9 (1 <<< (nI s &&& 31)) := by
  intro i h
  by_cases hi : i < 32
  · rw [bt_one _ (by omega) _ hi]
    exact decide_eq_false (by omega)
  · exact bt_hi _ (by omega)
theorem zRch_9 {f : Nat → Int32} (hw : zBw f) (k : Nat) : zW9 (zRch f k) := by
  obtain ⟨s, hs, es⟩ := hw.2.1
  rw [zRch, es]
  exact zRe_9 f k (zOne_9 hs)
theorem zW9_lt {x : Int32} (h : zW9 x) : ∃ v, v < 512 ∧ x = nI v := by
  refine ⟨x.toBitVec.toNat, Nat.lt_pow_two_of_testBit (n := 9) _ (fun i hi => h i hi), ?_⟩
  refine Int32.toBitVec_inj.mp ?_
  refine BitVec.eq_of_toNat_eq ?_
  show _ = (BitVec.ofInt 32 (x.toBitVec.toNat : Int)).toNat
  rw [BitVec.ofInt_natCast, BitVec.toNat_ofNat, Nat.mod_eq_of_lt x.toBitVec.isLt]
def zCn (x : Int32) : Nat → Nat → Int32 → Int32
  | 0, _, y => y
  | k + 1, i, y => zCn x k (i + 1) (y + (x >>> (nI i &&& 31) &&& 1))
theorem zCn_t : ∀ v : Fin 512, zCn (nI v.val) 9 0 0 = zBc (nI v.val) := by decide +kernel
theorem zCn_e {x : Int32} (h : zW9 x) : zCn x 9 0 0 = zBc x := by
  obtain ⟨v, hv, rfl⟩ := zW9_lt h
  exact zCn_t ⟨v, hv⟩
theorem zFd_r (t : Nat → Int32) (v : Int32) : ∀ (k i : Nat), zFd t v k i = -1 ∨ ∃ j, i ≤ j ∧ j < i + k ∧ zFd t v k i = nI j ∧ t j = v
  | 0, _ => Or.inl rfl
  | k + 1, i => by
    rw [zFd]
    by_cases h : t i = v
    · rw [if_pos h]
      exact Or.inr ⟨i, Nat.le_refl i, by omega, rfl, h⟩
    · rw [if_neg h]
      rcases zFd_r t v k (i + 1) with q | ⟨j, h1, h2, h3, h4⟩
      · exact Or.inl q
      · exact Or.inr ⟨j, by omega, by omega, h3, h4⟩
theorem zSp_r (f : Nat → Int32) : zSp f = -1 ∨ ∃ j, j < 9 ∧ zSp f = nI j ∧ f (9 + j) = zSo f := by
  rcases zFd_r (fun i => f (9 + i)) (zSo f) 9 0 with h | ⟨j, h1, h2, h3, h4⟩
  · exact Or.inl h
  · exact Or.inr ⟨j, by omega, h3, h4⟩
theorem zIn_nI {x : Int32} {j : Nat} (h : j < 9) : zIn x (nI j) = decide (x >>> (nI j &&& 31) &&& 1 = 1) := by
  rw [zIn, zPl_nI h, Bool.true_and]
theorem zIn_m1 (x : Int32) : zIn x (-1) = false := by
  rw [zIn, show zPl (-1) = false from rfl, Bool.false_and]
theorem zIn_sp {f : Nat → Int32} {x : Int32} (h : ¬ zSp f = -1) : zIn x (zSp f) = decide (x >>> (zSp f &&& 31) &&& 1 = 1) := by
  rcases zSp_r f with q | ⟨j, h1, h2, _⟩
  · exact absurd q h
  · rw [h2, zIn_nI h1]
/-! the pushing of a line, tile by tile -/
theorem zIl_lt {l k : Nat} (hl : l < 6) (hk : k < 3) : zIl l k < 9 := by
  unfold zIl
  split <;> omega
def zPn (l : Nat) (d : Int32) (i : Nat) : Nat := if d = 1 then zIl l (2 - i) else zIl l i
def zPm (l : Nat) (d : Int32) (i : Nat) : Nat := if d = 1 then zIl l (1 - i) else zIl l (i + 1)
def zXs (n m : Nat) (g : Nat → Int32) : Nat → Int32 := upd g 24 (if g 24 = nI n then nI m else if g 24 = nI m then nI n else g 24)
def zP1 (l : Nat) (d : Int32) (i : Nat) (g : Nat → Int32) : Nat → Int32 := zXs (zPn l d i) (zPm l d i) (zXg (zXg g (zPn l d i + 0) (zPm l d i + 0)) (zPn l d i + 9) (zPm l d i + 9))
theorem zP1_e (l : Nat) (d : Int32) (i : Nat) (g : Nat → Int32) : zP1 l d i g = zXs (zPn l d i) (zPm l d i) (zXg (zXg g (zPn l d i + 0) (zPm l d i + 0)) (zPn l d i + 9) (zPm l d i + 9)) := rfl
def zPu (f : Nat → Int32) (l : Nat) (d : Int32) : Nat → Int32 := zIt (zP1 l d) 2 0 f
theorem zPu_e (f : Nat → Int32) (l : Nat) (d : Int32) : zPu f l d = zIt (zP1 l d) 2 0 f := rfl
def zSw (n m : Nat) (s : Int32) : Int32 := if s = nI n then nI m else if s = nI m then nI n else s
theorem zPn_lt {l i : Nat} (d : Int32) (hl : l < 6) (hi : i < 2) : zPn l d i < 9 := by
  unfold zPn
  split <;> exact zIl_lt hl (by omega)
theorem zPm_lt {l i : Nat} (d : Int32) (hl : l < 6) (hi : i < 2) : zPm l d i < 9 := by
  unfold zPm
  split <;> exact zIl_lt hl (by omega)
theorem zP1_24 {l i : Nat} (d : Int32) (hl : l < 6) (hi : i < 2) (g : Nat → Int32) : zP1 l d i g 24 = zSw (zPn l d i) (zPm l d i) (g 24) := by
  have h1 := zPn_lt d hl hi
  have h2 := zPm_lt d hl hi
  rw [zP1_e, zXs, pk_us, zXg_e, zXg_e, pk_un (by omega), pk_un (by omega), pk_un (by omega), pk_un (by omega), zSw]
theorem zPu_24 {l : Nat} (d : Int32) (hl : l < 6) (f : Nat → Int32) : zPu f l d 24 = zSw (zPn l d 1) (zPm l d 1) (zSw (zPn l d 0) (zPm l d 0) (f 24)) := by
  rw [zPu_e, zIt_s, zIt_s, zIt_0, zP1_24 d hl (by decide), zP1_24 d hl (by decide)]
theorem zSw_t : ∀ (l : Fin 6) (w : Fin 2) (s : Fin 9), zSw (zPn l.val (nI w.val) 1) (zPm l.val (nI w.val) 1) (zSw (zPn l.val (nI w.val) 0) (zPm l.val (nI w.val) 0) (nI s.val)) = zSh (zMa l.val) (zMb l.val) (zMh (nI w.val)) (nI s.val) 3 0 := by decide +kernel
theorem zPu_mv (f : Nat → Int32) {l : Nat} (hl : l < 6) {w : Nat} (hw : w < 2) {s : Nat} (hs : s < 9) (es : f 24 = nI s) : ∀ j, j < 28 → upd (upd (zPu f l (nI w)) 26 (nI l)) 27 (nI w) j = zMv f l (nI w) j := by
  have hl6 : l = 0 ∨ l = 1 ∨ l = 2 ∨ l = 3 ∨ l = 4 ∨ l = 5 := by omega
  have hw2 : w = 0 ∨ w = 1 := by omega
  have key : ∀ j, j < 28 → ¬ j = 24 → upd (upd (zPu f l (nI w)) 26 (nI l)) 27 (nI w) j = zMv f l (nI w) j := by
    intro j hj n24
    have hj8 : j = 0 ∨ j = 1 ∨ j = 2 ∨ j = 3 ∨ j = 4 ∨ j = 5 ∨ j = 6 ∨ j = 7 ∨ j = 8 ∨ j = 9 ∨ j = 10 ∨ j = 11 ∨ j = 12 ∨ j = 13 ∨ j = 14 ∨ j = 15 ∨ j = 16 ∨ j = 17 ∨ j = 18 ∨ j = 19 ∨ j = 20 ∨ j = 21 ∨ j = 22 ∨ j = 23 ∨ j = 25 ∨ j = 26 ∨ j = 27 := by omega
    rcases hl6 with rfl | rfl | rfl | rfl | rfl | rfl <;> rcases hw2 with rfl | rfl <;> rcases hj8 with rfl | rfl | rfl | rfl | rfl | rfl | rfl | rfl | rfl | rfl | rfl | rfl | rfl | rfl | rfl | rfl | rfl | rfl | rfl | rfl | rfl | rfl | rfl | rfl | rfl | rfl | rfl <;> rfl
  intro j hj
  by_cases n24 : j = 24
  · subst n24
    rw [pk_un (by decide), pk_un (by decide), zPu_24 _ hl, es]
    show _ = zSh (zMa l) (zMb l) (zMh (nI w)) (f 24) 3 0
    rw [es]
    exact zSw_t ⟨l, hl⟩ ⟨w, hw⟩ ⟨s, hs⟩
  · exact key j hj n24
