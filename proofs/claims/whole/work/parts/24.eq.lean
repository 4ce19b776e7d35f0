/-! dealing does not depend on what the board was -/
def zEq (n : Nat) (u v : Nat → Int32) : Prop := ∀ j, j < n → u j = v j
theorem zEq_upd {n i : Nat} {u v : Nat → Int32} {w : Int32} (h : zEq n u v) : zEq n (upd u i w) (upd v i w) := by
  intro j hj
  by_cases e : j = i
  · subst e
    rw [pk_us, pk_us]
  · rw [pk_un e, pk_un e]
    exact h j hj
theorem zEq_gr {i : Nat} {u v : Nat → Int32} {w : Int32} (h : zEq i u v) : zEq (i + 1) (upd u i w) (upd v i w) := by
  intro j hj
  by_cases e : j = i
  · subst e
    rw [pk_us, pk_us]
  · rw [pk_un e, pk_un e]
    exact h j (by omega)
theorem zIt_rel {α : Type} {F : Nat → α → α} {R : Nat → α → α → Prop} : ∀ (k i : Nat) (s t : α), (∀ j s t, i ≤ j → j < i + k → R j s t → R (j + 1) (F j s) (F j t)) → R i s t → R (i + k) (zIt F k i s) (zIt F k i t)
  | 0, _, _, _, _, h => h
  | k + 1, i, s, t, hs, h => by
    rw [zIt_s, zIt_s, show i + (k + 1) = i + 1 + k by omega]
    exact zIt_rel k (i + 1) _ _ (fun j s t h1 h2 => hs j s t (by omega) (by omega)) (hs i s t (Nat.le_refl i) (by omega) h)
theorem zItd_rel {α : Type} {F : Nat → α → α} {R : α → α → Prop} : ∀ (k : Nat) (s t : α), (∀ j s t, 1 ≤ j → j ≤ k → R s t → R (F j s) (F j t)) → R s t → R (zItd F k s) (zItd F k t)
  | 0, _, _, _, h => h
  | k + 1, s, t, hs, h => by
    rw [zItd_s, zItd_s]
    exact zItd_rel k _ _ (fun j s t h1 h2 => hs j s t h1 (by omega)) (hs (k + 1) s t (by omega) (Nat.le_refl _) h)
theorem zHd_eq {u v : Nat → Int32} (w : Int32) (a : Nat) (h : zEq 9 u v) : ∀ (k i : Nat), zEq 9 (zHd w a u k i) (zHd w a v k i)
  | 0, _ => h
  | k + 1, i => by
    rw [zHd, zHd, h ((a + i) % 9) (Nat.mod_lt _ (by decide))]
    split
    · exact zEq_upd h
    · exact zHd_eq w a h k (i + 1)
theorem zDa_eq (f g : Nat → Int32) (x : Int64) : (zDa f x).1 = (zDa g x).1 ∧ zEq 9 (zDa f x).2.1 (zDa g x).2.1 ∧ zEq 9 (zDa f x).2.2 (zDa g x).2.2 := by
  rw [zDa_e, zDa_e]
  refine zIt_rel (R := fun j (s t : Int64 × (Nat → Int32) × (Nat → Int32)) => s.1 = t.1 ∧ zEq j s.2.1 t.2.1 ∧ zEq j s.2.2 t.2.2) 9 0 _ _ (fun j s t _ _ hs => ?_) ⟨rfl, fun j hj => absurd hj (Nat.not_lt_zero j), fun j hj => absurd hj (Nat.not_lt_zero j)⟩
  obtain ⟨s1, s2, s3⟩ := s
  obtain ⟨t1, t2, t3⟩ := t
  obtain ⟨e1, e2, e3⟩ := hs
  have e1 : s1 = t1 := e1
  subst e1
  rw [zS1_e, zS1_e]
  exact ⟨rfl, zEq_gr e2, zEq_gr e3⟩
theorem zDb_eq (f g : Nat → Int32) (x : Int64) : (zDb f x).1 = (zDb g x).1 ∧ zEq 9 (zDb f x).2 (zDb g x).2 := by
  obtain ⟨h1, _, h3⟩ := zDa_eq f g x
  rw [zDb_e, zDb_e]
  refine zIt_rel (R := fun _ (s t : Int64 × (Nat → Int32)) => s.1 = t.1 ∧ zEq 9 s.2 t.2) 5 1 _ _ (fun j s t _ _ hs => ?_) ⟨h1, h3⟩
  obtain ⟨s1, s2⟩ := s
  obtain ⟨t1, t2⟩ := t
  obtain ⟨e1, e2⟩ := hs
  have e1 : s1 = t1 := e1
  subst e1
  rw [zS2_e, zS2_e]
  exact ⟨rfl, zHd_eq _ _ e2 9 0⟩
theorem zDo3_eq (f g : Nat → Int32) : zEq 5 (zDo3 f) (zDo3 g) := by
  rw [zDo3_e, zDo3_e]
  refine zIt_rel (R := fun j (s t : Nat → Int32) => zEq j s t) 5 0 _ _ (fun j s t _ _ hs => ?_) (fun j hj => absurd hj (Nat.not_lt_zero j))
  rw [zS3_e, zS3_e]
  exact zEq_gr hs
theorem zDc_eq (f g : Nat → Int32) (x : Int64) : (zDc f x).1 = (zDc g x).1 ∧ zEq 5 (zDc f x).2 (zDc g x).2 := by
  rw [zDc_e, zDc_e]
  refine zItd_rel (R := fun (s t : Int64 × (Nat → Int32)) => s.1 = t.1 ∧ zEq 5 s.2 t.2) 4 _ _ (fun j s t h1 h2 hs => ?_) ⟨(zDb_eq f g x).1, zDo3_eq f g⟩
  obtain ⟨s1, s2⟩ := s
  obtain ⟨t1, t2⟩ := t
  obtain ⟨e1, e2⟩ := hs
  have e1 : s1 = t1 := e1
  subst e1
  have e2 : zEq 5 s2 t2 := e2
  rw [zS4_e, zS4_e]
  have hm : zRk s1 % (j + 1) < 5 := Nat.lt_of_lt_of_le (Nat.mod_lt _ (by omega)) (by omega)
  refine ⟨rfl, ?_⟩
  show zEq 5 (zEx s2 j (zRk s1 % (j + 1))) (zEx t2 j (zRk s1 % (j + 1)))
  unfold zEx
  rw [e2 _ hm, e2 j (by omega)]
  exact zEq_upd (zEq_upd e2)
theorem zDx_eq (f g : Nat → Int32) (x : Int64) : zDx f x = zDx g x := by
  rw [zDx_e, zDx_e]
  exact (zDc_eq f g x).1
theorem zDl_eq (f g : Nat → Int32) (x : Int64) : zEq 28 (zDl f x) (zDl g x) := by
  intro k hk
  unfold zDl
  by_cases h9 : k < 9
  · rw [if_pos h9, if_pos h9]
    exact (zDa_eq f g x).2.1 k h9
  rw [if_neg h9, if_neg h9]
  by_cases h18 : k < 18
  · rw [if_pos h18, if_pos h18]
    exact (zDb_eq f g x).2 (k - 9) (by omega)
  rw [if_neg h18, if_neg h18]
  by_cases h23 : k < 23
  · rw [if_pos h23, if_pos h23]
    exact (zDc_eq f g x).2 (k - 18) (by omega)
  rw [if_neg h23, if_neg h23]
