/-! the class's memory and the reference's diary hold the same games -/
def zRow (D : Nat → Int32) (i : Nat) (h : Nat → Int32) (b : Nat → Nat → Int32) : Prop := ∃ (c : Nat → Nat → Int32) (P t S e : Nat), zGs h b P t S e ∧ zBe P b c ∧ ∀ k, k < 121 → D (121 * i + k) = flt h c k
def zRi (mk mx i : Nat) : Nat := (mx + 14 - mk + i) % 14
def zMem (mk mx : Nat) (mh : Nat → Nat → Int32) (mb : Nat → Nat → Nat → Int32) (D : Nat → Int32) : Prop := mk ≤ 14 ∧ mx < 14 ∧ (∀ i, i < 14 → zHz (mh i)) ∧ ∀ i, i < mk → zRow D i (mh (zRi mk mx i)) (mb (zRi mk mx i))
theorem zRow_eq {D E : Nat → Int32} {i j : Nat} {h : Nat → Int32} {b : Nat → Nat → Int32} (r : zRow D i h b) (q : ∀ k, k < 121 → E (121 * j + k) = D (121 * i + k)) : zRow E j h b := by
  obtain ⟨c, P, t, S, e, w, z, f⟩ := r
  exact ⟨c, P, t, S, e, w, z, fun k hk => (q k hk).trans (f k hk)⟩
theorem zGs_hz {h : Nat → Int32} {b : Nat → Nat → Int32} {P t S e : Nat} (w : zGs h b P t S e) : zHz h := ⟨w.1.1.2.2.2.2.2.2.1, w.1.1.2.2.2.2.2.2.2⟩
theorem zMi_rN {k : Nat} (hk : k ≤ 14) : zMi k = zrN k := by
  unfold zMi zrN
  split <;> split <;> omega
theorem zRi_lt (mk mx i : Nat) : zRi mk mx i < 14 := by
  unfold zRi
  omega
theorem zMem_0 {mk mx : Nat} {mh : Nat → Nat → Int32} {mb : Nat → Nat → Nat → Int32} {D E : Nat → Int32} (m : zMem mk mx mh mb D) : zMem 0 mx mh mb E := ⟨Nat.zero_le 14, m.2.1, m.2.2.1, fun i hi => absurd hi (Nat.not_lt_zero i)⟩
theorem zMem_put {mk mx : Nat} {mh : Nat → Nat → Int32} {mb : Nat → Nat → Nat → Int32} {D : Nat → Int32} {h : Nat → Int32} {b c : Nat → Nat → Int32} {P t S e : Nat} (m : zMem mk mx mh mb D) (w : zGs h b P t S e) (q : zBe P b c) : zMem (zrN mk) (zNe mx) (va_up mh mx h) (va_up mb mx b) (zrD mk (flt h c) D) := by
  obtain ⟨hk, hx, hz, hr⟩ := m
  refine ⟨by unfold zrN; split <;> omega, by unfold zNe; split <;> omega, fun i hi => ?_, fun i hi => ?_⟩
  · by_cases e9 : i = mx
    · subst e9
      rw [va_ups]
      exact zGs_hz w
    · rw [va_upn _ _ e9]
      exact hz i hi
  · by_cases hk4 : mk < 14
    · have hi : i < mk + 1 := by unfold zrN at hi; rwa [if_pos hk4] at hi
      have ex : zrN mk = mk + 1 := if_pos hk4
      have ed : zrD mk (flt h c) D = cpv (flt h c) D 0 (121 * mk) 121 := if_pos hk4
      by_cases e9 : i = mk
      · subst e9
        have er : zRi (zrN i) (zNe mx) i = mx := by
          rw [ex]
          unfold zRi zNe
          split <;> omega
        rw [er, va_ups, va_ups, ed]
        refine ⟨c, P, t, S, e, w, q, fun k hk => ?_⟩
        rw [cpv_in hk, Nat.zero_add]
      · have er : zRi (zrN mk) (zNe mx) i = zRi mk mx i := by
          rw [ex]
          unfold zRi zNe
          split <;> omega
        have en : ¬ zRi mk mx i = mx := by
          unfold zRi
          omega
        rw [er, va_upn _ _ en, va_upn _ _ en, ed]
        exact zRow_eq (hr i (by omega)) (fun k hk => cpv_out (by omega))
    · have e14 : mk = 14 := by omega
      subst e14
      have hi : i < 14 := hi
      have ed : zrD 14 (flt h c) D = cpv (flt h c) (shf D 1573) 0 (121 * 13) 121 := if_neg (by decide)
      by_cases e9 : i = 13
      · subst e9
        have er : zRi (zrN 14) (zNe mx) 13 = mx := by
          show (zNe mx + 14 - 14 + 13) % 14 = mx
          unfold zNe
          split <;> omega
        rw [er, va_ups, va_ups, ed]
        refine ⟨c, P, t, S, e, w, q, fun k hk => ?_⟩
        rw [cpv_in hk, Nat.zero_add]
      · have er : zRi (zrN 14) (zNe mx) i = zRi 14 mx (i + 1) := by
          show (zNe mx + 14 - 14 + i) % 14 = (mx + 14 - 14 + (i + 1)) % 14
          unfold zNe
          split <;> omega
        have en : ¬ zRi 14 mx (i + 1) = mx := by
          unfold zRi
          omega
        rw [er, va_upn _ _ en, va_upn _ _ en, ed]
        refine zRow_eq (hr (i + 1) (by omega)) (fun k hk => ?_)
        rw [cpv_out (by omega)]
        unfold shf
        rw [if_pos (by omega)]
        exact congrArg D (by omega)
theorem zMem_pop {mk mx : Nat} {mh : Nat → Nat → Int32} {mb : Nat → Nat → Nat → Int32} {D : Nat → Int32} (m : zMem mk mx mh mb D) (hk1 : 1 ≤ mk) : zMem (mk - 1) (zPv mx) mh mb D ∧ zRow D (mk - 1) (mh (zPv mx)) (mb (zPv mx)) := by
  obtain ⟨hk, hx, hz, hr⟩ := m
  refine ⟨⟨by omega, by unfold zPv; split <;> omega, hz, fun i hi => ?_⟩, ?_⟩
  · have er : zRi (mk - 1) (zPv mx) i = zRi mk mx i := by
      unfold zRi zPv
      split <;> omega
    rw [er]
    exact hr i (by omega)
  · have er : zPv mx = zRi mk mx (mk - 1) := by
      unfold zRi zPv
      split <;> omega
    rw [er]
    exact hr (mk - 1) (by omega)
/-- the games that are kept -/
def zKep (K : Nat → Int32) (sh : Nat → Nat → Int32) (sb : Nat → Nat → Nat → Int32) (Q : Nat → Int32) : Prop := ∀ j, j < 2 → zHz (sh j) ∧ (¬ K j = 0 → zRow Q j (sh j) (sb j))
theorem zKep_0 {K : Nat → Int32} {sh : Nat → Nat → Int32} {sb : Nat → Nat → Nat → Int32} {Q E : Nat → Int32} (m : zKep K sh sb Q) : zKep (upd (upd K 0 0) 1 0) sh sb E := by
  intro j hj
  refine ⟨(m j hj).1, fun z => absurd ?_ z⟩
  have h2 : j = 0 ∨ j = 1 := by omega
  rcases h2 with rfl | rfl <;> rfl
theorem zKep_put {K : Nat → Int32} {sh : Nat → Nat → Int32} {sb : Nat → Nat → Nat → Int32} {Q : Nat → Int32} {h : Nat → Int32} {b c : Nat → Nat → Int32} {P t S e j : Nat} (m : zKep K sh sb Q) (w : zGs h b P t S e) (q : zBe P b c) (hj : j < 2) : zKep (upd K j 1) (va_up sh j h) (va_up sb j b) (cpv (flt h c) Q 0 (121 * j) 121) := by
  intro i hi
  by_cases e9 : i = j
  · subst e9
    rw [va_ups, va_ups]
    exact ⟨zGs_hz w, fun _ => ⟨c, P, t, S, e, w, q, fun k hk => by rw [cpv_in hk, Nat.zero_add]⟩⟩
  · rw [va_upn _ _ e9, va_upn _ _ e9]
    refine ⟨(m i hi).1, fun z => ?_⟩
    have z : ¬ K i = 0 := fun y => z (by rw [pk_un e9]; exact y)
    exact zRow_eq ((m i hi).2 z) (fun k hk => cpv_out (by omega))
