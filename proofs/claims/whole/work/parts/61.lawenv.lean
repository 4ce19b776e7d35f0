/-! what the start gives: classes, arrays' classes, links, static arrays, texts -/
set_option maxRecDepth 20000 in
theorem lw_m1 : ∀ q ∈ zNests, Cond.methodLinkNest q.1 q.2.1 q.2.2 RX6 ∈ lw_tbl := by decide +kernel
set_option maxRecDepth 20000 in
theorem lw_m2 : Cond.fieldLinkNest RX2 15 RX6 "FIRST_SETTINGS" "[I" RX6 ∈ lw_tbl := by decide +kernel
set_option maxRecDepth 20000 in
theorem lw_m3 : ∀ q ∈ zStrs, Cond.stringRef RX6 q.1 q.2 ∈ lw_tbl := by decide +kernel
set_option maxRecDepth 20000 in
theorem lw_m4 : ∀ q ∈ zStrs, Cond.exactly (Term.string RX6 q.1) "java/lang/String" ∈ flatC (Jvm.Cond.and given_1 narrow_1) := by decide +kernel
set_option maxRecDepth 20000 in
theorem lw_m5 : ∀ q ∈ zNcs, Cond.not (.castable q.1 q.2) ∈ flatC (Jvm.Cond.and given_1 narrow_1) := by decide +kernel
set_option maxRecDepth 20000 in
theorem lw_m6 : ∀ y ∈ zDcs, Cond.declares y ∈ lw_tbl := by decide +kernel
set_option maxRecDepth 20000 in
theorem lw_m7 : ∀ E ∈ zExs, Cond.castable E E ∈ lw_tbl := by decide +kernel
section LWS
variable {s : State} {bs : Nat}
theorem lw_hA : ∀ a : Nat, a < s.heap.size → ¬ lwA s a := fun _ h z => absurd h (Nat.not_lt.mpr z)
theorem lw_zA {n : String} {f : Nat → Int32} (hts : ∀ w ∈ lw_tbl, w.before #[Value.ref bs] s = true) (hf : ∀ w ∈ flatC (Jvm.Cond.and given_1 narrow_1), w.before #[Value.ref bs] s = true) (h1 : Cond.laysStatic "ShiftIsles" n "[I" ∈ lw_tbl) (h2 : Cond.initialized "ShiftIsles" ∈ lw_tbl) (h3 : Cond.arrayOf (.static "ShiftIsles" n "[I") .int ∈ flatC (Jvm.Cond.and given_1 narrow_1)) (h4 : Cond.eq (.length (.static "ShiftIsles" n "[I")) (.int 3) ∈ flatC (Jvm.Cond.and given_1 narrow_1)) (h5 : ∀ j, j < 3 → Cond.eq (.elem (.static "ShiftIsles" n "[I") (.int (Int32.ofNat j))) (.int (f j)) ∈ flatC (Jvm.Cond.and given_1 narrow_1)) : zA n 3 f (lwA s) s s.heap := by
  obtain ⟨t, ht, hT⟩ := va_Tof (tm := .static "ShiftIsles" n "[I") (ty := .int) (N := 3) (f := fun j => .int (f j)) (by decide) (hf _ h3) (va_eqt (hf _ h4)) (fun j hj => va_eqt (hf _ (h5 j hj))) lw_hA
  exact ⟨t, va_Zof (hts _ h1) (hts _ h2) ht lw_hA, hT⟩
set_option maxRecDepth 20000 in
theorem lw_zE (hts : ∀ w ∈ lw_tbl, w.before #[Value.ref bs] s = true) (hf : ∀ w ∈ flatC (Jvm.Cond.and given_1 narrow_1), w.before #[Value.ref bs] s = true) : zE (lwA s) s s.heap := by
  refine ⟨⟨fun q hq => va_Nw.of rfl (hts _ (lw_m1 q hq)), va_Nw.of rfl (hts _ lw_m2), fun q hq => ?_⟩, ⟨?_, ?_, ?_⟩, ?_, ?_⟩
  · obtain ⟨a, _, _, _, h1, _⟩ := Cond.exactly_spec (hf _ (lw_m4 q hq))
    exact ⟨a, vk_R.of (hts _ (lw_m3 q hq)) h1⟩
  · exact lw_zA hts hf (by decide +kernel) (by decide +kernel) (by decide +kernel) (by decide +kernel) (by decide +kernel)
  · exact lw_zA hts hf (by decide +kernel) (by decide +kernel) (by decide +kernel) (by decide +kernel) (by decide +kernel)
  · exact lw_zA hts hf (by decide +kernel) (by decide +kernel) (by decide +kernel) (by decide +kernel) (by decide +kernel)
  · exact vx_Zqof (hts _ (by decide +kernel)) (hts _ (by decide +kernel)) (hf _ (by decide +kernel)) lw_hA
  · exact vx_Zqof (hts _ (by decide +kernel)) (hts _ (by decide +kernel)) (hf _ (by decide +kernel)) lw_hA
theorem lw_zNc (hf : ∀ w ∈ flatC (Jvm.Cond.and given_1 narrow_1), w.before #[Value.ref bs] s = true) : zNc s := fun q hq => va_Nc.of (hf _ (lw_m5 q hq))
theorem lw_zTh (hts : ∀ w ∈ lw_tbl, w.before #[Value.ref bs] s = true) : zTh s := ⟨fun y hy => va_Nw.of rfl (hts _ (lw_m6 y hy)), fun E hE => va_Nw.of rfl (hts _ (lw_m7 E hE))⟩
set_option maxRecDepth 20000 in
theorem lw_zAo (hts : ∀ w ∈ lw_tbl, w.before #[Value.ref bs] s = true) : zAo s := ⟨va_AO.of (hts _ (by decide +kernel)), va_AO.of (hts _ (by decide +kernel))⟩
set_option maxRecDepth 20000 in
theorem lw_known (hts : ∀ w ∈ lw_tbl, w.before #[Value.ref bs] s = true) : ∃ G : zC, va_K G.1 vwCl (zT G) s := by
  obtain ⟨c0, i0, k0⟩ := u_known (C := RX0) (T := TX0) (N := 8) (n := 8) hts inX0 (hts (.instantiable RX0 8) (by decide +kernel))
  obtain ⟨c1, i1, k1⟩ := u_known (C := RX1) (T := TX1) (N := 1) (n := 1) hts inX1 (hts (.instantiable RX1 1) (by decide +kernel))
  obtain ⟨c2, i2, k2⟩ := u_known (C := RX2) (T := TX2) (N := 8) (n := 8) hts inX2 (hts (.instantiable RX2 8) (by decide +kernel))
  obtain ⟨c3, i3, k3⟩ := u_known (C := RX3) (T := TX3) (N := 3) (n := 3) hts inX3 (hts (.instantiable RX3 3) (by decide +kernel))
  obtain ⟨c4, i4, k4⟩ := u_known (C := RX4) (T := TX4) (N := 5) (n := 5) hts inX4 (hts (.instantiable RX4 5) (by decide +kernel))
  obtain ⟨c5, i5, k5⟩ := u_known (C := RX5) (T := TX5) (N := 2) (n := 2) hts inX5 (hts (.instantiable RX5 2) (by decide +kernel))
  obtain ⟨c6, i6, k6⟩ := u_known (C := RX6) (T := TX6) (N := 8) (n := 8) hts inX6 (hts (.instantiable RX6 8) (by decide +kernel))
  obtain ⟨c7, i7, k7⟩ := u_known (C := RX7) (T := TX7) (N := 16) (n := 16) hts inX7 (hts (.instantiable RX7 16) (by decide +kernel))
  obtain ⟨a0, q0, p0, e0, f0, g0⟩ := Cond.arrayClass_spec (hts (.arrayClass .char) (by decide +kernel))
  obtain ⟨a1, q1, p1, e1, f1, g1⟩ := Cond.arrayClass_spec (hts (.arrayClass .int) (by decide +kernel))
  obtain ⟨a2, q2, p2, e2, f2, g2⟩ := Cond.arrayClass_spec (hts (.arrayClass .boolean) (by decide +kernel))
  obtain ⟨a5, q5, p5, e5, f5, g5⟩ := Cond.arrayClass_spec (hts (.arrayClass .long) (by decide +kernel))
  obtain ⟨p3, a3, q3, e3, _, f3, g3, h3⟩ := Cond.arrayOver_spec (hts (.arrayOver (.object "ShiftIsles$Board")) (by decide +kernel))
  obtain ⟨p4, a4, q4, e4, _, f4, g4, h4⟩ := Cond.arrayOver_spec (hts (.arrayOver (.object "ShiftIsles$Game")) (by decide +kernel))
  refine ⟨((fun k => if k = 0 then c0 else if k = 1 then c1 else if k = 2 then c2 else if k = 3 then c3 else if k = 4 then c4 else if k = 5 then c5 else if k = 6 then c6 else c7, fun k => if k = 0 then i0 else if k = 1 then i1 else if k = 2 then i2 else if k = 3 then i3 else if k = 4 then i4 else if k = 5 then i5 else if k = 6 then i6 else i7), fun k => if k = 0 then a0 else if k = 1 then a1 else if k = 2 then a2 else if k = 3 then a3 else if k = 4 then a4 else a5), fun k q hq => ?_, fun k q hq => ?_⟩
  · match k, hq with
    | 0, hq => cases hq; exact k0
    | 1, hq => cases hq; exact k1
    | 2, hq => cases hq; exact k2
    | 3, hq => cases hq; exact k3
    | 4, hq => cases hq; exact k4
    | 5, hq => cases hq; exact k5
    | 6, hq => cases hq; exact k6
    | 7, hq => cases hq; exact k7
    | k + 8, hq => simp [vwCl] at hq
  · match k, hq with
    | 0, hq => cases hq; exact ⟨fun N z => ⟨fun k h => (by cases h), q0, f0, p0, g0⟩, e0⟩
    | 1, hq => cases hq; exact ⟨fun N z => ⟨fun k h => (by cases h), q1, f1, p1, g1⟩, e1⟩
    | 2, hq => cases hq; exact ⟨fun N z => ⟨fun k h => (by cases h), q2, f2, p2, g2⟩, e2⟩
    | 3, hq => cases hq; exact ⟨fun N z => ⟨fun k h => (by cases h), q3, f3, p3, g3⟩, q3, p3, f3, g3, e3, h3⟩
    | 4, hq => cases hq; exact ⟨fun N z => ⟨fun k h => (by cases h), q4, f4, p4, g4⟩, q4, p4, f4, g4, e4, h4⟩
    | 5, hq => cases hq; exact ⟨fun N z => ⟨fun k h => (by cases h), q5, f5, p5, g5⟩, e5⟩
    | k + 6, hq => simp [zT] at hq
end LWS
