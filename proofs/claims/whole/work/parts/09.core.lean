/-! CORE: contracts, worlds, calls -/
abbrev zC : Type := va_G × (Nat → ClassId)
abbrev zT (G : zC) : List (ClassId × FieldType) := [(G.2 0, .char), (G.2 1, .int), (G.2 2, .boolean), (G.2 3, .object "ShiftIsles$Board"), (G.2 4, .object "ShiftIsles$Game"), (G.2 5, .long)]
def zFirst : Nat → Int32 := fun j => if j = 0 then 4 else if j = 1 then 3 else 60
def zLow : Nat → Int32 := fun _ => 1
def zHigh : Nat → Int32 := fun j => if j = 0 then 9 else if j = 1 then 5 else 200
def zStrs : List (Nat × String) := [(57, "a character code is 0 to 255"), (68, "the text is full"), (82, "the text is not a game"), (148, "what is 0 to 5"), (158, "no such player or place"), (176, "what is 0 to 2"), (178, "no such player"), (208, "what is 0 to 8"), (213, "there are 2 to 4 players"), (222, "no such player or line"), (227, "a direction is 0 or 1"), (232, "this shift is not possible now"), (243, "no such place"), (248, "the ship cannot go there now"), (253, "no such line"), (258, "nothing can be locked now"), (267, "there is no game, or it is over"), (280, "no such setting, or not in its range"), (289, "no state is remembered"), (297, "a direction is 0 or 1, and so is what"), (325, "a script has 1 to 3 commands"), (331, "a script has four digits for a command"), (341, "there are 1 to 80 moves"), (352, "a save slot is 0 or 1"), (354, "nothing has been saved there")]
def zNests : List (String × Nat × MethodName) := [(RX6, 35, yX1_init), (RX0, 56, yX6_isPlace), (RX2, 89, yX6_isLine), (RX2, 92, yX6_isDirection), (RX0, 64, yX6_isLine), (RX2, 59, yX6_isSetting), (RX2, 81, yX6_isIn), (RX4, 86, yX6_isIn), (RX0, 85, yX6_isIn)]
/-- a static array of ints, where it lies and what it holds -/
def zA (n : String) (N : Nat) (f : Nat → Int32) (A : Nat → Prop) (U : State) (H : Heap) : Prop := ∃ t : Nat, va_Z "ShiftIsles" n "[I" (.ref t) A U H ∧ va_T .int t N (fun j => .int (f j)) A U H
/-- what stands round every world: nest links, static arrays, the Throwable's two statics, the texts -/
def zE (A : Nat → Prop) (U : State) (H : Heap) : Prop :=
  ((∀ q ∈ zNests, va_Nw (.methodLinkNest q.1 q.2.1 q.2.2 RX6) U) ∧ va_Nw (.fieldLinkNest RX2 15 RX6 "FIRST_SETTINGS" "[I" RX6) U ∧ ∀ q ∈ zStrs, ∃ a, vk_R RX6 q.1 q.2 a U) ∧
  (zA "FIRST_SETTINGS" 3 zFirst A U H ∧ zA "LOWEST_SETTINGS" 3 zLow A U H ∧ zA "HIGHEST_SETTINGS" 3 zHigh A U H) ∧
  vx_Zq Bundle.tN "UNASSIGNED_STACK" Bundle.steD A U H ∧ vx_Zq Bundle.tN "SUPPRESSED_SENTINEL" Bundle.listD A U H
theorem zA_vm {n : String} {N : Nat} {f : Nat → Int32} {A : Nat → Prop} {u U : State} {H : Heap} (hvm : u.vm.Alike U.vm) (h : zA n N f A u H) : zA n N f A U H := by
  obtain ⟨t, h1, h2⟩ := h
  exact ⟨t, va_Z.moved hvm h1, va_T.moved hvm h2⟩
theorem zA_kept {n : String} {N : Nat} {f : Nat → Int32} {A B : Nat → Prop} {U : State} {H H1 : Heap} (hq : ∀ a : Nat, a < H.size → ¬ A a → H1[a]? = H[a]?) (hAB : ∀ q, B q → A q) (h : zA n N f A U H) : zA n N f B U H1 := by
  obtain ⟨t, h1, h2⟩ := h
  exact ⟨t, (va_Z.kept h1 hq).narrow hAB, (va_T.kept h2 hq).narrow hAB⟩
theorem zE_vm {A : Nat → Prop} {u U : State} {H : Heap} (hvm : u.vm = U.vm) (h : zE A u H) : zE A U H := by
  have hal : u.vm.Alike U.vm := by rw [hvm]; exact Vm.Alike.refl U.vm
  obtain ⟨⟨h1, h2, h3⟩, ⟨h4, h5, h6⟩, h7, h8⟩ := h
  exact ⟨⟨fun q hq => va_Nw.same rfl hvm (h1 q hq), va_Nw.same rfl hvm h2, fun q hq => by obtain ⟨a, ha⟩ := h3 q hq; exact ⟨a, vk_R.same hvm.symm ha⟩⟩, ⟨zA_vm hal h4, zA_vm hal h5, zA_vm hal h6⟩, vx_Zq.moved hal h7, vx_Zq.moved hal h8⟩
theorem zE_call {A B : Nat → Prop} {s U : State} {H : Heap} (hW : s.WarmedH U.vm) (hq : ∀ a : Nat, a < s.heap.size → ¬ A a → H[a]? = s.heap[a]?) (hAB : ∀ q, B q → A q) (h : zE A s s.heap) : zE B U H := by
  obtain ⟨⟨h1, h2, h3⟩, ⟨h4, h5, h6⟩, h7, h8⟩ := h
  have hal := hW.alike
  exact ⟨⟨fun q hm => va_Nw.warmM hW (h1 q hm), va_Nw.warmF hW h2, fun q hm => by obtain ⟨a, ha⟩ := h3 q hm; exact ⟨a, vk_R.warm hW ha⟩⟩, ⟨zA_vm hal (zA_kept hq hAB h4), zA_vm hal (zA_kept hq hAB h5), zA_vm hal (zA_kept hq hAB h6)⟩, vx_Zq.moved hal ((vx_Zq.kept h7 hq).narrow hAB), vx_Zq.moved hal ((vx_Zq.kept h8 hq).narrow hAB)⟩
/-- the world in the heap: what lies there, apart, and nothing else changed since the entry -/
def zM (G : zC) (A : Nat → Prop) (s : State) (H : Heap) (locs : List Loc) (ws : va_W) : Prop := va_P G.1 vwCl ws H ∧ va_D A ws ∧ va_S A s.heap H locs
def zPre (G : zC) (av : List Value) (sz : Nat) (ws : va_W) : Array Value → State → Prop :=
  va_Pc av (fun U => U.heap.size = sz ∧ va_P G.1 vwCl ws U.heap ∧ va_K G.1 vwCl (zT G) U ∧ va_D (fun _ => True) ws ∧ zE (va_A ws sz) U U.heap)
theorem zPre_blind (G : zC) (av : List Value) (sz : Nat) (ws : va_W) : FrameBlind (zPre G av sz ws) := fun a U g mk q => by
  obtain ⟨q0, q1, qP, qK, qD, qE⟩ := q
  exact ⟨q0, q1, qP, va_K.moved (u := U) (U := U.calling g mk a) (Vm.Alike.refl U.vm) qK, qD, zE_vm (u := U) (U := U.calling g mk a) rfl qE⟩
def zB (G : zC) (A : Nat → Prop) (ws : va_W) (t : State) : Prop := va_P G.1 vwCl ws t.heap ∧ va_D A ws
def zQ (G : zC) (A : Nat → Prop) (rv : Option Value) (w1 : va_W) : Array Value → State → Outcome → State → Prop := fun _ st oc t => oc = .returned rv ∧ zB G A w1 t ∧ va_F A st t
/-- the contract of a method that always returns: what it answers, what its world is then -/
def zMet (l : Launch) (G : zC) (y : MethodName) (w : List Cond) (rm : Room) (av : List Value) (ws : va_W) (rv : Option Value) (w1 : va_W) : Prop :=
  ∀ sz : Nat, Met l y w rm (zPre G av sz ws) (zQ G (va_A ws sz) rv w1) rm.cells rm.slots (va_A ws sz)
section ZC
variable {p : Program} {l : Launch} {e : Env} {R : Room} {s : State} {m : MethodId} {args : Array Value} {below : List Frame} {meth : Method} {c : Code} {H : Heap} {locs : List Loc} {cells slots : Nat} {Q : State → Prop}
variable {cc bytes : ByteArray} {pc nL n index maxL : Nat} {ls : Array Slot} {As rest st0 : List Value} {G : zC} {A : Nat → Prop} {ws wc wr w1 ws' : va_W} {y : MethodName} {w Ts : List Cond} {rm : Room} {rv : Option Value} {ret : Option FieldType} {own C host : String} {b : Nat}
theorem zM_P (h : zM G A s H locs ws) : va_P G.1 vwCl ws H := h.1
theorem va_P_perm {D : va_G} {cl : List vw_C} {w1 w2 : va_W} {H : Heap} (hp : w1.Perm w2) (h : va_P D cl w1 H) : va_P D cl w2 H := fun k q hk => by
  obtain ⟨i, hi⟩ := List.getElem?_of_mem (hp.mem_iff.mpr (List.mem_of_getElem? hk))
  exact h i q hi
theorem va_D_nodup {A : Nat → Prop} {w : va_W} : va_D A w ↔ (w.map Prod.fst).Nodup ∧ ∀ q ∈ w, A q.1 := by
  constructor
  · intro h
    refine ⟨?_, fun q hq => ?_⟩
    · show List.Pairwise (· ≠ ·) (w.map Prod.fst)
      rw [List.pairwise_iff_getElem]
      intro i j hi hj hij he
      have hi9 : i < w.length := by simpa using hi
      have hj9 : j < w.length := by simpa using hj
      have := h.1 i j w[i] w[j] (List.getElem?_eq_getElem hi9) (List.getElem?_eq_getElem hj9) (by simpa using he)
      omega
    · obtain ⟨i, hi⟩ := List.getElem?_of_mem hq
      exact h.2 i q hi
  · intro h
    have hn : List.Pairwise (· ≠ ·) (w.map Prod.fst) := h.1
    rw [List.pairwise_iff_getElem] at hn
    refine ⟨fun i j a b hi hj he => ?_, fun k q hk => h.2 q (List.mem_of_getElem? hk)⟩
    obtain ⟨li, ei⟩ := List.getElem?_eq_some_iff.mp hi
    obtain ⟨lj, ej⟩ := List.getElem?_eq_some_iff.mp hj
    rcases Nat.lt_trichotomy i j with q | q | q
    · refine absurd ?_ (hn i j (by simpa using li) (by simpa using lj) q)
      simp [ei, ej, he]
    · exact q
    · refine absurd ?_ (hn j i (by simpa using lj) (by simpa using li) q)
      simp [ei, ej, he]
theorem va_D_perm {A : Nat → Prop} {w1 w2 : va_W} (hp : w1.Perm w2) (h : va_D A w1) : va_D A w2 := by
  rw [va_D_nodup] at h ⊢
  exact ⟨((hp.map Prod.fst).nodup_iff).mp h.1, fun q hq => h.2 q (hp.mem_iff.mpr hq)⟩
theorem va_P_app {D : va_G} {cl : List vw_C} {w1 w2 : va_W} {H : Heap} : va_P D cl (w1 ++ w2) H ↔ va_P D cl w1 H ∧ va_P D cl w2 H := by
  refine ⟨fun h => ⟨fun k q hk => ?_, fun k q hk => ?_⟩, fun h => h.1.app h.2⟩
  · obtain ⟨i, hi⟩ := List.getElem?_of_mem (List.mem_append_left w2 (List.mem_of_getElem? hk))
    exact h i q hi
  · obtain ⟨i, hi⟩ := List.getElem?_of_mem (List.mem_append_right w1 (List.mem_of_getElem? hk))
    exact h i q hi
theorem va_D_app {A : Nat → Prop} {w1 w2 : va_W} : va_D A (w1 ++ w2) ↔ va_D A w1 ∧ va_D A w2 ∧ ∀ p ∈ w1, ∀ q ∈ w2, p.1 ≠ q.1 := by
  rw [va_D_nodup, va_D_nodup, va_D_nodup, List.map_append, List.nodup_append]
  constructor
  · rintro ⟨⟨h1, h2, h3⟩, h4⟩
    exact ⟨⟨h1, fun q hq => h4 q (List.mem_append_left _ hq)⟩, ⟨h2, fun q hq => h4 q (List.mem_append_right _ hq)⟩, fun p hp q hq => h3 _ (List.mem_map_of_mem hp) _ (List.mem_map_of_mem hq)⟩
  · rintro ⟨⟨h1, h2⟩, ⟨h3, h4⟩, h5⟩
    refine ⟨⟨h1, h3, fun a ha b hb => ?_⟩, fun q hq => (List.mem_append.mp hq).elim (h2 q) (h4 q)⟩
    obtain ⟨p, hp, rfl⟩ := List.mem_map.mp ha
    obtain ⟨q, hq, rfl⟩ := List.mem_map.mp hb
    exact h5 p hp q hq
theorem zM_perm (hp : ws.Perm ws') (h : zM G A s H locs ws) : zM G A s H locs ws' := ⟨va_P_perm hp h.1, va_D_perm hp h.2.1, h.2.2⟩
/-- the callee's cells are free to the caller -/
theorem z_free (hM : zM G A s H locs ws) (hA : ∀ q, s.heap.size ≤ q → A q) (hp : ws.Perm (wc ++ wr)) : ∀ q, va_A wc H.size q → A q := by
  intro q h
  rcases h with ⟨k, e, h⟩ | h
  · exact (va_D_nodup.mp (va_D_perm hp hM.2.1)).2 (q, e) (List.mem_append_left _ (List.mem_of_getElem? h))
  · exact hA q (Nat.le_trans hM.2.2.1 h)
theorem z_pre {av : List Value} (hK : va_K G.1 vwCl (zT G) s) (hE : zE A s s.heap) (hM : zM G A s H locs ws) (hA : ∀ q, s.heap.size ≤ q → A q) (hp : ws.Perm (wc ++ wr)) : ∀ U : State, U.heap = H → s.WarmedH U.vm → zPre G av H.size wc av.toArray U := by
  intro U hU hW
  refine ⟨rfl, by rw [hU], ?_, va_K.moved hW.alike hK, (va_D_app.mp (va_D_perm hp hM.2.1)).1.weaken (fun _ _ _ _ => trivial), ?_⟩
  · rw [hU]; exact (va_P_app.mp (va_P_perm hp hM.1)).1
  · rw [hU]; exact zE_call hW hM.2.2.2.1 (z_free hM hA hp) hE
/-- behind a call -/
theorem z_call {a : Array Value} {mc ms : Nat} (hr : va_Run p l e R s m args below meth c H locs cells slots mc ms (F0 m pc ls st0) rest (zQ G (va_A wc H.size) rv w1 a) (va_A wc H.size)) (hA : ∀ q, s.heap.size ≤ q → A q) (hM : zM G A s H locs ws) (hp : ws.Perm (wc ++ wr)) (hq : (w1 ++ wr).Perm ws')
    (kk : ∀ (H1 : Heap) (locs1 : List Loc), zM G A s H1 locs1 ws' → H.size ≤ H1.size → W p l e R s m args below meth c H1 locs1 (cells + mc) (slots + ms) Q (F0 m (pc + 3) ls (rv.toList ++ rest))) : W p l e R s m args below meth c H locs cells slots Q (F0 m pc ls st0) := by
  intro T hT X
  obtain ⟨v, st₀, t, T', L, h0, X', hL, e1, e2, ⟨hv, ⟨hP1, hD1⟩, hz, hk⟩, st⟩ := hr T hT X
  cases hv
  rw [h0] at hz hk
  have hfree := z_free hM hA hp
  obtain ⟨hP0, hPr⟩ := va_P_app.mp (va_P_perm hp hM.1)
  obtain ⟨hD0, hDr, hne⟩ := va_D_app.mp (va_D_perm hp hM.2.1)
  have hkeep : ∀ (k : Nat) (q : Nat × va_E), wr[k]? = some q → q.1 < H.size ∧ ¬ va_A wc H.size q.1 := by
    intro k q hk9
    have hlt := (hPr k q hk9).lt
    refine ⟨hlt, ?_⟩
    rintro (⟨j, e9, hj⟩ | hj)
    · exact hne _ (List.mem_of_getElem? hj) q (List.mem_of_getElem? hk9) rfl
    · omega
  have hPr1 : va_P G.1 vwCl wr t.heap := hPr.kept fun k q hk9 => hk q.1 (hkeep k q hk9).1 (hkeep k q hk9).2
  have hM1 : zM G A s T'.heap (locs ++ L) ws' := by
    rw [e1]
    refine ⟨va_P_perm hq (hP1.app hPr1), va_D_perm hq (va_D_app.mpr ⟨hD1.weaken (fun _ q _ h => hfree q.1 h), hDr, fun x hx z hz9 => ?_⟩), ⟨Nat.le_trans hM.2.2.1 hz, fun q h1 h2 => ?_, fun q hq9 => ?_⟩⟩
    · obtain ⟨i, hi⟩ := List.getElem?_of_mem hx
      obtain ⟨j, hj⟩ := List.getElem?_of_mem hz9
      intro he
      exact (hkeep j z hj).2 (he ▸ hD1.2 i x hi)
    · rw [hk q (Nat.lt_of_lt_of_le h1 hM.2.2.1) (fun z => h2 (hfree q z))]
      exact hM.2.2.2.1 q h1 h2
    · rcases List.mem_append.mp hq9 with h | h
      · exact hM.2.2.2.2 q h
      · exact hfree _ (hL q h)
  obtain ⟨t2, a1, b1⟩ := kk T'.heap (locs ++ L) hM1 (by rw [e1]; exact hz) T' rfl X'
  exact ⟨t2, st t2 a1, b1⟩
theorem z_room {st : List Value} (h : (st.map fun v => v.category).sum ≤ 8) : 2 * (F0 m pc ls st0).monitorRoom + (st.map fun v => v.category).sum ≤ 8 := lv_room h
theorem z_callV (S : CallFix p m c cc nL s args Ts own) (hMet : zMet l G y w rm (.ref b :: As) wc rv w1) (cw : CallW R s args own C index y bytes maxL ret w rm rm.cells rm.slots n) (ci : Nat) {q : vw_C} {fs : List Value} (hb0 : wc[0]? = some (b, .inr (ci, fs))) (hcl : vwCl[ci]? = some q) (hcC : q.1 = C) (hn : As.length = n) (hsize : ls.size = nL) (hst : st0 = As.reverse ++ .ref b :: rest) (hW : (rest.map fun v => v.category).sum ≤ 8) (hdg : decode cc pc = .ok (.invokevirtual index, 3)) (hf : cells + rm.cells ≤ R.cells ∧ slots + rm.slots ≤ R.slots)
    (hK : va_K G.1 vwCl (zT G) s) (hE : zE A s s.heap) (hA : ∀ q, s.heap.size ≤ q → A q) (hM : zM G A s H locs ws) (hp : ws.Perm (wc ++ wr)) (hq : (w1 ++ wr).Perm ws')
    (kk : ∀ (H1 : Heap) (locs1 : List Loc), zM G A s H1 locs1 ws' → H.size ≤ H1.size → W p l e R s m args below meth c H1 locs1 (cells + rm.cells) (slots + rm.slots) Q (F0 m (pc + 3) ls (rv.toList ++ rest))) : W p l e R s m args below meth c H locs cells slots Q (F0 m pc ls st0) := by
  subst hst
  subst hcC
  exact z_call (va_runV S (hMet H.size) cw ⟨zPre_blind _ _ _ _, va_recv hK (va_P_app.mp (va_P_perm hp hM.1)).1 hcl hb0, z_pre hK hE hM hA hp⟩ rfl hn hsize rfl (lv_room hW) hdg hf) hA hM hp hq kk
theorem z_callS (S : CallFix p m c cc nL s args Ts own) (hMet : zMet l G y w rm As wc rv w1) (cw : CallB R s args own index y bytes maxL ret w rm rm.cells rm.slots n ∧ (Cond.static y).before args s = true) (hn : As.length = n) (hsize : ls.size = nL) (hst : st0 = As.reverse ++ rest) (hW : (rest.map fun v => v.category).sum ≤ 8) (hdg : decode cc pc = .ok (.invokestatic index, 3)) (hf : cells + rm.cells ≤ R.cells ∧ slots + rm.slots ≤ R.slots)
    (hK : va_K G.1 vwCl (zT G) s) (hE : zE A s s.heap) (hA : ∀ q, s.heap.size ≤ q → A q) (hM : zM G A s H locs ws) (hp : ws.Perm (wc ++ wr)) (hq : (w1 ++ wr).Perm ws')
    (kk : ∀ (H1 : Heap) (locs1 : List Loc), zM G A s H1 locs1 ws' → H.size ≤ H1.size → W p l e R s m args below meth c H1 locs1 (cells + rm.cells) (slots + rm.slots) Q (F0 m (pc + 3) ls (rv.toList ++ rest))) : W p l e R s m args below meth c H locs cells slots Q (F0 m pc ls st0) := by
  subst hst
  exact z_call (va_runS S (hMet H.size) cw ⟨zPre_blind _ _ _ _, z_pre hK hE hM hA hp⟩ rfl hn hsize rfl (lv_room hW) hdg hf) hA hM hp hq kk
theorem z_callSN (S : CallFix p m c cc nL s args Ts own) (hMet : zMet l G y w rm As wc rv w1) (cw : va_CN R s args own index y host bytes maxL ret w rm rm.cells rm.slots n ∧ (Cond.static y).before args s = true ∧ True) (hn : As.length = n) (hsize : ls.size = nL) (hst : st0 = As.reverse ++ rest) (hW : (rest.map fun v => v.category).sum ≤ 8) (hdg : decode cc pc = .ok (.invokestatic index, 3)) (hf : cells + rm.cells ≤ R.cells ∧ slots + rm.slots ≤ R.slots)
    (hK : va_K G.1 vwCl (zT G) s) (hE : zE A s s.heap) (hA : ∀ q, s.heap.size ≤ q → A q) (hM : zM G A s H locs ws) (hp : ws.Perm (wc ++ wr)) (hq : (w1 ++ wr).Perm ws')
    (kk : ∀ (H1 : Heap) (locs1 : List Loc), zM G A s H1 locs1 ws' → H.size ≤ H1.size → W p l e R s m args below meth c H1 locs1 (cells + rm.cells) (slots + rm.slots) Q (F0 m (pc + 3) ls (rv.toList ++ rest))) : W p l e R s m args below meth c H locs cells slots Q (F0 m pc ls st0) := by
  subst hst
  exact z_call (va_runSN S (hMet H.size) cw ⟨zPre_blind _ _ _ _, z_pre hK hE hM hA hp⟩ rfl hn hsize rfl (lv_room hW) hdg hf) hA hM hp hq kk
theorem z_callI (S : CallFix p m c cc nL s args Ts own) (hMet : zMet l G y w rm (.ref b :: As) wc none w1) (cw : CallB R s args own index y bytes maxL none w rm rm.cells rm.slots n ∧ y.name = "<init>" ∧ (Cond.instanceMethod y).before args s = true) (hn : As.length = n) (hsize : ls.size = nL) (hst : st0 = As.reverse ++ .ref b :: rest) (hW : (rest.map fun v => v.category).sum ≤ 8) (hdg : decode cc pc = .ok (.invokespecial index, 3)) (hf : cells + rm.cells ≤ R.cells ∧ slots + rm.slots ≤ R.slots)
    (hK : va_K G.1 vwCl (zT G) s) (hE : zE A s s.heap) (hA : ∀ q, s.heap.size ≤ q → A q) (hM : zM G A s H locs ws) (hp : ws.Perm (wc ++ wr)) (hq : (w1 ++ wr).Perm ws')
    (kk : ∀ (H1 : Heap) (locs1 : List Loc), zM G A s H1 locs1 ws' → H.size ≤ H1.size → W p l e R s m args below meth c H1 locs1 (cells + rm.cells) (slots + rm.slots) Q (F0 m (pc + 3) ls rest)) : W p l e R s m args below meth c H locs cells slots Q (F0 m pc ls st0) := by
  subst hst
  exact z_call (rv := none) (va_runI S (hMet H.size) cw ⟨zPre_blind _ _ _ _, z_pre hK hE hM hA hp⟩ rfl hn hsize rfl (lv_room hW) hdg hf) hA hM hp hq kk
/-- what a method's body owes at its end -/
def zEnd (G : zC) (below : List Frame) (args : Array Value) (s : State) (rm : Room) (A : Nat → Prop) (rv : Option Value) (w1 : va_W) : State → Prop := MQ below (zQ G A rv w1) args s rm.cells rm.slots A
theorem z_iret {v : Int32} (hexec : p.tables.exec = Jvm.exec) (hb : c.code = cc) (hr : meth.sig.returnType = some .int) (hlocks : meth.locks = false) (hdg : decode cc pc = .ok (.ireturn, 1)) (hM : zM G A s H locs w1) (hc : cells ≤ rm.cells) (hs : slots ≤ rm.slots) (hv : rv = some (.int v)) : W p l e R s m args below meth c H locs cells slots (zEnd G below args s rm A rv w1) (F0 m pc ls [.int v]) := by
  subst hv
  exact W.widen hc hs (W.iret hexec hb hr (fun t ht hW => ⟨rfl, ⟨by rw [ht]; exact hM.1, hM.2.1⟩, hM.2.2.F ht⟩) hM.2.2.2.2 hdg hlocks)
theorem z_zret {v : Int32} (hexec : p.tables.exec = Jvm.exec) (hb : c.code = cc) (hr : meth.sig.returnType = some .boolean) (hlocks : meth.locks = false) (hdg : decode cc pc = .ok (.ireturn, 1)) (hM : zM G A s H locs w1) (hc : cells ≤ rm.cells) (hs : slots ≤ rm.slots) (hn : v = 0 ∨ v = 1) (hv : rv = some (.int v)) : W p l e R s m args below meth c H locs cells slots (zEnd G below args s rm A rv w1) (F0 m pc ls [.int v]) := by
  subst hv
  exact W.widen hc hs (W.zret hexec hb hr (by rcases hn with rfl | rfl <;> rfl) (fun t ht hW => ⟨rfl, ⟨by rw [ht]; exact hM.1, hM.2.1⟩, hM.2.2.F ht⟩) hM.2.2.2.2 hdg hlocks)
theorem z_cret {v : Int32} (hexec : p.tables.exec = Jvm.exec) (hb : c.code = cc) (hr : meth.sig.returnType = some .char) (hlocks : meth.locks = false) (hdg : decode cc pc = .ok (.ireturn, 1)) (hM : zM G A s H locs w1) (hc : cells ≤ rm.cells) (hs : slots ≤ rm.slots) (hn : narrow .char (.int v) = .int v) (hv : rv = some (.int v)) : W p l e R s m args below meth c H locs cells slots (zEnd G below args s rm A rv w1) (F0 m pc ls [.int v]) := by
  subst hv
  exact W.widen hc hs (W.zret hexec hb hr hn (fun t ht hW => ⟨rfl, ⟨by rw [ht]; exact hM.1, hM.2.1⟩, hM.2.2.F ht⟩) hM.2.2.2.2 hdg hlocks)
theorem z_vret (hexec : p.tables.exec = Jvm.exec) (hb : c.code = cc) (hr : meth.sig.returnType = none) (hlocks : meth.locks = false) (hdg : decode cc pc = .ok (.return_, 1)) (hM : zM G A s H locs w1) (hc : cells ≤ rm.cells) (hs : slots ≤ rm.slots) : W p l e R s m args below meth c H locs cells slots (zEnd G below args s rm A none w1) (F0 m pc ls []) :=
  W.widen hc hs (W.vret hexec hb hr (fun t ht hW => ⟨rfl, ⟨by rw [ht]; exact hM.1, hM.2.1⟩, hM.2.2.F ht⟩) hM.2.2.2.2 hdg hlocks)
theorem z_aret {v : Nat} {rt : String} (hexec : p.tables.exec = Jvm.exec) (hb : c.code = cc) (hr : meth.sig.returnType = some (.object rt)) (hlocks : meth.locks = false) (hdg : decode cc pc = .ok (.areturn, 1)) (hM : zM G A s H locs w1) (hc : cells ≤ rm.cells) (hs : slots ≤ rm.slots) (hv : rv = some (.ref v)) : W p l e R s m args below meth c H locs cells slots (zEnd G below args s rm A rv w1) (F0 m pc ls [.ref v]) := by
  subst hv
  exact W.widen hc hs (W.aret hexec hb hr (Or.inl ⟨rt, rfl⟩) (Or.inr ⟨v, rfl⟩) (fun t ht hW => ⟨rfl, ⟨by rw [ht]; exact hM.1, hM.2.1⟩, hM.2.2.F ht⟩) hM.2.2.2.2 hdg hlocks)
/-- a contract out of the walk of its body -/
theorem zMet_of {av : List Value} {w' : List Cond} (hy : plainName y.cls = true) (hw : w = Cond.code y cc maxL ret :: w') (hlen : (lg_sl av).length ≤ maxL)
    (body : ∀ (p : Program) (e : Env) (s : State) (m : MethodId) (below : List Frame) (meth : Method) (c : Code) (A : Nat → Prop) (ls : Array Slot), p.tables.exec = Jvm.exec → c.code = cc → meth.sig.returnType = ret → c.maxLocals = maxL → s.vm.findClass y.cls = some m.cls → (∀ q ∈ w, q.before av.toArray s = true) → va_K G.1 vwCl (zT G) s → (∀ q, s.heap.size ≤ q → A q) → zE A s s.heap → meth.locks = false → meth.name = y.name → zM G A s s.heap [] ws → lv_has ls maxL (lv_args 0 av) →
      W p l e rm s m av.toArray below meth c s.heap [] 0 0 (zEnd G below av.toArray s rm A rv w1) (F0 m 0 ls [])) : zMet l G y w rm av ws rv w1 := by
  intro sz
  refine Met.ofW (cc := cc) (maxL := maxL) (ret := ret) hy hw ?_
  intro p e s m args below meth c s₁ B hml hv
  obtain ⟨rfl, hsz, hP, hK, hD0, hE⟩ := hv
  subst hsz
  have hl := lv_entry av (n := maxL) hlen
  rw [lg_entry_eq]
  exact body p e s m below meth c (va_A ws s.heap.size) _ B.exec B.bytes B.returns hml (findClass_of_methodNamed B.named) (atoms_spec (ws := w) B.pre) hK (fun q h => Or.inr h) hE B.notSynchronized (name_of_methodNamed B.named B.method).1 ⟨hP, hD0.self, va_S.rf⟩ hl
end ZC
section ZR
variable {p : Program} {l : Launch} {e : Env} {R : Room} {s : State} {m : MethodId} {args : Array Value} {below : List Frame} {meth : Method} {c : Code} {H : Heap} {locs : List Loc} {cells slots : Nat} {Q : State → Prop}
variable {cc : ByteArray} {pc : Nat} {ls : Array Slot} {rest : List Value} {G : zC} {A : Nat → Prop} {ws ws' : va_W} {a : Nat}
theorem z_put (hexec : p.tables.exec = Jvm.exec) (hb : c.code = cc) {own ref C : String} {T : u_T} {N ci index : Nat} {Ts : List Cond} (hts : ∀ w ∈ Ts, w.before args s = true) (hin : ∀ w ∈ u_ws C T N, w ∈ Ts) (ty0 : Nat → FieldType) (hty : ∀ k, k < N → parseFieldDescriptor (T k).2.2.1 = some (ty0 k)) (hnm : ∀ a, a < N → ∀ b, b < N → a ≠ b → (T a).2.1 ≠ (T b).2.1) (hown : s.vm.findClass own = some m.cls) (hK : va_K G.1 vwCl (zT G) s) (hM : zM G A s H locs ws) (q0 : Nat) {fs : List Value} (he : ws[q0]? = some (a, .inr (ci, fs))) (hc : vwCl[ci]? = some (C, T, N)) (k : Nat) (hk : k < N) (hlink : (Cond.fieldLink own index ref (T k).2.1 (T k).2.2.1).before args s = true) (hsame : ∀ x, s.fieldFound? (T k).1 (T k).2.1 (T k).2.2.1 = some x → s.fieldFound? ref (T k).2.1 (T k).2.2.1 = some x) (hfin : (T k).2.2.2 = false) {ty : FieldType} {v : Value} (hd : parseFieldDescriptor (T k).2.2.1 = some ty) (hn : narrow ty v = v) (hfit : fits ty v = true) (hl : k < fs.length)
    (hdg : decode cc pc = .ok (.putfield index, 3)) (hw : ws.set q0 (a, .inr (ci, fs.set k v)) = ws') (kk : ∀ (H1 : Heap) (locs1 : List Loc), zM G A s H1 locs1 ws' → W p l e R s m args below meth c H1 locs1 cells slots Q (F0 m (pc + 3) ls rest)) : W p l e R s m args below meth c H locs cells slots Q (F0 m pc ls (v :: .ref a :: rest)) :=
  va_put hexec hb hts hin ty0 hty hnm hown hK hM.1 hM.2.1 hM.2.2 q0 he hc k hk hlink hsame hfin hd hn hfit hl hdg (fun H1 locs1 h1 h2 h3 => kk H1 locs1 (hw ▸ ⟨h1, h2, h3⟩))
theorem z_putF (hexec : p.tables.exec = Jvm.exec) (hb : c.code = cc) {own ref C : String} {T : u_T} {N ci index : Nat} {Ts : List Cond} (hts : ∀ w ∈ Ts, w.before args s = true) (hin : ∀ w ∈ u_ws C T N, w ∈ Ts) (ty0 : Nat → FieldType) (hty : ∀ k, k < N → parseFieldDescriptor (T k).2.2.1 = some (ty0 k)) (hnm : ∀ a, a < N → ∀ b, b < N → a ≠ b → (T a).2.1 ≠ (T b).2.1) (hown : s.vm.findClass own = some m.cls) (hK : va_K G.1 vwCl (zT G) s) (hM : zM G A s H locs ws) (q0 : Nat) {fs : List Value} (he : ws[q0]? = some (a, .inr (ci, fs))) (hc : vwCl[ci]? = some (C, T, N)) (k : Nat) (hk : k < N) (hlink : (Cond.fieldLink own index ref (T k).2.1 (T k).2.2.1).before args s = true) (hsame : ∀ x, s.fieldFound? (T k).1 (T k).2.1 (T k).2.2.1 = some x → s.fieldFound? ref (T k).2.1 (T k).2.2.1 = some x) (hfin : (T k).2.2.2 = true) (hin2 : meth.name = "<init>") (hdecl : (T k).1 = own) {ty : FieldType} {v : Value} (hd : parseFieldDescriptor (T k).2.2.1 = some ty) (hn : narrow ty v = v) (hfit : fits ty v = true) (hl : k < fs.length)
    (hdg : decode cc pc = .ok (.putfield index, 3)) (hw : ws.set q0 (a, .inr (ci, fs.set k v)) = ws') (kk : ∀ (H1 : Heap) (locs1 : List Loc), zM G A s H1 locs1 ws' → W p l e R s m args below meth c H1 locs1 cells slots Q (F0 m (pc + 3) ls rest)) : W p l e R s m args below meth c H locs cells slots Q (F0 m pc ls (v :: .ref a :: rest)) :=
  va_putF hexec hb hts hin ty0 hty hnm hown hK hM.1 hM.2.1 hM.2.2 q0 he hc k hk hlink hsame hfin hin2 hdecl hd hn hfit hl hdg (fun H1 locs1 h1 h2 h3 => kk H1 locs1 (hw ▸ ⟨h1, h2, h3⟩))
theorem z_iast (hexec : p.tables.exec = Jvm.exec) (hb : c.code = cc) (hK : va_K G.1 vwCl (zT G) s) (hM : zM G A s H locs ws) (q0 : Nat) {n : Nat} {f : Nat → Int32} (ha : ws[q0]? = some (a, .inl (G.2 1, n, .inl f))) {i : Int32} {x : Int32} (hin : vp_in i n) (hdg : decode cc pc = .ok (.iastore, 1))
    (hw : ws.set q0 (a, .inl (G.2 1, n, .inl (upd f i.toNatClampNeg x))) = ws') (kk : ∀ (H1 : Heap) (locs1 : List Loc), zM G A s H1 locs1 ws' → W p l e R s m args below meth c H1 locs1 cells slots Q (F0 m (pc + 1) ls rest)) : W p l e R s m args below meth c H locs cells slots Q (F0 m pc ls (.int x :: .int i :: .ref a :: rest)) :=
  va_iast hexec hb hK hM.1 hM.2.1 hM.2.2 q0 1 ha rfl hin hdg (fun H1 locs1 h1 h2 h3 => kk H1 locs1 (hw ▸ ⟨h1, h2, h3⟩))
theorem z_iald (hexec : p.tables.exec = Jvm.exec) (hb : c.code = cc) (hK : va_K G.1 vwCl (zT G) s) (hM : zM G A s H locs ws) (q0 : Nat) {n : Nat} {f : Nat → Int32} (ha : ws[q0]? = some (a, .inl (G.2 1, n, .inl f))) {i : Int32} (hin : vp_in i n) {v : Int32} (hv : f i.toNatClampNeg = v) (hdg : decode cc pc = .ok (.iaload, 1))
    (kk : W p l e R s m args below meth c H locs cells slots Q (F0 m (pc + 1) ls (.int v :: rest))) : W p l e R s m args below meth c H locs cells slots Q (F0 m pc ls (.int i :: .ref a :: rest)) := by
  subst hv
  exact va_iald hexec hb hK hM.1 q0 1 ha rfl hin hdg kk
theorem z_alen (hexec : p.tables.exec = Jvm.exec) (hb : c.code = cc) (hK : va_K G.1 vwCl (zT G) s) (hM : zM G A s H locs ws) (q0 t0 : Nat) {cA : ClassId} {x : vp_A} (ha : ws[q0]? = some (a, .inl (cA, x))) {ty : FieldType} (ht : (zT G)[t0]? = some (cA, ty)) {v : Int32} (hv : Int32.ofNat x.1 = v) (hdg : decode cc pc = .ok (.arraylength, 1))
    (kk : W p l e R s m args below meth c H locs cells slots Q (F0 m (pc + 1) ls (.int v :: rest))) : W p l e R s m args below meth c H locs cells slots Q (F0 m pc ls (.ref a :: rest)) := va_alen hexec hb hK hM.1 q0 t0 ha ht hv hdg kk
theorem z_get (hexec : p.tables.exec = Jvm.exec) (hb : c.code = cc) {own ref C : String} {T : u_T} {N ci index : Nat} {Ts : List Cond} (hts : ∀ w ∈ Ts, w.before args s = true) (hin : ∀ w ∈ u_ws C T N, w ∈ Ts) (hown : s.vm.findClass own = some m.cls) (hK : va_K G.1 vwCl (zT G) s) (hM : zM G A s H locs ws) (q0 : Nat) {fs : List Value} (he : ws[q0]? = some (a, .inr (ci, fs))) (hc : vwCl[ci]? = some (C, T, N)) (k : Nat) (hk : k < N) (hlink : (Cond.fieldLink own index ref (T k).2.1 (T k).2.2.1).before args s = true) (hsame : ∀ x, s.fieldFound? (T k).1 (T k).2.1 (T k).2.2.1 = some x → s.fieldFound? ref (T k).2.1 (T k).2.2.1 = some x) {v : Value} (hv : fs[k]? = some v) (hdg : decode cc pc = .ok (.getfield index, 3))
    (kk : W p l e R s m args below meth c H locs cells slots Q (F0 m (pc + 3) ls (v :: rest))) : W p l e R s m args below meth c H locs cells slots Q (F0 m pc ls (.ref a :: rest)) := va_get hexec hb hts hin hown hK hM.1 q0 he hc k hk hlink hsame hv hdg kk
/-- what an array of ints holds, where it matters -/
theorem z_arr {cA : ClassId} {n : Nat} {f g : Nat → Int32} (h : ∀ i, i < n → f i = g i) : vp_cell cA (n, .inl f) = vp_cell cA (n, .inl g) := by
  rw [vp_cell_i, vp_cell_i]
  unfold arrV
  congr 1
  apply Array.ext
  · simp
  · intro j h1 h2
    simp only [Array.getElem_ofFn]
    rw [h j (by simpa using h1)]
/-- two worlds that hold the same, each cell as the heap has it -/
def zSame (x y : Nat × va_E) : Prop := x.1 = y.1 ∧ ∀ (D : va_G) (H : Heap), va_at D vwCl x H → va_at D vwCl y H
theorem zSame_rf (x : Nat × va_E) : zSame x x := ⟨rfl, fun _ _ h => h⟩
theorem zSame_arr {q cA n : Nat} {f g : Nat → Int32} (h : ∀ i, i < n → f i = g i) : zSame (q, .inl (cA, n, .inl f)) (q, .inl (cA, n, .inl g)) := ⟨rfl, fun D H h9 => by
  show H[q]? = some (vp_cell cA (n, .inl g))
  rw [← z_arr h]
  exact h9⟩
theorem zSame_obj {q ci : Nat} {fs gs : List Value} (h : fs = gs) : zSame (q, .inr (ci, fs)) (q, .inr (ci, gs)) := by subst h; exact zSame_rf _
def zSim : va_W → va_W → Prop
  | [], [] => True
  | x :: xs, y :: ys => zSame x y ∧ zSim xs ys
  | _, _ => False
theorem zSim_rf : ∀ w : va_W, zSim w w
  | [] => trivial
  | x :: xs => ⟨zSame_rf x, zSim_rf xs⟩
theorem zSim_app : ∀ {a b x y : va_W}, zSim a b → zSim x y → zSim (a ++ x) (b ++ y)
  | [], [], _, _, _, h => h
  | _ :: _, _ :: _, _, _, h1, h2 => ⟨h1.1, zSim_app h1.2 h2⟩
  | [], _ :: _, _, _, h, _ => h.elim
  | _ :: _, [], _, _, h, _ => h.elim
theorem zSim_mem : ∀ {a b : va_W}, zSim a b → ∀ y ∈ b, ∃ x ∈ a, zSame x y
  | [], [], _, y, hy => by cases hy
  | x :: xs, z :: ys, h, y, hy => by
    rcases List.mem_cons.mp hy with rfl | hy
    · exact ⟨x, List.mem_cons_self, h.1⟩
    · obtain ⟨x', h1, h2⟩ := zSim_mem h.2 y hy
      exact ⟨x', List.mem_cons_of_mem _ h1, h2⟩
  | [], _ :: _, h, _, _ => h.elim
  | _ :: _, [], h, _, _ => h.elim
theorem zSim_fst : ∀ {a b : va_W}, zSim a b → a.map Prod.fst = b.map Prod.fst
  | [], [], _ => rfl
  | x :: xs, z :: ys, h => by rw [List.map_cons, List.map_cons, h.1.1, zSim_fst h.2]
  | [], _ :: _, h => h.elim
  | _ :: _, [], h => h.elim
theorem zM_sim (hs : zSim ws ws') (h : zM G A s H locs ws) : zM G A s H locs ws' := by
  refine ⟨fun k q hk => ?_, ?_, h.2.2⟩
  · obtain ⟨x, hx, h1, h2⟩ := zSim_mem hs q (List.mem_of_getElem? hk)
    obtain ⟨i, hi⟩ := List.getElem?_of_mem hx
    exact h2 _ _ (h.1 i x hi)
  · rw [va_D_nodup]
    have h9 := va_D_nodup.mp h.2.1
    rw [← zSim_fst hs]
    refine ⟨h9.1, fun q hq => ?_⟩
    obtain ⟨x, hx, h1, -⟩ := zSim_mem hs q hq
    rw [← h1]
    exact h9.2 x hx
/-- a boolean as the machine has it -/
def zb (b : Bool) : Int32 := if b then 1 else 0
theorem zb_01 (b : Bool) : zb b = 0 ∨ zb b = 1 := by cases b; exact Or.inl rfl; exact Or.inr rfl
theorem zb_0 {b : Bool} : zb b = 0 ↔ b = false := by cases b <;> decide
theorem z_ifeq {b : Bool} {off : Int} {tgt : Nat} (hexec : p.tables.exec = Jvm.exec) (hb : c.code = cc) (hdg : decode cc pc = .ok (.ifCond .eq off, 3)) (ht : (pc : Int) + off = (tgt : Int)) (k1 : b = false → W p l e R s m args below meth c H locs cells slots Q (F0 m tgt ls rest)) (k2 : b = true → W p l e R s m args below meth c H locs cells slots Q (F0 m (pc + 3) ls rest)) : W p l e R s m args below meth c H locs cells slots Q (F0 m pc ls (.int (zb b) :: rest)) :=
  lv_if_eq hexec hb hdg ht (fun h => k1 (zb_0.mp h)) (fun h => k2 (by cases b; exact absurd rfl h; rfl))
theorem z_ifne {b : Bool} {off : Int} {tgt : Nat} (hexec : p.tables.exec = Jvm.exec) (hb : c.code = cc) (hdg : decode cc pc = .ok (.ifCond .ne off, 3)) (ht : (pc : Int) + off = (tgt : Int)) (k1 : b = true → W p l e R s m args below meth c H locs cells slots Q (F0 m tgt ls rest)) (k2 : b = false → W p l e R s m args below meth c H locs cells slots Q (F0 m (pc + 3) ls rest)) : W p l e R s m args below meth c H locs cells slots Q (F0 m pc ls (.int (zb b) :: rest)) :=
  lv_if_ne hexec hb hdg ht (fun h => k1 (by cases b; exact absurd rfl h; rfl)) (fun h => k2 (zb_0.mp h))
end ZR
section ZS
variable {p : Program} {l : Launch} {e : Env} {R : Room} {s : State} {m : MethodId} {args : Array Value} {below : List Frame} {meth : Method} {c : Code} {H : Heap} {locs : List Loc} {cells slots : Nat} {Q : State → Prop}
variable {cc : ByteArray} {pc : Nat} {ls : Array Slot} {rest : List Value} {G : zC} {A : Nat → Prop} {ws ws' : va_W} {a : Nat}
theorem z_zald (hexec : p.tables.exec = Jvm.exec) (hb : c.code = cc) (hK : va_K G.1 vwCl (zT G) s) (hM : zM G A s H locs ws) (q0 : Nat) {n : Nat} {f : Nat → Int32} (ha : ws[q0]? = some (a, .inl (G.2 2, n, .inl f))) {i : Int32} (hin : vp_in i n) {v : Int32} (hv : f i.toNatClampNeg = v) (hdg : decode cc pc = .ok (.baload, 1))
    (kk : W p l e R s m args below meth c H locs cells slots Q (F0 m (pc + 1) ls (.int v :: rest))) : W p l e R s m args below meth c H locs cells slots Q (F0 m pc ls (.int i :: .ref a :: rest)) := by
  subst hv
  exact va_zald hexec hb hK hM.1 q0 2 ha rfl hin hdg kk
theorem z_cald (hexec : p.tables.exec = Jvm.exec) (hb : c.code = cc) (hK : va_K G.1 vwCl (zT G) s) (hM : zM G A s H locs ws) (q0 : Nat) {n : Nat} {f : Nat → Int32} (ha : ws[q0]? = some (a, .inl (G.2 0, n, .inl f))) {i : Int32} (hin : vp_in i n) {v : Int32} (hv : f i.toNatClampNeg = v) (hdg : decode cc pc = .ok (.caload, 1))
    (kk : W p l e R s m args below meth c H locs cells slots Q (F0 m (pc + 1) ls (.int v :: rest))) : W p l e R s m args below meth c H locs cells slots Q (F0 m pc ls (.int i :: .ref a :: rest)) := by
  subst hv
  exact va_cald hexec hb hK hM.1 q0 0 ha rfl hin hdg kk
theorem z_zast (hexec : p.tables.exec = Jvm.exec) (hb : c.code = cc) (hK : va_K G.1 vwCl (zT G) s) (hM : zM G A s H locs ws) (q0 : Nat) {n : Nat} {f : Nat → Int32} (ha : ws[q0]? = some (a, .inl (G.2 2, n, .inl f))) {i : Int32} {x : Int32} (hin : vp_in i n) (hdg : decode cc pc = .ok (.bastore, 1))
    (hw : ws.set q0 (a, .inl (G.2 2, n, .inl (upd f i.toNatClampNeg (x &&& 1)))) = ws') (kk : ∀ (H1 : Heap) (locs1 : List Loc), zM G A s H1 locs1 ws' → W p l e R s m args below meth c H1 locs1 cells slots Q (F0 m (pc + 1) ls rest)) : W p l e R s m args below meth c H locs cells slots Q (F0 m pc ls (.int x :: .int i :: .ref a :: rest)) :=
  va_zast hexec hb hK hM.1 hM.2.1 hM.2.2 q0 2 ha rfl hin hdg (fun H1 locs1 h1 h2 h3 => kk H1 locs1 (hw ▸ ⟨h1, h2, h3⟩))
theorem z_aald (hexec : p.tables.exec = Jvm.exec) (hb : c.code = cc) (hK : va_K G.1 vwCl (zT G) s) (hM : zM G A s H locs ws) (q0 t0 : Nat) {cA : ClassId} {C : String} {n : Nat} {f : Nat → Option Nat} (ha : ws[q0]? = some (a, .inl (cA, n, .inr (.inr (.inr (.inr f)))))) (ht : (zT G)[t0]? = some (cA, .object C)) {i : Int32} (hin : vp_in i n) {v : Nat} (hv : f i.toNatClampNeg = some v) (hdg : decode cc pc = .ok (.aaload, 1))
    (kk : W p l e R s m args below meth c H locs cells slots Q (F0 m (pc + 1) ls (.ref v :: rest))) : W p l e R s m args below meth c H locs cells slots Q (F0 m pc ls (.int i :: .ref a :: rest)) := by
  refine va_aldq hexec hb hK hM.1 q0 t0 ha ht hin hdg ?_
  rw [hv]
  exact kk
theorem z_copyi (hexec : p.tables.exec = Jvm.exec) (hb : c.code = cc) (hml : c.maxLocals = ls.size) {own : String} {index : Nat} (hown : s.vm.findClass own = some m.cls) (hlink : (Cond.methodLink own index arraycopyName).before args s = true) (hnat : (Cond.native arraycopyName).before args s = true) (hstat : (Cond.static arraycopyName).before args s = true) (hini : (Cond.initialized "java/lang/System").before args s = true)
    (hK : va_K G.1 vwCl (zT G) s) (hM : zM G A s H locs ws) (q0 q1 : Nat) {a0 n0 n1 : Nat} {f g : Nat → Int32} (ha0 : ws[q0]? = some (a0, .inl (G.2 1, n0, .inl f))) (ha1 : ws[q1]? = some (a, .inl (G.2 1, n1, .inl g)))
    {sp dp n : Int32} (h1 : ¬ sp < 0) (h2 : ¬ dp < 0) (h3 : ¬ n < 0) (h4 : sp.toNatClampNeg + n.toNatClampNeg ≤ n0) (h5 : dp.toNatClampNeg + n.toNatClampNeg ≤ n1)
    (hframes : 1 ≤ R.frames) (hlocals : (rest.map fun v => v.category).sum + (nativeFrameWords "java/lang/System" "arraycopy" 5 + 11) ≤ R.locals) (hdg : decode cc pc = .ok (.invokestatic index, 3))
    (hw : ws.set q1 (a, .inl (G.2 1, n1, .inl (va_cpy f g sp.toNatClampNeg dp.toNatClampNeg n.toNatClampNeg))) = ws')
    (kk : ∀ (H1 : Heap) (locs1 : List Loc), zM G A s H1 locs1 ws' → W p l e R s m args below meth c H1 locs1 cells slots Q (F0 m (pc + 3) ls rest)) : W p l e R s m args below meth c H locs cells slots Q (F0 m pc ls (.int n :: .int dp :: .ref a :: .int sp :: .ref a0 :: rest)) :=
  va_copyi hexec hb hml hown hlink hnat hstat hini hK hM.1 hM.2.1 hM.2.2 q0 q1 1 1 (ty := .int) ha0 ha1 rfl rfl rfl h1 h2 h3 h4 h5 (fun _ _ => rfl) hframes hlocals hdg (fun H1 locs1 h1 h2 h3 => kk H1 locs1 (hw ▸ ⟨h1, h2, h3⟩))
theorem z_tout {x : Int32} (lo hi : Nat) (h : ∀ k : Nat, lo ≤ k → k ≤ hi → x ≠ nI k) : x.toInt < (lo : Int) ∨ (hi : Int) < x.toInt := by
  by_cases h1 : x.toInt < (lo : Int)
  · exact Or.inl h1
  · by_cases h2 : (hi : Int) < x.toInt
    · exact Or.inr h2
    · exfalso
      refine h x.toInt.toNat (by omega) (by omega) ?_
      refine Int32.toInt_inj.mp ?_
      have hlt : x.toInt < 2 ^ 31 := Int32.toInt_lt x
      rw [nI_toInt (by omega)]
      omega
theorem pm_self (w : va_W) : w.Perm (w ++ []) := by rw [List.append_nil]
theorem pm_self' (w : va_W) : (w ++ []).Perm w := by rw [List.append_nil]
theorem pm_nil (w : va_W) : w.Perm ([] ++ w) := List.Perm.refl _
/-- the cells at the places is, ahead of the others: js -/
theorem pm_at {w wc wr : va_W} (n : Nat) (is js : List Nat) (hlen : w.length = n) (hc : is.map (fun i => w[i]?) = wc.map some) (hr : js.map (fun i => w[i]?) = wr.map some) (hn : (List.range n).Perm (is ++ js)) : w.Perm (wc ++ wr) := by
  subst hlen
  have h1 : (w.map some).Perm ((wc ++ wr).map some) := by
    rw [List.map_append, ← hc, ← hr, ← List.map_append]
    have h2 : w.map some = (List.range w.length).map (fun i => w[i]?) := by
      apply List.ext_getElem?
      intro i
      simp only [List.getElem?_map]
      by_cases hi : i < w.length
      · rw [List.getElem?_range hi]; simp [List.getElem?_eq_getElem hi]
      · rw [List.getElem?_eq_none (by omega), List.getElem?_eq_none (by simpa using hi)]; rfl
    rw [h2]
    exact hn.map _
  have h3 := h1.map (fun o : Option (Nat × va_E) => o.getD (0, .inr (0, [])))
  rw [List.map_map, List.map_map] at h3
  have h4 : ∀ v : va_W, v.map ((fun o : Option (Nat × va_E) => o.getD (0, .inr (0, []))) ∘ some) = v := fun v => by
    conv => rhs; rw [← List.map_id v]
    rfl
  rw [h4, h4] at h3
  exact h3
end ZS
section ZN
variable {p : Program} {l : Launch} {e : Env} {R : Room} {s : State} {m : MethodId} {args : Array Value} {below : List Frame} {meth : Method} {c : Code} {H : Heap} {locs : List Loc} {cells slots : Nat} {Q : State → Prop}
variable {cc : ByteArray} {pc : Nat} {ls : Array Slot} {rest : List Value} {G : zC} {A : Nat → Prop} {ws ws' : va_W} {a : Nat}
theorem z_newa {t0 : Nat} (hexec : p.tables.exec = Jvm.exec) (hb : c.code = cc) {atype : ArrayType} (harr : (Cond.arrayClass (newarray.typeOf atype)).before args s = true) {ty : FieldType} (hty : newarray.typeOf atype = ty) (hprim : va_RA s (G.2 t0) ty = (s.vm.findClass ("[" ++ ty.toString) = some (G.2 t0))) (hK : va_K G.1 vwCl (zT G) s) (hM : zM G A s H locs ws) (hA : ∀ q, s.heap.size ≤ q → A q) (ht : (zT G)[t0]? = some (G.2 t0, ty))
    {n : Int32} {N' : Nat} {a0 : vp_A} (ha : ∀ cA : ClassId, vp_cell cA a0 = arrV cA N' (fun _ => defaultValue ty)) (hn : ¬ n < 0) (hN : n.toNatClampNeg = N') (hbytes : N' * componentBytes ty ≤ 536870912) (hcells : cells + 1 ≤ R.cells) (hslots : slots + N' ≤ R.slots) (hdg : decode cc pc = .ok (.newarray atype, 2))
    (kk : ∀ (q : Nat) (H1 : Heap), zM G A s H1 locs (ws ++ [(q, .inl (G.2 t0, a0))]) →
      W p l e R s m args below meth c H1 locs (cells + 1) (slots + N') Q (F0 m (pc + 2) ls (.ref q :: rest))) : W p l e R s m args below meth c H locs cells slots Q (F0 m pc ls (.int n :: rest)) := by
  subst hty
  refine va_newaK hexec hb harr rfl hdg rfl hn hN hbytes hcells hslots rfl fun H1 cA e1 z1 o1 hAr hNm => ?_
  have h9 : s.vm.findClass ("[" ++ (newarray.typeOf atype).toString) = some (G.2 t0) := hprim ▸ (hK.2 t0 _ ht).2
  have hcA : cA = G.2 t0 := Option.some.inj (hNm.symm.trans h9)
  subst hcA
  have hk : ∀ (k : Nat) (x : Nat × va_E), ws[k]? = some x → H1[x.1]? = H[x.1]? := fun k x hx => o1 x.1 ((hM.1 k x hx).lt)
  refine kk H.size H1 ⟨(hM.1.kept hk).app (fun k x hx => ?_), hM.2.1.push hM.1 rfl (hA _ hM.2.2.1), ⟨Nat.le_trans hM.2.2.1 (by omega), fun x h1 h2 => (o1 x (Nat.lt_of_lt_of_le h1 hM.2.2.1)).trans (hM.2.2.2.1 x h1 h2), hM.2.2.2.2⟩⟩
  have hz : k < 1 := (List.getElem?_eq_some_iff.mp hx).1
  rw [show k = 0 by omega] at hx
  cases hx
  show H1[H.size]? = some (vp_cell _ _)
  rw [ha]
  exact e1
theorem z_new (hexec : p.tables.exec = Jvm.exec) (hb : c.code = cc) {own C : String} {T : u_T} {N ci index : Nat} {Ts : List Cond} (hts : ∀ w ∈ Ts, w.before args s = true) (hin : ∀ w ∈ u_ws C T N, w ∈ Ts) (ty : Nat → FieldType) (hty : ∀ k, k < N → parseFieldDescriptor (T k).2.2.1 = some (ty k)) (hown : s.vm.findClass own = some m.cls) (hcl : (Cond.classLink own index C).before args s = true) (hinst : (Cond.instantiable C N).before args s = true) (hini : (Cond.initialized C).before args s = true)
    (hK : va_K G.1 vwCl (zT G) s) (hM : zM G A s H locs ws) (hA : ∀ q, s.heap.size ≤ q → A q) (hc : vwCl[ci]? = some (C, T, N)) {fs : List Value} (hfs : ∀ j, j < N → defaultValue (ty j) = vp_V fs j) (hcells : cells + 1 ≤ R.cells) (hslots : slots + N ≤ R.slots) (hdg : decode cc pc = .ok (.new index, 3))
    (kk : ∀ (q : Nat) (H1 : Heap), zM G A s H1 locs (ws ++ [(q, .inr (ci, fs))]) →
      W p l e R s m args below meth c H1 locs (cells + 1) (slots + N) Q (F0 m (pc + 3) ls (.ref q :: rest))) : W p l e R s m args below meth c H locs cells slots Q (F0 m pc ls rest) :=
  va_new hexec hb hts hin ty hty hown hcl hinst hini hK hM.1 hM.2.1 hM.2.2 hA hc hfs hcells hslots hdg (fun q H1 h1 h2 h3 => kk q H1 ⟨h1, h2, h3⟩)
end ZN
