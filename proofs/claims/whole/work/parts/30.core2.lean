/-! CORE, second part: methods that throw, handlers, worlds that are made -/
/-- words that a throw needs and that no list of words keeps -/
def zDcs : List MethodName := [Bundle.initS "java/lang/RuntimeException", Bundle.initS "java/lang/Exception", Bundle.initS Bundle.tN]
def zExs : List String := ["java/lang/IllegalArgumentException", "java/lang/IllegalStateException", "java/lang/IndexOutOfBoundsException"]
def zTh (U : State) : Prop := (∀ y ∈ zDcs, va_Nw (.declares y) U) ∧ ∀ E ∈ zExs, va_Nw (.castable E E) U
theorem zTh_warm {s U : State} (hW : s.WarmedH U.vm) (h : zTh s) : zTh U := ⟨fun y hy => va_Nw.warmD hW (h.1 y hy), fun E hE => va_Nw.warmC hW (h.2 E hE)⟩
theorem zTh_same {u U : State} (hvm : u.vm = U.vm) (h : zTh u) : zTh U := ⟨fun y hy => va_Nw.same rfl hvm (h.1 y hy), fun E hE => va_Nw.same rfl hvm (h.2 E hE)⟩
def zTw (E : String) : List Cond := [.declares (Bundle.initS "java/lang/RuntimeException"), .declares (Bundle.initS "java/lang/Exception"), .declares (Bundle.initS Bundle.tN), .castable E E]
theorem zTh_use {s : State} {args : Array Value} {E : String} (h : zTh s) (hE : E ∈ zExs) : ∀ w ∈ zTw E, w.before args s = true :=
  vx_c (va_Nw.use rfl (h.1 _ (List.mem_of_getElem? (i := 0) rfl))) (vx_c (va_Nw.use rfl (h.1 _ (List.mem_of_getElem? (i := 1) rfl))) (vx_c (va_Nw.use rfl (h.1 _ (List.mem_of_getElem? (i := 2) rfl))) (vx_c (va_Nw.use rfl (h.2 E hE)) vx_n)))
def zPreT (G : zC) (av : List Value) (sz : Nat) (ws : va_W) : Array Value → State → Prop :=
  va_Pc av (fun U => U.heap.size = sz ∧ va_P G.1 vwCl ws U.heap ∧ va_K G.1 vwCl (zT G) U ∧ va_D (fun _ => True) ws ∧ zE (va_A ws sz) U U.heap ∧ zTh U)
theorem zPreT_blind (G : zC) (av : List Value) (sz : Nat) (ws : va_W) : FrameBlind (zPreT G av sz ws) := fun a U g mk q => by
  obtain ⟨q0, q1, qP, qK, qD, qE, qN⟩ := q
  exact ⟨q0, q1, qP, va_K.moved (u := U) (U := U.calling g mk a) (Vm.Alike.refl U.vm) qK, qD, zE_vm (u := U) (U := U.calling g mk a) rfl qE, zTh_same (u := U) (U := U.calling g mk a) rfl qN⟩
def zXT (G : zC) (A : Nat → Prop) (ws : va_W) (E : String) : String → State → State → Prop := fun E' st t => E' = E ∧ zB G A ws t ∧ va_F A st t
/-- the contract of a method that throws E, its world as it was -/
def zMetT (l : Launch) (G : zC) (y : MethodName) (w : List Cond) (rm : Room) (av : List Value) (ws : va_W) (E : String) : Prop :=
  ∀ sz : Nat, vx_Met l y w rm (zPreT G av sz ws) (fun _ _ _ _ => False) (zXT G (va_A ws sz) ws E) rm.cells rm.slots (va_A ws sz)
def zEndT (G : zC) (below : List Frame) (args : Array Value) (s : State) (rm : Room) (A : Nat → Prop) (ws : va_W) (E : String) : State → Prop := vx_MQ below (fun _ _ _ _ => False) (zXT G A ws E) args s rm.cells rm.slots A
/-- the contract of a method whose new world is told by a property of it -/
def zQE (G : zC) (A : Nat → Prop) (rv : Option Value) (W1 : va_W → Prop) : Array Value → State → Outcome → State → Prop := fun _ st oc t => oc = .returned rv ∧ (∃ w1, W1 w1 ∧ zB G A w1 t) ∧ va_F A st t
def zMetE (l : Launch) (G : zC) (y : MethodName) (w : List Cond) (rm : Room) (av : List Value) (ws : va_W) (rv : Option Value) (W1 : va_W → Prop) : Prop :=
  ∀ sz : Nat, Met l y w rm (zPre G av sz ws) (zQE G (va_A ws sz) rv W1) rm.cells rm.slots (va_A ws sz)
def zEndE (G : zC) (below : List Frame) (args : Array Value) (s : State) (rm : Room) (A : Nat → Prop) (rv : Option Value) (W1 : va_W → Prop) : State → Prop := MQ below (zQE G A rv W1) args s rm.cells rm.slots A
/-- which exceptions are not which -/
def zNcs : List (String × String) := [("java/lang/IllegalStateException", "java/lang/IllegalArgumentException"), ("java/lang/IllegalArgumentException", "java/lang/IndexOutOfBoundsException"), ("java/lang/IllegalStateException", "java/lang/IndexOutOfBoundsException")]
def zNc (U : State) : Prop := ∀ q ∈ zNcs, va_Nc q.1 q.2 U
theorem zNc_moved {u U : State} (hvm : u.vm.Alike U.vm) (h : zNc u) : zNc U := fun q hq => va_Nc.moved hvm (h q hq)
def zPreN (G : zC) (av : List Value) (sz : Nat) (ws : va_W) : Array Value → State → Prop :=
  va_Pc av (fun U => U.heap.size = sz ∧ va_P G.1 vwCl ws U.heap ∧ va_K G.1 vwCl (zT G) U ∧ va_D (fun _ => True) ws ∧ zE (va_A ws sz) U U.heap ∧ zNc U ∧ zTh U)
theorem zPreN_blind (G : zC) (av : List Value) (sz : Nat) (ws : va_W) : FrameBlind (zPreN G av sz ws) := fun a U g mk q => by
  obtain ⟨q0, q1, qP, qK, qD, qE, qN, qT⟩ := q
  exact ⟨q0, q1, qP, va_K.moved (u := U) (U := U.calling g mk a) (Vm.Alike.refl U.vm) qK, qD, zE_vm (u := U) (U := U.calling g mk a) rfl qE, zNc_moved (u := U) (U := U.calling g mk a) (Vm.Alike.refl U.vm) qN, zTh_same (u := U) (U := U.calling g mk a) rfl qT⟩
def zMetN (l : Launch) (G : zC) (y : MethodName) (w : List Cond) (rm : Room) (av : List Value) (ws : va_W) (rv : Option Value) (w1 : va_W) : Prop :=
  ∀ sz : Nat, Met l y w rm (zPreN G av sz ws) (zQ G (va_A ws sz) rv w1) rm.cells rm.slots (va_A ws sz)
section ZX
variable {p : Program} {l : Launch} {e : Env} {R : Room} {s : State} {m : MethodId} {args : Array Value} {below : List Frame} {meth : Method} {c : Code} {H : Heap} {locs : List Loc} {cells slots : Nat} {Q : State → Prop}
variable {cc bytes : ByteArray} {pc nL n index maxL : Nat} {ls : Array Slot} {As rest st0 : List Value} {G : zC} {A : Nat → Prop} {ws wc wr w1 ws' : va_W} {y : MethodName} {w Ts : List Cond} {rm : Room} {rv : Option Value} {ret : Option FieldType} {own C host E : String} {b : Nat} {W1 : va_W → Prop}
theorem zMetT_of {av : List Value} {w' : List Cond} (hy : plainName y.cls = true) (hw : w = Cond.code y cc maxL ret :: w') (hlen : (lg_sl av).length ≤ maxL)
    (body : ∀ (p : Program) (e : Env) (s : State) (m : MethodId) (below : List Frame) (meth : Method) (c : Code) (A : Nat → Prop) (ls : Array Slot), p.tables.exec = Jvm.exec → c.code = cc → (∀ x ∈ c.exceptionTable.toList, False) → c.maxLocals = maxL → s.vm.findClass y.cls = some m.cls → (∀ q ∈ w, q.before av.toArray s = true) → va_K G.1 vwCl (zT G) s → (∀ q, s.heap.size ≤ q → A q) → zE A s s.heap → zTh s → meth.locks = false → meth.name = y.name → zM G A s s.heap [] ws → lv_has ls maxL (lv_args 0 av) →
      W p l e rm s m av.toArray below meth c s.heap [] 0 0 (zEndT G below av.toArray s rm A ws E) (F0 m 0 ls [])) : zMetT l G y w rm av ws E := by
  intro sz
  refine vx_ofW (cc := cc) (maxL := maxL) (ret := ret) hy hw ?_
  intro p e s m args below meth c s₁ B hml htb hv
  obtain ⟨rfl, hsz, hP, hK, hD0, hE, hTh⟩ := hv
  subst hsz
  have hl := lv_entry av (n := maxL) hlen
  rw [lg_entry_eq]
  exact body p e s m below meth c (va_A ws s.heap.size) _ B.exec B.bytes htb hml (findClass_of_methodNamed B.named) (atoms_spec (ws := w) B.pre) hK (fun q h => Or.inr h) hE hTh B.notSynchronized (name_of_methodNamed B.named B.method).1 ⟨hP, hD0.self, va_S.rf⟩ hl
theorem zMetE_of {av : List Value} {w' : List Cond} (hy : plainName y.cls = true) (hw : w = Cond.code y cc maxL ret :: w') (hlen : (lg_sl av).length ≤ maxL)
    (body : ∀ (p : Program) (e : Env) (s : State) (m : MethodId) (below : List Frame) (meth : Method) (c : Code) (A : Nat → Prop) (ls : Array Slot), p.tables.exec = Jvm.exec → c.code = cc → meth.sig.returnType = ret → c.maxLocals = maxL → s.vm.findClass y.cls = some m.cls → (∀ q ∈ w, q.before av.toArray s = true) → va_K G.1 vwCl (zT G) s → (∀ q, s.heap.size ≤ q → A q) → zE A s s.heap → meth.locks = false → meth.name = y.name → zM G A s s.heap [] ws → lv_has ls maxL (lv_args 0 av) →
      W p l e rm s m av.toArray below meth c s.heap [] 0 0 (zEndE G below av.toArray s rm A rv W1) (F0 m 0 ls [])) : zMetE l G y w rm av ws rv W1 := by
  intro sz
  refine Met.ofW (cc := cc) (maxL := maxL) (ret := ret) hy hw ?_
  intro p e s m args below meth c s₁ B hml hv
  obtain ⟨rfl, hsz, hP, hK, hD0, hE⟩ := hv
  subst hsz
  have hl := lv_entry av (n := maxL) hlen
  rw [lg_entry_eq]
  exact body p e s m below meth c (va_A ws s.heap.size) _ B.exec B.bytes B.returns hml (findClass_of_methodNamed B.named) (atoms_spec (ws := w) B.pre) hK (fun q h => Or.inr h) hE B.notSynchronized (name_of_methodNamed B.named B.method).1 ⟨hP, hD0.self, va_S.rf⟩ hl
theorem z_vretE (hexec : p.tables.exec = Jvm.exec) (hb : c.code = cc) (hr : meth.sig.returnType = none) (hlocks : meth.locks = false) (hdg : decode cc pc = .ok (.return_, 1)) (hM : zM G A s H locs w1) (hW : W1 w1) (hc : cells ≤ rm.cells) (hs : slots ≤ rm.slots) : W p l e R s m args below meth c H locs cells slots (zEndE G below args s rm A none W1) (F0 m pc ls []) :=
  W.widen hc hs (W.vret hexec hb hr (fun t ht hW9 => ⟨rfl, ⟨w1, hW, by rw [ht]; exact hM.1, hM.2.1⟩, hM.2.2.F ht⟩) hM.2.2.2.2 hdg hlocks)
/-- a method with handlers -/
theorem zMetN_of {av : List Value} {w' : List Cond} {hh : List (Nat × Nat × Nat × Nat)} (hy : plainName y.cls = true) (hw : w = Cond.codeWith y cc maxL ret hh :: w') (hlen : (lg_sl av).length ≤ maxL)
    (body : ∀ (p : Program) (e : Env) (s : State) (m : MethodId) (below : List Frame) (meth : Method) (c : Code) (A : Nat → Prop) (ls : Array Slot), p.tables.exec = Jvm.exec → c.code = cc → meth.sig.returnType = ret → c.exceptionTable.toList = tableOf hh → c.maxLocals = maxL → s.vm.findClass y.cls = some m.cls → (∀ q ∈ w, q.before av.toArray s = true) → va_K G.1 vwCl (zT G) s → (∀ q, s.heap.size ≤ q → A q) → zE A s s.heap → zNc s → zTh s → meth.locks = false → meth.name = y.name → zM G A s s.heap [] ws → lv_has ls maxL (lv_args 0 av) →
      W p l e rm s m av.toArray below meth c s.heap [] 0 0 (zEnd G below av.toArray s rm A rv w1) (F0 m 0 ls [])) : zMetN l G y w rm av ws rv w1 := by
  intro sz
  refine MetFree.of_bodyS (code := cc) (maxLocals := maxL) (ret := ret) hy ?_ ?_
  · intro args s m h hn
    obtain ⟨m9, meth, c, hn9, h1, h2, h3, h4, -, h5, h6, -⟩ := Cond.codeWith_spec (atoms_spec (ws := w) h _ (by rw [hw]; exact List.mem_cons_self))
    cases hn.symm.trans hn9
    exact ⟨meth, c, h1, h2, h3, h4, h5, h6⟩
  · intro p e s m args below meth c s₁ B hml hP _
    have hh0 : s₁.heap = s.heap := by rw [B.state]; rfl
    obtain ⟨rfl, hsz, hP, hK, hD0, hE, hN, hTh⟩ := hP
    subst hsz
    have hl := lv_entry av (n := maxL) hlen
    have hts := atoms_spec (ws := w) B.pre
    have htb : c.exceptionTable.toList = tableOf hh := vx_table (x := y) B (hts _ (by rw [hw]; exact List.mem_cons_self))
    have K := body p e s m below meth c (va_A ws s.heap.size) _ B.exec B.bytes B.returns htb hml (findClass_of_methodNamed B.named) hts hK (fun q h => Or.inr h) hE hN hTh B.notSynchronized (name_of_methodNamed B.named B.method).1 ⟨hP, hD0.self, va_S.rf⟩ hl
    rw [← lg_entry_eq] at K
    obtain ⟨t, a1, o, b1, b2, b3, b4⟩ := K s₁ hh0 (Stand.of_body B)
    exact ⟨t, o, a1, b1, b2, b3, b4⟩
/-- a call of a method that throws -/
theorem z_callVT (S : CallFix p m c cc nL s args Ts own) (hMet : zMetT l G y w rm (.ref b :: As) wc E) (cw : CallW R s args own C index y bytes maxL ret w rm rm.cells rm.slots n) (ci : Nat) {q : vw_C} {fs : List Value} (hb0 : wc[0]? = some (b, .inr (ci, fs))) (hcl : vwCl[ci]? = some q) (hcC : q.1 = C) (hn : As.length = n) (hsize : ls.size = nL) (hst : st0 = As.reverse ++ .ref b :: rest) (hW : (rest.map fun v => v.category).sum ≤ 8) (hdg : decode cc pc = .ok (.invokevirtual index, 3)) (hf : cells + rm.cells ≤ R.cells ∧ slots + rm.slots ≤ R.slots)
    (hK : va_K G.1 vwCl (zT G) s) (hE : zE A s s.heap) (hTh : zTh s) (hA : ∀ q, s.heap.size ≤ q → A q) (hM : zM G A s H locs ws) (hp : ws.Perm (wc ++ wr))
    (kk : ∀ (q9 : Addr) (ce : Cell) (H1 : Heap) (locs1 : List Loc), zM G A s H1 locs1 ws → H1[q9]? = some ce → ce.vm = .none → s.vm.findClass E = some ce.cls → vx_W p l e R s m args below meth c H1 locs1 (cells + rm.cells) (slots + rm.slots) Q (F0 m pc ls rest) q9) : W p l e R s m args below meth c H locs cells slots Q (F0 m pc ls st0) := by
  subst hst
  subst hcC
  have hr := vx_runV (e := e) (below := below) (meth := meth) (locs := locs) (cells := cells) (slots := slots) (H := H) S (hMet H.size) cw ⟨zPreT_blind _ _ _ _, va_recv hK (va_P_app.mp (va_P_perm hp hM.1)).1 hcl hb0, fun U hU hW9 => by obtain ⟨q0, q1, qP, qK, qD, qE⟩ := z_pre (av := .ref b :: As) hK hE hM hA hp U hU hW9; exact ⟨q0, q1, qP, qK, qD, qE, zTh_warm hW9 hTh⟩⟩ (g := F0 m pc ls (As.reverse ++ .ref b :: rest)) rfl hn hsize rfl (lv_room hW) hdg hf
  intro T hT X
  rcases hr T hT X with ⟨v, st₀, t, T', L, h0, X', hL, e1, e2, hF, st⟩ | ⟨q9, st₀, t, T', L, E9, ce, h0, X', hL, e1, e2, ⟨rfl, ⟨hP1, hD1⟩, hz, hk⟩, hce, hcv, hcl9, st⟩
  · exact hF.elim
  · rw [h0] at hz hk
    have hfree := z_free hM hA hp
    obtain ⟨hP0, hPr⟩ := va_P_app.mp (va_P_perm hp hM.1)
    obtain ⟨hD0, hDr, hne⟩ := va_D_app.mp (va_D_perm hp hM.2.1)
    have hkeep : ∀ (k : Nat) (q : Nat × va_E), wr[k]? = some q → q.1 < H.size ∧ ¬ va_A wc H.size q.1 := by
      intro k q hk9
      have hlt := (hPr k q hk9).lt
      refine ⟨hlt, ?_⟩
      rintro (⟨j, e9, hj⟩ | hj)
      · exact hne _ (List.mem_of_getElem? hj) q (List.mem_of_getElem? hk9) rfl
      · omega
    have hPr1 : va_P G.1 vwCl wr t.heap := hPr.kept fun k q hk9 => hk q.1 (hkeep k q hk9).1 (hkeep k q hk9).2
    have hM1 : zM G A s T'.heap (locs ++ L) ws := by
      rw [e1]
      refine ⟨va_P_perm hp.symm (hP1.app hPr1), hM.2.1, ⟨Nat.le_trans hM.2.2.1 hz, fun q h1 h2 => ?_, fun q hq9 => ?_⟩⟩
      · rw [hk q (Nat.lt_of_lt_of_le h1 hM.2.2.1) (fun z => h2 (hfree q z))]
        exact hM.2.2.2.1 q h1 h2
      · rcases List.mem_append.mp hq9 with h | h
        · exact hM.2.2.2.2 q h
        · exact hfree _ (hL q h)
    obtain ⟨t2, a1, b1⟩ := kk q9 ce T'.heap (locs ++ L) hM1 (by rw [e1]; exact hce) hcv hcl9 T' rfl X'
    exact ⟨t2, st.trans a1, b1⟩
/-- 'throw new E(text)' -/
theorem z_throw (hexec : p.tables.exec = Jvm.exec) (hb : c.code = cc) (hl9 : l.stackTraces = false) {text : String} {ik is ic : Nat} (htb : ∀ x ∈ c.exceptionTable.toList, False) (hlocks : meth.locks = false)
    (hown : s.vm.findClass own = some m.cls) (hfit : Bundle.fit E = true) (hk : (Cond.classLink own ik E).before args s = true) (hini : (Cond.initialized E).before args s = true) (hstr : ∃ a, vk_R own is text a s) (hTh : zTh s) (hEm : E ∈ zExs) (hat1 : ∀ w ∈ (vx_atS own ic E ["java/lang/RuntimeException", "java/lang/Exception"]).filter goodWord, w.before args s = true) (hat2 : ∀ w ∈ (vx_atS own ic E ["java/lang/RuntimeException", "java/lang/Exception"]).filter (fun w => !goodWord w), w ∈ zTw E)
    (hgood : ∀ w ∈ Cond.classLink own ik E :: Cond.initialized E :: vx_atS own ic E ["java/lang/RuntimeException", "java/lang/Exception"], vx_ot w = true)
    (hE : zE A s s.heap) (hA : ∀ q, s.heap.size ≤ q → A q) (hM : zM G A s H locs ws) (hsize : ls.size = c.maxLocals)
    (d0 : decode cc pc = .ok (.new ik, 3)) (d3 : decode cc (pc + 3) = .ok (.dup, 1)) (d4 : decode cc (pc + 4) = .ok (.ldc is, 2)) (d6 : decode cc (pc + 6) = .ok (.invokespecial ic, 3)) (d9 : decode cc (pc + 9) = .ok (.athrow, 1))
    (hRf : 5 < R.frames) (hRl : (rest.map fun v => v.category).sum + 82 ≤ R.locals) (hRc : cells + 1 ≤ R.cells) (hRs : slots + 6 ≤ R.slots) (hc : cells + 1 ≤ rm.cells) (hs : slots + 6 ≤ rm.slots) :
    W p l e R s m args below meth c H locs cells slots (zEndT G below args s rm A ws E) (F0 m pc ls rest) := by
  obtain ⟨sa, hsa⟩ := hstr
  refine vx_throwS hexec hb hl9 hown hfit (by decide) hk hini hsa (vx_hat hat1 hat2 (zTh_use hTh hEm)) hgood hE.2.2.1 hE.2.2.2 hM.2.2 hsize d0 d3 d4 d6 d9 (fun x hx => (htb x hx).elim) hRf hRl hRc hRs hlocks (fun t _ hz hq => ⟨rfl, ⟨hM.1.kept (fun k q hk9 => hq q.1 (hM.1 k q hk9).lt), hM.2.1⟩, Nat.le_trans hM.2.2.1 hz, fun q h1 h2 => ?_⟩) hM.2.2.2.2 hc hs
  rw [hq q (Nat.lt_of_lt_of_le h1 hM.2.2.1)]
  exact hM.2.2.2.1 q h1 h2
/-- behind a call whose world is told by a property -/
theorem z_callE {a : Array Value} {mc ms : Nat} (hr : va_Run p l e R s m args below meth c H locs cells slots mc ms (F0 m pc ls st0) rest (zQE G (va_A wc H.size) rv W1 a) (va_A wc H.size)) (hA : ∀ q, s.heap.size ≤ q → A q) (hM : zM G A s H locs ws) (hp : ws.Perm (wc ++ wr))
    (kk : ∀ (w1 : va_W) (H1 : Heap) (locs1 : List Loc), W1 w1 → zM G A s H1 locs1 (w1 ++ wr) → W p l e R s m args below meth c H1 locs1 (cells + mc) (slots + ms) Q (F0 m (pc + 3) ls (rv.toList ++ rest))) : W p l e R s m args below meth c H locs cells slots Q (F0 m pc ls st0) := by
  intro T hT X
  obtain ⟨v, st₀, t, T', L, h0, X', hL, e1, e2, ⟨hv, ⟨w1, hW1, hP1, hD1⟩, hz, hk⟩, st⟩ := hr T hT X
  cases hv
  rw [h0] at hz hk
  have hfree := z_free hM hA hp
  obtain ⟨hP0, hPr⟩ := va_P_app.mp (va_P_perm hp hM.1)
  obtain ⟨hD0, hDr, hne⟩ := va_D_app.mp (va_D_perm hp hM.2.1)
  have hkeep : ∀ (k : Nat) (q : Nat × va_E), wr[k]? = some q → q.1 < H.size ∧ ¬ va_A wc H.size q.1 := by
    intro k q hk9
    have hlt := (hPr k q hk9).lt
    refine ⟨hlt, ?_⟩
    rintro (⟨j, e9, hj⟩ | hj)
    · exact hne _ (List.mem_of_getElem? hj) q (List.mem_of_getElem? hk9) rfl
    · omega
  have hPr1 : va_P G.1 vwCl wr t.heap := hPr.kept fun k q hk9 => hk q.1 (hkeep k q hk9).1 (hkeep k q hk9).2
  have hM1 : zM G A s T'.heap (locs ++ L) (w1 ++ wr) := by
    rw [e1]
    refine ⟨hP1.app hPr1, va_D_app.mpr ⟨hD1.weaken (fun _ q _ h => hfree q.1 h), hDr, fun x hx z hz9 => ?_⟩, ⟨Nat.le_trans hM.2.2.1 hz, fun q h1 h2 => ?_, fun q hq9 => ?_⟩⟩
    · obtain ⟨i, hi⟩ := List.getElem?_of_mem hx
      obtain ⟨j, hj⟩ := List.getElem?_of_mem hz9
      intro he
      exact (hkeep j z hj).2 (he ▸ hD1.2 i x hi)
    · rw [hk q (Nat.lt_of_lt_of_le h1 hM.2.2.1) (fun z => h2 (hfree q z))]
      exact hM.2.2.2.1 q h1 h2
    · rcases List.mem_append.mp hq9 with h | h
      · exact hM.2.2.2.2 q h
      · exact hfree _ (hL q h)
  obtain ⟨t2, a1, b1⟩ := kk w1 T'.heap (locs ++ L) hW1 hM1 T' rfl X'
  exact ⟨t2, st t2 a1, b1⟩
theorem z_callIE (S : CallFix p m c cc nL s args Ts own) (hMet : zMetE l G y w rm (.ref b :: As) wc none W1) (cw : CallB R s args own index y bytes maxL none w rm rm.cells rm.slots n ∧ y.name = "<init>" ∧ (Cond.instanceMethod y).before args s = true) (hn : As.length = n) (hsize : ls.size = nL) (hst : st0 = As.reverse ++ .ref b :: rest) (hW : (rest.map fun v => v.category).sum ≤ 8) (hdg : decode cc pc = .ok (.invokespecial index, 3)) (hf : cells + rm.cells ≤ R.cells ∧ slots + rm.slots ≤ R.slots)
    (hK : va_K G.1 vwCl (zT G) s) (hE : zE A s s.heap) (hA : ∀ q, s.heap.size ≤ q → A q) (hM : zM G A s H locs ws) (hp : ws.Perm (wc ++ wr))
    (kk : ∀ (w1 : va_W) (H1 : Heap) (locs1 : List Loc), W1 w1 → zM G A s H1 locs1 (w1 ++ wr) → W p l e R s m args below meth c H1 locs1 (cells + rm.cells) (slots + rm.slots) Q (F0 m (pc + 3) ls rest)) : W p l e R s m args below meth c H locs cells slots Q (F0 m pc ls st0) := by
  subst hst
  exact z_callE (rv := none) (va_runI S (hMet H.size) cw ⟨zPre_blind _ _ _ _, z_pre hK hE hM hA hp⟩ rfl hn hsize rfl (lv_room hW) hdg hf) hA hM hp kk
/-- a call of a method with handlers -/
theorem z_callN (S : CallFix p m c cc nL s args Ts own) {hh : List (Nat × Nat × Nat × Nat)} (hMet : zMetN l G y w rm As wc rv w1) (cw : vx_CSW R s args own index y bytes maxL ret hh w rm rm.cells rm.slots n) (hn : As.length = n) (hsize : ls.size = nL) (hst : st0 = As.reverse ++ rest) (hW : (rest.map fun v => v.category).sum ≤ 8) (hdg : decode cc pc = .ok (.invokestatic index, 3)) (hf : cells + rm.cells ≤ R.cells ∧ slots + rm.slots ≤ R.slots)
    (hK : va_K G.1 vwCl (zT G) s) (hE : zE A s s.heap) (hN : zNc s) (hTh : zTh s) (hA : ∀ q, s.heap.size ≤ q → A q) (hM : zM G A s H locs ws) (hp : ws.Perm (wc ++ wr)) (hq : (w1 ++ wr).Perm ws')
    (kk : ∀ (H1 : Heap) (locs1 : List Loc), zM G A s H1 locs1 ws' → H.size ≤ H1.size → W p l e R s m args below meth c H1 locs1 (cells + rm.cells) (slots + rm.slots) Q (F0 m (pc + 3) ls (rv.toList ++ rest))) : W p l e R s m args below meth c H locs cells slots Q (F0 m pc ls st0) := by
  subst hst
  refine z_call (vx_runSW S (hMet H.size) cw ⟨zPreN_blind _ _ _ _, fun U hU hW9 => ?_⟩ (g := F0 m pc ls (As.reverse ++ rest)) rfl hn hsize rfl (lv_room hW) hdg hf) hA hM hp hq kk
  obtain ⟨q0, q1, qP, qK, qD, qE⟩ := z_pre (av := As) hK hE hM hA hp U hU hW9
  exact ⟨q0, q1, qP, qK, qD, qE, zNc_moved hW9.alike hN, zTh_warm hW9 hTh⟩
end ZX
