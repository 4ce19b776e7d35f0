/-! CORE, third part: constructors -/
def zAo (U : State) : Prop := va_AO "ShiftIsles$Board" U ∧ va_AO "ShiftIsles$Game" U
theorem zAo_moved {u U : State} (hvm : u.vm.Alike U.vm) (h : zAo u) : zAo U := ⟨va_AO.moved hvm h.1, va_AO.moved hvm h.2⟩
def zPreA (G : zC) (av : List Value) (sz : Nat) (ws : va_W) : Array Value → State → Prop :=
  va_Pc av (fun U => U.heap.size = sz ∧ va_P G.1 vwCl ws U.heap ∧ va_K G.1 vwCl (zT G) U ∧ va_D (fun _ => True) ws ∧ zE (va_A ws sz) U U.heap ∧ zAo U)
theorem zPreA_blind (G : zC) (av : List Value) (sz : Nat) (ws : va_W) : FrameBlind (zPreA G av sz ws) := fun a U g mk q => by
  obtain ⟨q0, q1, qP, qK, qD, qE, qN⟩ := q
  exact ⟨q0, q1, qP, va_K.moved (u := U) (U := U.calling g mk a) (Vm.Alike.refl U.vm) qK, qD, zE_vm (u := U) (U := U.calling g mk a) rfl qE, zAo_moved (u := U) (U := U.calling g mk a) (Vm.Alike.refl U.vm) qN⟩
/-- the contract of a constructor: its object's cells are told by a property -/
def zMetC (l : Launch) (G : zC) (y : MethodName) (w : List Cond) (rm : Room) (av : List Value) (ws : va_W) (W1 : va_W → Prop) : Prop :=
  ∀ sz : Nat, Met l y w rm (zPreA G av sz ws) (zQE G (va_A ws sz) none W1) rm.cells rm.slots (va_A ws sz)
section ZCo
variable {p : Program} {l : Launch} {e : Env} {R : Room} {s : State} {m : MethodId} {args : Array Value} {below : List Frame} {meth : Method} {c : Code} {H : Heap} {locs : List Loc} {cells slots : Nat} {Q : State → Prop}
variable {cc bytes : ByteArray} {pc nL n index maxL : Nat} {ls : Array Slot} {As rest st0 : List Value} {G : zC} {A : Nat → Prop} {ws wc wr w1 ws' : va_W} {y : MethodName} {w Ts : List Cond} {rm : Room} {rv : Option Value} {ret : Option FieldType} {own C host E : String} {a b : Nat} {W1 : va_W → Prop}
theorem zMetC_of {av : List Value} {w' : List Cond} (hy : plainName y.cls = true) (hw : w = Cond.code y cc maxL ret :: w') (hlen : (lg_sl av).length ≤ maxL)
    (body : ∀ (p : Program) (e : Env) (s : State) (m : MethodId) (below : List Frame) (meth : Method) (c : Code) (A : Nat → Prop) (ls : Array Slot), p.tables.exec = Jvm.exec → c.code = cc → meth.sig.returnType = ret → c.maxLocals = maxL → s.vm.findClass y.cls = some m.cls → (∀ q ∈ w, q.before av.toArray s = true) → va_K G.1 vwCl (zT G) s → (∀ q, s.heap.size ≤ q → A q) → zE A s s.heap → zAo s → meth.locks = false → meth.name = y.name → zM G A s s.heap [] ws → lv_has ls maxL (lv_args 0 av) →
      W p l e rm s m av.toArray below meth c s.heap [] 0 0 (zEndE G below av.toArray s rm A none W1) (F0 m 0 ls [])) : zMetC l G y w rm av ws W1 := by
  intro sz
  refine Met.ofW (cc := cc) (maxL := maxL) (ret := ret) hy hw ?_
  intro p e s m args below meth c s₁ B hml hv
  obtain ⟨rfl, hsz, hP, hK, hD0, hE, hAo⟩ := hv
  subst hsz
  have hl := lv_entry av (n := maxL) hlen
  rw [lg_entry_eq]
  exact body p e s m below meth c (va_A ws s.heap.size) _ B.exec B.bytes B.returns hml (findClass_of_methodNamed B.named) (atoms_spec (ws := w) B.pre) hK (fun q h => Or.inr h) hE hAo B.notSynchronized (name_of_methodNamed B.named B.method).1 ⟨hP, hD0.self, va_S.rf⟩ hl
theorem z_callIC (S : CallFix p m c cc nL s args Ts own) (hMet : zMetC l G y w rm (.ref b :: As) wc W1) (cw : CallB R s args own index y bytes maxL none w rm rm.cells rm.slots n ∧ y.name = "<init>" ∧ (Cond.instanceMethod y).before args s = true) (hn : As.length = n) (hsize : ls.size = nL) (hst : st0 = As.reverse ++ .ref b :: rest) (hW : (rest.map fun v => v.category).sum ≤ 8) (hdg : decode cc pc = .ok (.invokespecial index, 3)) (hf : cells + rm.cells ≤ R.cells ∧ slots + rm.slots ≤ R.slots)
    (hK : va_K G.1 vwCl (zT G) s) (hE : zE A s s.heap) (hAo : zAo s) (hA : ∀ q, s.heap.size ≤ q → A q) (hM : zM G A s H locs ws) (hp : ws.Perm (wc ++ wr))
    (kk : ∀ (w1 : va_W) (H1 : Heap) (locs1 : List Loc), W1 w1 → zM G A s H1 locs1 (w1 ++ wr) → W p l e R s m args below meth c H1 locs1 (cells + rm.cells) (slots + rm.slots) Q (F0 m (pc + 3) ls rest)) : W p l e R s m args below meth c H locs cells slots Q (F0 m pc ls st0) := by
  subst hst
  refine z_callE (rv := none) (va_runI S (hMet H.size) cw ⟨zPreA_blind _ _ _ _, fun U hU hW9 => ?_⟩ rfl hn hsize rfl (lv_room hW) hdg hf) hA hM hp kk
  obtain ⟨q0, q1, qP, qK, qD, qE⟩ := z_pre (av := .ref b :: As) hK hE hM hA hp U hU hW9
  exact ⟨q0, q1, qP, qK, qD, qE, zAo_moved hW9.alike hAo⟩
theorem z_newq {t0 : Nat} (hexec : p.tables.exec = Jvm.exec) (hb : c.code = cc) (hown : s.vm.findClass own = some m.cls) (hclink : (Cond.classLink own index C).before args s = true) (hover : va_AO C s) (hK : va_K G.1 vwCl (zT G) s) (hM : zM G A s H locs ws) (hA : ∀ q, s.heap.size ≤ q → A q) (ht : (zT G)[t0]? = some (G.2 t0, .object C))
    {n9 : Int32} {N' : Nat} (hn : ¬ n9 < 0) (hN : n9.toNatClampNeg = N') (hbytes : N' * 4 ≤ 536870912) (hcells : cells + 1 ≤ R.cells) (hslots : slots + N' ≤ R.slots) (hdg : decode cc pc = .ok (.anewarray index, 3))
    (kk : ∀ (q : Nat) (H1 : Heap), zM G A s H1 locs (ws ++ [(q, .inl (G.2 t0, N', .inr (.inr (.inr (.inr (fun _ => none))))))]) → W p l e R s m args below meth c H1 locs (cells + 1) (slots + N') Q (F0 m (pc + 3) ls (.ref q :: rest))) : W p l e R s m args below meth c H locs cells slots Q (F0 m pc ls (.int n9 :: rest)) := by
  refine va_newq hexec hb hown hclink hover hK hM.1 hM.2.1 hM.2.2 hA hn hN hbytes hcells hslots hdg (fun q cA H1 hK1 h1 h2 h3 => ?_)
  obtain ⟨_, _, _, _, _, f1⟩ := (hK.2 t0 _ ht).2
  obtain ⟨_, _, _, _, _, f2⟩ := (hK1.2 6 (cA, .object C) rfl).2
  have hc : cA = G.2 t0 := Option.some.inj (f2.symm.trans f1)
  subst hc
  exact kk q H1 ⟨h1, h2, h3⟩
theorem z_aast (hexec : p.tables.exec = Jvm.exec) (hb : c.code = cc) (hK : va_K G.1 vwCl (zT G) s) (hM : zM G A s H locs ws) (q0 t0 qk ci : Nat) {r : vw_C} {n9 v : Nat} {vs : List Value} {f : Nat → Option Nat} (ha : ws[q0]? = some (a, .inl (G.2 t0, n9, .inr (.inr (.inr (.inr f)))))) (ht : (zT G)[t0]? = some (G.2 t0, .object r.1)) (hv : ws[qk]? = some (v, .inr (ci, vs))) (hc : vwCl[ci]? = some r) {i : Int32} (hin : vp_in i n9) (hdg : decode cc pc = .ok (.aastore, 1))
    (hw : ws.set q0 (a, .inl (G.2 t0, n9, .inr (.inr (.inr (.inr (va_up f i.toNatClampNeg (some v))))))) = ws') (kk : ∀ (H1 : Heap) (locs1 : List Loc), zM G A s H1 locs1 ws' → W p l e R s m args below meth c H1 locs1 cells slots Q (F0 m (pc + 1) ls rest)) : W p l e R s m args below meth c H locs cells slots Q (F0 m pc ls (.ref v :: .int i :: .ref a :: rest)) :=
  va_astq hexec hb hK hM.1 hM.2.1 hM.2.2 q0 t0 qk ci ha ht hv hc hin hdg (fun H1 locs1 h1 h2 h3 => kk H1 locs1 (hw ▸ ⟨h1, h2, h3⟩))
end ZCo
theorem zSame_ref {q cA n : Nat} {f g : Nat → Option Nat} (h : ∀ i, i < n → f i = g i) : zSame (q, .inl (cA, n, .inr (.inr (.inr (.inr f))))) (q, .inl (cA, n, .inr (.inr (.inr (.inr g))))) := ⟨rfl, fun D H h9 => by
  show H[q]? = some (vp_cell cA (n, .inr (.inr (.inr (.inr g)))))
  have e : vp_cell cA (n, .inr (.inr (.inr (.inr f)))) = vp_cell cA (n, .inr (.inr (.inr (.inr g)))) := by
    rw [vp_cell_q, vp_cell_q]
    unfold arrV
    congr 1
    apply Array.ext
    · simp
    · intro j h1 h2
      simp only [Array.getElem_ofFn]
      rw [h j (by simpa using h1)]
  rw [← e]
  exact h9⟩
/-- so many of a row of references -/
def zRf (n : Nat) (f : Nat → Nat) : Nat → Option Nat := fun p => if p < n then some (f p) else none
theorem zRf_0 (f : Nat → Nat) : zRf 0 f = fun _ => none := by
  funext p
  exact if_neg (Nat.not_lt_zero p)
theorem zRf_s {n : Nat} {f : Nat → Nat} {v : Nat} : va_up (zRf n f) n (some v) = zRf (n + 1) (va_up f n v) := by
  funext p
  unfold zRf
  by_cases e : p = n
  · subst e
    rw [va_ups, if_pos (by omega), va_ups]
  · rw [va_upn _ _ e, va_upn _ _ e]
    by_cases h : p < n
    · rw [if_pos h, if_pos (by omega)]
    · rw [if_neg h, if_neg (by omega)]
theorem fm_s (n : Nat) (F : Nat → va_W) : fm (n + 1) F = fm n F ++ F n := by
  show ((List.range (n + 1)).map F).flatten = ((List.range n).map F).flatten ++ F n
  rw [List.range_succ, List.map_append, List.flatten_append]
  simp
theorem fm_c {n : Nat} {F F' : Nat → va_W} (h : ∀ j, j < n → F j = F' j) : fm n F = fm n F' := by
  show ((List.range n).map F).flatten = ((List.range n).map F').flatten
  congr 1
  exact List.map_congr_left (fun j hj => h j (List.mem_range.mp hj))
theorem fm_n {n : Nat} {F F' : Nat → va_W} (h : ∀ j, j < n → F j = F' j) : fm (n + 1) F' = fm n F ++ F' n := by
  rw [fm_s, fm_c h]
theorem bds_fm {G : zC} {B : Nat → zBA} {b : Nat → Nat → Int32} : fm 4 (fun p => bdW G (B p) (b p)) = bdsW G B b := by
  show bdW G (B 0) (b 0) ++ (bdW G (B 1) (b 1) ++ (bdW G (B 2) (b 2) ++ (bdW G (B 3) (b 3) ++ []))) = _
  rw [List.append_nil]
def zZZ : Nat → Nat → Int32 := fun _ _ => 0
