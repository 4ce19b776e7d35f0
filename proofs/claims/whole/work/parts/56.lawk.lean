/-! THE CLAIM OUT OF ONE WALK OF THE LAW'S BODY. Your part is whole_start (and what it stands on); all else here is the same for every law, but numbers. -/
def R_law : String := "ShiftIslesLaw"
def lw_P (b : Addr) (xs : List Int32) (args : Array Value) (s : State) : Prop := args = #[.ref b] ∧ s.IntsAt b xs ∧ xs.length ≤ 2560 ∧ (Jvm.Cond.and given_1 narrow_1).before args s = true
def lw_Q (_ : Array Value) (s : State) (o : Outcome) (t : State) : Prop := o = .returned (some (.int 1)) ∧ Framed s o t [] 601024 7293033
def lw_Z (below : List Frame) (a : Array Value) (s : State) : State → Prop := fun t => ∃ o, t.status = .running ∧ Ended t below o ∧ lw_Q a s o t
/-- the law's own end, with 1 on the stack, nothing written that was there before, its room as the claim has it -/
theorem lw_ret {p : Program} {l : Launch} {e : Env} {s : State} {m : MethodId} {below : List Frame} {meth : Method} {c : Code} {b : Nat} (hx : p.tables.exec = Jvm.exec) (hb : c.code = code) (hr : meth.sig.returnType = ret) (hlocks : meth.locks = false) {pc : Nat} {H : Heap} {ls : Array Slot} (hdg : decode code pc = .ok (.ireturn, 1)) : W p l e room_1 s m #[Value.ref b] below meth c H [] 601024 7293033 (lw_Z below #[Value.ref b] s) (F0 m pc ls [.int 1]) := by
  intro T hT X
  obtain ⟨fs, hret, hrun, hended, hW, hframe⟩ := X.leave (v := some (.int 1)) (hlocks := hlocks) (fun h => by rw [hr] at h; cases h)
  have hmeth' : T.vm.method? m = some meth := X.method'
  refine ⟨T.setFrames fs, ?_, .returned (some (.int 1)), hrun, hended, rfl, ⟨_, rfl⟩, hW, hframe⟩
  jvm_step X.here [X.here.top, hx, hb, hdg, hmeth', hr, ret, narrow_b1]
  (try refine ⟨rfl, ?_⟩); (try refine ⟨rfl, ?_⟩)
  first | (intro acts; rw [hret _ acts rfl rfl rfl]) | rw [hret _ _ rfl rfl rfl]
  exact Steps.refl _
/-- what holds at the law's entry: the machine, the code, the tables' words (any of lw_tbl by 'hts w (by decide +kernel)'), the script of L ints xs at the cell b, what the Statement gives of the start (any of its parts by flat_of_before) -/
def lw_At (p : Program) (s : State) (m : MethodId) (meth : Method) (c : Code) (b L : Nat) (xs : Nat → Int32) : Prop :=
  p.tables.exec = Jvm.exec ∧ c.code = code ∧ meth.sig.returnType = ret ∧ c.maxLocals = 7 ∧ s.vm.findClass R_law = some m.cls ∧ (∀ w ∈ lw_tbl, w.before #[Value.ref b] s = true) ∧ va_X b L xs s s.heap ∧ b < s.heap.size ∧ meth.locks = false ∧ (Jvm.Cond.and given_1 narrow_1).before #[Value.ref b] s = true
section LWK
variable {p : Program} {l : Launch} {e : Env} {s : State} {m : MethodId} {below : List Frame} {meth : Method} {cd : Code} {H : Heap} {locs : List Loc} {cells slots : Nat} {QZ : State → Prop}
variable {bs L i : Nat} {xs : Nat → Int32} {G : zC} {ws ws' wl wr : va_W} {ls : Array Slot} {st : List Value}
/-- the cells that were made since the law's entry -/
def lwA (s : State) : Nat → Prop := fun q => s.heap.size ≤ q
/-- what the law's walk stands on -/
def lwC (p : Program) (l : Launch) (s : State) (m : MethodId) (c : Code) (b L : Nat) (xs : Nat → Int32) (G : zC) : Prop := p.tables.exec = Jvm.exec ∧ c.code = cL_law ∧ c.maxLocals = 7 ∧ s.vm.findClass RL = some m.cls ∧ (∀ w ∈ wsL_law, w.before #[Value.ref b] s = true) ∧ va_X b L xs s s.heap ∧ b < s.heap.size ∧ L ≤ 2560 ∧ va_K G.1 vwCl (zT G) s ∧ zE (lwA s) s s.heap ∧ zNc s ∧ zTh s ∧ l.stackTraces = false
/-- an int of the script -/
theorem lg_arg (C : lwC p l s m cd bs L xs G) (hM : zM G (lwA s) s H locs ws) {P j : Nat} {jz : Int} (hj : Int32.ofInt jz = nI j) (hij : i + j < L) (h0 : ls[0]? = some (.val (.ref bs))) (h4 : ls[4]? = some (.val (.int (nI i)))) (d0 : decode cL_law P = .ok (.aload_n 0, 1)) (d1 : decode cL_law (P + 1) = .ok (.iload 4, 2)) (d3 : decode cL_law (P + 1 + 2) = .ok (.iconst jz, 1)) (d4 : decode cL_law (P + 1 + 2 + 1) = .ok (.iadd, 1)) (d5 : decode cL_law (P + 1 + 2 + 1 + 1) = .ok (.iaload, 1)) (k : W p l e room_1 s m #[Value.ref bs] below meth cd H locs cells slots QZ (F0 m (P + 6) ls (.int (xs (i + j)) :: st))) : W p l e room_1 s m #[Value.ref bs] below meth cd H locs cells slots QZ (F0 m P ls st) := by
  obtain ⟨hx, hb, hml, hown, hts, hX, hbl, hL, hK, hE, hN, hTh, hl0⟩ := C
  have hbA : ¬ lwA s bs := Nat.not_le.mpr hbl
  refine lv_aload_n hx hb d0 rfl h0 ?_
  refine lv_iload hx hb d1 h4 ?_
  refine lv_iconst hx hb d3 hj ?_
  refine lv_iadd hx hb d4 ?_
  rw [nI_add]
  refine va_sld hx hb hX hbl hbA hM.2.2 (vp_in_nI hij (by omega)) d5 ?_
  rw [nI_clamp (by omega)]
  exact k
def lg_J (x y : Int32) : Int64 := (x.toInt64 <<< ((32 : Int32).toInt64 &&& 63)) ||| (y.toInt64 &&& 4294967295)
/-- a long of the script: two of its ints -/
theorem lg_long (C : lwC p l s m cd bs L xs G) (hM : zM G (lwA s) s H locs ws) {P j : Nat} {jz jy : Int} (hj : Int32.ofInt jz = nI j) (hj2 : Int32.ofInt jy = nI (j + 1)) (hij : i + (j + 1) < L) (h0 : ls[0]? = some (.val (.ref bs))) (h4 : ls[4]? = some (.val (.int (nI i)))) (d0 : decode cL_law P = .ok (.aload_n 0, 1)) (d1 : decode cL_law (P + 1) = .ok (.iload 4, 2)) (d3 : decode cL_law (P + 1 + 2) = .ok (.iconst jz, 1)) (d4 : decode cL_law (P + 1 + 2 + 1) = .ok (.iadd, 1)) (d5 : decode cL_law (P + 1 + 2 + 1 + 1) = .ok (.iaload, 1)) (d6 : decode cL_law (P + 6) = .ok (.i2l, 1)) (d7 : decode cL_law (P + 7) = .ok (.bipush 32, 2)) (d9 : decode cL_law (P + 9) = .ok (.lshl, 1))
    (f0 : decode cL_law (P + 10) = .ok (.aload_n 0, 1)) (f1 : decode cL_law (P + 10 + 1) = .ok (.iload 4, 2)) (f3 : decode cL_law (P + 10 + 1 + 2) = .ok (.iconst jy, 1)) (f4 : decode cL_law (P + 10 + 1 + 2 + 1) = .ok (.iadd, 1)) (f5 : decode cL_law (P + 10 + 1 + 2 + 1 + 1) = .ok (.iaload, 1)) (d16 : decode cL_law (P + 16) = .ok (.i2l, 1)) (d17 : decode cL_law (P + 17) = .ok (.ldc2_w 128, 3)) (d20 : decode cL_law (P + 20) = .ok (.land, 1)) (d21 : decode cL_law (P + 21) = .ok (.lor, 1)) (k : W p l e room_1 s m #[Value.ref bs] below meth cd H locs cells slots QZ (F0 m (P + 22) ls (.long (lg_J (xs (i + j)) (xs (i + (j + 1)))) :: st))) : W p l e room_1 s m #[Value.ref bs] below meth cd H locs cells slots QZ (F0 m P ls st) := by
  have C0 := C
  obtain ⟨hx, hb, hml, hown, hts, hX, hbl, hL, hK, hE, hN, hTh, hl0⟩ := C
  refine lg_arg C0 hM hj (by omega) h0 h4 d0 d1 d3 d4 d5 ?_
  refine lv_i2l hx hb d6 rfl ?_
  refine lv_bipush (v := 32) hx hb d7 (by decide) ?_
  refine lv_lshl hx hb d9 rfl ?_
  refine lg_arg (P := P + 10) C0 hM hj2 hij h0 h4 f0 f1 f3 f4 f5 ?_
  refine lv_i2l hx hb d16 rfl ?_
  refine lv_ldc2 (v := 4294967295) hx hb hown (hts (.constantLong RL 128 4294967295) (by decide +kernel)) d17 ?_
  refine lv_land hx hb d20 ?_
  refine lv_lor hx hb d21 ?_
  exact k
/-- the class's call: a method with handlers -/
theorem lw_call1 (C : lwC p l s m cd bs L xs G) {pc n index maxL : Nat} {av : List Value} {y : MethodName} {w : List Cond} {bytes : ByteArray} {hh : List (Nat × Nat × Nat × Nat)} {rm : Room} {k : Int32} {w' : va_W} {st0 : List Value} (hM : zM G (lwA s) s H locs (ws ++ wr)) (hC : zCN l G y w rm av ws (some (.int k)) w') (cw : vx_CSW room_1 s #[Value.ref bs] RL index y bytes maxL (some .int) hh w rm rm.cells rm.slots n) (hn : av.length = n) (hsize : ls.size = 7) (hst : st0 = av.reverse ++ []) (hdg : decode cL_law pc = .ok (.invokestatic index, 3)) (hf : cells + rm.cells ≤ room_1.cells ∧ slots + rm.slots ≤ room_1.slots) (kk : ∀ (H1 : Heap) (locs1 : List Loc), zM G (lwA s) s H1 locs1 (w' ++ wr) → W p l e room_1 s m #[Value.ref bs] below meth cd H1 locs1 (cells + rm.cells) (slots + rm.slots) QZ (F0 m (pc + 3) ls [.int k])) : W p l e room_1 s m #[Value.ref bs] below meth cd H locs cells slots QZ (F0 m pc ls st0) := by
  obtain ⟨hx, hb, hml, hown, hts, hX, hbl, hL, hK, hE, hN, hTh, hl0⟩ := C
  obtain ⟨wc, wr0, w1, w2, hMet, hp, hq, hs⟩ := hC
  refine z_callN (rest := []) (wr := wr0 ++ wr) (ws' := w2 ++ wr) ⟨hx, hb, hml, hown, hts⟩ hMet cw hn hsize hst (Nat.le_of_ble_eq_true rfl) hdg hf hK hE hN hTh (fun q h => h) hM ?_ ?_ (fun H1 locs1 hM1 _ => kk H1 locs1 (zM_sim (zSim_app hs (zSim_rf wr)) hM1))
  · rw [← List.append_assoc]
    exact List.Perm.append_right wr hp
  · rw [← List.append_assoc]
    exact List.Perm.append_right wr hq
/-- a call of an object's method, told over a part of the world -/
theorem lw_call2 (C : lwC p l s m cd bs L xs G) {pc n index maxL ci q0 : Nat} {As rest : List Value} {CN : String} {y : MethodName} {w : List Cond} {bytes : ByteArray} {ret9 : Option FieldType} {rm : Room} {v : Value} {w' : va_W} {st0 fs : List Value} {cq : vw_C} (hM : zM G (lwA s) s H locs (wl ++ ws)) (hR : zCR l G y w rm (.ref q0 :: As) ws (some v) w') (hq0 : (q0, .inr (ci, fs)) ∈ ws) (hcl : vwCl[ci]? = some cq) (hcC : cq.1 = CN) (cw : CallW room_1 s #[Value.ref bs] RL CN index y bytes maxL ret9 w rm rm.cells rm.slots n) (hn : As.length = n) (hsize : ls.size = 7) (hst : st0 = As.reverse ++ .ref q0 :: rest) (hW : (rest.map fun v => v.category).sum ≤ 8) (hdg : decode cL_law pc = .ok (.invokevirtual index, 3)) (hf : cells + rm.cells ≤ room_1.cells ∧ slots + rm.slots ≤ room_1.slots) (kk : ∀ (H1 : Heap) (locs1 : List Loc), zM G (lwA s) s H1 locs1 (wl ++ w') → W p l e room_1 s m #[Value.ref bs] below meth cd H1 locs1 (cells + rm.cells) (slots + rm.slots) QZ (F0 m (pc + 3) ls (v :: rest))) : W p l e room_1 s m #[Value.ref bs] below meth cd H locs cells slots QZ (F0 m pc ls st0) := by
  obtain ⟨hx, hb, hml, hown, hts, hX, hbl, hL, hK, hE, hN, hTh, hl0⟩ := C
  subst hst
  subst hcC
  obtain ⟨wc, wr0, w1, w2, w3, hs0, hMet, hp, hq, hs⟩ := hR
  obtain ⟨i9, hi9⟩ := List.getElem?_of_mem (List.mem_append_right wl hq0)
  have hM3 := zM_sim (zSim_app (zSim_rf wl) hs0) hM
  have hp3 : (wl ++ w3).Perm (wc ++ (wl ++ wr0)) := (List.Perm.append_left wl hp).trans (List.perm_append_comm_assoc wl wc wr0)
  have hq3 : (w1 ++ (wl ++ wr0)).Perm (wl ++ w2) := (List.perm_append_comm_assoc w1 wl wr0).trans (List.Perm.append_left wl hq)
  exact z_call (rv := some v) (va_runV ⟨hx, hb, hml, hown, hts⟩ (hMet H.size) cw ⟨zPre_blind _ _ _ _, va_recv hK hM.1 hcl hi9, z_pre hK hE hM3 (fun q h => h) hp3⟩ rfl hn hsize rfl (lv_room hW) hdg hf) (fun q h => h) hM3 hp3 hq3 (fun H1 locs1 hM1 _ => kk H1 locs1 (zM_sim (zSim_app (zSim_rf wl) hs) hM1))
theorem zCM_CR {y : MethodName} {w : List Cond} {rm : Room} {av : List Value} {rv : Option Value} (h : zCM l G y w rm av ws rv ws') : zCR l G y w rm av ws rv ws' := by
  obtain ⟨wc, wr0, w1, w2, hMet, hp, hq, hs⟩ := h
  exact ⟨wc, wr0, w1, w2, ws, zSim_rf ws, hMet, hp, hq, hs⟩
end LWK
