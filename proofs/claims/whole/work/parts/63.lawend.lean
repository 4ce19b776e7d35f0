/-! the law, from its entry -/
theorem lw_pm (M A1 F2 MM RU TA AA TX OA : va_W) : ((M ++ ((A1 ++ (F2 ++ (MM ++ (RU ++ (TA ++ (AA ++ TX)))))) ++ [])) ++ OA).Perm ((OA ++ (A1 ++ (TX ++ (F2 ++ (MM ++ (RU ++ (TA ++ AA))))))) ++ M) := by
  rw [List.append_nil]
  refine List.perm_append_comm.trans ?_
  rw [List.append_assoc OA]
  refine List.Perm.append_left OA ?_
  refine List.perm_append_comm.trans (List.Perm.append_right M ?_)
  refine List.Perm.append_left A1 ?_
  have e : F2 ++ (MM ++ (RU ++ (TA ++ (AA ++ TX)))) = (F2 ++ (MM ++ (RU ++ (TA ++ AA)))) ++ TX := by simp only [List.append_assoc]
  rw [e]
  exact List.perm_append_comm
theorem lw_J0 : zJok 0 (fun _ => 0) zClH zZZ zClH zZZ (0, 0, 0, 0, fun _ => 0) 0 0 0 (fun _ => zClH) (fun _ => zZZ) (fun _ => zClH) (fun _ => zZZ) (fun _ => 0) zZZ (fun _ => 0) (fun _ => 0) (fun _ => 0) (fun _ => 0) 0 0 0 0 0 0 := ⟨fun i hi => ⟨0, by decide, nI_0.symm⟩, Nat.zero_le 120, ⟨Nat.zero_le 14, by decide, fun i _ => zGs_hz zCl_gs, fun i hi => absurd hi (Nat.not_lt_zero i)⟩, fun j hj => ⟨zGs_hz zCl_gs, fun z => absurd rfl z⟩, 0, 0, 4, 0, zCl_gs, fun p hp => absurd hp (Nat.not_lt_zero p)⟩
set_option maxHeartbeats 4000000 in
set_option maxRecDepth 100000 in
theorem whole_start {p : Program} {e : Env} {s : State} {m : MethodId} {below : List Frame} {meth : Method} {c : Code} (l : Launch) (hflags : l.flags = flags0) {b L : Nat} {xs : Nat → Int32} (hL : L ≤ 2560) (C0 : lw_At p s m meth c b L xs) : W p l e room_1 s m #[Value.ref b] below meth c s.heap [] 0 0 (lw_Z below #[Value.ref b] s) (entryFrame m ([Value.ref b] : List Value).toArray 7) := by
  obtain ⟨hx, hb, hr, hml, hown, hts, hX, hbl, hlocks, hgv⟩ := id C0
  have hown : s.vm.findClass RL = some m.cls := hown
  have hl0 : l.stackTraces = false := by
    unfold Launch.stackTraces
    rw [hflags]
    decide +kernel
  have hf := flat_of_before _ hgv
  obtain ⟨G, hK⟩ := lw_known hts
  have hE := lw_zE hts hf
  have hAo := lw_zAo hts
  have hts1 : ∀ w ∈ wsL_law, w.before #[Value.ref b] s = true := fun w h => hts w (wsL_law_in w h)
  have C : lwC p l s m c b L xs G := ⟨hx, hb, hml, hown, hts1, hX, hbl, hL, hK, hE, lw_zNc hf, lw_zTh hts, hl0⟩
  have hA : ∀ q, s.heap.size ≤ q → lwA s q := fun q h => h
  have hM : zM G (lwA s) s s.heap [] [] := ⟨fun k q h => by simp at h, ⟨fun i j p q h => by simp at h, fun k q h => by simp at h⟩, va_S.rf⟩
  have hl := lv_entry ([.ref b]) (n := 7) (Nat.le_of_ble_eq_true rfl)
  rw [lg_entry_eq]
  generalize (lg_sl ([.ref b]) ++ List.replicate (7 - (lg_sl ([.ref b])).length) Slot.unset).toArray = ls at hl ⊢
  have hl : lv_has ls 7 [(0, .ref b)] := hl
  refine z_new (ci := 6) (fs := [.null, .null, .null, .null, .null, .null, .null, .null]) (C := RX6) (T := TX6) (N := 8) hx hb hts1 inlX6 tyX6 tyX6_ok hown (hts1 (.classLink RL 8 RX6) (by decide +kernel)) (hts1 (.instantiable RX6 8) (by decide +kernel)) (hts1 (.initialized RX6) (by decide +kernel)) hK hM hA rfl (by intro j9 hj9; have h9 : j9 = 0 ∨ j9 = 1 ∨ j9 = 2 ∨ j9 = 3 ∨ j9 = 4 ∨ j9 = 5 ∨ j9 = 6 ∨ j9 = 7 := (by omega); rcases h9 with rfl | rfl | rfl | rfl | rfl | rfl | rfl | rfl <;> rfl) (Nat.le_of_ble_eq_true rfl) (Nat.le_of_ble_eq_true rfl) dL_law_0 (fun o9 H hM => ?_)
  have hM : zM G (lwA s) s H [] [(o9, .inr (6, [.null, .null, .null, .null, .null, .null, .null, .null]))] := hM
  refine lv_dup hx hb dL_law_3 rfl ?_
  refine z_callIC (As := []) (rest := [.ref o9]) (wc := [(o9, .inr (6, [.null, .null, .null, .null, .null, .null, .null, .null]))]) (wr := []) ⟨hx, hb, hml, hown, hts1⟩ (c_i_isles l G o9) (cwI 0 hts1 gL_law_X6_init rfl rfl rfl (hts1 (.initialized RX6) (by decide +kernel)) (hts1 (.methodLink RL 89 yX6_init) (by decide +kernel)) (hts1 (.instanceMethod yX6_init) (by decide +kernel)) rfl (by decide +kernel) ⟨Nat.le_of_ble_eq_true rfl, Nat.le_of_ble_eq_true rfl⟩) rfl hl.1 rfl (Nat.le_of_ble_eq_true rfl) dL_law_4 ⟨Nat.le_of_ble_eq_true rfl, Nat.le_of_ble_eq_true rfl⟩ hK hE hAo hA hM (pm_self _) (fun w1 H locs hW1 hM => ?_)
  obtain ⟨t9, z9, d9, s9, b9, r9, mq, mz, sa, ga, sg, ta, a, rfl⟩ := hW1
  refine W.widen (k := 355) (n := 2690) (Nat.le_refl _) (Nat.le_refl _) ?_
  refine lv_astore_n (lv' := [(1, .ref o9), (0, .ref b)]) hx hb dL_law_7 rfl hl (by decide) rfl (fun ls hl => ?_)
  refine z_new (ci := 7) (fs := [.int 0, .null, .int 0, .null, .null, .null, .null, .int 0, .null, .null, .int 0, .int 0, .int 0, .long 0, .int 0, .int 0]) (C := RX7) (T := TX7) (N := 16) hx hb hts1 inlX7 tyX7 tyX7_ok hown (hts1 (.classLink RL 90 RX7) (by decide +kernel)) (hts1 (.instantiable RX7 16) (by decide +kernel)) (hts1 (.initialized RX7) (by decide +kernel)) hK hM hA rfl (by intro j9 hj9; have h9 : j9 = 0 ∨ j9 = 1 ∨ j9 = 2 ∨ j9 = 3 ∨ j9 = 4 ∨ j9 = 5 ∨ j9 = 6 ∨ j9 = 7 ∨ j9 = 8 ∨ j9 = 9 ∨ j9 = 10 ∨ j9 = 11 ∨ j9 = 12 ∨ j9 = 13 ∨ j9 = 14 ∨ j9 = 15 := (by omega); rcases h9 with rfl | rfl | rfl | rfl | rfl | rfl | rfl | rfl | rfl | rfl | rfl | rfl | rfl | rfl | rfl | rfl <;> rfl) (Nat.le_of_ble_eq_true rfl) (Nat.le_of_ble_eq_true rfl) dL_law_8 (fun q H hM => ?_)
  refine W.widen (k := 356) (n := 2706) (Nat.le_refl _) (Nat.le_refl _) ?_
  refine lv_dup hx hb dL_law_11 rfl ?_
  refine z_callIC (As := []) (rest := [.ref q]) (wc := [(q, .inr (7, [.int 0, .null, .int 0, .null, .null, .null, .null, .int 0, .null, .null, .int 0, .int 0, .int 0, .long 0, .int 0, .int 0]))]) (wr := ([(o9, .inr (6, [.ref t9, .ref a.1, .ref ta.1, .ref r9, .ref d9, .ref mq, .ref s9, .ref b9])), (d9, .inr (1, [.long 0])), (s9, .inl (G.2 4, 2, .inr (.inr (.inr (.inr (fun i => some (sg i).1)))))), (b9, .inl (G.2 2, 2, .inl (fun _ => 0)))] ++ (fm 2 (gsF G sg (fun _ => zClH) (fun _ => zZZ)) ++ (mmW G mq mz ga 0 0 (fun _ => zClH) (fun _ => zZZ) ++ (ruW G r9 sa (0, 0, 0, 0, fun _ => 0) ++ (gmW G ta zClH zZZ ++ (gmW G a zClH zZZ ++ txW G t9 z9 0 (fun _ => 0))))))) ++ []) ⟨hx, hb, hml, hown, hts1⟩ (c_i_model l G q) (cwI 0 hts1 gL_law_X7_init rfl rfl rfl (hts1 (.initialized RX7) (by decide +kernel)) (hts1 (.methodLink RL 92 yX7_init) (by decide +kernel)) (hts1 (.instanceMethod yX7_init) (by decide +kernel)) rfl (by decide +kernel) ⟨Nat.le_of_ble_eq_true rfl, Nat.le_of_ble_eq_true rfl⟩) rfl hl.1 rfl (Nat.le_of_ble_eq_true rfl) dL_law_12 ⟨Nat.le_of_ble_eq_true rfl, Nat.le_of_ble_eq_true rfl⟩ hK hE hAo hA hM List.perm_append_comm (fun w1 H locs hW1 hM => ?_)
  obtain ⟨y1, y3, y4, y5, y6, y8, y9, rfl⟩ := hW1
  refine W.widen (k := 363) (n := 5127) (Nat.le_refl _) (Nat.le_refl _) ?_
  refine lv_astore_n (lv' := [(2, .ref q), (1, .ref o9), (0, .ref b)]) hx hb dL_law_15 rfl hl (by decide) rfl (fun ls hl => ?_)
  refine lv_iconst (v := 1) hx hb dL_law_16 (by decide) ?_
  refine z_newa (t0 := 5) (atype := .long) (N' := 1) (a0 := (1, .inr (.inl (fun _ => 0)))) hx hb (hts1 (.arrayClass .long) (by decide +kernel)) rfl rfl hK hM hA rfl (fun cA => rfl) (by decide) rfl (Nat.le_of_ble_eq_true rfl) (Nat.le_of_ble_eq_true rfl) (Nat.le_of_ble_eq_true rfl) dL_law_17 (fun oa H hM => ?_)
  refine W.widen (k := 364) (n := 5128) (Nat.le_refl _) (Nat.le_refl _) ?_
  refine lv_astore_n (lv' := [(3, .ref oa), (2, .ref q), (1, .ref o9), (0, .ref b)]) hx hb dL_law_19 rfl hl (by decide) rfl (fun ls hl => ?_)
  refine lv_iconst (v := nI 0) hx hb dL_law_20 (by decide) ?_
  refine lv_istore (lv' := [(4, .int (nI 0)), (3, .ref oa), (2, .ref q), (1, .ref o9), (0, .ref b)]) hx hb dL_law_21 hl (by decide) rfl (fun ls hl => ?_)
  have hM : zM G (lwA s) s H locs (zWC G oa o9 t9 z9 d9 s9 b9 r9 mq mz sa a ta ga sg q y1 y3 y4 y5 y6 y8 y9 (fun _ => 0) 0 (fun _ => 0) zClH zZZ zClH zZZ (0, 0, 0, 0, fun _ => 0) 0 0 0 (fun _ => zClH) (fun _ => zZZ) (fun _ => zClH) (fun _ => zZZ) (fun _ => 0) ++ zWR G oa o9 t9 z9 d9 s9 b9 r9 mq mz sa a ta ga sg q y1 y3 y4 y5 y6 y8 y9 0 0 (fun _ => 0) zClH zZZ zClH zZZ (0, 0, 0, 0, fun _ => 0) 0 0 0 (fun _ => zClH) (fun _ => zZZ) (fun _ => zClH) (fun _ => zZZ) (fun _ => 0) zZZ (fun _ => 0) (fun _ => 0) (fun _ => 0) (fun _ => 0) 0 0 0 0 0 0) := by
    have h9 := zM_perm (lw_pm _ _ _ _ _ _ _ _ _) hM
    exact h9
  refine W.widen (k := 400 + 0) (n := 6000 + 6 * 0) (by decide) (by decide) ?_
  exact lw_loop C hr hlocks oa o9 t9 z9 d9 s9 b9 r9 mq mz sa a ta ga sg q y1 y3 y4 y5 y6 y8 y9 (L + 1) 0 (Nat.zero_le L) (by omega) H locs _ ls ⟨fun _ => 0, 0, 0, (fun _ => 0), zClH, zZZ, zClH, zZZ, (0, 0, 0, 0, fun _ => 0), 0, 0, 0, (fun _ => zClH), (fun _ => zZZ), (fun _ => zClH), (fun _ => zZZ), (fun _ => 0), zZZ, (fun _ => 0), (fun _ => 0), (fun _ => 0), (fun _ => 0), 0, 0, 0, 0, 0, 0, lw_J0, rfl⟩ hM (lv_sub hl [4, 3, 2, 1, 0] rfl)
set_option maxHeartbeats 4000000 in
theorem lw_walk (l : Launch) (hflags : l.flags = flags0) (b : Addr) (xs : List Int32) : MetFree l x (headSpec (Jvm.Cond.code x code maxLocals ret :: tables_1) room_1) (lw_P b xs) (fun _ _ _ _ _ => True) lw_Q := by
  refine MetFree.of_bodyS (code := code) (maxLocals := maxLocals) (ret := ret) (by decide) ?_ ?_
  · intro args s m h hn
    obtain ⟨meth, c, h1, h2, h3, h4, h5, h6, -, -⟩ := Cond.code_spec hn (atoms_spec (ws := Jvm.Cond.code x code maxLocals ret :: tables_1) h _ List.mem_cons_self)
    exact ⟨meth, c, h1, h2, h3, h4, h5, h6⟩
  · intro p e s m args below meth c s₁ B hml0 hP _
    obtain ⟨rfl, hx, hbd, hgv⟩ := hP
    obtain ⟨scr, harrAt, hlist, hof, hsmall⟩ := hx
    obtain ⟨hcb, hkn, -, -⟩ := State.arrayAt?_spec harrAt
    have hown : s.vm.findClass R_law = some m.cls := findClass_of_methodNamed B.named
    have hts0 : ∀ c ∈ (Jvm.Cond.code x code maxLocals ret :: tables_1), c.before #[Value.ref b] s = true := atoms_spec (ws := Jvm.Cond.code x code maxLocals ret :: tables_1) B.pre
    have hts : ∀ w ∈ lw_tbl, w.before #[Value.ref b] s = true := k2_hts_sels lw_privs (fun w hw => hts0 w (List.mem_cons_of_mem _ hw)) lw_privs_ok
    have hml : c.maxLocals = 7 := B.maxLocals_eq (hts0 _ List.mem_cons_self)
    have X₀ : Stand p l e room_1 s m #[Value.ref b] below meth c s₁ [] 0 0 := Stand.of_body B
    have hh0 : s₁.heap = s.heap := by rw [B.state]; rfl
    have hsz : scr.slots.size = xs.length := by rw [← Array.length_toList, hlist, List.length_map]
    have hval : ∀ j : Nat, j < xs.length → scr.slots[j]? = some (.int (xs.getD j 0)) := fun j hj => by
      rw [← Array.getElem?_toList, hlist]
      simp [hj]
    have hbl : b < s.heap.size := (Array.getElem?_eq_some_iff.mp hcb).1
    have hX : va_X b xs.length (fun j => xs.getD j 0) s s.heap := ⟨scr, hcb, hof, hkn, hsz, hval⟩
    have K : W p l e room_1 s m #[Value.ref b] below meth c s₁.heap [] 0 0 (lw_Z below #[Value.ref b] s) (entryFrame m ([Value.ref b] : List Value).toArray 7) := by
      rw [hh0]
      exact whole_start l hflags hbd ⟨B.exec, B.bytes, B.returns, hml, hown, hts, hX, hbl, B.notSynchronized, hgv⟩
    obtain ⟨t, a1, o, b1, b2, b3⟩ := K s₁ rfl X₀
    exact ⟨t, o, a1, b1, b2, b3⟩
theorem lw_pre_spec {args : Array Value} {s : State} (h : (Jvm.Cond.and given_1 narrow_1).before args s = true) (hr : rest_1_c.before args s = true) : ∃ (b : Addr) (xs : List Int32), lw_P b xs args s := by
  have hs := flat_of_before _ h
  have hq := flat_of_before _ hr
  have hc : (Cond.count 1).before args s = true := hs _ (by decide +kernel)
  have harr : (Cond.arrayOf (.arg 0) .int).before args s = true := hs _ (by decide +kernel)
  have hle : (Cond.le (.length (.arg 0)) (.int 2560)).before args s = true := hs _ (by decide +kernel)
  have hlen : (Cond.isInt (.length (.arg 0))).before args s = true := hq _ (by decide +kernel)
  have hall : (Cond.all (.arg 0) (.isInt (.elem (.arg 0) (.index 0)))).before args s = true := hq _ (by decide +kernel)
  obtain ⟨b, xs, hb, hx⟩ := State.ints_of_pre rfl harr hlen hall
  have hsm : xs.length < 2 ^ 31 := hx.choose_spec.2.2.2
  have hev : (Term.length (.arg 0)).eval args s none [] s = some (.int xs.length.toInt32) := hx.length_eval hb
  have hv := Cond.le_ints hev (show (Term.int 2560).eval args s none [] s = some (.int 2560) from rfl)
  have hd : xs.length.toInt32 ≤ 2560 := by
    simpa [Cond.before, Cond.holds, hv] using hle
  have hN : xs.length ≤ 2560 := (Int32.ofNat_le_ofNat hsm (by decide)).mp (show Int32.ofNat xs.length ≤ Int32.ofNat 2560 from hd)
  exact ⟨b, xs, Cond.one_arg hc (show args[0]? = some (.ref b) from hb), hx, hN, h⟩
theorem lw_comes (l : Launch) (hflags : l.flags = flags0) : Comes l x (Jvm.Cond.code x code maxLocals ret :: tables_1) room_1 (fun tb e args s => Calls_1 tb e args s ∧ rest_1 tb e args s ∧ Pre_1 tb e args s)
    (fun _ _ args s o t => lw_Q args s o t) := by
  intro p e ha hc hk s m args below hf hfit hheap happ hpre
  obtain ⟨b, xs, hP⟩ := lw_pre_spec hpre.2.2 hpre.2.1
  obtain ⟨k, o, h1, h2, h3, hQ⟩ := lw_walk l hflags b xs p e ha hc hk s m args below hf ((Spec.applies_iff_loose hf).mp happ).1 hP trivial
  exact ⟨k, o, h1, h2, h3, hQ⟩
theorem lw_frame {s t : State} {o : Outcome} {args : Array Value} (h : Framed s o t [] 601024 7293033) :
    Framed s o t (fieldLocs frame_1_writes args s ++ arrayLocs frame_1_arrays args s ++ staticLocs frame_1_statics s) 601024 7293033 := h
theorem lw_limb (L : Cond) (hL : ∀ (args : Array Value) (s t : State), L.after args s (.returned (some (.int 1))) t = true) :
    ArmFor flags0 classFile x code maxLocals ret World_1 tables_1 room_1 Calls_1 rest_1 Pre_1
      (fun tb e a s o t => postC L tb e a s o t ∧ Framed s o t (fieldLocs frame_1_writes a s ++ arrayLocs frame_1_arrays a s ++ staticLocs frame_1_statics s) 601024 7293033) := by
  intro l hflags _ _ p e ha hc hk s m args below hf hfit hheap happ hpre
  obtain ⟨k, o, h1, h2, h3, rfl, hF⟩ := lw_comes l hflags p e ha hc hk s m args below hf hfit hheap happ hpre
  exact ⟨k, _, h1, h2, h3, hL args s _, lw_frame hF⟩
theorem i_vc : Claimed_1_1 ∧ Claimed_1_2 := ⟨lw_limb limb_1_1 (fun args s t => by simp [limb_1_1, Cond.after, Cond.holds, Cond.value]), lw_limb limb_1_2 (fun args s t => Cond.after_iff.mpr (by
  first | (rw [show limb_1_2 = Cond.eq .result (.int 1) from rfl, Cond.eq_ints (x := 1) (y := 1) rfl rfl]; simp; done) | (simp [limb_1_2, Cond.value, Term.eval]; done)))⟩
